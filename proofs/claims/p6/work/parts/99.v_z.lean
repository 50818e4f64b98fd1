def Z (n : Nat) (σ : gI) (_ : gJ) : Prop := IC σ ∧ ZN σ (1000 * (n : Int))
theorem ic_fr {σ σ1 : gI} (h : IC σ) (f : ∀ c k : Nat, c < 199 → σ1 c k = σ c k) : IC σ1 := by
  unfold IC at h ⊢
  rw [f 9 6 (by omega), f 17 9 (by omega), f 17 10 (by omega), f 21 9 (by omega), f 21 10 (by omega)]
  exact h
theorem zn_k0 {σ σ1 : gI} {B : Int} (h : ZN σ B) (k : K0 σ σ1) : ZN σ1 B := by
  obtain ⟨g, h⟩ := h
  exact ⟨g, zm_fr h (fun c j hh => k.1 c j (by omega))⟩
theorem lq_c {α β : Type} {n : Nat} {σ : gI} {Q : α → β → Prop} {x : Option (α × gI × gJ)} {y : gI → gJ → Option (β × gI × gJ)} {P : α → gI → gJ → Prop} (hx : okp P x) (hk : ∀ a σ1 τ1, P a σ1 τ1 → K0 σ σ1) (hI : IC σ) (hz : ZN σ (1000 * (n : Int))) (hy : ∀ a σ1 τ1, x = some (a, σ1, τ1) → IC σ1 → ZN σ1 (1000 * (n : Int)) → okp (fun b σ2 τ2 => Q a b ∧ Z (n + 6) σ2 τ2) (y σ1 τ1)) : okp (fun a σ1 τ1 => okp (fun b σ2 τ2 => Q a b ∧ Z (n + 6) σ2 τ2) (y σ1 τ1)) x := by
  obtain ⟨a, σ1, τ1, e, h⟩ := hx
  have k := hk a σ1 τ1 h
  exact ⟨a, σ1, τ1, e, hy a σ1 τ1 e (k.2 hI) (zn_k0 hz k)⟩
theorem ok_t {α : Type} {P : α → gI → gJ → Prop} {x : Option (α × gI × gJ)} (h : okp P x) : okp (fun a σ τ => True ∧ P a σ τ) x := ok_mono (fun _ _ _ h => ⟨trivial, h⟩) h
theorem ok_u {α β : Type} {P : β → gI → gJ → Prop} {x : Option (α × gI × gJ)} {y : gI → gJ → Option (β × gI × gJ)} (h : okp (fun a σ1 τ1 => okp (fun b σ2 τ2 => True ∧ P b σ2 τ2) (y σ1 τ1)) x) : okp (fun a σ1 τ1 => okp (fun b σ2 τ2 => P b σ2 τ2) (y σ1 τ1)) x := ok_mono (fun _ _ _ h => ok_mono (fun _ _ _ h => h.2) h) h
theorem z_end {α : Type} {n : Nat} {σ : gI} {x : Option (α × gI × gJ)} (hn : n + 6 ≤ 3072) (hI : IC σ) (hz : okp (fun _ σ1 _ => ZN σ1 (1000 * (n : Int) + 6000)) x) (hf : ∀ a σ1 τ1, x = some (a, σ1, τ1) → ∀ c k : Nat, c < 199 → σ1 c k = σ c k) : okp (fun _ σ1 τ1 => Z (n + 6) σ1 τ1) x := by
  obtain ⟨a, σ1, τ1, e, h⟩ := hz
  refine ⟨a, σ1, τ1, e, ic_fr hI (hf a σ1 τ1 e), ?_⟩
  rw [show (1000 * ((n + 6 : Nat) : Int)) = 1000 * (n : Int) + 6000 by omega]
  exact h
theorem z_sign {σ : gI} {τ : gJ} {g : Nat → Int32} {B B1 : Int} {N : Nat} (hN : 4294967296 ≤ N) {x1 : Int32} (h : ZM σ g B) (hB : B ≤ B1) : okp (fun (a : Int32) σ1 τ1 => ZN σ1 B1) (B_X12_sign_0 N σ τ x1) := by
  obtain ⟨a, b, c, d, e, i⟩ := h
  obtain ⟨r, σ1, τ1, q, p⟩ := m_B_X12_sign_0 N hN σ τ x1 i
  have f := (fr_B_X12_sign_0 N σ τ x1 q).1
  have e36 := f 199 36 (by omega)
  exact ⟨r, σ1, τ1, q, g, qb_fr a (fun c k hh => f c k (by omega)), by omega, by rw [e36]; exact c, by rw [e36]; exact uu_fr d (fun c k hh => f c k (by omega)) hB, ki_fr e (fun c k hh => f c k (by omega)) hB, p⟩
theorem z_end1 {σ : gI} {τ : gJ} {g : Nat → Int32} {B B1 : Int} {N : Nat} (hN : 4294967296 ≤ N) {x1 : Int32} (h : ZM σ g B) (hB : B ≤ B1) : okp (fun (a : Int32) σ1 τ1 => ZN σ1 B1) (B_X12_end_0 N σ τ x1) := by
  obtain ⟨a, b, c, d, e, i⟩ := h
  obtain ⟨r, σ1, τ1, q, p⟩ := m_B_X12_end_0 N hN σ τ x1 i
  have f := (fr_B_X12_end_0 N σ τ x1 q).1
  have e36 := f 199 36 (by omega)
  exact ⟨r, σ1, τ1, q, g, qb_fr a (fun c k hh => f c k (by omega)), by omega, by rw [e36]; exact c, by rw [e36]; exact uu_fr d (fun c k hh => f c k (by omega)) hB, ki_fr e (fun c k hh => f c k (by omega)) hB, p⟩
theorem w_B_X12_flow_0 {σ : gI} {τ : gJ} {g : Nat → Int32} {N : Nat} (hN : 4294967296 ≤ N) {x1 : Int32} (hQ : QB 16 σ g) : okp (fun (a : Int32) σ1 τ1 => QB 16 σ1 g) (B_X12_flow_0 N σ τ x1) := by
  obtain ⟨r, σ1, τ1, q, p⟩ := m_B_X12_flow_0 N hN σ τ x1 hQ.1
  exact ⟨r, σ1, τ1, q, qb_fr hQ (fun c k hh => (fr_B_X12_flow_0 N σ τ x1 q).1 c k (by omega))⟩
theorem w_B_X12_of_0 {σ : gI} {τ : gJ} {g : Nat → Int32} {N : Nat} (hN : 4294967296 ≤ N) {x1 x2 : Int32} (hQ : QB 16 σ g) : okp (fun (a : Int32) σ1 τ1 => QB 16 σ1 g) (B_X12_of_0 N σ τ x1 x2) := by
  obtain ⟨r, σ1, τ1, q, p⟩ := m_B_X12_of_0 N hN (g 1) (g 2) (g 3) σ τ x1 x2 hQ.2.1 hQ.2.2.2.1.1
  exact ⟨r, σ1, τ1, q, qb_fr hQ (fun c k hh => (fr_B_X12_of_0 N σ τ x1 x2 q).1 c k (by omega))⟩
theorem k0_q {σ σ1 : gI} {τ τ1 : gJ} {α : Type} {C : α → Prop} {a : α} (h : Kq σ τ C a σ1 τ1) : K0 σ σ1 := h.2.1.1
theorem k0_q0 {σ σ1 : gI} {τ τ1 : gJ} {α : Type} {C : α → Prop} {a : α} (h : Kq0 σ τ C a σ1 τ1) : K0 σ σ1 := h.2.1
theorem k0_qe {σ σ1 : gI} {τ τ1 : gJ} {α : Type} {C : α → Prop} {a : α} (h : Kqe σ τ C a σ1 τ1) : K0 σ σ1 := by rw [h.2.1]; exact k0_rf σ
theorem x_keep {N : Nat} {σ σ1 : gI} {τ τ1 : gJ} {x1 r : Int32} (h : B_X11_keep_0 N σ τ x1 = some (r, σ1, τ1)) : (r = 0 ∨ r = 1) ∧ (r = 1 ↔ 0 ≤ x1.toInt ∧ x1.toInt ≤ 2) := by
  have l0 : (0 : Int32).toInt = 0 := rfl
  have l3 : (3 : Int32).toInt = 3 := rfl
  unfold B_X11_keep_0 at h
  by_cases c1 : x1 < 0
  · rw [if_pos c1] at h
    rw [fa_lt] at c1
    have e : (0 : Int32) = r := congrArg Prod.fst (Option.some.inj h)
    subst e
    exact ⟨Or.inl rfl, fun z => absurd z (by decide), fun z => by omega⟩
  · rw [if_neg c1] at h
    rw [fa_lt] at c1
    by_cases c2 : x1 < 3
    · rw [if_pos c2] at h
      rw [fa_lt] at c2
      obtain ⟨j, -, -, h⟩ := ck_some h
      obtain ⟨r4, σ4, τ4, q4, h⟩ := bd_some h
      obtain ⟨v, e, h⟩ := nm_some h
      have e : (1 : Int32) = r := congrArg Prod.fst (Option.some.inj h)
      subst e
      exact ⟨Or.inr rfl, fun _ => by omega, fun _ => rfl⟩
    · rw [if_neg c2] at h
      rw [fa_lt] at c2
      have e : (0 : Int32) = r := congrArg Prod.fst (Option.some.inj h)
      subst e
      exact ⟨Or.inl rfl, fun z => absurd z (by decide), fun z => by omega⟩
def TE (σ : gI) : Prop := ∀ k : Nat, (k : Int) < (σ 1 2).toInt → σ 2 k = σ 208 k ∧ (σ 2 k).toInt ≤ 255
def Z5 (n : Nat) (σ : gI) (τ : gJ) : Prop := Z n σ τ ∧ σ 1 2 = σ 199 13 ∧ TE σ
theorem te_fr {σ σ1 : gI} (h : TE σ) (h2 : σ1 1 2 = σ 1 2) (f : ∀ k, σ1 2 k = σ 2 k) (g : ∀ k, σ1 208 k = σ 208 k) : TE σ1 := fun k hk => by
  rw [h2] at hk
  rw [f, g]
  exact h k hk
theorem te_0 {σ : gI} (h : σ 1 2 = 0) : TE σ := fun k hk => by
  rw [h] at hk
  have o : (0 : Int32).toInt = 0 := rfl
  omega
theorem lq_c5 {α β : Type} {n : Nat} {σ : gI} {Q : α → β → Prop} {x : Option (α × gI × gJ)} {y : gI → gJ → Option (β × gI × gJ)} {P : α → gI → gJ → Prop} (hx : okp P x) (hk : ∀ a σ1 τ1, P a σ1 τ1 → (∀ c k : Nat, 199 ≤ c → σ1 c k = σ c k) ∧ (IC σ → IC σ1)) (hI : IC σ) (hz : ZN σ (1000 * (n : Int))) (hy : ∀ a σ1 τ1, x = some (a, σ1, τ1) → P a σ1 τ1 → IC σ1 → ZN σ1 (1000 * (n : Int)) → okp (fun b σ2 τ2 => Q a b ∧ Z5 (n + 6) σ2 τ2) (y σ1 τ1)) : okp (fun a σ1 τ1 => okp (fun b σ2 τ2 => Q a b ∧ Z5 (n + 6) σ2 τ2) (y σ1 τ1)) x := by
  obtain ⟨a, σ1, τ1, e, h⟩ := hx
  have k := hk a σ1 τ1 h
  obtain ⟨g, hg⟩ := hz
  exact ⟨a, σ1, τ1, e, hy a σ1 τ1 e h (k.2 hI) ⟨g, zm_fr hg (fun c j hh => k.1 c j (by omega))⟩⟩
theorem k5 {σ σ1 : gI} (h : K0 σ σ1) : (∀ c k : Nat, 199 ≤ c → σ1 c k = σ c k) ∧ (IC σ → IC σ1) := ⟨fun c k hc => h.1 c k (Or.inl hc), h.2⟩
theorem ok_v {α β : Type} {Q : α → β → Prop} {P : β → gI → gJ → Prop} {x : Option (α × gI × gJ)} {y : gI → gJ → Option (β × gI × gJ)} (h : okp (fun a σ1 τ1 => okp (fun b σ2 τ2 => Q a b ∧ P b σ2 τ2) (y σ1 τ1)) x) : okp (fun a σ1 τ1 => okp (fun b σ2 τ2 => P b σ2 τ2) (y σ1 τ1)) x := ok_mono (fun _ _ _ h => ok_mono (fun _ _ _ h => h.2) h) h
theorem zn_13 {σ : gI} {B : Int} (h : ZN σ B) : 0 ≤ (σ 199 13).toInt ∧ (σ 199 13).toInt ≤ 80 := by
  obtain ⟨g, h⟩ := h
  exact h.2.2.2.2.2
theorem ic_fr2 {σ σ1 : gI} (h : IC σ) (f : ∀ c k : Nat, ¬ (c = 2 ∨ (c = 1 ∧ k = 2)) → σ1 c k = σ c k) : IC σ1 := by
  unfold IC at h ⊢
  rw [f 9 6 (by omega), f 17 9 (by omega), f 17 10 (by omega), f 21 9 (by omega), f 21 10 (by omega)]
  exact h
/-- a sign that both refuse leaves THE TEXT -/
theorem te_sf {N : Nat} {σ σ1 σ2 : gI} {τ τ1 τ2 : gJ} {x1 r b : Int32} (hE : TE σ) (h80 : (σ 1 2).toInt ≤ 80) (c1 : ¬ σ 1 2 ≤ 76) (e : B_X11_sign_0 N σ τ x1 = some (r, σ1, τ1)) (e2 : B_X12_sign_0 N σ1 τ1 x1 = some (b, σ2, τ2)) (hk : ∀ c k : Nat, ¬ (c = 2 ∨ (c = 1 ∧ k = 2)) → σ1 c k = σ c k) (g1 : σ1 199 13 = σ 1 2) (w : σ2 1 2 = σ 1 2) : TE σ2 := by
  have s1 : σ1 = σ := by
    unfold B_X11_sign_0 at e
    obtain ⟨r1, s1, t1, q1, e⟩ := bd_some e
    unfold B_X7_addFour_0 at q1
    have q9 : s1 = σ := by
      by_cases c : σ 1 2 < 0
      · rw [if_pos c] at q1; exact (sm_inj q1).2.1.symm
      · rw [if_neg c, if_neg c1] at q1; exact (sm_inj q1).2.1.symm
    by_cases c : r1 = 0
    · rw [if_pos c] at e; exact (sm_inj e).2.1.symm.trans q9
    · rw [if_neg c] at e; exact (sm_inj e).2.1.symm.trans q9
  have s2 : ∀ k, σ2 208 k = σ1 208 k ∧ σ2 2 k = σ1 2 k := by
    unfold B_X12_sign_0 at e2
    obtain ⟨s3, e3, e2⟩ := nm_some e2
    have z3 : s3 199 13 = σ 1 2 := by rw [e3, up2_ne (by omega)]; exact g1
    rw [z3, if_neg c1] at e2
    obtain ⟨-, m, -⟩ := sm_inj e2
    intro k
    rw [← m, e3, up2_ne (by omega), up2_ne (by omega)]
    exact ⟨rfl, rfl⟩
  rw [s1] at s2
  exact te_fr hE w (fun k => (s2 k).2) (fun k => (s2 k).1)
theorem zc_sign {n : Nat} {σ : gI} {τ : gJ} {x1 : Int32} (hn : n + 6 ≤ 3072) (hI : IC σ) (hz : ZN σ (1000 * (n : Int))) : okp (fun _ σ1 τ1 => Z (n + 6) σ1 τ1) (B_X12_sign_0 4294967296 σ τ x1) := by
  have hN : 4294967296 ≤ 4294967296 := Nat.le_refl _
  obtain ⟨g, h⟩ := hz
  exact z_end hn hI (z_sign hN h (by omega)) (fun a σ1 τ1 e c k hc => (fr_B_X12_sign_0 4294967296 σ τ x1 e).1 c k (by omega))
theorem zc_end {n : Nat} {σ : gI} {τ : gJ} {x1 : Int32} (hn : n + 6 ≤ 3072) (hI : IC σ) (hz : ZN σ (1000 * (n : Int))) : okp (fun _ σ1 τ1 => Z (n + 6) σ1 τ1) (B_X12_end_0 4294967296 σ τ x1) := by
  have hN : 4294967296 ≤ 4294967296 := Nat.le_refl _
  obtain ⟨g, h⟩ := hz
  exact z_end hn hI (z_end1 hN h (by omega)) (fun a σ1 τ1 e c k hc => (fr_B_X12_end_0 4294967296 σ τ x1 e).1 c k (by omega))
theorem zc_town {n : Nat} {σ : gI} {τ : gJ} (hn : n + 6 ≤ 3072) (hI : IC σ) (hz : ZN σ (1000 * (n : Int))) : okp (fun _ σ1 τ1 => Z (n + 6) σ1 τ1) (B_X12_town_0 4294967296 σ τ) := by
  have hN : 4294967296 ≤ 4294967296 := Nat.le_refl _
  obtain ⟨g, h⟩ := hz
  exact z_end hn hI (z_town hN h (by omega)) (fun a σ1 τ1 e c k hc => (fr_B_X12_town_0 4294967296 σ τ e).1 c k (by omega))
theorem zc_water {n : Nat} {σ : gI} {τ : gJ} (hn : n + 6 ≤ 3072) (hI : IC σ) (hz : ZN σ (1000 * (n : Int))) : okp (fun _ σ1 τ1 => Z (n + 6) σ1 τ1) (B_X12_water_0 4294967296 σ τ) := by
  have hN : 4294967296 ≤ 4294967296 := Nat.le_refl _
  obtain ⟨g, h⟩ := hz
  exact z_end hn hI (z_water hN h (by omega)) (fun a σ1 τ1 e c k hc => (fr_B_X12_water_0 4294967296 σ τ e).1 c k (by omega))
theorem zc_rule {n : Nat} {σ : gI} {τ : gJ} (hn : n + 6 ≤ 3072) (hI : IC σ) (hz : ZN σ (1000 * (n : Int))) : okp (fun _ σ1 τ1 => Z (n + 6) σ1 τ1) (B_X12_rule_0 4294967296 σ τ) := by
  have hN : 4294967296 ≤ 4294967296 := Nat.le_refl _
  obtain ⟨g, h⟩ := hz
  exact z_end hn hI (z_rule hN h (by omega)) (fun a σ1 τ1 e c k hc => (fr_B_X12_rule_0 4294967296 σ τ e).1 c k (by omega))
theorem zc_place {n : Nat} {σ : gI} {τ : gJ} {x1 x2 : Int32} (hn : n + 6 ≤ 3072) (hI : IC σ) (hz : ZN σ (1000 * (n : Int))) : okp (fun _ σ1 τ1 => Z (n + 6) σ1 τ1) (B_X12_place_0 4294967296 σ τ x1 x2) := by
  have hN : 4294967296 ≤ 4294967296 := Nat.le_refl _
  obtain ⟨g, h⟩ := hz
  refine z_end hn hI ?_ (fun a σ1 τ1 e c k hc => (fr_B_X12_place_0 4294967296 σ τ x1 x2 e).1 c k (by omega))
  obtain ⟨a, σ1, τ1, e, hQ⟩ := w_B_X12_place_0 (τ := τ) (x1 := x1) (x2 := x2) hN h.1
  have h22 := h.2.1
  exact ⟨a, σ1, τ1, e, zn_q h hQ (by omega) (by omega) (fun c k hh => (fr_B_X12_place_0 4294967296 σ τ x1 x2 e).1 c k (by omega))⟩
theorem ze_place {n : Nat} {σ : gI} {τ : gJ} {x1 x2 : Int32} (hn : n + 6 ≤ 3072) (hI : IC σ) (hz : ZN σ (1000 * (n : Int))) (hT : σ 1 2 = σ 199 13) (hE : TE σ) : okp (fun _ σ1 τ1 => Z5 (n + 6) σ1 τ1) (B_X12_place_0 4294967296 σ τ x1 x2) := by
  obtain ⟨a, σ1, τ1, e, h⟩ := zc_place (τ := τ) (x1 := x1) (x2 := x2) hn hI hz
  have f := (fr_B_X12_place_0 4294967296 σ τ x1 x2 e).1
  exact ⟨a, σ1, τ1, e, h, by rw [f 1 2 (by omega), f 199 13 (by omega)]; exact hT, te_fr hE (f 1 2 (by omega)) (fun k => f 2 k (by omega)) (fun k => f 208 k (by omega))⟩
theorem zc_of {n : Nat} {σ : gI} {τ : gJ} {x1 x2 : Int32} (hn : n + 6 ≤ 3072) (hI : IC σ) (hz : ZN σ (1000 * (n : Int))) : okp (fun _ σ1 τ1 => Z (n + 6) σ1 τ1) (B_X12_of_0 4294967296 σ τ x1 x2) := by
  have hN : 4294967296 ≤ 4294967296 := Nat.le_refl _
  obtain ⟨g, h⟩ := hz
  refine z_end hn hI ?_ (fun a σ1 τ1 e c k hc => (fr_B_X12_of_0 4294967296 σ τ x1 x2 e).1 c k (by omega))
  obtain ⟨a, σ1, τ1, e, hQ⟩ := w_B_X12_of_0 (τ := τ) (x1 := x1) (x2 := x2) hN h.1
  have h22 := h.2.1
  exact ⟨a, σ1, τ1, e, zn_q h hQ (by omega) (by omega) (fun c k hh => (fr_B_X12_of_0 4294967296 σ τ x1 x2 e).1 c k (by omega))⟩
theorem ze_of {n : Nat} {σ : gI} {τ : gJ} {x1 x2 : Int32} (hn : n + 6 ≤ 3072) (hI : IC σ) (hz : ZN σ (1000 * (n : Int))) (hT : σ 1 2 = σ 199 13) (hE : TE σ) : okp (fun _ σ1 τ1 => Z5 (n + 6) σ1 τ1) (B_X12_of_0 4294967296 σ τ x1 x2) := by
  obtain ⟨a, σ1, τ1, e, h⟩ := zc_of (τ := τ) (x1 := x1) (x2 := x2) hn hI hz
  have f := (fr_B_X12_of_0 4294967296 σ τ x1 x2 e).1
  exact ⟨a, σ1, τ1, e, h, by rw [f 1 2 (by omega), f 199 13 (by omega)]; exact hT, te_fr hE (f 1 2 (by omega)) (fun k => f 2 k (by omega)) (fun k => f 208 k (by omega))⟩
theorem zc_flow {n : Nat} {σ : gI} {τ : gJ} {x1 : Int32} (hn : n + 6 ≤ 3072) (hI : IC σ) (hz : ZN σ (1000 * (n : Int))) : okp (fun _ σ1 τ1 => Z (n + 6) σ1 τ1) (B_X12_flow_0 4294967296 σ τ x1) := by
  have hN : 4294967296 ≤ 4294967296 := Nat.le_refl _
  obtain ⟨g, h⟩ := hz
  refine z_end hn hI ?_ (fun a σ1 τ1 e c k hc => (fr_B_X12_flow_0 4294967296 σ τ x1 e).1 c k (by omega))
  obtain ⟨a, σ1, τ1, e, hQ⟩ := w_B_X12_flow_0 (τ := τ) (x1 := x1) hN h.1
  have h22 := h.2.1
  exact ⟨a, σ1, τ1, e, zn_q h hQ (by omega) (by omega) (fun c k hh => (fr_B_X12_flow_0 4294967296 σ τ x1 e).1 c k (by omega))⟩
theorem ze_flow {n : Nat} {σ : gI} {τ : gJ} {x1 : Int32} (hn : n + 6 ≤ 3072) (hI : IC σ) (hz : ZN σ (1000 * (n : Int))) (hT : σ 1 2 = σ 199 13) (hE : TE σ) : okp (fun _ σ1 τ1 => Z5 (n + 6) σ1 τ1) (B_X12_flow_0 4294967296 σ τ x1) := by
  obtain ⟨a, σ1, τ1, e, h⟩ := zc_flow (τ := τ) (x1 := x1) hn hI hz
  have f := (fr_B_X12_flow_0 4294967296 σ τ x1 e).1
  exact ⟨a, σ1, τ1, e, h, by rw [f 1 2 (by omega), f 199 13 (by omega)]; exact hT, te_fr hE (f 1 2 (by omega)) (fun k => f 2 k (by omega)) (fun k => f 208 k (by omega))⟩
theorem zc_plank {n : Nat} {σ : gI} {τ : gJ} {x1 x2 : Int32} (hn : n + 6 ≤ 3072) (hI : IC σ) (hz : ZN σ (1000 * (n : Int))) : okp (fun _ σ1 τ1 => Z (n + 6) σ1 τ1) (B_X12_plank_0 4294967296 σ τ x1 x2) := by
  have hN : 4294967296 ≤ 4294967296 := Nat.le_refl _
  obtain ⟨g, h⟩ := hz
  exact z_end hn hI (z_plank hN h (by omega)) (fun a σ1 τ1 e c k hc => (fr_B_X12_plank_0 4294967296 σ τ x1 x2 e).1 c k (by omega))
theorem ze_plank {n : Nat} {σ : gI} {τ : gJ} {x1 x2 : Int32} (hn : n + 6 ≤ 3072) (hI : IC σ) (hz : ZN σ (1000 * (n : Int))) (hT : σ 1 2 = σ 199 13) (hE : TE σ) : okp (fun _ σ1 τ1 => Z5 (n + 6) σ1 τ1) (B_X12_plank_0 4294967296 σ τ x1 x2) := by
  obtain ⟨a, σ1, τ1, e, h⟩ := zc_plank (τ := τ) (x1 := x1) (x2 := x2) hn hI hz
  have f := (fr_B_X12_plank_0 4294967296 σ τ x1 x2 e).1
  exact ⟨a, σ1, τ1, e, h, by rw [f 1 2 (by omega), f 199 13 (by omega)]; exact hT, te_fr hE (f 1 2 (by omega)) (fun k => f 2 k (by omega)) (fun k => f 208 k (by omega))⟩
theorem zc_sheet {n : Nat} {σ : gI} {τ : gJ} {x1 x2 x3 x4 : Int32} (hn : n + 6 ≤ 3072) (hI : IC σ) (hz : ZN σ (1000 * (n : Int))) : okp (fun _ σ1 τ1 => Z (n + 6) σ1 τ1) (B_X12_sheet_0 4294967296 σ τ x1 x2 x3 x4) := by
  have hN : 4294967296 ≤ 4294967296 := Nat.le_refl _
  obtain ⟨g, h⟩ := hz
  exact z_end hn hI (z_sheet hN h (by omega)) (fun a σ1 τ1 e c k hc => (fr_B_X12_sheet_0 4294967296 σ τ x1 x2 x3 x4 e).1 c k (by omega))
theorem ze_sheet {n : Nat} {σ : gI} {τ : gJ} {x1 x2 x3 x4 : Int32} (hn : n + 6 ≤ 3072) (hI : IC σ) (hz : ZN σ (1000 * (n : Int))) (hT : σ 1 2 = σ 199 13) (hE : TE σ) : okp (fun _ σ1 τ1 => Z5 (n + 6) σ1 τ1) (B_X12_sheet_0 4294967296 σ τ x1 x2 x3 x4) := by
  obtain ⟨a, σ1, τ1, e, h⟩ := zc_sheet (τ := τ) (x1 := x1) (x2 := x2) (x3 := x3) (x4 := x4) hn hI hz
  have f := (fr_B_X12_sheet_0 4294967296 σ τ x1 x2 x3 x4 e).1
  exact ⟨a, σ1, τ1, e, h, by rw [f 1 2 (by omega), f 199 13 (by omega)]; exact hT, te_fr hE (f 1 2 (by omega)) (fun k => f 2 k (by omega)) (fun k => f 208 k (by omega))⟩
theorem zc_put {n : Nat} {σ : gI} {τ : gJ} {x1 x2 x3 x4 : Int32} (hn : n + 6 ≤ 3072) (hI : IC σ) (hz : ZN σ (1000 * (n : Int))) : okp (fun _ σ1 τ1 => Z (n + 6) σ1 τ1) (B_X12_put_0 4294967296 σ τ x1 x2 x3 x4) := by
  have hN : 4294967296 ≤ 4294967296 := Nat.le_refl _
  obtain ⟨g, h⟩ := hz
  exact z_end hn hI (z_put hN h (by omega)) (fun a σ1 τ1 e c k hc => (fr_B_X12_put_0 4294967296 σ τ x1 x2 x3 x4 e).1 c k (by omega))
theorem ze_put {n : Nat} {σ : gI} {τ : gJ} {x1 x2 x3 x4 : Int32} (hn : n + 6 ≤ 3072) (hI : IC σ) (hz : ZN σ (1000 * (n : Int))) (hT : σ 1 2 = σ 199 13) (hE : TE σ) : okp (fun _ σ1 τ1 => Z5 (n + 6) σ1 τ1) (B_X12_put_0 4294967296 σ τ x1 x2 x3 x4) := by
  obtain ⟨a, σ1, τ1, e, h⟩ := zc_put (τ := τ) (x1 := x1) (x2 := x2) (x3 := x3) (x4 := x4) hn hI hz
  have f := (fr_B_X12_put_0 4294967296 σ τ x1 x2 x3 x4 e).1
  exact ⟨a, σ1, τ1, e, h, by rw [f 1 2 (by omega), f 199 13 (by omega)]; exact hT, te_fr hE (f 1 2 (by omega)) (fun k => f 2 k (by omega)) (fun k => f 208 k (by omega))⟩
theorem zc_give {n : Nat} {σ : gI} {τ : gJ} {x1 x2 : Int32} (hn : n + 6 ≤ 3072) (hI : IC σ) (hz : ZN σ (1000 * (n : Int))) : okp (fun _ σ1 τ1 => Z (n + 6) σ1 τ1) (B_X12_give_0 4294967296 σ τ x1 x2) := by
  have hN : 4294967296 ≤ 4294967296 := Nat.le_refl _
  obtain ⟨g, h⟩ := hz
  exact z_end hn hI (z_give hN h (by omega)) (fun a σ1 τ1 e c k hc => (fr_B_X12_give_0 4294967296 σ τ x1 x2 e).1 c k (by omega))
theorem ze_give {n : Nat} {σ : gI} {τ : gJ} {x1 x2 : Int32} (hn : n + 6 ≤ 3072) (hI : IC σ) (hz : ZN σ (1000 * (n : Int))) (hT : σ 1 2 = σ 199 13) (hE : TE σ) : okp (fun _ σ1 τ1 => Z5 (n + 6) σ1 τ1) (B_X12_give_0 4294967296 σ τ x1 x2) := by
  obtain ⟨a, σ1, τ1, e, h⟩ := zc_give (τ := τ) (x1 := x1) (x2 := x2) hn hI hz
  have f := (fr_B_X12_give_0 4294967296 σ τ x1 x2 e).1
  exact ⟨a, σ1, τ1, e, h, by rw [f 1 2 (by omega), f 199 13 (by omega)]; exact hT, te_fr hE (f 1 2 (by omega)) (fun k => f 2 k (by omega)) (fun k => f 208 k (by omega))⟩
theorem zc_run {n : Nat} {σ : gI} {τ : gJ} {x1 : Int32} (hn : n + 6 ≤ 3072) (hI : IC σ) (hz : ZN σ (1000 * (n : Int))) : okp (fun _ σ1 τ1 => Z (n + 6) σ1 τ1) (B_X12_run_0 4294967296 σ τ x1) := by
  have hN : 4294967296 ≤ 4294967296 := Nat.le_refl _
  obtain ⟨g, h⟩ := hz
  exact z_end hn hI (z_run hN h (by omega) (by omega)) (fun a σ1 τ1 e c k hc => (fr_B_X12_run_0 4294967296 σ τ x1 e).1 c k (by omega))
theorem ze_run {n : Nat} {σ : gI} {τ : gJ} {x1 : Int32} (hn : n + 6 ≤ 3072) (hI : IC σ) (hz : ZN σ (1000 * (n : Int))) (hT : σ 1 2 = σ 199 13) (hE : TE σ) : okp (fun _ σ1 τ1 => Z5 (n + 6) σ1 τ1) (B_X12_run_0 4294967296 σ τ x1) := by
  obtain ⟨a, σ1, τ1, e, h⟩ := zc_run (τ := τ) (x1 := x1) hn hI hz
  have f := (fr_B_X12_run_0 4294967296 σ τ x1 e).1
  exact ⟨a, σ1, τ1, e, h, by rw [f 1 2 (by omega), f 199 13 (by omega)]; exact hT, te_fr hE (f 1 2 (by omega)) (fun k => f 2 k (by omega)) (fun k => f 208 k (by omega))⟩
theorem zc_day {n : Nat} {σ : gI} {τ : gJ} (hn : n + 6 ≤ 3072) (hI : IC σ) (hz : ZN σ (1000 * (n : Int))) : okp (fun _ σ1 τ1 => Z (n + 6) σ1 τ1) (B_X12_day_0 4294967296 σ τ) := by
  have hN : 4294967296 ≤ 4294967296 := Nat.le_refl _
  obtain ⟨g, h⟩ := hz
  exact z_end hn hI (z_day hN h (by omega) (by omega)) (fun a σ1 τ1 e c k hc => (fr_B_X12_day_0 4294967296 σ τ e).1 c k (by omega))
theorem zc_undo {n : Nat} {σ : gI} {τ : gJ} (hn : n + 6 ≤ 3072) (hI : IC σ) (hz : ZN σ (1000 * (n : Int))) : okp (fun _ σ1 τ1 => Z (n + 6) σ1 τ1) (B_X12_undo_0 4294967296 σ τ) := by
  have hN : 4294967296 ≤ 4294967296 := Nat.le_refl _
  obtain ⟨g, h⟩ := hz
  exact z_end hn hI (z_undo hN h (by omega) (by omega)) (fun a σ1 τ1 e c k hc => (fr_B_X12_undo_0 4294967296 σ τ e).1 c k (by omega))
theorem ze_undo {n : Nat} {σ : gI} {τ : gJ} (hn : n + 6 ≤ 3072) (hI : IC σ) (hz : ZN σ (1000 * (n : Int))) (hT : σ 1 2 = σ 199 13) (hE : TE σ) : okp (fun _ σ1 τ1 => Z5 (n + 6) σ1 τ1) (B_X12_undo_0 4294967296 σ τ) := by
  obtain ⟨a, σ1, τ1, e, h⟩ := zc_undo (τ := τ) hn hI hz
  have f := (fr_B_X12_undo_0 4294967296 σ τ e).1
  exact ⟨a, σ1, τ1, e, h, by rw [f 1 2 (by omega), f 199 13 (by omega)]; exact hT, te_fr hE (f 1 2 (by omega)) (fun k => f 2 k (by omega)) (fun k => f 208 k (by omega))⟩
theorem zc_where {n : Nat} {σ : gI} {τ : gJ} {x1 x2 : Int32} (hn : n + 6 ≤ 3072) (hI : IC σ) (hz : ZN σ (1000 * (n : Int))) : okp (fun _ σ1 τ1 => Z (n + 6) σ1 τ1) (B_X12_where_0 4294967296 σ τ x1 x2) := by
  have hN : 4294967296 ≤ 4294967296 := Nat.le_refl _
  obtain ⟨g, h⟩ := hz
  refine z_end hn hI ?_ (fun a σ1 τ1 e c k hc => (fr_B_X12_where_0 4294967296 σ τ x1 x2 e).1 c k (by omega))
  obtain ⟨a, σ1, τ1, e, hQ⟩ := w_B_X12_where_0 (τ := τ) (x1 := x1) (x2 := x2) hN h.1
  have h22 := h.2.1
  exact ⟨a, σ1, τ1, e, zn_q h hQ (by omega) (by omega) (fun c k hh => (fr_B_X12_where_0 4294967296 σ τ x1 x2 e).1 c k (by omega))⟩
theorem ze_where {n : Nat} {σ : gI} {τ : gJ} {x1 x2 : Int32} (hn : n + 6 ≤ 3072) (hI : IC σ) (hz : ZN σ (1000 * (n : Int))) (hT : σ 1 2 = σ 199 13) (hE : TE σ) : okp (fun _ σ1 τ1 => Z5 (n + 6) σ1 τ1) (B_X12_where_0 4294967296 σ τ x1 x2) := by
  obtain ⟨a, σ1, τ1, e, h⟩ := zc_where (τ := τ) (x1 := x1) (x2 := x2) hn hI hz
  have f := (fr_B_X12_where_0 4294967296 σ τ x1 x2 e).1
  exact ⟨a, σ1, τ1, e, h, by rw [f 1 2 (by omega), f 199 13 (by omega)]; exact hT, te_fr hE (f 1 2 (by omega)) (fun k => f 2 k (by omega)) (fun k => f 208 k (by omega))⟩
theorem zc_comes {n : Nat} {σ : gI} {τ : gJ} {x1 : Int32} (hn : n + 6 ≤ 3072) (hI : IC σ) (hz : ZN σ (1000 * (n : Int))) : okp (fun _ σ1 τ1 => Z (n + 6) σ1 τ1) (B_X12_comes_0 4294967296 σ τ x1) := by
  have hN : 4294967296 ≤ 4294967296 := Nat.le_refl _
  obtain ⟨g, h⟩ := hz
  refine z_end hn hI ?_ (fun a σ1 τ1 e c k hc => (fr_B_X12_comes_0 4294967296 σ τ x1 e).1 c k (by omega))
  obtain ⟨a, σ1, τ1, e, hQ⟩ := w_B_X12_comes_0 (τ := τ) (x1 := x1) hN h.1
  have h22 := h.2.1
  exact ⟨a, σ1, τ1, e, zn_q h hQ (by omega) (by omega) (fun c k hh => (fr_B_X12_comes_0 4294967296 σ τ x1 e).1 c k (by omega))⟩
theorem ze_comes {n : Nat} {σ : gI} {τ : gJ} {x1 : Int32} (hn : n + 6 ≤ 3072) (hI : IC σ) (hz : ZN σ (1000 * (n : Int))) (hT : σ 1 2 = σ 199 13) (hE : TE σ) : okp (fun _ σ1 τ1 => Z5 (n + 6) σ1 τ1) (B_X12_comes_0 4294967296 σ τ x1) := by
  obtain ⟨a, σ1, τ1, e, h⟩ := zc_comes (τ := τ) (x1 := x1) hn hI hz
  have f := (fr_B_X12_comes_0 4294967296 σ τ x1 e).1
  exact ⟨a, σ1, τ1, e, h, by rw [f 1 2 (by omega), f 199 13 (by omega)]; exact hT, te_fr hE (f 1 2 (by omega)) (fun k => f 2 k (by omega)) (fun k => f 208 k (by omega))⟩
theorem zc_lost {n : Nat} {σ : gI} {τ : gJ} {x1 : Int32} (hn : n + 6 ≤ 3072) (hI : IC σ) (hz : ZN σ (1000 * (n : Int))) : okp (fun _ σ1 τ1 => Z (n + 6) σ1 τ1) (B_X12_lost_0 4294967296 σ τ x1) := by
  have hN : 4294967296 ≤ 4294967296 := Nat.le_refl _
  obtain ⟨g, h⟩ := hz
  refine z_end hn hI ?_ (fun a σ1 τ1 e c k hc => (fr_B_X12_lost_0 4294967296 σ τ x1 e).1 c k (by omega))
  obtain ⟨a, σ1, τ1, e, hQ⟩ := w_B_X12_lost_0 (τ := τ) (x1 := x1) hN h.1
  have h22 := h.2.1
  exact ⟨a, σ1, τ1, e, zn_q h hQ (by omega) (by omega) (fun c k hh => (fr_B_X12_lost_0 4294967296 σ τ x1 e).1 c k (by omega))⟩
theorem ze_lost {n : Nat} {σ : gI} {τ : gJ} {x1 : Int32} (hn : n + 6 ≤ 3072) (hI : IC σ) (hz : ZN σ (1000 * (n : Int))) (hT : σ 1 2 = σ 199 13) (hE : TE σ) : okp (fun _ σ1 τ1 => Z5 (n + 6) σ1 τ1) (B_X12_lost_0 4294967296 σ τ x1) := by
  obtain ⟨a, σ1, τ1, e, h⟩ := zc_lost (τ := τ) (x1 := x1) hn hI hz
  have f := (fr_B_X12_lost_0 4294967296 σ τ x1 e).1
  exact ⟨a, σ1, τ1, e, h, by rw [f 1 2 (by omega), f 199 13 (by omega)]; exact hT, te_fr hE (f 1 2 (by omega)) (fun k => f 2 k (by omega)) (fun k => f 208 k (by omega))⟩
theorem zc_homes {n : Nat} {σ : gI} {τ : gJ} {x1 : Int32} (hn : n + 6 ≤ 3072) (hI : IC σ) (hz : ZN σ (1000 * (n : Int))) : okp (fun _ σ1 τ1 => Z (n + 6) σ1 τ1) (B_X12_homes_0 4294967296 σ τ x1) := by
  have hN : 4294967296 ≤ 4294967296 := Nat.le_refl _
  obtain ⟨g, h⟩ := hz
  refine z_end hn hI ?_ (fun a σ1 τ1 e c k hc => (fr_B_X12_homes_0 4294967296 σ τ x1 e).1 c k (by omega))
  obtain ⟨a, σ1, τ1, e, hQ⟩ := w_B_X12_homes_0 (τ := τ) (x1 := x1) hN h.1
  have h22 := h.2.1
  exact ⟨a, σ1, τ1, e, zn_q h hQ (by omega) (by omega) (fun c k hh => (fr_B_X12_homes_0 4294967296 σ τ x1 e).1 c k (by omega))⟩
theorem ze_homes {n : Nat} {σ : gI} {τ : gJ} {x1 : Int32} (hn : n + 6 ≤ 3072) (hI : IC σ) (hz : ZN σ (1000 * (n : Int))) (hT : σ 1 2 = σ 199 13) (hE : TE σ) : okp (fun _ σ1 τ1 => Z5 (n + 6) σ1 τ1) (B_X12_homes_0 4294967296 σ τ x1) := by
  obtain ⟨a, σ1, τ1, e, h⟩ := zc_homes (τ := τ) (x1 := x1) hn hI hz
  have f := (fr_B_X12_homes_0 4294967296 σ τ x1 e).1
  exact ⟨a, σ1, τ1, e, h, by rw [f 1 2 (by omega), f 199 13 (by omega)]; exact hT, te_fr hE (f 1 2 (by omega)) (fun k => f 2 k (by omega)) (fun k => f 208 k (by omega))⟩
theorem zc_sail {n : Nat} {σ : gI} {τ : gJ} {x1 x2 x3 x4 x5 : Int32} (hn : n + 6 ≤ 3072) (hI : IC σ) (hz : ZN σ (1000 * (n : Int))) : okp (fun _ σ1 τ1 => Z (n + 6) σ1 τ1) (B_X12_sail_0 4294967296 σ τ x1 x2 x3 x4 x5) := by
  have hN : 4294967296 ≤ 4294967296 := Nat.le_refl _
  obtain ⟨g, h⟩ := hz
  refine z_end hn hI ?_ (fun a σ1 τ1 e c k hc => (fr_B_X12_sail_0 4294967296 σ τ x1 x2 x3 x4 x5 e).1 c k (by omega))
  obtain ⟨a, σ1, τ1, e, hQ⟩ := w_B_X12_sail_0 (τ := τ) (x1 := x1) (x2 := x2) (x3 := x3) (x4 := x4) (x5 := x5) hN h.1
  have h22 := h.2.1
  exact ⟨a, σ1, τ1, e, zn_q h hQ (by omega) (by omega) (fun c k hh => (fr_B_X12_sail_0 4294967296 σ τ x1 x2 x3 x4 x5 e).1 c k (by omega))⟩
theorem ze_sail {n : Nat} {σ : gI} {τ : gJ} {x1 x2 x3 x4 x5 : Int32} (hn : n + 6 ≤ 3072) (hI : IC σ) (hz : ZN σ (1000 * (n : Int))) (hT : σ 1 2 = σ 199 13) (hE : TE σ) : okp (fun _ σ1 τ1 => Z5 (n + 6) σ1 τ1) (B_X12_sail_0 4294967296 σ τ x1 x2 x3 x4 x5) := by
  obtain ⟨a, σ1, τ1, e, h⟩ := zc_sail (τ := τ) (x1 := x1) (x2 := x2) (x3 := x3) (x4 := x4) (x5 := x5) hn hI hz
  have f := (fr_B_X12_sail_0 4294967296 σ τ x1 x2 x3 x4 x5 e).1
  exact ⟨a, σ1, τ1, e, h, by rw [f 1 2 (by omega), f 199 13 (by omega)]; exact hT, te_fr hE (f 1 2 (by omega)) (fun k => f 2 k (by omega)) (fun k => f 208 k (by omega))⟩
theorem zc_soonest {n : Nat} {σ : gI} {τ : gJ} {x1 x2 x3 : Int32} (hn : n + 6 ≤ 3072) (hI : IC σ) (hz : ZN σ (1000 * (n : Int))) : okp (fun _ σ1 τ1 => Z (n + 6) σ1 τ1) (B_X12_soonest_0 4294967296 σ τ x1 x2 x3) := by
  have hN : 4294967296 ≤ 4294967296 := Nat.le_refl _
  obtain ⟨g, h⟩ := hz
  refine z_end hn hI ?_ (fun a σ1 τ1 e c k hc => (fr_B_X12_soonest_0 4294967296 σ τ x1 x2 x3 e).1 c k (by omega))
  obtain ⟨a, σ1, τ1, e, hQ⟩ := w_B_X12_soonest_0 (τ := τ) (x1 := x1) (x2 := x2) (x3 := x3) hN h.1
  have h22 := h.2.1
  exact ⟨a, σ1, τ1, e, zn_q h hQ (by omega) (by omega) (fun c k hh => (fr_B_X12_soonest_0 4294967296 σ τ x1 x2 x3 e).1 c k (by omega))⟩
theorem ze_soonest {n : Nat} {σ : gI} {τ : gJ} {x1 x2 x3 : Int32} (hn : n + 6 ≤ 3072) (hI : IC σ) (hz : ZN σ (1000 * (n : Int))) (hT : σ 1 2 = σ 199 13) (hE : TE σ) : okp (fun _ σ1 τ1 => Z5 (n + 6) σ1 τ1) (B_X12_soonest_0 4294967296 σ τ x1 x2 x3) := by
  obtain ⟨a, σ1, τ1, e, h⟩ := zc_soonest (τ := τ) (x1 := x1) (x2 := x2) (x3 := x3) hn hI hz
  have f := (fr_B_X12_soonest_0 4294967296 σ τ x1 x2 x3 e).1
  exact ⟨a, σ1, τ1, e, h, by rw [f 1 2 (by omega), f 199 13 (by omega)]; exact hT, te_fr hE (f 1 2 (by omega)) (fun k => f 2 k (by omega)) (fun k => f 208 k (by omega))⟩
theorem zc_basin {n : Nat} {σ : gI} {τ : gJ} {x1 x2 x3 : Int32} (hn : n + 6 ≤ 3072) (hI : IC σ) (hz : ZN σ (1000 * (n : Int))) : okp (fun _ σ1 τ1 => Z (n + 6) σ1 τ1) (B_X12_basin_0 4294967296 σ τ x1 x2 x3) := by
  have hN : 4294967296 ≤ 4294967296 := Nat.le_refl _
  obtain ⟨g, h⟩ := hz
  refine z_end hn hI ?_ (fun a σ1 τ1 e c k hc => (fr_B_X12_basin_0 4294967296 σ τ x1 x2 x3 e).1 c k (by omega))
  obtain ⟨a, σ1, τ1, e, hQ⟩ := w_B_X12_basin_0 (τ := τ) (x1 := x1) (x2 := x2) (x3 := x3) hN h.1
  have h22 := h.2.1
  exact ⟨a, σ1, τ1, e, zn_q h hQ (by omega) (by omega) (fun c k hh => (fr_B_X12_basin_0 4294967296 σ τ x1 x2 x3 e).1 c k (by omega))⟩
theorem ze_basin {n : Nat} {σ : gI} {τ : gJ} {x1 x2 x3 : Int32} (hn : n + 6 ≤ 3072) (hI : IC σ) (hz : ZN σ (1000 * (n : Int))) (hT : σ 1 2 = σ 199 13) (hE : TE σ) : okp (fun _ σ1 τ1 => Z5 (n + 6) σ1 τ1) (B_X12_basin_0 4294967296 σ τ x1 x2 x3) := by
  obtain ⟨a, σ1, τ1, e, h⟩ := zc_basin (τ := τ) (x1 := x1) (x2 := x2) (x3 := x3) hn hI hz
  have f := (fr_B_X12_basin_0 4294967296 σ τ x1 x2 x3 e).1
  exact ⟨a, σ1, τ1, e, h, by rw [f 1 2 (by omega), f 199 13 (by omega)]; exact hT, te_fr hE (f 1 2 (by omega)) (fun k => f 2 k (by omega)) (fun k => f 208 k (by omega))⟩
theorem zc_boat {n : Nat} {σ : gI} {τ : gJ} {x1 x2 x3 : Int32} (hn : n + 6 ≤ 3072) (hI : IC σ) (hz : ZN σ (1000 * (n : Int))) : okp (fun _ σ1 τ1 => Z (n + 6) σ1 τ1) (B_X12_boat_0 4294967296 σ τ x1 x2 x3) := by
  have hN : 4294967296 ≤ 4294967296 := Nat.le_refl _
  obtain ⟨g, h⟩ := hz
  refine z_end hn hI ?_ (fun a σ1 τ1 e c k hc => (fr_B_X12_boat_0 4294967296 σ τ x1 x2 x3 e).1 c k (by omega))
  obtain ⟨a, σ1, τ1, e, hQ⟩ := w_B_X12_boat_0 (τ := τ) (x1 := x1) (x2 := x2) (x3 := x3) hN h.1
  have h22 := h.2.1
  exact ⟨a, σ1, τ1, e, zn_q h hQ (by omega) (by omega) (fun c k hh => (fr_B_X12_boat_0 4294967296 σ τ x1 x2 x3 e).1 c k (by omega))⟩
theorem ze_boat {n : Nat} {σ : gI} {τ : gJ} {x1 x2 x3 : Int32} (hn : n + 6 ≤ 3072) (hI : IC σ) (hz : ZN σ (1000 * (n : Int))) (hT : σ 1 2 = σ 199 13) (hE : TE σ) : okp (fun _ σ1 τ1 => Z5 (n + 6) σ1 τ1) (B_X12_boat_0 4294967296 σ τ x1 x2 x3) := by
  obtain ⟨a, σ1, τ1, e, h⟩ := zc_boat (τ := τ) (x1 := x1) (x2 := x2) (x3 := x3) hn hI hz
  have f := (fr_B_X12_boat_0 4294967296 σ τ x1 x2 x3 e).1
  exact ⟨a, σ1, τ1, e, h, by rw [f 1 2 (by omega), f 199 13 (by omega)]; exact hT, te_fr hE (f 1 2 (by omega)) (fun k => f 2 k (by omega)) (fun k => f 208 k (by omega))⟩
theorem zc_coins {n : Nat} {σ : gI} {τ : gJ} {x1 x2 x3 : Int32} (hn : n + 6 ≤ 3072) (hI : IC σ) (hz : ZN σ (1000 * (n : Int))) : okp (fun _ σ1 τ1 => Z (n + 6) σ1 τ1) (B_X12_coins_0 4294967296 σ τ x1 x2 x3) := by
  have hN : 4294967296 ≤ 4294967296 := Nat.le_refl _
  obtain ⟨g, h⟩ := hz
  refine z_end hn hI ?_ (fun a σ1 τ1 e c k hc => (fr_B_X12_coins_0 4294967296 σ τ x1 x2 x3 e).1 c k (by omega))
  obtain ⟨a, σ1, τ1, e, hQ⟩ := w_B_X12_coins_0 (τ := τ) (x1 := x1) (x2 := x2) (x3 := x3) hN h.1
  have h22 := h.2.1
  exact ⟨a, σ1, τ1, e, zn_q h hQ (by omega) (by omega) (fun c k hh => (fr_B_X12_coins_0 4294967296 σ τ x1 x2 x3 e).1 c k (by omega))⟩
theorem ze_coins {n : Nat} {σ : gI} {τ : gJ} {x1 x2 x3 : Int32} (hn : n + 6 ≤ 3072) (hI : IC σ) (hz : ZN σ (1000 * (n : Int))) (hT : σ 1 2 = σ 199 13) (hE : TE σ) : okp (fun _ σ1 τ1 => Z5 (n + 6) σ1 τ1) (B_X12_coins_0 4294967296 σ τ x1 x2 x3) := by
  obtain ⟨a, σ1, τ1, e, h⟩ := zc_coins (τ := τ) (x1 := x1) (x2 := x2) (x3 := x3) hn hI hz
  have f := (fr_B_X12_coins_0 4294967296 σ τ x1 x2 x3 e).1
  exact ⟨a, σ1, τ1, e, h, by rw [f 1 2 (by omega), f 199 13 (by omega)]; exact hT, te_fr hE (f 1 2 (by omega)) (fun k => f 2 k (by omega)) (fun k => f 208 k (by omega))⟩
theorem zc_waits {n : Nat} {σ : gI} {τ : gJ} {x1 x2 x3 x4 : Int32} (hn : n + 6 ≤ 3072) (hI : IC σ) (hz : ZN σ (1000 * (n : Int))) : okp (fun _ σ1 τ1 => Z (n + 6) σ1 τ1) (B_X12_waits_0 4294967296 σ τ x1 x2 x3 x4) := by
  have hN : 4294967296 ≤ 4294967296 := Nat.le_refl _
  obtain ⟨g, h⟩ := hz
  refine z_end hn hI ?_ (fun a σ1 τ1 e c k hc => (fr_B_X12_waits_0 4294967296 σ τ x1 x2 x3 x4 e).1 c k (by omega))
  obtain ⟨a, σ1, τ1, e, hQ⟩ := w_B_X12_waits_0 (τ := τ) (x1 := x1) (x2 := x2) (x3 := x3) (x4 := x4) hN h.1
  have h22 := h.2.1
  exact ⟨a, σ1, τ1, e, zn_q h hQ (by omega) (by omega) (fun c k hh => (fr_B_X12_waits_0 4294967296 σ τ x1 x2 x3 x4 e).1 c k (by omega))⟩
theorem ze_waits {n : Nat} {σ : gI} {τ : gJ} {x1 x2 x3 x4 : Int32} (hn : n + 6 ≤ 3072) (hI : IC σ) (hz : ZN σ (1000 * (n : Int))) (hT : σ 1 2 = σ 199 13) (hE : TE σ) : okp (fun _ σ1 τ1 => Z5 (n + 6) σ1 τ1) (B_X12_waits_0 4294967296 σ τ x1 x2 x3 x4) := by
  obtain ⟨a, σ1, τ1, e, h⟩ := zc_waits (τ := τ) (x1 := x1) (x2 := x2) (x3 := x3) (x4 := x4) hn hI hz
  have f := (fr_B_X12_waits_0 4294967296 σ τ x1 x2 x3 x4 e).1
  exact ⟨a, σ1, τ1, e, h, by rw [f 1 2 (by omega), f 199 13 (by omega)]; exact hT, te_fr hE (f 1 2 (by omega)) (fun k => f 2 k (by omega)) (fun k => f 208 k (by omega))⟩
theorem zc_round {n : Nat} {σ : gI} {τ : gJ} {x1 : Int32} (hn : n + 6 ≤ 3072) (hI : IC σ) (hz : ZN σ (1000 * (n : Int))) : okp (fun _ σ1 τ1 => Z (n + 6) σ1 τ1) (B_X12_round_0 4294967296 σ τ x1) := by
  have hN : 4294967296 ≤ 4294967296 := Nat.le_refl _
  obtain ⟨g, h⟩ := hz
  refine z_end hn hI ?_ (fun a σ1 τ1 e c k hc => (fr_B_X12_round_0 4294967296 σ τ x1 e).1 c k (by omega))
  obtain ⟨a, σ1, τ1, e, hQ⟩ := w_B_X12_round_0 (τ := τ) (x1 := x1) hN h.1
  have h22 := h.2.1
  exact ⟨a, σ1, τ1, e, zn_q h hQ (by omega) (by omega) (fun c k hh => (fr_B_X12_round_0 4294967296 σ τ x1 e).1 c k (by omega))⟩
theorem ze_round {n : Nat} {σ : gI} {τ : gJ} {x1 : Int32} (hn : n + 6 ≤ 3072) (hI : IC σ) (hz : ZN σ (1000 * (n : Int))) (hT : σ 1 2 = σ 199 13) (hE : TE σ) : okp (fun _ σ1 τ1 => Z5 (n + 6) σ1 τ1) (B_X12_round_0 4294967296 σ τ x1) := by
  obtain ⟨a, σ1, τ1, e, h⟩ := zc_round (τ := τ) (x1 := x1) hn hI hz
  have f := (fr_B_X12_round_0 4294967296 σ τ x1 e).1
  exact ⟨a, σ1, τ1, e, h, by rw [f 1 2 (by omega), f 199 13 (by omega)]; exact hT, te_fr hE (f 1 2 (by omega)) (fun k => f 2 k (by omega)) (fun k => f 208 k (by omega))⟩
theorem zc_save {n : Nat} {σ : gI} {τ : gJ} {x1 : Int32} (hn : n + 6 ≤ 3072) (hI : IC σ) (hz : ZN σ (1000 * (n : Int))) : okp (fun _ σ1 τ1 => Z (n + 6) σ1 τ1) (B_X12_save_0 4294967296 σ τ x1) := by
  have hN : 4294967296 ≤ 4294967296 := Nat.le_refl _
  obtain ⟨g, h⟩ := hz
  refine z_end hn hI ?_ (fun a σ1 τ1 e c k hc => (fr_B_X12_save_0 4294967296 σ τ x1 e).1 c k (by omega))
  obtain ⟨a, σ1, τ1, e, hQ⟩ := w_B_X12_save_0 (τ := τ) (x1 := x1) hN h.1
  have h22 := h.2.1
  exact ⟨a, σ1, τ1, e, zn_q h hQ (by omega) (by omega) (fun c k hh => (fr_B_X12_save_0 4294967296 σ τ x1 e).1 c k (by omega))⟩
theorem ze_save {n : Nat} {σ : gI} {τ : gJ} {x1 : Int32} (hn : n + 6 ≤ 3072) (hI : IC σ) (hz : ZN σ (1000 * (n : Int))) (hT : σ 1 2 = σ 199 13) (hE : TE σ) : okp (fun _ σ1 τ1 => Z5 (n + 6) σ1 τ1) (B_X12_save_0 4294967296 σ τ x1) := by
  obtain ⟨a, σ1, τ1, e, h⟩ := zc_save (τ := τ) (x1 := x1) hn hI hz
  have f := (fr_B_X12_save_0 4294967296 σ τ x1 e).1
  exact ⟨a, σ1, τ1, e, h, by rw [f 1 2 (by omega), f 199 13 (by omega)]; exact hT, te_fr hE (f 1 2 (by omega)) (fun k => f 2 k (by omega)) (fun k => f 208 k (by omega))⟩
theorem zc_steer {n : Nat} {σ : gI} {τ : gJ} {x1 x2 : Int32} (hn : n + 6 ≤ 3072) (hI : IC σ) (hz : ZN σ (1000 * (n : Int))) : okp (fun _ σ1 τ1 => Z (n + 6) σ1 τ1) (B_X12_steer_0 4294967296 σ τ x1 x2) := by
  have hN : 4294967296 ≤ 4294967296 := Nat.le_refl _
  obtain ⟨g, h⟩ := hz
  refine z_end hn hI ?_ (fun a σ1 τ1 e c k hc => (fr_B_X12_steer_0 4294967296 σ τ x1 x2 e).1 c k (by omega))
  obtain ⟨a, σ1, τ1, e, hQ⟩ := w_B_X12_steer_0 (τ := τ) (x1 := x1) (x2 := x2) hN h.1
  have h22 := h.2.1
  exact ⟨a, σ1, τ1, e, zn_q h hQ (by omega) (by omega) (fun c k hh => (fr_B_X12_steer_0 4294967296 σ τ x1 x2 e).1 c k (by omega))⟩
theorem ze_steer {n : Nat} {σ : gI} {τ : gJ} {x1 x2 : Int32} (hn : n + 6 ≤ 3072) (hI : IC σ) (hz : ZN σ (1000 * (n : Int))) (hT : σ 1 2 = σ 199 13) (hE : TE σ) : okp (fun _ σ1 τ1 => Z5 (n + 6) σ1 τ1) (B_X12_steer_0 4294967296 σ τ x1 x2) := by
  obtain ⟨a, σ1, τ1, e, h⟩ := zc_steer (τ := τ) (x1 := x1) (x2 := x2) hn hI hz
  have f := (fr_B_X12_steer_0 4294967296 σ τ x1 x2 e).1
  exact ⟨a, σ1, τ1, e, h, by rw [f 1 2 (by omega), f 199 13 (by omega)]; exact hT, te_fr hE (f 1 2 (by omega)) (fun k => f 2 k (by omega)) (fun k => f 208 k (by omega))⟩
theorem zc_ways {n : Nat} {σ : gI} {τ : gJ} {x1 x2 x3 x4 : Int32} (hn : n + 6 ≤ 3072) (hI : IC σ) (hz : ZN σ (1000 * (n : Int))) : okp (fun _ σ1 τ1 => Z (n + 6) σ1 τ1) (B_X12_ways_0 4294967296 σ τ x1 x2 x3 x4) := by
  have hN : 4294967296 ≤ 4294967296 := Nat.le_refl _
  obtain ⟨g, h⟩ := hz
  refine z_end hn hI ?_ (fun a σ1 τ1 e c k hc => (fr_B_X12_ways_0 4294967296 σ τ x1 x2 x3 x4 e).1 c k (by omega))
  obtain ⟨a, σ1, τ1, e, hQ⟩ := w_B_X12_ways_0 (τ := τ) (x1 := x1) (x2 := x2) (x3 := x3) (x4 := x4) hN h.1
  have h22 := h.2.1
  exact ⟨a, σ1, τ1, e, zn_q h hQ (by omega) (by omega) (fun c k hh => (fr_B_X12_ways_0 4294967296 σ τ x1 x2 x3 x4 e).1 c k (by omega))⟩
theorem ze_ways {n : Nat} {σ : gI} {τ : gJ} {x1 x2 x3 x4 : Int32} (hn : n + 6 ≤ 3072) (hI : IC σ) (hz : ZN σ (1000 * (n : Int))) (hT : σ 1 2 = σ 199 13) (hE : TE σ) : okp (fun _ σ1 τ1 => Z5 (n + 6) σ1 τ1) (B_X12_ways_0 4294967296 σ τ x1 x2 x3 x4) := by
  obtain ⟨a, σ1, τ1, e, h⟩ := zc_ways (τ := τ) (x1 := x1) (x2 := x2) (x3 := x3) (x4 := x4) hn hI hz
  have f := (fr_B_X12_ways_0 4294967296 σ τ x1 x2 x3 x4 e).1
  exact ⟨a, σ1, τ1, e, h, by rw [f 1 2 (by omega), f 199 13 (by omega)]; exact hT, te_fr hE (f 1 2 (by omega)) (fun k => f 2 k (by omega)) (fun k => f 208 k (by omega))⟩
theorem zc_duel {n : Nat} {σ : gI} {τ : gJ} {x1 x2 x3 x4 x5 : Int32} (hn : n + 6 ≤ 3072) (hI : IC σ) (hz : ZN σ (1000 * (n : Int))) : okp (fun _ σ1 τ1 => Z (n + 6) σ1 τ1) (B_X12_duel_0 4294967296 σ τ x1 x2 x3 x4 x5) := by
  have hN : 4294967296 ≤ 4294967296 := Nat.le_refl _
  obtain ⟨g, h⟩ := hz
  refine z_end hn hI ?_ (fun a σ1 τ1 e c k hc => (fr_B_X12_duel_0 4294967296 σ τ x1 x2 x3 x4 x5 e).1 c k (by omega))
  obtain ⟨a, σ1, τ1, e, hQ⟩ := w_B_X12_duel_0 (τ := τ) (x1 := x1) (x2 := x2) (x3 := x3) (x4 := x4) (x5 := x5) hN h.1
  have h22 := h.2.1
  exact ⟨a, σ1, τ1, e, zn_q h hQ (by omega) (by omega) (fun c k hh => (fr_B_X12_duel_0 4294967296 σ τ x1 x2 x3 x4 x5 e).1 c k (by omega))⟩
theorem ze_duel {n : Nat} {σ : gI} {τ : gJ} {x1 x2 x3 x4 x5 : Int32} (hn : n + 6 ≤ 3072) (hI : IC σ) (hz : ZN σ (1000 * (n : Int))) (hT : σ 1 2 = σ 199 13) (hE : TE σ) : okp (fun _ σ1 τ1 => Z5 (n + 6) σ1 τ1) (B_X12_duel_0 4294967296 σ τ x1 x2 x3 x4 x5) := by
  obtain ⟨a, σ1, τ1, e, h⟩ := zc_duel (τ := τ) (x1 := x1) (x2 := x2) (x3 := x3) (x4 := x4) (x5 := x5) hn hI hz
  have f := (fr_B_X12_duel_0 4294967296 σ τ x1 x2 x3 x4 x5 e).1
  exact ⟨a, σ1, τ1, e, h, by rw [f 1 2 (by omega), f 199 13 (by omega)]; exact hT, te_fr hE (f 1 2 (by omega)) (fun k => f 2 k (by omega)) (fun k => f 208 k (by omega))⟩
theorem zc_cork {n : Nat} {σ : gI} {τ : gJ} {x1 x2 x3 : Int32} (hn : n + 6 ≤ 3072) (hI : IC σ) (hz : ZN σ (1000 * (n : Int))) : okp (fun _ σ1 τ1 => Z (n + 6) σ1 τ1) (B_X12_cork_0 4294967296 σ τ x1 x2 x3) := by
  have hN : 4294967296 ≤ 4294967296 := Nat.le_refl _
  obtain ⟨g, h⟩ := hz
  exact z_end hn hI (z_cork hN h (by omega)) (fun a σ1 τ1 e c k hc => (fr_B_X12_cork_0 4294967296 σ τ x1 x2 x3 e).1 c k (by omega))
theorem ze_cork {n : Nat} {σ : gI} {τ : gJ} {x1 x2 x3 : Int32} (hn : n + 6 ≤ 3072) (hI : IC σ) (hz : ZN σ (1000 * (n : Int))) (hT : σ 1 2 = σ 199 13) (hE : TE σ) : okp (fun _ σ1 τ1 => Z5 (n + 6) σ1 τ1) (B_X12_cork_0 4294967296 σ τ x1 x2 x3) := by
  obtain ⟨a, σ1, τ1, e, h⟩ := zc_cork (τ := τ) (x1 := x1) (x2 := x2) (x3 := x3) hn hI hz
  have f := (fr_B_X12_cork_0 4294967296 σ τ x1 x2 x3 e).1
  exact ⟨a, σ1, τ1, e, h, by rw [f 1 2 (by omega), f 199 13 (by omega)]; exact hT, te_fr hE (f 1 2 (by omega)) (fun k => f 2 k (by omega)) (fun k => f 208 k (by omega))⟩
theorem zc_forget {n : Nat} {σ : gI} {τ : gJ} (hn : n + 6 ≤ 3072) (hI : IC σ) (hz : ZN σ (1000 * (n : Int))) : okp (fun _ σ1 τ1 => Z (n + 6) σ1 τ1) (B_X12_forget_0 4294967296 σ τ) := by
  have hN : 4294967296 ≤ 4294967296 := Nat.le_refl _
  obtain ⟨g, h⟩ := hz
  exact z_end hn hI (z_forget h (by omega)) (fun a σ1 τ1 e c k hc => (fr_B_X12_forget_0 4294967296 σ τ e).1 c k (by omega))
theorem ze_forget {n : Nat} {σ : gI} {τ : gJ} (hn : n + 6 ≤ 3072) (hI : IC σ) (hz : ZN σ (1000 * (n : Int))) (hT : σ 1 2 = σ 199 13) (hE : TE σ) : okp (fun _ σ1 τ1 => Z5 (n + 6) σ1 τ1) (B_X12_forget_0 4294967296 σ τ) := by
  obtain ⟨a, σ1, τ1, e, h⟩ := zc_forget (τ := τ) hn hI hz
  have f := (fr_B_X12_forget_0 4294967296 σ τ e).1
  exact ⟨a, σ1, τ1, e, h, by rw [f 1 2 (by omega), f 199 13 (by omega)]; exact hT, te_fr hE (f 1 2 (by omega)) (fun k => f 2 k (by omega)) (fun k => f 208 k (by omega))⟩
theorem zc_maps {n : Nat} {σ : gI} {τ : gJ} (hn : n + 6 ≤ 3072) (hI : IC σ) (hz : ZN σ (1000 * (n : Int))) : okp (fun _ σ1 τ1 => Z (n + 6) σ1 τ1) (B_X12_maps_0 4294967296 σ τ) := by
  have hN : 4294967296 ≤ 4294967296 := Nat.le_refl _
  obtain ⟨g, h⟩ := hz
  refine z_end hn hI ?_ (fun a σ1 τ1 e c k hc => (fr_B_X12_maps_0 4294967296 σ τ e).1 c k (by omega))
  obtain ⟨a, σ1, τ1, e, hQ⟩ := w_B_X12_maps_0 (τ := τ) hN h.1
  have h22 := h.2.1
  exact ⟨a, σ1, τ1, e, zn_q h hQ (by omega) (by omega) (fun c k hh => (fr_B_X12_maps_0 4294967296 σ τ e).1 c k (by omega))⟩
theorem ze_maps {n : Nat} {σ : gI} {τ : gJ} (hn : n + 6 ≤ 3072) (hI : IC σ) (hz : ZN σ (1000 * (n : Int))) (hT : σ 1 2 = σ 199 13) (hE : TE σ) : okp (fun _ σ1 τ1 => Z5 (n + 6) σ1 τ1) (B_X12_maps_0 4294967296 σ τ) := by
  obtain ⟨a, σ1, τ1, e, h⟩ := zc_maps (τ := τ) hn hI hz
  have f := (fr_B_X12_maps_0 4294967296 σ τ e).1
  exact ⟨a, σ1, τ1, e, h, by rw [f 1 2 (by omega), f 199 13 (by omega)]; exact hT, te_fr hE (f 1 2 (by omega)) (fun k => f 2 k (by omega)) (fun k => f 208 k (by omega))⟩
theorem zc_next {n : Nat} {σ : gI} {τ : gJ} {x1 : Int32} (hn : n + 6 ≤ 3072) (hI : IC σ) (hz : ZN σ (1000 * (n : Int))) : okp (fun _ σ1 τ1 => Z (n + 6) σ1 τ1) (B_X12_next_0 4294967296 σ τ x1) := by
  have hN : 4294967296 ≤ 4294967296 := Nat.le_refl _
  obtain ⟨g, h⟩ := hz
  refine z_end hn hI ?_ (fun a σ1 τ1 e c k hc => (fr_B_X12_next_0 4294967296 σ τ x1 e).1 c k (by omega))
  obtain ⟨a, σ1, τ1, e, hQ⟩ := w_B_X12_next_0 (τ := τ) (x1 := x1) hN h.1
  have h22 := h.2.1
  exact ⟨a, σ1, τ1, e, zn_q h hQ (by omega) (by omega) (fun c k hh => (fr_B_X12_next_0 4294967296 σ τ x1 e).1 c k (by omega))⟩
theorem ze_next {n : Nat} {σ : gI} {τ : gJ} {x1 : Int32} (hn : n + 6 ≤ 3072) (hI : IC σ) (hz : ZN σ (1000 * (n : Int))) (hT : σ 1 2 = σ 199 13) (hE : TE σ) : okp (fun _ σ1 τ1 => Z5 (n + 6) σ1 τ1) (B_X12_next_0 4294967296 σ τ x1) := by
  obtain ⟨a, σ1, τ1, e, h⟩ := zc_next (τ := τ) (x1 := x1) hn hI hz
  have f := (fr_B_X12_next_0 4294967296 σ τ x1 e).1
  exact ⟨a, σ1, τ1, e, h, by rw [f 1 2 (by omega), f 199 13 (by omega)]; exact hT, te_fr hE (f 1 2 (by omega)) (fun k => f 2 k (by omega)) (fun k => f 208 k (by omega))⟩
theorem zc_odds {n : Nat} {σ : gI} {τ : gJ} {x1 x2 x3 : Int32} (hn : n + 6 ≤ 3072) (hI : IC σ) (hz : ZN σ (1000 * (n : Int))) : okp (fun _ σ1 τ1 => Z (n + 6) σ1 τ1) (B_X12_odds_0 4294967296 σ τ x1 x2 x3) := by
  have hN : 4294967296 ≤ 4294967296 := Nat.le_refl _
  obtain ⟨g, h⟩ := hz
  refine z_end hn hI ?_ (fun a σ1 τ1 e c k hc => (fr_B_X12_odds_0 4294967296 σ τ x1 x2 x3 e).1 c k (by omega))
  obtain ⟨a, σ1, τ1, e, hQ⟩ := w_B_X12_odds_0 (τ := τ) (x1 := x1) (x2 := x2) (x3 := x3) hN h.1
  have h22 := h.2.1
  exact ⟨a, σ1, τ1, e, zn_q h hQ (by omega) (by omega) (fun c k hh => (fr_B_X12_odds_0 4294967296 σ τ x1 x2 x3 e).1 c k (by omega))⟩
theorem ze_odds {n : Nat} {σ : gI} {τ : gJ} {x1 x2 x3 : Int32} (hn : n + 6 ≤ 3072) (hI : IC σ) (hz : ZN σ (1000 * (n : Int))) (hT : σ 1 2 = σ 199 13) (hE : TE σ) : okp (fun _ σ1 τ1 => Z5 (n + 6) σ1 τ1) (B_X12_odds_0 4294967296 σ τ x1 x2 x3) := by
  obtain ⟨a, σ1, τ1, e, h⟩ := zc_odds (τ := τ) (x1 := x1) (x2 := x2) (x3 := x3) hn hI hz
  have f := (fr_B_X12_odds_0 4294967296 σ τ x1 x2 x3 e).1
  exact ⟨a, σ1, τ1, e, h, by rw [f 1 2 (by omega), f 199 13 (by omega)]; exact hT, te_fr hE (f 1 2 (by omega)) (fun k => f 2 k (by omega)) (fun k => f 208 k (by omega))⟩
theorem zc_marks {n : Nat} {σ : gI} {τ : gJ} {x1 x2 x3 : Int32} (hn : n + 6 ≤ 3072) (hI : IC σ) (hz : ZN σ (1000 * (n : Int))) : okp (fun _ σ1 τ1 => Z (n + 6) σ1 τ1) (B_X12_marks_0 4294967296 σ τ x1 x2 x3) := by
  have hN : 4294967296 ≤ 4294967296 := Nat.le_refl _
  obtain ⟨g, h⟩ := hz
  refine z_end hn hI ?_ (fun a σ1 τ1 e c k hc => (fr_B_X12_marks_0 4294967296 σ τ x1 x2 x3 e).1 c k (by omega))
  obtain ⟨a, σ1, τ1, e, hQ⟩ := w_B_X12_marks_0 (τ := τ) (x1 := x1) (x2 := x2) (x3 := x3) hN h.1
  have h22 := h.2.1
  exact ⟨a, σ1, τ1, e, zn_q h hQ (by omega) (by omega) (fun c k hh => (fr_B_X12_marks_0 4294967296 σ τ x1 x2 x3 e).1 c k (by omega))⟩
theorem ze_marks {n : Nat} {σ : gI} {τ : gJ} {x1 x2 x3 : Int32} (hn : n + 6 ≤ 3072) (hI : IC σ) (hz : ZN σ (1000 * (n : Int))) (hT : σ 1 2 = σ 199 13) (hE : TE σ) : okp (fun _ σ1 τ1 => Z5 (n + 6) σ1 τ1) (B_X12_marks_0 4294967296 σ τ x1 x2 x3) := by
  obtain ⟨a, σ1, τ1, e, h⟩ := zc_marks (τ := τ) (x1 := x1) (x2 := x2) (x3 := x3) hn hI hz
  have f := (fr_B_X12_marks_0 4294967296 σ τ x1 x2 x3 e).1
  exact ⟨a, σ1, τ1, e, h, by rw [f 1 2 (by omega), f 199 13 (by omega)]; exact hT, te_fr hE (f 1 2 (by omega)) (fun k => f 2 k (by omega)) (fun k => f 208 k (by omega))⟩
theorem zc_order {n : Nat} {σ : gI} {τ : gJ} {x1 x2 : Int32} (hn : n + 6 ≤ 3072) (hI : IC σ) (hz : ZN σ (1000 * (n : Int))) : okp (fun _ σ1 τ1 => Z (n + 6) σ1 τ1) (B_X12_order_0 4294967296 σ τ x1 x2) := by
  have hN : 4294967296 ≤ 4294967296 := Nat.le_refl _
  obtain ⟨g, h⟩ := hz
  refine z_end hn hI ?_ (fun a σ1 τ1 e c k hc => (fr_B_X12_order_0 4294967296 σ τ x1 x2 e).1 c k (by omega))
  obtain ⟨a, σ1, τ1, e, hQ⟩ := z_order (τ := τ) (x1 := x1) (x2 := x2) hN h (Int.le_refl _)
  have h22 := h.2.1
  exact ⟨a, σ1, τ1, e, zn_q h hQ (by omega) (by omega) (fun c k hh => (fr_B_X12_order_0 4294967296 σ τ x1 x2 e).1 c k (by omega))⟩
theorem ze_order {n : Nat} {σ : gI} {τ : gJ} {x1 x2 : Int32} (hn : n + 6 ≤ 3072) (hI : IC σ) (hz : ZN σ (1000 * (n : Int))) (hT : σ 1 2 = σ 199 13) (hE : TE σ) : okp (fun _ σ1 τ1 => Z5 (n + 6) σ1 τ1) (B_X12_order_0 4294967296 σ τ x1 x2) := by
  obtain ⟨a, σ1, τ1, e, h⟩ := zc_order (τ := τ) (x1 := x1) (x2 := x2) hn hI hz
  have f := (fr_B_X12_order_0 4294967296 σ τ x1 x2 e).1
  exact ⟨a, σ1, τ1, e, h, by rw [f 1 2 (by omega), f 199 13 (by omega)]; exact hT, te_fr hE (f 1 2 (by omega)) (fun k => f 2 k (by omega)) (fun k => f 208 k (by omega))⟩
theorem zc_keep {n : Nat} {σ : gI} {τ : gJ} {x1 : Int32} (hn : n + 6 ≤ 3072) (hI : IC σ) (hz : ZN σ (1000 * (n : Int))) : okp (fun _ σ1 τ1 => Z (n + 6) σ1 τ1) (B_X12_keep_0 4294967296 σ τ x1) := by
  have hN : 4294967296 ≤ 4294967296 := Nat.le_refl _
  obtain ⟨g, h⟩ := hz
  exact z_end hn hI (ok_mono (fun _ _ _ h => h.2.2) (z_keep hN h (by omega) (by omega))) (fun a σ1 τ1 e c k hc => (fr_B_X12_keep_0 4294967296 σ τ x1 e).1 c k (by omega))
theorem ze_keep {n : Nat} {σ : gI} {τ : gJ} {x1 : Int32} (hn : n + 6 ≤ 3072) (hI : IC σ) (hz : ZN σ (1000 * (n : Int))) (hT : σ 1 2 = σ 199 13) (hE : TE σ) : okp (fun _ σ1 τ1 => Z5 (n + 6) σ1 τ1) (B_X12_keep_0 4294967296 σ τ x1) := by
  obtain ⟨a, σ1, τ1, e, h⟩ := zc_keep (τ := τ) (x1 := x1) hn hI hz
  have f := (fr_B_X12_keep_0 4294967296 σ τ x1 e).1
  exact ⟨a, σ1, τ1, e, h, by rw [f 1 2 (by omega), f 199 13 (by omega)]; exact hT, te_fr hE (f 1 2 (by omega)) (fun k => f 2 k (by omega)) (fun k => f 208 k (by omega))⟩
theorem zc_again {n : Nat} {σ : gI} {τ : gJ} {x1 : Int32} (hn : n + 6 ≤ 3072) (hI : IC σ) (hz : ZN σ (1000 * (n : Int))) : okp (fun _ σ1 τ1 => Z (n + 6) σ1 τ1) (B_X12_again_0 4294967296 σ τ x1) := by
  have hN : 4294967296 ≤ 4294967296 := Nat.le_refl _
  obtain ⟨g, h⟩ := hz
  exact z_end hn hI (z_again hN h (by omega) (by omega)) (fun a σ1 τ1 e c k hc => (fr_B_X12_again_0 4294967296 σ τ x1 e).1 c k (by omega))
theorem ze_again {n : Nat} {σ : gI} {τ : gJ} {x1 : Int32} (hn : n + 6 ≤ 3072) (hI : IC σ) (hz : ZN σ (1000 * (n : Int))) (hT : σ 1 2 = σ 199 13) (hE : TE σ) : okp (fun _ σ1 τ1 => Z5 (n + 6) σ1 τ1) (B_X12_again_0 4294967296 σ τ x1) := by
  obtain ⟨a, σ1, τ1, e, h⟩ := zc_again (τ := τ) (x1 := x1) hn hI hz
  have f := (fr_B_X12_again_0 4294967296 σ τ x1 e).1
  exact ⟨a, σ1, τ1, e, h, by rw [f 1 2 (by omega), f 199 13 (by omega)]; exact hT, te_fr hE (f 1 2 (by omega)) (fun k => f 2 k (by omega)) (fun k => f 208 k (by omega))⟩
theorem zc_count {n : Nat} {σ : gI} {τ : gJ} {x1 : Int32} (hn : n + 6 ≤ 3072) (hI : IC σ) (hz : ZN σ (1000 * (n : Int))) : okp (fun _ σ1 τ1 => Z (n + 6) σ1 τ1) (B_X12_count_0 4294967296 σ τ x1) := by
  have hN : 4294967296 ≤ 4294967296 := Nat.le_refl _
  obtain ⟨g, h⟩ := hz
  refine z_end hn hI ?_ (fun a σ1 τ1 e c k hc => (fr_B_X12_count_0 4294967296 σ τ x1 e).1 c k (by omega))
  obtain ⟨a, σ1, τ1, e, hQ⟩ := w_B_X12_count_0 (τ := τ) (x1 := x1) hN h.1
  have h22 := h.2.1
  exact ⟨a, σ1, τ1, e, zn_q h hQ (by omega) (by omega) (fun c k hh => (fr_B_X12_count_0 4294967296 σ τ x1 e).1 c k (by omega))⟩
theorem ze_count {n : Nat} {σ : gI} {τ : gJ} {x1 : Int32} (hn : n + 6 ≤ 3072) (hI : IC σ) (hz : ZN σ (1000 * (n : Int))) (hT : σ 1 2 = σ 199 13) (hE : TE σ) : okp (fun _ σ1 τ1 => Z5 (n + 6) σ1 τ1) (B_X12_count_0 4294967296 σ τ x1) := by
  obtain ⟨a, σ1, τ1, e, h⟩ := zc_count (τ := τ) (x1 := x1) hn hI hz
  have f := (fr_B_X12_count_0 4294967296 σ τ x1 e).1
  exact ⟨a, σ1, τ1, e, h, by rw [f 1 2 (by omega), f 199 13 (by omega)]; exact hT, te_fr hE (f 1 2 (by omega)) (fun k => f 2 k (by omega)) (fun k => f 208 k (by omega))⟩
theorem zc_row {n : Nat} {σ : gI} {τ : gJ} {x1 : Int32} (hn : n + 6 ≤ 3072) (hI : IC σ) (hz : ZN σ (1000 * (n : Int))) : okp (fun _ σ1 τ1 => Z (n + 6) σ1 τ1) (B_X12_row_0 4294967296 σ τ x1) := by
  have hN : 4294967296 ≤ 4294967296 := Nat.le_refl _
  obtain ⟨g, h⟩ := hz
  exact z_end hn hI (z_row hN h (by omega)) (fun a σ1 τ1 e c k hc => (fr_B_X12_row_0 4294967296 σ τ x1 e).1 c k (by omega))
theorem ze_row {n : Nat} {σ : gI} {τ : gJ} {x1 : Int32} (hn : n + 6 ≤ 3072) (hI : IC σ) (hz : ZN σ (1000 * (n : Int))) (hT : σ 1 2 = σ 199 13) (hE : TE σ) : okp (fun _ σ1 τ1 => Z5 (n + 6) σ1 τ1) (B_X12_row_0 4294967296 σ τ x1) := by
  obtain ⟨a, σ1, τ1, e, h⟩ := zc_row (τ := τ) (x1 := x1) hn hI hz
  have f := (fr_B_X12_row_0 4294967296 σ τ x1 e).1
  exact ⟨a, σ1, τ1, e, h, by rw [f 1 2 (by omega), f 199 13 (by omega)]; exact hT, te_fr hE (f 1 2 (by omega)) (fun k => f 2 k (by omega)) (fun k => f 208 k (by omega))⟩
theorem lq_z : lq Z5 4294967296 := by
  intro σ τ xs n hn hz
  obtain ⟨⟨hI, hz⟩, hT, hE⟩ := hz
  have hN : 4294967296 ≤ 4294967296 := Nat.le_refl _
  have h13 := zn_13 hz
  have h12 : 0 ≤ (σ 1 2).toInt ∧ (σ 1 2).toInt ≤ 80 := by rw [hT]; exact h13
  refine ⟨⟨⟨hI, ?_⟩, hT, hE⟩, ?_, ?_, ?_, ?_, ?_, ?_, ?_, ?_, ?_, ?_, ?_, ?_, ?_, ?_, ?_, ?_, ?_, ?_, ?_, ?_, ?_, ?_, ?_, ?_, ?_, ?_, ?_, ?_, ?_, ?_, ?_, ?_, ?_, ?_, ?_, ?_, ?_, ?_, ?_, ?_, ?_⟩
  · obtain ⟨g, h⟩ := hz
    exact zm_n h (by omega)
  · refine ok_v (lq_c5 (Q := fun (a b : Int32) => a = b) (so_sign h12.2) (fun _ _ _ h => ⟨fun c k hc => h c k (by omega), fun hI => ic_fr2 hI (fun c k hc => h c k (by omega))⟩) hI hz (fun a σ1 τ1 e hk hI1 hz1 => ?_))
    obtain ⟨b, σ2, τ2, e2, h2⟩ := zc_sign (τ := τ1) (x1 := xs (n + 1)) hn hI1 hz1
    have F2 := (fr_B_X12_sign_0 4294967296 σ1 τ1 _ e2).1
    have g1 : σ1 199 13 = σ 1 2 := (hk 199 13 (by omega)).trans hT.symm
    have q2 := xr_sign e2
    rw [g1] at q2
    have l76 : (76 : Int32).toInt = 76 := rfl
    rcases xt_sign h12.1 e with ⟨c1, r1, w1⟩ | ⟨c1, r1, w1⟩ <;> rcases q2 with ⟨c2, r2, w2⟩ | ⟨c2, r2, w2⟩
    · refine ⟨b, σ2, τ2, e2, r1.trans r2.symm, h2, by rw [F2 1 2 (by omega), w1, w2], fun k hk2 => ?_⟩
      rw [fa_le] at c1
      have t1 := xt_sign2 (by omega) e
      have t2 := xr_sign2 (by rw [g1]; omega) e2
      rw [g1] at t2
      rw [F2 1 2 (by omega), w1, ti_add (by have : (4 : Int32).toInt = 4 := rfl; omega) (by have : (4 : Int32).toInt = 4 := rfl; omega), show (4 : Int32).toInt = 4 from rfl] at hk2
      rw [F2 2 k (by omega)]
      by_cases hkl : (k : Int) < (σ 1 2).toInt
      · rw [t1.1 k hkl, t2.1 k hkl, hk 208 k (by omega)]
        exact hE k hkl
      · rcases (show k = (σ 1 2).toInt.toNat + 0 ∨ k = (σ 1 2).toInt.toNat + 1 ∨ k = (σ 1 2).toInt.toNat + 2 ∨ k = (σ 1 2).toInt.toNat + 3 by omega) with z | z | z | z
        · rw [z, t2.2 0 (by omega)]
          have w9 : σ1 2 ((σ 1 2).toInt.toNat + 0) = sg (xs (n + 1)) (Int32.ofInt (0 : Nat)) := t1.2.1
          rw [w9]
          exact ⟨rfl, sg_rng _ _⟩
        · rw [z, t2.2 1 (by omega)]
          have w9 : σ1 2 ((σ 1 2).toInt.toNat + 1) = sg (xs (n + 1)) (Int32.ofInt (1 : Nat)) := t1.2.2.1
          rw [w9]
          exact ⟨rfl, sg_rng _ _⟩
        · rw [z, t2.2 2 (by omega)]
          have w9 : σ1 2 ((σ 1 2).toInt.toNat + 2) = sg (xs (n + 1)) (Int32.ofInt (2 : Nat)) := t1.2.2.2.1
          rw [w9]
          exact ⟨rfl, sg_rng _ _⟩
        · rw [z, t2.2 3 (by omega)]
          have w9 : σ1 2 ((σ 1 2).toInt.toNat + 3) = sg (xs (n + 1)) (Int32.ofInt (3 : Nat)) := t1.2.2.2.2
          rw [w9]
          exact ⟨rfl, sg_rng _ _⟩
    · exact absurd c1 c2
    · exact absurd c2 c1
    · refine ⟨b, σ2, τ2, e2, r1.trans r2.symm, h2, by rw [F2 1 2 (by omega), w1, w2], ?_⟩
      exact te_sf hE h12.2 c1 e e2 hk g1 (by rw [F2 1 2 (by omega), w1])
  · refine ok_v (lq_c5 (Q := fun (a b : Int32) => a = b) (s_B_X11_end_0 4294967296 hN σ τ (xs (n + 1)) hI) (fun _ _ _ h => k5 (k0_q0 h)) hI hz (fun a σ1 τ1 e hk hI1 hz1 => ?_))
    obtain ⟨b, σ2, τ2, e2, h2⟩ := zc_end (τ := τ1) (x1 := xs (n + 1)) hn hI1 hz1
    have F2 := (fr_B_X12_end_0 4294967296 σ1 τ1 _ e2).1
    have K := (k0_q0 hk).1
    have g1 : σ1 199 13 = σ 1 2 := (K 199 13 (by omega)).trans hT.symm
    have q2 := xr_end e2
    rw [g1] at q2
    have E2 : ∀ k : Nat, (k : Int) < (σ 1 2).toInt → σ2 2 k = σ2 208 k ∧ (σ2 2 k).toInt ≤ 255 := fun k hk2 => by rw [F2 2 k (by omega), F2 208 k (by omega), K 2 k (by omega), K 208 k (by omega)]; exact hE k hk2
    rcases xt_end e with ⟨c1, r1, w1⟩ | ⟨c1, r1, w1⟩ <;> rcases q2 with ⟨c2, r2, w2⟩ | ⟨c2, r2, w2⟩
    · exact ⟨b, σ2, τ2, e2, r1.trans r2.symm, h2, by rw [F2 1 2 (by omega), w1, w2], fun k hk2 => E2 k (by rw [F2 1 2 (by omega), w1] at hk2; omega)⟩
    · exact absurd c1 c2
    · exact absurd c2 c1
    · exact ⟨b, σ2, τ2, e2, r1.trans r2.symm, h2, by rw [F2 1 2 (by omega), w1, w2], fun k hk2 => E2 k (by rw [F2 1 2 (by omega), w1] at hk2; exact hk2)⟩
  · refine ok_u (lq_c5 (Q := fun _ _ => True) (s_B_X11_town_0 4294967296 hN σ τ hI) (fun _ _ _ h => k5 (k0_q0 h)) hI hz (fun a σ1 τ1 e hk hI1 hz1 => ?_))
    obtain ⟨b, σ2, τ2, e2, h2⟩ := zc_town (τ := τ1) hn hI1 hz1
    have w2 : σ2 1 2 = 0 := ((fr_B_X12_town_0 4294967296 σ1 τ1 e2).1 1 2 (by omega)).trans (xt_town hN hI h12.1 e)
    refine ⟨b, σ2, τ2, e2, trivial, h2, w2.trans (xr_town e2).symm, te_0 w2⟩
  · refine ok_u (lq_c5 (Q := fun _ _ => True) (s_B_X11_water_0 4294967296 hN σ τ hI) (fun _ _ _ h => k5 (k0_q0 h)) hI hz (fun a σ1 τ1 e hk hI1 hz1 => ?_))
    obtain ⟨b, σ2, τ2, e2, h2⟩ := zc_water (τ := τ1) hn hI1 hz1
    have w2 : σ2 1 2 = 0 := ((fr_B_X12_water_0 4294967296 σ1 τ1 e2).1 1 2 (by omega)).trans (xt_water hN hI h12.1 e)
    refine ⟨b, σ2, τ2, e2, trivial, h2, w2.trans (xr_water e2).symm, te_0 w2⟩
  · refine lq_c5 (Q := fun (a b : Int32) => a = b) (s_B_X11_rule_0 4294967296 hN σ τ hI) (fun _ _ _ h => k5 (k0_q0 h)) hI hz (fun a σ1 τ1 e hk hI1 hz1 => ?_)
    obtain ⟨b, σ2, τ2, e2, h2⟩ := zc_rule (τ := τ1) hn hI1 hz1
    have w2 : σ2 1 2 = 0 := ((fr_B_X12_rule_0 4294967296 σ1 τ1 e2).1 1 2 (by omega)).trans (xt_rule hN hI h12.1 e)
    refine ⟨b, σ2, τ2, e2, ?_, h2, w2.trans (xr_rule e2).symm, te_0 w2⟩
    unfold B_X11_rule_0 at e
    obtain ⟨r1, s1, t1, q1, e⟩ := bd_some e
    obtain ⟨r3, s3, t3, q3, e⟩ := bd_some e
    have m1 : r1 = a := by
      by_cases c : r1 < 0
      · rw [if_pos c] at e
        exact (sm_inj e).1
      · rw [if_neg c] at e
        obtain ⟨u4, s4, t4, q4, e⟩ := bd_some e
        exact (sm_inj e).1
    have g13 : σ1 199 13 = σ 1 2 := ((k0_q0 hk).1 199 13 (by omega)).trans hT.symm
    have u2 := x_read5 h12 (fun k hk2 => (hE k hk2).2) q1
    have v2 := x_rule12 (by rw [g13]; exact h12) e2
    rw [g13] at v2
    rw [← m1, fa_eq, u2, v2, lk_two40 (t := σ 2) (t1 := σ1 208) h12.1 (fun k hk2 => (hE k hk2).1.trans ((k0_q0 hk).1 208 k (by omega)).symm)]
  · exact ⟨hI, fun τ9 _ => ze_place hn hI hz hT hE⟩
  · exact ⟨hI, fun τ9 _ => ze_of hn hI hz hT hE⟩
  · refine ok_u (lq_c5 (Q := fun _ _ => True) (s_B_X11_flow_0 4294967296 hN σ τ (xs (n + 1)) hI) (fun _ _ _ h => k5 (k0_qe h)) hI hz (fun _ σ1 τ1 _ hk hI1 hz1 => ok_t (ze_flow hn hI1 hz1 ?_ ?_)))
    · rw [hk.2.1]
      exact hT
    · rw [hk.2.1]
      exact hE
  · refine ok_u (lq_c5 (Q := fun _ _ => True) (s_B_X11_plank_0 4294967296 hN σ τ (xs (n + 1)) (xs (n + 2)) hI) (fun _ _ _ h => k5 (k0_q h)) hI hz (fun _ σ1 τ1 _ hk hI1 hz1 => ok_t (ze_plank hn hI1 hz1 ?_ ?_)))
    · rw [hk.2.1.2, hk.2.1.1.1 199 13 (by omega)]
      exact hT
    · exact te_fr hE hk.2.1.2 (fun k => hk.2.1.1.1 2 k (by omega)) (fun k => hk.2.1.1.1 208 k (by omega))
  · refine ok_u (lq_c5 (Q := fun _ _ => True) (s_B_X11_sheet_0 4294967296 hN σ τ (xs (n + 1)) (xs (n + 2)) (xs (n + 3)) (xs (n + 4)) hI) (fun _ _ _ h => k5 (k0_q h)) hI hz (fun _ σ1 τ1 _ hk hI1 hz1 => ok_t (ze_sheet hn hI1 hz1 ?_ ?_)))
    · rw [hk.2.1.2, hk.2.1.1.1 199 13 (by omega)]
      exact hT
    · exact te_fr hE hk.2.1.2 (fun k => hk.2.1.1.1 2 k (by omega)) (fun k => hk.2.1.1.1 208 k (by omega))
  · refine ok_u (lq_c5 (Q := fun _ _ => True) (s_B_X11_put_0 4294967296 hN σ τ (xs (n + 1)) (xs (n + 2)) (xs (n + 3)) (xs (n + 4)) hI) (fun _ _ _ h => k5 (k0_q h)) hI hz (fun _ σ1 τ1 _ hk hI1 hz1 => ok_t (ze_put hn hI1 hz1 ?_ ?_)))
    · rw [hk.2.1.2, hk.2.1.1.1 199 13 (by omega)]
      exact hT
    · exact te_fr hE hk.2.1.2 (fun k => hk.2.1.1.1 2 k (by omega)) (fun k => hk.2.1.1.1 208 k (by omega))
  · refine ok_u (lq_c5 (Q := fun _ _ => True) (s_B_X11_give_0 4294967296 hN σ τ (xs (n + 1)) (xs (n + 2)) hI) (fun _ _ _ h => k5 (k0_q h)) hI hz (fun _ σ1 τ1 _ hk hI1 hz1 => ok_t (ze_give hn hI1 hz1 ?_ ?_)))
    · rw [hk.2.1.2, hk.2.1.1.1 199 13 (by omega)]
      exact hT
    · exact te_fr hE hk.2.1.2 (fun k => hk.2.1.1.1 2 k (by omega)) (fun k => hk.2.1.1.1 208 k (by omega))
  · refine ok_u (lq_c5 (Q := fun _ _ => True) (s_B_X11_run_0 4294967296 hN σ τ (xs (n + 1)) hI) (fun _ _ _ h => k5 (k0_q h)) hI hz (fun _ σ1 τ1 _ hk hI1 hz1 => ok_t (ze_run hn hI1 hz1 ?_ ?_)))
    · rw [hk.2.1.2, hk.2.1.1.1 199 13 (by omega)]
      exact hT
    · exact te_fr hE hk.2.1.2 (fun k => hk.2.1.1.1 2 k (by omega)) (fun k => hk.2.1.1.1 208 k (by omega))
  · refine ok_u (lq_c5 (Q := fun _ _ => True) (s_B_X11_day_0 4294967296 hN σ τ hI) (fun _ _ _ h => k5 (k0_q0 h)) hI hz (fun a σ1 τ1 e hk hI1 hz1 => ?_))
    obtain ⟨b, σ2, τ2, e2, h2⟩ := zc_day (τ := τ1) hn hI1 hz1
    have w2 : σ2 1 2 = 0 := ((fr_B_X12_day_0 4294967296 σ1 τ1 e2).1 1 2 (by omega)).trans (xt_day hN hI h12.1 e)
    refine ⟨b, σ2, τ2, e2, trivial, h2, w2.trans (xr_day e2).symm, te_0 w2⟩
  · refine ok_u (lq_c5 (Q := fun _ _ => True) (s_B_X11_undo_0 4294967296 hN σ τ hI) (fun _ _ _ h => k5 (k0_q h)) hI hz (fun _ σ1 τ1 _ hk hI1 hz1 => ok_t (ze_undo hn hI1 hz1 ?_ ?_)))
    · rw [hk.2.1.2, hk.2.1.1.1 199 13 (by omega)]
      exact hT
    · exact te_fr hE hk.2.1.2 (fun k => hk.2.1.1.1 2 k (by omega)) (fun k => hk.2.1.1.1 208 k (by omega))
  · refine ok_u (lq_c5 (Q := fun _ _ => True) (s_B_X11_where_0 4294967296 hN σ τ (xs (n + 1)) (xs (n + 2)) hI) (fun _ _ _ h => k5 (k0_q h)) hI hz (fun _ σ1 τ1 _ hk hI1 hz1 => ok_t (ze_where hn hI1 hz1 ?_ ?_)))
    · rw [hk.2.1.2, hk.2.1.1.1 199 13 (by omega)]
      exact hT
    · exact te_fr hE hk.2.1.2 (fun k => hk.2.1.1.1 2 k (by omega)) (fun k => hk.2.1.1.1 208 k (by omega))
  · refine ok_u (lq_c5 (Q := fun _ _ => True) (s_B_X11_comes_0 4294967296 hN σ τ (xs (n + 1)) hI) (fun _ _ _ h => k5 (k0_q h)) hI hz (fun _ σ1 τ1 _ hk hI1 hz1 => ok_t (ze_comes hn hI1 hz1 ?_ ?_)))
    · rw [hk.2.1.2, hk.2.1.1.1 199 13 (by omega)]
      exact hT
    · exact te_fr hE hk.2.1.2 (fun k => hk.2.1.1.1 2 k (by omega)) (fun k => hk.2.1.1.1 208 k (by omega))
  · refine ok_u (lq_c5 (Q := fun _ _ => True) (s_B_X11_lost_0 4294967296 hN σ τ (xs (n + 1)) hI) (fun _ _ _ h => k5 (k0_q h)) hI hz (fun _ σ1 τ1 _ hk hI1 hz1 => ok_t (ze_lost hn hI1 hz1 ?_ ?_)))
    · rw [hk.2.1.2, hk.2.1.1.1 199 13 (by omega)]
      exact hT
    · exact te_fr hE hk.2.1.2 (fun k => hk.2.1.1.1 2 k (by omega)) (fun k => hk.2.1.1.1 208 k (by omega))
  · refine ok_u (lq_c5 (Q := fun _ _ => True) (s_B_X11_homes_0 4294967296 hN σ τ (xs (n + 1)) hI) (fun _ _ _ h => k5 (k0_q h)) hI hz (fun _ σ1 τ1 _ hk hI1 hz1 => ok_t (ze_homes hn hI1 hz1 ?_ ?_)))
    · rw [hk.2.1.2, hk.2.1.1.1 199 13 (by omega)]
      exact hT
    · exact te_fr hE hk.2.1.2 (fun k => hk.2.1.1.1 2 k (by omega)) (fun k => hk.2.1.1.1 208 k (by omega))
  · refine ok_u (lq_c5 (Q := fun _ _ => True) (s_B_X11_sail_0 4294967296 hN σ τ (xs (n + 1)) (xs (n + 2)) (xs (n + 3)) (xs (n + 4)) (xs (n + 5)) hI) (fun _ _ _ h => k5 (k0_q h)) hI hz (fun _ σ1 τ1 _ hk hI1 hz1 => ok_t (ze_sail hn hI1 hz1 ?_ ?_)))
    · rw [hk.2.1.2, hk.2.1.1.1 199 13 (by omega)]
      exact hT
    · exact te_fr hE hk.2.1.2 (fun k => hk.2.1.1.1 2 k (by omega)) (fun k => hk.2.1.1.1 208 k (by omega))
  · refine ok_u (lq_c5 (Q := fun _ _ => True) (s_B_X11_soonest_0 4294967296 hN σ τ (xs (n + 1)) (xs (n + 2)) (xs (n + 3)) hI) (fun _ _ _ h => k5 (k0_q h)) hI hz (fun _ σ1 τ1 _ hk hI1 hz1 => ok_t (ze_soonest hn hI1 hz1 ?_ ?_)))
    · rw [hk.2.1.2, hk.2.1.1.1 199 13 (by omega)]
      exact hT
    · exact te_fr hE hk.2.1.2 (fun k => hk.2.1.1.1 2 k (by omega)) (fun k => hk.2.1.1.1 208 k (by omega))
  · refine ok_u (lq_c5 (Q := fun _ _ => True) (s_B_X11_basin_0 4294967296 hN σ τ (xs (n + 1)) (xs (n + 2)) (xs (n + 3)) hI) (fun _ _ _ h => k5 (k0_q h)) hI hz (fun _ σ1 τ1 _ hk hI1 hz1 => ok_t (ze_basin hn hI1 hz1 ?_ ?_)))
    · rw [hk.2.1.2, hk.2.1.1.1 199 13 (by omega)]
      exact hT
    · exact te_fr hE hk.2.1.2 (fun k => hk.2.1.1.1 2 k (by omega)) (fun k => hk.2.1.1.1 208 k (by omega))
  · refine ok_u (lq_c5 (Q := fun _ _ => True) (s_B_X11_boat_0 4294967296 hN σ τ (xs (n + 1)) (xs (n + 2)) (xs (n + 3)) hI) (fun _ _ _ h => k5 (k0_q h)) hI hz (fun _ σ1 τ1 _ hk hI1 hz1 => ok_t (ze_boat hn hI1 hz1 ?_ ?_)))
    · rw [hk.2.1.2, hk.2.1.1.1 199 13 (by omega)]
      exact hT
    · exact te_fr hE hk.2.1.2 (fun k => hk.2.1.1.1 2 k (by omega)) (fun k => hk.2.1.1.1 208 k (by omega))
  · refine ok_u (lq_c5 (Q := fun _ _ => True) (s_B_X11_coins_0 4294967296 hN σ τ (xs (n + 1)) (xs (n + 2)) (xs (n + 3)) hI) (fun _ _ _ h => k5 (k0_q h)) hI hz (fun _ σ1 τ1 _ hk hI1 hz1 => ok_t (ze_coins hn hI1 hz1 ?_ ?_)))
    · rw [hk.2.1.2, hk.2.1.1.1 199 13 (by omega)]
      exact hT
    · exact te_fr hE hk.2.1.2 (fun k => hk.2.1.1.1 2 k (by omega)) (fun k => hk.2.1.1.1 208 k (by omega))
  · refine ok_u (lq_c5 (Q := fun _ _ => True) (s_B_X11_waits_0 4294967296 hN σ τ (xs (n + 1)) (xs (n + 2)) (xs (n + 3)) (xs (n + 4)) hI) (fun _ _ _ h => k5 (k0_q h)) hI hz (fun _ σ1 τ1 _ hk hI1 hz1 => ok_t (ze_waits hn hI1 hz1 ?_ ?_)))
    · rw [hk.2.1.2, hk.2.1.1.1 199 13 (by omega)]
      exact hT
    · exact te_fr hE hk.2.1.2 (fun k => hk.2.1.1.1 2 k (by omega)) (fun k => hk.2.1.1.1 208 k (by omega))
  · refine ok_u (lq_c5 (Q := fun _ _ => True) (s_B_X11_round_0 4294967296 hN σ τ (xs (n + 1)) hI) (fun _ _ _ h => k5 (k0_q h)) hI hz (fun _ σ1 τ1 _ hk hI1 hz1 => ok_t (ze_round hn hI1 hz1 ?_ ?_)))
    · rw [hk.2.1.2, hk.2.1.1.1 199 13 (by omega)]
      exact hT
    · exact te_fr hE hk.2.1.2 (fun k => hk.2.1.1.1 2 k (by omega)) (fun k => hk.2.1.1.1 208 k (by omega))
  · refine ok_u (lq_c5 (Q := fun _ _ => True) (s_B_X11_save_0 4294967296 hN σ τ (xs (n + 1)) hI) (fun _ _ _ h => k5 (k0_q h)) hI hz (fun _ σ1 τ1 _ hk hI1 hz1 => ok_t (ze_save hn hI1 hz1 ?_ ?_)))
    · rw [hk.2.1.2, hk.2.1.1.1 199 13 (by omega)]
      exact hT
    · exact te_fr hE hk.2.1.2 (fun k => hk.2.1.1.1 2 k (by omega)) (fun k => hk.2.1.1.1 208 k (by omega))
  · refine ok_u (lq_c5 (Q := fun _ _ => True) (s_B_X11_steer_0 4294967296 hN σ τ (xs (n + 1)) (xs (n + 2)) hI) (fun _ _ _ h => k5 (k0_q h)) hI hz (fun _ σ1 τ1 _ hk hI1 hz1 => ok_t (ze_steer hn hI1 hz1 ?_ ?_)))
    · rw [hk.2.1.2, hk.2.1.1.1 199 13 (by omega)]
      exact hT
    · exact te_fr hE hk.2.1.2 (fun k => hk.2.1.1.1 2 k (by omega)) (fun k => hk.2.1.1.1 208 k (by omega))
  · refine ok_u (lq_c5 (Q := fun _ _ => True) (s_B_X11_ways_0 4294967296 hN σ τ (xs (n + 1)) (xs (n + 2)) (xs (n + 3)) (xs (n + 4)) hI) (fun _ _ _ h => k5 (k0_q h)) hI hz (fun _ σ1 τ1 _ hk hI1 hz1 => ok_t (ze_ways hn hI1 hz1 ?_ ?_)))
    · rw [hk.2.1.2, hk.2.1.1.1 199 13 (by omega)]
      exact hT
    · exact te_fr hE hk.2.1.2 (fun k => hk.2.1.1.1 2 k (by omega)) (fun k => hk.2.1.1.1 208 k (by omega))
  · refine ok_u (lq_c5 (Q := fun _ _ => True) (s_B_X11_duel_0 4294967296 hN σ τ (xs (n + 1)) (xs (n + 2)) (xs (n + 3)) (xs (n + 4)) (xs (n + 5)) hI) (fun _ _ _ h => k5 (k0_q h)) hI hz (fun _ σ1 τ1 _ hk hI1 hz1 => ok_t (ze_duel hn hI1 hz1 ?_ ?_)))
    · rw [hk.2.1.2, hk.2.1.1.1 199 13 (by omega)]
      exact hT
    · exact te_fr hE hk.2.1.2 (fun k => hk.2.1.1.1 2 k (by omega)) (fun k => hk.2.1.1.1 208 k (by omega))
  · refine ok_u (lq_c5 (Q := fun _ _ => True) (s_B_X11_cork_0 4294967296 hN σ τ (xs (n + 1)) (xs (n + 2)) (xs (n + 3)) hI) (fun _ _ _ h => k5 (k0_q h)) hI hz (fun _ σ1 τ1 _ hk hI1 hz1 => ok_t (ze_cork hn hI1 hz1 ?_ ?_)))
    · rw [hk.2.1.2, hk.2.1.1.1 199 13 (by omega)]
      exact hT
    · exact te_fr hE hk.2.1.2 (fun k => hk.2.1.1.1 2 k (by omega)) (fun k => hk.2.1.1.1 208 k (by omega))
  · refine ok_u (lq_c5 (Q := fun _ _ => True) (s_B_X11_forget_0 4294967296 hN σ τ hI) (fun _ _ _ h => k5 (k0_q h)) hI hz (fun _ σ1 τ1 _ hk hI1 hz1 => ok_t (ze_forget hn hI1 hz1 ?_ ?_)))
    · rw [hk.2.1.2, hk.2.1.1.1 199 13 (by omega)]
      exact hT
    · exact te_fr hE hk.2.1.2 (fun k => hk.2.1.1.1 2 k (by omega)) (fun k => hk.2.1.1.1 208 k (by omega))
  · refine ok_u (lq_c5 (Q := fun _ _ => True) (s_B_X11_maps_0 4294967296 hN σ τ hI) (fun _ _ _ h => k5 (k0_q h)) hI hz (fun _ σ1 τ1 _ hk hI1 hz1 => ok_t (ze_maps hn hI1 hz1 ?_ ?_)))
    · rw [hk.2.1.2, hk.2.1.1.1 199 13 (by omega)]
      exact hT
    · exact te_fr hE hk.2.1.2 (fun k => hk.2.1.1.1 2 k (by omega)) (fun k => hk.2.1.1.1 208 k (by omega))
  · refine ok_u (lq_c5 (Q := fun _ _ => True) (s_B_X11_next_0 4294967296 hN σ τ (xs (n + 1)) hI) (fun _ _ _ h => k5 (k0_q h)) hI hz (fun _ σ1 τ1 _ hk hI1 hz1 => ok_t (ze_next hn hI1 hz1 ?_ ?_)))
    · rw [hk.2.1.2, hk.2.1.1.1 199 13 (by omega)]
      exact hT
    · exact te_fr hE hk.2.1.2 (fun k => hk.2.1.1.1 2 k (by omega)) (fun k => hk.2.1.1.1 208 k (by omega))
  · refine ok_u (lq_c5 (Q := fun _ _ => True) (s_B_X11_odds_0 4294967296 hN σ τ (xs (n + 1)) (xs (n + 2)) (xs (n + 3)) hI) (fun _ _ _ h => k5 (k0_q h)) hI hz (fun _ σ1 τ1 _ hk hI1 hz1 => ok_t (ze_odds hn hI1 hz1 ?_ ?_)))
    · rw [hk.2.1.2, hk.2.1.1.1 199 13 (by omega)]
      exact hT
    · exact te_fr hE hk.2.1.2 (fun k => hk.2.1.1.1 2 k (by omega)) (fun k => hk.2.1.1.1 208 k (by omega))
  · refine ok_u (lq_c5 (Q := fun _ _ => True) (s_B_X11_marks_0 4294967296 hN σ τ (xs (n + 1)) (xs (n + 2)) (xs (n + 3)) hI) (fun _ _ _ h => k5 (k0_q h)) hI hz (fun _ σ1 τ1 _ hk hI1 hz1 => ok_t (ze_marks hn hI1 hz1 ?_ ?_)))
    · rw [hk.2.1.2, hk.2.1.1.1 199 13 (by omega)]
      exact hT
    · exact te_fr hE hk.2.1.2 (fun k => hk.2.1.1.1 2 k (by omega)) (fun k => hk.2.1.1.1 208 k (by omega))
  · refine ok_u (lq_c5 (Q := fun _ _ => True) (s_B_X11_order_0 4294967296 hN σ τ (xs (n + 1)) (xs (n + 2)) hI) (fun _ _ _ h => k5 (k0_q h)) hI hz (fun _ σ1 τ1 _ hk hI1 hz1 => ok_t (ze_order hn hI1 hz1 ?_ ?_)))
    · rw [hk.2.1.2, hk.2.1.1.1 199 13 (by omega)]
      exact hT
    · exact te_fr hE hk.2.1.2 (fun k => hk.2.1.1.1 2 k (by omega)) (fun k => hk.2.1.1.1 208 k (by omega))
  · refine ok_u (lq_c5 (Q := fun _ _ => True) (s_B_X11_keep_0 4294967296 hN σ τ (xs (n + 1)) hI) (fun _ _ _ h => k5 (k0_q h)) hI hz (fun _ σ1 τ1 _ hk hI1 hz1 => ok_t (ze_keep hn hI1 hz1 ?_ ?_)))
    · rw [hk.2.1.2, hk.2.1.1.1 199 13 (by omega)]
      exact hT
    · exact te_fr hE hk.2.1.2 (fun k => hk.2.1.1.1 2 k (by omega)) (fun k => hk.2.1.1.1 208 k (by omega))
  · refine ok_u (lq_c5 (Q := fun _ _ => True) (s_B_X11_again_0 4294967296 hN σ τ (xs (n + 1)) hI) (fun _ _ _ h => k5 (k0_q h)) hI hz (fun _ σ1 τ1 _ hk hI1 hz1 => ok_t (ze_again hn hI1 hz1 ?_ ?_)))
    · rw [hk.2.1.2, hk.2.1.1.1 199 13 (by omega)]
      exact hT
    · exact te_fr hE hk.2.1.2 (fun k => hk.2.1.1.1 2 k (by omega)) (fun k => hk.2.1.1.1 208 k (by omega))
  · refine ok_u (lq_c5 (Q := fun _ _ => True) (s_B_X11_count_0 4294967296 hN σ τ (xs (n + 1)) hI) (fun _ _ _ h => k5 (k0_qe h)) hI hz (fun _ σ1 τ1 _ hk hI1 hz1 => ok_t (ze_count hn hI1 hz1 ?_ ?_)))
    · rw [hk.2.1]
      exact hT
    · rw [hk.2.1]
      exact hE
  · exact ⟨hI, fun τ9 _ => ze_row hn hI hz hT hE⟩
theorem z_start1 : Z 0 gs0 gt0 := by
  have z : ∀ c k : Nat, 199 ≤ c → gs0 c k = 0 := fun c k h => gs0_hi h
  have l0 : (0 : Int32).toInt = 0 := rfl
  refine ⟨by unfold IC; decide +kernel, fun _ => 0, ⟨⟨⟨?_, fun p hp => ?_⟩, ?_, ?_, fun k hk => ?_⟩, ⟨z _ _ (by omega), z _ _ (by omega), z _ _ (by omega), fun t ht => ?_⟩, fun t ht => ?_, ⟨by decide, by decide, by decide⟩, ?_, ⟨?_, fun k hk => ?_⟩, ?_, z _ _ (by omega), z _ _ (by omega)⟩, by decide, ?_, fun i hi => ?_, fun i hi hn => absurd (z 231 i (by omega)) hn, ?_⟩
  · rw [z 199 3 (by omega)]; decide
  · rw [z 199 3 (by omega)] at hp; omega
  · unfold WI; rw [z 199 4 (by omega)]; decide
  · rw [z 199 28 (by omega)]; decide
  · rw [z 199 28 (by omega)] at hk; omega
  · have ht' : (t : Int) < (0 : Int32).toInt := ht
    omega
  · have ht' : (t : Int) < (0 : Int32).toInt := ht
    omega
  · rw [z 199 1 (by omega)]; decide
  · rw [z 199 52 (by omega)]; decide
  · rw [z 199 52 (by omega)] at hk; omega
  · rw [z 199 46 (by omega)]; decide
  · rw [z 199 36 (by omega)]; decide
  · rw [z 199 36 (by omega)] at hi; omega
  · rw [z 199 13 (by omega)]; decide
theorem z_start : Z5 0 gs0 gt0 := ⟨z_start1, by decide +kernel, te_0 (by decide +kernel)⟩
