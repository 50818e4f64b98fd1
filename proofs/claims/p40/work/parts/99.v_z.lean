def Z (n : Nat) (σ : gI) (_ : gJ) : Prop := IC σ ∧ ZN σ (1000 * (n : Int))
theorem ic_fr {σ σ1 : gI} (h : IC σ) (f : ∀ c k : Nat, c < 199 → σ1 c k = σ c k) : IC σ1 := by
  unfold IC at h ⊢
  rw [f 9 6 (by omega), f 17 9 (by omega), f 17 10 (by omega), f 21 9 (by omega), f 21 10 (by omega)]
  exact h
theorem zn_k0 {σ σ1 : gI} {B : Int} (h : ZN σ B) (k : K0 σ σ1) : ZN σ1 B := by
  obtain ⟨g, h⟩ := h
  exact ⟨g, zm_fr h (fun c j hh => k.1 c j (by omega))⟩
theorem lq_c {α β : Type} {n : Nat} {σ : gI} {Q : α → β → Prop} {x : Option (α × gI × gJ)} {y : gI → gJ → Option (β × gI × gJ)} {P : α → gI → gJ → Prop} (hx : okp P x) (hk : ∀ a σ1 τ1, P a σ1 τ1 → K0 σ σ1) (hI : IC σ) (hz : ZN σ (1000 * (n : Int))) (hy : ∀ a σ1 τ1, x = some (a, σ1, τ1) → IC σ1 → ZN σ1 (1000 * (n : Int)) → okp (fun b σ2 τ2 => Q a b ∧ Z (n + 6) σ2 τ2) (y σ1 τ1)) : okp (fun a σ1 τ1 => okp (fun b σ2 τ2 => Q a b ∧ Z (n + 6) σ2 τ2) (y σ1 τ1)) x := by
  obtain ⟨a, σ1, τ1, e, h⟩ := hx
  have k := hk a σ1 τ1 h
  exact ⟨a, σ1, τ1, e, hy a σ1 τ1 e (k.2 hI) (zn_k0 hz k)⟩
theorem ok_t {α : Type} {P : α → gI → gJ → Prop} {x : Option (α × gI × gJ)} (h : okp P x) : okp (fun a σ τ => True ∧ P a σ τ) x := ok_mono (fun _ _ _ h => ⟨trivial, h⟩) h
theorem ok_u {α β : Type} {P : β → gI → gJ → Prop} {x : Option (α × gI × gJ)} {y : gI → gJ → Option (β × gI × gJ)} (h : okp (fun a σ1 τ1 => okp (fun b σ2 τ2 => True ∧ P b σ2 τ2) (y σ1 τ1)) x) : okp (fun a σ1 τ1 => okp (fun b σ2 τ2 => P b σ2 τ2) (y σ1 τ1)) x := ok_mono (fun _ _ _ h => ok_mono (fun _ _ _ h => h.2) h) h
theorem z_end {α : Type} {n : Nat} {σ : gI} {x : Option (α × gI × gJ)} (hn : n + 6 ≤ 3072) (hI : IC σ) (hz : okp (fun _ σ1 _ => ZN σ1 (1000 * (n : Int) + 6000)) x) (hf : ∀ a σ1 τ1, x = some (a, σ1, τ1) → ∀ c k : Nat, c < 199 → σ1 c k = σ c k) : okp (fun _ σ1 τ1 => Z (n + 6) σ1 τ1) x := by
  obtain ⟨a, σ1, τ1, e, h⟩ := hz
  refine ⟨a, σ1, τ1, e, ic_fr hI (hf a σ1 τ1 e), ?_⟩
  rw [show (1000 * ((n + 6 : Nat) : Int)) = 1000 * (n : Int) + 6000 by omega]
  exact h
theorem z_sign {σ : gI} {τ : gJ} {g : Nat → Int32} {B B1 : Int} {N : Nat} (hN : 4294967296 ≤ N) {x1 : Int32} (h : ZM σ g B) (hB : B ≤ B1) : okp (fun (a : Int32) σ1 τ1 => ZN σ1 B1) (B_X12_sign_0 N σ τ x1) := by
  obtain ⟨a, b, c, d, e, i⟩ := h
  obtain ⟨r, σ1, τ1, q, p⟩ := m_B_X12_sign_0 N hN σ τ x1 i
  have f := (fr_B_X12_sign_0 N σ τ x1 q).1
  have e36 := f 199 36 (by omega)
  exact ⟨r, σ1, τ1, q, g, qb_fr a (fun c k hh => f c k (by omega)), by omega, by rw [e36]; exact c, by rw [e36]; exact uu_fr d (fun c k hh => f c k (by omega)) hB, ki_fr e (fun c k hh => f c k (by omega)) hB, p⟩
theorem z_end1 {σ : gI} {τ : gJ} {g : Nat → Int32} {B B1 : Int} {N : Nat} (hN : 4294967296 ≤ N) {x1 : Int32} (h : ZM σ g B) (hB : B ≤ B1) : okp (fun (a : Int32) σ1 τ1 => ZN σ1 B1) (B_X12_end_0 N σ τ x1) := by
  obtain ⟨a, b, c, d, e, i⟩ := h
  obtain ⟨r, σ1, τ1, q, p⟩ := m_B_X12_end_0 N hN σ τ x1 i
  have f := (fr_B_X12_end_0 N σ τ x1 q).1
  have e36 := f 199 36 (by omega)
  exact ⟨r, σ1, τ1, q, g, qb_fr a (fun c k hh => f c k (by omega)), by omega, by rw [e36]; exact c, by rw [e36]; exact uu_fr d (fun c k hh => f c k (by omega)) hB, ki_fr e (fun c k hh => f c k (by omega)) hB, p⟩
theorem w_B_X12_flow_0 {σ : gI} {τ : gJ} {g : Nat → Int32} {N : Nat} (hN : 4294967296 ≤ N) {x1 : Int32} (hQ : QB 16 σ g) : okp (fun (a : Int32) σ1 τ1 => QB 16 σ1 g) (B_X12_flow_0 N σ τ x1) := by
  obtain ⟨r, σ1, τ1, q, p⟩ := m_B_X12_flow_0 N hN σ τ x1 hQ.1
  exact ⟨r, σ1, τ1, q, qb_fr hQ (fun c k hh => (fr_B_X12_flow_0 N σ τ x1 q).1 c k (by omega))⟩
theorem w_B_X12_of_0 {σ : gI} {τ : gJ} {g : Nat → Int32} {N : Nat} (hN : 4294967296 ≤ N) {x1 x2 : Int32} (hQ : QB 16 σ g) : okp (fun (a : Int32) σ1 τ1 => QB 16 σ1 g) (B_X12_of_0 N σ τ x1 x2) := by
  obtain ⟨r, σ1, τ1, q, p⟩ := m_B_X12_of_0 N hN (g 1) (g 2) (g 3) σ τ x1 x2 hQ.2.1 hQ.2.2.2.1.1
  exact ⟨r, σ1, τ1, q, qb_fr hQ (fun c k hh => (fr_B_X12_of_0 N σ τ x1 x2 q).1 c k (by omega))⟩
theorem k0_q {σ σ1 : gI} {τ τ1 : gJ} {α : Type} {C : α → Prop} {a : α} (h : Kq σ τ C a σ1 τ1) : K0 σ σ1 := h.2.1.1
theorem k0_q0 {σ σ1 : gI} {τ τ1 : gJ} {α : Type} {C : α → Prop} {a : α} (h : Kq0 σ τ C a σ1 τ1) : K0 σ σ1 := h.2.1
theorem k0_qe {σ σ1 : gI} {τ τ1 : gJ} {α : Type} {C : α → Prop} {a : α} (h : Kqe σ τ C a σ1 τ1) : K0 σ σ1 := by rw [h.2.1]; exact k0_rf σ
theorem x_keep {N : Nat} {σ σ1 : gI} {τ τ1 : gJ} {x1 r : Int32} (h : B_X11_keep_0 N σ τ x1 = some (r, σ1, τ1)) : (r = 0 ∨ r = 1) ∧ (r = 1 ↔ 0 ≤ x1.toInt ∧ x1.toInt ≤ 2) := by
  have l0 : (0 : Int32).toInt = 0 := rfl
  have l3 : (3 : Int32).toInt = 3 := rfl
  unfold B_X11_keep_0 at h
  by_cases c1 : x1 < 0
  · rw [if_pos c1] at h
    rw [fa_lt] at c1
    have e : (0 : Int32) = r := congrArg Prod.fst (Option.some.inj h)
    subst e
    exact ⟨Or.inl rfl, fun z => absurd z (by decide), fun z => by omega⟩
  · rw [if_neg c1] at h
    rw [fa_lt] at c1
    by_cases c2 : x1 < 3
    · rw [if_pos c2] at h
      rw [fa_lt] at c2
      obtain ⟨j, -, -, h⟩ := ck_some h
      obtain ⟨r4, σ4, τ4, q4, h⟩ := bd_some h
      obtain ⟨v, e, h⟩ := nm_some h
      have e : (1 : Int32) = r := congrArg Prod.fst (Option.some.inj h)
      subst e
      exact ⟨Or.inr rfl, fun _ => by omega, fun _ => rfl⟩
    · rw [if_neg c2] at h
      rw [fa_lt] at c2
      have e : (0 : Int32) = r := congrArg Prod.fst (Option.some.inj h)
      subst e
      exact ⟨Or.inl rfl, fun z => absurd z (by decide), fun z => by omega⟩
def TE (σ : gI) : Prop := ∀ k : Nat, (k : Int) < (σ 1 2).toInt → σ 2 k = σ 208 k
def TX (σ : gI) : Prop := σ 1 2 = σ 199 13 ∧ ∀ k : Nat, (k : Int) < (σ 1 2).toInt → σ 2 k = σ 208 k ∧ (σ 2 k).toInt ≤ 255
theorem tx_fr {σ σ1 : gI} (h : TX σ) (f : ∀ c k : Nat, (c = 1 ∧ k = 2) ∨ c = 2 ∨ (c = 199 ∧ k = 13) ∨ c = 208 → σ1 c k = σ c k) : TX σ1 := by
  refine ⟨by rw [f 1 2 (by omega), f 199 13 (by omega)]; exact h.1, fun k hk => ?_⟩
  rw [f 1 2 (by omega)] at hk
  rw [f 2 k (by omega), f 208 k (by omega)]
  exact h.2 k hk
theorem tx_0 {σ : gI} (a : σ 1 2 = 0) (b : σ 199 13 = 0) : TX σ := ⟨a.trans b.symm, fun k hk => by
  rw [a] at hk
  have o : (0 : Int32).toInt = 0 := rfl
  omega⟩
theorem tx_e {σ : gI} (h : TX σ) : TE σ := fun k hk => (h.2 k hk).1
def W9 (σ : gI) : Prop := σ 15 1 = σ 199 4 ∧ (∀ k : Nat, (k : Int) < (σ 199 4).toInt → σ 16 k = σ 205 k) ∧ σ 199 31 = 0
theorem w9_fr {σ σ1 : gI} (h : W9 σ) (a : σ1 15 1 = σ 15 1) (b : ∀ k : Nat, σ1 16 k = σ 16 k) (c : σ1 199 4 = σ 199 4) (d : ∀ k : Nat, σ1 205 k = σ 205 k) (e : σ1 199 31 = 0) : W9 σ1 := by
  refine ⟨by rw [a, c]; exact h.1, fun k hk => ?_, e⟩
  rw [c] at hk
  rw [b, d]
  exact h.2.1 k hk
theorem zn_4 {σ : gI} {B : Int} (h : ZN σ B) : 0 ≤ (σ 199 4).toInt ∧ (σ 199 4).toInt ≤ 40 := by
  obtain ⟨g, h⟩ := h
  exact h.1.1.2.1
def GG (σ : gI) : Prop := TX σ ∧ W9 σ ∧ T4 σ ∧ C4 σ ∧ P4 σ
theorem gg_tx {σ σ1 : gI} (h : GG σ) (t : TX σ1) (f : ∀ c k : Nat, (c = 199 ∧ (k = 3 ∨ k = 4 ∨ k = 52)) ∨ c = 15 ∨ c = 16 ∨ c = 205 ∨ (3 ≤ c ∧ c ≤ 7) ∨ (201 ≤ c ∧ c ≤ 204) ∨ (152 ≤ c ∧ c ≤ 155) ∨ (226 ≤ c ∧ c ≤ 228) ∨ (c = 0 ∧ k = 11) ∨ c = 231 → σ1 c k = σ c k) (e : σ1 199 31 = 0) : GG σ1 :=
  ⟨t, w9_fr h.2.1 (f 15 1 (by omega)) (fun k => f 16 k (by omega)) (f 199 4 (by omega)) (fun k => f 205 k (by omega)) e, t4_fr h.2.2.1 (fun c k hc => f c k (by omega)), c4_fr h.2.2.2.1 (fun c k hc => f c k (by omega)), p4_fr h.2.2.2.2 (fun c k hc => f c k (by omega))⟩
theorem gg_fr {σ σ1 : gI} (h : GG σ) (f : ∀ c k : Nat, ((c = 1 ∧ k = 2) ∨ c = 2 ∨ (c = 199 ∧ k = 13) ∨ c = 208) ∨ (c = 199 ∧ (k = 3 ∨ k = 4 ∨ k = 52)) ∨ c = 15 ∨ c = 16 ∨ c = 205 ∨ (3 ≤ c ∧ c ≤ 7) ∨ (201 ≤ c ∧ c ≤ 204) ∨ (152 ≤ c ∧ c ≤ 155) ∨ (226 ≤ c ∧ c ≤ 228) ∨ (c = 0 ∧ k = 11) ∨ c = 231 → σ1 c k = σ c k) (e : σ1 199 31 = 0) : GG σ1 := gg_tx h (tx_fr h.1 (fun c k hc => f c k (Or.inl hc))) (fun c k hc => f c k (Or.inr hc)) e
theorem ks_gg {σ σ1 : gI} (k : KS σ σ1) (h : GG σ) : GG σ1 := gg_fr h (fun c j hc => by
  by_cases d : c = 1 ∧ j = 2
  · rw [d.1, d.2]; exact k.2
  · exact k.1.1 c j (by omega)) ((k.1.1 199 31 (by omega)).trans h.2.1.2.2)
def Z5 (n : Nat) (σ : gI) (τ : gJ) : Prop := Z n σ τ ∧ GG σ
theorem lq_c5 {α β : Type} {n : Nat} {σ : gI} {Q : α → β → Prop} {x : Option (α × gI × gJ)} {y : gI → gJ → Option (β × gI × gJ)} {P : α → gI → gJ → Prop} (hx : okp P x) (hk : ∀ a σ1 τ1, P a σ1 τ1 → (∀ c k : Nat, 199 ≤ c → σ1 c k = σ c k) ∧ (IC σ → IC σ1)) (hI : IC σ) (hz : ZN σ (1000 * (n : Int))) (hy : ∀ a σ1 τ1, x = some (a, σ1, τ1) → P a σ1 τ1 → IC σ1 → ZN σ1 (1000 * (n : Int)) → okp (fun b σ2 τ2 => Q a b ∧ Z5 (n + 6) σ2 τ2) (y σ1 τ1)) : okp (fun a σ1 τ1 => okp (fun b σ2 τ2 => Q a b ∧ Z5 (n + 6) σ2 τ2) (y σ1 τ1)) x := by
  obtain ⟨a, σ1, τ1, e, h⟩ := hx
  have k := hk a σ1 τ1 h
  obtain ⟨g, hg⟩ := hz
  exact ⟨a, σ1, τ1, e, hy a σ1 τ1 e h (k.2 hI) ⟨g, zm_fr hg (fun c j hh => k.1 c j (by omega))⟩⟩
theorem k5 {σ σ1 : gI} (h : K0 σ σ1) : (∀ c k : Nat, 199 ≤ c → σ1 c k = σ c k) ∧ (IC σ → IC σ1) := ⟨fun c k hc => h.1 c k (Or.inl hc), h.2⟩
theorem ok_v {α β : Type} {Q : α → β → Prop} {P : β → gI → gJ → Prop} {x : Option (α × gI × gJ)} {y : gI → gJ → Option (β × gI × gJ)} (h : okp (fun a σ1 τ1 => okp (fun b σ2 τ2 => Q a b ∧ P b σ2 τ2) (y σ1 τ1)) x) : okp (fun a σ1 τ1 => okp (fun b σ2 τ2 => P b σ2 τ2) (y σ1 τ1)) x := ok_mono (fun _ _ _ h => ok_mono (fun _ _ _ h => h.2) h) h
theorem zn_13 {σ : gI} {B : Int} (h : ZN σ B) : 0 ≤ (σ 199 13).toInt ∧ (σ 199 13).toInt ≤ 80 := by
  obtain ⟨g, h⟩ := h
  exact h.2.2.2.2.2
theorem ic_fr2 {σ σ1 : gI} (h : IC σ) (f : ∀ c k : Nat, ¬ (c = 2 ∨ (c = 1 ∧ k = 2)) → σ1 c k = σ c k) : IC σ1 := by
  unfold IC at h ⊢
  rw [f 9 6 (by omega), f 17 9 (by omega), f 17 10 (by omega), f 21 9 (by omega), f 21 10 (by omega)]
  exact h
theorem sg_same1 {N : Nat} {σ σ1 : gI} {τ τ1 : gJ} {x1 r : Int32} (c1 : ¬ σ 1 2 ≤ 76) (e : B_X11_sign_0 N σ τ x1 = some (r, σ1, τ1)) (c k : Nat) : σ1 c k = σ c k := by
  have s1 : σ1 = σ := by
    unfold B_X11_sign_0 at e
    obtain ⟨r1, s1, t1, q1, e⟩ := bd_some e
    unfold B_X7_addFour_0 at q1
    have q9 : s1 = σ := by
      by_cases c : σ 1 2 < 0
      · rw [if_pos c] at q1; exact (sm_inj q1).2.1.symm
      · rw [if_neg c, if_neg c1] at q1; exact (sm_inj q1).2.1.symm
    by_cases c : r1 = 0
    · rw [if_pos c] at e; exact (sm_inj e).2.1.symm.trans q9
    · rw [if_neg c] at e; exact (sm_inj e).2.1.symm.trans q9
  rw [s1]
theorem sg_same {N : Nat} {σ σ1 σ2 : gI} {τ τ1 τ2 : gJ} {x1 r b : Int32} (c1 : ¬ σ 1 2 ≤ 76) (_e : B_X11_sign_0 N σ τ x1 = some (r, σ1, τ1)) (e2 : B_X12_sign_0 N σ1 τ1 x1 = some (b, σ2, τ2)) (g1 : σ1 199 13 = σ 1 2) : ∀ c k : Nat, ¬ (c = 199 ∧ k = 0) → σ2 c k = σ1 c k := by
  unfold B_X12_sign_0 at e2
  obtain ⟨s3, e3, e2⟩ := nm_some e2
  have z3 : s3 199 13 = σ 1 2 := by rw [e3, up2_ne (by omega)]; exact g1
  rw [z3, if_neg c1] at e2
  obtain ⟨-, m, -⟩ := sm_inj e2
  intro c k hh
  rw [← m, e3, up2_ne hh]
theorem kc_178 {N : Nat} {σ σ1 : gI} {τ τ1 : gJ} {u : Unit} {j : Nat} (h : B_X6_copy_0 N (178 + 7 * j) 30 σ τ = some (u, σ1, τ1)) {c k : Nat} (hc : c < 178) : σ1 c k = σ c k := by
  unfold B_X6_copy_0 at h
  obtain ⟨s1, e1, h⟩ := nm_some h
  obtain ⟨s2, e2, h⟩ := nm_some h
  obtain ⟨s3, e3, h⟩ := nm_some h
  obtain ⟨s4, e4, h⟩ := nm_some h
  obtain ⟨s5, e5, h⟩ := nm_some h
  have H : ∀ (n : Nat) (s : gI) (t : gJ) (x2 : Int32) (u : Unit) (σ1 : gI) (τ1 : gJ), H_X6_copy_42 N (178 + 7 * j) 30 n s t x2 = some (u, σ1, τ1) → σ1 c k = s c k := by
    intro n
    induction n with
    | zero => intro s t x2 u σ1 τ1 h; cases h
    | succ n ih =>
      intro s t x2 u σ1 τ1 h
      have h : C_X6_copy_42 N (178 + 7 * j) 30 (H_X6_copy_42 N (178 + 7 * j) 30 n) s t x2 = some (u, σ1, τ1) := h
      unfold C_X6_copy_42 at h
      by_cases c1 : s (178 + 7 * j) 6 ≤ x2
      · rw [if_pos c1] at h
        obtain ⟨-, rfl, -⟩ := sm_inj h
        rfl
      · rw [if_neg c1] at h
        by_cases c2 : 6 ≤ x2
        · rw [if_pos c2] at h
          obtain ⟨-, rfl, -⟩ := sm_inj h
          rfl
        · rw [if_neg c2] at h
          obtain ⟨j3, -, -, h⟩ := ck_some h
          obtain ⟨s4, e4, h⟩ := nm_some h
          obtain ⟨s5, e5, h⟩ := nm_some h
          obtain ⟨s6, e6, h⟩ := nm_some h
          obtain ⟨s7, e7, h⟩ := nm_some h
          obtain ⟨s8, e8, h⟩ := nm_some h
          obtain ⟨s9, e9, h⟩ := nm_some h
          obtain ⟨v10, e10, h⟩ := nm_some h
          rw [ih s9 t v10 u σ1 τ1 h, e9, up2_ne (by omega), e8, up2_ne (by omega), e7, up2_ne (by omega), e6, up2_ne (by omega), e5, up2_ne (by omega), e4, up2_ne (by omega)]
  rw [H N s5 _ _ _ _ _ h, e5, up2_ne (by omega), e4, up2_ne (by omega), e3, up2_ne (by omega), e2, up2_ne (by omega), e1, up2_ne (by omega)]
theorem w9_water {N : Nat} {σ σ1 σ2 : gI} {τ τ1 τ2 : gJ} {a b : Int32} (hW : W9 σ) (h12 : 0 ≤ (σ 1 2).toInt ∧ (σ 1 2).toInt ≤ 80) (hT : σ 1 2 = σ 199 13) (hE : TE σ) (hV : ∀ c k : Nat, 199 ≤ c → σ1 c k = σ c k) (e : B_X11_water_0 N σ τ = some (a, σ1, τ1)) (e2 : B_X12_water_0 N σ1 τ1 = some (b, σ2, τ2)) : W9 σ2 := by
  have F2 := (fr_B_X12_water_0 N σ1 τ1 e2).1
  have g13 : σ1 199 13 = σ 1 2 := (hV 199 13 (by omega)).trans hT.symm
  have v := x_water12w (by rw [g13]; exact h12) e2
  obtain ⟨j2, v1, v2⟩ := x_water12 (by rw [g13]; exact h12) e2
  rw [g13] at v1 v2
  unfold B_X11_water_0 at e
  obtain ⟨r1, s1, t1, q1, e⟩ := bd_some e
  obtain ⟨r3, s3, t3, q3, e⟩ := bd_some e
  obtain ⟨m1, m2, -⟩ := sm_inj e
  have u := x_read10w h12 q1
  obtain ⟨j1, u1, u2⟩ := x_read10 h12 q1
  have ej := wj_one (fun k hk2 => (hE k hk2).trans (hV 208 k (by omega)).symm) u1 v1
  rw [ej] at u2
  have er : r1 = b := (fa_eq _ _).mpr (u2.trans v2.symm)
  have f3 : ∀ c k : Nat, ¬ (c = 1 ∧ k = 2) → s3 c k = s1 c k := by
    intro c k hh
    unfold B_X7_cut_0 at q3
    rw [if_neg (show ¬ (0 : Int32) < 0 by decide)] at q3
    by_cases c9 : (0 : Int32) ≤ s1 1 2
    · rw [if_pos c9] at q3
      obtain ⟨s4, e4, q3⟩ := nm_some q3
      obtain ⟨-, w, -⟩ := sm_inj q3
      rw [← w, e4]
      exact up2_ne hh
    · rw [if_neg c9] at q3
      obtain ⟨-, w, -⟩ := sm_inj q3
      rw [← w]
  have h31 : σ2 199 31 = 0 := (F2 199 31 (by omega)).trans ((hV 199 31 (by omega)).trans hW.2.2)
  have a15 : σ2 15 1 = s1 15 1 := by rw [F2 15 1 (by omega), ← m2, f3 15 1 (by omega)]
  have a16 : ∀ k : Nat, σ2 16 k = s1 16 k := fun k => by rw [F2 16 k (by omega), ← m2, f3 16 k (by omega)]
  rw [← er] at v
  rcases u with ⟨n1, n2, n3⟩ | ⟨n1, n2, n3⟩ <;> rcases v with ⟨o1, o2, o3⟩ | ⟨o1, o2, o3⟩
  · exact w9_fr hW (a15.trans n2) (fun k => (a16 k).trans (n3 k)) (o2.trans (hV 199 4 (by omega))) (fun k => (o3 k).trans (hV 205 k (by omega))) h31
  · omega
  · omega
  · refine ⟨by rw [a15, n2, o2], fun k hk => ?_, h31⟩
    rw [o2] at hk
    have p1 := n3 k hk
    have p2 := o3 k hk
    obtain ⟨u3, u4, -⟩ := u1
    have hlt : (k : Int) < (σ 1 2).toInt := by
      have : r1.toInt ≤ (σ 1 2).toInt := by
        rw [u2]
        unfold WA
        split <;> omega
      omega
    rw [hV 208 k (by omega), ← hE k hlt] at p2
    rw [a16]
    exact (fa_eq _ _).mpr (p1.trans p2.symm)
theorem gg_town {N : Nat} {σ σ1 σ2 : gI} {τ τ1 τ2 : gJ} {a b : Int32} (hG : GG σ) (h12 : 0 ≤ (σ 1 2).toInt ∧ (σ 1 2).toInt ≤ 80) (e : B_X11_town_0 N σ τ = some (a, σ1, τ1)) (e2 : B_X12_town_0 N σ1 τ1 = some (b, σ2, τ2)) (w1 : σ2 1 2 = 0) (w2 : σ2 199 13 = 0) : a = b ∧ GG σ2 := by
  obtain ⟨hX, hW, hT, hC, hP⟩ := hG
  have F2 := (fr_B_X12_town_0 N σ1 τ1 e2).1
  obtain ⟨a1, f1, z1⟩ := x_town11 h12 (fun k hk => (hX.2 k hk).2) e
  have g13 : σ1 199 13 = σ 1 2 := (f1 199 13 (by omega)).trans hX.1.symm
  obtain ⟨b1, z2⟩ := x_town12 (by rw [g13]; exact h12) e2
  have kk := lk_two (t := σ 2) (t1 := σ1 208) h12.1 (fun k hk => (hX.2 k hk).1.trans (f1 208 k (by omega)).symm)
  rw [g13, ← kk] at b1 z2
  have er : a = b := (fa_eq _ _).mpr (a1.trans b1.symm)
  have h31 : σ2 199 31 = 0 := (F2 199 31 (by omega)).trans ((f1 199 31 (by omega)).trans hW.2.2)
  have hW2 : W9 σ2 := w9_fr hW ((F2 15 1 (by omega)).trans (f1 15 1 (by omega))) (fun k => (F2 16 k (by omega)).trans (f1 16 k (by omega))) ((F2 199 4 (by omega)).trans (f1 199 4 (by omega))) (fun k => (F2 205 k (by omega)).trans (f1 205 k (by omega))) h31
  refine ⟨er, tx_0 w1 w2, hW2, ?_⟩
  rw [← er] at z2
  rcases z1 with ⟨n1, n2⟩ | ⟨n1, n2, n3, n4, n5, ⟨n6, n7, n8⟩, n9, n10⟩ <;> rcases z2 with ⟨o1, o2⟩ | ⟨o1, o2, o3, o4, o5, o6⟩
  · exact ⟨t4_fr hT (fun c k hc => (o2 c k (by omega)).trans (n2 c k (by omega))), c4_fr hC (fun c k hc => (o2 c k (by omega)).trans (n2 c k (by omega))), p4_fr hP (fun c k hc => (o2 c k (by omega)).trans (n2 c k (by omega)))⟩
  · omega
  · omega
  · have g4 : σ2 4 = σ1 4 := funext fun k => F2 4 k (by omega)
    have g36 : σ2 3 6 = σ1 3 6 := F2 3 6 (by omega)
    have P1 := pr_fr (σ1 := σ2) n2 (fun c k h1 h2 _ => F2 c k (by omega))
    have T2 : T4 σ2 := by
      unfold T4
      rw [g36, n4, g4, F2 3 7 (by omega), F2 3 5 (by omega), F2 3 8 (by omega)]
      refine ⟨(fa_eq _ _).mpr (n4.trans o4.symm), ⟨n1, n5⟩, fun i k hi hk => ?_, n6, n7, n8⟩
      exact pr_two P1 o2 i k hi (by omega)
    exact ⟨T2, c4_0 ((F2 152 3 (by omega)).trans n9) o5, p4_0 ((F2 0 11 (by omega)).trans n10) o6⟩
theorem zc_sign {n : Nat} {σ : gI} {τ : gJ} {x1 : Int32} (hn : n + 6 ≤ 3072) (hI : IC σ) (hz : ZN σ (1000 * (n : Int))) : okp (fun _ σ1 τ1 => Z (n + 6) σ1 τ1) (B_X12_sign_0 4294967296 σ τ x1) := by
  have hN : 4294967296 ≤ 4294967296 := Nat.le_refl _
  obtain ⟨g, h⟩ := hz
  exact z_end hn hI (z_sign hN h (by omega)) (fun a σ1 τ1 e c k hc => (fr_B_X12_sign_0 4294967296 σ τ x1 e).1 c k (by omega))
theorem zc_end {n : Nat} {σ : gI} {τ : gJ} {x1 : Int32} (hn : n + 6 ≤ 3072) (hI : IC σ) (hz : ZN σ (1000 * (n : Int))) : okp (fun _ σ1 τ1 => Z (n + 6) σ1 τ1) (B_X12_end_0 4294967296 σ τ x1) := by
  have hN : 4294967296 ≤ 4294967296 := Nat.le_refl _
  obtain ⟨g, h⟩ := hz
  exact z_end hn hI (z_end1 hN h (by omega)) (fun a σ1 τ1 e c k hc => (fr_B_X12_end_0 4294967296 σ τ x1 e).1 c k (by omega))
theorem zc_town {n : Nat} {σ : gI} {τ : gJ} (hn : n + 6 ≤ 3072) (hI : IC σ) (hz : ZN σ (1000 * (n : Int))) : okp (fun _ σ1 τ1 => Z (n + 6) σ1 τ1) (B_X12_town_0 4294967296 σ τ) := by
  have hN : 4294967296 ≤ 4294967296 := Nat.le_refl _
  obtain ⟨g, h⟩ := hz
  exact z_end hn hI (z_town hN h (by omega)) (fun a σ1 τ1 e c k hc => (fr_B_X12_town_0 4294967296 σ τ e).1 c k (by omega))
theorem zc_water {n : Nat} {σ : gI} {τ : gJ} (hn : n + 6 ≤ 3072) (hI : IC σ) (hz : ZN σ (1000 * (n : Int))) : okp (fun _ σ1 τ1 => Z (n + 6) σ1 τ1) (B_X12_water_0 4294967296 σ τ) := by
  have hN : 4294967296 ≤ 4294967296 := Nat.le_refl _
  obtain ⟨g, h⟩ := hz
  exact z_end hn hI (z_water hN h (by omega)) (fun a σ1 τ1 e c k hc => (fr_B_X12_water_0 4294967296 σ τ e).1 c k (by omega))
theorem zc_rule {n : Nat} {σ : gI} {τ : gJ} (hn : n + 6 ≤ 3072) (hI : IC σ) (hz : ZN σ (1000 * (n : Int))) : okp (fun _ σ1 τ1 => Z (n + 6) σ1 τ1) (B_X12_rule_0 4294967296 σ τ) := by
  have hN : 4294967296 ≤ 4294967296 := Nat.le_refl _
  obtain ⟨g, h⟩ := hz
  exact z_end hn hI (z_rule hN h (by omega)) (fun a σ1 τ1 e c k hc => (fr_B_X12_rule_0 4294967296 σ τ e).1 c k (by omega))
theorem zc_place {n : Nat} {σ : gI} {τ : gJ} {x1 x2 : Int32} (hn : n + 6 ≤ 3072) (hI : IC σ) (hz : ZN σ (1000 * (n : Int))) : okp (fun _ σ1 τ1 => Z (n + 6) σ1 τ1) (B_X12_place_0 4294967296 σ τ x1 x2) := by
  have hN : 4294967296 ≤ 4294967296 := Nat.le_refl _
  obtain ⟨g, h⟩ := hz
  refine z_end hn hI ?_ (fun a σ1 τ1 e c k hc => (fr_B_X12_place_0 4294967296 σ τ x1 x2 e).1 c k (by omega))
  obtain ⟨a, σ1, τ1, e, hQ⟩ := w_B_X12_place_0 (τ := τ) (x1 := x1) (x2 := x2) hN h.1
  have h22 := h.2.1
  exact ⟨a, σ1, τ1, e, zn_q h hQ (by omega) (by omega) (fun c k hh => (fr_B_X12_place_0 4294967296 σ τ x1 x2 e).1 c k (by omega))⟩
theorem ze_place {n : Nat} {σ : gI} {τ : gJ} {x1 x2 : Int32} (hn : n + 6 ≤ 3072) (hI : IC σ) (hz : ZN σ (1000 * (n : Int))) (hG : GG σ) : okp (fun _ σ1 τ1 => Z5 (n + 6) σ1 τ1) (B_X12_place_0 4294967296 σ τ x1 x2) := by
  obtain ⟨a, σ1, τ1, e, h⟩ := zc_place (τ := τ) (x1 := x1) (x2 := x2) hn hI hz
  have f := (fr_B_X12_place_0 4294967296 σ τ x1 x2 e).1
  exact ⟨a, σ1, τ1, e, h, gg_fr hG (fun c k hc => f c k (by omega)) ((f 199 31 (by omega)).trans hG.2.1.2.2)⟩
theorem zc_of {n : Nat} {σ : gI} {τ : gJ} {x1 x2 : Int32} (hn : n + 6 ≤ 3072) (hI : IC σ) (hz : ZN σ (1000 * (n : Int))) : okp (fun _ σ1 τ1 => Z (n + 6) σ1 τ1) (B_X12_of_0 4294967296 σ τ x1 x2) := by
  have hN : 4294967296 ≤ 4294967296 := Nat.le_refl _
  obtain ⟨g, h⟩ := hz
  refine z_end hn hI ?_ (fun a σ1 τ1 e c k hc => (fr_B_X12_of_0 4294967296 σ τ x1 x2 e).1 c k (by omega))
  obtain ⟨a, σ1, τ1, e, hQ⟩ := w_B_X12_of_0 (τ := τ) (x1 := x1) (x2 := x2) hN h.1
  have h22 := h.2.1
  exact ⟨a, σ1, τ1, e, zn_q h hQ (by omega) (by omega) (fun c k hh => (fr_B_X12_of_0 4294967296 σ τ x1 x2 e).1 c k (by omega))⟩
theorem ze_of {n : Nat} {σ : gI} {τ : gJ} {x1 x2 : Int32} (hn : n + 6 ≤ 3072) (hI : IC σ) (hz : ZN σ (1000 * (n : Int))) (hG : GG σ) : okp (fun _ σ1 τ1 => Z5 (n + 6) σ1 τ1) (B_X12_of_0 4294967296 σ τ x1 x2) := by
  obtain ⟨a, σ1, τ1, e, h⟩ := zc_of (τ := τ) (x1 := x1) (x2 := x2) hn hI hz
  have f := (fr_B_X12_of_0 4294967296 σ τ x1 x2 e).1
  exact ⟨a, σ1, τ1, e, h, gg_fr hG (fun c k hc => f c k (by omega)) ((f 199 31 (by omega)).trans hG.2.1.2.2)⟩
theorem zc_flow {n : Nat} {σ : gI} {τ : gJ} {x1 : Int32} (hn : n + 6 ≤ 3072) (hI : IC σ) (hz : ZN σ (1000 * (n : Int))) : okp (fun _ σ1 τ1 => Z (n + 6) σ1 τ1) (B_X12_flow_0 4294967296 σ τ x1) := by
  have hN : 4294967296 ≤ 4294967296 := Nat.le_refl _
  obtain ⟨g, h⟩ := hz
  refine z_end hn hI ?_ (fun a σ1 τ1 e c k hc => (fr_B_X12_flow_0 4294967296 σ τ x1 e).1 c k (by omega))
  obtain ⟨a, σ1, τ1, e, hQ⟩ := w_B_X12_flow_0 (τ := τ) (x1 := x1) hN h.1
  have h22 := h.2.1
  exact ⟨a, σ1, τ1, e, zn_q h hQ (by omega) (by omega) (fun c k hh => (fr_B_X12_flow_0 4294967296 σ τ x1 e).1 c k (by omega))⟩
theorem ze_flow {n : Nat} {σ : gI} {τ : gJ} {x1 : Int32} (hn : n + 6 ≤ 3072) (hI : IC σ) (hz : ZN σ (1000 * (n : Int))) (hG : GG σ) : okp (fun _ σ1 τ1 => Z5 (n + 6) σ1 τ1) (B_X12_flow_0 4294967296 σ τ x1) := by
  obtain ⟨a, σ1, τ1, e, h⟩ := zc_flow (τ := τ) (x1 := x1) hn hI hz
  have f := (fr_B_X12_flow_0 4294967296 σ τ x1 e).1
  exact ⟨a, σ1, τ1, e, h, gg_fr hG (fun c k hc => f c k (by omega)) ((f 199 31 (by omega)).trans hG.2.1.2.2)⟩
theorem zc_plank {n : Nat} {σ : gI} {τ : gJ} {x1 x2 : Int32} (hn : n + 6 ≤ 3072) (hI : IC σ) (hz : ZN σ (1000 * (n : Int))) : okp (fun _ σ1 τ1 => Z (n + 6) σ1 τ1) (B_X12_plank_0 4294967296 σ τ x1 x2) := by
  have hN : 4294967296 ≤ 4294967296 := Nat.le_refl _
  obtain ⟨g, h⟩ := hz
  exact z_end hn hI (z_plank hN h (by omega)) (fun a σ1 τ1 e c k hc => (fr_B_X12_plank_0 4294967296 σ τ x1 x2 e).1 c k (by omega))
theorem ze_plank {n : Nat} {σ : gI} {τ : gJ} {x1 x2 : Int32} (hn : n + 6 ≤ 3072) (hI : IC σ) (hz : ZN σ (1000 * (n : Int))) (hG : GG σ) : okp (fun _ σ1 τ1 => Z5 (n + 6) σ1 τ1) (B_X12_plank_0 4294967296 σ τ x1 x2) := by
  obtain ⟨a, σ1, τ1, e, h⟩ := zc_plank (τ := τ) (x1 := x1) (x2 := x2) hn hI hz
  have f := (fr_B_X12_plank_0 4294967296 σ τ x1 x2 e).1
  exact ⟨a, σ1, τ1, e, h, gg_fr hG (fun c k hc => f c k (by omega)) ((f 199 31 (by omega)).trans hG.2.1.2.2)⟩
theorem zc_sheet {n : Nat} {σ : gI} {τ : gJ} {x1 x2 x3 x4 : Int32} (hn : n + 6 ≤ 3072) (hI : IC σ) (hz : ZN σ (1000 * (n : Int))) : okp (fun _ σ1 τ1 => Z (n + 6) σ1 τ1) (B_X12_sheet_0 4294967296 σ τ x1 x2 x3 x4) := by
  have hN : 4294967296 ≤ 4294967296 := Nat.le_refl _
  obtain ⟨g, h⟩ := hz
  exact z_end hn hI (z_sheet hN h (by omega)) (fun a σ1 τ1 e c k hc => (fr_B_X12_sheet_0 4294967296 σ τ x1 x2 x3 x4 e).1 c k (by omega))
theorem ze_sheet {n : Nat} {σ : gI} {τ : gJ} {x1 x2 x3 x4 : Int32} (hn : n + 6 ≤ 3072) (hI : IC σ) (hz : ZN σ (1000 * (n : Int))) (hG : GG σ) : okp (fun _ σ1 τ1 => Z5 (n + 6) σ1 τ1) (B_X12_sheet_0 4294967296 σ τ x1 x2 x3 x4) := by
  obtain ⟨a, σ1, τ1, e, h⟩ := zc_sheet (τ := τ) (x1 := x1) (x2 := x2) (x3 := x3) (x4 := x4) hn hI hz
  have f := (fr_B_X12_sheet_0 4294967296 σ τ x1 x2 x3 x4 e).1
  exact ⟨a, σ1, τ1, e, h, gg_fr hG (fun c k hc => f c k (by omega)) ((f 199 31 (by omega)).trans hG.2.1.2.2)⟩
theorem zc_put {n : Nat} {σ : gI} {τ : gJ} {x1 x2 x3 x4 : Int32} (hn : n + 6 ≤ 3072) (hI : IC σ) (hz : ZN σ (1000 * (n : Int))) : okp (fun _ σ1 τ1 => Z (n + 6) σ1 τ1) (B_X12_put_0 4294967296 σ τ x1 x2 x3 x4) := by
  have hN : 4294967296 ≤ 4294967296 := Nat.le_refl _
  obtain ⟨g, h⟩ := hz
  exact z_end hn hI (z_put hN h (by omega)) (fun a σ1 τ1 e c k hc => (fr_B_X12_put_0 4294967296 σ τ x1 x2 x3 x4 e).1 c k (by omega))
theorem ze_put {n : Nat} {σ : gI} {τ : gJ} {x1 x2 x3 x4 : Int32} (hn : n + 6 ≤ 3072) (hI : IC σ) (hz : ZN σ (1000 * (n : Int))) (hG : GG σ) : okp (fun _ σ1 τ1 => Z5 (n + 6) σ1 τ1) (B_X12_put_0 4294967296 σ τ x1 x2 x3 x4) := by
  obtain ⟨a, σ1, τ1, e, h⟩ := zc_put (τ := τ) (x1 := x1) (x2 := x2) (x3 := x3) (x4 := x4) hn hI hz
  have f := (fr_B_X12_put_0 4294967296 σ τ x1 x2 x3 x4 e).1
  exact ⟨a, σ1, τ1, e, h, gg_fr hG (fun c k hc => f c k (by omega)) ((f 199 31 (by omega)).trans hG.2.1.2.2)⟩
theorem zc_give {n : Nat} {σ : gI} {τ : gJ} {x1 x2 : Int32} (hn : n + 6 ≤ 3072) (hI : IC σ) (hz : ZN σ (1000 * (n : Int))) : okp (fun _ σ1 τ1 => Z (n + 6) σ1 τ1) (B_X12_give_0 4294967296 σ τ x1 x2) := by
  have hN : 4294967296 ≤ 4294967296 := Nat.le_refl _
  obtain ⟨g, h⟩ := hz
  exact z_end hn hI (z_give hN h (by omega)) (fun a σ1 τ1 e c k hc => (fr_B_X12_give_0 4294967296 σ τ x1 x2 e).1 c k (by omega))
theorem ze_give {n : Nat} {σ : gI} {τ : gJ} {x1 x2 : Int32} (hn : n + 6 ≤ 3072) (hI : IC σ) (hz : ZN σ (1000 * (n : Int))) (hG : GG σ) : okp (fun _ σ1 τ1 => Z5 (n + 6) σ1 τ1) (B_X12_give_0 4294967296 σ τ x1 x2) := by
  obtain ⟨a, σ1, τ1, e, h⟩ := zc_give (τ := τ) (x1 := x1) (x2 := x2) hn hI hz
  have f := (fr_B_X12_give_0 4294967296 σ τ x1 x2 e).1
  exact ⟨a, σ1, τ1, e, h, gg_fr hG (fun c k hc => f c k (by omega)) ((f 199 31 (by omega)).trans hG.2.1.2.2)⟩
theorem zc_run {n : Nat} {σ : gI} {τ : gJ} {x1 : Int32} (hn : n + 6 ≤ 3072) (hI : IC σ) (hz : ZN σ (1000 * (n : Int))) : okp (fun _ σ1 τ1 => Z (n + 6) σ1 τ1) (B_X12_run_0 4294967296 σ τ x1) := by
  have hN : 4294967296 ≤ 4294967296 := Nat.le_refl _
  obtain ⟨g, h⟩ := hz
  exact z_end hn hI (z_run hN h (by omega) (by omega)) (fun a σ1 τ1 e c k hc => (fr_B_X12_run_0 4294967296 σ τ x1 e).1 c k (by omega))
theorem ze_run {n : Nat} {σ : gI} {τ : gJ} {x1 : Int32} (hn : n + 6 ≤ 3072) (hI : IC σ) (hz : ZN σ (1000 * (n : Int))) (hG : GG σ) : okp (fun _ σ1 τ1 => Z5 (n + 6) σ1 τ1) (B_X12_run_0 4294967296 σ τ x1) := by
  obtain ⟨a, σ1, τ1, e, h⟩ := zc_run (τ := τ) (x1 := x1) hn hI hz
  have f := (fr_B_X12_run_0 4294967296 σ τ x1 e).1
  exact ⟨a, σ1, τ1, e, h, gg_fr hG (fun c k hc => f c k (by omega)) ((f 199 31 (by omega)).trans hG.2.1.2.2)⟩
theorem zc_day {n : Nat} {σ : gI} {τ : gJ} (hn : n + 6 ≤ 3072) (hI : IC σ) (hz : ZN σ (1000 * (n : Int))) : okp (fun _ σ1 τ1 => Z (n + 6) σ1 τ1) (B_X12_day_0 4294967296 σ τ) := by
  have hN : 4294967296 ≤ 4294967296 := Nat.le_refl _
  obtain ⟨g, h⟩ := hz
  exact z_end hn hI (z_day hN h (by omega) (by omega)) (fun a σ1 τ1 e c k hc => (fr_B_X12_day_0 4294967296 σ τ e).1 c k (by omega))
theorem zc_undo {n : Nat} {σ : gI} {τ : gJ} (hn : n + 6 ≤ 3072) (hI : IC σ) (hz : ZN σ (1000 * (n : Int))) : okp (fun _ σ1 τ1 => Z (n + 6) σ1 τ1) (B_X12_undo_0 4294967296 σ τ) := by
  have hN : 4294967296 ≤ 4294967296 := Nat.le_refl _
  obtain ⟨g, h⟩ := hz
  exact z_end hn hI (z_undo hN h (by omega) (by omega)) (fun a σ1 τ1 e c k hc => (fr_B_X12_undo_0 4294967296 σ τ e).1 c k (by omega))
theorem ze_undo {n : Nat} {σ : gI} {τ : gJ} (hn : n + 6 ≤ 3072) (hI : IC σ) (hz : ZN σ (1000 * (n : Int))) (hG : GG σ) : okp (fun _ σ1 τ1 => Z5 (n + 6) σ1 τ1) (B_X12_undo_0 4294967296 σ τ) := by
  obtain ⟨a, σ1, τ1, e, h⟩ := zc_undo (τ := τ) hn hI hz
  have f := (fr_B_X12_undo_0 4294967296 σ τ e).1
  exact ⟨a, σ1, τ1, e, h, gg_fr hG (fun c k hc => f c k (by omega)) ((f 199 31 (by omega)).trans hG.2.1.2.2)⟩
theorem zc_where {n : Nat} {σ : gI} {τ : gJ} {x1 x2 : Int32} (hn : n + 6 ≤ 3072) (hI : IC σ) (hz : ZN σ (1000 * (n : Int))) : okp (fun _ σ1 τ1 => Z (n + 6) σ1 τ1) (B_X12_where_0 4294967296 σ τ x1 x2) := by
  have hN : 4294967296 ≤ 4294967296 := Nat.le_refl _
  obtain ⟨g, h⟩ := hz
  refine z_end hn hI ?_ (fun a σ1 τ1 e c k hc => (fr_B_X12_where_0 4294967296 σ τ x1 x2 e).1 c k (by omega))
  obtain ⟨a, σ1, τ1, e, hQ⟩ := w_B_X12_where_0 (τ := τ) (x1 := x1) (x2 := x2) hN h.1
  have h22 := h.2.1
  exact ⟨a, σ1, τ1, e, zn_q h hQ (by omega) (by omega) (fun c k hh => (fr_B_X12_where_0 4294967296 σ τ x1 x2 e).1 c k (by omega))⟩
theorem ze_where {n : Nat} {σ : gI} {τ : gJ} {x1 x2 : Int32} (hn : n + 6 ≤ 3072) (hI : IC σ) (hz : ZN σ (1000 * (n : Int))) (hG : GG σ) : okp (fun _ σ1 τ1 => Z5 (n + 6) σ1 τ1) (B_X12_where_0 4294967296 σ τ x1 x2) := by
  obtain ⟨a, σ1, τ1, e, h⟩ := zc_where (τ := τ) (x1 := x1) (x2 := x2) hn hI hz
  have f := (fr_B_X12_where_0 4294967296 σ τ x1 x2 e).1
  exact ⟨a, σ1, τ1, e, h, gg_fr hG (fun c k hc => f c k (by omega)) ((f 199 31 (by omega)).trans hG.2.1.2.2)⟩
theorem zc_comes {n : Nat} {σ : gI} {τ : gJ} {x1 : Int32} (hn : n + 6 ≤ 3072) (hI : IC σ) (hz : ZN σ (1000 * (n : Int))) : okp (fun _ σ1 τ1 => Z (n + 6) σ1 τ1) (B_X12_comes_0 4294967296 σ τ x1) := by
  have hN : 4294967296 ≤ 4294967296 := Nat.le_refl _
  obtain ⟨g, h⟩ := hz
  refine z_end hn hI ?_ (fun a σ1 τ1 e c k hc => (fr_B_X12_comes_0 4294967296 σ τ x1 e).1 c k (by omega))
  obtain ⟨a, σ1, τ1, e, hQ⟩ := w_B_X12_comes_0 (τ := τ) (x1 := x1) hN h.1
  have h22 := h.2.1
  exact ⟨a, σ1, τ1, e, zn_q h hQ (by omega) (by omega) (fun c k hh => (fr_B_X12_comes_0 4294967296 σ τ x1 e).1 c k (by omega))⟩
theorem ze_comes {n : Nat} {σ : gI} {τ : gJ} {x1 : Int32} (hn : n + 6 ≤ 3072) (hI : IC σ) (hz : ZN σ (1000 * (n : Int))) (hG : GG σ) : okp (fun _ σ1 τ1 => Z5 (n + 6) σ1 τ1) (B_X12_comes_0 4294967296 σ τ x1) := by
  obtain ⟨a, σ1, τ1, e, h⟩ := zc_comes (τ := τ) (x1 := x1) hn hI hz
  have f := (fr_B_X12_comes_0 4294967296 σ τ x1 e).1
  exact ⟨a, σ1, τ1, e, h, gg_fr hG (fun c k hc => f c k (by omega)) ((f 199 31 (by omega)).trans hG.2.1.2.2)⟩
theorem zc_lost {n : Nat} {σ : gI} {τ : gJ} {x1 : Int32} (hn : n + 6 ≤ 3072) (hI : IC σ) (hz : ZN σ (1000 * (n : Int))) : okp (fun _ σ1 τ1 => Z (n + 6) σ1 τ1) (B_X12_lost_0 4294967296 σ τ x1) := by
  have hN : 4294967296 ≤ 4294967296 := Nat.le_refl _
  obtain ⟨g, h⟩ := hz
  refine z_end hn hI ?_ (fun a σ1 τ1 e c k hc => (fr_B_X12_lost_0 4294967296 σ τ x1 e).1 c k (by omega))
  obtain ⟨a, σ1, τ1, e, hQ⟩ := w_B_X12_lost_0 (τ := τ) (x1 := x1) hN h.1
  have h22 := h.2.1
  exact ⟨a, σ1, τ1, e, zn_q h hQ (by omega) (by omega) (fun c k hh => (fr_B_X12_lost_0 4294967296 σ τ x1 e).1 c k (by omega))⟩
theorem ze_lost {n : Nat} {σ : gI} {τ : gJ} {x1 : Int32} (hn : n + 6 ≤ 3072) (hI : IC σ) (hz : ZN σ (1000 * (n : Int))) (hG : GG σ) : okp (fun _ σ1 τ1 => Z5 (n + 6) σ1 τ1) (B_X12_lost_0 4294967296 σ τ x1) := by
  obtain ⟨a, σ1, τ1, e, h⟩ := zc_lost (τ := τ) (x1 := x1) hn hI hz
  have f := (fr_B_X12_lost_0 4294967296 σ τ x1 e).1
  exact ⟨a, σ1, τ1, e, h, gg_fr hG (fun c k hc => f c k (by omega)) ((f 199 31 (by omega)).trans hG.2.1.2.2)⟩
theorem zc_homes {n : Nat} {σ : gI} {τ : gJ} {x1 : Int32} (hn : n + 6 ≤ 3072) (hI : IC σ) (hz : ZN σ (1000 * (n : Int))) : okp (fun _ σ1 τ1 => Z (n + 6) σ1 τ1) (B_X12_homes_0 4294967296 σ τ x1) := by
  have hN : 4294967296 ≤ 4294967296 := Nat.le_refl _
  obtain ⟨g, h⟩ := hz
  refine z_end hn hI ?_ (fun a σ1 τ1 e c k hc => (fr_B_X12_homes_0 4294967296 σ τ x1 e).1 c k (by omega))
  obtain ⟨a, σ1, τ1, e, hQ⟩ := w_B_X12_homes_0 (τ := τ) (x1 := x1) hN h.1
  have h22 := h.2.1
  exact ⟨a, σ1, τ1, e, zn_q h hQ (by omega) (by omega) (fun c k hh => (fr_B_X12_homes_0 4294967296 σ τ x1 e).1 c k (by omega))⟩
theorem ze_homes {n : Nat} {σ : gI} {τ : gJ} {x1 : Int32} (hn : n + 6 ≤ 3072) (hI : IC σ) (hz : ZN σ (1000 * (n : Int))) (hG : GG σ) : okp (fun _ σ1 τ1 => Z5 (n + 6) σ1 τ1) (B_X12_homes_0 4294967296 σ τ x1) := by
  obtain ⟨a, σ1, τ1, e, h⟩ := zc_homes (τ := τ) (x1 := x1) hn hI hz
  have f := (fr_B_X12_homes_0 4294967296 σ τ x1 e).1
  exact ⟨a, σ1, τ1, e, h, gg_fr hG (fun c k hc => f c k (by omega)) ((f 199 31 (by omega)).trans hG.2.1.2.2)⟩
theorem zc_sail {n : Nat} {σ : gI} {τ : gJ} {x1 x2 x3 x4 x5 : Int32} (hn : n + 6 ≤ 3072) (hI : IC σ) (hz : ZN σ (1000 * (n : Int))) : okp (fun _ σ1 τ1 => Z (n + 6) σ1 τ1) (B_X12_sail_0 4294967296 σ τ x1 x2 x3 x4 x5) := by
  have hN : 4294967296 ≤ 4294967296 := Nat.le_refl _
  obtain ⟨g, h⟩ := hz
  refine z_end hn hI ?_ (fun a σ1 τ1 e c k hc => (fr_B_X12_sail_0 4294967296 σ τ x1 x2 x3 x4 x5 e).1 c k (by omega))
  obtain ⟨a, σ1, τ1, e, hQ⟩ := w_B_X12_sail_0 (τ := τ) (x1 := x1) (x2 := x2) (x3 := x3) (x4 := x4) (x5 := x5) hN h.1
  have h22 := h.2.1
  exact ⟨a, σ1, τ1, e, zn_q h hQ (by omega) (by omega) (fun c k hh => (fr_B_X12_sail_0 4294967296 σ τ x1 x2 x3 x4 x5 e).1 c k (by omega))⟩
theorem ze_sail {n : Nat} {σ : gI} {τ : gJ} {x1 x2 x3 x4 x5 : Int32} (hn : n + 6 ≤ 3072) (hI : IC σ) (hz : ZN σ (1000 * (n : Int))) (hG : GG σ) : okp (fun _ σ1 τ1 => Z5 (n + 6) σ1 τ1) (B_X12_sail_0 4294967296 σ τ x1 x2 x3 x4 x5) := by
  obtain ⟨a, σ1, τ1, e, h⟩ := zc_sail (τ := τ) (x1 := x1) (x2 := x2) (x3 := x3) (x4 := x4) (x5 := x5) hn hI hz
  have f := (fr_B_X12_sail_0 4294967296 σ τ x1 x2 x3 x4 x5 e).1
  exact ⟨a, σ1, τ1, e, h, gg_fr hG (fun c k hc => f c k (by omega)) ((f 199 31 (by omega)).trans hG.2.1.2.2)⟩
theorem zc_soonest {n : Nat} {σ : gI} {τ : gJ} {x1 x2 x3 : Int32} (hn : n + 6 ≤ 3072) (hI : IC σ) (hz : ZN σ (1000 * (n : Int))) : okp (fun _ σ1 τ1 => Z (n + 6) σ1 τ1) (B_X12_soonest_0 4294967296 σ τ x1 x2 x3) := by
  have hN : 4294967296 ≤ 4294967296 := Nat.le_refl _
  obtain ⟨g, h⟩ := hz
  refine z_end hn hI ?_ (fun a σ1 τ1 e c k hc => (fr_B_X12_soonest_0 4294967296 σ τ x1 x2 x3 e).1 c k (by omega))
  obtain ⟨a, σ1, τ1, e, hQ⟩ := w_B_X12_soonest_0 (τ := τ) (x1 := x1) (x2 := x2) (x3 := x3) hN h.1
  have h22 := h.2.1
  exact ⟨a, σ1, τ1, e, zn_q h hQ (by omega) (by omega) (fun c k hh => (fr_B_X12_soonest_0 4294967296 σ τ x1 x2 x3 e).1 c k (by omega))⟩
theorem ze_soonest {n : Nat} {σ : gI} {τ : gJ} {x1 x2 x3 : Int32} (hn : n + 6 ≤ 3072) (hI : IC σ) (hz : ZN σ (1000 * (n : Int))) (hG : GG σ) : okp (fun _ σ1 τ1 => Z5 (n + 6) σ1 τ1) (B_X12_soonest_0 4294967296 σ τ x1 x2 x3) := by
  obtain ⟨a, σ1, τ1, e, h⟩ := zc_soonest (τ := τ) (x1 := x1) (x2 := x2) (x3 := x3) hn hI hz
  have f := (fr_B_X12_soonest_0 4294967296 σ τ x1 x2 x3 e).1
  exact ⟨a, σ1, τ1, e, h, gg_fr hG (fun c k hc => f c k (by omega)) ((f 199 31 (by omega)).trans hG.2.1.2.2)⟩
theorem zc_basin {n : Nat} {σ : gI} {τ : gJ} {x1 x2 x3 : Int32} (hn : n + 6 ≤ 3072) (hI : IC σ) (hz : ZN σ (1000 * (n : Int))) : okp (fun _ σ1 τ1 => Z (n + 6) σ1 τ1) (B_X12_basin_0 4294967296 σ τ x1 x2 x3) := by
  have hN : 4294967296 ≤ 4294967296 := Nat.le_refl _
  obtain ⟨g, h⟩ := hz
  refine z_end hn hI ?_ (fun a σ1 τ1 e c k hc => (fr_B_X12_basin_0 4294967296 σ τ x1 x2 x3 e).1 c k (by omega))
  obtain ⟨a, σ1, τ1, e, hQ⟩ := w_B_X12_basin_0 (τ := τ) (x1 := x1) (x2 := x2) (x3 := x3) hN h.1
  have h22 := h.2.1
  exact ⟨a, σ1, τ1, e, zn_q h hQ (by omega) (by omega) (fun c k hh => (fr_B_X12_basin_0 4294967296 σ τ x1 x2 x3 e).1 c k (by omega))⟩
theorem ze_basin {n : Nat} {σ : gI} {τ : gJ} {x1 x2 x3 : Int32} (hn : n + 6 ≤ 3072) (hI : IC σ) (hz : ZN σ (1000 * (n : Int))) (hG : GG σ) : okp (fun _ σ1 τ1 => Z5 (n + 6) σ1 τ1) (B_X12_basin_0 4294967296 σ τ x1 x2 x3) := by
  obtain ⟨a, σ1, τ1, e, h⟩ := zc_basin (τ := τ) (x1 := x1) (x2 := x2) (x3 := x3) hn hI hz
  have f := (fr_B_X12_basin_0 4294967296 σ τ x1 x2 x3 e).1
  exact ⟨a, σ1, τ1, e, h, gg_fr hG (fun c k hc => f c k (by omega)) ((f 199 31 (by omega)).trans hG.2.1.2.2)⟩
theorem zc_boat {n : Nat} {σ : gI} {τ : gJ} {x1 x2 x3 : Int32} (hn : n + 6 ≤ 3072) (hI : IC σ) (hz : ZN σ (1000 * (n : Int))) : okp (fun _ σ1 τ1 => Z (n + 6) σ1 τ1) (B_X12_boat_0 4294967296 σ τ x1 x2 x3) := by
  have hN : 4294967296 ≤ 4294967296 := Nat.le_refl _
  obtain ⟨g, h⟩ := hz
  refine z_end hn hI ?_ (fun a σ1 τ1 e c k hc => (fr_B_X12_boat_0 4294967296 σ τ x1 x2 x3 e).1 c k (by omega))
  obtain ⟨a, σ1, τ1, e, hQ⟩ := w_B_X12_boat_0 (τ := τ) (x1 := x1) (x2 := x2) (x3 := x3) hN h.1
  have h22 := h.2.1
  exact ⟨a, σ1, τ1, e, zn_q h hQ (by omega) (by omega) (fun c k hh => (fr_B_X12_boat_0 4294967296 σ τ x1 x2 x3 e).1 c k (by omega))⟩
theorem ze_boat {n : Nat} {σ : gI} {τ : gJ} {x1 x2 x3 : Int32} (hn : n + 6 ≤ 3072) (hI : IC σ) (hz : ZN σ (1000 * (n : Int))) (hG : GG σ) : okp (fun _ σ1 τ1 => Z5 (n + 6) σ1 τ1) (B_X12_boat_0 4294967296 σ τ x1 x2 x3) := by
  obtain ⟨a, σ1, τ1, e, h⟩ := zc_boat (τ := τ) (x1 := x1) (x2 := x2) (x3 := x3) hn hI hz
  have f := (fr_B_X12_boat_0 4294967296 σ τ x1 x2 x3 e).1
  exact ⟨a, σ1, τ1, e, h, gg_fr hG (fun c k hc => f c k (by omega)) ((f 199 31 (by omega)).trans hG.2.1.2.2)⟩
theorem zc_coins {n : Nat} {σ : gI} {τ : gJ} {x1 x2 x3 : Int32} (hn : n + 6 ≤ 3072) (hI : IC σ) (hz : ZN σ (1000 * (n : Int))) : okp (fun _ σ1 τ1 => Z (n + 6) σ1 τ1) (B_X12_coins_0 4294967296 σ τ x1 x2 x3) := by
  have hN : 4294967296 ≤ 4294967296 := Nat.le_refl _
  obtain ⟨g, h⟩ := hz
  refine z_end hn hI ?_ (fun a σ1 τ1 e c k hc => (fr_B_X12_coins_0 4294967296 σ τ x1 x2 x3 e).1 c k (by omega))
  obtain ⟨a, σ1, τ1, e, hQ⟩ := w_B_X12_coins_0 (τ := τ) (x1 := x1) (x2 := x2) (x3 := x3) hN h.1
  have h22 := h.2.1
  exact ⟨a, σ1, τ1, e, zn_q h hQ (by omega) (by omega) (fun c k hh => (fr_B_X12_coins_0 4294967296 σ τ x1 x2 x3 e).1 c k (by omega))⟩
theorem ze_coins {n : Nat} {σ : gI} {τ : gJ} {x1 x2 x3 : Int32} (hn : n + 6 ≤ 3072) (hI : IC σ) (hz : ZN σ (1000 * (n : Int))) (hG : GG σ) : okp (fun _ σ1 τ1 => Z5 (n + 6) σ1 τ1) (B_X12_coins_0 4294967296 σ τ x1 x2 x3) := by
  obtain ⟨a, σ1, τ1, e, h⟩ := zc_coins (τ := τ) (x1 := x1) (x2 := x2) (x3 := x3) hn hI hz
  have f := (fr_B_X12_coins_0 4294967296 σ τ x1 x2 x3 e).1
  exact ⟨a, σ1, τ1, e, h, gg_fr hG (fun c k hc => f c k (by omega)) ((f 199 31 (by omega)).trans hG.2.1.2.2)⟩
theorem zc_waits {n : Nat} {σ : gI} {τ : gJ} {x1 x2 x3 x4 : Int32} (hn : n + 6 ≤ 3072) (hI : IC σ) (hz : ZN σ (1000 * (n : Int))) : okp (fun _ σ1 τ1 => Z (n + 6) σ1 τ1) (B_X12_waits_0 4294967296 σ τ x1 x2 x3 x4) := by
  have hN : 4294967296 ≤ 4294967296 := Nat.le_refl _
  obtain ⟨g, h⟩ := hz
  refine z_end hn hI ?_ (fun a σ1 τ1 e c k hc => (fr_B_X12_waits_0 4294967296 σ τ x1 x2 x3 x4 e).1 c k (by omega))
  obtain ⟨a, σ1, τ1, e, hQ⟩ := w_B_X12_waits_0 (τ := τ) (x1 := x1) (x2 := x2) (x3 := x3) (x4 := x4) hN h.1
  have h22 := h.2.1
  exact ⟨a, σ1, τ1, e, zn_q h hQ (by omega) (by omega) (fun c k hh => (fr_B_X12_waits_0 4294967296 σ τ x1 x2 x3 x4 e).1 c k (by omega))⟩
theorem ze_waits {n : Nat} {σ : gI} {τ : gJ} {x1 x2 x3 x4 : Int32} (hn : n + 6 ≤ 3072) (hI : IC σ) (hz : ZN σ (1000 * (n : Int))) (hG : GG σ) : okp (fun _ σ1 τ1 => Z5 (n + 6) σ1 τ1) (B_X12_waits_0 4294967296 σ τ x1 x2 x3 x4) := by
  obtain ⟨a, σ1, τ1, e, h⟩ := zc_waits (τ := τ) (x1 := x1) (x2 := x2) (x3 := x3) (x4 := x4) hn hI hz
  have f := (fr_B_X12_waits_0 4294967296 σ τ x1 x2 x3 x4 e).1
  exact ⟨a, σ1, τ1, e, h, gg_fr hG (fun c k hc => f c k (by omega)) ((f 199 31 (by omega)).trans hG.2.1.2.2)⟩
theorem zc_round {n : Nat} {σ : gI} {τ : gJ} {x1 : Int32} (hn : n + 6 ≤ 3072) (hI : IC σ) (hz : ZN σ (1000 * (n : Int))) : okp (fun _ σ1 τ1 => Z (n + 6) σ1 τ1) (B_X12_round_0 4294967296 σ τ x1) := by
  have hN : 4294967296 ≤ 4294967296 := Nat.le_refl _
  obtain ⟨g, h⟩ := hz
  refine z_end hn hI ?_ (fun a σ1 τ1 e c k hc => (fr_B_X12_round_0 4294967296 σ τ x1 e).1 c k (by omega))
  obtain ⟨a, σ1, τ1, e, hQ⟩ := w_B_X12_round_0 (τ := τ) (x1 := x1) hN h.1
  have h22 := h.2.1
  exact ⟨a, σ1, τ1, e, zn_q h hQ (by omega) (by omega) (fun c k hh => (fr_B_X12_round_0 4294967296 σ τ x1 e).1 c k (by omega))⟩
theorem ze_round {n : Nat} {σ : gI} {τ : gJ} {x1 : Int32} (hn : n + 6 ≤ 3072) (hI : IC σ) (hz : ZN σ (1000 * (n : Int))) (hG : GG σ) : okp (fun _ σ1 τ1 => Z5 (n + 6) σ1 τ1) (B_X12_round_0 4294967296 σ τ x1) := by
  obtain ⟨a, σ1, τ1, e, h⟩ := zc_round (τ := τ) (x1 := x1) hn hI hz
  have f := (fr_B_X12_round_0 4294967296 σ τ x1 e).1
  exact ⟨a, σ1, τ1, e, h, gg_fr hG (fun c k hc => f c k (by omega)) ((f 199 31 (by omega)).trans hG.2.1.2.2)⟩
theorem zc_save {n : Nat} {σ : gI} {τ : gJ} {x1 : Int32} (hn : n + 6 ≤ 3072) (hI : IC σ) (hz : ZN σ (1000 * (n : Int))) : okp (fun _ σ1 τ1 => Z (n + 6) σ1 τ1) (B_X12_save_0 4294967296 σ τ x1) := by
  have hN : 4294967296 ≤ 4294967296 := Nat.le_refl _
  obtain ⟨g, h⟩ := hz
  refine z_end hn hI ?_ (fun a σ1 τ1 e c k hc => (fr_B_X12_save_0 4294967296 σ τ x1 e).1 c k (by omega))
  obtain ⟨a, σ1, τ1, e, hQ⟩ := w_B_X12_save_0 (τ := τ) (x1 := x1) hN h.1
  have h22 := h.2.1
  exact ⟨a, σ1, τ1, e, zn_q h hQ (by omega) (by omega) (fun c k hh => (fr_B_X12_save_0 4294967296 σ τ x1 e).1 c k (by omega))⟩
theorem ze_save {n : Nat} {σ : gI} {τ : gJ} {x1 : Int32} (hn : n + 6 ≤ 3072) (hI : IC σ) (hz : ZN σ (1000 * (n : Int))) (hG : GG σ) : okp (fun _ σ1 τ1 => Z5 (n + 6) σ1 τ1) (B_X12_save_0 4294967296 σ τ x1) := by
  obtain ⟨a, σ1, τ1, e, h⟩ := zc_save (τ := τ) (x1 := x1) hn hI hz
  have f := (fr_B_X12_save_0 4294967296 σ τ x1 e).1
  exact ⟨a, σ1, τ1, e, h, gg_fr hG (fun c k hc => f c k (by omega)) ((f 199 31 (by omega)).trans hG.2.1.2.2)⟩
theorem zc_steer {n : Nat} {σ : gI} {τ : gJ} {x1 x2 : Int32} (hn : n + 6 ≤ 3072) (hI : IC σ) (hz : ZN σ (1000 * (n : Int))) : okp (fun _ σ1 τ1 => Z (n + 6) σ1 τ1) (B_X12_steer_0 4294967296 σ τ x1 x2) := by
  have hN : 4294967296 ≤ 4294967296 := Nat.le_refl _
  obtain ⟨g, h⟩ := hz
  refine z_end hn hI ?_ (fun a σ1 τ1 e c k hc => (fr_B_X12_steer_0 4294967296 σ τ x1 x2 e).1 c k (by omega))
  obtain ⟨a, σ1, τ1, e, hQ⟩ := w_B_X12_steer_0 (τ := τ) (x1 := x1) (x2 := x2) hN h.1
  have h22 := h.2.1
  exact ⟨a, σ1, τ1, e, zn_q h hQ (by omega) (by omega) (fun c k hh => (fr_B_X12_steer_0 4294967296 σ τ x1 x2 e).1 c k (by omega))⟩
theorem ze_steer {n : Nat} {σ : gI} {τ : gJ} {x1 x2 : Int32} (hn : n + 6 ≤ 3072) (hI : IC σ) (hz : ZN σ (1000 * (n : Int))) (hG : GG σ) : okp (fun _ σ1 τ1 => Z5 (n + 6) σ1 τ1) (B_X12_steer_0 4294967296 σ τ x1 x2) := by
  obtain ⟨a, σ1, τ1, e, h⟩ := zc_steer (τ := τ) (x1 := x1) (x2 := x2) hn hI hz
  have f := (fr_B_X12_steer_0 4294967296 σ τ x1 x2 e).1
  exact ⟨a, σ1, τ1, e, h, gg_fr hG (fun c k hc => f c k (by omega)) ((f 199 31 (by omega)).trans hG.2.1.2.2)⟩
theorem zc_ways {n : Nat} {σ : gI} {τ : gJ} {x1 x2 x3 x4 : Int32} (hn : n + 6 ≤ 3072) (hI : IC σ) (hz : ZN σ (1000 * (n : Int))) : okp (fun _ σ1 τ1 => Z (n + 6) σ1 τ1) (B_X12_ways_0 4294967296 σ τ x1 x2 x3 x4) := by
  have hN : 4294967296 ≤ 4294967296 := Nat.le_refl _
  obtain ⟨g, h⟩ := hz
  refine z_end hn hI ?_ (fun a σ1 τ1 e c k hc => (fr_B_X12_ways_0 4294967296 σ τ x1 x2 x3 x4 e).1 c k (by omega))
  obtain ⟨a, σ1, τ1, e, hQ⟩ := w_B_X12_ways_0 (τ := τ) (x1 := x1) (x2 := x2) (x3 := x3) (x4 := x4) hN h.1
  have h22 := h.2.1
  exact ⟨a, σ1, τ1, e, zn_q h hQ (by omega) (by omega) (fun c k hh => (fr_B_X12_ways_0 4294967296 σ τ x1 x2 x3 x4 e).1 c k (by omega))⟩
theorem ze_ways {n : Nat} {σ : gI} {τ : gJ} {x1 x2 x3 x4 : Int32} (hn : n + 6 ≤ 3072) (hI : IC σ) (hz : ZN σ (1000 * (n : Int))) (hG : GG σ) : okp (fun _ σ1 τ1 => Z5 (n + 6) σ1 τ1) (B_X12_ways_0 4294967296 σ τ x1 x2 x3 x4) := by
  obtain ⟨a, σ1, τ1, e, h⟩ := zc_ways (τ := τ) (x1 := x1) (x2 := x2) (x3 := x3) (x4 := x4) hn hI hz
  have f := (fr_B_X12_ways_0 4294967296 σ τ x1 x2 x3 x4 e).1
  exact ⟨a, σ1, τ1, e, h, gg_fr hG (fun c k hc => f c k (by omega)) ((f 199 31 (by omega)).trans hG.2.1.2.2)⟩
theorem zc_duel {n : Nat} {σ : gI} {τ : gJ} {x1 x2 x3 x4 x5 : Int32} (hn : n + 6 ≤ 3072) (hI : IC σ) (hz : ZN σ (1000 * (n : Int))) : okp (fun _ σ1 τ1 => Z (n + 6) σ1 τ1) (B_X12_duel_0 4294967296 σ τ x1 x2 x3 x4 x5) := by
  have hN : 4294967296 ≤ 4294967296 := Nat.le_refl _
  obtain ⟨g, h⟩ := hz
  refine z_end hn hI ?_ (fun a σ1 τ1 e c k hc => (fr_B_X12_duel_0 4294967296 σ τ x1 x2 x3 x4 x5 e).1 c k (by omega))
  obtain ⟨a, σ1, τ1, e, hQ⟩ := w_B_X12_duel_0 (τ := τ) (x1 := x1) (x2 := x2) (x3 := x3) (x4 := x4) (x5 := x5) hN h.1
  have h22 := h.2.1
  exact ⟨a, σ1, τ1, e, zn_q h hQ (by omega) (by omega) (fun c k hh => (fr_B_X12_duel_0 4294967296 σ τ x1 x2 x3 x4 x5 e).1 c k (by omega))⟩
theorem ze_duel {n : Nat} {σ : gI} {τ : gJ} {x1 x2 x3 x4 x5 : Int32} (hn : n + 6 ≤ 3072) (hI : IC σ) (hz : ZN σ (1000 * (n : Int))) (hG : GG σ) : okp (fun _ σ1 τ1 => Z5 (n + 6) σ1 τ1) (B_X12_duel_0 4294967296 σ τ x1 x2 x3 x4 x5) := by
  obtain ⟨a, σ1, τ1, e, h⟩ := zc_duel (τ := τ) (x1 := x1) (x2 := x2) (x3 := x3) (x4 := x4) (x5 := x5) hn hI hz
  have f := (fr_B_X12_duel_0 4294967296 σ τ x1 x2 x3 x4 x5 e).1
  exact ⟨a, σ1, τ1, e, h, gg_fr hG (fun c k hc => f c k (by omega)) ((f 199 31 (by omega)).trans hG.2.1.2.2)⟩
theorem zc_cork {n : Nat} {σ : gI} {τ : gJ} {x1 x2 x3 : Int32} (hn : n + 6 ≤ 3072) (hI : IC σ) (hz : ZN σ (1000 * (n : Int))) : okp (fun _ σ1 τ1 => Z (n + 6) σ1 τ1) (B_X12_cork_0 4294967296 σ τ x1 x2 x3) := by
  have hN : 4294967296 ≤ 4294967296 := Nat.le_refl _
  obtain ⟨g, h⟩ := hz
  exact z_end hn hI (z_cork hN h (by omega)) (fun a σ1 τ1 e c k hc => (fr_B_X12_cork_0 4294967296 σ τ x1 x2 x3 e).1 c k (by omega))
theorem zc_forget {n : Nat} {σ : gI} {τ : gJ} (hn : n + 6 ≤ 3072) (hI : IC σ) (hz : ZN σ (1000 * (n : Int))) : okp (fun _ σ1 τ1 => Z (n + 6) σ1 τ1) (B_X12_forget_0 4294967296 σ τ) := by
  have hN : 4294967296 ≤ 4294967296 := Nat.le_refl _
  obtain ⟨g, h⟩ := hz
  exact z_end hn hI (z_forget h (by omega)) (fun a σ1 τ1 e c k hc => (fr_B_X12_forget_0 4294967296 σ τ e).1 c k (by omega))
theorem zc_maps {n : Nat} {σ : gI} {τ : gJ} (hn : n + 6 ≤ 3072) (hI : IC σ) (hz : ZN σ (1000 * (n : Int))) : okp (fun _ σ1 τ1 => Z (n + 6) σ1 τ1) (B_X12_maps_0 4294967296 σ τ) := by
  have hN : 4294967296 ≤ 4294967296 := Nat.le_refl _
  obtain ⟨g, h⟩ := hz
  refine z_end hn hI ?_ (fun a σ1 τ1 e c k hc => (fr_B_X12_maps_0 4294967296 σ τ e).1 c k (by omega))
  obtain ⟨a, σ1, τ1, e, hQ⟩ := w_B_X12_maps_0 (τ := τ) hN h.1
  have h22 := h.2.1
  exact ⟨a, σ1, τ1, e, zn_q h hQ (by omega) (by omega) (fun c k hh => (fr_B_X12_maps_0 4294967296 σ τ e).1 c k (by omega))⟩
theorem ze_maps {n : Nat} {σ : gI} {τ : gJ} (hn : n + 6 ≤ 3072) (hI : IC σ) (hz : ZN σ (1000 * (n : Int))) (hG : GG σ) : okp (fun _ σ1 τ1 => Z5 (n + 6) σ1 τ1) (B_X12_maps_0 4294967296 σ τ) := by
  obtain ⟨a, σ1, τ1, e, h⟩ := zc_maps (τ := τ) hn hI hz
  have f := (fr_B_X12_maps_0 4294967296 σ τ e).1
  exact ⟨a, σ1, τ1, e, h, gg_fr hG (fun c k hc => f c k (by omega)) ((f 199 31 (by omega)).trans hG.2.1.2.2)⟩
theorem zc_next {n : Nat} {σ : gI} {τ : gJ} {x1 : Int32} (hn : n + 6 ≤ 3072) (hI : IC σ) (hz : ZN σ (1000 * (n : Int))) : okp (fun _ σ1 τ1 => Z (n + 6) σ1 τ1) (B_X12_next_0 4294967296 σ τ x1) := by
  have hN : 4294967296 ≤ 4294967296 := Nat.le_refl _
  obtain ⟨g, h⟩ := hz
  refine z_end hn hI ?_ (fun a σ1 τ1 e c k hc => (fr_B_X12_next_0 4294967296 σ τ x1 e).1 c k (by omega))
  obtain ⟨a, σ1, τ1, e, hQ⟩ := w_B_X12_next_0 (τ := τ) (x1 := x1) hN h.1
  have h22 := h.2.1
  exact ⟨a, σ1, τ1, e, zn_q h hQ (by omega) (by omega) (fun c k hh => (fr_B_X12_next_0 4294967296 σ τ x1 e).1 c k (by omega))⟩
theorem ze_next {n : Nat} {σ : gI} {τ : gJ} {x1 : Int32} (hn : n + 6 ≤ 3072) (hI : IC σ) (hz : ZN σ (1000 * (n : Int))) (hG : GG σ) : okp (fun _ σ1 τ1 => Z5 (n + 6) σ1 τ1) (B_X12_next_0 4294967296 σ τ x1) := by
  obtain ⟨a, σ1, τ1, e, h⟩ := zc_next (τ := τ) (x1 := x1) hn hI hz
  have f := (fr_B_X12_next_0 4294967296 σ τ x1 e).1
  exact ⟨a, σ1, τ1, e, h, gg_fr hG (fun c k hc => f c k (by omega)) ((f 199 31 (by omega)).trans hG.2.1.2.2)⟩
theorem zc_odds {n : Nat} {σ : gI} {τ : gJ} {x1 x2 x3 : Int32} (hn : n + 6 ≤ 3072) (hI : IC σ) (hz : ZN σ (1000 * (n : Int))) : okp (fun _ σ1 τ1 => Z (n + 6) σ1 τ1) (B_X12_odds_0 4294967296 σ τ x1 x2 x3) := by
  have hN : 4294967296 ≤ 4294967296 := Nat.le_refl _
  obtain ⟨g, h⟩ := hz
  refine z_end hn hI ?_ (fun a σ1 τ1 e c k hc => (fr_B_X12_odds_0 4294967296 σ τ x1 x2 x3 e).1 c k (by omega))
  obtain ⟨a, σ1, τ1, e, hQ⟩ := w_B_X12_odds_0 (τ := τ) (x1 := x1) (x2 := x2) (x3 := x3) hN h.1
  have h22 := h.2.1
  exact ⟨a, σ1, τ1, e, zn_q h hQ (by omega) (by omega) (fun c k hh => (fr_B_X12_odds_0 4294967296 σ τ x1 x2 x3 e).1 c k (by omega))⟩
theorem ze_odds {n : Nat} {σ : gI} {τ : gJ} {x1 x2 x3 : Int32} (hn : n + 6 ≤ 3072) (hI : IC σ) (hz : ZN σ (1000 * (n : Int))) (hG : GG σ) : okp (fun _ σ1 τ1 => Z5 (n + 6) σ1 τ1) (B_X12_odds_0 4294967296 σ τ x1 x2 x3) := by
  obtain ⟨a, σ1, τ1, e, h⟩ := zc_odds (τ := τ) (x1 := x1) (x2 := x2) (x3 := x3) hn hI hz
  have f := (fr_B_X12_odds_0 4294967296 σ τ x1 x2 x3 e).1
  exact ⟨a, σ1, τ1, e, h, gg_fr hG (fun c k hc => f c k (by omega)) (xr_odds31 hG.2.1.2.2 e)⟩
theorem zc_marks {n : Nat} {σ : gI} {τ : gJ} {x1 x2 x3 : Int32} (hn : n + 6 ≤ 3072) (hI : IC σ) (hz : ZN σ (1000 * (n : Int))) : okp (fun _ σ1 τ1 => Z (n + 6) σ1 τ1) (B_X12_marks_0 4294967296 σ τ x1 x2 x3) := by
  have hN : 4294967296 ≤ 4294967296 := Nat.le_refl _
  obtain ⟨g, h⟩ := hz
  refine z_end hn hI ?_ (fun a σ1 τ1 e c k hc => (fr_B_X12_marks_0 4294967296 σ τ x1 x2 x3 e).1 c k (by omega))
  obtain ⟨a, σ1, τ1, e, hQ⟩ := w_B_X12_marks_0 (τ := τ) (x1 := x1) (x2 := x2) (x3 := x3) hN h.1
  have h22 := h.2.1
  exact ⟨a, σ1, τ1, e, zn_q h hQ (by omega) (by omega) (fun c k hh => (fr_B_X12_marks_0 4294967296 σ τ x1 x2 x3 e).1 c k (by omega))⟩
theorem ze_marks {n : Nat} {σ : gI} {τ : gJ} {x1 x2 x3 : Int32} (hn : n + 6 ≤ 3072) (hI : IC σ) (hz : ZN σ (1000 * (n : Int))) (hG : GG σ) : okp (fun _ σ1 τ1 => Z5 (n + 6) σ1 τ1) (B_X12_marks_0 4294967296 σ τ x1 x2 x3) := by
  obtain ⟨a, σ1, τ1, e, h⟩ := zc_marks (τ := τ) (x1 := x1) (x2 := x2) (x3 := x3) hn hI hz
  have f := (fr_B_X12_marks_0 4294967296 σ τ x1 x2 x3 e).1
  exact ⟨a, σ1, τ1, e, h, gg_fr hG (fun c k hc => f c k (by omega)) ((f 199 31 (by omega)).trans hG.2.1.2.2)⟩
theorem zc_order {n : Nat} {σ : gI} {τ : gJ} {x1 x2 : Int32} (hn : n + 6 ≤ 3072) (hI : IC σ) (hz : ZN σ (1000 * (n : Int))) : okp (fun _ σ1 τ1 => Z (n + 6) σ1 τ1) (B_X12_order_0 4294967296 σ τ x1 x2) := by
  have hN : 4294967296 ≤ 4294967296 := Nat.le_refl _
  obtain ⟨g, h⟩ := hz
  refine z_end hn hI ?_ (fun a σ1 τ1 e c k hc => (fr_B_X12_order_0 4294967296 σ τ x1 x2 e).1 c k (by omega))
  obtain ⟨a, σ1, τ1, e, hQ⟩ := z_order (τ := τ) (x1 := x1) (x2 := x2) hN h (Int.le_refl _)
  have h22 := h.2.1
  exact ⟨a, σ1, τ1, e, zn_q h hQ (by omega) (by omega) (fun c k hh => (fr_B_X12_order_0 4294967296 σ τ x1 x2 e).1 c k (by omega))⟩
theorem ze_order {n : Nat} {σ : gI} {τ : gJ} {x1 x2 : Int32} (hn : n + 6 ≤ 3072) (hI : IC σ) (hz : ZN σ (1000 * (n : Int))) (hG : GG σ) : okp (fun _ σ1 τ1 => Z5 (n + 6) σ1 τ1) (B_X12_order_0 4294967296 σ τ x1 x2) := by
  obtain ⟨a, σ1, τ1, e, h⟩ := zc_order (τ := τ) (x1 := x1) (x2 := x2) hn hI hz
  have f := (fr_B_X12_order_0 4294967296 σ τ x1 x2 e).1
  exact ⟨a, σ1, τ1, e, h, gg_fr hG (fun c k hc => f c k (by omega)) ((f 199 31 (by omega)).trans hG.2.1.2.2)⟩
theorem zc_keep {n : Nat} {σ : gI} {τ : gJ} {x1 : Int32} (hn : n + 6 ≤ 3072) (hI : IC σ) (hz : ZN σ (1000 * (n : Int))) : okp (fun _ σ1 τ1 => Z (n + 6) σ1 τ1) (B_X12_keep_0 4294967296 σ τ x1) := by
  have hN : 4294967296 ≤ 4294967296 := Nat.le_refl _
  obtain ⟨g, h⟩ := hz
  exact z_end hn hI (ok_mono (fun _ _ _ h => h.2.2) (z_keep hN h (by omega) (by omega))) (fun a σ1 τ1 e c k hc => (fr_B_X12_keep_0 4294967296 σ τ x1 e).1 c k (by omega))
theorem zc_again {n : Nat} {σ : gI} {τ : gJ} {x1 : Int32} (hn : n + 6 ≤ 3072) (hI : IC σ) (hz : ZN σ (1000 * (n : Int))) : okp (fun _ σ1 τ1 => Z (n + 6) σ1 τ1) (B_X12_again_0 4294967296 σ τ x1) := by
  have hN : 4294967296 ≤ 4294967296 := Nat.le_refl _
  obtain ⟨g, h⟩ := hz
  exact z_end hn hI (z_again hN h (by omega) (by omega)) (fun a σ1 τ1 e c k hc => (fr_B_X12_again_0 4294967296 σ τ x1 e).1 c k (by omega))
theorem ze_again {n : Nat} {σ : gI} {τ : gJ} {x1 : Int32} (hn : n + 6 ≤ 3072) (hI : IC σ) (hz : ZN σ (1000 * (n : Int))) (hG : GG σ) : okp (fun _ σ1 τ1 => Z5 (n + 6) σ1 τ1) (B_X12_again_0 4294967296 σ τ x1) := by
  obtain ⟨a, σ1, τ1, e, h⟩ := zc_again (τ := τ) (x1 := x1) hn hI hz
  have f := (fr_B_X12_again_0 4294967296 σ τ x1 e).1
  exact ⟨a, σ1, τ1, e, h, gg_fr hG (fun c k hc => f c k (by omega)) ((f 199 31 (by omega)).trans hG.2.1.2.2)⟩
theorem zc_count {n : Nat} {σ : gI} {τ : gJ} {x1 : Int32} (hn : n + 6 ≤ 3072) (hI : IC σ) (hz : ZN σ (1000 * (n : Int))) : okp (fun _ σ1 τ1 => Z (n + 6) σ1 τ1) (B_X12_count_0 4294967296 σ τ x1) := by
  have hN : 4294967296 ≤ 4294967296 := Nat.le_refl _
  obtain ⟨g, h⟩ := hz
  refine z_end hn hI ?_ (fun a σ1 τ1 e c k hc => (fr_B_X12_count_0 4294967296 σ τ x1 e).1 c k (by omega))
  obtain ⟨a, σ1, τ1, e, hQ⟩ := w_B_X12_count_0 (τ := τ) (x1 := x1) hN h.1
  have h22 := h.2.1
  exact ⟨a, σ1, τ1, e, zn_q h hQ (by omega) (by omega) (fun c k hh => (fr_B_X12_count_0 4294967296 σ τ x1 e).1 c k (by omega))⟩
theorem ze_count {n : Nat} {σ : gI} {τ : gJ} {x1 : Int32} (hn : n + 6 ≤ 3072) (hI : IC σ) (hz : ZN σ (1000 * (n : Int))) (hG : GG σ) : okp (fun _ σ1 τ1 => Z5 (n + 6) σ1 τ1) (B_X12_count_0 4294967296 σ τ x1) := by
  obtain ⟨a, σ1, τ1, e, h⟩ := zc_count (τ := τ) (x1 := x1) hn hI hz
  have f := (fr_B_X12_count_0 4294967296 σ τ x1 e).1
  exact ⟨a, σ1, τ1, e, h, gg_fr hG (fun c k hc => f c k (by omega)) ((f 199 31 (by omega)).trans hG.2.1.2.2)⟩
theorem zc_row {n : Nat} {σ : gI} {τ : gJ} {x1 : Int32} (hn : n + 6 ≤ 3072) (hI : IC σ) (hz : ZN σ (1000 * (n : Int))) : okp (fun _ σ1 τ1 => Z (n + 6) σ1 τ1) (B_X12_row_0 4294967296 σ τ x1) := by
  have hN : 4294967296 ≤ 4294967296 := Nat.le_refl _
  obtain ⟨g, h⟩ := hz
  exact z_end hn hI (z_row hN h (by omega)) (fun a σ1 τ1 e c k hc => (fr_B_X12_row_0 4294967296 σ τ x1 e).1 c k (by omega))
theorem ze_row {n : Nat} {σ : gI} {τ : gJ} {x1 : Int32} (hn : n + 6 ≤ 3072) (hI : IC σ) (hz : ZN σ (1000 * (n : Int))) (hG : GG σ) : okp (fun _ σ1 τ1 => Z5 (n + 6) σ1 τ1) (B_X12_row_0 4294967296 σ τ x1) := by
  obtain ⟨a, σ1, τ1, e, h⟩ := zc_row (τ := τ) (x1 := x1) hn hI hz
  have f := (fr_B_X12_row_0 4294967296 σ τ x1 e).1
  exact ⟨a, σ1, τ1, e, h, gg_fr hG (fun c k hc => f c k (by omega)) ((f 199 31 (by omega)).trans hG.2.1.2.2)⟩
theorem lq_z : lq Z5 4294967296 := by
  intro σ τ xs n hn hz
  obtain ⟨⟨hI, hz⟩, hG⟩ := hz
  have hN : 4294967296 ≤ 4294967296 := Nat.le_refl _
  have h13 := zn_13 hz
  have hT : σ 1 2 = σ 199 13 := hG.1.1
  have hE := hG.1.2
  have h12 : 0 ≤ (σ 1 2).toInt ∧ (σ 1 2).toInt ≤ 80 := by rw [hT]; exact h13
  have h31 := hG.2.1.2.2
  refine ⟨⟨⟨hI, ?_⟩, hG⟩, ?_, ?_, ?_, ?_, ?_, ?_, ?_, ?_, ?_, ?_, ?_, ?_, ?_, ?_, ?_, ?_, ?_, ?_, ?_, ?_, ?_, ?_, ?_, ?_, ?_, ?_, ?_, ?_, ?_, ?_, ?_, ?_, ?_, ?_, ?_, ?_, ?_, ?_, ?_, ?_, ?_⟩
  · obtain ⟨g, h⟩ := hz
    exact zm_n h (by omega)
  · refine ok_v (lq_c5 (Q := fun (a b : Int32) => a = b) (so_sign h12.2) (fun _ _ _ h => ⟨fun c k hc => h c k (by omega), fun hI => ic_fr2 hI (fun c k hc => h c k (by omega))⟩) hI hz (fun a σ1 τ1 e hk hI1 hz1 => ?_))
    obtain ⟨b, σ2, τ2, e2, h2⟩ := zc_sign (τ := τ1) (x1 := xs (n + 1)) hn hI1 hz1
    have F2 := (fr_B_X12_sign_0 4294967296 σ1 τ1 _ e2).1
    have g1 : σ1 199 13 = σ 1 2 := (hk 199 13 (by omega)).trans hT.symm
    have q2 := xr_sign e2
    rw [g1] at q2
    have l76 : (76 : Int32).toInt = 76 := rfl
    rcases xt_sign h12.1 e with ⟨c1, r1, w1⟩ | ⟨c1, r1, w1⟩ <;> rcases q2 with ⟨c2, r2, w2⟩ | ⟨c2, r2, w2⟩
    · refine ⟨b, σ2, τ2, e2, r1.trans r2.symm, h2, gg_tx hG ⟨by rw [F2 1 2 (by omega), w1, w2], fun k hk2 => ?_⟩ (fun c k hc => (F2 c k (by omega)).trans (hk c k (by omega))) ((F2 199 31 (by omega)).trans ((hk 199 31 (by omega)).trans h31))⟩
      rw [fa_le] at c1
      have t1 := xt_sign2 (by omega) e
      have t2 := xr_sign2 (by rw [g1]; omega) e2
      rw [g1] at t2
      rw [F2 1 2 (by omega), w1, ti_add (by have : (4 : Int32).toInt = 4 := rfl; omega) (by have : (4 : Int32).toInt = 4 := rfl; omega), show (4 : Int32).toInt = 4 from rfl] at hk2
      rw [F2 2 k (by omega)]
      by_cases hkl : (k : Int) < (σ 1 2).toInt
      · rw [t1.1 k hkl, t2.1 k hkl, hk 208 k (by omega)]
        exact hE k hkl
      · rcases (show k = (σ 1 2).toInt.toNat + 0 ∨ k = (σ 1 2).toInt.toNat + 1 ∨ k = (σ 1 2).toInt.toNat + 2 ∨ k = (σ 1 2).toInt.toNat + 3 by omega) with z | z | z | z
        · rw [z, t2.2 0 (by omega)]
          have w9 : σ1 2 ((σ 1 2).toInt.toNat + 0) = sg (xs (n + 1)) (Int32.ofInt (0 : Nat)) := t1.2.1
          rw [w9]
          exact ⟨rfl, sg_rng _ _⟩
        · rw [z, t2.2 1 (by omega)]
          have w9 : σ1 2 ((σ 1 2).toInt.toNat + 1) = sg (xs (n + 1)) (Int32.ofInt (1 : Nat)) := t1.2.2.1
          rw [w9]
          exact ⟨rfl, sg_rng _ _⟩
        · rw [z, t2.2 2 (by omega)]
          have w9 : σ1 2 ((σ 1 2).toInt.toNat + 2) = sg (xs (n + 1)) (Int32.ofInt (2 : Nat)) := t1.2.2.2.1
          rw [w9]
          exact ⟨rfl, sg_rng _ _⟩
        · rw [z, t2.2 3 (by omega)]
          have w9 : σ1 2 ((σ 1 2).toInt.toNat + 3) = sg (xs (n + 1)) (Int32.ofInt (3 : Nat)) := t1.2.2.2.2
          rw [w9]
          exact ⟨rfl, sg_rng _ _⟩
    · exact absurd c1 c2
    · exact absurd c2 c1
    · refine ⟨b, σ2, τ2, e2, r1.trans r2.symm, h2, gg_fr hG ?_ ((F2 199 31 (by omega)).trans ((hk 199 31 (by omega)).trans h31))⟩
      have s9 := sg_same c1 e e2 g1
      intro c k hc
      by_cases d2 : c = 2
      · rw [d2]; exact (s9 2 k (by omega)).trans (sg_same1 c1 e 2 k)
      · by_cases d1 : c = 1 ∧ k = 2
        · rw [d1.1, d1.2]; exact (s9 1 2 (by omega)).trans w1
        · exact (s9 c k (by omega)).trans (hk c k (by omega))
  · refine ok_v (lq_c5 (Q := fun (a b : Int32) => a = b) (s_B_X11_end_0 4294967296 hN σ τ (xs (n + 1)) hI) (fun _ _ _ h => k5 (k0_q0 h)) hI hz (fun a σ1 τ1 e hk hI1 hz1 => ?_))
    obtain ⟨b, σ2, τ2, e2, h2⟩ := zc_end (τ := τ1) (x1 := xs (n + 1)) hn hI1 hz1
    have F2 := (fr_B_X12_end_0 4294967296 σ1 τ1 _ e2).1
    have K := (k0_q0 hk).1
    have g1 : σ1 199 13 = σ 1 2 := (K 199 13 (by omega)).trans hT.symm
    have q2 := xr_end e2
    rw [g1] at q2
    have E2 : ∀ k : Nat, (k : Int) < (σ 1 2).toInt → σ2 2 k = σ2 208 k ∧ (σ2 2 k).toInt ≤ 255 := fun k hk2 => by rw [F2 2 k (by omega), F2 208 k (by omega), K 2 k (by omega), K 208 k (by omega)]; exact hE k hk2
    rcases xt_end e with ⟨c1, r1, w1⟩ | ⟨c1, r1, w1⟩ <;> rcases q2 with ⟨c2, r2, w2⟩ | ⟨c2, r2, w2⟩
    · exact ⟨b, σ2, τ2, e2, r1.trans r2.symm, h2, gg_tx hG ⟨by rw [F2 1 2 (by omega), w1, w2], fun k hk2 => E2 k (by rw [F2 1 2 (by omega), w1] at hk2; omega)⟩ (fun c k hc => (F2 c k (by omega)).trans (K c k (by omega))) ((F2 199 31 (by omega)).trans ((K 199 31 (by omega)).trans h31))⟩
    · exact absurd c1 c2
    · exact absurd c2 c1
    · exact ⟨b, σ2, τ2, e2, r1.trans r2.symm, h2, gg_tx hG ⟨by rw [F2 1 2 (by omega), w1, w2], fun k hk2 => E2 k (by rw [F2 1 2 (by omega), w1] at hk2; exact hk2)⟩ (fun c k hc => (F2 c k (by omega)).trans (K c k (by omega))) ((F2 199 31 (by omega)).trans ((K 199 31 (by omega)).trans h31))⟩
  · refine ok_u (lq_c5 (Q := fun _ _ => True) (s_B_X11_town_0 4294967296 hN σ τ hI) (fun _ _ _ h => ⟨fun c k hc => h.2.1.1 c k (by omega), h.2.1.2⟩) hI hz (fun a σ1 τ1 e hk hI1 hz1 => ?_))
    obtain ⟨b, σ2, τ2, e2, h2⟩ := zc_town (τ := τ1) hn hI1 hz1
    have G2 := (fr_B_X12_town_0 4294967296 σ1 τ1 e2).1
    have w2 : σ2 1 2 = 0 := (G2 1 2 (by omega)).trans (xt_town hN hI h12.1 e)
    have gt := gg_town hG h12 e e2 w2 (xr_town e2)
    exact ⟨b, σ2, τ2, e2, trivial, h2, gt.2⟩
  · refine ok_u (lq_c5 (Q := fun _ _ => True) (s_B_X11_water_0 4294967296 hN σ τ hI) (fun _ _ _ h => ⟨fun c k hc => h.2.1.1 c k (by omega), h.2.1.2⟩) hI hz (fun a σ1 τ1 e hk hI1 hz1 => ?_))
    obtain ⟨b, σ2, τ2, e2, h2⟩ := zc_water (τ := τ1) hn hI1 hz1
    have G2 := (fr_B_X12_water_0 4294967296 σ1 τ1 e2).1
    have w2 : σ2 1 2 = 0 := (G2 1 2 (by omega)).trans (xt_water hN hI h12.1 e)
    have hW2 := w9_water hG.2.1 h12 hT (tx_e hG.1) (fun c k hc => hk.2.1.1 c k (by omega)) e e2
    refine ⟨b, σ2, τ2, e2, trivial, h2, tx_0 w2 (xr_water e2), hW2, t4_fr hG.2.2.1 (fun c k hc => (G2 c k (by omega)).trans (hk.2.1.1 c k (by omega))), c4_fr hG.2.2.2.1 (fun c k hc => (G2 c k (by omega)).trans (hk.2.1.1 c k (by omega))), p4_fr hG.2.2.2.2 (fun c k hc => (G2 c k (by omega)).trans (hk.2.1.1 c k (by omega)))⟩
  · refine ok_u (lq_c5 (Q := fun _ _ => True) (s_B_X11_rule_0 4294967296 hN σ τ hI) (fun _ _ _ h => k5 (k0_q0 h)) hI hz (fun a σ1 τ1 e hk hI1 hz1 => ?_))
    obtain ⟨b, σ2, τ2, e2, h2⟩ := zc_rule (τ := τ1) hn hI1 hz1
    have G2 := (fr_B_X12_rule_0 4294967296 σ1 τ1 e2).1
    have w2 : σ2 1 2 = 0 := (G2 1 2 (by omega)).trans (xt_rule hN hI h12.1 e)
    exact ⟨b, σ2, τ2, e2, trivial, h2, gg_tx hG (tx_0 w2 (xr_rule e2)) (fun c k hc => (G2 c k (by omega)).trans ((k0_q0 hk).1 c k (by omega))) ((G2 199 31 (by omega)).trans (((k0_q0 hk).1 199 31 (by omega)).trans h31))⟩
  · exact ⟨hI, fun τ9 _ => ze_place hn hI hz hG⟩
  · exact ⟨hI, fun τ9 _ => ze_of hn hI hz hG⟩
  · refine ok_u (lq_c5 (Q := fun _ _ => True) (s_B_X11_flow_0 4294967296 hN σ τ (xs (n + 1)) hI) (fun _ _ _ h => k5 (k0_qe h)) hI hz (fun _ σ1 τ1 _ hk hI1 hz1 => ok_t (ze_flow hn hI1 hz1 (by rw [hk.2.1]; exact hG))))
  · refine ok_u (lq_c5 (Q := fun _ _ => True) (s_B_X11_plank_0 4294967296 hN σ τ (xs (n + 1)) (xs (n + 2)) hI) (fun _ _ _ h => k5 (k0_q h)) hI hz (fun _ σ1 τ1 _ hk hI1 hz1 => ok_t (ze_plank hn hI1 hz1 (ks_gg hk.2.1 hG))))
  · refine ok_u (lq_c5 (Q := fun _ _ => True) (s_B_X11_sheet_0 4294967296 hN σ τ (xs (n + 1)) (xs (n + 2)) (xs (n + 3)) (xs (n + 4)) hI) (fun _ _ _ h => k5 (k0_q h)) hI hz (fun _ σ1 τ1 _ hk hI1 hz1 => ok_t (ze_sheet hn hI1 hz1 (ks_gg hk.2.1 hG))))
  · refine ok_u (lq_c5 (Q := fun _ _ => True) (s_B_X11_put_0 4294967296 hN σ τ (xs (n + 1)) (xs (n + 2)) (xs (n + 3)) (xs (n + 4)) hI) (fun _ _ _ h => k5 (k0_q h)) hI hz (fun _ σ1 τ1 _ hk hI1 hz1 => ok_t (ze_put hn hI1 hz1 (ks_gg hk.2.1 hG))))
  · refine ok_u (lq_c5 (Q := fun _ _ => True) (s_B_X11_give_0 4294967296 hN σ τ (xs (n + 1)) (xs (n + 2)) hI) (fun _ _ _ h => k5 (k0_q h)) hI hz (fun _ σ1 τ1 _ hk hI1 hz1 => ok_t (ze_give hn hI1 hz1 (ks_gg hk.2.1 hG))))
  · refine ok_u (lq_c5 (Q := fun _ _ => True) (s_B_X11_run_0 4294967296 hN σ τ (xs (n + 1)) hI) (fun _ _ _ h => k5 (k0_q h)) hI hz (fun _ σ1 τ1 _ hk hI1 hz1 => ok_t (ze_run hn hI1 hz1 (ks_gg hk.2.1 hG))))
  · refine ok_u (lq_c5 (Q := fun _ _ => True) (s_B_X11_day_0 4294967296 hN σ τ hI) (fun _ _ _ h => k5 (k0_q0 h)) hI hz (fun a σ1 τ1 e hk hI1 hz1 => ?_))
    obtain ⟨b, σ2, τ2, e2, h2⟩ := zc_day (τ := τ1) hn hI1 hz1
    have G2 := (fr_B_X12_day_0 4294967296 σ1 τ1 e2).1
    have w2 : σ2 1 2 = 0 := (G2 1 2 (by omega)).trans (xt_day hN hI h12.1 e)
    exact ⟨b, σ2, τ2, e2, trivial, h2, gg_tx hG (tx_0 w2 (xr_day e2)) (fun c k hc => (G2 c k (by omega)).trans ((k0_q0 hk).1 c k (by omega))) ((G2 199 31 (by omega)).trans (((k0_q0 hk).1 199 31 (by omega)).trans h31))⟩
  · refine ok_u (lq_c5 (Q := fun _ _ => True) (s_B_X11_undo_0 4294967296 hN σ τ hI) (fun _ _ _ h => k5 (k0_q h)) hI hz (fun _ σ1 τ1 _ hk hI1 hz1 => ok_t (ze_undo hn hI1 hz1 (ks_gg hk.2.1 hG))))
  · refine ok_u (lq_c5 (Q := fun _ _ => True) (s_B_X11_where_0 4294967296 hN σ τ (xs (n + 1)) (xs (n + 2)) hI) (fun _ _ _ h => k5 (k0_q h)) hI hz (fun _ σ1 τ1 _ hk hI1 hz1 => ok_t (ze_where hn hI1 hz1 (ks_gg hk.2.1 hG))))
  · refine ok_u (lq_c5 (Q := fun _ _ => True) (s_B_X11_comes_0 4294967296 hN σ τ (xs (n + 1)) hI) (fun _ _ _ h => k5 (k0_q h)) hI hz (fun _ σ1 τ1 _ hk hI1 hz1 => ok_t (ze_comes hn hI1 hz1 (ks_gg hk.2.1 hG))))
  · refine ok_u (lq_c5 (Q := fun _ _ => True) (s_B_X11_lost_0 4294967296 hN σ τ (xs (n + 1)) hI) (fun _ _ _ h => k5 (k0_q h)) hI hz (fun _ σ1 τ1 _ hk hI1 hz1 => ok_t (ze_lost hn hI1 hz1 (ks_gg hk.2.1 hG))))
  · refine ok_u (lq_c5 (Q := fun _ _ => True) (s_B_X11_homes_0 4294967296 hN σ τ (xs (n + 1)) hI) (fun _ _ _ h => k5 (k0_q h)) hI hz (fun _ σ1 τ1 _ hk hI1 hz1 => ok_t (ze_homes hn hI1 hz1 (ks_gg hk.2.1 hG))))
  · refine ok_u (lq_c5 (Q := fun _ _ => True) (s_B_X11_sail_0 4294967296 hN σ τ (xs (n + 1)) (xs (n + 2)) (xs (n + 3)) (xs (n + 4)) (xs (n + 5)) hI) (fun _ _ _ h => k5 (k0_q h)) hI hz (fun _ σ1 τ1 _ hk hI1 hz1 => ok_t (ze_sail hn hI1 hz1 (ks_gg hk.2.1 hG))))
  · refine ok_u (lq_c5 (Q := fun _ _ => True) (s_B_X11_soonest_0 4294967296 hN σ τ (xs (n + 1)) (xs (n + 2)) (xs (n + 3)) hI) (fun _ _ _ h => k5 (k0_q h)) hI hz (fun _ σ1 τ1 _ hk hI1 hz1 => ok_t (ze_soonest hn hI1 hz1 (ks_gg hk.2.1 hG))))
  · refine ok_u (lq_c5 (Q := fun _ _ => True) (s_B_X11_basin_0 4294967296 hN σ τ (xs (n + 1)) (xs (n + 2)) (xs (n + 3)) hI) (fun _ _ _ h => k5 (k0_q h)) hI hz (fun _ σ1 τ1 _ hk hI1 hz1 => ok_t (ze_basin hn hI1 hz1 (ks_gg hk.2.1 hG))))
  · refine ok_u (lq_c5 (Q := fun _ _ => True) (s_B_X11_boat_0 4294967296 hN σ τ (xs (n + 1)) (xs (n + 2)) (xs (n + 3)) hI) (fun _ _ _ h => k5 (k0_q h)) hI hz (fun _ σ1 τ1 _ hk hI1 hz1 => ok_t (ze_boat hn hI1 hz1 (ks_gg hk.2.1 hG))))
  · refine ok_u (lq_c5 (Q := fun _ _ => True) (s_B_X11_coins_0 4294967296 hN σ τ (xs (n + 1)) (xs (n + 2)) (xs (n + 3)) hI) (fun _ _ _ h => k5 (k0_q h)) hI hz (fun _ σ1 τ1 _ hk hI1 hz1 => ok_t (ze_coins hn hI1 hz1 (ks_gg hk.2.1 hG))))
  · refine ok_u (lq_c5 (Q := fun _ _ => True) (s_B_X11_waits_0 4294967296 hN σ τ (xs (n + 1)) (xs (n + 2)) (xs (n + 3)) (xs (n + 4)) hI) (fun _ _ _ h => k5 (k0_q h)) hI hz (fun _ σ1 τ1 _ hk hI1 hz1 => ok_t (ze_waits hn hI1 hz1 (ks_gg hk.2.1 hG))))
  · refine ok_u (lq_c5 (Q := fun _ _ => True) (s_B_X11_round_0 4294967296 hN σ τ (xs (n + 1)) hI) (fun _ _ _ h => k5 (k0_q h)) hI hz (fun _ σ1 τ1 _ hk hI1 hz1 => ok_t (ze_round hn hI1 hz1 (ks_gg hk.2.1 hG))))
  · refine ok_u (lq_c5 (Q := fun _ _ => True) (s_B_X11_save_0 4294967296 hN σ τ (xs (n + 1)) hI) (fun _ _ _ h => k5 (k0_q h)) hI hz (fun _ σ1 τ1 _ hk hI1 hz1 => ok_t (ze_save hn hI1 hz1 (ks_gg hk.2.1 hG))))
  · refine ok_u (lq_c5 (Q := fun _ _ => True) (s_B_X11_steer_0 4294967296 hN σ τ (xs (n + 1)) (xs (n + 2)) hI) (fun _ _ _ h => k5 (k0_q h)) hI hz (fun _ σ1 τ1 _ hk hI1 hz1 => ok_t (ze_steer hn hI1 hz1 (ks_gg hk.2.1 hG))))
  · refine ok_u (lq_c5 (Q := fun _ _ => True) (s_B_X11_ways_0 4294967296 hN σ τ (xs (n + 1)) (xs (n + 2)) (xs (n + 3)) (xs (n + 4)) hI) (fun _ _ _ h => k5 (k0_q h)) hI hz (fun _ σ1 τ1 _ hk hI1 hz1 => ok_t (ze_ways hn hI1 hz1 (ks_gg hk.2.1 hG))))
  · refine ok_u (lq_c5 (Q := fun _ _ => True) (s_B_X11_duel_0 4294967296 hN σ τ (xs (n + 1)) (xs (n + 2)) (xs (n + 3)) (xs (n + 4)) (xs (n + 5)) hI) (fun _ _ _ h => k5 (k0_q h)) hI hz (fun _ σ1 τ1 _ hk hI1 hz1 => ok_t (ze_duel hn hI1 hz1 (ks_gg hk.2.1 hG))))
  · refine ok_u (lq_c5 (Q := fun _ _ => True) (s_B_X11_cork_0 4294967296 hN σ τ (xs (n + 1)) (xs (n + 2)) (xs (n + 3)) hI) (fun _ _ _ h => ⟨fun c k hc => h.2.1.1.1 c k (by omega), h.2.1.1.2⟩) hI hz (fun a σ1 τ1 e hk hI1 hz1 => ?_))
    obtain ⟨b, σ2, τ2, e2, h2⟩ := zc_cork (τ := τ1) (x1 := xs (n + 1)) (x2 := xs (n + 2)) (x3 := xs (n + 3)) hn hI1 hz1
    have G2 := (fr_B_X12_cork_0 4294967296 σ1 τ1 _ _ _ e2).1
    obtain ⟨er, hC2, Fx⟩ := c4_cork hG.2.2.1 hG.2.2.2.1 e e2 (fun c k hh => G2 c k (by omega))
    exact ⟨b, σ2, τ2, e2, trivial, h2, tx_fr hG.1 (fun c k hc => Fx c k (by omega)), w9_fr hG.2.1 (Fx 15 1 (by omega)) (fun k => Fx 16 k (by omega)) (Fx 199 4 (by omega)) (fun k => Fx 205 k (by omega)) ((Fx 199 31 (by omega)).trans h31), t4_fr hG.2.2.1 (fun c k hc => Fx c k (by omega)), hC2, p4_fr hG.2.2.2.2 (fun c k hc => Fx c k (by omega))⟩
  · refine ok_u (lq_c5 (Q := fun _ _ => True) (s_B_X11_forget_0 4294967296 hN σ τ hI) (fun _ _ _ h => ⟨fun c k hc => h.2.1.1.1 c k (by omega), h.2.1.1.2⟩) hI hz (fun a σ1 τ1 e hk hI1 hz1 => ?_))
    obtain ⟨b, σ2, τ2, e2, h2⟩ := zc_forget (τ := τ1) hn hI1 hz1
    have G2 := (fr_B_X12_forget_0 4294967296 σ1 τ1 e2).1
    obtain ⟨a1, a2, a3⟩ := x_forget11 e
    obtain ⟨b1, b2⟩ := x_forget12 e2
    have Fx : ∀ c k : Nat, ¬ ((c = 152 ∧ k = 3) ∨ (c = 199 ∧ (k = 0 ∨ k = 52))) → σ2 c k = σ c k := fun c k hh => (G2 c k (by omega)).trans (a3 c k (by omega))
    exact ⟨b, σ2, τ2, e2, trivial, h2, tx_fr hG.1 (fun c k hc => Fx c k (by omega)), w9_fr hG.2.1 (Fx 15 1 (by omega)) (fun k => Fx 16 k (by omega)) (Fx 199 4 (by omega)) (fun k => Fx 205 k (by omega)) ((Fx 199 31 (by omega)).trans h31), t4_fr hG.2.2.1 (fun c k hc => Fx c k (by omega)), c4_0 ((G2 152 3 (by omega)).trans a2) b2, p4_fr hG.2.2.2.2 (fun c k hc => Fx c k (by omega))⟩
  · refine ok_u (lq_c5 (Q := fun _ _ => True) (s_B_X11_maps_0 4294967296 hN σ τ hI) (fun _ _ _ h => k5 (k0_q h)) hI hz (fun _ σ1 τ1 _ hk hI1 hz1 => ok_t (ze_maps hn hI1 hz1 (ks_gg hk.2.1 hG))))
  · refine ok_u (lq_c5 (Q := fun _ _ => True) (s_B_X11_next_0 4294967296 hN σ τ (xs (n + 1)) hI) (fun _ _ _ h => k5 (k0_q h)) hI hz (fun _ σ1 τ1 _ hk hI1 hz1 => ok_t (ze_next hn hI1 hz1 (ks_gg hk.2.1 hG))))
  · refine ok_u (lq_c5 (Q := fun _ _ => True) (s_B_X11_odds_0 4294967296 hN σ τ (xs (n + 1)) (xs (n + 2)) (xs (n + 3)) hI) (fun _ _ _ h => k5 (k0_q h)) hI hz (fun _ σ1 τ1 _ hk hI1 hz1 => ok_t (ze_odds hn hI1 hz1 (ks_gg hk.2.1 hG))))
  · refine ok_u (lq_c5 (Q := fun _ _ => True) (s_B_X11_marks_0 4294967296 hN σ τ (xs (n + 1)) (xs (n + 2)) (xs (n + 3)) hI) (fun _ _ _ h => k5 (k0_q h)) hI hz (fun _ σ1 τ1 _ hk hI1 hz1 => ok_t (ze_marks hn hI1 hz1 (ks_gg hk.2.1 hG))))
  · refine ok_u (lq_c5 (Q := fun _ _ => True) (s_B_X11_order_0 4294967296 hN σ τ (xs (n + 1)) (xs (n + 2)) hI) (fun _ _ _ h => k5 (k0_q h)) hI hz (fun _ σ1 τ1 _ hk hI1 hz1 => ok_t (ze_order hn hI1 hz1 (ks_gg hk.2.1 hG))))
  · refine ok_u (lq_c5 (Q := fun _ _ => True) (s_B_X11_keep_0 4294967296 hN σ τ (xs (n + 1)) hI) (fun _ _ _ h => ⟨fun c k hc => h.2.1.1.1 c k (by omega), h.2.1.1.2⟩) hI hz (fun a σ1 τ1 e hk hI1 hz1 => ?_))
    obtain ⟨b, σ2, τ2, e2, h2⟩ := zc_keep (τ := τ1) (x1 := xs (n + 1)) hn hI1 hz1
    have G2 := (fr_B_X12_keep_0 4294967296 σ1 τ1 _ e2).1
    have z1 := x_keep11 e (fun j u s t hj q c k hc => kc_178 q (by omega))
    have fx : ∀ c k : Nat, c < 178 → ¬ (c = 0 ∧ k = 11) → σ1 c k = σ c k := by
      rcases z1 with ⟨-, -, f⟩ | ⟨-, f⟩
      · exact f
      · intro c k _ _
        rw [f]
    have Fx : ∀ c k : Nat, c < 178 ∨ 199 ≤ c → ¬ ((c = 0 ∧ k = 11) ∨ c = 231 ∨ c = 232 ∨ (c = 199 ∧ k = 0)) → σ2 c k = σ c k := fun c k h1 h2 => by
      refine (G2 c k (by omega)).trans ?_
      by_cases d : c < 178
      · exact fx c k d (by omega)
      · exact hk.2.1.1.1 c k (by omega)
    exact ⟨b, σ2, τ2, e2, trivial, h2, tx_fr hG.1 (fun c k hc => Fx c k (by omega) (by omega)), w9_fr hG.2.1 (Fx 15 1 (by omega) (by omega)) (fun k => Fx 16 k (by omega) (by omega)) (Fx 199 4 (by omega) (by omega)) (fun k => Fx 205 k (by omega) (by omega)) ((Fx 199 31 (by omega) (by omega)).trans h31), t4_fr hG.2.2.1 (fun c k hc => Fx c k (by omega) (by omega)), c4_fr hG.2.2.2.1 (fun c k hc => Fx c k (by omega) (by omega)), p4_keep (a := 0) hG.2.2.2.2 z1 (fun k => hk.2.1.1.1 231 k (by omega)) e2 (G2 0 11 (by omega))⟩
  · refine lq_c5 (Q := fun (a b : Int32) => a = b) (s_B_X11_again_0 4294967296 hN σ τ (xs (n + 1)) hI) (fun _ _ _ h => k5 (k0_q h)) hI hz (fun a σ1 τ1 e hk hI1 hz1 => ?_)
    obtain ⟨b, σ2, τ2, e2, h2⟩ := ze_again (τ := τ1) (x1 := xs (n + 1)) hn hI1 hz1 (ks_gg hk.2.1 hG)
    exact ⟨b, σ2, τ2, e2, again_one hG.2.2.2.2 (fun k => hk.2.1.1.1 231 k (by omega)) e e2, h2⟩
  · refine ok_u (lq_c5 (Q := fun _ _ => True) (s_B_X11_count_0 4294967296 hN σ τ (xs (n + 1)) hI) (fun _ _ _ h => k5 (k0_qe h)) hI hz (fun _ σ1 τ1 _ hk hI1 hz1 => ok_t (ze_count hn hI1 hz1 (by rw [hk.2.1]; exact hG))))
  · exact ⟨hI, fun τ9 _ => ze_row hn hI hz hG⟩
theorem z_start1 : Z 0 gs0 gt0 := by
  have z : ∀ c k : Nat, 199 ≤ c → gs0 c k = 0 := fun c k h => gs0_hi h
  have l0 : (0 : Int32).toInt = 0 := rfl
  refine ⟨by unfold IC; decide +kernel, fun _ => 0, ⟨⟨⟨?_, fun p hp => ?_⟩, ?_, ?_, fun k hk => ?_⟩, ⟨z _ _ (by omega), z _ _ (by omega), z _ _ (by omega), fun t ht => ?_⟩, fun t ht => ?_, ⟨by decide, by decide, by decide⟩, ?_, ⟨?_, fun k hk => ?_⟩, ?_, z _ _ (by omega), z _ _ (by omega)⟩, by decide, ?_, fun i hi => ?_, fun i hi hn => absurd (z 231 i (by omega)) hn, ?_⟩
  · rw [z 199 3 (by omega)]; decide
  · rw [z 199 3 (by omega)] at hp; omega
  · unfold WI; rw [z 199 4 (by omega)]; decide
  · rw [z 199 28 (by omega)]; decide
  · rw [z 199 28 (by omega)] at hk; omega
  · have ht' : (t : Int) < (0 : Int32).toInt := ht
    omega
  · have ht' : (t : Int) < (0 : Int32).toInt := ht
    omega
  · rw [z 199 1 (by omega)]; decide
  · rw [z 199 52 (by omega)]; decide
  · rw [z 199 52 (by omega)] at hk; omega
  · rw [z 199 46 (by omega)]; decide
  · rw [z 199 36 (by omega)]; decide
  · rw [z 199 36 (by omega)] at hi; omega
  · rw [z 199 13 (by omega)]; decide
theorem z_start : Z5 0 gs0 gt0 := by
  have z : ∀ c k : Nat, 199 ≤ c → gs0 c k = 0 := fun c k h => gs0_hi h
  have l0 : (0 : Int32).toInt = 0 := rfl
  have a36 : gs0 3 6 = 0 := by decide +kernel
  refine ⟨z_start1, tx_0 (by decide +kernel) (z _ _ (by omega)), ⟨by rw [z 199 4 (by omega)]; decide +kernel, fun k hk => ?_, z _ _ (by omega)⟩, ?_, c4_0 (by decide +kernel) (z _ _ (by omega)), p4_0 (by decide +kernel) (fun i _ => z _ _ (by omega))⟩
  · rw [z 199 4 (by omega)] at hk
    omega
  · unfold T4
    rw [a36, z 199 3 (by omega)]
    refine ⟨rfl, by omega, fun i k _ hk => by omega, ?_, ?_, ?_⟩
    · show gs0 3 7 = 0
      decide +kernel
    · show gs0 3 5 = 0
      decide +kernel
    · show gs0 3 8 = 1
      decide +kernel
