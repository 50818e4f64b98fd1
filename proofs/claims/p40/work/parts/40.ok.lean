/-! THAT A PURE FUNCTION COMES TO AN END -/
def okp {α : Type} (P : α → gI → gJ → Prop) (x : Option (α × gI × gJ)) : Prop := ∃ a σ τ, x = some (a, σ, τ) ∧ P a σ τ
theorem ok_r {α : Type} {P : α → gI → gJ → Prop} {a : α} {σ : gI} {τ : gJ} (h : P a σ τ) : okp P (some (a, σ, τ)) := ⟨a, σ, τ, rfl, h⟩
theorem ok_ite {α : Type} {P : α → gI → gJ → Prop} {c : Prop} {d : Decidable c} {x y : Option (α × gI × gJ)} (h1 : c → okp P x) (h2 : ¬ c → okp P y) : okp P (@ite _ c d x y) := by
  by_cases h : c
  · rw [if_pos h]; exact h1 h
  · rw [if_neg h]; exact h2 h
theorem i32_rng (x : Int32) : -2147483648 ≤ x.toInt ∧ x.toInt ≤ 2147483647 := by
  have h1 := Int32.le_toInt x
  have h2 := Int32.toInt_lt x
  omega
theorem nat_of_toInt {i : Int32} (h : 0 ≤ i.toInt) : (i.toNatClampNeg : Int) = i.toInt := by
  show ((i.toInt.toNat : Nat) : Int) = i.toInt
  omega
theorem ok_ck {α : Type} {P : α → gI → gJ → Prop} {i : Int32} {n : Nat} {k : Nat → Option (α × gI × gJ)} (h : 0 ≤ i.toInt ∧ i.toInt < n) (hk : ∀ j : Nat, (j : Int) = i.toInt → j < n → okp P (k j)) : okp P (ck i n k) := by
  have h1 := nat_of_toInt h.1
  have h2 : ¬ (i < 0 ∨ n ≤ i.toNatClampNeg) := by
    intro q
    rcases q with q | q
    · have q2 := Int32.lt_iff_toInt_lt.mp q
      have : (0 : Int32).toInt = 0 := rfl
      omega
    · omega
  unfold ck
  rw [if_neg h2]
  exact hk _ h1 (by omega)
theorem ok_dz {α : Type} {P : α → gI → gJ → Prop} {y : Int32} {k : Option (α × gI × gJ)} (h : ¬ y = 0) (hk : okp P k) : okp P (dz y k) := by
  unfold dz; rw [if_neg h]; exact hk
theorem ok_dzl {α : Type} {P : α → gI → gJ → Prop} {y : Int64} {k : Option (α × gI × gJ)} (h : ¬ y = 0) (hk : okp P k) : okp P (dzl y k) := by
  unfold dzl; rw [if_neg h]; exact hk
theorem ok_cb {α : Type} {P : α → gI → gJ → Prop} {y : Int32} {k : Option (α × gI × gJ)} (h : y = 0 ∨ y = 1) (hk : okp P k) : okp P (cb y k) := by
  unfold cb; rw [if_pos h]; exact hk
theorem ok_cch {α : Type} {P : α → gI → gJ → Prop} {y : Int32} {k : Option (α × gI × gJ)} (h : (y.toUInt32 % 65536).toInt32 = y) (hk : okp P k) : okp P (cch y k) := by
  unfold cch; rw [if_pos h]; exact hk
theorem ok_nm {α β : Type} {P : α → gI → gJ → Prop} {x : β} {k : β → Option (α × gI × gJ)} (h : ∀ y, y = x → okp P (k y)) : okp P (nm x k) := h x rfl
theorem ok_bd {α β : Type} {Q : β → gI → gJ → Prop} {P : α → gI → gJ → Prop} {x : Option (β × gI × gJ)} {k : β → gI → gJ → Option (α × gI × gJ)} (h : okp Q x) (hk : ∀ b σ τ, Q b σ τ → okp P (k b σ τ)) : okp P (bd x k) := by
  obtain ⟨b, σ, τ, rfl, hq⟩ := h
  exact hk b σ τ hq
theorem ok_mono {α : Type} {P Q : α → gI → gJ → Prop} {x : Option (α × gI × gJ)} (h : ∀ a σ τ, P a σ τ → Q a σ τ) (hx : okp P x) : okp Q x := by
  obtain ⟨a, σ, τ, e, hp⟩ := hx
  exact ⟨a, σ, τ, e, h a σ τ hp⟩
theorem ti_add {a b : Int32} (h1 : -2147483648 ≤ a.toInt + b.toInt) (h2 : a.toInt + b.toInt ≤ 2147483647) : (a + b).toInt = a.toInt + b.toInt := by
  rw [Int32.toInt_add]
  exact Int.bmod_eq_of_le (by omega) (by omega)
theorem ti_sub {a b : Int32} (h1 : -2147483648 ≤ a.toInt - b.toInt) (h2 : a.toInt - b.toInt ≤ 2147483647) : (a - b).toInt = a.toInt - b.toInt := by
  rw [Int32.toInt_sub]
  exact Int.bmod_eq_of_le (by omega) (by omega)
theorem ti_mul {a b : Int32} (h1 : -2147483648 ≤ a.toInt * b.toInt) (h2 : a.toInt * b.toInt ≤ 2147483647) : (a * b).toInt = a.toInt * b.toInt := by
  rw [Int32.toInt_mul]
  exact Int.bmod_eq_of_le (by omega) (by omega)
theorem imax_c (a b : Int32) : ((imax a b).toInt = a.toInt ∧ b.toInt ≤ a.toInt) ∨ ((imax a b).toInt = b.toInt ∧ a.toInt < b.toInt) := by
  unfold imax
  by_cases h : a < b
  · rw [if_pos h]; exact Or.inr ⟨rfl, Int32.lt_iff_toInt_lt.mp h⟩
  · rw [if_neg h]; exact Or.inl ⟨rfl, by have := mt Int32.lt_iff_toInt_lt.mpr h; omega⟩
theorem imin_c (a b : Int32) : ((imin a b).toInt = a.toInt ∧ a.toInt ≤ b.toInt) ∨ ((imin a b).toInt = b.toInt ∧ b.toInt < a.toInt) := by
  unfold imin
  by_cases h : b < a
  · rw [if_pos h]; exact Or.inr ⟨rfl, Int32.lt_iff_toInt_lt.mp h⟩
  · rw [if_neg h]; exact Or.inl ⟨rfl, by have := mt Int32.lt_iff_toInt_lt.mpr h; omega⟩
theorem isS_all : (List.range 234).all (fun c => if gx_tb[c]? = some (gx_scn c) then decide ((22 ≤ c ∧ c + 6 < 152) ∨ (156 ≤ c ∧ c + 6 < 199)) else true) = true := by decide +kernel
theorem isS_rng {c : Nat} (h : gx_isS c) : (22 ≤ c ∧ c + 6 < 152) ∨ (156 ≤ c ∧ c + 6 < 199) := by
  have h1 := List.all_eq_true.mp isS_all c (List.mem_range.mpr (gx_len h.1))
  rw [if_pos h.1] at h1
  exact of_decide_eq_true h1
/-! WHAT THE CLASS KEEPS: the cells of the other side, its truth values, the length of THE TEXT -/
def IC (σ : gI) : Prop := 0 ≤ (σ 9 6).toInt ∧ (σ 17 9 = 0 ∨ σ 17 9 = 1) ∧ (σ 17 10 = 0 ∨ σ 17 10 = 1) ∧ (σ 21 9 = 0 ∨ σ 21 9 = 1) ∧ (σ 21 10 = 0 ∨ σ 21 10 = 1)
def K0 (σ σ1 : gI) : Prop := (∀ c k : Nat, 199 ≤ c ∨ c = 0 ∨ c = 2 ∨ (3 ≤ c ∧ c ≤ 7) ∨ c = 15 ∨ c = 16 ∨ (152 ≤ c ∧ c ≤ 155) → σ1 c k = σ c k) ∧ (IC σ → IC σ1)
def KS (σ σ1 : gI) : Prop := K0 σ σ1 ∧ σ1 1 2 = σ 1 2
def KJ (τ τ1 : gJ) : Prop := ∀ c k : Nat, 199 ≤ c → τ1 c k = τ c k
def Kq {α : Type} (σ : gI) (τ : gJ) (B : α → Prop) : α → gI → gJ → Prop := fun a σ1 τ1 => B a ∧ KS σ σ1 ∧ KJ τ τ1
def Kqe {α : Type} (σ : gI) (τ : gJ) (B : α → Prop) : α → gI → gJ → Prop := fun a σ1 τ1 => B a ∧ σ1 = σ ∧ τ1 = τ
def Kq0 {α : Type} (σ : gI) (τ : gJ) (B : α → Prop) : α → gI → gJ → Prop := fun a σ1 τ1 => B a ∧ K0 σ σ1 ∧ KJ τ τ1
theorem k0_rf (σ : gI) : K0 σ σ := ⟨fun _ _ _ => rfl, fun h => h⟩
theorem ks_rf (σ : gI) : KS σ σ := ⟨k0_rf σ, rfl⟩
theorem kj_rf (τ : gJ) : KJ τ τ := fun _ _ _ => rfl
theorem k0_tr {a b c : gI} (h : K0 a b) (g : K0 b c) : K0 a c := ⟨fun x k q => (g.1 x k q).trans (h.1 x k q), fun q => g.2 (h.2 q)⟩
theorem ks_tr {a b c : gI} (h : KS a b) (g : KS b c) : KS a c := ⟨k0_tr h.1 g.1, g.2.trans h.2⟩
theorem kj_tr {a b c : gJ} (h : KJ a b) (g : KJ b c) : KJ a c := fun x k q => (g x k q).trans (h x k q)
theorem ks_0 {a b : gI} (h : KS a b) : K0 a b := h.1
theorem up2_ne {σ : gI} {c j c9 k9 : Nat} {v : Int32} (h : ¬ (c9 = c ∧ k9 = j)) : up2 σ c j v c9 k9 = σ c9 k9 := by unfold up2; rw [if_neg h]
theorem k0_up {σ σ1 σ2 : gI} {c j : Nat} {v : Int32} (k : K0 σ σ1) (e : σ2 = up2 σ1 c j v) (h : c < 199 ∧ ¬ (c = 0 ∨ c = 2 ∨ (3 ≤ c ∧ c ≤ 7) ∨ c = 15 ∨ c = 16 ∨ (152 ≤ c ∧ c ≤ 155))) (h2 : (c = 17 ∨ c = 21 → j ≠ 9 ∧ j ≠ 10) ∧ ¬ (c = 9 ∧ j = 6)) : K0 σ σ2 := by
  subst e
  refine ⟨fun x q hx => (up2_ne (by omega)).trans (k.1 x q hx), fun q => ?_⟩
  have g := k.2 q
  unfold IC at g ⊢
  rw [up2_ne (by omega), up2_ne (by omega), up2_ne (by omega), up2_ne (by omega), up2_ne (by omega)]
  exact g
theorem ks_up {σ σ1 σ2 : gI} {c j : Nat} {v : Int32} (k : KS σ σ1) (e : σ2 = up2 σ1 c j v) (h : c < 199 ∧ ¬ (c = 0 ∨ c = 2 ∨ (3 ≤ c ∧ c ≤ 7) ∨ c = 15 ∨ c = 16 ∨ (152 ≤ c ∧ c ≤ 155))) (h2 : (c = 17 ∨ c = 21 → j ≠ 9 ∧ j ≠ 10) ∧ ¬ (c = 9 ∧ j = 6)) (h3 : ¬ (c = 1 ∧ j = 2)) : KS σ σ2 := by
  refine ⟨k0_up k.1 e h h2, ?_⟩
  subst e
  rw [up2_ne (by omega)]
  exact k.2
theorem up2_b {σ : gI} {c j c9 k9 : Nat} {v : Int32} (hv : v = 0 ∨ v = 1) (h : σ c9 k9 = 0 ∨ σ c9 k9 = 1) : up2 σ c j v c9 k9 = 0 ∨ up2 σ c j v c9 k9 = 1 := by
  unfold up2
  split
  · exact hv
  · exact h
theorem ks_upb {σ σ1 σ2 : gI} {c j : Nat} {v : Int32} (k : KS σ σ1) (e : σ2 = up2 σ1 c j v) (h : c < 199 ∧ c ≠ 9 ∧ ¬ (c = 0 ∨ c = 2 ∨ (3 ≤ c ∧ c ≤ 7) ∨ c = 15 ∨ c = 16 ∨ (152 ≤ c ∧ c ≤ 155))) (h3 : ¬ (c = 1 ∧ j = 2)) (hv : v = 0 ∨ v = 1) : KS σ σ2 := by
  subst e
  refine ⟨⟨fun x q hx => (up2_ne (by omega)).trans (k.1.1 x q hx), fun q => ?_⟩, (up2_ne (by omega)).trans k.2⟩
  have g := k.1.2 q
  exact ⟨by rw [up2_ne (by omega)]; exact g.1, up2_b hv g.2.1, up2_b hv g.2.2.1, up2_b hv g.2.2.2.1, up2_b hv g.2.2.2.2⟩
theorem kj_up {τ τ1 τ2 : gJ} {c j : Nat} {v : Int64} (k : KJ τ τ1) (e : τ2 = upJ τ1 c j v) (h : c < 199) : KJ τ τ2 := by
  subst e
  intro x q hx
  unfold upJ
  rw [if_neg (by omega)]
  exact k x q hx
theorem ofn_ti {n : Nat} (h : n < 2147483648) : (Int32.ofNat n).toInt = n := Int32.toInt_ofNat_of_lt h
theorem ks_up96 {σ σ1 σ2 : gI} {v : Int32} (k : KS σ σ1) (e : σ2 = up2 σ1 9 6 v) (hv : 0 ≤ v.toInt) : KS σ σ2 := by
  subst e
  refine ⟨⟨fun x q hx => (up2_ne (by omega)).trans (k.1.1 x q hx), fun q => ?_⟩, (up2_ne (by omega)).trans k.2⟩
  have g := k.1.2 q
  exact ⟨by show 0 ≤ (up2 σ1 9 6 v 9 6).toInt; unfold up2; rw [if_pos ⟨rfl, rfl⟩]; exact hv, by rw [up2_ne (by omega)]; exact g.2.1, by rw [up2_ne (by omega)]; exact g.2.2.1, by rw [up2_ne (by omega)]; exact g.2.2.2.1, by rw [up2_ne (by omega)]; exact g.2.2.2.2⟩
theorem ks_eq {a b c : gI} (h : KS a b) (e : c = b) : KS a c := by rw [e]; exact h
theorem k0_eq {a b c : gI} (h : K0 a b) (e : c = b) : K0 a c := by rw [e]; exact h
theorem kj_eq {a b c : gJ} (h : KJ a b) (e : c = b) : KJ a c := by rw [e]; exact h
theorem ic_eq {a b : gI} (e : b = a) (h : IC a) : IC b := by rw [e]; exact h
theorem ti_div {a b : Int32} (ha : 0 ≤ a.toInt) (hb : 0 < b.toInt) : (a / b).toInt = a.toInt / b.toInt := by
  rw [Int32.toInt_div]
  have h1 : a.toInt.tdiv b.toInt = a.toInt / b.toInt := Int.tdiv_eq_ediv_of_nonneg ha
  have h2 : 0 ≤ a.toInt / b.toInt := Int.ediv_nonneg ha (by omega)
  have h3 : a.toInt / b.toInt ≤ a.toInt := Int.ediv_le_self _ ha
  have h4 := i32_rng a
  rw [h1]
  exact Int.bmod_eq_of_le (by omega) (by omega)
theorem ti_rem {a b : Int32} (ha : 0 ≤ a.toInt) (hb : 0 < b.toInt) : (a - a / b * b).toInt = a.toInt % b.toInt := by
  have h1 := ti_div ha hb
  have h2 : 0 ≤ a.toInt / b.toInt := Int.ediv_nonneg ha (by omega)
  have h5 : a.toInt / b.toInt * b.toInt ≤ a.toInt := Int.ediv_mul_le _ (by omega)
  have h6 : 0 ≤ a.toInt / b.toInt * b.toInt := Int.mul_nonneg h2 (by omega)
  have h4 := i32_rng a
  have h7 := ti_mul (a := a / b) (b := b) (by rw [h1]; omega) (by rw [h1]; omega)
  rw [h1] at h7
  rw [ti_sub (by rw [h7]; omega) (by rw [h7]; omega), h7, Int.emod_def, Int.mul_comm]
theorem x10_in {σ : gI} {x1 : Int32} (c1 : ¬ (σ 15 1).toInt ≤ (0 : Int32).toInt) (c2 : ¬ (40 : Int32).toInt < (σ 15 1).toInt) (c3 : (0 : Int32).toInt ≤ x1.toInt) : 0 ≤ ((x1 / 10) - (x1 / 10) / (σ 15 1) * (σ 15 1)).toInt ∧ ((x1 / 10) - (x1 / 10) / (σ 15 1) * (σ 15 1)).toInt < (40 : Nat) := by
  have e0 : (0 : Int32).toInt = 0 := rfl
  have e1 : (40 : Int32).toInt = 40 := rfl
  have e2 : (10 : Int32).toInt = 10 := rfl
  have h1 : 0 ≤ (x1 / 10).toInt := by
    rw [ti_div (by omega) (by omega), e2]
    omega
  rw [ti_rem h1 (by omega)]
  have h2 := Int.emod_nonneg (x1 / 10).toInt (show (σ 15 1).toInt ≠ 0 by omega)
  have h3 := Int.emod_lt_of_pos (x1 / 10).toInt (show 0 < (σ 15 1).toInt by omega)
  omega
theorem upJ_ne {τ : gJ} {c j c9 k9 : Nat} {v : Int64} (h : c9 ≠ c) : upJ τ c j v c9 k9 = τ c9 k9 := by unfold upJ; rw [if_neg (fun q => h q.1)]
theorem or_b {a b : Int32} (ha : a = 0 ∨ a = 1) (hb : b = 0 ∨ b = 1) : a ||| b = 0 ∨ a ||| b = 1 := by
  rcases ha with rfl | rfl <;> rcases hb with rfl | rfl <;> decide
def V0 (σ σ1 : gI) : Prop := (∀ c k : Nat, 199 ≤ c ∨ c = 0 ∨ c = 2 ∨ (3 ≤ c ∧ c ≤ 7) ∨ (152 ≤ c ∧ c ≤ 155) → σ1 c k = σ c k) ∧ (IC σ → IC σ1)
def VS (σ σ1 : gI) : Prop := V0 σ σ1 ∧ σ1 1 2 = σ 1 2
def Vq {α : Type} (σ : gI) (τ : gJ) (B : α → Prop) : α → gI → gJ → Prop := fun a σ1 τ1 => B a ∧ VS σ σ1 ∧ KJ τ τ1
def Vq0 {α : Type} (σ : gI) (τ : gJ) (B : α → Prop) : α → gI → gJ → Prop := fun a σ1 τ1 => B a ∧ V0 σ σ1 ∧ KJ τ τ1
theorem v0_rf (σ : gI) : V0 σ σ := ⟨fun _ _ _ => rfl, fun h => h⟩
theorem vs_rf (σ : gI) : VS σ σ := ⟨v0_rf σ, rfl⟩
theorem v0_tr {a b c : gI} (h : V0 a b) (g : V0 b c) : V0 a c := ⟨fun x k q => (g.1 x k q).trans (h.1 x k q), fun q => g.2 (h.2 q)⟩
theorem vs_tr {a b c : gI} (h : VS a b) (g : VS b c) : VS a c := ⟨v0_tr h.1 g.1, g.2.trans h.2⟩
theorem vs_0 {a b : gI} (h : VS a b) : V0 a b := h.1
theorem v0_up {σ σ1 σ2 : gI} {c j : Nat} {v : Int32} (k : V0 σ σ1) (e : σ2 = up2 σ1 c j v) (h : c < 199 ∧ ¬ (c = 0 ∨ c = 2 ∨ (3 ≤ c ∧ c ≤ 7) ∨ (152 ≤ c ∧ c ≤ 155))) (h2 : (c = 17 ∨ c = 21 → j ≠ 9 ∧ j ≠ 10) ∧ ¬ (c = 9 ∧ j = 6)) : V0 σ σ2 := by
  subst e
  refine ⟨fun x q hx => (up2_ne (by omega)).trans (k.1 x q hx), fun q => ?_⟩
  have g := k.2 q
  unfold IC at g ⊢
  rw [up2_ne (by omega), up2_ne (by omega), up2_ne (by omega), up2_ne (by omega), up2_ne (by omega)]
  exact g
theorem vs_up {σ σ1 σ2 : gI} {c j : Nat} {v : Int32} (k : VS σ σ1) (e : σ2 = up2 σ1 c j v) (h : c < 199 ∧ ¬ (c = 0 ∨ c = 2 ∨ (3 ≤ c ∧ c ≤ 7) ∨ (152 ≤ c ∧ c ≤ 155))) (h2 : (c = 17 ∨ c = 21 → j ≠ 9 ∧ j ≠ 10) ∧ ¬ (c = 9 ∧ j = 6)) (h3 : ¬ (c = 1 ∧ j = 2)) : VS σ σ2 := by
  refine ⟨v0_up k.1 e h h2, ?_⟩
  subst e
  rw [up2_ne (by omega)]
  exact k.2
theorem vs_eq {a b c : gI} (h : VS a b) (e : c = b) : VS a c := by rw [e]; exact h
theorem v0_eq {a b c : gI} (h : V0 a b) (e : c = b) : V0 a c := by rw [e]; exact h
theorem kv_00 {a b : gI} (h : K0 a b) : V0 a b := ⟨fun c k hc => h.1 c k (by omega), h.2⟩
theorem kv_ss {a b : gI} (h : KS a b) : VS a b := ⟨kv_00 h.1, h.2⟩
theorem kv_s0 {a b : gI} (h : KS a b) : V0 a b := kv_00 h.1
def U0 (σ σ1 : gI) : Prop := (∀ c k : Nat, 199 ≤ c ∨ c = 2 ∨ c = 15 ∨ c = 16 → σ1 c k = σ c k) ∧ (IC σ → IC σ1)
def US (σ σ1 : gI) : Prop := U0 σ σ1 ∧ σ1 1 2 = σ 1 2
def Uq {α : Type} (σ : gI) (τ : gJ) (B : α → Prop) : α → gI → gJ → Prop := fun a σ1 τ1 => B a ∧ US σ σ1 ∧ KJ τ τ1
def Uq0 {α : Type} (σ : gI) (τ : gJ) (B : α → Prop) : α → gI → gJ → Prop := fun a σ1 τ1 => B a ∧ U0 σ σ1 ∧ KJ τ τ1
theorem u0_rf (σ : gI) : U0 σ σ := ⟨fun _ _ _ => rfl, fun h => h⟩
theorem us_rf (σ : gI) : US σ σ := ⟨u0_rf σ, rfl⟩
theorem u0_tr {a b c : gI} (h : U0 a b) (g : U0 b c) : U0 a c := ⟨fun x k q => (g.1 x k q).trans (h.1 x k q), fun q => g.2 (h.2 q)⟩
theorem us_tr {a b c : gI} (h : US a b) (g : US b c) : US a c := ⟨u0_tr h.1 g.1, g.2.trans h.2⟩
theorem us_0 {a b : gI} (h : US a b) : U0 a b := h.1
theorem u0_up {σ σ1 σ2 : gI} {c j : Nat} {v : Int32} (k : U0 σ σ1) (e : σ2 = up2 σ1 c j v) (h : c < 199 ∧ ¬ (c = 2 ∨ c = 15 ∨ c = 16)) (h2 : (c = 17 ∨ c = 21 → j ≠ 9 ∧ j ≠ 10) ∧ ¬ (c = 9 ∧ j = 6)) : U0 σ σ2 := by
  subst e
  refine ⟨fun x q hx => (up2_ne (by omega)).trans (k.1 x q hx), fun q => ?_⟩
  have g := k.2 q
  unfold IC at g ⊢
  rw [up2_ne (by omega), up2_ne (by omega), up2_ne (by omega), up2_ne (by omega), up2_ne (by omega)]
  exact g
theorem us_up {σ σ1 σ2 : gI} {c j : Nat} {v : Int32} (k : US σ σ1) (e : σ2 = up2 σ1 c j v) (h : c < 199 ∧ ¬ (c = 2 ∨ c = 15 ∨ c = 16)) (h2 : (c = 17 ∨ c = 21 → j ≠ 9 ∧ j ≠ 10) ∧ ¬ (c = 9 ∧ j = 6)) (h3 : ¬ (c = 1 ∧ j = 2)) : US σ σ2 := by
  refine ⟨u0_up k.1 e h h2, ?_⟩
  subst e
  rw [up2_ne (by omega)]
  exact k.2
theorem us_eq {a b c : gI} (h : US a b) (e : c = b) : US a c := by rw [e]; exact h
theorem u0_eq {a b c : gI} (h : U0 a b) (e : c = b) : U0 a c := by rw [e]; exact h
theorem ku_00 {a b : gI} (h : K0 a b) : U0 a b := ⟨fun c k hc => h.1 c k (by omega), h.2⟩
theorem ku_ss {a b : gI} (h : KS a b) : US a b := ⟨ku_00 h.1, h.2⟩
theorem ku_s0 {a b : gI} (h : KS a b) : U0 a b := ku_00 h.1
