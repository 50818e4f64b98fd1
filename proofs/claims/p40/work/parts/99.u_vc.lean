section CK7
variable {N : Nat} {σ σ1 : gI} {τ τ1 : gJ} {r : Int32}
/-- what was told of corks is the same on both sides -/
def C4 (σ : gI) : Prop := σ 152 3 = σ 199 52 ∧ (0 ≤ (σ 152 3).toInt ∧ (σ 152 3).toInt ≤ 10) ∧ ∀ i k : Nat, i ≤ 2 → (k : Int) < (σ 152 3).toInt → σ (153 + i) k = σ (226 + i) k
theorem c4_fr (h : C4 σ) (f : ∀ c k : Nat, (152 ≤ c ∧ c ≤ 155) ∨ (c = 199 ∧ k = 52) ∨ (226 ≤ c ∧ c ≤ 228) → σ1 c k = σ c k) : C4 σ1 := by
  obtain ⟨a, b, c⟩ := h
  unfold C4
  rw [f 152 3 (by omega), f 199 52 (by omega)]
  exact ⟨a, b, fun i k hi hk => by rw [f (153 + i) k (by omega), f (226 + i) k (by omega)]; exact c i k hi hk⟩
theorem c4_0 (a : σ 152 3 = 0) (b : σ 199 52 = 0) : C4 σ := by
  have l0 : (0 : Int32).toInt = 0 := rfl
  unfold C4
  rw [a, b]
  exact ⟨rfl, by omega, fun i k _ hk => by omega⟩
/-- a cork more: b the rows, n how many there were -/
def CA (σ σ1 : gI) (b n : Nat) (x1 x2 x3 : Int32) : Prop := (σ1 b n = x1 ∧ σ1 (b + 1) n = x2 ∧ σ1 (b + 2) n = x3) ∧ ∀ c k : Nat, b ≤ c → c ≤ b + 2 → k ≠ n → σ1 c k = σ c k
def CQ (size told : Int) (kd : Nat → Int32) (x1 x2 x3 : Int32) : Prop := (0 ≤ x1.toInt ∧ x1.toInt < size) ∧ (0 ≤ x2.toInt ∧ x2.toInt ≤ 999) ∧ (x3 = -1 ∨ (0 ≤ x3.toInt ∧ x3.toInt < size ∧ kd x3.toInt.toNat = 6)) ∧ told < 10
theorem x_add0 {x1 x2 x3 : Int32} (h0 : 0 ≤ (σ 152 3).toInt ∧ (σ 152 3).toInt ≤ 10) (h : B_X0_add_0 N σ τ x1 x2 x3 = some (r, σ1, τ1)) : ((σ 152 3).toInt < 10 ∧ r = 1 ∧ σ1 152 3 = σ 152 3 + 1 ∧ CA σ σ1 153 (σ 152 3).toInt.toNat x1 x2 x3 ∧ ∀ c k : Nat, ¬ (152 ≤ c ∧ c ≤ 155) → σ1 c k = σ c k) ∨ (¬ (σ 152 3).toInt < 10 ∧ r = 0 ∧ σ1 = σ) := by
  have l0 : (0 : Int32).toInt = 0 := rfl
  have l10 : (10 : Int32).toInt = 10 := rfl
  unfold B_X0_add_0 at h
  rw [if_neg (show ¬ σ 152 3 < 0 from fun z => by rw [fa_lt] at z; omega)] at h
  by_cases c : σ 152 3 < 10
  · rw [if_pos c] at h
    rw [fa_lt] at c
    have nn := nat_of_toInt (i := σ 152 3) h0.1
    obtain ⟨j3, k3, -, h⟩ := ck_some h
    obtain ⟨s4, e4, h⟩ := nm_some h
    rw [show s4 152 3 = σ 152 3 by rw [e4, up2_ne (by omega)]] at h
    obtain ⟨j5, k5, -, h⟩ := ck_some h
    obtain ⟨s6, e6, h⟩ := nm_some h
    have g6 : s6 152 3 = σ 152 3 := by rw [e6, up2_ne (by omega), e4, up2_ne (by omega)]
    rw [g6] at h
    obtain ⟨j7, k7, -, h⟩ := ck_some h
    obtain ⟨s8, e8, h⟩ := nm_some h
    obtain ⟨s9, e9, h⟩ := nm_some h
    obtain ⟨rfl, rfl, -⟩ := sm_inj h
    generalize hn : (σ 152 3).toInt.toNat = n
    have h3 : j3 = n := by omega
    have h5 : j5 = n := by omega
    have h7 : j7 = n := by omega
    rw [h3] at e4
    rw [h5] at e6
    rw [h7] at e8
    refine Or.inl ⟨by omega, rfl, ?_, ⟨⟨?_, ?_, ?_⟩, fun c k h1 h2 h3 => ?_⟩, fun c k hh => ?_⟩
    · rw [e9, up_eq, e8, up2_ne (by omega), g6]
    · rw [e9, up2_ne (by omega), e8, up2_ne (by omega), e6, up2_ne (by omega), e4, up_eq]
    · show s9 154 n = x2
      rw [e9, up2_ne (by omega), e8, up2_ne (by omega), e6, up_eq]
    · show s9 155 n = x3
      rw [e9, up2_ne (by omega), e8, up_eq]
    · rw [e9, up2_ne (by omega), e8, up2_ne (by omega), e6, up2_ne (by omega), e4, up2_ne (by omega)]
    · rw [e9, up2_ne (by omega), e8, up2_ne (by omega), e6, up2_ne (by omega), e4, up2_ne (by omega)]
  · rw [if_neg c] at h
    rw [fa_lt] at c
    obtain ⟨rfl, rfl, -⟩ := sm_inj h
    exact Or.inr ⟨by omega, rfl, rfl⟩
theorem x_cork11 {x1 x2 x3 : Int32} (hT : T4 σ) (h0 : 0 ≤ (σ 152 3).toInt ∧ (σ 152 3).toInt ≤ 10) (h : B_X11_cork_0 N σ τ x1 x2 x3 = some (r, σ1, τ1)) : (CQ (σ 3 6).toInt (σ 152 3).toInt (σ 4) x1 x2 x3 ∧ r = σ 152 3 + 1 ∧ σ1 152 3 = σ 152 3 + 1 ∧ CA σ σ1 153 (σ 152 3).toInt.toNat x1 x2 x3 ∧ ∀ c k : Nat, ¬ (152 ≤ c ∧ c ≤ 155) → σ1 c k = σ c k) ∨ (¬ CQ (σ 3 6).toInt (σ 152 3).toInt (σ 4) x1 x2 x3 ∧ r = -1 ∧ σ1 = σ) := by
  have l0 : (0 : Int32).toInt = 0 := rfl
  have l999 : (999 : Int32).toInt = 999 := rfl
  have H : ∀ y0 : Int32, (y0 = 1 ∧ (x3 = -1 ∨ (0 ≤ x3.toInt ∧ x3.toInt < (σ 3 6).toInt ∧ σ 4 x3.toInt.toNat = 6))) ∨ (y0 = 0 ∧ ¬ (x3 = -1 ∨ (0 ≤ x3.toInt ∧ x3.toInt < (σ 3 6).toInt ∧ σ 4 x3.toInt.toNat = 6))) → ∀ t : gJ, B_X11_cork_21 N σ t x1 x2 x3 y0 = some (r, σ1, τ1) → (CQ (σ 3 6).toInt (σ 152 3).toInt (σ 4) x1 x2 x3 ∧ r = σ 152 3 + 1 ∧ σ1 152 3 = σ 152 3 + 1 ∧ CA σ σ1 153 (σ 152 3).toInt.toNat x1 x2 x3 ∧ ∀ c k : Nat, ¬ (152 ≤ c ∧ c ≤ 155) → σ1 c k = σ c k) ∨ (¬ CQ (σ 3 6).toInt (σ 152 3).toInt (σ 4) x1 x2 x3 ∧ r = -1 ∧ σ1 = σ) := by
    intro y0 hy t h
    unfold B_X11_cork_21 at h
    obtain ⟨r2, s2, t2, q2, h⟩ := bd_some h
    obtain ⟨rfl, k2⟩ := x_has8 q2
    rcases k2 with ⟨k2, k3⟩ | ⟨k2, k3⟩
    · rw [if_neg (show ¬ r2 = 0 by rw [k2]; decide)] at h
      obtain ⟨r4, s4, t4, q4, h⟩ := bd_some h
      have k4 : σ = s4 ∧ ((r4 = 1 ∧ (0 ≤ x2.toInt ∧ x2.toInt ≤ 999)) ∨ (r4 = 0 ∧ ¬ (0 ≤ x2.toInt ∧ x2.toInt ≤ 999))) := by
        unfold B_X11_isCorkMinute_0 at q4
        by_cases c : x2 < 0
        · rw [if_pos c] at q4
          rw [fa_lt] at c
          obtain ⟨a, b, -⟩ := sm_inj q4
          exact ⟨b, Or.inr ⟨a.symm, by omega⟩⟩
        · rw [if_neg c] at q4
          rw [fa_lt] at c
          by_cases d : 999 < x2
          · rw [if_pos d] at q4
            rw [fa_lt] at d
            obtain ⟨a, b, -⟩ := sm_inj q4
            exact ⟨b, Or.inr ⟨a.symm, by omega⟩⟩
          · rw [if_neg d] at q4
            rw [fa_lt] at d
            obtain ⟨a, b, -⟩ := sm_inj q4
            exact ⟨b, Or.inl ⟨a.symm, by omega⟩⟩
      obtain ⟨rfl, k4⟩ := k4
      rcases k4 with ⟨k4, k5⟩ | ⟨k4, k5⟩
      · rw [if_neg (show ¬ r4 = 0 by rw [k4]; decide)] at h
        rcases hy with ⟨y1, y2⟩ | ⟨y1, y2⟩
        · rw [if_neg (show ¬ y0 = 0 by rw [y1]; decide)] at h
          obtain ⟨r6, s6, t6, q6, h⟩ := bd_some h
          rcases x_add0 h0 q6 with ⟨a1, a2, a3, a4, a5⟩ | ⟨a1, a2, a3⟩
          · rw [if_neg (show ¬ r6 = 0 by rw [a2]; decide)] at h
            obtain ⟨rfl, rfl, -⟩ := sm_inj h
            exact Or.inl ⟨⟨k3, k5, y2, a1⟩, a3, a3, a4, a5⟩
          · rw [if_pos a2] at h
            obtain ⟨rfl, rfl, -⟩ := sm_inj h
            exact Or.inr ⟨fun z => a1 z.2.2.2, rfl, a3⟩
        · rw [if_pos y1] at h
          obtain ⟨rfl, rfl, -⟩ := sm_inj h
          exact Or.inr ⟨fun z => y2 z.2.2.1, rfl, rfl⟩
      · rw [if_pos k4] at h
        obtain ⟨rfl, rfl, -⟩ := sm_inj h
        exact Or.inr ⟨fun z => k5 z.2.1, rfl, rfl⟩
    · rw [if_pos k2] at h
      obtain ⟨rfl, rfl, -⟩ := sm_inj h
      exact Or.inr ⟨fun z => k3 z.1, rfl, rfl⟩
  unfold B_X11_cork_0 at h
  by_cases c : x3 = -1
  · rw [if_pos c] at h
    exact H 1 (Or.inl ⟨rfl, Or.inl c⟩) _ h
  · rw [if_neg c] at h
    obtain ⟨r2, s2, t2, q2, h⟩ := bd_some h
    obtain ⟨rfl, k2⟩ := x_isKitchen11 hT q2
    rcases k2 with ⟨k2, k3⟩ | ⟨k2, k3⟩
    · rw [if_neg (show ¬ r2 = 0 by rw [k2]; decide)] at h
      exact H 1 (Or.inl ⟨rfl, Or.inr k3⟩) _ h
    · rw [if_pos k2] at h
      exact H 0 (Or.inr ⟨rfl, fun z => z.elim c k3⟩) _ h
theorem x_cork38 {x1 x2 x3 : Int32} (h0 : 0 ≤ (σ 199 52).toInt ∧ (σ 199 52).toInt ≤ 10) (h : B_X12_cork_38 N σ τ x1 x2 x3 = some (r, σ1, τ1)) : ((σ 199 52).toInt < 10 ∧ r = σ 199 52 + 1 ∧ σ1 199 52 = σ 199 52 + 1 ∧ CA σ σ1 226 (σ 199 52).toInt.toNat x1 x2 x3) ∨ (¬ (σ 199 52).toInt < 10 ∧ r = -1 ∧ σ1 = σ) := by
  have l0 : (0 : Int32).toInt = 0 := rfl
  have l10 : (10 : Int32).toInt = 10 := rfl
  unfold B_X12_cork_38 at h
  by_cases c : σ 199 52 = 10
  · rw [if_pos c] at h
    rw [fa_eq] at c
    obtain ⟨rfl, rfl, -⟩ := sm_inj h
    exact Or.inr ⟨by omega, rfl, rfl⟩
  · rw [if_neg c] at h
    rw [fa_eq] at c
    have nn := nat_of_toInt (i := σ 199 52) h0.1
    obtain ⟨j3, k3, -, h⟩ := ck_some h
    obtain ⟨s4, e4, h⟩ := nm_some h
    rw [show s4 199 52 = σ 199 52 by rw [e4, up2_ne (by omega)]] at h
    obtain ⟨j5, k5, -, h⟩ := ck_some h
    obtain ⟨s6, e6, h⟩ := nm_some h
    have g6 : s6 199 52 = σ 199 52 := by rw [e6, up2_ne (by omega), e4, up2_ne (by omega)]
    rw [g6] at h
    obtain ⟨j7, k7, -, h⟩ := ck_some h
    obtain ⟨s8, e8, h⟩ := nm_some h
    obtain ⟨s9, e9, h⟩ := nm_some h
    obtain ⟨rfl, rfl, -⟩ := sm_inj h
    generalize hn : (σ 199 52).toInt.toNat = n
    have h3 : j3 = n := by omega
    have h5 : j5 = n := by omega
    have h7 : j7 = n := by omega
    rw [h3] at e4
    rw [h5] at e6
    rw [h7] at e8
    have z : s9 199 52 = σ 199 52 + 1 := by rw [e9, up_eq, e8, up2_ne (by omega), g6]
    refine Or.inl ⟨by omega, z, z, ⟨⟨?_, ?_, ?_⟩, fun c k h1 h2 h3 => ?_⟩⟩
    · rw [e9, up2_ne (by omega), e8, up2_ne (by omega), e6, up2_ne (by omega), e4, up_eq]
    · show s9 227 n = x2
      rw [e9, up2_ne (by omega), e8, up2_ne (by omega), e6, up_eq]
    · show s9 228 n = x3
      rw [e9, up2_ne (by omega), e8, up_eq]
    · rw [e9, up2_ne (by omega), e8, up2_ne (by omega), e6, up2_ne (by omega), e4, up2_ne (by omega)]
theorem x_cork12 {x1 x2 x3 : Int32} (h3 : 0 ≤ (σ 199 3).toInt ∧ (σ 199 3).toInt ≤ 12) (h0 : 0 ≤ (σ 199 52).toInt ∧ (σ 199 52).toInt ≤ 10) (h : B_X12_cork_0 N σ τ x1 x2 x3 = some (r, σ1, τ1)) : (CQ (σ 199 3).toInt (σ 199 52).toInt (σ 201) x1 x2 x3 ∧ r = σ 199 52 + 1 ∧ σ1 199 52 = σ 199 52 + 1 ∧ CA σ σ1 226 (σ 199 52).toInt.toNat x1 x2 x3) ∨ (¬ CQ (σ 199 3).toInt (σ 199 52).toInt (σ 201) x1 x2 x3 ∧ r = -1 ∧ ∀ c k : Nat, ¬ (c = 199 ∧ k = 0) → σ1 c k = σ c k) := by
  have o : (0 : Int64).toInt = 0 := rfl
  have o9 : (999 : Int64).toInt = 999 := rfl
  unfold B_X12_cork_0 at h
  obtain ⟨s1, e1, h⟩ := nm_some h
  have f1 : ∀ c k : Nat, ¬ (c = 199 ∧ k = 0) → s1 c k = σ c k := fun c k hh => by rw [e1]; exact up2_ne hh
  have g3 : s1 199 3 = σ 199 3 := f1 199 3 (by omega)
  have g52 : s1 199 52 = σ 199 52 := f1 199 52 (by omega)
  have g201 : s1 201 = σ 201 := funext fun k => f1 201 k (by omega)
  have F38 : ∀ t : gJ, (0 ≤ x1.toInt ∧ x1.toInt < (σ 199 3).toInt) → (0 ≤ x2.toInt ∧ x2.toInt ≤ 999) → (x3 = -1 ∨ (0 ≤ x3.toInt ∧ x3.toInt < (σ 199 3).toInt ∧ σ 201 x3.toInt.toNat = 6)) → B_X12_cork_38 N s1 t x1 x2 x3 = some (r, σ1, τ1) → (CQ (σ 199 3).toInt (σ 199 52).toInt (σ 201) x1 x2 x3 ∧ r = σ 199 52 + 1 ∧ σ1 199 52 = σ 199 52 + 1 ∧ CA σ σ1 226 (σ 199 52).toInt.toNat x1 x2 x3) ∨ (¬ CQ (σ 199 3).toInt (σ 199 52).toInt (σ 201) x1 x2 x3 ∧ r = -1 ∧ ∀ c k : Nat, ¬ (c = 199 ∧ k = 0) → σ1 c k = σ c k) := by
    intro t b1 b2 b3 h
    have z := x_cork38 (by rw [g52]; exact h0) h
    rw [g52] at z
    rcases z with ⟨a1, a2, a3, a4, a5⟩ | ⟨a1, a2, a3⟩
    · exact Or.inl ⟨⟨b1, b2, b3, a1⟩, a2, a3, a4, fun c k h1 h2 h3 => (a5 c k h1 h2 h3).trans (f1 c k (by omega))⟩
    · exact Or.inr ⟨fun z => a1 z.2.2.2, a2, fun c k hh => by rw [a3]; exact f1 c k hh⟩
  obtain ⟨r2, s2, t2, q2, h⟩ := bd_some h
  obtain ⟨k0, k⟩ := x_isPlace12 (by rw [g3]; exact h3) q2
  rw [g3] at k
  rcases k with ⟨k1, k2⟩ | ⟨k1, k2⟩
  · rw [if_neg (show ¬ r2 = 0 by rw [k1]; decide)] at h
    obtain ⟨r4, s4, t4, q4, h⟩ := bd_some h
    obtain ⟨m0, m⟩ := x_in q4
    rw [Int32.toInt_toInt64, o, o9] at m
    rcases m with ⟨m1, m2⟩ | ⟨m1, m2⟩
    · rw [if_neg (show ¬ r4 = 0 by rw [m1]; decide)] at h
      have e4 : s4 = s1 := m0.trans k0.symm
      by_cases c : x3 = -1
      · rw [if_pos c, e4] at h
        exact F38 _ k2 m2 (Or.inl c) h
      · rw [if_neg c] at h
        obtain ⟨r7, s7, t7, q7, h⟩ := bd_some h
        rw [e4] at q7
        unfold B_X12_isKitchen_0 at q7
        obtain ⟨n0, n⟩ := x_isK12 (by rw [g3]; exact h3) q7
        rw [g3, g201] at n
        rcases n with ⟨n1, n2⟩ | ⟨n1, n2⟩
        · rw [if_neg (show ¬ r7 = 0 by rw [n1]; decide), ← n0] at h
          exact F38 _ k2 m2 (Or.inr n2) h
        · rw [if_pos n1] at h
          obtain ⟨rfl, w, -⟩ := sm_inj h
          refine Or.inr ⟨fun z => z.2.2.1.elim c n2, rfl, fun c k hh => ?_⟩
          rw [← w, ← n0]
          exact f1 c k hh
    · rw [if_pos m1] at h
      obtain ⟨rfl, w, -⟩ := sm_inj h
      refine Or.inr ⟨fun z => m2 z.2.1, rfl, fun c k hh => ?_⟩
      rw [← w, m0, ← k0]
      exact f1 c k hh
  · rw [if_pos k1] at h
    obtain ⟨rfl, w, -⟩ := sm_inj h
    refine Or.inr ⟨fun z => k2 z.1, rfl, fun c k hh => ?_⟩
    rw [← w, ← k0]
    exact f1 c k hh
/-- a cork told on both sides: σ ahead, σ1 behind the class, σ2 behind both -/
theorem c4_cork {σ2 : gI} {τ2 : gJ} {a b x1 x2 x3 : Int32} (hT : T4 σ) (hC : C4 σ) (e : B_X11_cork_0 N σ τ x1 x2 x3 = some (a, σ1, τ1)) (e2 : B_X12_cork_0 N σ1 τ1 x1 x2 x3 = some (b, σ2, τ2)) (F2 : ∀ c k : Nat, ¬ (c = 226 ∨ c = 227 ∨ c = 228 ∨ (c = 199 ∧ (k = 0 ∨ k = 52))) → σ2 c k = σ1 c k) : a = b ∧ C4 σ2 ∧ ∀ c k : Nat, ¬ ((152 ≤ c ∧ c ≤ 155) ∨ (226 ≤ c ∧ c ≤ 228) ∨ (c = 199 ∧ (k = 0 ∨ k = 52))) → σ2 c k = σ c k := by
  obtain ⟨c1, c2, c3⟩ := hC
  obtain ⟨t1, t2, t3, -⟩ := id hT
  have F1 : ∀ c k : Nat, ¬ (152 ≤ c ∧ c ≤ 155) → σ1 c k = σ c k := by
    rcases x_cork11 hT c2 e with ⟨-, -, -, -, f⟩ | ⟨-, -, f⟩
    · exact f
    · intro c k _
      rw [f]
  have g3 : σ1 199 3 = σ 3 6 := (F1 199 3 (by omega)).trans t1.symm
  have g52 : σ1 199 52 = σ 152 3 := (F1 199 52 (by omega)).trans c1.symm
  have z2 := x_cork12 (by rw [g3]; exact t2) (by rw [g52]; exact c2) e2
  rw [g3, g52] at z2
  have kd : ∀ k : Nat, (k : Int) < (σ 3 6).toInt → σ 4 k = σ1 201 k := fun k hk => (t3 0 k (by omega) hk).trans (F1 201 k (by omega)).symm
  have qq : CQ (σ 3 6).toInt (σ 152 3).toInt (σ 4) x1 x2 x3 ↔ CQ (σ 3 6).toInt (σ 152 3).toInt (σ1 201) x1 x2 x3 := by
    unfold CQ
    have w : (0 ≤ x3.toInt ∧ x3.toInt < (σ 3 6).toInt ∧ σ 4 x3.toInt.toNat = 6) ↔ (0 ≤ x3.toInt ∧ x3.toInt < (σ 3 6).toInt ∧ σ1 201 x3.toInt.toNat = 6) := by
      constructor
      · intro ⟨a, b, c⟩
        exact ⟨a, b, by rw [← kd _ (by omega)]; exact c⟩
      · intro ⟨a, b, c⟩
        exact ⟨a, b, by rw [kd _ (by omega)]; exact c⟩
    rw [w]
  have Fx : ∀ c k : Nat, ¬ ((152 ≤ c ∧ c ≤ 155) ∨ (226 ≤ c ∧ c ≤ 228) ∨ (c = 199 ∧ (k = 0 ∨ k = 52))) → σ2 c k = σ c k := fun c k hh => (F2 c k (by omega)).trans (F1 c k (by omega))
  rcases x_cork11 hT c2 e with ⟨a1, a2, a3, a4, -⟩ | ⟨a1, a2, a3⟩ <;> rcases z2 with ⟨b1, b2, b3, b4⟩ | ⟨b1, b2, b3⟩
  · refine ⟨a2.trans b2.symm, ?_, Fx⟩
    have l1 : (1 : Int32).toInt = 1 := rfl
    have lt := a1.2.2.2
    have u : σ2 152 3 = σ 152 3 + 1 := (F2 152 3 (by omega)).trans a3
    have e1 : (σ 152 3 + 1).toInt = (σ 152 3).toInt + 1 := by rw [ti_add (by omega) (by omega), l1]
    refine ⟨by rw [u, b3], by rw [u, e1]; omega, fun i k hi hk => ?_⟩
    rw [u, e1] at hk
    rw [F2 (153 + i) k (by omega)]
    by_cases d : k = (σ 152 3).toInt.toNat
    · rw [d]
      rcases (show i = 0 ∨ i = 1 ∨ i = 2 by omega) with rfl | rfl | rfl
      · exact a4.1.1.trans b4.1.1.symm
      · exact a4.1.2.1.trans b4.1.2.1.symm
      · exact a4.1.2.2.trans b4.1.2.2.symm
    · rw [a4.2 (153 + i) k (by omega) (by omega) d, b4.2 (226 + i) k (by omega) (by omega) d, F1 (226 + i) k (by omega)]
      exact c3 i k hi (by omega)
  · exact absurd (qq.mp a1) b1
  · exact absurd (qq.mpr b1) a1
  · refine ⟨a2.trans b2.symm, c4_fr ⟨c1, c2, c3⟩ (fun c k hh => ?_), Fx⟩
    rw [b3 c k (by omega), a3]
theorem x_forget11 (h : B_X11_forget_0 N σ τ = some (r, σ1, τ1)) : r = σ 152 3 ∧ σ1 152 3 = 0 ∧ ∀ c k : Nat, ¬ (c = 152 ∧ k = 3) → σ1 c k = σ c k := by
  unfold B_X11_forget_0 at h
  obtain ⟨v1, e1, h⟩ := nm_some h
  obtain ⟨s2, e2, h⟩ := nm_some h
  obtain ⟨rfl, rfl, -⟩ := sm_inj h
  exact ⟨e1, by rw [e2, up_eq], fun c k hh => by rw [e2]; exact up2_ne hh⟩
theorem x_forget12 (h : B_X12_forget_0 N σ τ = some (r, σ1, τ1)) : r = σ 199 52 ∧ σ1 199 52 = 0 := by
  unfold B_X12_forget_0 at h
  obtain ⟨s1, e1, h⟩ := nm_some h
  obtain ⟨v2, e2, h⟩ := nm_some h
  obtain ⟨s3, e3, h⟩ := nm_some h
  obtain ⟨rfl, rfl, -⟩ := sm_inj h
  exact ⟨by rw [e2, e1, up2_ne (by omega)], by rw [e3, up_eq]⟩
/-- what is kept -/
def P4 (σ : gI) : Prop := ∀ i : Nat, i < 3 → (bt (σ 0 11) i = false ↔ σ 231 i = 0)
theorem p4_fr (h : P4 σ) (f : ∀ c k : Nat, (c = 0 ∧ k = 11) ∨ c = 231 → σ1 c k = σ c k) : P4 σ1 := fun i hi => by
  rw [f 0 11 (by omega), f 231 i (by omega)]
  exact h i hi
theorem p4_0 (a : σ 0 11 = 0) (b : ∀ i : Nat, i < 3 → σ 231 i = 0) : P4 σ := fun i hi => by
  rw [a, b i hi, b_0]
  exact ⟨fun _ => rfl, fun _ => rfl⟩
theorem x_keep11 {x1 : Int32} (h : B_X11_keep_0 N σ τ x1 = some (r, σ1, τ1)) (hc : ∀ (j : Nat) (u : Unit) (s : gI) (t : gJ), j < 3 → B_X6_copy_0 N (178 + 7 * j) 30 σ τ = some (u, s, t) → ∀ c k : Nat, c < 178 → s c k = σ c k) : ((0 ≤ x1.toInt ∧ x1.toInt ≤ 2) ∧ σ1 0 11 = σ 0 11 ||| (1 <<< (x1 &&& 31)) ∧ ∀ c k : Nat, c < 178 → ¬ (c = 0 ∧ k = 11) → σ1 c k = σ c k) ∨ (¬ (0 ≤ x1.toInt ∧ x1.toInt ≤ 2) ∧ σ1 = σ) := by
  have l0 : (0 : Int32).toInt = 0 := rfl
  have l3 : (3 : Int32).toInt = 3 := rfl
  unfold B_X11_keep_0 at h
  by_cases c : x1 < 0
  · rw [if_pos c] at h
    rw [fa_lt] at c
    obtain ⟨rfl, rfl, -⟩ := sm_inj h
    exact Or.inr ⟨by omega, rfl⟩
  · rw [if_neg c] at h
    rw [fa_lt] at c
    by_cases d : x1 < 3
    · rw [if_pos d] at h
      rw [fa_lt] at d
      have nn := nat_of_toInt (i := x1) (by omega)
      obtain ⟨j, ej, -, h⟩ := ck_some h
      obtain ⟨u4, s4, t4, q4, h⟩ := bd_some h
      have f4 := hc j u4 s4 t4 (by omega) q4
      obtain ⟨s5, e5, h⟩ := nm_some h
      obtain ⟨rfl, rfl, -⟩ := sm_inj h
      exact Or.inl ⟨by omega, by rw [e5, up_eq, f4 0 11 (by omega)], fun c k h1 h2 => by rw [e5, up2_ne h2, f4 c k h1]⟩
    · rw [if_neg d] at h
      rw [fa_lt] at d
      obtain ⟨rfl, rfl, -⟩ := sm_inj h
      exact Or.inr ⟨by omega, rfl⟩
theorem x_keep12 {x1 : Int32} (h : B_X12_keep_0 N σ τ x1 = some (r, σ1, τ1)) : ((0 ≤ x1.toInt ∧ x1.toInt ≤ 2) ∧ σ1 231 x1.toInt.toNat = 1 ∧ ∀ k : Nat, k ≠ x1.toInt.toNat → σ1 231 k = σ 231 k) ∨ (¬ (0 ≤ x1.toInt ∧ x1.toInt ≤ 2) ∧ ∀ k : Nat, σ1 231 k = σ 231 k) := by
  have o : (0 : Int64).toInt = 0 := rfl
  have o2 : (2 : Int64).toInt = 2 := rfl
  have H : ∀ (n : Nat) (s : gI) (t : gJ) (x1 x2 r : Int32) (σ1 : gI) (τ1 : gJ), H_X12_keep_28 N n s t x1 x2 = some (r, σ1, τ1) → ∀ k : Nat, σ1 231 k = s 231 k := by
    intro n
    induction n with
    | zero => intro s t x1 x2 r σ1 τ1 h; cases h
    | succ n ih =>
      intro s t x1 x2 r σ1 τ1 h k
      have h : C_X12_keep_28 N (H_X12_keep_28 N n) s t x1 x2 = some (r, σ1, τ1) := h
      unfold C_X12_keep_28 at h
      by_cases c : 45 ≤ x2
      · rw [if_pos c] at h
        obtain ⟨-, rfl, -⟩ := sm_inj h
        rfl
      · rw [if_neg c] at h
        obtain ⟨j2, -, -, h⟩ := ck_some h
        obtain ⟨j3, -, -, h⟩ := ck_some h
        obtain ⟨s4, e4, h⟩ := nm_some h
        obtain ⟨v5, e5, h⟩ := nm_some h
        rw [ih s4 t x1 v5 r σ1 τ1 h k, e4, up2_ne (by omega)]
  unfold B_X12_keep_0 at h
  obtain ⟨s1, e1, h⟩ := nm_some h
  obtain ⟨r2, s2, t2, q2, h⟩ := bd_some h
  obtain ⟨k0, k⟩ := x_in q2
  rw [Int32.toInt_toInt64, o, o2] at k
  have f2 : ∀ k : Nat, s2 231 k = σ 231 k := fun k => by rw [k0, e1, up2_ne (by omega)]
  rcases k with ⟨k1, k2⟩ | ⟨k1, k2⟩
  · rw [if_neg (show ¬ r2 = 0 by rw [k1]; decide)] at h
    have nn := nat_of_toInt (i := x1) k2.1
    obtain ⟨j, ej, -, h⟩ := ck_some h
    obtain ⟨s5, e5, h⟩ := nm_some h
    have hj : j = x1.toInt.toNat := by omega
    rw [hj] at e5
    have z := H N s5 _ _ _ _ _ _ h
    exact Or.inl ⟨k2, by rw [z, e5, up_eq], fun k hk => by rw [z, e5, up2_ne (by omega), f2]⟩
  · rw [if_pos k1] at h
    obtain ⟨-, rfl, -⟩ := sm_inj h
    exact Or.inr ⟨k2, f2⟩
theorem p4_keep {σ2 : gI} {τ2 : gJ} {a b x1 : Int32} (hP : P4 σ) (z1 : ((0 ≤ x1.toInt ∧ x1.toInt ≤ 2) ∧ σ1 0 11 = σ 0 11 ||| (1 <<< (x1 &&& 31)) ∧ ∀ c k : Nat, c < 178 → ¬ (c = 0 ∧ k = 11) → σ1 c k = σ c k) ∨ (¬ (0 ≤ x1.toInt ∧ x1.toInt ≤ 2) ∧ σ1 = σ)) (h199 : ∀ k : Nat, σ1 231 k = σ 231 k) (e2 : B_X12_keep_0 N σ1 τ1 x1 = some (b, σ2, τ2)) (f0 : σ2 0 11 = σ1 0 11) : P4 σ2 := by
  rcases z1 with ⟨a1, a2, -⟩ | ⟨a1, a2⟩ <;> rcases x_keep12 e2 with ⟨b1, b2, b3⟩ | ⟨b1, b2⟩
  · intro i hi
    have e := ofn_of (x := x1) a1.1
    generalize hp : x1.toInt.toNat = p at e b2 b3
    rw [f0, a2, e, b_or, bt_1sh (by omega) (by omega)]
    by_cases d : p = i
    · rw [← d, b2, decide_eq_true rfl, Bool.or_true]
      exact ⟨fun z => absurd z (by decide), fun z => absurd z (by decide)⟩
    · rw [decide_eq_false d, Bool.or_false, b3 i (fun z => d z.symm), h199]
      exact hP i hi
  · exact absurd a1 b1
  · exact absurd b1 a1
  · intro i hi
    rw [f0, b2, a2]
    exact hP i hi
theorem x_again11 {x1 : Int32} (h : B_X11_again_0 N σ τ x1 = some (r, σ1, τ1)) : (r = 1 ∧ (0 ≤ x1.toInt ∧ x1.toInt ≤ 2) ∧ ¬ bt (σ 0 11) x1.toInt.toNat = false) ∨ (r = 0 ∧ ¬ ((0 ≤ x1.toInt ∧ x1.toInt ≤ 2) ∧ ¬ bt (σ 0 11) x1.toInt.toNat = false)) := by
  have l0 : (0 : Int32).toInt = 0 := rfl
  have l3 : (3 : Int32).toInt = 3 := rfl
  unfold B_X11_again_0 at h
  by_cases c : x1 < 0
  · rw [if_pos c] at h
    rw [fa_lt] at c
    obtain ⟨rfl, -, -⟩ := sm_inj h
    exact Or.inr ⟨rfl, fun z => by have := z.1.1; omega⟩
  · rw [if_neg c] at h
    rw [fa_lt] at c
    by_cases d : 3 ≤ x1
    · rw [if_pos d] at h
      rw [fa_le] at d
      obtain ⟨rfl, -, -⟩ := sm_inj h
      exact Or.inr ⟨rfl, fun z => by have := z.1.2; omega⟩
    · rw [if_neg d] at h
      rw [fa_le] at d
      have e := ofn_of (x := x1) (by omega)
      have q : (σ 0 11 >>> (x1 &&& 31)) &&& 1 = 0 ↔ bt (σ 0 11) x1.toInt.toNat = false := by
        generalize hp : x1.toInt.toNat = p at e ⊢
        rw [e]
        exact tb_iff (by omega)
      by_cases c3 : (σ 0 11 >>> (x1 &&& 31)) &&& 1 = 0
      · rw [if_pos c3] at h
        obtain ⟨rfl, -, -⟩ := sm_inj h
        exact Or.inr ⟨rfl, fun z => z.2 (q.mp c3)⟩
      · rw [if_neg c3] at h
        obtain ⟨j, -, -, h⟩ := ck_some h
        obtain ⟨u5, s5, t5, q5, h⟩ := bd_some h
        obtain ⟨u6, s6, t6, q6, h⟩ := bd_some h
        obtain ⟨rfl, -, -⟩ := sm_inj h
        exact Or.inl ⟨rfl, by omega, fun z => c3 (q.mpr z)⟩
theorem x_again12 {x1 : Int32} (h : B_X12_again_0 N σ τ x1 = some (r, σ1, τ1)) : (r = 1 ∧ (0 ≤ x1.toInt ∧ x1.toInt ≤ 2) ∧ ¬ σ 231 x1.toInt.toNat = 0) ∨ (r = 0 ∧ ¬ ((0 ≤ x1.toInt ∧ x1.toInt ≤ 2) ∧ ¬ σ 231 x1.toInt.toNat = 0)) := by
  have o : (0 : Int64).toInt = 0 := rfl
  have o2 : (2 : Int64).toInt = 2 := rfl
  have H : ∀ (n : Nat) (s : gI) (t : gJ) (x1 x2 r : Int32) (σ1 : gI) (τ1 : gJ), H_X12_again_30 N n s t x1 x2 = some (r, σ1, τ1) → r = 1 := by
    intro n
    induction n with
    | zero => intro s t x1 x2 r σ1 τ1 h; cases h
    | succ n ih =>
      intro s t x1 x2 r σ1 τ1 h
      have h : C_X12_again_30 N (H_X12_again_30 N n) s t x1 x2 = some (r, σ1, τ1) := h
      unfold C_X12_again_30 at h
      by_cases c : 45 ≤ x2
      · rw [if_pos c] at h
        obtain ⟨s2, e2, h⟩ := nm_some h
        exact (sm_inj h).1.symm
      · rw [if_neg c] at h
        obtain ⟨j2, -, -, h⟩ := ck_some h
        obtain ⟨j3, -, -, h⟩ := ck_some h
        obtain ⟨s4, e4, h⟩ := nm_some h
        obtain ⟨v5, e5, h⟩ := nm_some h
        exact ih s4 t x1 v5 r σ1 τ1 h
  unfold B_X12_again_0 at h
  obtain ⟨s1, e1, h⟩ := nm_some h
  obtain ⟨r2, s2, t2, q2, h⟩ := bd_some h
  obtain ⟨k0, k⟩ := x_in q2
  rw [Int32.toInt_toInt64, o, o2] at k
  have f2 : ∀ k : Nat, s2 231 k = σ 231 k := fun k => by rw [k0, e1, up2_ne (by omega)]
  rcases k with ⟨k1, k2⟩ | ⟨k1, k2⟩
  · rw [if_neg (show ¬ r2 = 0 by rw [k1]; decide)] at h
    have nn := nat_of_toInt (i := x1) k2.1
    obtain ⟨j, ej, -, h⟩ := ck_some h
    have hj : j = x1.toInt.toNat := by omega
    rw [hj, f2] at h
    by_cases c : σ 231 x1.toInt.toNat = 0
    · rw [if_pos c] at h
      exact Or.inr ⟨(sm_inj h).1.symm, fun z => z.2 c⟩
    · rw [if_neg c] at h
      exact Or.inl ⟨H N _ _ _ _ _ _ _ h, k2, c⟩
  · rw [if_pos k1] at h
    exact Or.inr ⟨(sm_inj h).1.symm, fun z => k2 z.1⟩
theorem again_one {τ2 : gJ} {σ2 : gI} {a b x1 : Int32} (hP : P4 σ) (h199 : ∀ k : Nat, σ1 231 k = σ 231 k) (e : B_X11_again_0 N σ τ x1 = some (a, σ1, τ1)) (e2 : B_X12_again_0 N σ1 τ1 x1 = some (b, σ2, τ2)) : a = b := by
  have z2 := x_again12 e2
  rw [h199] at z2
  have w : (0 ≤ x1.toInt ∧ x1.toInt ≤ 2) → (bt (σ 0 11) x1.toInt.toNat = false ↔ σ 231 x1.toInt.toNat = 0) := fun h => hP _ (by omega)
  rcases x_again11 e with ⟨a1, a2, a3⟩ | ⟨a1, a2⟩ <;> rcases z2 with ⟨b1, b2, b3⟩ | ⟨b1, b2⟩
  · rw [a1, b1]
  · exact absurd ⟨a2, fun z => a3 ((w a2).mpr z)⟩ b2
  · exact absurd ⟨b2, fun z => b3 ((w b2).mp z)⟩ a2
  · rw [a1, b1]
theorem x_adds {x1 : Int32} (h : B_X12_adds_0 N σ τ x1 = some (r, σ1, τ1)) : r = x1 := by
  have H : ∀ (n : Nat) (s : gI) (t : gJ) (x1 x2 r : Int32) (σ1 : gI) (τ1 : gJ), H_X12_adds_21 N n s t x1 x2 = some (r, σ1, τ1) → r = x1 := by
    intro n
    induction n with
    | zero => intro s t x1 x2 r σ1 τ1 h; cases h
    | succ n ih =>
      intro s t x1 x2 r σ1 τ1 h
      have h : C_X12_adds_21 N (H_X12_adds_21 N n) s t x1 x2 = some (r, σ1, τ1) := h
      unfold C_X12_adds_21 at h
      by_cases c : 675 ≤ x2
      · rw [if_pos c] at h
        obtain ⟨s2, e2, h⟩ := nm_some h
        exact (sm_inj h).1.symm
      · rw [if_neg c] at h
        obtain ⟨j2, -, -, h⟩ := ck_some h
        obtain ⟨j3, -, -, h⟩ := ck_some h
        obtain ⟨s4, e4, h⟩ := nm_some h
        obtain ⟨v5, e5, h⟩ := nm_some h
        exact ih s4 t x1 v5 r σ1 τ1 h
  unfold B_X12_adds_0 at h
  obtain ⟨s1, e1, h⟩ := nm_some h
  by_cases c : s1 199 36 ≤ 15
  · rw [if_pos c] at h
    exact (sm_inj h).1.symm
  · rw [if_neg c] at h
    exact H N _ _ _ _ _ _ _ h
theorem x_plank11 {x1 x2 : Int32} (hT : T4 σ) (h : B_X11_plank_0 N σ τ x1 x2 = some (r, σ1, τ1)) : (r = 1 ∧ (0 ≤ x1.toInt ∧ x1.toInt < (σ 3 6).toInt ∧ σ 4 x1.toInt.toNat = 1) ∧ (0 ≤ x2.toInt ∧ x2.toInt ≤ 1)) ∨ (r = 0 ∧ ¬ ((0 ≤ x1.toInt ∧ x1.toInt < (σ 3 6).toInt ∧ σ 4 x1.toInt.toNat = 1) ∧ (0 ≤ x2.toInt ∧ x2.toInt ≤ 1))) := by
  have l0 : (0 : Int32).toInt = 0 := rfl
  have l1 : (1 : Int32).toInt = 1 := rfl
  unfold B_X11_plank_0 at h
  obtain ⟨r2, s2, t2, q2, h⟩ := bd_some h
  obtain ⟨k0, k⟩ := x_isFork11 hT q2
  rcases k with ⟨k1, k2⟩ | ⟨k1, k2⟩
  · rw [if_neg (show ¬ r2 = 0 by rw [k1]; decide)] at h
    by_cases c : x2 < 0
    · rw [if_pos c] at h
      rw [fa_lt] at c
      exact Or.inr ⟨(sm_inj h).1.symm, fun z => by have := z.2.1; omega⟩
    · rw [if_neg c] at h
      rw [fa_lt] at c
      by_cases d : x2 ≤ 1
      · rw [if_pos d] at h
        rw [fa_le] at d
        obtain ⟨u5, s5, t5, q5, h⟩ := bd_some h
        obtain ⟨s6, e6, h⟩ := nm_some h
        exact Or.inl ⟨(sm_inj h).1.symm, k2, by omega⟩
      · rw [if_neg d] at h
        rw [fa_le] at d
        exact Or.inr ⟨(sm_inj h).1.symm, fun z => by have := z.2.2; omega⟩
  · rw [if_pos k1] at h
    exact Or.inr ⟨(sm_inj h).1.symm, fun z => k2 z.1⟩
theorem x_plank12 {x1 x2 : Int32} (h3 : 0 ≤ (σ 199 3).toInt ∧ (σ 199 3).toInt ≤ 12) (h : B_X12_plank_0 N σ τ x1 x2 = some (r, σ1, τ1)) : (r = 1 ∧ (0 ≤ x1.toInt ∧ x1.toInt < (σ 199 3).toInt ∧ σ 201 x1.toInt.toNat = 1) ∧ (0 ≤ x2.toInt ∧ x2.toInt ≤ 1)) ∨ (r = 0 ∧ ¬ ((0 ≤ x1.toInt ∧ x1.toInt < (σ 199 3).toInt ∧ σ 201 x1.toInt.toNat = 1) ∧ (0 ≤ x2.toInt ∧ x2.toInt ≤ 1))) := by
  have o : (0 : Int64).toInt = 0 := rfl
  have o1 : (1 : Int64).toInt = 1 := rfl
  unfold B_X12_plank_0 at h
  obtain ⟨s1, e1, h⟩ := nm_some h
  have f1 : ∀ c k : Nat, ¬ (c = 199 ∧ k = 0) → s1 c k = σ c k := fun c k hh => by rw [e1]; exact up2_ne hh
  obtain ⟨r2, s2, t2, q2, h⟩ := bd_some h
  unfold B_X12_isFork_0 at q2
  obtain ⟨k0, k⟩ := x_isK12 (by rw [f1 199 3 (by omega)]; exact h3) q2
  rw [f1 199 3 (by omega), f1 201 _ (by omega)] at k
  rcases k with ⟨k1, k2⟩ | ⟨k1, k2⟩
  · rw [if_neg (show ¬ r2 = 0 by rw [k1]; decide)] at h
    obtain ⟨r4, s4, t4, q4, h⟩ := bd_some h
    obtain ⟨m0, m⟩ := x_in q4
    rw [Int32.toInt_toInt64, o, o1] at m
    rcases m with ⟨m1, m2⟩ | ⟨m1, m2⟩
    · rw [if_neg (show ¬ r4 = 0 by rw [m1]; decide)] at h
      obtain ⟨u6, s6, t6, q6, h⟩ := bd_some h
      obtain ⟨s7, e7, h⟩ := nm_some h
      obtain ⟨r8, s8, t8, q8, h⟩ := bd_some h
      rw [if_pos (x_adds q8)] at h
      exact Or.inl ⟨(sm_inj h).1.symm, k2, m2⟩
    · rw [if_pos m1] at h
      exact Or.inr ⟨(sm_inj h).1.symm, fun z => m2 z.2⟩
  · rw [if_pos k1] at h
    exact Or.inr ⟨(sm_inj h).1.symm, fun z => k2 z.1⟩
theorem plank_one {σ2 : gI} {τ2 : gJ} {a b x1 x2 : Int32} (hT : T4 σ) (h199 : ∀ c k : Nat, 199 ≤ c → σ1 c k = σ c k) (e : B_X11_plank_0 N σ τ x1 x2 = some (a, σ1, τ1)) (e2 : B_X12_plank_0 N σ1 τ1 x1 x2 = some (b, σ2, τ2)) : a = b := by
  obtain ⟨t1, t2, t3, -⟩ := id hT
  have g3 : σ1 199 3 = σ 3 6 := (h199 199 3 (by omega)).trans t1.symm
  have z2 := x_plank12 (by rw [g3]; exact t2) e2
  rw [g3, h199 201 _ (by omega)] at z2
  have w : (0 ≤ x1.toInt ∧ x1.toInt < (σ 3 6).toInt ∧ σ 4 x1.toInt.toNat = 1) ↔ (0 ≤ x1.toInt ∧ x1.toInt < (σ 3 6).toInt ∧ σ 201 x1.toInt.toNat = 1) := by
    constructor
    · intro ⟨a, b, c⟩
      exact ⟨a, b, by rw [← t3 0 _ (by omega) (by omega)]; exact c⟩
    · intro ⟨a, b, c⟩
      exact ⟨a, b, by rw [t3 0 _ (by omega) (by omega)]; exact c⟩
  rw [← w] at z2
  rcases x_plank11 hT e with ⟨a1, a2⟩ | ⟨a1, a2⟩ <;> rcases z2 with ⟨b1, b2⟩ | ⟨b1, b2⟩
  · rw [a1, b1]
  · exact absurd a2 b2
  · exact absurd b2 a2
  · rw [a1, b1]
end CK7
