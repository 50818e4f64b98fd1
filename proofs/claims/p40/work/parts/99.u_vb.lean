section T7
variable {N : Nat} {σ σ1 : gI} {τ τ1 : gJ} {r : Int32}
theorem x_copy8 {u : Unit} (h : B_X8_copy_0 N σ τ = some (u, σ1, τ1)) : (∀ c k : Nat, ¬ (3 ≤ c ∧ c ≤ 7) → σ1 c k = σ c k) ∧ σ1 3 6 = σ 9 6 ∧ σ1 3 7 = σ 9 7 ∧ σ1 3 5 = σ 9 5 ∧ σ1 3 8 = σ 9 8 ∧ ∀ i k : Nat, i ≤ 3 → k < 12 → σ1 (4 + i) k = σ (10 + i) k := by
  have l0 : (0 : Int32).toInt = 0 := rfl
  have l1 : (1 : Int32).toInt = 1 := rfl
  have l12 : (12 : Int32).toInt = 12 := rfl
  have H : ∀ (n : Nat) (s : gI) (t : gJ) (x2 : Int32) (u : Unit) (σ1 : gI) (τ1 : gJ), H_X8_copy_34 N n s t x2 = some (u, σ1, τ1) → 0 ≤ x2.toInt → (∀ i k : Nat, i ≤ 3 → (k : Int) < x2.toInt → k < 12 → s (4 + i) k = s (10 + i) k) → (∀ c k : Nat, ¬ (4 ≤ c ∧ c ≤ 7) → σ1 c k = s c k) ∧ ∀ i k : Nat, i ≤ 3 → k < 12 → σ1 (4 + i) k = s (10 + i) k := by
    intro n
    induction n with
    | zero => intro s t x2 u σ1 τ1 h; cases h
    | succ n ih =>
      intro s t x2 u σ1 τ1 h p0 p
      have h : C_X8_copy_34 N (H_X8_copy_34 N n) s t x2 = some (u, σ1, τ1) := h
      unfold C_X8_copy_34 at h
      by_cases c : 12 ≤ x2
      · rw [if_pos c] at h
        rw [fa_le] at c
        obtain ⟨-, rfl, -⟩ := sm_inj h
        exact ⟨fun _ _ _ => rfl, fun i k hi hk => p i k hi (by omega) hk⟩
      · rw [if_neg c] at h
        rw [fa_le] at c
        have nn := nat_of_toInt (i := x2) p0
        obtain ⟨j, ej, -, h⟩ := ck_some h
        obtain ⟨s3, e3, h⟩ := nm_some h
        obtain ⟨s4, e4, h⟩ := nm_some h
        obtain ⟨s5, e5, h⟩ := nm_some h
        obtain ⟨s6, e6, h⟩ := nm_some h
        obtain ⟨v7, e7, h⟩ := nm_some h
        have eu : v7.toInt = x2.toInt + 1 := by rw [e7, ti_add (by omega) (by omega), l1]
        have f6 : ∀ c k : Nat, ¬ (4 ≤ c ∧ c ≤ 7 ∧ k = j) → s6 c k = s c k := fun c k hh => by rw [e6, up2_ne (by omega), e5, up2_ne (by omega), e4, up2_ne (by omega), e3, up2_ne (by omega)]
        have w1 : s6 4 j = s 10 j := by rw [e6, up2_ne (by omega), e5, up2_ne (by omega), e4, up2_ne (by omega), e3, up_eq]
        have w2 : s6 5 j = s 11 j := by rw [e6, up2_ne (by omega), e5, up2_ne (by omega), e4, up_eq, e3, up2_ne (by omega)]
        have w3 : s6 6 j = s 12 j := by rw [e6, up2_ne (by omega), e5, up_eq, e4, up2_ne (by omega), e3, up2_ne (by omega)]
        have w4 : s6 7 j = s 13 j := by rw [e6, up_eq, e5, up2_ne (by omega), e4, up2_ne (by omega), e3, up2_ne (by omega)]
        have z := ih s6 t v7 u σ1 τ1 h (by omega) (fun i k hi hk hk2 => ?_)
        · exact ⟨fun c k hh => (z.1 c k hh).trans (f6 c k (by omega)), fun i k hi hk => (z.2 i k hi hk).trans (f6 (10 + i) k (by omega))⟩
        · rw [f6 (10 + i) k (by omega)]
          by_cases d : k = j
          · rw [d]
            rcases (show i = 0 ∨ i = 1 ∨ i = 2 ∨ i = 3 by omega) with rfl | rfl | rfl | rfl
            · exact w1
            · exact w2
            · exact w3
            · exact w4
          · rw [f6 (4 + i) k (by omega)]
            exact p i k hi (by omega) hk2
  unfold B_X8_copy_0 at h
  obtain ⟨s1, e1, h⟩ := nm_some h
  obtain ⟨s2, e2, h⟩ := nm_some h
  obtain ⟨s3, e3, h⟩ := nm_some h
  obtain ⟨s4, e4, h⟩ := nm_some h
  obtain ⟨f, z⟩ := H N s4 τ 0 u σ1 τ1 h (by omega) (fun i k _ hk => absurd hk (by omega))
  have f4 : ∀ c k : Nat, ¬ (c = 3) → s4 c k = σ c k := fun c k hh => by rw [e4, up2_ne (by omega), e3, up2_ne (by omega), e2, up2_ne (by omega), e1, up2_ne (by omega)]
  refine ⟨fun c k hh => (f c k (by omega)).trans (f4 c k (by omega)), ?_, ?_, ?_, ?_, fun i k hi hk => (z i k hi hk).trans (f4 (10 + i) k (by omega))⟩
  · rw [f 3 6 (by omega), e4, up2_ne (by omega), e3, up2_ne (by omega), e2, up2_ne (by omega), e1, up_eq]
  · rw [f 3 7 (by omega), e4, up2_ne (by omega), e3, up2_ne (by omega), e2, up_eq, e1, up2_ne (by omega)]
  · rw [f 3 5 (by omega), e4, up2_ne (by omega), e3, up_eq, e2, up2_ne (by omega), e1, up2_ne (by omega)]
  · rw [f 3 8 (by omega), e4, up_eq, e3, up2_ne (by omega), e2, up2_ne (by omega), e1, up2_ne (by omega)]
theorem x_cutf (h : B_X7_cut_0 N σ τ 0 = some (r, σ1, τ1)) : ∀ c k : Nat, ¬ (c = 1 ∧ k = 2) → σ1 c k = σ c k := by
  intro c k hh
  unfold B_X7_cut_0 at h
  rw [if_neg (show ¬ (0 : Int32) < 0 by decide)] at h
  by_cases c9 : (0 : Int32) ≤ σ 1 2
  · rw [if_pos c9] at h
    obtain ⟨s4, e4, h⟩ := nm_some h
    obtain ⟨-, w, -⟩ := sm_inj h
    rw [← w, e4]
    exact up2_ne hh
  · rw [if_neg c9] at h
    obtain ⟨-, w, -⟩ := sm_inj h
    rw [← w]
theorem pr_up {s σ1 : gI} {K : Int → Int} : ∀ {bs : List Int}, PR s 10 K bs → (∀ i p : Nat, i ≤ 3 → p < bs.length → σ1 (4 + i) p = s (10 + i) p) → PR σ1 4 K bs := by
  intro bs
  induction bs with
  | nil => intro _ _; trivial
  | cons a bs ih =>
    intro h f
    have hl : bs.length < (a :: bs).length := Nat.lt_succ_self _
    refine ⟨⟨?_, ?_, ?_, ?_⟩, ih h.2 (fun i p h1 h2 => f i p h1 (Nat.lt_trans h2 hl))⟩
    · rw [show σ1 4 bs.length = s 10 bs.length from f 0 bs.length (by omega) hl]; exact h.1.1
    · rw [show σ1 (4 + 1) bs.length = s (10 + 1) bs.length from f 1 bs.length (by omega) hl]; exact h.1.2.1
    · rw [show σ1 (4 + 2) bs.length = s (10 + 2) bs.length from f 2 bs.length (by omega) hl]; exact h.1.2.2.1
    · rw [show σ1 (4 + 3) bs.length = s (10 + 3) bs.length from f 3 bs.length (by omega) hl]; exact h.1.2.2.2
theorem tws_len (K : Int → Int) (n : Int) : ∀ (f : Nat) (a : Int) (bs : List Int), (tws K n f a bs).length ≤ f + bs.length := by
  intro f
  induction f with
  | zero => intro a bs; show bs.length ≤ 0 + bs.length; omega
  | succ f ih =>
    intro a bs
    show (if n ≤ (ln4 K a).2.1 then a :: bs else tws K n f ((ln4 K a).2.1 + 1) (a :: bs)).length ≤ f + 1 + bs.length
    have hl : (a :: bs).length = bs.length + 1 := rfl
    split
    · omega
    · have := ih ((ln4 K a).2.1 + 1) (a :: bs)
      omega
/-- the class's town -/
theorem x_town11 (h0 : 0 ≤ (σ 1 2).toInt ∧ (σ 1 2).toInt ≤ 80) (hS : ∀ k : Nat, (k : Int) < (σ 1 2).toInt → (σ 2 k).toInt ≤ 255) (h : B_X11_town_0 N σ τ = some (r, σ1, τ1)) : r.toInt = (if (σ 1 2).toInt ≤ 0 then 0 else tw (lk (σ 2) (imin 76 (σ 1 2)).toInt) (σ 1 2).toInt 12 0 []) ∧ (∀ c k : Nat, ¬ (c = 0 ∨ c = 1 ∨ (3 ≤ c ∧ c ≤ 14) ∨ c = 30 ∨ c = 44 ∨ c = 152) → σ1 c k = σ c k) ∧ ((r.toInt < 0 ∧ ∀ c k : Nat, ¬ ((9 ≤ c ∧ c ≤ 14) ∨ c = 1) → σ1 c k = σ c k) ∨ (0 ≤ r.toInt ∧ PR σ1 4 (lk (σ 2) (imin 76 (σ 1 2)).toInt) (if (σ 1 2).toInt ≤ 0 then [] else tws (lk (σ 2) (imin 76 (σ 1 2)).toInt) (σ 1 2).toInt 12 0 []) ∧ ((if (σ 1 2).toInt ≤ 0 then [] else tws (lk (σ 2) (imin 76 (σ 1 2)).toInt) (σ 1 2).toInt 12 0 []).length : Int) = r.toInt ∧ (σ1 3 6).toInt = r.toInt ∧ r.toInt ≤ 12 ∧ (σ1 3 7 = fk 1 (σ1 4) r.toInt.toNat ∧ σ1 3 5 = fk 6 (σ1 4) r.toInt.toNat ∧ σ1 3 8 = sk (σ1 4) r.toInt.toNat) ∧ σ1 152 3 = 0 ∧ σ1 0 11 = 0)) := by
  have l0 : (0 : Int32).toInt = 0 := rfl
  unfold B_X11_town_0 at h
  obtain ⟨r1, s1, t1, q1, h⟩ := bd_some h
  obtain ⟨f1, a1, a2⟩ := x_read8 h0 hS q1
  obtain ⟨r2, s2, t2, q2, h⟩ := bd_some h
  have f2 := x_cutf q2
  have F2 : ∀ c k : Nat, ¬ ((9 ≤ c ∧ c ≤ 14) ∨ c = 1) → s2 c k = σ c k := fun c k hh => (f2 c k (by omega)).trans (f1 c k (by omega))
  by_cases c : 0 ≤ r1
  · rw [if_pos c] at h
    rw [fa_le] at c
    obtain ⟨p1, p2, p3, p4⟩ := a2 (by omega)
    obtain ⟨u4, s4, t4, q4, h⟩ := bd_some h
    obtain ⟨f4, c6, c7, c5, c8, c4⟩ := x_copy8 q4
    obtain ⟨u5, s5, t5, q5, h⟩ := bd_some h
    obtain ⟨u6, s6, t6, q6, h⟩ := bd_some h
    obtain ⟨s7, e7, h⟩ := nm_some h
    obtain ⟨s8, e8, h⟩ := nm_some h
    obtain ⟨rfl, rfl, -⟩ := sm_inj h
    have f5 : ∀ c k : Nat, ¬ (c = 30) → s5 c k = s4 c k := by
      intro c k hh
      unfold B_X6_clear_0 at q5
      obtain ⟨y1, w1, q5⟩ := nm_some q5
      obtain ⟨y2, w2, q5⟩ := nm_some q5
      obtain ⟨y3, w3, q5⟩ := nm_some q5
      obtain ⟨y4, w4, q5⟩ := nm_some q5
      obtain ⟨y5, w5, q5⟩ := nm_some q5
      obtain ⟨-, w6, -⟩ := sm_inj q5
      rw [← w6, w5, up2_ne (by omega), w4, up2_ne (by omega), w3, up2_ne (by omega), w2, up2_ne (by omega), w1, up2_ne (by omega)]
    have f6 : ∀ c k : Nat, ¬ (c = 44) → s6 c k = s5 c k := by
      intro c k hh
      unfold B_X3_clear_0 at q6
      obtain ⟨y1, w1, q6⟩ := nm_some q6
      obtain ⟨-, w6, -⟩ := sm_inj q6
      rw [← w6, w1, up2_ne (by omega)]
    have F : ∀ c k : Nat, ¬ (c = 0 ∨ c = 30 ∨ c = 44 ∨ c = 152) → s8 c k = s4 c k := fun c k hh => by rw [e8, up2_ne (by omega), e7, up2_ne (by omega), f6 c k (by omega), f5 c k (by omega)]
    have q3 : r1.toInt ≤ 12 := by
      rw [← p2]
      by_cases d : (σ 1 2).toInt ≤ 0
      · rw [if_pos d]; decide
      · rw [if_neg d]
        have w := tws_len (lk (σ 2) (imin 76 (σ 1 2)).toInt) (σ 1 2).toInt 12 0 []
        have w2 : (([] : List Int).length) = 0 := rfl
        omega
    have e4 : s8 4 = s4 4 := funext fun k => F 4 k (by omega)
    have fe : ∀ k, k < r1.toInt.toNat → s2 10 k = s8 4 k := fun k hk => by rw [e4]; exact (c4 0 k (by omega) (by omega)).symm
    obtain ⟨d7, d5, d8⟩ := p4
    have g6 : s2 9 6 = s1 9 6 := f2 9 6 (by omega)
    have e10 : s2 10 = s1 10 := funext fun k => f2 10 k (by omega)
    rw [← e10, show (s1 9 6).toInt.toNat = r1.toInt.toNat by rw [p3]] at d7 d5 d8
    rw [fk_fr fe] at d7 d5
    rw [sk_fr fe] at d8
    refine ⟨a1, fun c k hh => (F c k (by omega)).trans ((f4 c k (by omega)).trans (F2 c k (by omega))), Or.inr ⟨by omega, ?_, p2, ?_, q3, ⟨?_, ?_, ?_⟩, ?_, ?_⟩⟩
    · exact pr_up p1 (fun i p hi hp => ((F (4 + i) p (by omega)).trans (c4 i p hi (by omega))).trans (f2 (10 + i) p (by omega)))
    · rw [F 3 6 (by omega), c6, g6, p3]
    · rw [F 3 7 (by omega), c7, f2 9 7 (by omega)]; exact d7
    · rw [F 3 5 (by omega), c5, f2 9 5 (by omega)]; exact d5
    · rw [F 3 8 (by omega), c8, f2 9 8 (by omega)]; exact d8
    · rw [e8, up2_ne (by omega), e7, up_eq]
    · rw [e8, up_eq]
  · rw [if_neg c] at h
    rw [fa_le] at c
    obtain ⟨rfl, rfl, -⟩ := sm_inj h
    exact ⟨a1, fun c k hh => F2 c k (by omega), Or.inl ⟨by omega, F2⟩⟩
/-- THE TOWN is the same on both sides -/
def T4 (σ : gI) : Prop := σ 3 6 = σ 199 3 ∧ (0 ≤ (σ 3 6).toInt ∧ (σ 3 6).toInt ≤ 12) ∧ (∀ i k : Nat, i ≤ 3 → (k : Int) < (σ 3 6).toInt → σ (4 + i) k = σ (201 + i) k) ∧ σ 3 7 = fk 1 (σ 4) (σ 3 6).toInt.toNat ∧ σ 3 5 = fk 6 (σ 4) (σ 3 6).toInt.toNat ∧ σ 3 8 = sk (σ 4) (σ 3 6).toInt.toNat
theorem t4_fr (h : T4 σ) (f : ∀ c k : Nat, (3 ≤ c ∧ c ≤ 7) ∨ (c = 199 ∧ k = 3) ∨ (201 ≤ c ∧ c ≤ 204) → σ1 c k = σ c k) : T4 σ1 := by
  obtain ⟨a, b, c, d, e, g⟩ := h
  have e4 : σ1 4 = σ 4 := funext fun k => f 4 k (by omega)
  unfold T4
  rw [f 3 6 (by omega), f 199 3 (by omega), f 3 7 (by omega), f 3 5 (by omega), f 3 8 (by omega), e4]
  exact ⟨a, b, fun i k hi hk => by rw [f (4 + i) k (by omega), f (201 + i) k (by omega)]; exact c i k hi hk, d, e, g⟩
theorem x_isFork11 {x1 : Int32} (hT : T4 σ) (h : B_X8_isFork_0 N σ τ x1 = some (r, σ1, τ1)) : σ = σ1 ∧ ((r = 1 ∧ (0 ≤ x1.toInt ∧ x1.toInt < (σ 3 6).toInt ∧ σ 4 x1.toInt.toNat = 1)) ∨ (r = 0 ∧ ¬ (0 ≤ x1.toInt ∧ x1.toInt < (σ 3 6).toInt ∧ σ 4 x1.toInt.toNat = 1))) := by
  have l0 : (0 : Int32).toInt = 0 := rfl
  have l12 : (12 : Int32).toInt = 12 := rfl
  obtain ⟨-, b, -, d, -, -⟩ := hT
  unfold B_X8_isFork_0 at h
  by_cases c : x1 < 0
  · rw [if_pos c] at h
    rw [fa_lt] at c
    obtain ⟨rfl, rfl, -⟩ := sm_inj h
    exact ⟨rfl, Or.inr ⟨rfl, fun z => by have := z.1; omega⟩⟩
  · rw [if_neg c] at h
    rw [fa_lt] at c
    by_cases c2 : 12 ≤ x1
    · rw [if_pos c2] at h
      rw [fa_le] at c2
      obtain ⟨rfl, rfl, -⟩ := sm_inj h
      exact ⟨rfl, Or.inr ⟨rfl, fun z => by have := z.2.1; omega⟩⟩
    · rw [if_neg c2] at h
      rw [fa_le] at c2
      have q := fk_bit (v := 1) (f := σ 4) (x := x1) (n := (σ 3 6).toInt.toNat) (by omega) (by omega)
      rw [← d] at q
      by_cases c3 : (σ 3 7 >>> (x1 &&& 31)) &&& 1 = 0
      · rw [if_pos c3] at h
        obtain ⟨rfl, rfl, -⟩ := sm_inj h
        exact ⟨rfl, Or.inr ⟨rfl, fun z => q.mp c3 ⟨by have := z.2.1; omega, z.2.2⟩⟩⟩
      · rw [if_neg c3] at h
        obtain ⟨rfl, rfl, -⟩ := sm_inj h
        refine ⟨rfl, Or.inl ⟨rfl, ?_⟩⟩
        have w := Classical.not_not.mp (fun z => c3 (q.mpr z))
        exact ⟨by omega, by have := w.1; omega, w.2⟩
theorem x_isKitchen11 {x1 : Int32} (hT : T4 σ) (h : B_X8_isKitchen_0 N σ τ x1 = some (r, σ1, τ1)) : σ = σ1 ∧ ((r = 1 ∧ (0 ≤ x1.toInt ∧ x1.toInt < (σ 3 6).toInt ∧ σ 4 x1.toInt.toNat = 6)) ∨ (r = 0 ∧ ¬ (0 ≤ x1.toInt ∧ x1.toInt < (σ 3 6).toInt ∧ σ 4 x1.toInt.toNat = 6))) := by
  have l0 : (0 : Int32).toInt = 0 := rfl
  have l12 : (12 : Int32).toInt = 12 := rfl
  obtain ⟨-, b, -, -, d, -⟩ := hT
  unfold B_X8_isKitchen_0 at h
  by_cases c : x1 < 0
  · rw [if_pos c] at h
    rw [fa_lt] at c
    obtain ⟨rfl, rfl, -⟩ := sm_inj h
    exact ⟨rfl, Or.inr ⟨rfl, fun z => by have := z.1; omega⟩⟩
  · rw [if_neg c] at h
    rw [fa_lt] at c
    by_cases c2 : 12 ≤ x1
    · rw [if_pos c2] at h
      rw [fa_le] at c2
      obtain ⟨rfl, rfl, -⟩ := sm_inj h
      exact ⟨rfl, Or.inr ⟨rfl, fun z => by have := z.2.1; omega⟩⟩
    · rw [if_neg c2] at h
      rw [fa_le] at c2
      have q := fk_bit (v := 6) (f := σ 4) (x := x1) (n := (σ 3 6).toInt.toNat) (by omega) (by omega)
      rw [← d] at q
      by_cases c3 : (σ 3 5 >>> (x1 &&& 31)) &&& 1 = 0
      · rw [if_pos c3] at h
        obtain ⟨rfl, rfl, -⟩ := sm_inj h
        exact ⟨rfl, Or.inr ⟨rfl, fun z => q.mp c3 ⟨by have := z.2.1; omega, z.2.2⟩⟩⟩
      · rw [if_neg c3] at h
        obtain ⟨rfl, rfl, -⟩ := sm_inj h
        refine ⟨rfl, Or.inl ⟨rfl, ?_⟩⟩
        have w := Classical.not_not.mp (fun z => c3 (q.mpr z))
        exact ⟨by omega, by have := w.1; omega, w.2⟩
theorem x_has8 {x1 : Int32} (h : B_X8_has_0 N σ τ x1 = some (r, σ1, τ1)) : σ = σ1 ∧ ((r = 1 ∧ (0 ≤ x1.toInt ∧ x1.toInt < (σ 3 6).toInt)) ∨ (r = 0 ∧ ¬ (0 ≤ x1.toInt ∧ x1.toInt < (σ 3 6).toInt))) := by
  have l0 : (0 : Int32).toInt = 0 := rfl
  unfold B_X8_has_0 at h
  by_cases c : x1 < 0
  · rw [if_pos c] at h
    rw [fa_lt] at c
    obtain ⟨rfl, rfl, -⟩ := sm_inj h
    exact ⟨rfl, Or.inr ⟨rfl, by omega⟩⟩
  · rw [if_neg c] at h
    rw [fa_lt] at c
    by_cases c2 : σ 3 6 ≤ x1
    · rw [if_pos c2] at h
      rw [fa_le] at c2
      obtain ⟨rfl, rfl, -⟩ := sm_inj h
      exact ⟨rfl, Or.inr ⟨rfl, by omega⟩⟩
    · rw [if_neg c2] at h
      rw [fa_le] at c2
      obtain ⟨rfl, rfl, -⟩ := sm_inj h
      exact ⟨rfl, Or.inl ⟨rfl, by omega⟩⟩
theorem x_isPlace12 {x1 : Int32} (h0 : 0 ≤ (σ 199 3).toInt ∧ (σ 199 3).toInt ≤ 12) (h : B_X12_isPlace_0 N σ τ x1 = some (r, σ1, τ1)) : σ = σ1 ∧ ((r = 1 ∧ (0 ≤ x1.toInt ∧ x1.toInt < (σ 199 3).toInt)) ∨ (r = 0 ∧ ¬ (0 ≤ x1.toInt ∧ x1.toInt < (σ 199 3).toInt))) := by
  have o : (0 : Int64).toInt = 0 := rfl
  have l1 : (1 : Int32).toInt = 1 := rfl
  unfold B_X12_isPlace_0 at h
  obtain ⟨r2, s2, t2, q2, h⟩ := bd_some h
  obtain ⟨k0, k⟩ := x_in q2
  rw [Int32.toInt_toInt64, Int32.toInt_toInt64, o, ti_sub (by omega) (by omega), l1] at k
  obtain ⟨-, h⟩ := cb_some h
  obtain ⟨rfl, rfl, -⟩ := sm_inj h
  refine ⟨k0.symm, ?_⟩
  rcases k with ⟨k1, k2⟩ | ⟨k1, k2⟩
  · exact Or.inl ⟨k1, by omega⟩
  · exact Or.inr ⟨k1, by omega⟩
theorem x_isK12 {x1 v : Int32} (h0 : 0 ≤ (σ 199 3).toInt ∧ (σ 199 3).toInt ≤ 12) (h : (bd (B_X12_isPlace_0 N σ τ x1) fun r_1 σ_1 τ_1 => if r_1 = 0 then (some (0, σ_1, τ_1)) else (ck x1 12 fun j_3 => if σ_1 201 j_3 = v then (some (1, σ_1, τ_1)) else (some (0, σ_1, τ_1)))) = some (r, σ1, τ1)) : σ = σ1 ∧ ((r = 1 ∧ (0 ≤ x1.toInt ∧ x1.toInt < (σ 199 3).toInt ∧ σ 201 x1.toInt.toNat = v)) ∨ (r = 0 ∧ ¬ (0 ≤ x1.toInt ∧ x1.toInt < (σ 199 3).toInt ∧ σ 201 x1.toInt.toNat = v))) := by
  obtain ⟨r2, s2, t2, q2, h⟩ := bd_some h
  obtain ⟨k0, k⟩ := x_isPlace12 h0 q2
  rcases k with ⟨k1, k2⟩ | ⟨k1, k2⟩
  · rw [if_neg (show ¬ r2 = 0 by rw [k1]; decide)] at h
    have nn := nat_of_toInt (i := x1) k2.1
    obtain ⟨j, ej, -, h⟩ := ck_some h
    have hj : j = x1.toInt.toNat := by omega
    rw [hj, ← k0] at h
    by_cases c : σ 201 x1.toInt.toNat = v
    · rw [if_pos c] at h
      obtain ⟨rfl, rfl, -⟩ := sm_inj h
      exact ⟨rfl, Or.inl ⟨rfl, k2.1, k2.2, c⟩⟩
    · rw [if_neg c] at h
      obtain ⟨rfl, rfl, -⟩ := sm_inj h
      exact ⟨rfl, Or.inr ⟨rfl, fun z => c z.2.2⟩⟩
  · rw [if_pos k1] at h
    obtain ⟨rfl, rfl, -⟩ := sm_inj h
    exact ⟨k0, Or.inr ⟨rfl, fun z => k2 ⟨z.1, z.2.1⟩⟩⟩
end T7
