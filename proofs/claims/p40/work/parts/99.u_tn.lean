/-! THE WATER IS THE SAME ON BOTH SIDES, AND flow ANSWERS ALIKE -/
section F9
variable {N : Nat} {σ σ1 : gI} {τ τ1 : gJ} {r : Int32}
theorem x_read10w (h0 : 0 ≤ (σ 1 2).toInt ∧ (σ 1 2).toInt ≤ 80) (h : B_X10_read_0 N σ τ = some (r, σ1, τ1)) : (r.toInt < 0 ∧ σ1 15 1 = σ 15 1 ∧ ∀ k : Nat, σ1 16 k = σ 16 k) ∨ (0 ≤ r.toInt ∧ σ1 15 1 = r ∧ ∀ k : Nat, (k : Int) < r.toInt → (σ1 16 k).toInt = (σ 2 k).toInt - 48) := by
  have l0 : (0 : Int32).toInt = 0 := rfl
  have l1 : (1 : Int32).toInt = 1 := rfl
  have l3 : (3 : Int32).toInt = 3 := rfl
  have l40 : (40 : Int32).toInt = 40 := rfl
  have lm : (-1 : Int32).toInt = -1 := rfl
  unfold B_X10_read_0 at h
  obtain ⟨r0, s0, t0, q0, h⟩ := bd_some h
  unfold B_X7_showAtMost_0 at q0
  obtain ⟨s9, e9, q0⟩ := nm_some q0
  obtain ⟨-, rfl, rfl⟩ := sm_inj q0
  have en := imin_c 40 (σ 1 2)
  have em := imin_c (σ 1 2) 40
  have f9 : ∀ c k : Nat, ¬ (c = 1 ∧ k = 1) → s9 c k = σ c k := fun c k hh => by rw [e9]; exact up2_ne hh
  have z9 : s9 1 1 = imin 40 (σ 1 2) := by rw [e9]; unfold up2; rw [if_pos ⟨rfl, rfl⟩]
  have H62 : ∀ (n : Nat) (s : gI) (t : gJ) (x2 r : Int32) (σ1 : gI) (τ1 : gJ), H_X10_read_62 N n s t x2 = some (r, σ1, τ1) → s 15 1 = imin (σ 1 2) 40 → s 1 1 = imin 40 (σ 1 2) → (∀ k : Nat, s 2 k = σ 2 k) → 0 ≤ x2.toInt → (∀ i : Nat, (i : Int) < (imin (σ 1 2) 40).toInt → 48 ≤ (σ 2 i).toInt ∧ (σ 2 i).toInt ≤ 51) → (∀ i : Nat, (i : Int) < x2.toInt → (s 16 i).toInt = (σ 2 i).toInt - 48) → r = imin (σ 1 2) 40 ∧ σ1 15 1 = r ∧ ∀ k : Nat, (k : Int) < r.toInt → (σ1 16 k).toInt = (σ 2 k).toInt - 48 := by
    intro n
    induction n with
    | zero => intro s t x2 r σ1 τ1 h; cases h
    | succ n ih =>
      intro s t x2 r σ1 τ1 h a1 a2 a3 a4 pk p
      have h : C_X10_read_62 N (H_X10_read_62 N n) s t x2 = some (r, σ1, τ1) := h
      unfold C_X10_read_62 at h
      rw [a1] at h
      by_cases c : imin (σ 1 2) 40 ≤ x2
      · rw [if_pos c] at h
        rw [fa_le] at c
        obtain ⟨rfl, rfl, -⟩ := sm_inj h
        exact ⟨rfl, a1, fun k hk => p k (by omega)⟩
      · rw [if_neg c] at h
        rw [fa_le] at c
        obtain ⟨r2, s2, t2, q2, h⟩ := bd_some h
        obtain ⟨⟨rfl, rfl⟩, kd⟩ := x_digit q2
        rw [a2, a3] at kd
        have nn := nat_of_toInt (i := x2) a4
        obtain ⟨j3, ej, -, h⟩ := ck_some h
        obtain ⟨s4, e4, h⟩ := nm_some h
        obtain ⟨v5, e5, h⟩ := nm_some h
        have eu : v5.toInt = x2.toInt + 1 := by rw [e5, ti_add (by omega) (by omega), l1]
        have pj := pk x2.toInt.toNat (by omega)
        refine ih s4 _ v5 r σ1 τ1 h (by rw [e4, up2_ne (by omega)]; exact a1) (by rw [e4, up2_ne (by omega)]; exact a2) (fun k => by rw [e4, up2_ne (by omega)]; exact a3 k) (by omega) pk (fun i hi => ?_)
        by_cases hix : (i : Int) = x2.toInt
        · rw [e4, show i = j3 by omega]
          unfold up2
          rw [if_pos ⟨rfl, rfl⟩, show j3 = x2.toInt.toNat by omega]
          omega
        · rw [e4, up2_ne (by omega)]
          exact p i (by omega)
  have H8 : ∀ (n : Nat) (t : gJ) (x2 r : Int32) (σ1 : gI) (τ1 : gJ), H_X10_read_8 N n s9 t x2 = some (r, σ1, τ1) → 0 ≤ x2.toInt → x2.toInt ≤ 40 → (∀ i : Nat, (i : Int) < x2.toInt → 48 ≤ (σ 2 i).toInt ∧ (σ 2 i).toInt ≤ 51) → (r.toInt < 0 ∧ σ1 15 1 = σ 15 1 ∧ ∀ k : Nat, σ1 16 k = σ 16 k) ∨ (0 ≤ r.toInt ∧ σ1 15 1 = r ∧ ∀ k : Nat, (k : Int) < r.toInt → (σ1 16 k).toInt = (σ 2 k).toInt - 48) := by
    intro n
    induction n with
    | zero => intro t x2 r σ1 τ1 h; cases h
    | succ n ih =>
      intro t x2 r σ1 τ1 h p0 p40 pk
      have h : C_X10_read_8 N (H_X10_read_8 N n) s9 t x2 = some (r, σ1, τ1) := h
      unfold C_X10_read_8 at h
      rw [if_neg (show ¬ (40 : Int32) < x2 from fun z => by rw [fa_lt] at z; omega)] at h
      obtain ⟨r3, s3, t3, q3, h⟩ := bd_some h
      unfold B_X7_isOver_0 at q3
      rw [f9 1 2 (by omega)] at q3
      have em2 : (-1 - x2).toInt = -1 - x2.toInt := by rw [ti_sub (by omega) (by omega), lm]
      by_cases c : x2 < σ 1 2
      · rw [if_pos c] at q3
        rw [fa_lt] at c
        obtain ⟨rfl, rfl, rfl⟩ := sm_inj q3
        rw [if_pos (show (0 : Int32) = 0 from rfl)] at h
        obtain ⟨r6, s6, t6, q6, h⟩ := bd_some h
        obtain ⟨⟨rfl, rfl⟩, k⟩ := x_digit q6
        rw [z9, f9 2 _ (by omega)] at k
        by_cases c6 : r6 < 0
        · rw [if_pos c6] at h
          obtain ⟨rfl, rfl, -⟩ := sm_inj h
          exact Or.inl ⟨by omega, f9 15 1 (by omega), fun k => f9 16 k (by omega)⟩
        · rw [if_neg c6] at h
          rw [fa_lt] at c6
          by_cases c3 : r6 ≤ 3
          · rw [if_pos c3] at h
            rw [fa_le] at c3
            obtain ⟨v9, e9', h⟩ := nm_some h
            have eu : v9.toInt = x2.toInt + 1 := by rw [e9', ti_add (by omega) (by omega), l1]
            refine ih _ v9 r σ1 τ1 h (by omega) (by omega) (fun i hi => ?_)
            by_cases hix : (i : Int) = x2.toInt
            · rw [show i = x2.toInt.toNat by omega]
              omega
            · exact pk i (by omega)
          · rw [if_neg c3] at h
            obtain ⟨rfl, rfl, -⟩ := sm_inj h
            exact Or.inl ⟨by omega, f9 15 1 (by omega), fun k => f9 16 k (by omega)⟩
      · rw [if_neg c] at q3
        rw [fa_lt] at c
        obtain ⟨rfl, rfl, rfl⟩ := sm_inj q3
        rw [if_neg (show ¬ (1 : Int32) = 0 by decide)] at h
        obtain ⟨s5, e5, h⟩ := nm_some h
        rw [f9 1 2 (by omega)] at e5
        have q := H62 N s5 _ 0 r σ1 τ1 h (by rw [e5]; unfold up2; rw [if_pos ⟨rfl, rfl⟩]) (by rw [e5, up2_ne (by omega)]; exact z9) (fun k => by rw [e5, up2_ne (by omega)]; exact f9 2 k (by omega)) (by omega) (fun i hi => pk i (by omega)) (fun i hi => absurd hi (by omega))
        exact Or.inr ⟨by rw [q.1]; omega, q.2.1, q.2.2⟩
  exact H8 N _ 0 r σ1 τ1 h (by omega) (by omega) (fun i hi => absurd hi (by omega))
theorem x_water12w (h0 : 0 ≤ (σ 199 13).toInt ∧ (σ 199 13).toInt ≤ 80) (h : B_X12_water_0 N σ τ = some (r, σ1, τ1)) : (r.toInt < 0 ∧ σ1 199 4 = σ 199 4 ∧ ∀ k : Nat, σ1 205 k = σ 205 k) ∨ (0 ≤ r.toInt ∧ σ1 199 4 = r ∧ ∀ k : Nat, (k : Int) < r.toInt → (σ1 205 k).toInt = (σ 208 k).toInt - 48) := by
  have l0 : (0 : Int32).toInt = 0 := rfl
  have l1 : (1 : Int32).toInt = 1 := rfl
  have l40 : (40 : Int32).toInt = 40 := rfl
  unfold B_X12_water_0 at h
  obtain ⟨s1, e1, h⟩ := nm_some h
  obtain ⟨r2, s2, t2, q2, h⟩ := bd_some h
  obtain ⟨b1, b2, b3, b4, b5⟩ := x_begins2 q2
  have f1 : ∀ c k : Nat, ¬ (c = 199 ∧ k = 0) → s1 c k = σ c k := fun c k hh => by rw [e1]; exact up2_ne hh
  rw [f1 199 13 (by omega)] at b1 b3
  have em := imin_c (σ 199 13) 40
  have H64 : ∀ (n : Nat) (s : gI) (t : gJ) (x2 x4 r : Int32) (σ1 : gI) (τ1 : gJ), H_X12_water_64 N n s t x2 x4 = some (r, σ1, τ1) → 0 ≤ x4.toInt → (∀ i : Nat, (i : Int) < x4.toInt → s 205 i = s 215 i) → r = x2 ∧ σ1 199 4 = s 199 4 ∧ ∀ k : Nat, (k : Int) < x2.toInt → σ1 205 k = s 215 k := by
    intro n
    induction n with
    | zero => intro s t x2 x4 r σ1 τ1 h; cases h
    | succ n ih =>
      intro s t x2 x4 r σ1 τ1 h p0 p
      have h : C_X12_water_64 N (H_X12_water_64 N n) s t x2 x4 = some (r, σ1, τ1) := h
      unfold C_X12_water_64 at h
      by_cases c : x2 ≤ x4
      · rw [if_pos c] at h
        rw [fa_le] at c
        obtain ⟨rfl, rfl, -⟩ := sm_inj h
        exact ⟨rfl, rfl, fun k hk => p k (by omega)⟩
      · rw [if_neg c] at h
        rw [fa_le] at c
        have nn := nat_of_toInt (i := x4) p0
        have rg := i32_rng x2
        obtain ⟨j, ej, -, h⟩ := ck_some h
        obtain ⟨s3, e3, h⟩ := nm_some h
        obtain ⟨v4, e4, h⟩ := nm_some h
        have eu : v4.toInt = x4.toInt + 1 := by rw [e4, ti_add (by omega) (by omega), l1]
        have z := ih s3 t x2 v4 r σ1 τ1 h (by omega) (fun i hi => ?_)
        · refine ⟨z.1, z.2.1.trans (by rw [e3]; exact up2_ne (by omega)), fun k hk => (z.2.2 k hk).trans (by rw [e3]; exact up2_ne (by omega))⟩
        · rw [e3, up2_ne (c9 := 215) (by omega)]
          by_cases hix : (i : Int) = x4.toInt
          · rw [show i = j by omega]
            unfold up2
            rw [if_pos ⟨rfl, rfl⟩]
          · rw [up2_ne (by omega)]
            exact p i (by omega)
  have H14 : ∀ (n : Nat) (s : gI) (t : gJ) (x2 r : Int32) (σ1 : gI) (τ1 : gJ), H_X12_water_14 N n s t r2 x2 = some (r, σ1, τ1) → (∀ k, s 208 k = σ 208 k) → (s 199 14).toInt = x2.toInt → s 199 15 = imin (σ 199 13) 40 → 0 ≤ x2.toInt → x2.toInt ≤ (imin (σ 199 13) 40).toInt → s 199 4 = σ 199 4 → (∀ k, s 205 k = σ 205 k) → (∀ i : Nat, (i : Int) < x2.toInt → (s 215 i).toInt = (σ 208 i).toInt - 48) → (r.toInt < 0 ∧ σ1 199 4 = σ 199 4 ∧ ∀ k : Nat, σ1 205 k = σ 205 k) ∨ (0 ≤ r.toInt ∧ σ1 199 4 = r ∧ ∀ k : Nat, (k : Int) < r.toInt → (σ1 205 k).toInt = (σ 208 k).toInt - 48) := by
    intro n
    induction n with
    | zero => intro s t x2 r σ1 τ1 h; cases h
    | succ n ih =>
      intro s t x2 r σ1 τ1 h k8 k14 k15 p0 pn k4 k5 pk
      have h : C_X12_water_14 N (H_X12_water_14 N n) s t r2 x2 = some (r, σ1, τ1) := h
      unfold C_X12_water_14 at h
      obtain ⟨r1, s3, t3, q1, h⟩ := bd_some h
      obtain ⟨⟨rfl, rfl⟩, k1⟩ := x_among (by decide) b14 (by omega) q1
      have k15' := congrArg Int32.toInt k15
      rw [k14, k15', k8] at k1
      by_cases c : r1 < 0
      · rw [if_pos c] at h
        clear k1
        obtain ⟨r3, s3, t3, q3, h⟩ := bd_some h
        obtain ⟨⟨rfl, rfl⟩, k3⟩ := x_fault (by omega) (by omega) q3
        clear k3
        by_cases c3 : 0 ≤ r3
        · rw [if_pos c3] at h
          obtain ⟨s5, e5, h⟩ := nm_some h
          have z := H64 N s5 _ x2 0 r σ1 τ1 h (by omega) (fun i hi => absurd hi (by omega))
          refine Or.inr ⟨by rw [z.1]; exact p0, ?_, fun k hk => ?_⟩
          · rw [z.2.1, z.1, e5]
            unfold up2
            rw [if_pos ⟨rfl, rfl⟩]
          · rw [z.1] at hk
            rw [z.2.2 k hk, e5, up2_ne (by omega)]
            exact pk k hk
        · rw [if_neg c3] at h
          rw [fa_le] at c3
          obtain ⟨rfl, rfl, -⟩ := sm_inj h
          exact Or.inl ⟨by omega, k4, k5⟩
      · rw [if_neg c] at h
        rw [fa_lt] at c
        obtain ⟨r6, s6, t6, q6, h⟩ := bd_some h
        have k6 := x_takesOf (by decide) b14 (by omega) q6
        obtain ⟨f6, k6⟩ := k6
        rw [k14, k15', k8] at k6
        have nn := nat_of_toInt (i := x2) p0
        obtain ⟨j7, ej, -, h⟩ := ck_some h
        obtain ⟨s8, e8, h⟩ := nm_some h
        obtain ⟨v9, e9, h⟩ := nm_some h
        rcases k1 with ⟨g0, k, g2, g3, g4⟩ | ⟨g2, g3⟩
        · have eu : v9.toInt = x2.toInt + 1 := by rw [e9, ti_add (by omega) (by omega), l1]
          have f8 : ∀ c k : Nat, ¬ (c = 215) → s8 c k = s6 c k := fun c k hh => by rw [e8]; exact up2_ne (by omega)
          rcases k6 with ⟨m0, m1, m2⟩ | ⟨m0, m1, m2⟩
          · obtain ⟨k', u1, u2, u3⟩ := m2
            have hd := d14 k' u1
            rw [u3] at hd
            refine ih s8 _ v9 r σ1 τ1 h (fun k => by rw [f8 208 k (by omega), f6 208 k (by omega)]; exact k8 k) (by rw [f8 199 14 (by omega)]; omega) (by rw [f8 199 15 (by omega), f6 199 15 (by omega)]; exact k15) (by omega) (by omega) (by rw [f8 199 4 (by omega), f6 199 4 (by omega)]; exact k4) (fun k => by rw [f8 205 k (by omega), f6 205 k (by omega)]; exact k5 k) (fun i hi => ?_)
            by_cases hix : (i : Int) = x2.toInt
            · rw [e8, show i = j7 by omega]
              unfold up2
              rw [if_pos ⟨rfl, rfl⟩, show j7 = x2.toInt.toNat by omega]
              omega
            · rw [e8, up2_ne (by omega), f6 215 i (by omega)]
              exact pk i (by omega)
          · rcases m2 with z | z
            · omega
            · exact absurd g4 (z k g2)
        · omega
  exact H14 N s2 t2 0 r σ1 τ1 h (fun k => (b5 208 k (by omega)).trans (f1 208 k (by omega))) (by omega) b3 (by omega) (by omega) ((b5 199 4 (by omega)).trans (f1 199 4 (by omega))) (fun k => (b5 205 k (by omega)).trans (f1 205 k (by omega))) (fun i hi => absurd hi (by omega))
/-- what flow answers, by the length and the digits of THE WATER -/
def FV (L : Int32) (d : Nat → Int32) (x r : Int32) : Prop := (¬ (0 ≤ x.toInt ∧ x.toInt ≤ 9999) ∧ r = -1) ∨ ((0 ≤ x.toInt ∧ x.toInt ≤ 9999) ∧ ((L.toInt = 0 ∧ r = 1) ∨ (0 < L.toInt ∧ r = d (x.toInt / 10 % L.toInt).toNat)))
theorem fv_one {L : Int32} {d d1 : Nat → Int32} {x a b : Int32} (h : FV L d x a) (h1 : FV L d1 x b) (e : ∀ k : Nat, (k : Int) < L.toInt → d k = d1 k) : a = b := by
  rcases h with ⟨c, p⟩ | ⟨c, ⟨z, p⟩ | ⟨z, p⟩⟩ <;> rcases h1 with ⟨c1, p1⟩ | ⟨c1, ⟨z1, p1⟩ | ⟨z1, p1⟩⟩
  · rw [p, p1]
  · exact absurd c1 c
  · exact absurd c1 c
  · exact absurd c c1
  · rw [p, p1]
  · omega
  · exact absurd c c1
  · omega
  · have q := Int.emod_lt_of_pos (x.toInt / 10) z
    have q1 := Int.emod_nonneg (x.toInt / 10) (show L.toInt ≠ 0 by omega)
    rw [p, p1]
    exact e _ (by omega)
theorem x_flow11 {x1 : Int32} (h0 : 0 ≤ (σ 15 1).toInt ∧ (σ 15 1).toInt ≤ 40) (h : B_X11_flow_0 N σ τ x1 = some (r, σ1, τ1)) : FV (σ 15 1) (σ 16) x1 r := by
  have l0 : (0 : Int32).toInt = 0 := rfl
  have l10 : (10 : Int32).toInt = 10 := rfl
  have l40 : (40 : Int32).toInt = 40 := rfl
  have l9 : (9999 : Int32).toInt = 9999 := rfl
  unfold B_X11_flow_0 at h
  by_cases c1 : x1 < 0
  · rw [if_pos c1] at h
    rw [fa_lt] at c1
    obtain ⟨rfl, -, -⟩ := sm_inj h
    exact Or.inl ⟨by omega, rfl⟩
  · rw [if_neg c1] at h
    rw [fa_lt] at c1
    by_cases c2 : 9999 < x1
    · rw [if_pos c2] at h
      rw [fa_lt] at c2
      obtain ⟨rfl, -, -⟩ := sm_inj h
      exact Or.inl ⟨by omega, rfl⟩
    · rw [if_neg c2] at h
      rw [fa_lt] at c2
      obtain ⟨r3, s3, t3, q3, h⟩ := bd_some h
      obtain ⟨rfl, -, -⟩ := sm_inj h
      unfold B_X10_in_0 at q3
      refine Or.inr ⟨by omega, ?_⟩
      by_cases c3 : σ 15 1 ≤ 0
      · rw [if_pos c3] at q3
        rw [fa_le] at c3
        obtain ⟨rfl, -, -⟩ := sm_inj q3
        exact Or.inl ⟨by omega, rfl⟩
      · rw [if_neg c3, if_neg (show ¬ (40 : Int32) < σ 15 1 from fun z => by rw [fa_lt] at z; omega), if_pos (show (0 : Int32) ≤ x1 from (fa_le _ _).mpr (by omega))] at q3
        rw [fa_le] at c3
        obtain ⟨-, q3⟩ := dz_some q3
        obtain ⟨j, ej, -, q3⟩ := ck_some q3
        obtain ⟨rfl, -, -⟩ := sm_inj q3
        have d1 : (x1 / 10).toInt = x1.toInt / 10 := by rw [ti_div (by omega) (by omega), l10]
        have d2 := ti_rem (a := x1 / 10) (b := σ 15 1) (by omega) (by omega)
        have q1 := Int.emod_nonneg (x1 / 10).toInt (show (σ 15 1).toInt ≠ 0 by omega)
        have nn := nat_of_toInt (i := (x1 / 10) - (x1 / 10) / (σ 15 1) * (σ 15 1)) (by omega)
        rw [d1] at d2
        exact Or.inr ⟨by omega, by rw [show (x1.toInt / 10 % (σ 15 1).toInt).toNat = j by omega]⟩
theorem x_wi27 {x2 y0 : Int32} (h31 : σ 199 31 = 0) (h : B_X12_waterIn_27 N σ τ x2 y0 = some (r, σ1, τ1)) : r = y0 := by
  have h72 : ∀ (s : gI) (t : gJ), B_X12_waterIn_72 N s t y0 0 = some (r, σ1, τ1) → r = y0 := by
    intro s t h
    unfold B_X12_waterIn_72 at h
    rw [if_pos (show (0 : Int32) = 0 from rfl)] at h
    exact (sm_inj h).1.symm
  unfold B_X12_waterIn_27 at h
  by_cases c1 : x2 < σ 199 32
  · rw [if_pos c1] at h; exact h72 _ _ h
  · rw [if_neg c1] at h
    by_cases c2 : 8 ≤ x2 - (σ 199 32)
    · rw [if_pos c2] at h; exact h72 _ _ h
    · rw [if_neg c2] at h
      obtain ⟨r3, s3, t3, q3, h⟩ := bd_some h
      unfold B_X12_has_0 at q3
      rw [h31, Int32.zero_shiftRight, Int32.zero_and, if_neg (show ¬ (0 : Int32) = 1 by decide)] at q3
      obtain ⟨rfl, -, -⟩ := sm_inj q3
      rw [if_pos (show (0 : Int32) = 0 from rfl)] at h
      exact h72 _ _ h
theorem x_flow12 {x1 : Int32} (h0 : 0 ≤ (σ 199 4).toInt) (h31 : σ 199 31 = 0) (h : B_X12_flow_0 N σ τ x1 = some (r, σ1, τ1)) : FV (σ 199 4) (σ 205) x1 r := by
  have l0 : (0 : Int32).toInt = 0 := rfl
  have l10 : (10 : Int32).toInt = 10 := rfl
  have o : (0 : Int64).toInt = 0 := rfl
  have o9 : (9999 : Int64).toInt = 9999 := rfl
  unfold B_X12_flow_0 at h
  obtain ⟨s1, e1, h⟩ := nm_some h
  have f1 : ∀ c k : Nat, ¬ (c = 199 ∧ k = 0) → s1 c k = σ c k := fun c k hh => by rw [e1]; exact up2_ne hh
  obtain ⟨r2, s2, t2, q2, h⟩ := bd_some h
  have k := x_in q2
  rw [Int32.toInt_toInt64, o, o9] at k
  obtain ⟨rfl, k⟩ := k
  rcases k with ⟨rfl, k⟩ | ⟨rfl, k⟩
  · rw [if_neg (show ¬ (1 : Int32) = 0 by decide)] at h
    obtain ⟨r4, s4, t4, q4, h⟩ := bd_some h
    obtain ⟨rfl, -, -⟩ := sm_inj h
    unfold B_X12_waterIn_0 at q4
    obtain ⟨v1, ev, q4⟩ := nm_some q4
    rw [f1 199 4 (by omega)] at q4
    refine Or.inr ⟨k, ?_⟩
    by_cases c : σ 199 4 = 0
    · rw [if_pos c] at q4
      exact Or.inl ⟨by rw [c]; rfl, x_wi27 (by rw [f1 199 31 (by omega)]; exact h31) q4⟩
    · rw [if_neg c] at q4
      rw [fa_eq] at c
      obtain ⟨-, q4⟩ := dz_some q4
      obtain ⟨j, ej, -, q4⟩ := ck_some q4
      have z := x_wi27 (by rw [f1 199 31 (by omega)]; exact h31) q4
      rw [f1 205 j (by omega)] at z
      have d1 : v1.toInt = x1.toInt / 10 := by rw [ev, ti_div (by omega) (by omega), l10]
      have d2 := ti_rem (a := v1) (b := σ 199 4) (by omega) (by omega)
      have q1 := Int.emod_nonneg v1.toInt (show (σ 199 4).toInt ≠ 0 by omega)
      have nn := nat_of_toInt (i := v1 - v1 / (σ 199 4) * (σ 199 4)) (by omega)
      rw [d1] at d2
      exact Or.inr ⟨by omega, by rw [z, show (x1.toInt / 10 % (σ 199 4).toInt).toNat = j by omega]⟩
  · rw [if_pos (show (0 : Int32) = 0 from rfl)] at h
    obtain ⟨rfl, -, -⟩ := sm_inj h
    exact Or.inl ⟨k, rfl⟩
/-- odds leaves no rain behind it -/
theorem od161 {R : gI → gJ → Int32 → Int32 → Int32 → Int32 → Int64 → Int64 → Int32 → Option (Int32 × gI × gJ)} (hR : ∀ s t a b c d e f g r s1 t1, R s t a b c d e f g = some (r, s1, t1) → s1 199 31 = 0) : ∀ (n : Nat) (s : gI) (t : gJ) (x1 x2 x3 x4 : Int32) (x5 x7 : Int64) (x9 : Int32) (x10 : Int64) (x12 r : Int32) (s1 : gI) (t1 : gJ), H_X12_odds_161 N R n s t x1 x2 x3 x4 x5 x7 x9 x10 x12 = some (r, s1, t1) → s1 199 31 = 0 := by
  intro n
  induction n with
  | zero => intro s t x1 x2 x3 x4 x5 x7 x9 x10 x12 r s1 t1 h; cases h
  | succ n ih =>
    intro s t x1 x2 x3 x4 x5 x7 x9 x10 x12 r s1 t1 h
    have h : C_X12_odds_161 N R (H_X12_odds_161 N R n) s t x1 x2 x3 x4 x5 x7 x9 x10 x12 = some (r, s1, t1) := h
    unfold C_X12_odds_161 at h
    by_cases c : x4 ≤ x12
    · rw [if_pos c] at h
      obtain ⟨v2, -, h⟩ := nm_some h
      obtain ⟨v3, -, h⟩ := nm_some h
      exact hR _ _ _ _ _ _ _ _ _ _ _ _ h
    · rw [if_neg c] at h
      obtain ⟨r4, s4, t4, q4, h⟩ := bd_some h
      by_cases c4 : r4 = 0
      · rw [if_pos c4] at h
        obtain ⟨v6, -, h⟩ := nm_some h
        obtain ⟨v7, -, h⟩ := nm_some h
        exact ih _ _ _ _ _ _ _ _ _ _ _ _ _ _ h
      · rw [if_neg c4] at h
        obtain ⟨v6, -, h⟩ := nm_some h
        obtain ⟨v7, -, h⟩ := nm_some h
        exact ih _ _ _ _ _ _ _ _ _ _ _ _ _ _ h
theorem od120 : ∀ (n : Nat) (s : gI) (t : gJ) (x1 x2 x3 x4 : Int32) (x5 x7 : Int64) (x9 r : Int32) (s1 : gI) (t1 : gJ), H_X12_odds_120 N n s t x1 x2 x3 x4 x5 x7 x9 = some (r, s1, t1) → s1 199 31 = 0 := by
  intro n
  induction n with
  | zero => intro s t x1 x2 x3 x4 x5 x7 x9 r s1 t1 h; cases h
  | succ n ih =>
    intro s t x1 x2 x3 x4 x5 x7 x9 r s1 t1 h
    have h : C_X12_odds_120 N (H_X12_odds_120 N n) s t x1 x2 x3 x4 x5 x7 x9 = some (r, s1, t1) := h
    unfold C_X12_odds_120 at h
    by_cases c : 1 <<< (x4 &&& 31) ≤ x9
    · rw [if_pos c] at h
      obtain ⟨s2, e2, h⟩ := nm_some h
      obtain ⟨s3, e3, h⟩ := nm_some h
      obtain ⟨u4, s4, t4, q4, h⟩ := bd_some h
      obtain ⟨-, rfl, -⟩ := sm_inj h
      rw [(fr_B_X12_entersFraction_0 N s3 _ _ _ q4).1 199 31 (by omega), e3, up2_ne (by omega), e2]
      unfold up2
      rw [if_pos ⟨rfl, rfl⟩]
    · rw [if_neg c] at h
      obtain ⟨s5, e5, h⟩ := nm_some h
      obtain ⟨u6, s6, t6, q6, h⟩ := bd_some h
      obtain ⟨j7, -, -, h⟩ := ck_some h
      by_cases c7 : s6 207 j7 = 1
      · rw [if_pos c7] at h
        exact od161 (fun s t a b c d e f g r s1 t1 h => ih s t a b c d e f g r s1 t1 h) _ _ _ _ _ _ _ _ _ _ _ _ _ _ _ h
      · rw [if_neg c7] at h
        obtain ⟨v9, -, h⟩ := nm_some h
        exact ih _ _ _ _ _ _ _ _ _ _ _ _ h
theorem xr_odds31 {x1 x2 x3 : Int32} (h31 : σ 199 31 = 0) (h : B_X12_odds_0 N σ τ x1 x2 x3 = some (r, σ1, τ1)) : σ1 199 31 = 0 := by
  have H96 : ∀ (n : Nat) (s : gI) (t : gJ) (x1 x2 x3 x4 : Int32) (x7 : Int64) (x9 r : Int32) (s1 : gI) (t1 : gJ), H_X12_odds_96 N n s t x1 x2 x3 x4 x7 x9 = some (r, s1, t1) → s1 199 31 = 0 := by
    intro n
    induction n with
    | zero => intro s t x1 x2 x3 x4 x7 x9 r s1 t1 h; cases h
    | succ n ih =>
      intro s t x1 x2 x3 x4 x7 x9 r s1 t1 h
      have h : C_X12_odds_96 N (H_X12_odds_96 N n) s t x1 x2 x3 x4 x7 x9 = some (r, s1, t1) := h
      unfold C_X12_odds_96 at h
      by_cases c : x4 ≤ x9
      · rw [if_pos c] at h
        exact od120 _ _ _ _ _ _ _ _ _ _ _ _ _ h
      · rw [if_neg c] at h
        obtain ⟨v2, -, h⟩ := nm_some h
        obtain ⟨v3, -, h⟩ := nm_some h
        exact ih _ _ _ _ _ _ _ _ _ _ _ h
  have H59 : ∀ (n : Nat) (s : gI) (t : gJ) (x1 x2 x3 x4 r : Int32) (s1 : gI) (t1 : gJ), H_X12_odds_59 N n s t x1 x2 x3 x4 = some (r, s1, t1) → s1 199 31 = 0 := by
    intro n
    induction n with
    | zero => intro s t x1 x2 x3 x4 r s1 t1 h; cases h
    | succ n ih =>
      intro s t x1 x2 x3 x4 r s1 t1 h
      have h : C_X12_odds_59 N (H_X12_odds_59 N n) s t x1 x2 x3 x4 = some (r, s1, t1) := h
      unfold C_X12_odds_59 at h
      by_cases c : (s 206 43) + x2 ≤ 10 * ((s 199 32) + x4)
      · rw [if_pos c] at h
        exact H96 _ _ _ _ _ _ _ _ _ _ _ _ h
      · rw [if_neg c] at h
        obtain ⟨v2, -, h⟩ := nm_some h
        exact ih _ _ _ _ _ _ _ _ _ h
  unfold B_X12_odds_0 at h
  obtain ⟨s1, e1, h⟩ := nm_some h
  have z1 : s1 199 31 = 0 := by rw [e1, up2_ne (by omega)]; exact h31
  obtain ⟨r2, s2, t2, q2, h⟩ := bd_some h
  have z2 : s2 199 31 = 0 := ((fr_B_X12_isThing_0 N s1 _ _ q2).1 199 31 id).trans z1
  by_cases c2 : r2 = 0
  · rw [if_pos c2] at h
    obtain ⟨-, rfl, -⟩ := sm_inj h
    exact z2
  · rw [if_neg c2] at h
    obtain ⟨r4, s4, t4, q4, h⟩ := bd_some h
    have z4 : s4 199 31 = 0 := by rw [(x_in q4).1]; exact z2
    by_cases c4 : r4 = 0
    · rw [if_pos c4] at h
      obtain ⟨-, rfl, -⟩ := sm_inj h
      exact z4
    · rw [if_neg c4] at h
      obtain ⟨r6, s6, t6, q6, h⟩ := bd_some h
      have z6 : s6 199 31 = 0 := by rw [(x_in q6).1]; exact z4
      by_cases c6 : r6 = 0
      · rw [if_pos c6] at h
        obtain ⟨-, rfl, -⟩ := sm_inj h
        exact z6
      · rw [if_neg c6] at h
        obtain ⟨s8, e8, h⟩ := nm_some h
        exact H59 _ _ _ _ _ _ _ _ _ _ h
end F9
