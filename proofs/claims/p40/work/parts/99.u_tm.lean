/-! THE WATER IS READ ALIKE -/
section W5
variable {N : Nat} {σ σ1 : gI} {τ τ1 : gJ} {r : Int32}
/-- j: the first sign that is no digit 0 .. 3, or the end of what is seen -/
def WJ (t : Nat → Int32) (n : Int) (j : Int) : Prop := 0 ≤ j ∧ j ≤ n ∧ j ≤ 40 ∧ (∀ i : Nat, (i : Int) < j → 48 ≤ (t i).toInt ∧ (t i).toInt ≤ 51) ∧ (j = n ∨ j = 40 ∨ ¬ (48 ≤ (t j.toNat).toInt ∧ (t j.toNat).toInt ≤ 51))
def WA (n j : Int) : Int := if j = n then j else -1 - j
theorem wj_one {t t1 : Nat → Int32} {n j j1 : Int} (ht : ∀ k : Nat, (k : Int) < n → t k = t1 k) (h : WJ t n j) (h1 : WJ t1 n j1) : j = j1 := by
  obtain ⟨a1, a2, a3, a4, a5⟩ := h
  obtain ⟨b1, b2, b3, b4, b5⟩ := h1
  rcases Int.lt_trichotomy j j1 with c | c | c
  · have q := b4 j.toNat (by omega)
    rw [← ht j.toNat (by omega)] at q
    omega
  · exact c
  · have q := a4 j1.toNat (by omega)
    rw [ht j1.toNat (by omega)] at q
    omega
theorem x_look {x1 : Int32} (h : B_X7_look_0 N σ τ x1 = some (r, σ1, τ1)) : (σ = σ1 ∧ τ = τ1) ∧ ((0 ≤ x1.toInt ∧ x1.toInt < (σ 1 1).toInt ∧ x1.toInt < 80 ∧ r = σ 2 x1.toInt.toNat) ∨ (¬ (0 ≤ x1.toInt ∧ x1.toInt < (σ 1 1).toInt ∧ x1.toInt < 80) ∧ r = -1)) := by
  have l0 : (0 : Int32).toInt = 0 := rfl
  have l80 : (80 : Int32).toInt = 80 := rfl
  unfold B_X7_look_0 at h
  by_cases c1 : x1 < 0
  · rw [if_pos c1] at h
    rw [fa_lt] at c1
    obtain ⟨rfl, rfl, rfl⟩ := sm_inj h
    exact ⟨⟨rfl, rfl⟩, Or.inr ⟨by omega, rfl⟩⟩
  · rw [if_neg c1] at h
    rw [fa_lt] at c1
    by_cases c2 : σ 1 1 ≤ x1
    · rw [if_pos c2] at h
      rw [fa_le] at c2
      obtain ⟨rfl, rfl, rfl⟩ := sm_inj h
      exact ⟨⟨rfl, rfl⟩, Or.inr ⟨by omega, rfl⟩⟩
    · rw [if_neg c2] at h
      rw [fa_le] at c2
      by_cases c3 : (80 : Int32) ≤ x1
      · rw [if_pos c3] at h
        rw [fa_le] at c3
        obtain ⟨rfl, rfl, rfl⟩ := sm_inj h
        exact ⟨⟨rfl, rfl⟩, Or.inr ⟨by omega, rfl⟩⟩
      · rw [if_neg c3] at h
        rw [fa_le] at c3
        obtain ⟨j, ej, -, h⟩ := ck_some h
        obtain ⟨rfl, rfl, rfl⟩ := sm_inj h
        have nn := nat_of_toInt (i := x1) (by omega)
        exact ⟨⟨rfl, rfl⟩, Or.inl ⟨by omega, by omega, by omega, by rw [show x1.toInt.toNat = j by omega]⟩⟩
theorem x_digit {x1 : Int32} (h : B_X7_digit_0 N σ τ x1 = some (r, σ1, τ1)) : (σ = σ1 ∧ τ = τ1) ∧ ((0 ≤ x1.toInt ∧ x1.toInt < (σ 1 1).toInt ∧ x1.toInt < 80 ∧ 48 ≤ (σ 2 x1.toInt.toNat).toInt ∧ (σ 2 x1.toInt.toNat).toInt ≤ 57 ∧ r.toInt = (σ 2 x1.toInt.toNat).toInt - 48) ∨ (¬ (0 ≤ x1.toInt ∧ x1.toInt < (σ 1 1).toInt ∧ x1.toInt < 80 ∧ 48 ≤ (σ 2 x1.toInt.toNat).toInt ∧ (σ 2 x1.toInt.toNat).toInt ≤ 57) ∧ r.toInt = -1)) := by
  have l48 : (48 : Int32).toInt = 48 := rfl
  have l57 : (57 : Int32).toInt = 57 := rfl
  have lm : (-1 : Int32).toInt = -1 := rfl
  unfold B_X7_digit_0 at h
  obtain ⟨r1, s1, t1, q1, h⟩ := bd_some h
  obtain ⟨⟨rfl, rfl⟩, k⟩ := x_look q1
  by_cases c1 : r1 < 48
  · rw [if_pos c1] at h
    rw [fa_lt] at c1
    obtain ⟨rfl, rfl, rfl⟩ := sm_inj h
    refine ⟨⟨rfl, rfl⟩, Or.inr ⟨?_, rfl⟩⟩
    rcases k with ⟨k1, k2, k3, k4⟩ | ⟨k1, k2⟩
    · rw [k4] at c1; omega
    · omega
  · rw [if_neg c1] at h
    rw [fa_lt] at c1
    by_cases c2 : 57 < r1
    · rw [if_pos c2] at h
      rw [fa_lt] at c2
      obtain ⟨rfl, rfl, rfl⟩ := sm_inj h
      refine ⟨⟨rfl, rfl⟩, Or.inr ⟨?_, rfl⟩⟩
      rcases k with ⟨k1, k2, k3, k4⟩ | ⟨k1, k2⟩
      · rw [k4] at c2; omega
      · omega
    · rw [if_neg c2] at h
      rw [fa_lt] at c2
      obtain ⟨rfl, rfl, rfl⟩ := sm_inj h
      rcases k with ⟨k1, k2, k3, k4⟩ | ⟨k1, k2⟩
      · refine ⟨⟨rfl, rfl⟩, Or.inl ⟨k1, k2, k3, by rw [← k4]; omega, by rw [← k4]; omega, ?_⟩⟩
        rw [ti_sub (by omega) (by omega), k4, l48]
      · rw [k2] at c1
        omega
theorem x_read10 (h0 : 0 ≤ (σ 1 2).toInt ∧ (σ 1 2).toInt ≤ 80) (h : B_X10_read_0 N σ τ = some (r, σ1, τ1)) : ∃ j : Int, WJ (σ 2) (σ 1 2).toInt j ∧ r.toInt = WA (σ 1 2).toInt j := by
  have l0 : (0 : Int32).toInt = 0 := rfl
  have l1 : (1 : Int32).toInt = 1 := rfl
  have l3 : (3 : Int32).toInt = 3 := rfl
  have l40 : (40 : Int32).toInt = 40 := rfl
  have lm : (-1 : Int32).toInt = -1 := rfl
  unfold B_X10_read_0 at h
  obtain ⟨r0, s0, t0, q0, h⟩ := bd_some h
  unfold B_X7_showAtMost_0 at q0
  obtain ⟨s9, e9, q0⟩ := nm_some q0
  obtain ⟨-, rfl, rfl⟩ := sm_inj q0
  have en := imin_c 40 (σ 1 2)
  have f9 : ∀ c k : Nat, ¬ (c = 1 ∧ k = 1) → s9 c k = σ c k := fun c k hh => by rw [e9]; exact up2_ne hh
  have z9 : s9 1 1 = imin 40 (σ 1 2) := by rw [e9]; unfold up2; rw [if_pos ⟨rfl, rfl⟩]
  -- the second loop answers the length
  have H62 : ∀ (n : Nat) (s : gI) (t : gJ) (x2 r : Int32) (σ1 : gI) (τ1 : gJ), H_X10_read_62 N n s t x2 = some (r, σ1, τ1) → r = s 15 1 := by
    intro n
    induction n with
    | zero => intro s t x2 r σ1 τ1 h; cases h
    | succ n ih =>
      intro s t x2 r σ1 τ1 h
      have h : C_X10_read_62 N (H_X10_read_62 N n) s t x2 = some (r, σ1, τ1) := h
      unfold C_X10_read_62 at h
      by_cases c : s 15 1 ≤ x2
      · rw [if_pos c] at h
        obtain ⟨rfl, -, -⟩ := sm_inj h
        rfl
      · rw [if_neg c] at h
        obtain ⟨r2, s2, t2, q2, h⟩ := bd_some h
        obtain ⟨⟨rfl, rfl⟩, -⟩ := x_digit q2
        obtain ⟨j3, -, -, h⟩ := ck_some h
        obtain ⟨s4, e4, h⟩ := nm_some h
        obtain ⟨v5, e5, h⟩ := nm_some h
        rw [ih s4 _ v5 r σ1 τ1 h, e4]
        exact up2_ne (by omega)
  have fin : ∀ (t : gJ) (x2 r : Int32) (σ1 : gI) (τ1 : gJ) (s2 : gI), s2 = up2 s9 15 1 (imin (s9 1 2) 40) → H_X10_read_62 N N s2 t 0 = some (r, σ1, τ1) → r.toInt = (imin (σ 1 2) 40).toInt := by
    intro t x2 r σ1 τ1 s2 e2 h
    rw [H62 N s2 t 0 r σ1 τ1 h, e2]
    unfold up2
    rw [if_pos ⟨rfl, rfl⟩, f9 1 2 (by omega)]
  have H8 : ∀ (n : Nat) (t : gJ) (x2 r : Int32) (σ1 : gI) (τ1 : gJ), H_X10_read_8 N n s9 t x2 = some (r, σ1, τ1) → 0 ≤ x2.toInt → x2.toInt ≤ 40 → x2.toInt ≤ (σ 1 2).toInt → (∀ i : Nat, (i : Int) < x2.toInt → 48 ≤ (σ 2 i).toInt ∧ (σ 2 i).toInt ≤ 51) → ∃ j : Int, WJ (σ 2) (σ 1 2).toInt j ∧ r.toInt = WA (σ 1 2).toInt j := by
    intro n
    induction n with
    | zero => intro t x2 r σ1 τ1 h; cases h
    | succ n ih =>
      intro t x2 r σ1 τ1 h p0 p40 pn pk
      have h : C_X10_read_8 N (H_X10_read_8 N n) s9 t x2 = some (r, σ1, τ1) := h
      unfold C_X10_read_8 at h
      rw [if_neg (show ¬ (40 : Int32) < x2 from fun z => by rw [fa_lt] at z; omega)] at h
      obtain ⟨r3, s3, t3, q3, h⟩ := bd_some h
      unfold B_X7_isOver_0 at q3
      rw [f9 1 2 (by omega)] at q3
      by_cases c : x2 < σ 1 2
      · rw [if_pos c] at q3
        rw [fa_lt] at c
        obtain ⟨rfl, rfl, rfl⟩ := sm_inj q3
        rw [if_pos (show (0 : Int32) = 0 from rfl)] at h
        obtain ⟨r6, s6, t6, q6, h⟩ := bd_some h
        obtain ⟨⟨rfl, rfl⟩, k⟩ := x_digit q6
        rw [z9, f9 2 _ (by omega)] at k
        have em : (-1 - x2).toInt = -1 - x2.toInt := by rw [ti_sub (by omega) (by omega), lm]
        by_cases c6 : r6 < 0
        · rw [if_pos c6] at h
          rw [fa_lt] at c6
          obtain ⟨rfl, -, -⟩ := sm_inj h
          refine ⟨x2.toInt, ⟨p0, pn, p40, pk, ?_⟩, by unfold WA; rw [if_neg (by omega)]; exact em⟩
          by_cases c40 : x2.toInt = 40
          · exact Or.inr (Or.inl c40)
          · exact Or.inr (Or.inr (by omega))
        · rw [if_neg c6] at h
          rw [fa_lt] at c6
          by_cases c3 : r6 ≤ 3
          · rw [if_pos c3] at h
            rw [fa_le] at c3
            obtain ⟨v9, e9', h⟩ := nm_some h
            have eu : v9.toInt = x2.toInt + 1 := by rw [e9', ti_add (by omega) (by omega), l1]
            refine ih _ v9 r σ1 τ1 h (by omega) (by omega) (by omega) (fun i hi => ?_)
            by_cases hix : (i : Int) = x2.toInt
            · rw [show i = x2.toInt.toNat by omega]
              omega
            · exact pk i (by omega)
          · rw [if_neg c3] at h
            rw [fa_le] at c3
            obtain ⟨rfl, -, -⟩ := sm_inj h
            exact ⟨x2.toInt, ⟨p0, pn, p40, pk, Or.inr (Or.inr (by omega))⟩, by unfold WA; rw [if_neg (by omega)]; exact em⟩
      · rw [if_neg c] at q3
        rw [fa_lt] at c
        obtain ⟨rfl, rfl, rfl⟩ := sm_inj q3
        rw [if_neg (show ¬ (1 : Int32) = 0 by decide)] at h
        obtain ⟨s5, e5, h⟩ := nm_some h
        have q := fin _ x2 r σ1 τ1 s5 e5 h
        have em := imin_c (σ 1 2) 40
        exact ⟨x2.toInt, ⟨p0, pn, p40, pk, Or.inl (by omega)⟩, by unfold WA; rw [if_pos (by omega)]; omega⟩
  exact H8 N _ 0 r σ1 τ1 h (by omega) (by omega) (by omega) (fun i hi => absurd hi (by omega))
end W5
section A5
variable {N : Nat} {σ σ1 : gI} {τ τ1 : gJ} {r : Int32}
def chv (v : Int32) : Int32 := ((v &&& 255).toUInt32 % 65536).toInt32
theorem x_len {bs : List Int32} (hl : bs.length ≤ 20) (h : B_J0_length_8abf5_0 N bs σ τ = some (r, σ1, τ1)) : (σ = σ1 ∧ τ = τ1) ∧ r.toInt = bs.length := by
  unfold B_J0_length_8abf5_0 B_J0_coder_7d493_0 at h
  obtain ⟨r0, s0, t0, q0, h⟩ := bd_some h
  obtain ⟨rfl, rfl, rfl⟩ := sm_inj q0
  obtain ⟨rfl, rfl, rfl⟩ := sm_inj h
  refine ⟨⟨rfl, rfl⟩, ?_⟩
  rw [show ((0 : Int32) &&& 31) = 0 from rfl, Int32.shiftRight_zero]
  exact nI_toInt (by omega)
theorem x_chr {bs : List Int32} {x1 : Int32} (h : B_J0_charAt_5068e_0 N bs σ τ x1 = some (r, σ1, τ1)) : (σ = σ1 ∧ τ = τ1) ∧ r = chv (bs.getD x1.toInt.toNat 0) := by
  unfold B_J0_charAt_5068e_0 B_J0_isLatin1_aae02_0 at h
  obtain ⟨r0, s0, t0, q0, h⟩ := bd_some h
  obtain ⟨rfl, rfl, rfl⟩ := sm_inj q0
  rw [if_neg (show ¬ (1 : Int32) = 0 by decide)] at h
  obtain ⟨r3, s3, t3, q3, h⟩ := bd_some h
  obtain ⟨-, h⟩ := cch_some h
  obtain ⟨rfl, rfl, rfl⟩ := sm_inj h
  unfold B_J1_charAt_3b067_0 at q3
  obtain ⟨r4, s4, t4, q4, q3⟩ := bd_some q3
  have f4 := fr_B_J0_checkIndex_df160_0 N σ τ x1 _ q4
  have e4 : s4 = σ := funext fun c => funext fun k => f4.1 c k id
  have e5 : t4 = τ := funext fun c => funext fun k => f4.2 c k
  obtain ⟨j, ej, hj, q3⟩ := ck_some q3
  obtain ⟨-, q3⟩ := cch_some q3
  obtain ⟨rfl, rfl, rfl⟩ := sm_inj q3
  refine ⟨⟨e4.symm, e5.symm⟩, ?_⟩
  rw [show x1.toInt.toNat = j from ej]
  rfl
theorem x_among {bs : List Int32} (hl : bs.length ≤ 20) (hb : ∀ k : Nat, k < bs.length → chv (bs.getD k 0) = bs.getD k 0) (hA : 0 ≤ (σ 199 14).toInt) (h : B_X12_among_0 N bs σ τ = some (r, σ1, τ1)) : (σ = σ1 ∧ τ = τ1) ∧ (((σ 199 14).toInt < (σ 199 15).toInt ∧ ∃ k : Nat, k < bs.length ∧ r.toInt = k ∧ bs.getD k 0 = σ 208 (σ 199 14).toInt.toNat) ∨ (r.toInt = -1 ∧ (¬ (σ 199 14).toInt < (σ 199 15).toInt ∨ ∀ k : Nat, k < bs.length → bs.getD k 0 ≠ σ 208 (σ 199 14).toInt.toNat))) := by
  have l0 : (0 : Int32).toInt = 0 := rfl
  have l1 : (1 : Int32).toInt = 1 := rfl
  have H : ∀ (n : Nat) (x2 r : Int32) (σ1 : gI) (τ1 : gJ), H_X12_among_2 N bs n σ τ x2 = some (r, σ1, τ1) → (0 ≤ x2.toInt ∧ x2.toInt ≤ bs.length) → (∀ k : Nat, (k : Int) < x2.toInt → bs.getD k 0 ≠ σ 208 (σ 199 14).toInt.toNat) → (σ = σ1 ∧ τ = τ1) ∧ (((σ 199 14).toInt < (σ 199 15).toInt ∧ ∃ k : Nat, k < bs.length ∧ r.toInt = k ∧ bs.getD k 0 = σ 208 (σ 199 14).toInt.toNat) ∨ (r.toInt = -1 ∧ (¬ (σ 199 14).toInt < (σ 199 15).toInt ∨ ∀ k : Nat, k < bs.length → bs.getD k 0 ≠ σ 208 (σ 199 14).toInt.toNat))) := by
    intro n
    induction n with
    | zero => intro x2 r σ1 τ1 h; cases h
    | succ n ih =>
      intro x2 r σ1 τ1 h h2 hk
      have h : C_X12_among_2 N bs (H_X12_among_2 N bs n) σ τ x2 = some (r, σ1, τ1) := h
      unfold C_X12_among_2 at h
      obtain ⟨r1, s1, t1, q1, h⟩ := bd_some h
      obtain ⟨⟨rfl, rfl⟩, k1⟩ := x_len hl q1
      by_cases c1 : r1 ≤ x2
      · rw [if_pos c1] at h
        rw [fa_le] at c1
        obtain ⟨rfl, rfl, rfl⟩ := sm_inj h
        exact ⟨⟨rfl, rfl⟩, Or.inr ⟨rfl, Or.inr (fun k hk9 => hk k (by omega))⟩⟩
      · rw [if_neg c1] at h
        rw [fa_le] at c1
        by_cases c2 : σ 199 15 ≤ σ 199 14
        · rw [if_pos c2] at h
          rw [fa_le] at c2
          obtain ⟨rfl, rfl, rfl⟩ := sm_inj h
          exact ⟨⟨rfl, rfl⟩, Or.inr ⟨rfl, Or.inl (by omega)⟩⟩
        · rw [if_neg c2] at h
          rw [fa_le] at c2
          obtain ⟨r4, s4, t4, q4, h⟩ := bd_some h
          obtain ⟨⟨rfl, rfl⟩, k4⟩ := x_chr q4
          rw [hb _ (by omega)] at k4
          obtain ⟨j5, e5, -, h⟩ := ck_some h
          have nn := nat_of_toInt (i := σ 199 14) hA
          have ej : (σ 199 14).toInt.toNat = j5 := by omega
          by_cases c4 : r4 = σ 208 j5
          · rw [if_pos c4] at h
            obtain ⟨rfl, rfl, rfl⟩ := sm_inj h
            exact ⟨⟨rfl, rfl⟩, Or.inl ⟨by omega, x2.toInt.toNat, by omega, by omega, by rw [ej, ← c4, k4]⟩⟩
          · rw [if_neg c4] at h
            obtain ⟨v7, e7, h⟩ := nm_some h
            have eu : v7.toInt = x2.toInt + 1 := by rw [e7, ti_add (by omega) (by omega), l1]
            refine ih v7 r σ1 τ1 h (by omega) (fun k hk9 => ?_)
            by_cases hkx : (k : Int) = x2.toInt
            · rw [show k = x2.toInt.toNat by omega, ← k4, ej]
              exact c4
            · exact hk k (by omega)
  unfold B_X12_among_0 at h
  exact H N 0 r σ1 τ1 h (by omega) (fun k hk => absurd hk (by omega))
/-- takesOf: as among, and one further where it is one of them -/
theorem x_takesOf {bs : List Int32} (hl : bs.length ≤ 20) (hb : ∀ k : Nat, k < bs.length → chv (bs.getD k 0) = bs.getD k 0) (hA : 0 ≤ (σ 199 14).toInt ∧ (σ 199 14).toInt ≤ 80) (h : B_X12_takesOf_0 N bs σ τ = some (r, σ1, τ1)) : (∀ c k : Nat, ¬ (c = 199 ∧ k = 14) → σ1 c k = σ c k) ∧ (((σ 199 14).toInt < (σ 199 15).toInt ∧ (σ1 199 14).toInt = (σ 199 14).toInt + 1 ∧ ∃ k : Nat, k < bs.length ∧ r.toInt = k ∧ bs.getD k 0 = σ 208 (σ 199 14).toInt.toNat) ∨ (r.toInt = -1 ∧ (σ1 199 14).toInt = (σ 199 14).toInt ∧ (¬ (σ 199 14).toInt < (σ 199 15).toInt ∨ ∀ k : Nat, k < bs.length → bs.getD k 0 ≠ σ 208 (σ 199 14).toInt.toNat))) := by
  have l0 : (0 : Int32).toInt = 0 := rfl
  have l1 : (1 : Int32).toInt = 1 := rfl
  refine ⟨fun c k hh => (fr_B_X12_takesOf_0 N bs σ τ h).1 c k (by omega), ?_⟩
  unfold B_X12_takesOf_0 at h
  obtain ⟨r1, s1, t1, q1, h⟩ := bd_some h
  obtain ⟨⟨rfl, rfl⟩, k1⟩ := x_among hl hb hA.1 q1
  by_cases c : r1 < 0
  · rw [if_pos c] at h
    rw [fa_lt] at c
    obtain ⟨r3, s3, t3, q3, h⟩ := bd_some h
    have z3 : r3 = 0 := by
      unfold B_X12_flag_0 at q3
      rw [if_pos (show (0 : Int32) = 0 from rfl)] at q3
      obtain ⟨rfl, -, -⟩ := sm_inj q3
      rfl
    obtain ⟨s4, e4, h⟩ := nm_some h
    obtain ⟨rfl, rfl, -⟩ := sm_inj h
    rcases k1 with ⟨_, k, k2, k3, _⟩ | ⟨k2, k3⟩
    · omega
    · refine Or.inr ⟨k2, ?_, k3⟩
      rw [e4]
      unfold up2
      rw [if_pos ⟨rfl, rfl⟩, z3, ti_add (by omega) (by omega), l0]
      omega
  · rw [if_neg c] at h
    rw [fa_lt] at c
    obtain ⟨r3, s3, t3, q3, h⟩ := bd_some h
    have z3 : r3 = 1 := by
      unfold B_X12_flag_0 at q3
      rw [if_neg (show ¬ (1 : Int32) = 0 by decide)] at q3
      obtain ⟨rfl, -, -⟩ := sm_inj q3
      rfl
    obtain ⟨s4, e4, h⟩ := nm_some h
    obtain ⟨rfl, rfl, -⟩ := sm_inj h
    rcases k1 with ⟨k0, k, k2, k3, k4⟩ | ⟨k2, k3⟩
    · refine Or.inl ⟨k0, ?_, k, k2, k3, k4⟩
      rw [e4]
      unfold up2
      rw [if_pos ⟨rfl, rfl⟩, z3, ti_add (by omega) (by omega), l1]
    · omega
theorem x_begins2 {x1 : Int32} (h : B_X12_begins_0 N σ τ x1 = some (r, σ1, τ1)) : r = σ 199 13 ∧ (σ1 199 14).toInt = 0 ∧ σ1 199 15 = imin (σ 199 13) x1 ∧ (σ1 199 16).toInt = 0 ∧ (∀ c k : Nat, ¬ (c = 199 ∧ (k = 13 ∨ k = 14 ∨ k = 15 ∨ k = 16)) → σ1 c k = σ c k) := by
  have f := (fr_B_X12_begins_0 N σ τ x1 h).1
  unfold B_X12_begins_0 at h
  obtain ⟨v1, e1, h⟩ := nm_some h
  obtain ⟨s2, e2, h⟩ := nm_some h
  obtain ⟨s3, e3, h⟩ := nm_some h
  obtain ⟨s4, e4, h⟩ := nm_some h
  obtain ⟨s5, e5, h⟩ := nm_some h
  obtain ⟨rfl, rfl, -⟩ := sm_inj h
  refine ⟨e1, ?_, ?_, ?_, fun c k hh => f c k (by omega)⟩
  · rw [e5, up2_ne (by omega), e4, up2_ne (by omega), e3]; unfold up2; rw [if_pos ⟨rfl, rfl⟩]; rfl
  · rw [e5]; unfold up2; rw [if_pos ⟨rfl, rfl⟩, e1]
  · rw [e5, up2_ne (by omega), e4]; unfold up2; rw [if_pos ⟨rfl, rfl⟩]; rfl
/-- faultOf's answer -/
theorem x_fault {x1 x2 x3 : Int32} (hA : 0 ≤ (σ 199 14).toInt ∧ (σ 199 14).toInt ≤ 80) (h2 : 0 ≤ x2.toInt ∧ x2.toInt ≤ 80) (h : B_X12_faultOf_0 N σ τ x1 x2 x3 = some (r, σ1, τ1)) : (σ = σ1 ∧ τ = τ1) ∧ r.toInt = (if x2.toInt < x1.toInt ∧ ((¬ x3 = 0 ∧ (σ 199 14).toInt = (σ 199 15).toInt) ∨ x2.toInt ≤ (σ 199 14).toInt) then -1 - x2.toInt else if ¬ x3 = 0 ∧ (σ 199 14).toInt = (σ 199 15).toInt then 0 else -1 - (σ 199 14).toInt) := by
  have f := fr_B_X12_faultOf_0 N σ τ x1 x2 x3 h
  refine ⟨⟨funext fun c => funext fun k => (f.1 c k id).symm, funext fun c => funext fun k => (f.2 c k).symm⟩, ?_⟩
  have l0 : (0 : Int32).toInt = 0 := rfl
  have lm : (-1 : Int32).toInt = -1 := rfl
  have e1 : (-1 - σ 199 14).toInt = -1 - (σ 199 14).toInt := by rw [ti_sub (by omega) (by omega), lm]
  have e2 : (-1 - x2).toInt = -1 - x2.toInt := by rw [ti_sub (by omega) (by omega), lm]
  have F : ∀ (y0 : Int32) (b : Prop) [Decidable b], (y0 = 0 ∧ ¬ b ∨ y0 = 1 ∧ b) → B_X12_faultOf_20 N σ τ x1 x2 y0 = some (r, σ1, τ1) → r.toInt = (if x2.toInt < x1.toInt ∧ (b ∨ x2.toInt ≤ (σ 199 14).toInt) then -1 - x2.toInt else if b then 0 else -1 - (σ 199 14).toInt) := by
    intro y0 b _ hb h
    unfold B_X12_faultOf_20 at h
    by_cases c1 : x1 ≤ x2
    · rw [if_pos c1] at h
      rw [fa_le] at c1
      rw [if_neg (fun z => by omega)]
      rcases hb with ⟨rfl, hb⟩ | ⟨rfl, hb⟩
      · rw [if_pos (show (0 : Int32) = 0 from rfl)] at h
        obtain ⟨rfl, -, -⟩ := sm_inj h
        rw [if_neg hb]; exact e1
      · rw [if_neg (show ¬ (1 : Int32) = 0 by decide)] at h
        obtain ⟨rfl, -, -⟩ := sm_inj h
        rw [if_pos hb]; exact l0
    · rw [if_neg c1] at h
      rw [fa_le] at c1
      rcases hb with ⟨rfl, hb⟩ | ⟨rfl, hb⟩
      · rw [if_pos (show (0 : Int32) = 0 from rfl)] at h
        by_cases c2 : σ 199 14 < x2
        · rw [if_pos c2, if_pos (show (0 : Int32) = 0 from rfl)] at h
          rw [fa_lt] at c2
          obtain ⟨rfl, -, -⟩ := sm_inj h
          rw [if_neg (fun z => by rcases z.2 with q | q; exact hb q; omega), if_neg hb]; exact e1
        · rw [if_neg c2] at h
          rw [fa_lt] at c2
          obtain ⟨rfl, -, -⟩ := sm_inj h
          rw [if_pos ⟨by omega, Or.inr (by omega)⟩]; exact e2
      · rw [if_neg (show ¬ (1 : Int32) = 0 by decide)] at h
        obtain ⟨rfl, -, -⟩ := sm_inj h
        rw [if_pos ⟨by omega, Or.inl hb⟩]; exact e2
  unfold B_X12_faultOf_0 at h
  by_cases c3 : x3 = 0
  · rw [if_pos c3] at h
    exact F 0 _ (Or.inl ⟨rfl, fun z => z.1 c3⟩) h
  · rw [if_neg c3] at h
    by_cases c4 : σ 199 14 = σ 199 15
    · rw [if_pos c4] at h
      exact F 1 _ (Or.inr ⟨rfl, c3, by rw [c4]⟩) h
    · rw [if_neg c4] at h
      exact F 0 _ (Or.inl ⟨rfl, fun z => c4 ((fa_eq _ _).mpr z.2)⟩) h
theorem b14 : ∀ k : Nat, k < sb_14.length → chv (sb_14.getD k 0) = sb_14.getD k 0 := by decide
theorem d14 : ∀ k : Nat, k < sb_14.length → (sb_14.getD k 0).toInt = 48 + k := by decide
theorem x_water12 (h0 : 0 ≤ (σ 199 13).toInt ∧ (σ 199 13).toInt ≤ 80) (h : B_X12_water_0 N σ τ = some (r, σ1, τ1)) : ∃ j : Int, WJ (σ 208) (σ 199 13).toInt j ∧ r.toInt = WA (σ 199 13).toInt j := by
  have l0 : (0 : Int32).toInt = 0 := rfl
  have l1 : (1 : Int32).toInt = 1 := rfl
  have l40 : (40 : Int32).toInt = 40 := rfl
  unfold B_X12_water_0 at h
  obtain ⟨s1, e1, h⟩ := nm_some h
  obtain ⟨r2, s2, t2, q2, h⟩ := bd_some h
  obtain ⟨b1, b2, b3, b4, b5⟩ := x_begins2 q2
  have f1 : ∀ c k : Nat, ¬ (c = 199 ∧ k = 0) → s1 c k = σ c k := fun c k hh => by rw [e1]; exact up2_ne hh
  rw [f1 199 13 (by omega)] at b1 b3
  have em := imin_c (σ 199 13) 40
  have H64 : ∀ (n : Nat) (s : gI) (t : gJ) (x2 x4 r : Int32) (σ1 : gI) (τ1 : gJ), H_X12_water_64 N n s t x2 x4 = some (r, σ1, τ1) → r = x2 := by
    intro n
    induction n with
    | zero => intro s t x2 x4 r σ1 τ1 h; cases h
    | succ n ih =>
      intro s t x2 x4 r σ1 τ1 h
      have h : C_X12_water_64 N (H_X12_water_64 N n) s t x2 x4 = some (r, σ1, τ1) := h
      unfold C_X12_water_64 at h
      by_cases c : x2 ≤ x4
      · rw [if_pos c] at h
        obtain ⟨rfl, -, -⟩ := sm_inj h
        rfl
      · rw [if_neg c] at h
        obtain ⟨j, -, -, h⟩ := ck_some h
        obtain ⟨s3, e3, h⟩ := nm_some h
        obtain ⟨v4, e4, h⟩ := nm_some h
        exact ih s3 t x2 v4 r σ1 τ1 h
  have H14 : ∀ (n : Nat) (s : gI) (t : gJ) (x2 r : Int32) (σ1 : gI) (τ1 : gJ), H_X12_water_14 N n s t r2 x2 = some (r, σ1, τ1) → (∀ k, s 208 k = σ 208 k) → (s 199 14).toInt = x2.toInt → s 199 15 = imin (σ 199 13) 40 → 0 ≤ x2.toInt → x2.toInt ≤ (imin (σ 199 13) 40).toInt → (∀ i : Nat, (i : Int) < x2.toInt → 48 ≤ (σ 208 i).toInt ∧ (σ 208 i).toInt ≤ 51) → ∃ j : Int, WJ (σ 208) (σ 199 13).toInt j ∧ r.toInt = WA (σ 199 13).toInt j := by
    intro n
    induction n with
    | zero => intro s t x2 r σ1 τ1 h; cases h
    | succ n ih =>
      intro s t x2 r σ1 τ1 h k8 k14 k15 p0 pn pk
      have h : C_X12_water_14 N (H_X12_water_14 N n) s t r2 x2 = some (r, σ1, τ1) := h
      unfold C_X12_water_14 at h
      obtain ⟨r1, s3, t3, q1, h⟩ := bd_some h
      obtain ⟨⟨rfl, rfl⟩, k1⟩ := x_among (by decide) b14 (by omega) q1
      have k15' := congrArg Int32.toInt k15
      rw [k14, k15', k8] at k1
      by_cases c : r1 < 0
      · rw [if_pos c] at h
        rw [fa_lt] at c
        have hj : x2.toInt = (imin (σ 199 13) 40).toInt ∨ ¬ (48 ≤ (σ 208 x2.toInt.toNat).toInt ∧ (σ 208 x2.toInt.toNat).toInt ≤ 51) := by
          rcases k1 with ⟨_, k, _, k3, _⟩ | ⟨_, k3 | k3⟩
          · omega
          · exact Or.inl (by omega)
          · refine Or.inr (fun z => ?_)
            have hd := d14 ((σ 208 x2.toInt.toNat).toInt.toNat - 48) (by show _ < 4; omega)
            exact k3 ((σ 208 x2.toInt.toNat).toInt.toNat - 48) (by show _ < 4; omega) ((fa_eq _ _).mpr (by omega))
        clear k1
        obtain ⟨r3, s3, t3, q3, h⟩ := bd_some h
        obtain ⟨⟨rfl, rfl⟩, k3⟩ := x_fault (by omega) (by omega) q3
        rw [k14, k15', b1, l40] at k3
        have n1 : ¬ (1 : Int32) = 0 := by decide
        by_cases c3 : 0 ≤ r3
        · rw [if_pos c3] at h
          rw [fa_le] at c3
          obtain ⟨s5, e5, h⟩ := nm_some h
          rw [H64 N s5 _ x2 0 r σ1 τ1 h]
          by_cases d1 : (40 : Int) < (σ 199 13).toInt ∧ ((¬ (1 : Int32) = 0 ∧ x2.toInt = (imin (σ 199 13) 40).toInt) ∨ (40 : Int) ≤ x2.toInt)
          · rw [if_pos d1] at k3; omega
          · rw [if_neg d1] at k3
            by_cases d2 : ¬ (1 : Int32) = 0 ∧ x2.toInt = (imin (σ 199 13) 40).toInt
            · have d3 : ¬ (40 : Int) < (σ 199 13).toInt := fun z => d1 ⟨z, Or.inl d2⟩
              have d4 := d2.2
              exact ⟨x2.toInt, ⟨p0, by omega, by omega, pk, Or.inl (by omega)⟩, by unfold WA; rw [if_pos (by omega)]⟩
            · rw [if_neg d2] at k3; omega
        · rw [if_neg c3] at h
          rw [fa_le] at c3
          obtain ⟨rfl, -, -⟩ := sm_inj h
          by_cases d1 : (40 : Int) < (σ 199 13).toInt ∧ ((¬ (1 : Int32) = 0 ∧ x2.toInt = (imin (σ 199 13) 40).toInt) ∨ (40 : Int) ≤ x2.toInt)
          · rw [if_pos d1] at k3
            have d5 : x2.toInt = 40 := by
              rcases d1.2 with z | z
              · have := z.2; omega
              · omega
            exact ⟨x2.toInt, ⟨p0, by omega, by omega, pk, Or.inr (Or.inl d5)⟩, by unfold WA; rw [if_neg (by omega)]; omega⟩
          · rw [if_neg d1] at k3
            by_cases d2 : ¬ (1 : Int32) = 0 ∧ x2.toInt = (imin (σ 199 13) 40).toInt
            · rw [if_pos d2] at k3; omega
            · rw [if_neg d2] at k3
              have d6 : ¬ x2.toInt = (imin (σ 199 13) 40).toInt := fun z => d2 ⟨n1, z⟩
              rcases hj with z | z
              · exact absurd z d6
              · exact ⟨x2.toInt, ⟨p0, by omega, by omega, pk, Or.inr (Or.inr z)⟩, by unfold WA; rw [if_neg (by omega)]; omega⟩
      · rw [if_neg c] at h
        rw [fa_lt] at c
        obtain ⟨r6, s6, t6, q6, h⟩ := bd_some h
        have k6 := x_takesOf (by decide) b14 (by omega) q6
        obtain ⟨f6, k6⟩ := k6
        rw [k14, k15', k8] at k6
        obtain ⟨j7, -, -, h⟩ := ck_some h
        obtain ⟨s8, e8, h⟩ := nm_some h
        obtain ⟨v9, e9, h⟩ := nm_some h
        rcases k1 with ⟨g0, k, g2, g3, g4⟩ | ⟨g2, g3⟩
        · have hd := d14 k g2
          have g2' : k < 4 := g2
          have ev : (σ 208 x2.toInt.toNat).toInt = 48 + k := by rw [← g4]; exact hd
          have eu : v9.toInt = x2.toInt + 1 := by rw [e9, ti_add (by omega) (by omega), l1]
          have f8 : ∀ c k : Nat, ¬ (c = 215) → s8 c k = s6 c k := fun c k hh => by rw [e8]; exact up2_ne (by omega)
          rcases k6 with ⟨m0, m1, m2⟩ | ⟨m0, m1, m2⟩
          · refine ih s8 _ v9 r σ1 τ1 h (fun k => by rw [f8 208 k (by omega), f6 208 k (by omega)]; exact k8 k) (by rw [f8 199 14 (by omega)]; omega) (by rw [f8 199 15 (by omega), f6 199 15 (by omega)]; exact k15) (by omega) (by omega) (fun i hi => ?_)
            by_cases hix : (i : Int) = x2.toInt
            · rw [show i = x2.toInt.toNat by omega]
              omega
            · exact pk i (by omega)
          · rcases m2 with z | z
            · omega
            · exact absurd g4 (z k g2)
        · omega
  exact H14 N s2 t2 0 r σ1 τ1 h (fun k => (b5 208 k (by omega)).trans (f1 208 k (by omega))) (by omega) b3 (by omega) (by omega) (fun i hi => absurd hi (by omega))
end A5
section TE5
variable {N : Nat} {σ σ1 : gI} {τ τ1 : gJ} {r : Int32}
theorem bit255 : ∀ i : Fin 32, 8 ≤ i.val → (255#32).getLsbD i.val = false := by decide
theorem bv_sh (x s : BitVec 32) (hs : s.toNat ≤ 24) : (x >>> s.toNat) &&& 255#32 = (x.sshiftRight' s) &&& 255#32 := by
  apply BitVec.eq_of_getLsbD_eq
  intro i hi
  rw [BitVec.getLsbD_and, BitVec.getLsbD_and]
  by_cases h8 : i < 8
  · rw [BitVec.getLsbD_ushiftRight, BitVec.getLsbD_sshiftRight', if_pos (by omega)]
    have hd : decide (32 ≤ i) = false := decide_eq_false (by omega)
    rw [hd]
    rfl
  · rw [bit255 ⟨i, hi⟩ (by show 8 ≤ i; omega), Bool.and_false, Bool.and_false]
def sg (x : Int32) (i : Int32) : Int32 := (x >>> ((24 - (8 * i)) &&& 31)) &&& 255
theorem sg_0 (x : Int32) : (ius x 24) &&& 255 = sg x 0 := Int32.toBitVec_inj.mp (bv_sh x.toBitVec 24#32 (by decide))
theorem sg_1 (x : Int32) : (ius x 16) &&& 255 = sg x 1 := Int32.toBitVec_inj.mp (bv_sh x.toBitVec 16#32 (by decide))
theorem sg_2 (x : Int32) : (ius x 8) &&& 255 = sg x 2 := Int32.toBitVec_inj.mp (bv_sh x.toBitVec 8#32 (by decide))
theorem sg_3 (x : Int32) : x &&& 255 = sg x 3 := by
  unfold sg
  rw [show ((24 - (8 * 3)) &&& 31 : Int32) = 0 by decide, Int32.shiftRight_zero]
theorem xt_sign2 {x1 : Int32} (h0 : 0 ≤ (σ 1 2).toInt ∧ (σ 1 2).toInt ≤ 76) (h : B_X11_sign_0 N σ τ x1 = some (r, σ1, τ1)) : (∀ k : Nat, (k : Int) < (σ 1 2).toInt → σ1 2 k = σ 2 k) ∧ σ1 2 (σ 1 2).toInt.toNat = sg x1 0 ∧ σ1 2 ((σ 1 2).toInt.toNat + 1) = sg x1 1 ∧ σ1 2 ((σ 1 2).toInt.toNat + 2) = sg x1 2 ∧ σ1 2 ((σ 1 2).toInt.toNat + 3) = sg x1 3 := by
  have l0 : (0 : Int32).toInt = 0 := rfl
  have l1 : (1 : Int32).toInt = 1 := rfl
  have l2 : (2 : Int32).toInt = 2 := rfl
  have l3 : (3 : Int32).toInt = 3 := rfl
  have l76 : (76 : Int32).toInt = 76 := rfl
  unfold B_X11_sign_0 at h
  obtain ⟨r1, s1, t1, q1, h⟩ := bd_some h
  unfold B_X7_addFour_0 at q1
  rw [if_neg (show ¬ σ 1 2 < 0 from fun z => by rw [fa_lt] at z; omega), if_pos (show σ 1 2 ≤ 76 from (fa_le _ _).mpr (by omega))] at q1
  have n0 := nat_of_toInt (i := σ 1 2) h0.1
  obtain ⟨j3, g3, -, q1⟩ := ck_some q1
  obtain ⟨s4, e4, q1⟩ := nm_some q1
  have z4 : s4 1 2 = σ 1 2 := by rw [e4]; exact up2_ne (by omega)
  rw [z4] at q1
  have a1 := ti_add (a := σ 1 2) (b := 1) (by omega) (by omega)
  have n1 := nat_of_toInt (i := σ 1 2 + 1) (by omega)
  obtain ⟨j5, g5, -, q1⟩ := ck_some q1
  obtain ⟨s6, e6, q1⟩ := nm_some q1
  have z6 : s6 1 2 = σ 1 2 := by rw [e6, up2_ne (by omega)]; exact z4
  rw [z6] at q1
  have a2 := ti_add (a := σ 1 2) (b := 2) (by omega) (by omega)
  have n2 := nat_of_toInt (i := σ 1 2 + 2) (by omega)
  obtain ⟨j7, g7, -, q1⟩ := ck_some q1
  obtain ⟨s8, e8, q1⟩ := nm_some q1
  have z8 : s8 1 2 = σ 1 2 := by rw [e8, up2_ne (by omega)]; exact z6
  rw [z8] at q1
  have a3 := ti_add (a := σ 1 2) (b := 3) (by omega) (by omega)
  have n3 := nat_of_toInt (i := σ 1 2 + 3) (by omega)
  obtain ⟨j9, g9, -, q1⟩ := ck_some q1
  obtain ⟨s10, e10, q1⟩ := nm_some q1
  obtain ⟨s11, e11, q1⟩ := nm_some q1
  obtain ⟨m1, m2, m3⟩ := sm_inj q1
  rw [← m1, if_neg (show ¬ (1 : Int32) = 0 by decide)] at h
  obtain ⟨-, m4, -⟩ := sm_inj h
  rw [← m4, ← m2]
  refine ⟨fun k hk => ?_, ?_, ?_, ?_, ?_⟩
  · rw [e11, up2_ne (by omega), e10, up2_ne (by omega), e8, up2_ne (by omega), e6, up2_ne (by omega), e4, up2_ne (by omega)]
  · rw [e11, up2_ne (by omega), e10, up2_ne (by omega), e8, up2_ne (by omega), e6, up2_ne (by omega), e4, show (σ 1 2).toInt.toNat = j3 by omega]
    unfold up2
    rw [if_pos ⟨rfl, rfl⟩]
    exact sg_0 x1
  · rw [e11, up2_ne (by omega), e10, up2_ne (by omega), e8, up2_ne (by omega), e6, show (σ 1 2).toInt.toNat + 1 = j5 by omega]
    unfold up2
    rw [if_pos ⟨rfl, rfl⟩]
    exact sg_1 x1
  · rw [e11, up2_ne (by omega), e10, up2_ne (by omega), e8, show (σ 1 2).toInt.toNat + 2 = j7 by omega]
    unfold up2
    rw [if_pos ⟨rfl, rfl⟩]
    exact sg_2 x1
  · rw [e11, up2_ne (by omega), e10, show (σ 1 2).toInt.toNat + 3 = j9 by omega]
    unfold up2
    rw [if_pos ⟨rfl, rfl⟩]
    exact sg_3 x1
theorem xr_sign2 {x1 : Int32} (h0 : 0 ≤ (σ 199 13).toInt ∧ (σ 199 13).toInt ≤ 76) (h : B_X12_sign_0 N σ τ x1 = some (r, σ1, τ1)) : (∀ k : Nat, (k : Int) < (σ 199 13).toInt → σ1 208 k = σ 208 k) ∧ ∀ i : Nat, i < 4 → σ1 208 ((σ 199 13).toInt.toNat + i) = sg x1 (Int32.ofInt (i : Int)) := by
  have l0 : (0 : Int32).toInt = 0 := rfl
  have l1 : (1 : Int32).toInt = 1 := rfl
  have l4 : (4 : Int32).toInt = 4 := rfl
  have l76 : (76 : Int32).toInt = 76 := rfl
  unfold B_X12_sign_0 at h
  obtain ⟨s1, e1, h⟩ := nm_some h
  have f1 : ∀ c k : Nat, ¬ (c = 199 ∧ k = 0) → s1 c k = σ c k := fun c k hh => by rw [e1]; exact up2_ne hh
  rw [if_pos (show s1 199 13 ≤ 76 from (fa_le _ _).mpr (by rw [f1 199 13 (by omega)]; omega))] at h
  have H : ∀ (n : Nat) (s : gI) (t : gJ) (x2 r : Int32) (σ1 : gI) (τ1 : gJ), H_X12_sign_18 N n s t x1 x2 = some (r, σ1, τ1) → s 199 13 = σ 199 13 → (0 ≤ x2.toInt ∧ x2.toInt ≤ 4) → (∀ k : Nat, (k : Int) < (σ 199 13).toInt → s 208 k = σ 208 k) → (∀ i : Nat, (i : Int) < x2.toInt → s 208 ((σ 199 13).toInt.toNat + i) = sg x1 (Int32.ofInt (i : Int))) → (∀ k : Nat, (k : Int) < (σ 199 13).toInt → σ1 208 k = σ 208 k) ∧ ∀ i : Nat, i < 4 → σ1 208 ((σ 199 13).toInt.toNat + i) = sg x1 (Int32.ofInt (i : Int)) := by
    intro n
    induction n with
    | zero => intro s t x2 r σ1 τ1 h; cases h
    | succ n ih =>
      intro s t x2 r σ1 τ1 h hs h2 p1 p2
      have h : C_X12_sign_18 N (H_X12_sign_18 N n) s t x1 x2 = some (r, σ1, τ1) := h
      unfold C_X12_sign_18 at h
      by_cases c : (4 : Int32) ≤ x2
      · rw [if_pos c] at h
        rw [fa_le] at c
        obtain ⟨s2, e2, h⟩ := nm_some h
        obtain ⟨-, m2, -⟩ := sm_inj h
        rw [← m2]
        exact ⟨fun k hk => by rw [e2, up2_ne (by omega)]; exact p1 k hk, fun i hi => by rw [e2, up2_ne (by omega)]; exact p2 i (by omega)⟩
      · rw [if_neg c] at h
        rw [fa_le] at c
        rw [hs] at h
        have a1 := ti_add (a := σ 199 13) (b := x2) (by omega) (by omega)
        have nn := nat_of_toInt (i := σ 199 13 + x2) (by omega)
        obtain ⟨j3, g3, -, h⟩ := ck_some h
        obtain ⟨s4, e4, h⟩ := nm_some h
        obtain ⟨v5, e5, h⟩ := nm_some h
        have eu : v5.toInt = x2.toInt + 1 := by rw [e5, ti_add (by omega) (by omega), l1]
        refine ih s4 t v5 r σ1 τ1 h (by rw [e4, up2_ne (by omega)]; exact hs) (by omega) (fun k hk => by rw [e4, up2_ne (by omega)]; exact p1 k hk) (fun i hi => ?_)
        by_cases hix : (i : Int) = x2.toInt
        · rw [e4, show (σ 199 13).toInt.toNat + i = j3 by omega]
          unfold up2
          rw [if_pos ⟨rfl, rfl⟩, hix, Int32.ofInt_toInt]
          rfl
        · rw [e4, up2_ne (by omega)]
          exact p2 i (by omega)
  have q := H N s1 τ 0 r σ1 τ1 h (f1 199 13 (by omega)) (by omega) (fun k _ => f1 208 k (by omega)) (fun i hi => absurd hi (by omega))
  exact q
end TE5
section SO5
variable {N : Nat} {σ : gI} {τ : gJ}
/-- sign of the class: it comes to its end, and changes THE TEXT alone -/
theorem so_sign {x1 : Int32} (h0 : (σ 1 2).toInt ≤ 80) : okp (fun (a : Int32) σ1 τ1 => ∀ c k : Nat, ¬ (c = 2 ∨ (c = 1 ∧ k = 2)) → σ1 c k = σ c k) (B_X11_sign_0 N σ τ x1) := by
  have l0 : (0 : Int32).toInt = 0 := rfl
  have l1 : (1 : Int32).toInt = 1 := rfl
  have l2 : (2 : Int32).toInt = 2 := rfl
  have l3 : (3 : Int32).toInt = 3 := rfl
  have l76 : (76 : Int32).toInt = 76 := rfl
  unfold B_X11_sign_0
  refine ok_bd (Q := fun (a : Int32) σ1 τ1 => ∀ c k : Nat, ¬ (c = 2 ∨ (c = 1 ∧ k = 2)) → σ1 c k = σ c k) ?_ (fun r σ1 τ1 h => ok_ite (fun _ => ok_r h) (fun _ => ok_r h))
  unfold B_X7_addFour_0
  refine ok_ite (fun _ => ok_r (fun _ _ _ => rfl)) (fun c => ok_ite (fun c2 => ?_) (fun _ => ok_r (fun _ _ _ => rfl)))
  rw [fa_lt] at c
  rw [fa_le] at c2
  have a1 := ti_add (a := σ 1 2) (b := 1) (by omega) (by omega)
  have a2 := ti_add (a := σ 1 2) (b := 2) (by omega) (by omega)
  have a3 := ti_add (a := σ 1 2) (b := 3) (by omega) (by omega)
  refine ok_ck ⟨by omega, by omega⟩ (fun j3 _ _ => ok_nm (fun s4 e4 => ?_))
  have z4 : s4 1 2 = σ 1 2 := by rw [e4]; exact up2_ne (by omega)
  rw [z4]
  refine ok_ck ⟨by omega, by omega⟩ (fun j5 _ _ => ok_nm (fun s6 e6 => ?_))
  have z6 : s6 1 2 = σ 1 2 := by rw [e6, up2_ne (by omega)]; exact z4
  rw [z6]
  refine ok_ck ⟨by omega, by omega⟩ (fun j7 _ _ => ok_nm (fun s8 e8 => ?_))
  have z8 : s8 1 2 = σ 1 2 := by rw [e8, up2_ne (by omega)]; exact z6
  rw [z8]
  refine ok_ck ⟨by omega, by omega⟩ (fun j9 _ _ => ok_nm (fun s10 e10 => ok_nm (fun s11 e11 => ok_r (fun c k hh => ?_))))
  rw [e11, up2_ne (by omega), e10, up2_ne (by omega), e8, up2_ne (by omega), e6, up2_ne (by omega), e4, up2_ne (by omega)]
end SO5
