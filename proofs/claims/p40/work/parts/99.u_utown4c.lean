/-! THE TOWN'S READER OF THE CLASS -/
section T4C
variable {N : Nat} {σ σ1 : gI} {τ τ1 : gJ} {r : Int32}
theorem of255 {v : Int32} (h : 0 ≤ v.toInt ∧ v.toInt ≤ 255) : ∃ i : Fin 256, v = Int32.ofNat i.val := ⟨⟨v.toInt.toNat, by omega⟩, (fa_eq _ _).mpr (by rw [ofn_ti (by show v.toInt.toNat < 2147483648; omega)]; show v.toInt = (v.toInt.toNat : Int); omega)⟩
theorem i8_all : ∀ i : Fin 256, ((Int32.ofNat i.val).toInt8.toInt32).toInt = if i.val < 128 then (i.val : Int) else (i.val : Int) - 256 := by decide +kernel
theorem ch_all : ∀ i : Fin 256, ((Int32.ofNat i.val).toUInt32 % 65536).toInt32 = Int32.ofNat i.val := by decide +kernel
theorem i8_v {v : Int32} (h : 0 ≤ v.toInt ∧ v.toInt ≤ 255) : (v.toInt8.toInt32).toInt = if v.toInt < 128 then v.toInt else v.toInt - 256 := by
  obtain ⟨i, e⟩ := of255 h
  have q := i8_all i
  have z : v.toInt = (i.val : Int) := by rw [e]; exact ofn_ti (by omega)
  rw [e, q]
  rw [e] at z
  rw [z]
  by_cases c : i.val < 128
  · rw [if_pos c, if_pos (by omega)]
  · rw [if_neg c, if_neg (by omega)]
theorem ch_v {v : Int32} (h : 0 ≤ v.toInt ∧ v.toInt ≤ 255) : (v.toUInt32 % 65536).toInt32 = v := by
  obtain ⟨i, e⟩ := of255 h
  rw [e]
  exact ch_all i
theorem x_lk {x1 : Int32} (hm : (σ 1 1).toInt ≤ 80) (h : B_X7_look_0 N σ τ x1 = some (r, σ1, τ1)) : (σ = σ1 ∧ τ = τ1) ∧ r.toInt = lk (σ 2) (σ 1 1).toInt x1.toInt := by
  obtain ⟨e, k⟩ := x_look h
  refine ⟨e, ?_⟩
  unfold lk
  rcases k with ⟨k1, k2, k3, k4⟩ | ⟨k1, k2⟩
  · rw [if_pos ⟨k1, k2⟩, k4]
  · rw [if_neg (fun z => k1 ⟨z.1, z.2, by omega⟩), k2]
    rfl
theorem x_letter4 {x1 : Int32} (hm : (σ 1 1).toInt ≤ 80) (h : B_X7_letter_0 N σ τ x1 = some (r, σ1, τ1)) : (σ = σ1 ∧ τ = τ1) ∧ r.toInt = lt4 (lk (σ 2) (σ 1 1).toInt x1.toInt) := by
  have l97 : (97 : Int32).toInt = 97 := rfl
  have l109 : (109 : Int32).toInt = 109 := rfl
  have lm : (-1 : Int32).toInt = -1 := rfl
  unfold B_X7_letter_0 at h
  obtain ⟨r1, s1, t1, q1, h⟩ := bd_some h
  obtain ⟨⟨rfl, rfl⟩, k⟩ := x_lk hm q1
  rw [← k]
  unfold lt4
  by_cases c1 : r1 < 97
  · rw [if_pos c1] at h
    rw [fa_lt] at c1
    obtain ⟨rfl, rfl, rfl⟩ := sm_inj h
    exact ⟨⟨rfl, rfl⟩, by rw [if_neg (by omega)]; rfl⟩
  · rw [if_neg c1] at h
    rw [fa_lt] at c1
    by_cases c2 : 109 ≤ r1
    · rw [if_pos c2] at h
      rw [fa_le] at c2
      obtain ⟨rfl, rfl, rfl⟩ := sm_inj h
      exact ⟨⟨rfl, rfl⟩, by rw [if_neg (by omega)]; rfl⟩
    · rw [if_neg c2] at h
      rw [fa_le] at c2
      obtain ⟨rfl, rfl, rfl⟩ := sm_inj h
      exact ⟨⟨rfl, rfl⟩, by rw [if_pos (by omega), ti_sub (by omega) (by omega), l97]⟩
theorem x_digit4 {x1 : Int32} (hm : (σ 1 1).toInt ≤ 80) (h : B_X7_digit_0 N σ τ x1 = some (r, σ1, τ1)) : (σ = σ1 ∧ τ = τ1) ∧ r.toInt = dg4 (lk (σ 2) (σ 1 1).toInt x1.toInt) := by
  have l48 : (48 : Int32).toInt = 48 := rfl
  have l57 : (57 : Int32).toInt = 57 := rfl
  unfold B_X7_digit_0 at h
  obtain ⟨r1, s1, t1, q1, h⟩ := bd_some h
  obtain ⟨⟨rfl, rfl⟩, k⟩ := x_lk hm q1
  rw [← k]
  unfold dg4
  by_cases c1 : r1 < 48
  · rw [if_pos c1] at h
    rw [fa_lt] at c1
    obtain ⟨rfl, rfl, rfl⟩ := sm_inj h
    exact ⟨⟨rfl, rfl⟩, by rw [if_neg (by omega)]; rfl⟩
  · rw [if_neg c1] at h
    rw [fa_lt] at c1
    by_cases c2 : 57 < r1
    · rw [if_pos c2] at h
      rw [fa_lt] at c2
      obtain ⟨rfl, rfl, rfl⟩ := sm_inj h
      exact ⟨⟨rfl, rfl⟩, by rw [if_neg (by omega)]; rfl⟩
    · rw [if_neg c2] at h
      rw [fa_lt] at c2
      obtain ⟨rfl, rfl, rfl⟩ := sm_inj h
      exact ⟨⟨rfl, rfl⟩, by rw [if_pos (by omega), ti_sub (by omega) (by omega), l48]⟩
theorem x_has4 {x1 x2 : Int32} (hm : (σ 1 1).toInt ≤ 80) (h : B_X7_hasSign_0 N σ τ x1 x2 = some (r, σ1, τ1)) : (σ = σ1 ∧ τ = τ1) ∧ ((r = 1 ∧ lk (σ 2) (σ 1 1).toInt x1.toInt = x2.toInt) ∨ (r = 0 ∧ ¬ lk (σ 2) (σ 1 1).toInt x1.toInt = x2.toInt)) := by
  unfold B_X7_hasSign_0 at h
  obtain ⟨r1, s1, t1, q1, h⟩ := bd_some h
  obtain ⟨⟨rfl, rfl⟩, k⟩ := x_lk hm q1
  rw [← k]
  by_cases c : r1 = x2
  · rw [if_pos c] at h
    obtain ⟨rfl, rfl, rfl⟩ := sm_inj h
    exact ⟨⟨rfl, rfl⟩, Or.inl ⟨rfl, by rw [c]⟩⟩
  · rw [if_neg c] at h
    rw [fa_eq] at c
    obtain ⟨rfl, rfl, rfl⟩ := sm_inj h
    exact ⟨⟨rfl, rfl⟩, Or.inr ⟨rfl, c⟩⟩
theorem x_idx {bs : List Int32} {v : Int32} (hl : bs.length ≤ 20) (hb : ∀ k : Nat, k < bs.length → 0 ≤ (bs.getD k 0).toInt ∧ (bs.getD k 0).toInt ≤ 127) (hv : 0 ≤ v.toInt ∧ v.toInt ≤ 255) (h : B_J0_indexOf_0f7a4_0 N bs σ τ v = some (r, σ1, τ1)) : (σ = σ1 ∧ τ = τ1) ∧ ((∃ k : Nat, k < bs.length ∧ r.toInt = k ∧ bs.getD k 0 = v) ∨ (r.toInt = -1 ∧ ∀ k : Nat, k < bs.length → bs.getD k 0 ≠ v)) := by
  have l0 : (0 : Int32).toInt = 0 := rfl
  have l1 : (1 : Int32).toInt = 1 := rfl
  have l255 : (255 : Int32).toInt = 255 := rfl
  have e8 := i8_v hv
  have ne : ∀ k : Nat, k < bs.length → (bs.getD k 0 = v.toInt8.toInt32 ↔ bs.getD k 0 = v) := by
    intro k hk
    have q := hb k hk
    rw [fa_eq, fa_eq, e8]
    by_cases c : v.toInt < 128
    · rw [if_pos c]
    · rw [if_neg c]
      omega
  have lof : (Int32.ofNat bs.length).toInt = bs.length := ofn_ti (by omega)
  unfold B_J0_indexOf_0f7a4_0 at h
  obtain ⟨r1, s1, t1, q1, h⟩ := bd_some h
  obtain ⟨rfl, rfl, rfl⟩ := sm_inj h
  unfold B_J0_indexOf_7cf53_0 at q1
  obtain ⟨r2, s2, t2, q2, q1⟩ := bd_some q1
  unfold B_J0_isLatin1_aae02_0 at q2
  obtain ⟨rfl, rfl, rfl⟩ := sm_inj q2
  rw [if_neg (show ¬ (1 : Int32) = 0 by decide)] at q1
  obtain ⟨r4, s4, t4, q4, q1⟩ := bd_some q1
  obtain ⟨⟨rfl, rfl⟩, e4⟩ := x_len hl q4
  obtain ⟨r5, s5, t5, q5, q1⟩ := bd_some q1
  obtain ⟨rfl, rfl, rfl⟩ := sm_inj q1
  unfold B_J1_indexOf_4cfef_0 at q5
  obtain ⟨r6, s6, t6, q6, q5⟩ := bd_some q5
  unfold B_J1_canEncode_9a6ad_0 at q6
  rw [if_neg (show ¬ v < 0 from fun z => by rw [fa_lt] at z; omega), if_neg (show ¬ (255 : Int32) < v from fun z => by rw [fa_lt] at z; omega)] at q6
  obtain ⟨rfl, rfl, rfl⟩ := sm_inj q6
  rw [if_neg (show ¬ (1 : Int32) = 0 by decide)] at q5
  obtain ⟨v3, e3, q5⟩ := nm_some q5
  obtain ⟨v4, ev4, q5⟩ := nm_some q5
  have m3 := imax_c 0 0
  rw [← e3] at m3
  have m4 := imin_c r4 (Int32.ofNat bs.length)
  rw [← ev4] at m4
  have H : ∀ (n : Nat) (s : gI) (t : gJ) (x5 r : Int32) (σ1 : gI) (τ1 : gJ), H_J1_indexOfChar_4cfef_7 N bs n s t v4 (v.toInt8.toInt32) x5 = some (r, σ1, τ1) → 0 ≤ x5.toInt → (∀ k : Nat, (k : Int) < x5.toInt → k < bs.length → bs.getD k 0 ≠ v) → (s = σ1 ∧ t = τ1) ∧ ((∃ k : Nat, k < bs.length ∧ r.toInt = k ∧ bs.getD k 0 = v) ∨ (r.toInt = -1 ∧ ∀ k : Nat, k < bs.length → bs.getD k 0 ≠ v)) := by
    intro n
    induction n with
    | zero => intro s t x5 r σ1 τ1 h; cases h
    | succ n ih =>
      intro s t x5 r σ1 τ1 h p0 p
      have h : C_J1_indexOfChar_4cfef_7 N bs (H_J1_indexOfChar_4cfef_7 N bs n) s t v4 (v.toInt8.toInt32) x5 = some (r, σ1, τ1) := h
      unfold C_J1_indexOfChar_4cfef_7 at h
      by_cases c : v4 ≤ x5
      · rw [if_pos c] at h
        rw [fa_le] at c
        obtain ⟨rfl, rfl, rfl⟩ := sm_inj h
        exact ⟨⟨rfl, rfl⟩, Or.inr ⟨rfl, fun k hk => p k (by omega) hk⟩⟩
      · rw [if_neg c] at h
        rw [fa_le] at c
        have nn := nat_of_toInt (i := x5) p0
        obtain ⟨j, ej, -, h⟩ := ck_some h
        by_cases c2 : bs.getD j 0 = v.toInt8.toInt32
        · rw [if_pos c2] at h
          obtain ⟨rfl, rfl, rfl⟩ := sm_inj h
          exact ⟨⟨rfl, rfl⟩, Or.inl ⟨j, by omega, by omega, (ne j (by omega)).mp c2⟩⟩
        · rw [if_neg c2] at h
          obtain ⟨v9, e9, h⟩ := nm_some h
          have eu : v9.toInt = x5.toInt + 1 := by rw [e9, ti_add (by omega) (by omega), l1]
          refine ih s t v9 r σ1 τ1 h (by omega) (fun k hk hk2 => ?_)
          by_cases hix : (k : Int) = x5.toInt
          · rw [show k = j by omega]
            exact fun z => c2 ((ne j (by omega)).mpr z)
          · exact p k (by omega) hk2
  by_cases c : v3 < v4
  · rw [if_pos c] at q5
    obtain ⟨r7, s7, t7, q7, q5⟩ := bd_some q5
    obtain ⟨rfl, rfl, rfl⟩ := sm_inj q5
    unfold B_J1_indexOfChar_4cfef_0 at q7
    obtain ⟨v8, e8', q7⟩ := nm_some q7
    rw [e8'] at q7
    exact H N _ _ v3 _ _ _ q7 (by omega) (fun k hk _ => absurd hk (by omega))
  · rw [if_neg c] at q5
    rw [fa_lt] at c
    obtain ⟨rfl, rfl, rfl⟩ := sm_inj q5
    exact ⟨⟨rfl, rfl⟩, Or.inr ⟨rfl, fun k hk => absurd hk (by omega)⟩⟩
theorem kd_at : ∀ k : Nat, k < sb_0.length → kd (sb_0.getD k 0).toInt = k := by decide
theorem kd_no {v : Int32} (h : ∀ k : Nat, k < sb_0.length → sb_0.getD k 0 ≠ v) : kd v.toInt = -1 := by
  have q : ∀ k : Nat, k < sb_0.length → (sb_0.getD k 0).toInt ≠ v.toInt := fun k hk z => h k hk ((fa_eq _ _).mpr z)
  have q0 : (103 : Int) ≠ v.toInt := q 0 (by decide)
  have q1 : (100 : Int) ≠ v.toInt := q 1 (by decide)
  have q2 : (102 : Int) ≠ v.toInt := q 2 (by decide)
  have q3 : (114 : Int) ≠ v.toInt := q 3 (by decide)
  have q4 : (109 : Int) ≠ v.toInt := q 4 (by decide)
  have q5 : (105 : Int) ≠ v.toInt := q 5 (by decide)
  have q6 : (107 : Int) ≠ v.toInt := q 6 (by decide)
  unfold kd
  rw [if_neg (by omega), if_neg (by omega), if_neg (by omega), if_neg (by omega), if_neg (by omega), if_neg (by omega), if_neg (by omega)]
theorem x_one4 {x2 : Int32} (hm : (σ 1 1).toInt ≤ 80) (hs : lk (σ 2) (σ 1 1).toInt x2.toInt ≤ 255) (h : B_X7_oneOf_0 N sb_0 σ τ x2 = some (r, σ1, τ1)) : (σ = σ1 ∧ τ = τ1) ∧ r.toInt = kd (lk (σ 2) (σ 1 1).toInt x2.toInt) := by
  have l0 : (0 : Int32).toInt = 0 := rfl
  unfold B_X7_oneOf_0 at h
  obtain ⟨r1, s1, t1, q1, h⟩ := bd_some h
  obtain ⟨⟨rfl, rfl⟩, k⟩ := x_lk hm q1
  rw [← k] at hs ⊢
  by_cases c : 0 ≤ r1
  · rw [if_pos c] at h
    rw [fa_le] at c
    obtain ⟨r3, s3, t3, q3, h⟩ := bd_some h
    obtain ⟨rfl, rfl, rfl⟩ := sm_inj h
    rw [ch_v (by omega)] at q3
    obtain ⟨e, z⟩ := x_idx (by decide) (by decide) (by omega) q3
    refine ⟨e, ?_⟩
    rcases z with ⟨k9, z1, z2, z3⟩ | ⟨z1, z2⟩
    · rw [z2, ← z3]
      exact (kd_at k9 z1).symm
    · rw [z1]
      exact (kd_no z2).symm
  · rw [if_neg c] at h
    rw [fa_le] at c
    obtain ⟨rfl, rfl, rfl⟩ := sm_inj h
    refine ⟨⟨rfl, rfl⟩, ?_⟩
    unfold kd
    rw [if_neg (by omega), if_neg (by omega), if_neg (by omega), if_neg (by omega), if_neg (by omega), if_neg (by omega), if_neg (by omega)]
    rfl
def FU (σ : gI) (us : List (Int × Int)) : Prop := ∀ l : Nat, l < 12 → (σ 14 l).toInt = fp us l
theorem x_use4 {x1 x2 : Int32} {u : Unit} {us : List (Int × Int)} (hx : 0 ≤ x1.toInt ∧ x1.toInt < 12) (hF : FU σ us) (h : B_X8_use_0 N σ τ x1 x2 = some (u, σ1, τ1)) : (∀ c k : Nat, c ≠ 14 → σ1 c k = σ c k) ∧ FU σ1 ((x1.toInt, x2.toInt) :: us) := by
  have l0 : (0 : Int32).toInt = 0 := rfl
  have l12 : (12 : Int32).toInt = 12 := rfl
  have lm : (-1 : Int32).toInt = -1 := rfl
  unfold B_X8_use_0 at h
  rw [if_neg (show ¬ x1 < 0 from fun z => by rw [fa_lt] at z; omega), if_neg (show ¬ (12 : Int32) ≤ x1 from fun z => by rw [fa_le] at z; omega)] at h
  have nn := nat_of_toInt (i := x1) hx.1
  obtain ⟨j, ej, -, h⟩ := ck_some h
  have hj : (j : Int) = x1.toInt := by omega
  have fj := hF j (by omega)
  by_cases c : σ 14 j = -1
  · rw [if_pos c] at h
    obtain ⟨s5, e5, h⟩ := nm_some h
    obtain ⟨-, rfl, -⟩ := sm_inj h
    refine ⟨fun c k hc => by rw [e5]; exact up2_ne (by omega), fun l hl => ?_⟩
    show (s5 14 l).toInt = if fp us l = -1 ∧ x1.toInt = l then x2.toInt else fp us l
    by_cases d : l = j
    · rw [e5, d]
      unfold up2
      rw [if_pos ⟨rfl, rfl⟩, if_pos ⟨by rw [← fj, c]; rfl, hj.symm⟩]
    · rw [e5, up2_ne (by omega), if_neg (by omega)]
      exact hF l hl
  · rw [if_neg c] at h
    rw [fa_eq] at c
    obtain ⟨-, rfl, -⟩ := sm_inj h
    refine ⟨fun _ _ _ => rfl, fun l hl => ?_⟩
    show (σ 14 l).toInt = if fp us l = -1 ∧ x1.toInt = l then x2.toInt else fp us l
    rw [if_neg (fun z => ?_)]
    · exact hF l hl
    · have e : l = j := by have := z.2; omega
      rw [e, ← fj] at z
      exact c z.1
/-- a place more -/
def AD (σ σ1 : gI) (x1 x2 x3 x4 : Int32) : Prop := (∀ c k : Nat, ¬ (9 ≤ c ∧ c ≤ 13) → σ1 c k = σ c k) ∧ (σ1 9 6).toInt = (σ 9 6).toInt + 1 ∧ (σ1 10 (σ 9 6).toInt.toNat = x1 ∧ σ1 11 (σ 9 6).toInt.toNat = x2 ∧ σ1 12 (σ 9 6).toInt.toNat = x3 ∧ σ1 13 (σ 9 6).toInt.toNat = x4) ∧ (∀ c k : Nat, 10 ≤ c → c ≤ 13 → k ≠ (σ 9 6).toInt.toNat → σ1 c k = σ c k) ∧ (TD σ → TD σ1)
theorem x_add4 {x1 x2 x3 x4 : Int32} {u : Unit} (hs : 0 ≤ (σ 9 6).toInt ∧ (σ 9 6).toInt < 12) (h : B_X8_addPlace_0 N σ τ x1 x2 x3 x4 = some (u, σ1, τ1)) : AD σ σ1 x1 x2 x3 x4 := by
  have l0 : (0 : Int32).toInt = 0 := rfl
  have l1 : (1 : Int32).toInt = 1 := rfl
  have l12 : (12 : Int32).toInt = 12 := rfl
  have en : σ 9 6 = Int32.ofNat (σ 9 6).toInt.toNat := (fa_eq _ _).mpr (by rw [ofn_ti (by omega)]; omega)
  have H88 : ∀ (s : gI) (t : gJ), B_X8_addPlace_88 N s t x1 = some (u, σ1, τ1) → s 9 6 = σ 9 6 → (∀ c k : Nat, ¬ (c = 9 ∧ k = 6) → ¬ (c = 9 ∧ k = 5) → σ1 c k = s c k) ∧ (σ1 9 6).toInt = (σ 9 6).toInt + 1 ∧ σ1 9 5 = if x1 = 6 then s 9 5 ||| (1 <<< (σ 9 6 &&& 31)) else s 9 5 := by
    intro s t h e6
    unfold B_X8_addPlace_88 at h
    by_cases c : x1 = 6
    · rw [if_pos c] at h
      obtain ⟨s3, e3, h⟩ := nm_some h
      obtain ⟨s4, e4, h⟩ := nm_some h
      obtain ⟨-, rfl, -⟩ := sm_inj h
      have z : s3 9 6 = σ 9 6 := by rw [e3, up2_ne (by omega)]; exact e6
      refine ⟨fun c k h1 h2 => by rw [e4, up2_ne h1, e3, up2_ne h2], ?_, ?_⟩
      · rw [e4]
        unfold up2
        rw [if_pos ⟨rfl, rfl⟩, z, ti_add (by omega) (by omega), l1]
      · rw [if_pos c, e4, up2_ne (by omega), e3, e6]
        unfold up2
        rw [if_pos ⟨rfl, rfl⟩]
    · rw [if_neg c] at h
      obtain ⟨s4, e4, h⟩ := nm_some h
      obtain ⟨-, rfl, -⟩ := sm_inj h
      refine ⟨fun c k h1 h2 => by rw [e4, up2_ne h1], ?_, ?_⟩
      · rw [e4]
        unfold up2
        rw [if_pos ⟨rfl, rfl⟩, e6, ti_add (by omega) (by omega), l1]
      · rw [if_neg c, e4, up2_ne (by omega)]
  unfold B_X8_addPlace_0 at h
  rw [if_neg (show ¬ σ 9 6 < 0 from fun z => by rw [fa_lt] at z; omega), if_pos (show σ 9 6 < 12 from (fa_lt _ _).mpr (by omega))] at h
  have nn := nat_of_toInt (i := σ 9 6) hs.1
  have nj : (σ 9 6).toNatClampNeg = (σ 9 6).toInt.toNat := by omega
  obtain ⟨j3, k3, -, h⟩ := ck_some h
  obtain ⟨s4, e4, h⟩ := nm_some h
  have g4 : s4 9 6 = σ 9 6 := by rw [e4, up2_ne (by omega)]
  rw [g4] at h
  obtain ⟨j5, k5, -, h⟩ := ck_some h
  obtain ⟨s6, e6, h⟩ := nm_some h
  have g6 : s6 9 6 = σ 9 6 := by rw [e6, up2_ne (by omega)]; exact g4
  rw [g6] at h
  obtain ⟨j7, k7, -, h⟩ := ck_some h
  obtain ⟨s8, e8, h⟩ := nm_some h
  have g8 : s8 9 6 = σ 9 6 := by rw [e8, up2_ne (by omega)]; exact g6
  rw [g8] at h
  obtain ⟨j9, k9, -, h⟩ := ck_some h
  obtain ⟨s10, e10, h⟩ := nm_some h
  have g10 : s10 9 6 = σ 9 6 := by rw [e10, up2_ne (by omega)]; exact g8
  generalize hn : (σ 9 6).toInt.toNat = n at en nj ⊢
  rw [nj] at k3 k5 k7 k9
  rw [← k3] at e4
  rw [← k5] at e6
  rw [← k7] at e8
  rw [← k9] at e10
  have f10 : ∀ c k : Nat, ¬ (10 ≤ c ∧ c ≤ 13 ∧ k = n) → s10 c k = σ c k := fun c k hh => by rw [e10, up2_ne (by omega), e8, up2_ne (by omega), e6, up2_ne (by omega), e4, up2_ne (by omega)]
  have r13 : s10 13 n = x4 := by rw [e10]; unfold up2; rw [if_pos ⟨rfl, rfl⟩]
  have r12 : s10 12 n = x3 := by rw [e10, up2_ne (by omega), e8]; unfold up2; rw [if_pos ⟨rfl, rfl⟩]
  have r11 : s10 11 n = x2 := by rw [e10, up2_ne (by omega), e8, up2_ne (by omega), e6]; unfold up2; rw [if_pos ⟨rfl, rfl⟩]
  have r10 : s10 10 n = x1 := by rw [e10, up2_ne (by omega), e8, up2_ne (by omega), e6, up2_ne (by omega), e4]; unfold up2; rw [if_pos ⟨rfl, rfl⟩]
  have fin : ∀ (s : gI) (t : gJ), B_X8_addPlace_88 N s t x1 = some (u, σ1, τ1) → (∀ c k : Nat, ¬ (c = 9 ∧ (k = 7 ∨ k = 8)) → s c k = s10 c k) → (s 9 7 = if x1 = 1 then σ 9 7 ||| (1 <<< (σ 9 6 &&& 31)) else σ 9 7) → (s 9 8 = if x1 = 1 then σ 9 8 * 2 else σ 9 8) → AD σ σ1 x1 x2 x3 x4 := by
    intro s t h f w7 w8
    obtain ⟨f1, a6, a5⟩ := H88 s t h ((f 9 6 (by omega)).trans g10)
    have F : ∀ c k : Nat, ¬ (c = 9 ∧ (k = 5 ∨ k = 6 ∨ k = 7 ∨ k = 8)) → σ1 c k = s10 c k := fun c k hh => (f1 c k (by omega) (by omega)).trans (f c k (by omega))
    have s5 : s 9 5 = σ 9 5 := (f 9 5 (by omega)).trans (f10 9 5 (by omega))
    unfold AD
    rw [hn]
    refine ⟨fun c k hh => (F c k (by omega)).trans (f10 c k (by omega)), a6, ⟨(F 10 n (by omega)).trans r10, (F 11 n (by omega)).trans r11, (F 12 n (by omega)).trans r12, (F 13 n (by omega)).trans r13⟩, fun c k h1 h2 h3 => (F c k (by omega)).trans (f10 c k (by omega)), fun hT => ?_⟩
    obtain ⟨t7, t5, t8⟩ := hT
    rw [hn] at t7 t5 t8
    have en1 : (σ1 9 6).toInt.toNat = n + 1 := by omega
    have q10 : σ1 10 n = x1 := (F 10 n (by omega)).trans r10
    have fe : ∀ k, k < n → σ1 10 k = σ 10 k := fun k hk => (F 10 k (by omega)).trans (f10 10 k (by omega))
    have hf : ∀ v : Int32, fk v (σ1 10) (n + 1) = if x1 = v then fk v (σ 10) n ||| (1 <<< (σ 9 6 &&& 31)) else fk v (σ 10) n := fun v => by
      show (if σ1 10 n = v then fk v (σ1 10) n ||| (1 <<< (Int32.ofNat n &&& 31)) else fk v (σ1 10) n) = _
      rw [q10, fk_fr fe, ← en]
    have hsk : sk (σ1 10) (n + 1) = if x1 = 1 then sk (σ 10) n * 2 else sk (σ 10) n := by
      show (if σ1 10 n = 1 then sk (σ1 10) n * 2 else sk (σ1 10) n) = _
      rw [q10, sk_fr fe]
    unfold TD
    rw [en1, hf 1, hf 6, hsk, ← t7, ← t5, ← t8]
    exact ⟨(f1 9 7 (by omega) (by omega)).trans w7, by rw [a5, s5], (f1 9 8 (by omega) (by omega)).trans w8⟩
  by_cases c : x1 = 1
  · rw [if_pos c] at h
    obtain ⟨s12, e12, h⟩ := nm_some h
    obtain ⟨s13, e13, h⟩ := nm_some h
    refine fin s13 _ h (fun c k hh => by rw [e13, up2_ne (by omega), e12, up2_ne (by omega)]) ?_ ?_
    · rw [if_pos c, e13, up2_ne (by omega), e12, g10, f10 9 7 (by omega)]
      unfold up2
      rw [if_pos ⟨rfl, rfl⟩]
    · rw [if_pos c, e13]
      unfold up2
      rw [if_pos ⟨rfl, rfl⟩, e12, up2_ne (by omega), f10 9 8 (by omega)]
  · rw [if_neg c] at h
    exact fin s10 _ h (fun _ _ _ => rfl) (by rw [if_neg c]; exact f10 9 7 (by omega)) (by rw [if_neg c]; exact f10 9 8 (by omega))
theorem ad_fr {σ s σ1 : gI} {x1 x2 x3 x4 : Int32} (h : AD s σ1 x1 x2 x3 x4) (f : ∀ c k : Nat, c ≠ 14 → s c k = σ c k) : (∀ c k : Nat, ¬ (9 ≤ c ∧ c ≤ 14) → σ1 c k = σ c k) ∧ (σ1 9 6).toInt = (σ 9 6).toInt + 1 ∧ (σ1 10 (σ 9 6).toInt.toNat = x1 ∧ σ1 11 (σ 9 6).toInt.toNat = x2 ∧ σ1 12 (σ 9 6).toInt.toNat = x3 ∧ σ1 13 (σ 9 6).toInt.toNat = x4) ∧ (∀ c k : Nat, 10 ≤ c → c ≤ 13 → k ≠ (σ 9 6).toInt.toNat → σ1 c k = σ c k) ∧ (TD σ → TD σ1) := by
  obtain ⟨a, b, c, d, e⟩ := h
  rw [f 9 6 (by omega)] at b c d
  exact ⟨fun x k hh => (a x k (by omega)).trans (f x k (by omega)), b, c, fun x k h1 h2 h3 => (d x k h1 h2 h3).trans (f x k (by omega)), fun hT => e (td_fr hT (fun x k hx => f x k (by omega)))⟩
/-- the row that a line tells, and the rows ahead of it -/
def PA (σ σ1 : gI) (K : Int → Int) (a : Int) : Prop := PW σ1 10 (σ 9 6).toInt.toNat K a ∧ (∀ c k : Nat, 10 ≤ c → c ≤ 13 → k ≠ (σ 9 6).toInt.toNat → σ1 c k = σ c k) ∧ (TD σ → TD σ1)
theorem pa_ad {σ s σ1 : gI} {x1 x2 x3 x4 : Int32} {K : Int → Int} {a : Int} (h : AD s σ1 x1 x2 x3 x4) (f : ∀ c k : Nat, c ≠ 14 → s c k = σ c k) (e1 : x1.toInt = kd (K a)) (e2 : x2.toInt = pn K a) (e3 : x3.toInt = ps K a) (e4 : x4.toInt = pf K a) : PA σ σ1 K a := by
  obtain ⟨-, -, ⟨w1, w2, w3, w4⟩, d, e⟩ := ad_fr h f
  exact ⟨⟨by rw [w1]; exact e1, by rw [w2]; exact e2, by rw [w3]; exact e3, by rw [w4]; exact e4⟩, d, e⟩
end T4C
