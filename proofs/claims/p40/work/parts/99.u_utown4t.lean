section T4T
variable {N : Nat} {σ σ1 : gI} {τ τ1 : gJ} {r : Int32}
theorem x_t244 : ∀ (n : Nat) (s : gI) (t : gJ) (x5 r : Int32) (σ1 : gI) (τ1 : gJ), H_X12_town_244 N n s t x5 = some (r, σ1, τ1) → 0 ≤ x5.toInt → (∀ i : Nat, (i : Int) < x5.toInt → i < 3 → s 231 i = 0) → r = s 199 3 ∧ (∀ c k : Nat, ¬ (c = 231) → σ1 c k = s c k) ∧ ∀ i : Nat, i < 3 → σ1 231 i = 0 := by
  have l1 : (1 : Int32).toInt = 1 := rfl
  have l3 : (3 : Int32).toInt = 3 := rfl
  intro n
  induction n with
  | zero => intro s t x5 r σ1 τ1 h; cases h
  | succ n ih =>
    intro s t x5 r σ1 τ1 h p0 p
    have h : C_X12_town_244 N (H_X12_town_244 N n) s t x5 = some (r, σ1, τ1) := h
    unfold C_X12_town_244 at h
    by_cases c : 3 ≤ x5
    · rw [if_pos c] at h
      rw [fa_le] at c
      obtain ⟨rfl, rfl, -⟩ := sm_inj h
      exact ⟨rfl, fun _ _ _ => rfl, fun i hi => p i (by omega) hi⟩
    · rw [if_neg c] at h
      rw [fa_le] at c
      have nn := nat_of_toInt (i := x5) p0
      obtain ⟨j, ej, -, h⟩ := ck_some h
      obtain ⟨s3, e3, h⟩ := nm_some h
      obtain ⟨v4, e4, h⟩ := nm_some h
      have eu : v4.toInt = x5.toInt + 1 := by rw [e4, ti_add (by omega) (by omega), l1]
      have f3 : ∀ c k : Nat, ¬ (c = 231 ∧ k = j) → s3 c k = s c k := fun c k hh => by rw [e3]; exact up2_ne hh
      have z := ih s3 t v4 r σ1 τ1 h (by omega) (fun i hi hi2 => ?_)
      · exact ⟨by rw [z.1, f3 199 3 (by omega)], fun c k hh => (z.2.1 c k hh).trans (f3 c k (by omega)), z.2.2⟩
      · by_cases d : i = j
        · rw [e3, d, up_eq]
        · rw [f3 231 i (by omega)]
          exact p i (by omega) hi2
theorem x_t210 : ∀ (n : Nat) (s : gI) (t : gJ) (x5 r : Int32) (σ1 : gI) (τ1 : gJ), H_X12_town_210 N n s t x5 = some (r, σ1, τ1) → r = s 199 3 ∧ (∀ c k : Nat, ¬ (c = 206 ∨ c = 231 ∨ (c = 199 ∧ (k = 36 ∨ k = 52))) → σ1 c k = s c k) ∧ σ1 199 52 = 0 ∧ ∀ i : Nat, i < 3 → σ1 231 i = 0 := by
  have l0 : (0 : Int32).toInt = 0 := rfl
  intro n
  induction n with
  | zero => intro s t x5 r σ1 τ1 h; cases h
  | succ n ih =>
    intro s t x5 r σ1 τ1 h
    have h : C_X12_town_210 N (H_X12_town_210 N n) s t x5 = some (r, σ1, τ1) := h
    unfold C_X12_town_210 at h
    by_cases c : 45 ≤ x5
    · rw [if_pos c] at h
      obtain ⟨s2, e2, h⟩ := nm_some h
      obtain ⟨s3, e3, h⟩ := nm_some h
      have f3 : ∀ c k : Nat, ¬ (c = 199 ∧ (k = 36 ∨ k = 52)) → s3 c k = s c k := fun c k hh => by rw [e3, up2_ne (by omega), e2, up2_ne (by omega)]
      have z := x_t244 N s3 t 0 r σ1 τ1 h (by omega) (fun i hi => absurd hi (by omega))
      refine ⟨by rw [z.1, f3 199 3 (by omega)], fun c k hh => (z.2.1 c k (by omega)).trans (f3 c k (by omega)), ?_, z.2.2⟩
      rw [z.2.1 199 52 (by omega), e3, up2_ne (by omega), e2, up_eq]
    · rw [if_neg c] at h
      obtain ⟨j, ej, -, h⟩ := ck_some h
      obtain ⟨s5, e5, h⟩ := nm_some h
      obtain ⟨v6, e6, h⟩ := nm_some h
      have f5 : ∀ c k : Nat, ¬ (c = 206) → s5 c k = s c k := fun c k hh => by rw [e5]; exact up2_ne (by omega)
      have z := ih s5 t v6 r σ1 τ1 h
      exact ⟨by rw [z.1, f5 199 3 (by omega)], fun c k hh => (z.2.1 c k hh).trans (f5 c k (by omega)), z.2.2⟩
/-- what stands behind a town that was read -/
def TS (s σ1 : gI) (r : Int32) (m : Int) : Prop := r = s 199 3 ∧ (∀ c k : Nat, ¬ ((201 ≤ c ∧ c ≤ 204) ∨ c = 206 ∨ c = 231 ∨ (c = 199 ∧ (k = 36 ∨ k = 52))) → σ1 c k = s c k) ∧ σ1 199 52 = 0 ∧ (∀ i : Nat, i < 3 → σ1 231 i = 0) ∧ ∀ i p : Nat, i ≤ 3 → (p : Int) < m → σ1 (201 + i) p = s (209 + i) p
theorem x_t136 : ∀ (n : Nat) (s : gI) (t : gJ) (x5 r : Int32) (σ1 : gI) (τ1 : gJ), H_X12_town_136 N n s t x5 = some (r, σ1, τ1) → (0 ≤ x5.toInt ∧ (s 199 3).toInt ≤ 12) → (∀ i p : Nat, i ≤ 3 → (p : Int) < x5.toInt → s (201 + i) p = s (209 + i) p) → TS s σ1 r (s 199 3).toInt := by
  have l1 : (1 : Int32).toInt = 1 := rfl
  intro n
  induction n with
  | zero => intro s t x5 r σ1 τ1 h; cases h
  | succ n ih =>
    intro s t x5 r σ1 τ1 h p0 p
    have h : C_X12_town_136 N (H_X12_town_136 N n) s t x5 = some (r, σ1, τ1) := h
    unfold C_X12_town_136 at h
    by_cases c : s 199 3 ≤ x5
    · rw [if_pos c] at h
      rw [fa_le] at c
      obtain ⟨z1, z2, z3, z4⟩ := x_t210 N s t 0 r σ1 τ1 h
      exact ⟨z1, fun c k hh => z2 c k (by omega), z3, z4, fun i q hi hq => (z2 (201 + i) q (by omega)).trans (p i q hi (by omega))⟩
    · rw [if_neg c] at h
      rw [fa_le] at c
      have nn := nat_of_toInt (i := x5) p0.1
      obtain ⟨j, ej, -, h⟩ := ck_some h
      obtain ⟨s3, e3, h⟩ := nm_some h
      obtain ⟨s4, e4, h⟩ := nm_some h
      obtain ⟨s5, e5, h⟩ := nm_some h
      obtain ⟨s6, e6, h⟩ := nm_some h
      obtain ⟨v7, e7, h⟩ := nm_some h
      have eu : v7.toInt = x5.toInt + 1 := by rw [e7, ti_add (by omega) (by omega), l1]
      have f6 : ∀ c k : Nat, ¬ (201 ≤ c ∧ c ≤ 204 ∧ k = j) → s6 c k = s c k := fun c k hh => by rw [e6, up2_ne (by omega), e5, up2_ne (by omega), e4, up2_ne (by omega), e3, up2_ne (by omega)]
      have w1 : s6 201 j = s 209 j := by rw [e6, up2_ne (by omega), e5, up2_ne (by omega), e4, up2_ne (by omega), e3, up_eq]
      have w2 : s6 202 j = s 210 j := by rw [e6, up2_ne (by omega), e5, up2_ne (by omega), e4, up_eq, e3, up2_ne (by omega)]
      have w3 : s6 203 j = s 211 j := by rw [e6, up2_ne (by omega), e5, up_eq, e4, up2_ne (by omega), e3, up2_ne (by omega)]
      have w4 : s6 204 j = s 212 j := by rw [e6, up_eq, e5, up2_ne (by omega), e4, up2_ne (by omega), e3, up2_ne (by omega)]
      have g3 : s6 199 3 = s 199 3 := f6 199 3 (by omega)
      have z := ih s6 t v7 r σ1 τ1 h (by rw [g3]; omega) (fun i q hi hq => ?_)
      · rw [g3] at z
        obtain ⟨z1, z2, z3, z4, z5⟩ := z
        exact ⟨z1.trans g3, fun c k hh => (z2 c k hh).trans (f6 c k (by omega)), z3, z4, fun i q hi hq => (z5 i q hi hq).trans (f6 (209 + i) q (by omega))⟩
      · rw [f6 (209 + i) q (by omega)]
        by_cases d : q = j
        · rw [d]
          rcases (show i = 0 ∨ i = 1 ∨ i = 2 ∨ i = 3 by omega) with rfl | rfl | rfl | rfl
          · exact w1
          · exact w2
          · exact w3
          · exact w4
        · rw [f6 (201 + i) q (by omega)]
          exact p i q hi (by omega)
/-- the letters judged -/
def TJ (s σ1 : gI) (r : Int32) (m : Int) (us : List (Int × Int)) : Prop := r.toInt = jg m us ∧ ((r.toInt < 0 ∧ σ1 = s) ∨ (0 ≤ r.toInt ∧ r.toInt = m ∧ σ1 199 3 = s 199 21 ∧ (∀ c k : Nat, ¬ ((201 ≤ c ∧ c ≤ 204) ∨ c = 206 ∨ c = 231 ∨ (c = 199 ∧ (k = 3 ∨ k = 36 ∨ k = 52))) → σ1 c k = s c k) ∧ σ1 199 52 = 0 ∧ (∀ i : Nat, i < 3 → σ1 231 i = 0) ∧ ∀ i p : Nat, i ≤ 3 → (p : Int) < m → σ1 (201 + i) p = s (209 + i) p))
theorem x_t86 {us : List (Int × Int)} {b m : Int} (hB : BU b us) (hb : 0 ≤ b ∧ b ≤ 80) (hm : 0 ≤ m ∧ m ≤ 12) : ∀ (n : Nat) (s : gI) (t : gJ) (x5 r : Int32) (σ1 : gI) (τ1 : gJ), H_X12_town_86 N n s t x5 = some (r, σ1, τ1) → MV s us → (s 199 24).toInt = us.length → (s 199 21).toInt = m → 0 ≤ x5.toInt → (∀ k : Nat, (k : Int) < x5.toInt → k < us.length → (s 213 k).toInt < m) → TJ s σ1 r m us := by
  have l0 : (0 : Int32).toInt = 0 := rfl
  have l1 : (1 : Int32).toInt = 1 := rfl
  have lm : (-1 : Int32).toInt = -1 := rfl
  have neg : ∀ v : Int32, ((-1) - v).toInt = -1 - v.toInt := fun v => by have := i32_rng v; rw [ti_sub (by omega) (by omega), lm]
  have ul := bu_len hB hb.1
  intro n
  induction n with
  | zero => intro s t x5 r σ1 τ1 h; cases h
  | succ n ih =>
    intro s t x5 r σ1 τ1 h hM hw em p0 p
    have h : C_X12_town_86 N (H_X12_town_86 N n) s t x5 = some (r, σ1, τ1) := h
    unfold C_X12_town_86 at h
    obtain ⟨j1, j2⟩ := jd_mv (s := m) hM hB
    by_cases c : s 199 24 ≤ x5
    · rw [if_pos c] at h
      rw [fa_le] at c
      obtain ⟨s2, e2, h⟩ := nm_some h
      have f2 : ∀ c k : Nat, ¬ (c = 199 ∧ k = 3) → s2 c k = s c k := fun c k hh => by rw [e2]; exact up2_ne hh
      have g2 : s2 199 3 = s 199 21 := by rw [e2, up_eq]
      have g3 : (s2 199 3).toInt = m := by rw [g2]; exact em
      have z := x_t136 N s2 t 0 r σ1 τ1 h (by omega) (fun i q hi hq => absurd hq (by omega))
      rw [g3] at z
      obtain ⟨z1, z2, z3, z4, z5⟩ := z
      have er : r.toInt = m := by rw [z1]; exact g3
      have ej : jd m us = -1 := j1 (fun k hk => p k (by omega) hk)
      refine ⟨?_, Or.inr ⟨by omega, er, (z2 199 3 (by omega)).trans g2, fun c k hh => (z2 c k (by omega)).trans (f2 c k (by omega)), z3, z4, fun i q hi hq => (z5 i q hi hq).trans (f2 (209 + i) q (by omega))⟩⟩
      unfold jg
      rw [if_pos ej]
      exact er
    · rw [if_neg c] at h
      rw [fa_le] at c
      have nn := nat_of_toInt (i := x5) p0
      obtain ⟨j, ej, -, h⟩ := ck_some h
      by_cases d : s 213 j < s 199 21
      · rw [if_pos d] at h
        rw [fa_lt] at d
        obtain ⟨v5, e5, h⟩ := nm_some h
        have eu : v5.toInt = x5.toInt + 1 := by rw [e5, ti_add (by omega) (by omega), l1]
        refine ih s t v5 r σ1 τ1 h hM hw em (by omega) (fun k hk hk2 => ?_)
        by_cases d2 : k = j
        · rw [d2]; omega
        · exact p k (by omega) hk2
      · rw [if_neg d] at h
        rw [fa_lt] at d
        obtain ⟨rfl, rfl, -⟩ := sm_inj h
        obtain ⟨q1, q2⟩ := j2 j (by omega) (by omega) (fun k hk => p k (by omega) (by omega))
        refine ⟨?_, Or.inl ⟨by rw [neg]; omega, rfl⟩⟩
        rw [neg]
        unfold jg
        rw [if_neg (by omega), q1]
theorem x_t34z {us : List (Int × Int)} {m L T A : Int} (hB : BU A us) (hm : 0 ≤ m ∧ m ≤ 12) (hT : (L ≤ 76 ∧ T = L) ∨ (76 < L ∧ T = 76)) (hA : 0 ≤ A ∧ A ≤ T) {n : Nat} {s : gI} {t : gJ} {x1 x2 r : Int32} {σ1 : gI} {τ1 : gJ} (h : H_X12_town_34 N n s t x1 x2 0 = some (r, σ1, τ1)) (e1 : x1.toInt = L) (e15 : (s 199 15).toInt = T) (e14 : (s 199 14).toInt = A) (hM : MV s us) (hw : (s 199 24).toInt = us.length) (em : (s 199 21).toInt = m) : (¬ (¬ x2 = 0 ∧ A = T ∧ L ≤ 76) → r.toInt = -1 - A ∧ σ1 = s) ∧ ((¬ x2 = 0 ∧ A = T ∧ L ≤ 76) → TJ s σ1 r m us) := by
  have l0 : (0 : Int32).toInt = 0 := rfl
  have l76 : (76 : Int32).toInt = 76 := rfl
  cases n with
  | zero => cases h
  | succ n =>
    have h : C_X12_town_34 N (H_X12_town_34 N n) s t x1 x2 0 = some (r, σ1, τ1) := h
    unfold C_X12_town_34 at h
    rw [if_pos (show (0 : Int32) = 0 from rfl)] at h
    obtain ⟨r2, s2, t2, q2, h⟩ := bd_some h
    obtain ⟨⟨rfl, rfl⟩, k2⟩ := x_fault (by omega) (by omega) q2
    rw [e14, e15, e1, l76] at k2
    by_cases c : ¬ x2 = 0 ∧ A = T ∧ L ≤ 76
    · rw [if_neg (by omega), if_pos ⟨c.1, c.2.1⟩] at k2
      rw [if_pos (show 0 ≤ r2 from (fa_le _ _).mpr (by omega))] at h
      exact ⟨fun z => absurd c z, fun _ => x_t86 hB (by omega) hm N s t 0 r σ1 τ1 h hM hw em (by omega) (fun k hk => absurd hk (by omega))⟩
    · have k3 : r2.toInt = -1 - A := by
        rw [k2]
        by_cases d : 76 < L ∧ ((¬ x2 = 0 ∧ A = T) ∨ 76 ≤ A)
        · rw [if_pos d]
          omega
        · rw [if_neg d, if_neg (fun z => c ⟨z.1, z.2, by
            rcases hT with y | y
            · exact y.1
            · exact absurd ⟨y.1, Or.inl z⟩ d⟩)]
      rw [if_neg (show ¬ 0 ≤ r2 from fun z => by rw [fa_le] at z; omega)] at h
      obtain ⟨rfl, rfl, -⟩ := sm_inj h
      exact ⟨fun _ => ⟨k3, rfl⟩, fun z => absurd z c⟩
theorem t34_bad {L T A : Int} (hT : (L ≤ 76 ∧ T = L) ∨ (76 < L ∧ T = 76)) (hA : 0 ≤ A ∧ A ≤ T) {rec : gI → gJ → Int32 → Int32 → Int32 → Option (Int32 × gI × gJ)} {s : gI} {t : gJ} {x1 r : Int32} {σ1 : gI} {τ1 : gJ} (h : C_X12_town_34 N rec s t x1 0 0 = some (r, σ1, τ1)) (e1 : x1.toInt = L) (e15 : (s 199 15).toInt = T) (e14 : (s 199 14).toInt = A) : r.toInt = -1 - A ∧ σ1 = s := by
  have l0 : (0 : Int32).toInt = 0 := rfl
  have l76 : (76 : Int32).toInt = 76 := rfl
  unfold C_X12_town_34 at h
  rw [if_pos (show (0 : Int32) = 0 from rfl)] at h
  obtain ⟨r2, s2, t2, q2, h⟩ := bd_some h
  obtain ⟨⟨rfl, rfl⟩, k2⟩ := x_fault (by omega) (by omega) q2
  rw [e14, e15, e1, l76] at k2
  have n0 : ¬ ¬ (0 : Int32) = 0 := fun z => z rfl
  have k3 : r2.toInt = -1 - A := by
    rw [k2]
    by_cases d : 76 < L ∧ ((¬ (0 : Int32) = 0 ∧ A = T) ∨ 76 ≤ A)
    · rw [if_pos d]
      have d2 : 76 ≤ A := d.2.resolve_left (fun z => n0 z.1)
      omega
    · rw [if_neg d, if_neg (fun z => n0 z.1)]
  rw [if_neg (show ¬ 0 ≤ r2 from fun z => by rw [fa_le] at z; omega)] at h
  obtain ⟨rfl, rfl, -⟩ := sm_inj h
  exact ⟨k3, rfl⟩
/-- what the reference's town tells -/
def TR (s σ1 : gI) (r : Int32) (K : Int → Int) (bs : List Int) : Prop := (r.toInt < 0 ∧ ∀ c k : Nat, ¬ ((209 ≤ c ∧ c ≤ 214) ∨ (c = 199 ∧ (k = 14 ∨ k = 21 ∨ k = 24))) → σ1 c k = s c k) ∨ (0 ≤ r.toInt ∧ PR σ1 201 K bs ∧ (bs.length : Int) = r.toInt ∧ (σ1 199 3).toInt = r.toInt ∧ σ1 199 52 = 0 ∧ ∀ i : Nat, i < 3 → σ1 231 i = 0)
theorem pr_cp {s σ1 : gI} {K : Int → Int} : ∀ {bs : List Int}, PR s 209 K bs → (∀ i p : Nat, i ≤ 3 → p < bs.length → σ1 (201 + i) p = s (209 + i) p) → PR σ1 201 K bs := by
  intro bs
  induction bs with
  | nil => intro _ _; trivial
  | cons a bs ih =>
    intro h f
    have hl : bs.length < (a :: bs).length := Nat.lt_succ_self _
    refine ⟨⟨?_, ?_, ?_, ?_⟩, ih h.2 (fun i p h1 h2 => f i p h1 (Nat.lt_trans h2 hl))⟩
    · rw [show σ1 201 bs.length = s 209 bs.length from f 0 bs.length (by omega) hl]; exact h.1.1
    · rw [show σ1 (201 + 1) bs.length = s (209 + 1) bs.length from f 1 bs.length (by omega) hl]; exact h.1.2.1
    · rw [show σ1 (201 + 2) bs.length = s (209 + 2) bs.length from f 2 bs.length (by omega) hl]; exact h.1.2.2.1
    · rw [show σ1 (201 + 3) bs.length = s (209 + 3) bs.length from f 3 bs.length (by omega) hl]; exact h.1.2.2.2
theorem x_t34 {K : Int → Int} {L T : Int} (hT : (L ≤ 76 ∧ T = L) ∨ (76 < L ∧ T = 76)) (hL : 0 ≤ L ∧ L ≤ 80) : ∀ (n : Nat) (s : gI) (t : gJ) (x1 x2 r : Int32) (σ1 : gI) (τ1 : gJ) (us : List (Int × Int)) (bs : List Int) (A m : Int), H_X12_town_34 N n s t x1 x2 1 = some (r, σ1, τ1) → x1.toInt = L → K = lk (s 208) (s 199 15).toInt → (s 199 15).toInt = T → (s 199 14).toInt = A → (0 ≤ A ∧ A ≤ T) → MV s us → (s 199 24).toInt = us.length → BU A us → (s 199 21).toInt = m → (0 ≤ m ∧ m ≤ 12) → PR s 209 K bs → (bs.length : Int) = m → r.toInt = tw K L (12 - m).toNat A us ∧ TR s σ1 r K (tws K L (12 - m).toNat A bs) := by
  have l0 : (0 : Int32).toInt = 0 := rfl
  have l1 : (1 : Int32).toInt = 1 := rfl
  intro n
  induction n with
  | zero => intro s t x1 x2 r σ1 τ1 us bs A m h; cases h
  | succ n ih =>
    intro s t x1 x2 r σ1 τ1 us bs A m h e1 hKd e15 e14 hA hM hw hB em hm hP hbl
    have h : C_X12_town_34 N (H_X12_town_34 N n) s t x1 x2 1 = some (r, σ1, τ1) := h
    unfold C_X12_town_34 at h
    rw [if_neg (show ¬ (1 : Int32) = 0 by decide)] at h
    obtain ⟨r4, s4, t4, q4, h⟩ := bd_some h
    obtain ⟨f4, at4, z4⟩ := x_rp4 hKd e14 e15 (by omega) hM hw hB em hm q4
    have t15 : (s4 199 15).toInt = T := by rw [f4 199 15 (by omega)]; exact e15
    have k4 : K = lk (s4 208) (s4 199 15).toInt := by rw [show s4 208 = s 208 from funext fun k => f4 208 k (by omega), f4 199 15 (by omega)]; exact hKd
    rcases z4 with ⟨a1, a2, a3⟩ | ⟨a1, a2, a3, a4⟩ | ⟨a1, a2, a3, a4, a5, a6, a7, a8, a9⟩
    · rw [if_pos a2, a2] at h
      have hfin : r.toInt = -1 - A ∧ σ1 = s4 := by
        cases n with
        | zero => cases h
        | succ n =>
          have h : C_X12_town_34 N (H_X12_town_34 N n) s4 t4 x1 0 0 = some (r, σ1, τ1) := h
          exact t34_bad hT (by omega) h e1 t15 a3
      rw [show (12 - m).toNat = 0 by omega, hfin.1, hfin.2]
      exact ⟨rfl, Or.inl ⟨by omega, f4⟩⟩
    · obtain ⟨f, hf⟩ : ∃ f : Nat, (12 - m).toNat = f + 1 := ⟨(11 - m).toNat, by omega⟩
      rw [if_pos a3, a3] at h
      have rg := ln_rng K A us hA.1 hB
      have hfin : r.toInt = -1 - (ln4 K A).2.1 ∧ σ1 = s4 := by
        cases n with
        | zero => cases h
        | succ n =>
          have h : C_X12_town_34 N (H_X12_town_34 N n) s4 t4 x1 0 0 = some (r, σ1, τ1) := h
          exact t34_bad hT (by omega) h e1 t15 a4
      rw [hf]
      have et : tw K L (f + 1) A us = (if (ln4 K A).1 = false then -1 - (ln4 K A).2.1 else if L ≤ (ln4 K A).2.1 then jg (12 - (f : Int)) ((ln4 K A).2.2 ++ us) else if K (ln4 K A).2.1 = 59 then tw K L f ((ln4 K A).2.1 + 1) ((ln4 K A).2.2 ++ us) else -1 - (ln4 K A).2.1) := rfl
      rw [et, if_pos a2, hfin.1, hfin.2]
      exact ⟨rfl, Or.inl ⟨by omega, f4⟩⟩
    · obtain ⟨f, hf⟩ : ∃ f : Nat, (12 - m).toNat = f + 1 := ⟨(11 - m).toNat, by omega⟩
      rw [if_neg (show ¬ r4 = 0 by rw [a3]; decide)] at h
      have rg := ln_rng K A us hA.1 hB
      rw [hf]
      have et : tw K L (f + 1) A us = (if (ln4 K A).1 = false then -1 - (ln4 K A).2.1 else if L ≤ (ln4 K A).2.1 then jg (12 - (f : Int)) ((ln4 K A).2.2 ++ us) else if K (ln4 K A).2.1 = 59 then tw K L f ((ln4 K A).2.1 + 1) ((ln4 K A).2.2 ++ us) else -1 - (ln4 K A).2.1) := rfl
      have es : tws K L (f + 1) A bs = (if L ≤ (ln4 K A).2.1 then A :: bs else tws K L f ((ln4 K A).2.1 + 1) (A :: bs)) := rfl
      rw [et, es, if_neg (by rw [a2]; decide)]
      generalize hE : (ln4 K A).2.1 = E at a4 rg ⊢
      generalize hU : (ln4 K A).2.2 ++ us = us2 at a5 a6 rg ⊢
      have n9 : m.toNat = bs.length := by omega
      have P4 : PR s4 209 K (A :: bs) := by
        refine ⟨?_, pr_fr hP (fun c k h1 h2 h3 => a9 c k h1 (by omega) (by omega))⟩
        rw [← n9]
        exact a8
      have len4 : ((A :: bs).length : Int) = m + 1 := by
        show ((bs.length + 1 : Nat) : Int) = m + 1
        omega
      obtain ⟨r6, s6, t6, q6, h⟩ := bd_some h
      obtain ⟨f6, z6⟩ := x_takes59 k4 (by omega) q6
      rw [a4, t15] at z6
      rcases z6 with ⟨b1, b2, b3, b4⟩ | ⟨b1, b2, b3⟩
      · rw [if_neg (show ¬ r6 = 0 by rw [b1]; decide)] at h
        rw [if_neg (show ¬ L ≤ E by omega), if_neg (show ¬ L ≤ E by omega), if_pos b2]
        have k6 : K = lk (s6 208) (s6 199 15).toInt := by rw [show s6 208 = s4 208 from funext fun k => f6 208 k (by omega), f6 199 15 (by omega)]; exact k4
        obtain ⟨y1, y2⟩ := ih s6 t6 x1 r4 r σ1 τ1 us2 (A :: bs) (E + 1) (m + 1) h e1 k6 (by rw [f6 199 15 (by omega)]; exact t15) b3 (by omega) (mv_fr a5 (fun k _ => ⟨f6 213 k (by omega), f6 214 k (by omega)⟩)) (by rw [f6 199 24 (by omega)]; exact a6) (bu_up rg.2.2 (by omega)) (by rw [f6 199 21 (by omega)]; exact a7) (by omega) (pr_fr P4 (fun c k h1 h2 _ => f6 c k (by omega))) len4
        rw [show (12 - (m + 1)).toNat = f by omega] at y1 y2
        refine ⟨y1, ?_⟩
        rcases y2 with ⟨w1, w2⟩ | w
        · exact Or.inl ⟨w1, fun c k hh => (w2 c k hh).trans ((f6 c k (by omega)).trans (f4 c k hh))⟩
        · exact Or.inr w
      · rw [if_pos b1] at h
        have k6 : ∀ c k : Nat, ¬ ((209 ≤ c ∧ c ≤ 214) ∨ (c = 199 ∧ (k = 14 ∨ k = 21 ∨ k = 24))) → s6 c k = s c k := fun c k hh => (f6 c k (by omega)).trans (f4 c k hh)
        obtain ⟨y1, y2⟩ := x_t34z (us := us2) (m := m + 1) (L := L) (T := T) (A := E) rg.2.2 (by omega) hT (by omega) h e1 (by rw [f6 199 15 (by omega)]; exact t15) b3 (mv_fr a5 (fun k _ => ⟨f6 213 k (by omega), f6 214 k (by omega)⟩)) (by rw [f6 199 24 (by omega)]; exact a6) (by rw [f6 199 21 (by omega)]; exact a7)
        by_cases c : L ≤ E
        · rw [if_pos c, if_pos c]
          obtain ⟨w1, w2⟩ := y2 ⟨by rw [a3]; decide, by omega, by omega⟩
          rw [show m + 1 = 12 - (f : Int) by omega] at w1
          refine ⟨w1, ?_⟩
          rcases w2 with ⟨v1, v2⟩ | ⟨v1, v2, v3, v4, v5, v6, v7⟩
          · rw [v2]
            exact Or.inl ⟨v1, k6⟩
          · have P6 : PR s6 209 K (A :: bs) := pr_fr P4 (fun c k h1 h2 _ => f6 c k (by omega))
            refine Or.inr ⟨v1, pr_cp P6 (fun i p hi hp => v7 i p hi (by omega)), by omega, ?_, v5, v6⟩
            rw [v3, f6 199 21 (by omega), a7, v2]
        · rw [if_neg c, if_neg c, if_neg b2]
          obtain ⟨w1, w2⟩ := y1 (fun z => c (by omega))
          rw [w1, w2]
          exact ⟨rfl, Or.inl ⟨by omega, k6⟩⟩
theorem x_town12 (h0 : 0 ≤ (σ 199 13).toInt ∧ (σ 199 13).toInt ≤ 80) (h : B_X12_town_0 N σ τ = some (r, σ1, τ1)) : r.toInt = (if (σ 199 13).toInt ≤ 0 then 0 else tw (lk (σ 208) (imin (σ 199 13) 76).toInt) (σ 199 13).toInt 12 0 []) ∧ ((r.toInt < 0 ∧ ∀ c k : Nat, ¬ ((209 ≤ c ∧ c ≤ 214) ∨ (c = 199 ∧ (k = 0 ∨ k = 13 ∨ k = 14 ∨ k = 15 ∨ k = 16 ∨ k = 21 ∨ k = 24))) → σ1 c k = σ c k) ∨ (0 ≤ r.toInt ∧ PR σ1 201 (lk (σ 208) (imin (σ 199 13) 76).toInt) (if (σ 199 13).toInt ≤ 0 then [] else tws (lk (σ 208) (imin (σ 199 13) 76).toInt) (σ 199 13).toInt 12 0 []) ∧ ((if (σ 199 13).toInt ≤ 0 then [] else tws (lk (σ 208) (imin (σ 199 13) 76).toInt) (σ 199 13).toInt 12 0 []).length : Int) = r.toInt ∧ (σ1 199 3).toInt = r.toInt ∧ σ1 199 52 = 0 ∧ ∀ i : Nat, i < 3 → σ1 231 i = 0)) := by
  have l0 : (0 : Int32).toInt = 0 := rfl
  have l76 : (76 : Int32).toInt = 76 := rfl
  have em := imin_c (σ 199 13) 76
  unfold B_X12_town_0 at h
  obtain ⟨s1, e1, h⟩ := nm_some h
  have f1 : ∀ c k : Nat, ¬ (c = 199 ∧ k = 0) → s1 c k = σ c k := fun c k hh => by rw [e1]; exact up2_ne hh
  obtain ⟨r2, s2, t2, q2, h⟩ := bd_some h
  obtain ⟨b1, b2, b3, b4, f2⟩ := x_begins2 q2
  rw [f1 199 13 (by omega)] at b1 b3
  obtain ⟨s3, e3, h⟩ := nm_some h
  obtain ⟨s4, e4, h⟩ := nm_some h
  have f4 : ∀ c k : Nat, ¬ (c = 199 ∧ (k = 21 ∨ k = 24)) → s4 c k = s2 c k := fun c k hh => by rw [e4, up2_ne (by omega), e3, up2_ne (by omega)]
  have z24 : s4 199 24 = 0 := by rw [e4, up_eq]
  have z21 : s4 199 21 = 0 := by rw [e4, up2_ne (by omega), e3, up_eq]
  have F4 : ∀ c k : Nat, ¬ (c = 199 ∧ (k = 0 ∨ k = 13 ∨ k = 14 ∨ k = 15 ∨ k = 16 ∨ k = 21 ∨ k = 24)) → s4 c k = σ c k := fun c k hh => (f4 c k (by omega)).trans ((f2 c k (by omega)).trans (f1 c k (by omega)))
  have a14 : (s4 199 14).toInt = 0 := by rw [f4 199 14 (by omega)]; exact b2
  have a15 : s4 199 15 = imin (σ 199 13) 76 := by rw [f4 199 15 (by omega)]; exact b3
  have kD : lk (σ 208) (imin (σ 199 13) 76).toInt = lk (s4 208) (s4 199 15).toInt := by rw [a15, show s4 208 = σ 208 from funext fun k => F4 208 k (by omega)]
  have hT : ((σ 199 13).toInt ≤ 76 ∧ (imin (σ 199 13) 76).toInt = (σ 199 13).toInt) ∨ (76 < (σ 199 13).toInt ∧ (imin (σ 199 13) 76).toInt = 76) := by omega
  by_cases c : r2 ≤ 0
  · rw [if_pos c] at h
    rw [fa_le, b1] at c
    rw [if_pos (show (σ 199 13).toInt ≤ 0 by omega), if_pos (show (σ 199 13).toInt ≤ 0 by omega)]
    obtain ⟨-, y2⟩ := x_t34z (us := []) (m := 0) (L := (σ 199 13).toInt) (T := (imin (σ 199 13) 76).toInt) (A := 0) trivial (by omega) hT (by omega) h (by rw [b1]) (by rw [a15]) a14 trivial (by rw [z24]; rfl) (by rw [z21]; rfl)
    obtain ⟨w1, w2⟩ := y2 ⟨by decide, by omega, by omega⟩
    have w3 : r.toInt = 0 := w1
    refine ⟨w3, Or.inr ?_⟩
    rcases w2 with ⟨v1, v2⟩ | ⟨v1, v2, v3, v4, v5, v6, v7⟩
    · omega
    · exact ⟨by omega, trivial, w3.symm, by rw [v3, z21, w3]; rfl, v5, v6⟩
  · rw [if_neg c] at h
    rw [fa_le, b1] at c
    rw [if_neg (show ¬ (σ 199 13).toInt ≤ 0 by omega), if_neg (show ¬ (σ 199 13).toInt ≤ 0 by omega)]
    obtain ⟨y1, y2⟩ := x_t34 hT h0 14 s4 t2 r2 1 r σ1 τ1 [] [] 0 0 h (by rw [b1]) kD (by rw [a15]) a14 (by omega) trivial (by rw [z24]; rfl) trivial (by rw [z21]; rfl) (by omega) trivial rfl
    refine ⟨y1, ?_⟩
    rcases y2 with ⟨w1, w2⟩ | w
    · exact Or.inl ⟨w1, fun c k hh => (w2 c k (by omega)).trans (F4 c k (by omega))⟩
    · exact Or.inr w
end T4T
