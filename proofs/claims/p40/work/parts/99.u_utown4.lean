/-! THE TOWN IS READ ALIKE: what a text tells, by what stands at each sign (K) -/
def lk (t : Nat → Int32) (m i : Int) : Int := if 0 ≤ i ∧ i < m then (t i.toNat).toInt else -1
def kd (v : Int) : Int := if v = 103 then 0 else if v = 100 then 1 else if v = 102 then 2 else if v = 114 then 3 else if v = 109 then 4 else if v = 105 then 5 else if v = 107 then 6 else -1
def lt4 (v : Int) : Int := if 97 ≤ v ∧ v < 109 then v - 97 else -1
def dg4 (v : Int) : Int := if 48 ≤ v ∧ v ≤ 57 then v - 48 else -1
/-- a line that begins at a: whether it can stand, the sign behind it or the one that can't stand, its letters (the last first) -/
def ln4 (K : Int → Int) (a : Int) : Bool × Int × List (Int × Int) :=
  if kd (K a) < 0 then (false, a, [])
  else if kd (K a) = 6 then (true, a + 1, [])
  else if lt4 (K (a + 1)) < 0 then (false, a + 1, [])
  else if kd (K a) = 0 then (true, a + 2, [(lt4 (K (a + 1)), a + 1)])
  else if kd (K a) = 1 then (if lt4 (K (a + 2)) < 0 then (false, a + 2, []) else (true, a + 3, [(lt4 (K (a + 2)), a + 2), (lt4 (K (a + 1)), a + 1)]))
  else if kd (K a) = 4 then (if dg4 (K (a + 2)) < 0 then (false, a + 2, []) else if dg4 (K (a + 3)) < dg4 (K (a + 2)) then (false, a + 3, []) else (true, a + 4, [(lt4 (K (a + 1)), a + 1)]))
  else (if dg4 (K (a + 2)) < (if kd (K a) = 5 then 2 else 1) then (false, a + 2, []) else (true, a + 3, [(lt4 (K (a + 1)), a + 1)]))
/-- the first sign that is the letter l -/
def fp : List (Int × Int) → Int → Int
  | [], _ => -1
  | x :: us, l => if fp us l = -1 ∧ x.1 = l then x.2 else fp us l
/-- the first sign that is a letter of no place -/
def jd (s : Int) : List (Int × Int) → Int
  | [] => -1
  | x :: us => if jd s us = -1 ∧ s ≤ x.1 then x.2 else jd s us
def jg (s : Int) (us : List (Int × Int)) : Int := if jd s us = -1 then s else -1 - jd s us
def tw (K : Int → Int) (n : Int) : Nat → Int → List (Int × Int) → Int
  | 0, a, _ => -1 - a
  | f + 1, a, us => if (ln4 K a).1 = false then -1 - (ln4 K a).2.1 else if n ≤ (ln4 K a).2.1 then jg (12 - (f : Int)) ((ln4 K a).2.2 ++ us) else if K (ln4 K a).2.1 = 59 then tw K n f ((ln4 K a).2.1 + 1) ((ln4 K a).2.2 ++ us) else -1 - (ln4 K a).2.1
/-- the letters' signs go up, all below b -/
def BU : Int → List (Int × Int) → Prop
  | _, [] => True
  | b, x :: us => (0 ≤ x.1 ∧ x.1 < 12) ∧ (0 ≤ x.2 ∧ x.2 < b) ∧ BU x.2 us
theorem bu_up {b b1 : Int} {us : List (Int × Int)} (h : BU b us) (hb : b ≤ b1) : BU b1 us := by
  cases us with
  | nil => trivial
  | cons x us => exact ⟨h.1, ⟨h.2.1.1, by have := h.2.1.2; omega⟩, h.2.2⟩
theorem fp_lt {us : List (Int × Int)} : ∀ {b : Int}, BU b us → 0 ≤ b → ∀ l : Int, fp us l < b ∧ -1 ≤ fp us l := by
  induction us with
  | nil => intro b _ hb l; unfold fp; omega
  | cons x us ih =>
    intro b h hb l
    have h1 := h.2.1
    have q := ih h.2.2 h1.1 l
    unfold fp
    split <;> omega
theorem jd_lt {s : Int} {us : List (Int × Int)} : ∀ {b : Int}, BU b us → 0 ≤ b → jd s us < b ∧ -1 ≤ jd s us := by
  induction us with
  | nil => intro b _ hb; unfold jd; omega
  | cons x us ih =>
    intro b h hb
    have h1 := h.2.1
    have q := ih h.2.2 h1.1
    unfold jd
    split <;> omega
theorem jd_fp {s : Int} {us : List (Int × Int)} : ∀ {b : Int}, BU b us → (jd s us = -1 ∧ ∀ l : Int, s ≤ l → fp us l = -1) ∨ (jd s us ≠ -1 ∧ (∃ l : Int, s ≤ l ∧ 0 ≤ l ∧ l < 12 ∧ fp us l = jd s us) ∧ ∀ l : Int, s ≤ l → fp us l = -1 ∨ jd s us ≤ fp us l) := by
  induction us with
  | nil => intro b _; exact Or.inl ⟨rfl, fun _ _ => rfl⟩
  | cons x us ih =>
    intro b h
    have h1 := h.2.1
    have h0 := h.1
    have hj := jd_lt (s := s) h.2.2 h1.1
    rcases ih h.2.2 with ⟨e, a⟩ | ⟨e, ⟨l, l1, l2, l3, l4⟩, a⟩
    · by_cases c : s ≤ x.1
      · have ej : jd s (x :: us) = x.2 := by show (if jd s us = -1 ∧ s ≤ x.1 then x.2 else jd s us) = x.2; rw [if_pos ⟨e, c⟩]
        refine Or.inr ⟨by rw [ej]; omega, ⟨x.1, c, h0.1, h0.2, ?_⟩, fun l hl => ?_⟩
        · rw [ej]
          show (if fp us x.1 = -1 ∧ x.1 = x.1 then x.2 else fp us x.1) = x.2
          rw [if_pos ⟨a x.1 c, rfl⟩]
        · rw [ej]
          show (if fp us l = -1 ∧ x.1 = l then x.2 else fp us l) = -1 ∨ x.2 ≤ (if fp us l = -1 ∧ x.1 = l then x.2 else fp us l)
          by_cases d : fp us l = -1 ∧ x.1 = l
          · rw [if_pos d]; omega
          · rw [if_neg d]; exact Or.inl (a l hl)
      · refine Or.inl ⟨by show (if jd s us = -1 ∧ s ≤ x.1 then x.2 else jd s us) = -1; rw [if_neg (fun z => c z.2)]; exact e, fun l hl => ?_⟩
        show (if fp us l = -1 ∧ x.1 = l then x.2 else fp us l) = -1
        rw [if_neg (fun z => by have := z.2; omega)]
        exact a l hl
    · have ej : jd s (x :: us) = jd s us := by show (if jd s us = -1 ∧ s ≤ x.1 then x.2 else jd s us) = jd s us; rw [if_neg (fun z => e z.1)]
      refine Or.inr ⟨by rw [ej]; exact e, ⟨l, l1, l2, l3, ?_⟩, fun l' hl => ?_⟩
      · rw [ej]
        show (if fp us l = -1 ∧ x.1 = l then x.2 else fp us l) = jd s us
        rw [if_neg (fun z => e (l4.symm.trans z.1))]
        exact l4
      · rw [ej]
        show (if fp us l' = -1 ∧ x.1 = l' then x.2 else fp us l') = -1 ∨ jd s us ≤ (if fp us l' = -1 ∧ x.1 = l' then x.2 else fp us l')
        by_cases d : fp us l' = -1 ∧ x.1 = l'
        · rw [if_pos d]; omega
        · rw [if_neg d]; exact a l' hl
theorem kd_rng (v : Int) : -1 ≤ kd v ∧ kd v ≤ 6 := by
  unfold kd
  split
  · omega
  · split
    · omega
    · split
      · omega
      · split
        · omega
        · split
          · omega
          · split
            · omega
            · split <;> omega
theorem lt_rng (v : Int) : -1 ≤ lt4 v ∧ lt4 v < 12 := by
  unfold lt4
  split <;> omega
theorem dg_rng (v : Int) : -1 ≤ dg4 v ∧ dg4 v ≤ 9 := by
  unfold dg4
  split <;> omega
/-- of a line: it ends behind where it begins, its letters stand in it -/
theorem ln_rng (K : Int → Int) (a : Int) (us : List (Int × Int)) (ha : 0 ≤ a) (h : BU a us) : a ≤ (ln4 K a).2.1 ∧ (ln4 K a).2.1 ≤ a + 4 ∧ BU (ln4 K a).2.1 ((ln4 K a).2.2 ++ us) := by
  have r1 := lt_rng (K (a + 1))
  have r2 := lt_rng (K (a + 2))
  have one : ∀ b : Int, a + 1 < b → ¬ lt4 (K (a + 1)) < 0 → BU b ([(lt4 (K (a + 1)), a + 1)] ++ us) := fun b hb hl => ⟨⟨by show 0 ≤ lt4 (K (a + 1)); omega, r1.2⟩, ⟨by show 0 ≤ a + 1; omega, hb⟩, bu_up h (by show a ≤ a + 1; omega)⟩
  unfold ln4
  split
  · exact ⟨by show a ≤ a; omega, by show a ≤ a + 4; omega, h⟩
  split
  · exact ⟨by show a ≤ a + 1; omega, by show a + 1 ≤ a + 4; omega, bu_up h (by show a ≤ a + 1; omega)⟩
  split
  · exact ⟨by show a ≤ a + 1; omega, by show a + 1 ≤ a + 4; omega, bu_up h (by show a ≤ a + 1; omega)⟩
  rename_i hl
  split
  · exact ⟨by show a ≤ a + 2; omega, by show a + 2 ≤ a + 4; omega, one (a + 2) (by omega) hl⟩
  split
  · split
    · exact ⟨by show a ≤ a + 2; omega, by show a + 2 ≤ a + 4; omega, bu_up h (by show a ≤ a + 2; omega)⟩
    · rename_i hl2
      exact ⟨by show a ≤ a + 3; omega, by show a + 3 ≤ a + 4; omega, ⟨by show 0 ≤ lt4 (K (a + 2)); omega, r2.2⟩, ⟨by show 0 ≤ a + 2; omega, by show a + 2 < a + 3; omega⟩, one (a + 2) (by omega) hl⟩
  split
  · split
    · exact ⟨by show a ≤ a + 2; omega, by show a + 2 ≤ a + 4; omega, bu_up h (by show a ≤ a + 2; omega)⟩
    · split
      · exact ⟨by show a ≤ a + 3; omega, by show a + 3 ≤ a + 4; omega, bu_up h (by show a ≤ a + 3; omega)⟩
      · exact ⟨by show a ≤ a + 4; omega, by show a + 4 ≤ a + 4; omega, one (a + 4) (by omega) hl⟩
  · generalize (if kd (K a) = 5 then (2 : Int) else 1) = w
    split
    · exact ⟨by show a ≤ a + 2; omega, by show a + 2 ≤ a + 4; omega, bu_up h (by show a ≤ a + 2; omega)⟩
    · exact ⟨by show a ≤ a + 3; omega, by show a + 3 ≤ a + 4; omega, one (a + 3) (by omega) hl⟩
/-! what a line tells of its place -/
def pn (K : Int → Int) (a : Int) : Int := if kd (K a) = 6 then -1 else lt4 (K (a + 1))
def ps (K : Int → Int) (a : Int) : Int := if kd (K a) = 1 then lt4 (K (a + 2)) else -1
def pf (K : Int → Int) (a : Int) : Int := if kd (K a) = 4 then 10 * dg4 (K (a + 2)) + dg4 (K (a + 3)) else if kd (K a) = 6 ∨ kd (K a) = 0 ∨ kd (K a) = 1 then 0 else dg4 (K (a + 2))
/-- where the lines begin (the last first), where the text can stand -/
def tws (K : Int → Int) (n : Int) : Nat → Int → List Int → List Int
  | 0, _, bs => bs
  | f + 1, a, bs => if n ≤ (ln4 K a).2.1 then a :: bs else tws K n f ((ln4 K a).2.1 + 1) (a :: bs)
/-- the row of place n -/
def PW (σ : gI) (b n : Nat) (K : Int → Int) (a : Int) : Prop := (σ b n).toInt = kd (K a) ∧ (σ (b + 1) n).toInt = pn K a ∧ (σ (b + 2) n).toInt = ps K a ∧ (σ (b + 3) n).toInt = pf K a
def PR (σ : gI) (b : Nat) (K : Int → Int) : List Int → Prop
  | [] => True
  | a :: bs => PW σ b bs.length K a ∧ PR σ b K bs
theorem pr_fr {σ σ1 : gI} {b : Nat} {K : Int → Int} : ∀ {bs : List Int}, PR σ b K bs → (∀ c k : Nat, b ≤ c → c ≤ b + 3 → k < bs.length → σ1 c k = σ c k) → PR σ1 b K bs := by
  intro bs
  induction bs with
  | nil => intro _ _; trivial
  | cons a bs ih =>
    intro h f
    have hl : bs.length < (a :: bs).length := Nat.lt_succ_self _
    refine ⟨⟨?_, ?_, ?_, ?_⟩, ih h.2 (fun c k h1 h2 h3 => f c k h1 h2 (Nat.lt_trans h3 hl))⟩
    · rw [f b bs.length (by omega) (by omega) hl]; exact h.1.1
    · rw [f (b + 1) bs.length (by omega) (by omega) hl]; exact h.1.2.1
    · rw [f (b + 2) bs.length (by omega) (by omega) hl]; exact h.1.2.2.1
    · rw [f (b + 3) bs.length (by omega) (by omega) hl]; exact h.1.2.2.2
/-- two sides that tell the same lines have the same rows -/
theorem pr_two {σ : gI} {b b1 : Nat} {K : Int → Int} : ∀ {bs : List Int}, PR σ b K bs → PR σ b1 K bs → ∀ i k : Nat, i ≤ 3 → k < bs.length → σ (b + i) k = σ (b1 + i) k := by
  intro bs
  induction bs with
  | nil => intro _ _ i k _ hk; exact absurd hk (Nat.not_lt_zero _)
  | cons a bs ih =>
    intro h h1 i k hi hk
    have hk' : k < bs.length + 1 := hk
    by_cases c : k = bs.length
    · rw [c, fa_eq]
      rcases (show i = 0 ∨ i = 1 ∨ i = 2 ∨ i = 3 by omega) with rfl | rfl | rfl | rfl
      · exact h.1.1.trans h1.1.1.symm
      · exact h.1.2.1.trans h1.1.2.1.symm
      · exact h.1.2.2.1.trans h1.1.2.2.1.symm
      · exact h.1.2.2.2.trans h1.1.2.2.2.symm
    · exact ih h.2 h1.2 i k hi (by omega)
/-- bits of the places of a kind; how many sets of forks -/
def fk (v : Int32) (f : Nat → Int32) : Nat → Int32
  | 0 => 0
  | n + 1 => if f n = v then fk v f n ||| (1 <<< (Int32.ofNat n &&& 31)) else fk v f n
def sk (f : Nat → Int32) : Nat → Int32
  | 0 => 1
  | n + 1 => if f n = 1 then sk f n * 2 else sk f n
theorem fk_fr {v : Int32} {f g : Nat → Int32} : ∀ {n : Nat}, (∀ k, k < n → f k = g k) → fk v f n = fk v g n := by
  intro n
  induction n with
  | zero => intro _; rfl
  | succ n ih =>
    intro h
    show (if f n = v then fk v f n ||| (1 <<< (Int32.ofNat n &&& 31)) else fk v f n) = (if g n = v then fk v g n ||| (1 <<< (Int32.ofNat n &&& 31)) else fk v g n)
    rw [h n (Nat.lt_succ_self n), ih (fun k hk => h k (Nat.lt_succ_of_lt hk))]
theorem sk_fr {f g : Nat → Int32} : ∀ {n : Nat}, (∀ k, k < n → f k = g k) → sk f n = sk g n := by
  intro n
  induction n with
  | zero => intro _; rfl
  | succ n ih =>
    intro h
    show (if f n = 1 then sk f n * 2 else sk f n) = (if g n = 1 then sk g n * 2 else sk g n)
    rw [h n (Nat.lt_succ_self n), ih (fun k hk => h k (Nat.lt_succ_of_lt hk))]
/-- the draft's sums -/
def TD (σ : gI) : Prop := σ 9 7 = fk 1 (σ 10) (σ 9 6).toInt.toNat ∧ σ 9 5 = fk 6 (σ 10) (σ 9 6).toInt.toNat ∧ σ 9 8 = sk (σ 10) (σ 9 6).toInt.toNat
theorem td_fr {σ σ1 : gI} (h : TD σ) (f : ∀ c k : Nat, c = 9 ∨ c = 10 → σ1 c k = σ c k) : TD σ1 := by
  have e : σ1 10 = σ 10 := funext fun k => f 10 k (Or.inr rfl)
  unfold TD
  rw [f 9 7 (Or.inl rfl), f 9 5 (Or.inl rfl), f 9 8 (Or.inl rfl), f 9 6 (Or.inl rfl), e]
  exact h
