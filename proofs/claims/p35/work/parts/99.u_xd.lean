/-! ONE BOAT ALONE: a pure run, of PLACE, BOAT and COINS -/
abbrev SB : Type := Int32 × Int32 × Int32
def ix (p : Int32) : Nat := p.toInt.toNat
def arr6 (T : Nat → Nat → Int32) (p b c : Int32) : Int32 × Bool × SB := if b.toInt < 0 then (2, false, p, 0, c) else if T 0 (ix p) = 6 then (1, false, p, b, c) else (0, true, p, b, c)
/-- a step: how it is then (0 on its way, 1 home, 2 lost), whether it may go on, where and with what -/
def stp (T : Nat → Nat → Int32) (rv : SB → Int32) (t : Int32) (s : SB) : Int32 × Bool × SB :=
  if T 0 (ix s.1) = 5 ∧ ¬ t - t / T 3 (ix s.1) * T 3 (ix s.1) = 0 then (0, false, s)
  else if T 0 (ix s.1) = 3 ∧ ¬ T 3 (ix s.1) ≤ s.2.2 then (0, false, s)
  else if T 0 (ix s.1) = 4 ∧ (T 3 (ix s.1) / 10).toInt ≤ (t - t / 10 * 10).toInt ∧ (t - t / 10 * 10).toInt ≤ (T 3 (ix s.1) - T 3 (ix s.1) / 10 * 10).toInt then (2, false, s)
  else arr6 T (if T 0 (ix s.1) = 1 ∧ ¬ rv s = 0 then T 2 (ix s.1) else T 1 (ix s.1)) (s.2.1 - (if T 0 (ix s.1) = 2 then 1 + T 3 (ix s.1) else 1)) (if T 0 (ix s.1) = 3 then s.2.2 - T 3 (ix s.1) else s.2.2)
def mst (f : SB → Int32 × Bool × SB) : Nat → SB → Int32 × SB
  | 0, s => (0, s)
  | n + 1, s => if (f s).2.1 = true then mst f n (f s).2.2 else ((f s).1, (f s).2.2)
/-- n minutes at most: the kitchen in which it comes home, or -1 -/
def rnn (T : Nat → Nat → Int32) (rv : Int32 → SB → Int32) (wt : Int32 → Int32) : Nat → Int32 → SB → Int32
  | 0, _, _ => -1
  | n + 1, t, s => if (mst (stp T (rv t) t) (wt t).toInt.toNat s).1 = 1 then (mst (stp T (rv t) t) (wt t).toInt.toNat s).2.1 else if (mst (stp T (rv t) t) (wt t).toInt.toNat s).1 = 2 then -1 else rnn T rv wt n (t + 1) (mst (stp T (rv t) t) (wt t).toInt.toNat s).2
def flo (T : Nat → Nat → Int32) (rv : Int32 → SB → Int32) (wt : Int32 → Int32) (p m : Int32) : Int32 := if T 0 (ix p) = 6 then p else rnn T rv wt 300 m (p, 99, 0)
/-- a town whose letters are of its places -/
def TK (T : Nat → Nat → Int32) (n : Int) : Prop := ∀ p : Nat, (p : Int) < n → (T 0 p ≠ 6 → 0 ≤ (T 1 p).toInt ∧ (T 1 p).toInt < n) ∧ (T 0 p = 1 → 0 ≤ (T 2 p).toInt ∧ (T 2 p).toInt < n)
/-- a step keeps it in the town, and out of kitchens while it is on its way -/
def IN6 (T : Nat → Nat → Int32) (n : Int) (s : SB) : Prop := (0 ≤ s.1.toInt ∧ s.1.toInt < n) ∧ ¬ T 0 (ix s.1) = 6
theorem arr_in {T : Nat → Nat → Int32} {n : Int} {p b c : Int32} (hp : 0 ≤ p.toInt ∧ p.toInt < n) : (0 ≤ (arr6 T p b c).2.2.1.toInt ∧ (arr6 T p b c).2.2.1.toInt < n) ∧ ((arr6 T p b c).1 = 0 → IN6 T n (arr6 T p b c).2.2 ∧ (arr6 T p b c).2.1 = true) ∧ ((arr6 T p b c).2.1 = true → (arr6 T p b c).1 = 0) := by
  unfold arr6
  by_cases c1 : b.toInt < 0
  · rw [if_pos c1]
    exact ⟨hp, fun z => absurd z (show ¬ (2 : Int32) = 0 by decide), fun z => absurd z (show ¬ false = true by decide)⟩
  · rw [if_neg c1]
    by_cases c2 : T 0 (ix p) = 6
    · rw [if_pos c2]
      exact ⟨hp, fun z => absurd z (show ¬ (1 : Int32) = 0 by decide), fun z => absurd z (show ¬ false = true by decide)⟩
    · rw [if_neg c2]
      exact ⟨hp, fun _ => ⟨⟨hp, c2⟩, rfl⟩, fun _ => rfl⟩
theorem stp_in {T : Nat → Nat → Int32} {n : Int} {rv : SB → Int32} {t : Int32} {s : SB} (hn : n ≤ 12) (hT : TK T n) (hs : IN6 T n s) : (0 ≤ (stp T rv t s).2.2.1.toInt ∧ (stp T rv t s).2.2.1.toInt < n) ∧ ((stp T rv t s).1 = 0 → IN6 T n (stp T rv t s).2.2) ∧ ((stp T rv t s).2.1 = true → (stp T rv t s).1 = 0) := by
  have hk := hT (ix s.1) (by unfold ix; have := hs.1; omega)
  unfold stp
  by_cases c1 : T 0 (ix s.1) = 5 ∧ ¬ t - t / T 3 (ix s.1) * T 3 (ix s.1) = 0
  · rw [if_pos c1]
    exact ⟨hs.1, fun _ => hs, fun z => absurd z (show ¬ false = true by decide)⟩
  · rw [if_neg c1]
    by_cases c2 : T 0 (ix s.1) = 3 ∧ ¬ T 3 (ix s.1) ≤ s.2.2
    · rw [if_pos c2]
      exact ⟨hs.1, fun _ => hs, fun z => absurd z (show ¬ false = true by decide)⟩
    · rw [if_neg c2]
      by_cases c3 : T 0 (ix s.1) = 4 ∧ (T 3 (ix s.1) / 10).toInt ≤ (t - t / 10 * 10).toInt ∧ (t - t / 10 * 10).toInt ≤ (T 3 (ix s.1) - T 3 (ix s.1) / 10 * 10).toInt
      · rw [if_pos c3]
        exact ⟨hs.1, fun z => absurd z (show ¬ (2 : Int32) = 0 by decide), fun z => absurd z (show ¬ false = true by decide)⟩
      · rw [if_neg c3]
        have hp : 0 ≤ (if T 0 (ix s.1) = 1 ∧ ¬ rv s = 0 then T 2 (ix s.1) else T 1 (ix s.1)).toInt ∧ (if T 0 (ix s.1) = 1 ∧ ¬ rv s = 0 then T 2 (ix s.1) else T 1 (ix s.1)).toInt < n := by
          by_cases c4 : T 0 (ix s.1) = 1 ∧ ¬ rv s = 0
          · rw [if_pos c4]; exact hk.2 c4.1
          · rw [if_neg c4]; exact hk.1 hs.2
        have q := arr_in (T := T) (b := s.2.1 - (if T 0 (ix s.1) = 2 then 1 + T 3 (ix s.1) else 1)) (c := if T 0 (ix s.1) = 3 then s.2.2 - T 3 (ix s.1) else s.2.2) hp
        exact ⟨q.1, fun z => (q.2.1 z).1, q.2.2⟩
theorem mst_in {T : Nat → Nat → Int32} {n : Int} {rv : SB → Int32} {t : Int32} (hn : n ≤ 12) (hT : TK T n) : ∀ (k : Nat) (s : SB), IN6 T n s → (0 ≤ (mst (stp T rv t) k s).2.1.toInt ∧ (mst (stp T rv t) k s).2.1.toInt < n) ∧ ((mst (stp T rv t) k s).1 = 0 → IN6 T n (mst (stp T rv t) k s).2) := by
  intro k
  induction k with
  | zero => intro s hs; exact ⟨hs.1, fun _ => hs⟩
  | succ k ih =>
    intro s hs
    have q := stp_in (rv := rv) (t := t) hn hT hs
    have e : mst (stp T rv t) (k + 1) s = if (stp T rv t s).2.1 = true then mst (stp T rv t) k (stp T rv t s).2.2 else ((stp T rv t s).1, (stp T rv t s).2.2) := rfl
    rw [e]
    by_cases c : (stp T rv t s).2.1 = true
    · rw [if_pos c]
      exact ih _ (q.2.1 (q.2.2 c))
    · rw [if_neg c]
      exact ⟨q.1, q.2.1⟩
/-- held by a rat for good -/
theorem rnn_stuck {T : Nat → Nat → Int32} {rv : Int32 → SB → Int32} {wt : Int32 → Int32} {s : SB} (h : T 0 (ix s.1) = 3 ∧ ¬ T 3 (ix s.1) ≤ s.2.2) : ∀ (n : Nat) (t : Int32), rnn T rv wt n t s = -1 := by
  have e1 : ∀ t : Int32, stp T (rv t) t s = (0, false, s) := by
    intro t
    unfold stp
    rw [if_neg (fun z => by have := z.1; rw [h.1] at this; exact absurd this (by decide)), if_pos h]
  have e2 : ∀ (t : Int32) (k : Nat), mst (stp T (rv t) t) k s = (0, s) := by
    intro t k
    cases k with
    | zero => rfl
    | succ k =>
      show (if (stp T (rv t) t s).2.1 = true then _ else _) = _
      rw [e1]
      rfl
  intro n
  induction n with
  | zero => intro t; rfl
  | succ n ih =>
    intro t
    have e : rnn T rv wt (n + 1) t s = if (mst (stp T (rv t) t) (wt t).toInt.toNat s).1 = 1 then (mst (stp T (rv t) t) (wt t).toInt.toNat s).2.1 else if (mst (stp T (rv t) t) (wt t).toInt.toNat s).1 = 2 then -1 else rnn T rv wt n (t + 1) (mst (stp T (rv t) t) (wt t).toInt.toNat s).2 := rfl
    rw [e, e2, if_neg (show ¬ (0 : Int32) = 1 by decide), if_neg (show ¬ (0 : Int32) = 2 by decide)]
    exact ih (t + 1)
/-- the forks whose PLANK is looked at, bits -/
def mas (f : SB → Int32 × Bool × SB) (ab : SB → Int32) : Nat → SB → Int32 → Int32
  | 0, _, a => a
  | n + 1, s, a => if (f s).2.1 = true then mas f ab n (f s).2.2 (a ||| ab s) else a ||| ab s
def ras (T : Nat → Nat → Int32) (rv : Int32 → SB → Int32) (wt : Int32 → Int32) (ab : SB → Int32) : Nat → Int32 → SB → Int32 → Int32
  | 0, _, _, a => a
  | n + 1, t, s, a => if (mst (stp T (rv t) t) (wt t).toInt.toNat s).1 = 1 then mas (stp T (rv t) t) ab (wt t).toInt.toNat s a else if (mst (stp T (rv t) t) (wt t).toInt.toNat s).1 = 2 then mas (stp T (rv t) t) ab (wt t).toInt.toNat s a else ras T rv wt ab n (t + 1) (mst (stp T (rv t) t) (wt t).toInt.toNat s).2 (mas (stp T (rv t) t) ab (wt t).toInt.toNat s a)
theorem mas_up {f : SB → Int32 × Bool × SB} {ab : SB → Int32} {i : Nat} : ∀ (n : Nat) (s : SB) (a : Int32), bt a i = true → bt (mas f ab n s a) i = true := by
  intro n
  induction n with
  | zero => intro s a h; exact h
  | succ n ih =>
    intro s a h
    have h2 : bt (a ||| ab s) i = true := by rw [b_or, h]; rfl
    show bt (if (f s).2.1 = true then mas f ab n (f s).2.2 (a ||| ab s) else a ||| ab s) i = true
    by_cases c : (f s).2.1 = true
    · rw [if_pos c]; exact ih _ _ h2
    · rw [if_neg c]; exact h2
theorem ras_up {T : Nat → Nat → Int32} {rv : Int32 → SB → Int32} {wt : Int32 → Int32} {ab : SB → Int32} {i : Nat} : ∀ (n : Nat) (t : Int32) (s : SB) (a : Int32), bt a i = true → bt (ras T rv wt ab n t s a) i = true := by
  intro n
  induction n with
  | zero => intro t s a h; exact h
  | succ n ih =>
    intro t s a h
    have h2 := mas_up (f := stp T (rv t) t) (ab := ab) (wt t).toInt.toNat s a h
    show bt (if (mst (stp T (rv t) t) (wt t).toInt.toNat s).1 = 1 then mas (stp T (rv t) t) ab (wt t).toInt.toNat s a else if (mst (stp T (rv t) t) (wt t).toInt.toNat s).1 = 2 then mas (stp T (rv t) t) ab (wt t).toInt.toNat s a else ras T rv wt ab n (t + 1) (mst (stp T (rv t) t) (wt t).toInt.toNat s).2 (mas (stp T (rv t) t) ab (wt t).toInt.toNat s a)) i = true
    by_cases c : (mst (stp T (rv t) t) (wt t).toInt.toNat s).1 = 1
    · rw [if_pos c]; exact h2
    · rw [if_neg c]
      by_cases c2 : (mst (stp T (rv t) t) (wt t).toInt.toNat s).1 = 2
      · rw [if_pos c2]; exact h2
      · rw [if_neg c2]; exact ih _ _ _ h2
/-- two rules that agree wherever the first looks: the same run -/
theorem mst_two {f g : SB → Int32 × Bool × SB} {ab : SB → Int32} {X : Int32} (hfg : ∀ s, (∀ i, i < 32 → bt (ab s) i = true → bt X i = true) → f s = g s) : ∀ (n : Nat) (s : SB) (a : Int32), (∀ i, i < 32 → bt (mas f ab n s a) i = true → bt X i = true) → mst g n s = mst f n s ∧ mas g ab n s a = mas f ab n s a := by
  intro n
  induction n with
  | zero => intro s a _; exact ⟨rfl, rfl⟩
  | succ n ih =>
    intro s a hX
    have em : mas f ab (n + 1) s a = if (f s).2.1 = true then mas f ab n (f s).2.2 (a ||| ab s) else a ||| ab s := rfl
    have hs : f s = g s := hfg s (fun i hi hb => hX i hi (by
      have h2 : bt (a ||| ab s) i = true := by rw [b_or, hb, Bool.or_true]
      rw [em]
      by_cases c : (f s).2.1 = true
      · rw [if_pos c]; exact mas_up _ _ _ h2
      · rw [if_neg c]; exact h2))
    show (if (g s).2.1 = true then mst g n (g s).2.2 else ((g s).1, (g s).2.2)) = (if (f s).2.1 = true then mst f n (f s).2.2 else ((f s).1, (f s).2.2)) ∧ (if (g s).2.1 = true then mas g ab n (g s).2.2 (a ||| ab s) else a ||| ab s) = (if (f s).2.1 = true then mas f ab n (f s).2.2 (a ||| ab s) else a ||| ab s)
    rw [← hs]
    by_cases c : (f s).2.1 = true
    · rw [if_pos c, if_pos c, if_pos c, if_pos c]
      rw [em, if_pos c] at hX
      exact ih _ _ hX
    · rw [if_neg c, if_neg c, if_neg c, if_neg c]
      exact ⟨rfl, rfl⟩
theorem rnn_two {T : Nat → Nat → Int32} {rv rw2 : Int32 → SB → Int32} {wt : Int32 → Int32} {ab : SB → Int32} {X : Int32} (hfg : ∀ (t : Int32) (s : SB), (∀ i, i < 32 → bt (ab s) i = true → bt X i = true) → stp T (rv t) t s = stp T (rw2 t) t s) : ∀ (n : Nat) (t : Int32) (s : SB) (a : Int32), (∀ i, i < 32 → bt (ras T rv wt ab n t s a) i = true → bt X i = true) → rnn T rw2 wt n t s = rnn T rv wt n t s := by
  intro n
  induction n with
  | zero => intro t s a _; rfl
  | succ n ih =>
    intro t s a hX
    have er : ras T rv wt ab (n + 1) t s a = if (mst (stp T (rv t) t) (wt t).toInt.toNat s).1 = 1 then mas (stp T (rv t) t) ab (wt t).toInt.toNat s a else if (mst (stp T (rv t) t) (wt t).toInt.toNat s).1 = 2 then mas (stp T (rv t) t) ab (wt t).toInt.toNat s a else ras T rv wt ab n (t + 1) (mst (stp T (rv t) t) (wt t).toInt.toNat s).2 (mas (stp T (rv t) t) ab (wt t).toInt.toNat s a) := rfl
    have q := mst_two (hfg t) (wt t).toInt.toNat s a (fun i hi hb => hX i hi (by
      rw [er]
      by_cases c : (mst (stp T (rv t) t) (wt t).toInt.toNat s).1 = 1
      · rw [if_pos c]; exact hb
      · rw [if_neg c]
        by_cases c2 : (mst (stp T (rv t) t) (wt t).toInt.toNat s).1 = 2
        · rw [if_pos c2]; exact hb
        · rw [if_neg c2]; exact ras_up _ _ _ _ hb))
    show (if (mst (stp T (rw2 t) t) (wt t).toInt.toNat s).1 = 1 then (mst (stp T (rw2 t) t) (wt t).toInt.toNat s).2.1 else if (mst (stp T (rw2 t) t) (wt t).toInt.toNat s).1 = 2 then -1 else rnn T rw2 wt n (t + 1) (mst (stp T (rw2 t) t) (wt t).toInt.toNat s).2) = (if (mst (stp T (rv t) t) (wt t).toInt.toNat s).1 = 1 then (mst (stp T (rv t) t) (wt t).toInt.toNat s).2.1 else if (mst (stp T (rv t) t) (wt t).toInt.toNat s).1 = 2 then -1 else rnn T rv wt n (t + 1) (mst (stp T (rv t) t) (wt t).toInt.toNat s).2)
    rw [q.1]
    by_cases c1 : (mst (stp T (rv t) t) (wt t).toInt.toNat s).1 = 1
    · rw [if_pos c1, if_pos c1]
    · rw [if_neg c1, if_neg c1]
      by_cases c2 : (mst (stp T (rv t) t) (wt t).toInt.toNat s).1 = 2
      · rw [if_pos c2, if_pos c2]
      · rw [if_neg c2, if_neg c2]
        rw [er, if_neg c1, if_neg c2] at hX
        exact ih _ _ _ hX
