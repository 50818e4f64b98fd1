/-! THE SETS OF FORKS: their order, by the set behind a set, and by all numbers -/
def eb (b : Nat → Bool) : Nat → Nat
  | 0 => 0
  | n + 1 => if b n = true then eb b n + 2 ^ n else eb b n
def el (b : Nat → Bool) : Nat → List Nat
  | 0 => [0]
  | n + 1 => if b n = true then el b n ++ (el b n).map (· + 2 ^ n) else el b n
def ns (f s : Nat) : Nat := ((s + 4096 - f) % 4096) &&& f
theorem eb_lt (b : Nat → Bool) : ∀ n : Nat, eb b n < 2 ^ n := by
  intro n
  induction n with
  | zero => exact (by decide : (0 : Nat) < 2 ^ 0)
  | succ n ih =>
    show (if b n = true then eb b n + 2 ^ n else eb b n) < 2 ^ (n + 1)
    rw [Nat.pow_succ]
    split <;> omega
theorem el_le (b : Nat → Bool) : ∀ n : Nat, ∀ s, s ∈ el b n → s ≤ eb b n := by
  intro n
  induction n with
  | zero => intro s hs; rw [List.mem_singleton.mp hs]; exact Nat.le_refl _
  | succ n ih =>
    intro s hs
    have e1 : el b (n + 1) = if b n = true then el b n ++ (el b n).map (· + 2 ^ n) else el b n := rfl
    have e2 : eb b (n + 1) = if b n = true then eb b n + 2 ^ n else eb b n := rfl
    rw [e1] at hs
    rw [e2]
    by_cases c : b n = true
    · rw [if_pos c] at hs ⊢
      rcases List.mem_append.mp hs with h | h
      · have := ih s h
        have p2 := Nat.two_pow_pos n
        omega
      · obtain ⟨t, ht, e⟩ := List.mem_map.mp h
        have := ih t ht
        have e : t + 2 ^ n = s := e
        omega
    · rw [if_neg c] at hs ⊢
      exact ih s hs
theorem land_low {n x y f : Nat} (hf : f < 2 ^ n) (h : x % 2 ^ n = y % 2 ^ n) : x &&& f = y &&& f := by
  have a : ∀ z : Nat, z &&& f = (z % 2 ^ n) &&& f := fun z => by
    have l : z &&& f < 2 ^ n := Nat.and_lt_two_pow z hf
    have q := Nat.and_mod_two_pow (a := z) (b := f) (n := n)
    rw [Nat.mod_eq_of_lt l, Nat.mod_eq_of_lt hf] at q
    exact q
  rw [a x, a y, h]
theorem and_2p (x n : Nat) : x &&& 2 ^ n = if x.testBit n = true then 2 ^ n else 0 := by
  refine Nat.eq_of_testBit_eq (fun i => ?_)
  rw [Nat.testBit_and, Nat.testBit_two_pow]
  by_cases c : x.testBit n = true
  · rw [if_pos c, Nat.testBit_two_pow]
    by_cases d : n = i
    · rw [← d, c, Bool.true_and]
    · rw [decide_eq_false d, Bool.and_false]
  · rw [if_neg c, Nat.zero_testBit]
    by_cases d : n = i
    · rw [← d, Bool.eq_false_iff.mpr c, Bool.false_and]
    · rw [decide_eq_false d, Bool.and_false]
theorem land_top {n x f : Nat} (hf : f < 2 ^ n) : x &&& (f + 2 ^ n) = (x &&& f) + (if x.testBit n = true then 2 ^ n else 0) := by
  have l : x &&& f < 2 ^ n := Nat.and_lt_two_pow x hf
  have e1 : f + 2 ^ n = 2 ^ n ||| f := by
    have q := Nat.two_pow_add_eq_or_of_lt hf 1
    rw [Nat.mul_one] at q
    exact (Nat.add_comm f (2 ^ n)).trans q
  rw [e1, Nat.and_or_distrib_left, and_2p]
  by_cases c : x.testBit n = true
  · rw [if_pos c]
    have q := Nat.two_pow_add_eq_or_of_lt l 1
    rw [Nat.mul_one] at q
    rw [← q]
    exact Nat.add_comm _ _
  · rw [if_neg c, Nat.zero_or, Nat.add_zero]
theorem p12 {n : Nat} (h : n < 12) : (2 ^ n = 1 ∧ n = 0) ∨ (2 ^ n = 2 ∧ n = 1) ∨ (2 ^ n = 4 ∧ n = 2) ∨ (2 ^ n = 8 ∧ n = 3) ∨ (2 ^ n = 16 ∧ n = 4) ∨ (2 ^ n = 32 ∧ n = 5) ∨ (2 ^ n = 64 ∧ n = 6) ∨ (2 ^ n = 128 ∧ n = 7) ∨ (2 ^ n = 256 ∧ n = 8) ∨ (2 ^ n = 512 ∧ n = 9) ∨ (2 ^ n = 1024 ∧ n = 10) ∨ (2 ^ n = 2048 ∧ n = 11) := by
  rcases (show n = 0 ∨ n = 1 ∨ n = 2 ∨ n = 3 ∨ n = 4 ∨ n = 5 ∨ n = 6 ∨ n = 7 ∨ n = 8 ∨ n = 9 ∨ n = 10 ∨ n = 11 by omega) with rfl | rfl | rfl | rfl | rfl | rfl | rfl | rfl | rfl | rfl | rfl | rfl <;> decide
/-- a bit more on top: the set behind a set of the lower half, of its last, of the upper half -/
theorem ns_lo {n s f : Nat} (hn : n < 12) (hf : f < 2 ^ n) (hs : s < f) : ns (f + 2 ^ n) s = ns f s := by
  unfold ns
  rw [land_top hf]
  have hm : ((s + 4096 - (f + 2 ^ n)) % 4096) % 2 ^ n = ((s + 4096 - f) % 4096) % 2 ^ n := by
    rcases p12 hn with z | z | z | z | z | z | z | z | z | z | z | z <;> (rw [z.1] at hf ⊢; omega)
  have hb : ¬ ((s + 4096 - (f + 2 ^ n)) % 4096).testBit n = true := by
    rw [Nat.testBit_eq_decide_div_mod_eq, decide_eq_true_iff]
    rcases p12 hn with z | z | z | z | z | z | z | z | z | z | z | z <;> (rw [z.1] at hf ⊢; omega)
  rw [if_neg hb, land_low hf hm]
  rfl
theorem ns_mid {n f : Nat} (hn : n < 12) (hf : f < 2 ^ n) : ns (f + 2 ^ n) f = 2 ^ n := by
  unfold ns
  rw [land_top hf]
  have hm : ((f + 4096 - (f + 2 ^ n)) % 4096) % 2 ^ n = 0 % 2 ^ n := by
    rcases p12 hn with z | z | z | z | z | z | z | z | z | z | z | z <;> (rw [z.1] at hf ⊢; omega)
  have hb : ((f + 4096 - (f + 2 ^ n)) % 4096).testBit n = true := by
    rw [Nat.testBit_eq_decide_div_mod_eq, decide_eq_true_iff]
    rcases p12 hn with z | z | z | z | z | z | z | z | z | z | z | z <;> (rw [z.1] at hf ⊢; omega)
  rw [if_pos hb, land_low hf hm, Nat.zero_and]
  omega
theorem ns_hi {n s f : Nat} (hn : n < 12) (hf : f < 2 ^ n) (hs : s < f) : ns (f + 2 ^ n) (s + 2 ^ n) = ns f s + 2 ^ n := by
  unfold ns
  rw [land_top hf]
  have hm : ((s + 2 ^ n + 4096 - (f + 2 ^ n)) % 4096) = ((s + 4096 - f) % 4096) := by
    rcases p12 hn with z | z | z | z | z | z | z | z | z | z | z | z <;> (rw [z.1] at hf ⊢; omega)
  have hb : ((s + 4096 - f) % 4096).testBit n = true := by
    rw [Nat.testBit_eq_decide_div_mod_eq, decide_eq_true_iff]
    rcases p12 hn with z | z | z | z | z | z | z | z | z | z | z | z <;> (rw [z.1] at hf ⊢; omega)
  rw [hm, if_pos hb]
theorem ns_self {f : Nat} : ns f f = 0 := by
  unfold ns
  rw [show f + 4096 - f = 4096 by omega]
  exact Nat.zero_and f
/-- each the set behind the one ahead of it, z behind the last -/
def Ch (f z : Nat) : List Nat → Prop
  | [] => True
  | [s] => ns f s = z
  | s :: t :: r => ns f s = t ∧ Ch f z (t :: r)
theorem ch_app {f z y : Nat} {B : List Nat} : ∀ {A : List Nat}, Ch f y A → Ch f z (y :: B) → A ≠ [] → Ch f z (A ++ y :: B) := by
  intro A
  induction A with
  | nil => intro _ _ h; exact absurd rfl h
  | cons a A ih =>
    intro hA hB _
    cases A with
    | nil => exact ⟨hA, hB⟩
    | cons a2 A => exact ⟨hA.1, ih hA.2 hB (List.cons_ne_nil _ _)⟩
/-- a list from 0 to f, all in order -/
def OL (f : Nat) (L : List Nat) : Prop := (∃ r, L = 0 :: r) ∧ (∀ s, s ∈ L → s ≤ f) ∧ ∃ r, L = r ++ [f] ∧ ∀ s, s ∈ r → s < f
theorem ch_map {n f z : Nat} (hn : n < 12) (hf : f < 2 ^ n) : ∀ {A : List Nat}, Ch f 0 A → (∃ r, A = r ++ [f] ∧ ∀ s, s ∈ r → s < f) → (z = 2 ^ n → Ch (f + 2 ^ n) z A) ∧ Ch (f + 2 ^ n) 0 (A.map (· + 2 ^ n)) := by
  intro A
  induction A with
  | nil => intro _ _; exact ⟨fun _ => trivial, trivial⟩
  | cons a A ih =>
    intro h hr
    obtain ⟨r, er, hl⟩ := hr
    cases A with
    | nil =>
      have ea : a = f := by
        cases r with
        | nil => exact (List.cons.inj er).1
        | cons x r =>
          have := (List.cons.inj er).2
          cases r <;> cases this
      rw [ea]
      exact ⟨fun hz => by rw [hz]; exact ns_mid hn hf, by
        show ns (f + 2 ^ n) (f + 2 ^ n) = 0
        exact ns_self⟩
    | cons a2 A =>
      cases r with
      | nil => have := (List.cons.inj er).2; cases this
      | cons x r =>
        have e2 := (List.cons.inj er).2
        have ex := (List.cons.inj er).1
        have ha : a < f := by rw [ex]; exact hl x (List.mem_cons_self ..)
        have q := ih h.2 ⟨r, e2, fun s hs => hl s (List.mem_cons_of_mem _ hs)⟩
        refine ⟨fun hz => ⟨by rw [ns_lo hn hf ha]; exact h.1, q.1 hz⟩, ?_, q.2⟩
        show ns (f + 2 ^ n) (a + 2 ^ n) = a2 + 2 ^ n
        rw [ns_hi hn hf ha, h.1]
theorem el_ch (b : Nat → Bool) : ∀ n : Nat, n ≤ 12 → Ch (eb b n) 0 (el b n) ∧ OL (eb b n) (el b n) := by
  intro n
  induction n with
  | zero => intro _; exact ⟨ns_self, ⟨[], rfl⟩, fun s hs => by rw [List.mem_singleton.mp hs]; exact Nat.le_refl _, [], rfl, fun s hs => absurd hs (List.not_mem_nil)⟩
  | succ n ih =>
    intro hn
    obtain ⟨h1, ⟨r0, e0⟩, h2, r1, e1, h3⟩ := ih (by omega)
    have a1 : el b (n + 1) = if b n = true then el b n ++ (el b n).map (· + 2 ^ n) else el b n := rfl
    have a2 : eb b (n + 1) = if b n = true then eb b n + 2 ^ n else eb b n := rfl
    by_cases c : b n = true
    · rw [if_pos c] at a1 a2
      have hp : 0 < 2 ^ n := Nat.two_pow_pos n
      obtain ⟨q1, q2⟩ := ch_map (z := 2 ^ n) (by omega) (eb_lt b n) h1 ⟨r1, e1, h3⟩
      have em : (el b n).map (· + 2 ^ n) = 2 ^ n :: r0.map (· + 2 ^ n) := by
        rw [e0]
        show (0 + 2 ^ n) :: _ = _
        rw [Nat.zero_add]
      have hall := el_le b (n + 1)
      rw [a1, a2] at hall ⊢
      refine ⟨?_, ⟨r0 ++ (el b n).map (· + 2 ^ n), by
        rw [e0]
        rfl⟩, hall, el b n ++ r1.map (· + 2 ^ n), ?_, fun s hs => ?_⟩
      · rw [em] at q2 ⊢
        exact ch_app (q1 rfl) q2 (by rw [e0]; exact List.cons_ne_nil _ _)
      · have e2 : (el b n).map (· + 2 ^ n) = r1.map (· + 2 ^ n) ++ [eb b n + 2 ^ n] := by
          rw [e1, List.map_append]
          rfl
        rw [e2, List.append_assoc]
      · rcases List.mem_append.mp hs with g | g
        · have := h2 s g
          omega
        · obtain ⟨t, ht, e⟩ := List.mem_map.mp g
          have := h3 t ht
          have e : t + 2 ^ n = s := e
          omega
    · rw [if_neg c] at a1 a2
      rw [a1, a2]
      exact ⟨h1, ⟨r0, e0⟩, h2, r1, e1, h3⟩
/-- numbers from lo on that p takes -/
def ff (p : Nat → Bool) : Nat → Nat → List Nat
  | _, 0 => []
  | lo, c + 1 => if p lo = true then lo :: ff p (lo + 1) c else ff p (lo + 1) c
theorem ff_add (p : Nat → Bool) : ∀ (c lo d : Nat), ff p lo (c + d) = ff p lo c ++ ff p (lo + c) d := by
  intro c
  induction c with
  | zero => intro lo d; rw [Nat.zero_add, Nat.add_zero]; rfl
  | succ c ih =>
    intro lo d
    rw [show c + 1 + d = (c + d) + 1 by omega]
    show (if p lo = true then lo :: ff p (lo + 1) (c + d) else ff p (lo + 1) (c + d)) = (if p lo = true then lo :: ff p (lo + 1) c else ff p (lo + 1) c) ++ ff p (lo + (c + 1)) d
    rw [ih, show lo + 1 + c = lo + (c + 1) by omega]
    split <;> rfl
theorem ff_eq {p q : Nat → Bool} : ∀ (c lo : Nat), (∀ i, lo ≤ i → i < lo + c → p i = q i) → ff p lo c = ff q lo c := by
  intro c
  induction c with
  | zero => intro lo _; rfl
  | succ c ih =>
    intro lo h
    show (if p lo = true then lo :: ff p (lo + 1) c else ff p (lo + 1) c) = (if q lo = true then lo :: ff q (lo + 1) c else ff q (lo + 1) c)
    rw [h lo (by omega) (by omega), ih (lo + 1) (fun i h1 h2 => h i (by omega) (by omega))]
theorem ff_none {p : Nat → Bool} : ∀ (c lo : Nat), (∀ i, lo ≤ i → i < lo + c → p i = false) → ff p lo c = [] := by
  intro c
  induction c with
  | zero => intro lo _; rfl
  | succ c ih =>
    intro lo h
    show (if p lo = true then lo :: ff p (lo + 1) c else ff p (lo + 1) c) = []
    rw [h lo (by omega) (by omega), if_neg (by decide)]
    exact ih (lo + 1) (fun i h1 h2 => h i (by omega) (by omega))
theorem ff_map {p q : Nat → Bool} {k : Nat} : ∀ (c lo : Nat), (∀ i, lo ≤ i → i < lo + c → p (i + k) = q i) → ff p (lo + k) c = (ff q lo c).map (· + k) := by
  intro c
  induction c with
  | zero => intro lo _; rfl
  | succ c ih =>
    intro lo h
    show (if p (lo + k) = true then (lo + k) :: ff p (lo + k + 1) c else ff p (lo + k + 1) c) = (if q lo = true then lo :: ff q (lo + 1) c else ff q (lo + 1) c).map (· + k)
    rw [h lo (by omega) (by omega), show lo + k + 1 = lo + 1 + k by omega, ih (lo + 1) (fun i h1 h2 => h i (by omega) (by omega))]
    split <;> rfl
theorem sub_top {n f s : Nat} (hf : f < 2 ^ n) (hs : s < 2 ^ n) : (s &&& (f + 2 ^ n) = s ↔ s &&& f = s) ∧ ((s + 2 ^ n) &&& (f + 2 ^ n) = s + 2 ^ n ↔ s &&& f = s) ∧ ¬ (s + 2 ^ n) &&& f = s + 2 ^ n := by
  have t1 : ¬ s.testBit n = true := by
    rw [Nat.testBit_eq_decide_div_mod_eq, decide_eq_true_iff, Nat.div_eq_of_lt hs]
    decide
  have t2 : (s + 2 ^ n).testBit n = true := by
    rw [Nat.testBit_eq_decide_div_mod_eq, decide_eq_true_iff, Nat.add_div_right _ (Nat.two_pow_pos n), Nat.div_eq_of_lt hs]
  have e : (s + 2 ^ n) &&& f = s &&& f := land_low hf (by rw [Nat.add_mod_right])
  have l : s &&& f < 2 ^ n := Nat.and_lt_two_pow s hf
  refine ⟨?_, ?_, ?_⟩
  · rw [land_top hf, if_neg t1, Nat.add_zero]
  · rw [land_top hf, if_pos t2, e]
    omega
  · rw [e]
    omega
theorem el_ff (b : Nat → Bool) : ∀ n : Nat, ff (fun s => decide (s &&& eb b n = s)) 0 (2 ^ n) = el b n := by
  intro n
  induction n with
  | zero => exact (by decide : ff (fun s => decide (s &&& 0 = s)) 0 1 = [0])
  | succ n ih =>
    have a1 : el b (n + 1) = if b n = true then el b n ++ (el b n).map (· + 2 ^ n) else el b n := rfl
    have a2 : eb b (n + 1) = if b n = true then eb b n + 2 ^ n else eb b n := rfl
    have hf := eb_lt b n
    rw [a1, a2, Nat.pow_succ, show 2 ^ n * 2 = 2 ^ n + 2 ^ n by omega, ff_add]
    by_cases c : b n = true
    · rw [if_pos c, if_pos c]
      congr 1
      · rw [← ih]
        refine ff_eq _ _ (fun i _ hi => ?_)
        have := (sub_top hf (s := i) (by omega)).1
        exact decide_eq_decide.mpr this
      · rw [← ih]
        refine ff_map (q := fun s => decide (s &&& eb b n = s)) _ 0 (fun i _ hi => ?_)
        have := (sub_top hf (s := i) (by omega)).2.1
        exact decide_eq_decide.mpr this
    · rw [if_neg c, if_neg c]
      rw [ff_none (2 ^ n) (0 + 2 ^ n) (fun i h1 h2 => ?_), List.append_nil]
      · exact ih
      · have q := (sub_top hf (s := i - 2 ^ n) (by omega)).2.2
        rw [show i - 2 ^ n + 2 ^ n = i by omega] at q
        exact decide_eq_false q
/-- the numbers up to f alone -/
theorem el_up (b : Nat → Bool) (n : Nat) : ff (fun s => decide (s &&& eb b n = s)) 0 (eb b n + 1) = el b n := by
  have h := el_ff b n
  have hf := eb_lt b n
  rw [show 2 ^ n = (eb b n + 1) + (2 ^ n - (eb b n + 1)) by omega, ff_add, ff_none (2 ^ n - (eb b n + 1)) (0 + (eb b n + 1)) (fun i h1 _ => ?_), List.append_nil] at h
  · exact h
  · refine decide_eq_false (fun z => ?_)
    have : i &&& eb b n ≤ eb b n := Nat.and_le_right
    omega
