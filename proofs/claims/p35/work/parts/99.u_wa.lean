/-! THE RULE: an automaton, a sign a step -/
def ft (v : Int) : Int := if v = 112 then 0 else if v = 109 then 1 else if v = 119 then 2 else if v = 105 then 3 else if v = 98 then 4 else if v = 99 then 5 else if v = 110 then 6 else if v = 102 then 7 else -1
def jc (v : Int) : Int := if v = 60 then 2000 else if v = 62 then 2001 else if v = 61 then 2002 else if v = 43 then 2003 else if v = 45 then 2004 else if v = 42 then 2005 else if v = 47 then 2006 else -1
def rk (x : Int) : Int := if x = 3000 then 4 else if x = 2005 ∨ x = 2006 then 3 else if x = 2003 ∨ x = 2004 then 2 else 1
theorem rk_rng (x : Int) : 1 ≤ rk x ∧ rk x ≤ 4 := by
  unfold rk
  split
  · omega
  · split
    · omega
    · split <;> omega
theorem ft_rng (v : Int) : -1 ≤ ft v ∧ ft v ≤ 7 := by
  unfold ft
  repeat (first | omega | split)
/-- which joint a sign is -/
theorem jc_cs (v : Int) : (jc v = 2000 ∧ v = 60) ∨ (jc v = 2001 ∧ v = 62) ∨ (jc v = 2002 ∧ v = 61) ∨ (jc v = 2003 ∧ v = 43) ∨ (jc v = 2004 ∧ v = 45) ∨ (jc v = 2005 ∧ v = 42) ∨ (jc v = 2006 ∧ v = 47) ∨ (jc v = -1 ∧ v ≠ 60 ∧ v ≠ 62 ∧ v ≠ 61 ∧ v ≠ 43 ∧ v ≠ 45 ∧ v ≠ 42 ∧ v ≠ 47) := by
  unfold jc
  repeat (first | omega | split)
theorem rk_jc {v : Int} (h : 0 ≤ jc v) : (rk (jc v) = 1 ∧ (v = 60 ∨ v = 62 ∨ v = 61)) ∨ (rk (jc v) = 2 ∧ (v = 43 ∨ v = 45)) ∨ (rk (jc v) = 3 ∧ (v = 42 ∨ v = 47)) := by
  rcases jc_cs v with z | z | z | z | z | z | z | z
  all_goals (first | omega | (rw [z.1]; unfold rk; omega))
/-- all that is held goes out, the last first -/
def rla : List Int → List Int → List Int
  | [], o => o
  | x :: P, o => rla P (x :: o)
def rel (q : Int) : List Int → List Int → List Int × List Int
  | [], o => ([], o)
  | x :: P, o => if q ≤ rk x then rel q P (x :: o) else (x :: P, o)
theorem rla_app (x : Int) : ∀ P o : List Int, rla (P ++ [x]) o = x :: rla P o := by
  intro P
  induction P with
  | nil => intro o; rfl
  | cons y P ih => intro o; exact ih (y :: o)
theorem rel_app {q : Int} {H : List Int} (hH : ∀ x T, H = x :: T → ¬ q ≤ rk x) : ∀ P o : List Int, (∀ x, x ∈ P → q ≤ rk x) → rel q (P ++ H) o = (H, rla P o) := by
  intro P
  induction P with
  | nil =>
    intro o _
    cases H with
    | nil => rfl
    | cons x T =>
      show (if q ≤ rk x then rel q T (x :: o) else (x :: T, o)) = (x :: T, o)
      rw [if_neg (hH x T rfl)]
  | cons y P ih =>
    intro o h
    show (if q ≤ rk y then rel q (P ++ H) (y :: o) else (y :: (P ++ H), o)) = (H, rla P (y :: o))
    rw [if_pos (h y (List.mem_cons_self ..))]
    exact ih (y :: o) (fun x hx => h x (List.mem_cons_of_mem _ hx))
theorem rel_0 : ∀ P o : List Int, rel 0 P o = ([], rla P o) := by
  intro P o
  have h := rel_app (q := 0) (H := []) (fun x T e => by cases e) P o (fun x _ => by have := rk_rng x; omega)
  rw [List.append_nil] at h
  exact h
/-- wants a thing; digits; a frame for each ( : compared, held; what went out, the last first -/
abbrev Qs : Type := Bool × Int × List (Bool × List Int) × List Int
def st (q : Qs) (v : Int) : Option Qs :=
  match q with
  | (true, d, F, out) => if 0 ≤ ft v then some (false, 3, F, (1000 + ft v) :: out) else if 0 ≤ dg4 v then some (false, 1, F, dg4 v :: out) else if v = 45 then (match F with | [] => none | (c, H) :: S => some (true, d, (c, 3000 :: H) :: S, out)) else if v = 40 ∧ F.length ≤ 4 then some (true, d, (false, []) :: F, out) else none
  | (false, _, [], _) => none
  | (false, d, (c, H) :: S, out) => if 0 ≤ dg4 v then (if d < 3 then (match out with | [] => none | n :: o => some (false, d + 1, (c, H) :: S, (10 * n + dg4 v) :: o)) else none) else if v = 41 then (if S = [] then none else some (false, 3, S, (rel 0 H out).2)) else if 0 ≤ jc v then (if rk (jc v) = 1 ∧ c = true then none else some (true, d, (c || decide (rk (jc v) = 1), jc v :: (rel (rk (jc v)) H out).1) :: S, (rel (rk (jc v)) H out).2)) else none
def fin6 (q : Qs) : Prop := q.1 = false ∧ q.2.2.1.length = 1
def rn (K : Int → Int) : Nat → Int → Qs → Option Qs
  | 0, _, q => some q
  | n + 1, A, q => (st q (K A)).bind (rn K n (A + 1))
theorem rn_1 {K : Int → Int} {A : Int} {q q1 : Qs} (h : st q (K A) = some q1) : rn K 1 A q = some q1 := by
  show (st q (K A)).bind (rn K 0 (A + 1)) = some q1
  rw [h]
  rfl
theorem rn_add {K : Int → Int} : ∀ {n m : Nat} {A : Int} {q q1 : Qs}, rn K n A q = some q1 → rn K (n + m) A q = rn K m (A + n) q1 := by
  intro n
  induction n with
  | zero =>
    intro m A q q1 h
    have e : q = q1 := Option.some.inj h
    rw [e, Nat.zero_add, show A + ((0 : Nat) : Int) = A by omega]
  | succ n ih =>
    intro m A q q1 h
    have h : (st q (K A)).bind (rn K n (A + 1)) = some q1 := h
    rw [show n + 1 + m = (n + m) + 1 by omega]
    show (st q (K A)).bind (rn K (n + m) (A + 1)) = _
    cases hs : st q (K A) with
    | none => rw [hs] at h; cases h
    | some q2 =>
      rw [hs] at h
      show rn K (n + m) (A + 1) q2 = _
      rw [ih (m := m) h, show A + 1 + (n : Int) = A + ((n + 1 : Nat) : Int) by omega]
section ST6
variable {d : Int} {c : Bool} {H out : List Int} {S : List (Bool × List Int)} {v : Int}
theorem st_fact {F : List (Bool × List Int)} (h : 0 ≤ ft v) : st (true, d, F, out) v = some (false, 3, F, (1000 + ft v) :: out) := by
  show (if 0 ≤ ft v then _ else _) = _
  rw [if_pos h]
theorem st_dig {F : List (Bool × List Int)} (h1 : ¬ 0 ≤ ft v) (h2 : 0 ≤ dg4 v) : st (true, d, F, out) v = some (false, 1, F, dg4 v :: out) := by
  show (if 0 ≤ ft v then _ else _) = _
  rw [if_neg h1, if_pos h2]
theorem ft_dg (h : 0 ≤ dg4 v) : ¬ 0 ≤ ft v := by
  unfold dg4 at h
  by_cases c : 48 ≤ v ∧ v ≤ 57
  · unfold ft
    repeat (first | omega | split)
  · rw [if_neg c] at h
    omega
theorem st_negv (h : v = 45) : st (true, d, (c, H) :: S, out) v = some (true, d, (c, 3000 :: H) :: S, out) := by
  show (if 0 ≤ ft v then _ else _) = _
  rw [if_neg (by rw [h]; decide), if_neg (by rw [h]; decide), if_pos h]
theorem st_neg : st (true, d, (c, H) :: S, out) 45 = some (true, d, (c, 3000 :: H) :: S, out) := st_negv rfl
theorem st_openv {F : List (Bool × List Int)} (hv : v = 40) (h : F.length ≤ 4) : st (true, d, F, out) v = some (true, d, (false, []) :: F, out) := by
  show (if 0 ≤ ft v then _ else _) = _
  rw [if_neg (by rw [hv]; decide), if_neg (by rw [hv]; decide), if_neg (by rw [hv]; decide), if_pos ⟨hv, h⟩]
theorem st_open {F : List (Bool × List Int)} (h : F.length ≤ 4) : st (true, d, F, out) 40 = some (true, d, (false, []) :: F, out) := st_openv rfl h
theorem st_wno {F : List (Bool × List Int)} (h1 : ¬ 0 ≤ ft v) (h2 : ¬ 0 ≤ dg4 v) (h3 : v ≠ 45) (h4 : ¬ (v = 40 ∧ F.length ≤ 4)) : st (true, d, F, out) v = none := by
  show (if 0 ≤ ft v then _ else _) = _
  rw [if_neg h1, if_neg h2, if_neg h3, if_neg h4]
theorem st_len {n : Int} {o : List Int} (h2 : 0 ≤ dg4 v) (h : d < 3) : st (false, d, (c, H) :: S, n :: o) v = some (false, d + 1, (c, H) :: S, (10 * n + dg4 v) :: o) := by
  show (if 0 ≤ dg4 v then _ else _) = _
  rw [if_pos h2, if_pos h]
theorem st_closev (hv : v = 41) (h : S ≠ []) : st (false, d, (c, H) :: S, out) v = some (false, 3, S, rla H out) := by
  show (if 0 ≤ dg4 v then _ else _) = _
  rw [if_neg (by rw [hv]; decide), if_pos hv, if_neg h, rel_0]
theorem st_close (h : S ≠ []) : st (false, d, (c, H) :: S, out) 41 = some (false, 3, S, rla H out) := st_closev rfl h
theorem jc_dg (h : 0 ≤ jc v) : ¬ 0 ≤ dg4 v ∧ v ≠ 41 := by
  have := jc_cs v
  unfold dg4
  by_cases c : 48 ≤ v ∧ v ≤ 57
  · omega
  · rw [if_neg c]
    omega
theorem st_joint {P : List Int} (h : 0 ≤ jc v) (hc : ¬ (rk (jc v) = 1 ∧ c = true)) (hP : ∀ x, x ∈ P → rk (jc v) ≤ rk x) (hH : ∀ x T, H = x :: T → ¬ rk (jc v) ≤ rk x) : st (false, d, (c, P ++ H) :: S, out) v = some (true, d, (c || decide (rk (jc v) = 1), jc v :: H) :: S, rla P out) := by
  have g := jc_dg h
  show (if 0 ≤ dg4 v then _ else _) = _
  rw [if_neg g.1, if_neg g.2, if_pos h, if_neg hc, rel_app hH P out hP]
/-- behind a thing: no sign that could go on -/
theorem st_bno (h1 : 0 ≤ dg4 v → 3 ≤ d) (h2 : v = 41 → S = []) (h3 : 0 ≤ jc v → rk (jc v) = 1 ∧ c = true) : st (false, d, (c, H) :: S, out) v = none := by
  show (if 0 ≤ dg4 v then _ else _) = _
  by_cases a : 0 ≤ dg4 v
  · rw [if_pos a, if_neg (by have := h1 a; omega)]
  · rw [if_neg a]
    by_cases b : v = 41
    · rw [if_pos b, if_pos (h2 b)]
    · rw [if_neg b]
      by_cases e : 0 ≤ jc v
      · rw [if_pos e, if_pos (h3 e)]
      · rw [if_neg e]
end ST6
/-- what a text tells: 0, or -1 - the sign that can't stand -/
def ra (K : Int → Int) (L : Int) : Nat → Int → Qs → Int
  | 0, A, _ => -1 - A
  | f + 1, A, q => if L ≤ A then (if q.1 = false ∧ q.2.2.1.length = 1 then 0 else -1 - A) else match st q (K A) with | none => -1 - A | some q1 => ra K L f (A + 1) q1
/-- where it ends, in the state that it comes to -/
theorem ra_rn {K : Int → Int} {L : Int} : ∀ {n f : Nat} {A : Int} {q q1 : Qs}, rn K n A q = some q1 → A + n ≤ L → ra K L (n + f) A q = ra K L f (A + n) q1 := by
  intro n
  induction n with
  | zero =>
    intro f A q q1 h _
    have e : q = q1 := Option.some.inj h
    rw [e, Nat.zero_add, show A + ((0 : Nat) : Int) = A by omega]
  | succ n ih =>
    intro f A q q1 h hL
    have h : (st q (K A)).bind (rn K n (A + 1)) = some q1 := h
    rw [show n + 1 + f = (n + f) + 1 by omega]
    show (if L ≤ A then _ else _) = _
    rw [if_neg (by omega)]
    cases hs : st q (K A) with
    | none => rw [hs] at h; cases h
    | some q2 =>
      rw [hs] at h
      show ra K L (n + f) (A + 1) q2 = _
      rw [ih (f := f) h (by omega), show A + 1 + (n : Int) = A + ((n + 1 : Nat) : Int) by omega]
theorem lk_two40 {t t1 : Nat → Int32} {L : Int32} (h0 : 0 ≤ L.toInt) (h : ∀ k : Nat, (k : Int) < L.toInt → t k = t1 k) : lk t (imin 40 L).toInt = lk t1 (imin L 40).toInt := by
  have a := imin_c 40 L
  have b := imin_c L 40
  have l40 : (40 : Int32).toInt = 40 := rfl
  have e : (imin 40 L).toInt = (imin L 40).toInt := by omega
  funext i
  unfold lk
  rw [e]
  by_cases c : 0 ≤ i ∧ i < (imin L 40).toInt
  · rw [if_pos c, if_pos c, h i.toNat (by omega)]
  · rw [if_neg c, if_neg c]
