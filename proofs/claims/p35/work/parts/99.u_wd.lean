/-! how much goes out: a sign, one at most -/
def hsz : List (Bool × List Int) → Nat
  | [] => 0
  | x :: S => x.2.length + hsz S
theorem rla_len : ∀ P o : List Int, (rla P o).length = P.length + o.length := by
  intro P
  induction P with
  | nil => intro o; show o.length = 0 + o.length; omega
  | cons x P ih =>
    intro o
    show (rla P (x :: o)).length = P.length + 1 + o.length
    rw [ih]
    show P.length + (o.length + 1) = _
    omega
theorem rel_len0 {q : Int} : ∀ H o : List Int, (rel q H o).1.length + (rel q H o).2.length = H.length + o.length := by
  intro H
  induction H with
  | nil => intro o; rfl
  | cons x H ih =>
    intro o
    have e : rel q (x :: H) o = if q ≤ rk x then rel q H (x :: o) else (x :: H, o) := rfl
    rw [e]
    by_cases c : q ≤ rk x
    · rw [if_pos c, ih]
      show H.length + (o.length + 1) = H.length + 1 + o.length
      omega
    · rw [if_neg c]
theorem st_mz {q q1 : Qs} {v : Int} (h : st q v = some q1) : q1.2.2.2.length + hsz q1.2.2.1 ≤ q.2.2.2.length + hsz q.2.2.1 + 1 := by
  obtain ⟨w, d, F, out⟩ := q
  cases w with
  | true =>
    have h : (if 0 ≤ ft v then some ((false, 3, F, (1000 + ft v) :: out) : Qs) else if 0 ≤ dg4 v then some (false, 1, F, dg4 v :: out) else if v = 45 then (match (generalizing := false) F with | [] => none | (c, H) :: S => some (true, d, (c, 3000 :: H) :: S, out)) else if v = 40 ∧ F.length ≤ 4 then some (true, d, (false, []) :: F, out) else none) = some q1 := h
    by_cases c1 : 0 ≤ ft v
    · rw [if_pos c1] at h
      rw [← Option.some.inj h]
      show out.length + 1 + hsz F ≤ out.length + hsz F + 1
      omega
    · rw [if_neg c1] at h
      by_cases c2 : 0 ≤ dg4 v
      · rw [if_pos c2] at h
        rw [← Option.some.inj h]
        show out.length + 1 + hsz F ≤ out.length + hsz F + 1
        omega
      · rw [if_neg c2] at h
        by_cases c3 : v = 45
        · rw [if_pos c3] at h
          cases F with
          | nil => cases h
          | cons x S =>
            obtain ⟨c, H⟩ := x
            rw [← Option.some.inj h]
            show out.length + (H.length + 1 + hsz S) ≤ out.length + (H.length + hsz S) + 1
            omega
        · rw [if_neg c3] at h
          by_cases c4 : v = 40 ∧ F.length ≤ 4
          · rw [if_pos c4] at h
            rw [← Option.some.inj h]
            show out.length + (0 + hsz F) ≤ out.length + hsz F + 1
            omega
          · rw [if_neg c4] at h
            cases h
  | false =>
    cases F with
    | nil => cases h
    | cons x S =>
      obtain ⟨c, H⟩ := x
      have h : (if 0 ≤ dg4 v then (if d < 3 then (match (generalizing := false) out with | [] => none | n :: o => some ((false, d + 1, (c, H) :: S, (10 * n + dg4 v) :: o) : Qs)) else none) else if v = 41 then (if S = [] then none else some (false, 3, S, (rel 0 H out).2)) else if 0 ≤ jc v then (if rk (jc v) = 1 ∧ c = true then none else some (true, d, (c || decide (rk (jc v) = 1), jc v :: (rel (rk (jc v)) H out).1) :: S, (rel (rk (jc v)) H out).2)) else none) = some q1 := h
      by_cases c1 : 0 ≤ dg4 v
      · rw [if_pos c1] at h
        by_cases c2 : d < 3
        · rw [if_pos c2] at h
          cases out with
          | nil => cases h
          | cons n o =>
            rw [← Option.some.inj h]
            show o.length + 1 + (H.length + hsz S) ≤ o.length + 1 + (H.length + hsz S) + 1
            omega
        · rw [if_neg c2] at h
          cases h
      · rw [if_neg c1] at h
        by_cases c2 : v = 41
        · rw [if_pos c2] at h
          by_cases c3 : S = []
          · rw [if_pos c3] at h
            cases h
          · rw [if_neg c3] at h
            rw [← Option.some.inj h]
            show (rel 0 H out).2.length + hsz S ≤ out.length + (H.length + hsz S) + 1
            have g := rel_len0 (q := 0) H out
            omega
        · rw [if_neg c2] at h
          by_cases c3 : 0 ≤ jc v
          · rw [if_pos c3] at h
            by_cases c4 : rk (jc v) = 1 ∧ c = true
            · rw [if_pos c4] at h
              cases h
            · rw [if_neg c4] at h
              rw [← Option.some.inj h]
              show (rel (rk (jc v)) H out).2.length + ((rel (rk (jc v)) H out).1.length + 1 + hsz S) ≤ out.length + (H.length + hsz S) + 1
              have g := rel_len0 (q := rk (jc v)) H out
              omega
          · rw [if_neg c3] at h
            cases h
theorem rn_mz {K : Int → Int} : ∀ {n : Nat} {A : Int} {q q1 : Qs}, rn K n A q = some q1 → q1.2.2.2.length + hsz q1.2.2.1 ≤ q.2.2.2.length + hsz q.2.2.1 + n := by
  intro n
  induction n with
  | zero =>
    intro A q q1 h
    have e : q = q1 := Option.some.inj h
    rw [e]
    omega
  | succ n ih =>
    intro A q q1 h
    have h : (st q (K A)).bind (rn K n (A + 1)) = some q1 := h
    cases hs : st q (K A) with
    | none => rw [hs] at h; cases h
    | some q2 =>
      rw [hs] at h
      have a := st_mz hs
      have b := ih (q := q2) h
      omega
