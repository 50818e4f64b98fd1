/-! THE CODES, THE FISH: what holds between calls -/
theorem rel_ge {q : Int} : ∀ P o : List Int, o.length ≤ (rel q P o).2.length := by
  intro P
  induction P with
  | nil => intro o; exact Nat.le_refl _
  | cons x P ih =>
    intro o
    show o.length ≤ (if q ≤ rk x then rel q P (x :: o) else (x :: P, o)).2.length
    by_cases c : q ≤ rk x
    · rw [if_pos c]
      have := ih (x :: o)
      have hl : (x :: o).length = o.length + 1 := rfl
      omega
    · rw [if_neg c]
      exact Nat.le_refl _
def NQ (q : Qs) : Prop := q.1 = false → 0 < q.2.2.2.length
theorem st_nq {q q1 : Qs} {v : Int} (h : st q v = some q1) (hq : NQ q) : NQ q1 := by
  obtain ⟨w, d, F, out⟩ := q
  cases w with
  | true =>
    have h : (if 0 ≤ ft v then some ((false, 3, F, (1000 + ft v) :: out) : Qs) else if 0 ≤ dg4 v then some (false, 1, F, dg4 v :: out) else if v = 45 then (match (generalizing := false) F with | [] => none | (c, H) :: S => some (true, d, (c, 3000 :: H) :: S, out)) else if v = 40 ∧ F.length ≤ 4 then some (true, d, (false, []) :: F, out) else none) = some q1 := h
    by_cases c1 : 0 ≤ ft v
    · rw [if_pos c1] at h
      rw [← Option.some.inj h]
      intro _
      exact Nat.succ_pos _
    · rw [if_neg c1] at h
      by_cases c2 : 0 ≤ dg4 v
      · rw [if_pos c2] at h
        rw [← Option.some.inj h]
        intro _
        exact Nat.succ_pos _
      · rw [if_neg c2] at h
        by_cases c3 : v = 45
        · rw [if_pos c3] at h
          cases F with
          | nil => cases h
          | cons x S =>
            obtain ⟨c, H⟩ := x
            rw [← Option.some.inj h]
            intro z
            exact absurd z (show ¬ true = false by decide)
        · rw [if_neg c3] at h
          by_cases c4 : v = 40 ∧ F.length ≤ 4
          · rw [if_pos c4] at h
            rw [← Option.some.inj h]
            intro z
            exact absurd z (show ¬ true = false by decide)
          · rw [if_neg c4] at h
            cases h
  | false =>
    have h0 : 0 < out.length := hq rfl
    cases F with
    | nil => cases h
    | cons x S =>
      obtain ⟨c, H⟩ := x
      have h : (if 0 ≤ dg4 v then (if d < 3 then (match (generalizing := false) out with | [] => none | n :: o => some ((false, d + 1, (c, H) :: S, (10 * n + dg4 v) :: o) : Qs)) else none) else if v = 41 then (if S = [] then none else some (false, 3, S, (rel 0 H out).2)) else if 0 ≤ jc v then (if rk (jc v) = 1 ∧ c = true then none else some (true, d, (c || decide (rk (jc v) = 1), jc v :: (rel (rk (jc v)) H out).1) :: S, (rel (rk (jc v)) H out).2)) else none) = some q1 := h
      by_cases c1 : 0 ≤ dg4 v
      · rw [if_pos c1] at h
        by_cases c2 : d < 3
        · rw [if_pos c2] at h
          cases out with
          | nil => cases h
          | cons n o =>
            rw [← Option.some.inj h]
            intro _
            exact Nat.succ_pos _
        · rw [if_neg c2] at h
          cases h
      · rw [if_neg c1] at h
        by_cases c2 : v = 41
        · rw [if_pos c2] at h
          by_cases c3 : S = []
          · rw [if_pos c3] at h
            cases h
          · rw [if_neg c3] at h
            rw [← Option.some.inj h]
            intro _
            show 0 < (rel 0 H out).2.length
            have := rel_ge (q := 0) H out
            omega
        · rw [if_neg c2] at h
          by_cases c3 : 0 ≤ jc v
          · rw [if_pos c3] at h
            by_cases c4 : rk (jc v) = 1 ∧ c = true
            · rw [if_pos c4] at h
              cases h
            · rw [if_neg c4] at h
              rw [← Option.some.inj h]
              intro z
              exact absurd z (show ¬ true = false by decide)
          · rw [if_neg c3] at h
            cases h
theorem rf_ne {K : Int → Int} {L : Int} (hL : 0 ≤ L) : ∀ (f : Nat) (A : Int) (q : Qs), 0 ≤ A → 0 ≤ ra K L f A q → NQ q → 0 < (rf K L f A q).length := by
  intro f
  induction f with
  | zero =>
    intro A q hA h _
    have h : 0 ≤ -1 - A := h
    omega
  | succ f ih =>
    intro A q hA h hq
    have h : 0 ≤ (if L ≤ A then (if q.1 = false ∧ q.2.2.1.length = 1 then 0 else -1 - A) else match st q (K A) with | none => -1 - A | some q1 => ra K L f (A + 1) q1) := h
    show 0 < (if L ≤ A then (match q.2.2.1 with | [] => [] | x :: _ => rla x.2 q.2.2.2) else match st q (K A) with | none => [] | some q1 => rf K L f (A + 1) q1).length
    by_cases c : L ≤ A
    · rw [if_pos c] at h ⊢
      by_cases d : q.1 = false ∧ q.2.2.1.length = 1
      · have h0 := hq d.1
        cases hF : q.2.2.1 with
        | nil => rw [hF] at d; exact absurd d.2 (by decide)
        | cons x S =>
          show 0 < (rla x.2 q.2.2.2).length
          rw [rla_len]
          omega
      · rw [if_neg d] at h
        omega
    · rw [if_neg c] at h ⊢
      cases hs : st q (K A) with
      | none =>
        rw [hs] at h
        have h : 0 ≤ -1 - A := h
        omega
      | some q1 =>
        rw [hs] at h
        exact ih (A + 1) q1 (by omega) h (st_nq hs hq)
theorem hv_get {σ : gI} {b : Nat} : ∀ {o : List Int} {k : Nat}, HV σ b o → k < o.length → ∃ x, x ∈ o ∧ (σ b k).toInt = x := by
  intro o
  induction o with
  | nil => intro k _ hk; exact absurd hk (Nat.not_lt_zero _)
  | cons x o ih =>
    intro k h hk
    by_cases c : k = o.length
    · exact ⟨x, List.mem_cons_self .., by rw [c]; exact h.1⟩
    · have hl : (x :: o).length = o.length + 1 := rfl
      obtain ⟨y, h1, h2⟩ := ih (k := k) h.2 (by omega)
      exact ⟨y, List.mem_cons_of_mem _ h1, h2⟩
theorem hv_map {σ : gI} {b b2 : Nat} {g : Int → Int} : ∀ {o : List Int} {k : Nat}, HV σ b (o.map g) → HV σ b2 o → k < o.length → (σ b k).toInt = g (σ b2 k).toInt := by
  intro o
  induction o with
  | nil => intro k _ _ hk; exact absurd hk (Nat.not_lt_zero _)
  | cons x o ih =>
    intro k h h2 hk
    have h1 : (σ b (o.map g).length).toInt = g x := h.1
    rw [List.length_map] at h1
    by_cases c : k = o.length
    · rw [c, h1, h2.1]
    · have hl : (x :: o).length = o.length + 1 := rfl
      exact ih h.2 h2.2 (by omega)
/-- lines that can stand -/
theorem tws_ok {K : Int → Int} {n : Int} : ∀ (f : Nat) (a : Int) (bs : List Int) (us : List (Int × Int)), 0 ≤ a → BU a us → 0 ≤ tw K n f a us → (∀ x, x ∈ bs → (ln4 K x).1 = true) → ∀ x, x ∈ tws K n f a bs → (ln4 K x).1 = true := by
  intro f
  induction f with
  | zero => intro a bs us _ _ _ hb x hx; exact hb x hx
  | succ f ih =>
    intro a bs us ha hU h hb x hx
    have h : 0 ≤ (if (ln4 K a).1 = false then -1 - (ln4 K a).2.1 else if n ≤ (ln4 K a).2.1 then jg (12 - (f : Int)) ((ln4 K a).2.2 ++ us) else if K (ln4 K a).2.1 = 59 then tw K n f ((ln4 K a).2.1 + 1) ((ln4 K a).2.2 ++ us) else -1 - (ln4 K a).2.1) := h
    have hx : x ∈ (if n ≤ (ln4 K a).2.1 then a :: bs else tws K n f ((ln4 K a).2.1 + 1) (a :: bs)) := hx
    obtain ⟨g1, g2, g3⟩ := ln_rng K a us ha hU
    by_cases c : (ln4 K a).1 = false
    · rw [if_pos c] at h
      omega
    · rw [if_neg c] at h
      have ct : (ln4 K a).1 = true := by
        cases q : (ln4 K a).1 with
        | false => exact absurd q c
        | true => rfl
      have hb2 : ∀ y, y ∈ a :: bs → (ln4 K y).1 = true := fun y hy => by
        rcases List.mem_cons.mp hy with e | e
        · rw [e]; exact ct
        · exact hb y e
      by_cases d : n ≤ (ln4 K a).2.1
      · rw [if_pos d] at hx
        exact hb2 x hx
      · rw [if_neg d] at hx h
        by_cases e : K (ln4 K a).2.1 = 59
        · rw [if_pos e] at h
          exact ih _ (a :: bs) _ (by omega) (bu_up g3 (by omega)) h hb2 x hx
        · rw [if_neg e] at h
          omega
theorem pr_get {σ : gI} {b : Nat} {K : Int → Int} : ∀ {bs : List Int} {k : Nat}, PR σ b K bs → k < bs.length → ∃ a, a ∈ bs ∧ PW σ b k K a := by
  intro bs
  induction bs with
  | nil => intro k _ hk; exact absurd hk (Nat.not_lt_zero _)
  | cons x bs ih =>
    intro k h hk
    by_cases c : k = bs.length
    · exact ⟨x, List.mem_cons_self .., by rw [c]; exact h.1⟩
    · have hl : (x :: bs).length = bs.length + 1 := rfl
      obtain ⟨y, h1, h2⟩ := ih (k := k) h.2 (by omega)
      exact ⟨y, List.mem_cons_of_mem _ h1, h2⟩
theorem ln_fish {K : Int → Int} {a : Int} (h : (ln4 K a).1 = true) (h5 : kd (K a) = 5) : 2 ≤ pf K a := by
  unfold ln4 at h
  unfold pf
  rw [h5, if_neg (by omega), if_neg (by omega)] at h
  rw [h5, if_neg (by omega), if_neg (by omega)]
  by_cases c1 : lt4 (K (a + 1)) < 0
  · rw [if_pos c1] at h
    exact absurd h (show ¬ false = true by decide)
  · rw [if_neg c1, if_neg (by omega), if_neg (by omega), if_neg (by omega), if_pos rfl] at h
    by_cases c2 : dg4 (K (a + 2)) < 2
    · rw [if_pos c2] at h
      exact absurd h (show ¬ false = true by decide)
    · omega
def F5 (σ : gI) : Prop := ∀ p : Nat, (p : Int) < (σ 3 6).toInt → σ 4 p = 5 → 0 < (σ 7 p).toInt
theorem f5_fr {σ σ1 : gI} (h : F5 σ) (f : ∀ c k : Nat, 3 ≤ c ∧ c ≤ 7 → σ1 c k = σ c k) : F5 σ1 := fun p hp h5 => by
  rw [f 3 6 (by omega)] at hp
  rw [f 4 p (by omega)] at h5
  rw [f 7 p (by omega)]
  exact h p hp h5
theorem f5_town {N : Nat} {σ σ1 : gI} {τ τ1 : gJ} {r : Int32} (h0 : 0 ≤ (σ 1 2).toInt ∧ (σ 1 2).toInt ≤ 80) (hS : ∀ k : Nat, (k : Int) < (σ 1 2).toInt → (σ 2 k).toInt ≤ 255) (hF : F5 σ) (h : B_X11_town_0 N σ τ = some (r, σ1, τ1)) : F5 σ1 := by
  obtain ⟨e1, -, e3⟩ := x_town11 h0 hS h
  rcases e3 with ⟨-, f⟩ | ⟨g0, g1, g2, g3, -⟩
  · exact f5_fr hF (fun c k hh => f c k (by omega))
  · intro p hp h5
    by_cases c : (σ 1 2).toInt ≤ 0
    · rw [if_pos c] at g2
      have : (([] : List Int).length : Int) = 0 := rfl
      omega
    · rw [if_neg c] at g1 g2 e1
      obtain ⟨a, ha, w1, -, -, w4⟩ := pr_get g1 (k := p) (by omega)
      have l5 : (5 : Int32).toInt = 5 := rfl
      have w1 : (σ1 4 p).toInt = kd (lk (σ 2) (imin 76 (σ 1 2)).toInt a) := w1
      have w4 : (σ1 7 p).toInt = pf (lk (σ 2) (imin 76 (σ 1 2)).toInt) a := w4
      rw [h5, l5] at w1
      have gd := tws_ok 12 0 [] [] (Int.le_refl 0) trivial (by rw [← e1]; exact g0) (fun x hx => by cases hx) a ha
      have := ln_fish gd w1.symm
      omega
/-- the codes of both sides -/
def KC (σ : gI) : Prop := (σ 199 28 = 0 ∧ (σ 17 3).toInt = 1 ∧ (σ 18 0).toInt = 0 ∧ ¬ σ 17 9 = 0) ∨ (0 < (σ 199 28).toInt ∧ (σ 199 28).toInt ≤ 40 ∧ (σ 17 3).toInt = (σ 199 28).toInt ∧ (∀ k : Nat, (k : Int) < (σ 199 28).toInt → (σ 18 k).toInt = en (σ 216 k).toInt ∧ VC (σ 216 k).toInt) ∧ (σ 17 9 = 0 → ∀ k : Nat, (k : Int) < (σ 199 28).toInt → (σ 216 k).toInt ≠ 1000))
theorem kc_fr {σ σ1 : gI} (h : KC σ) (f : ∀ c k : Nat, c = 17 ∨ c = 18 ∨ c = 216 ∨ (c = 199 ∧ k = 28) → σ1 c k = σ c k) : KC σ1 := by
  have e1 : σ1 199 28 = σ 199 28 := f 199 28 (by omega)
  have e2 : σ1 17 = σ 17 := funext fun k => f 17 k (by omega)
  have e3 : σ1 18 = σ 18 := funext fun k => f 18 k (by omega)
  have e4 : σ1 216 = σ 216 := funext fun k => f 216 k (by omega)
  unfold KC
  rw [e1, e2, e3, e4]
  exact h
theorem x_copy5 {N : Nat} {σ σ1 : gI} {τ τ1 : gJ} {u : Unit} (h : B_X5_copy_0 N σ τ = some (u, σ1, τ1)) : (∀ c k : Nat, ¬ (c = 17 ∨ c = 18) → σ1 c k = σ c k) ∧ σ1 17 3 = σ 21 3 ∧ σ1 17 9 = σ 21 9 ∧ ∀ k : Nat, k < 40 → σ1 18 k = σ 22 k := by
  have l0 : (0 : Int32).toInt = 0 := rfl
  have l1 : (1 : Int32).toInt = 1 := rfl
  have l40 : (40 : Int32).toInt = 40 := rfl
  have H : ∀ (n : Nat) (s : gI) (t : gJ) (x2 : Int32) (u : Unit) (σ1 : gI) (τ1 : gJ), H_X5_copy_26 N n s t x2 = some (u, σ1, τ1) → 0 ≤ x2.toInt → (∀ k : Nat, (k : Int) < x2.toInt → k < 40 → s 18 k = s 22 k) → (∀ c k : Nat, ¬ (c = 18) → σ1 c k = s c k) ∧ ∀ k : Nat, k < 40 → σ1 18 k = s 22 k := by
    intro n
    induction n with
    | zero => intro s t x2 u σ1 τ1 h; cases h
    | succ n ih =>
      intro s t x2 u σ1 τ1 h p0 p
      have h : C_X5_copy_26 N (H_X5_copy_26 N n) s t x2 = some (u, σ1, τ1) := h
      unfold C_X5_copy_26 at h
      by_cases c : 40 ≤ x2
      · rw [if_pos c] at h
        rw [fa_le] at c
        obtain ⟨-, w, -⟩ := sm_inj h
        rw [← w]
        exact ⟨fun _ _ _ => rfl, fun k hk => p k (by omega) hk⟩
      · rw [if_neg c] at h
        rw [fa_le] at c
        have nn := nat_of_toInt (i := x2) p0
        obtain ⟨j, ej, -, h⟩ := ck_some h
        obtain ⟨s3, e3, h⟩ := nm_some h
        obtain ⟨v4, e4, h⟩ := nm_some h
        have eu : v4.toInt = x2.toInt + 1 := by rw [e4, ti_add (by omega) (by omega), l1]
        have z := ih s3 t v4 u σ1 τ1 h (by omega) (fun k hk hk2 => by
          by_cases d : k = j
          · rw [d, e3, up_eq, up2_ne (by omega)]
          · rw [e3, up2_ne (by omega), up2_ne (by omega)]; exact p k (by omega) hk2)
        exact ⟨fun c k hh => (z.1 c k hh).trans (by rw [e3]; exact up2_ne (by omega)), fun k hk => (z.2 k hk).trans (by rw [e3]; exact up2_ne (by omega))⟩
  unfold B_X5_copy_0 at h
  obtain ⟨s1, e1, h⟩ := nm_some h
  obtain ⟨-, h⟩ := cb_some h
  obtain ⟨s3, e3, h⟩ := nm_some h
  obtain ⟨-, h⟩ := cb_some h
  obtain ⟨s5, e5, h⟩ := nm_some h
  have z := H N s5 _ 0 u σ1 τ1 h (by omega) (fun k hk => by omega)
  have f5 : ∀ c k : Nat, ¬ (c = 17) → s5 c k = σ c k := fun c k hh => by rw [e5, up2_ne (by omega), e3, up2_ne (by omega), e1, up2_ne (by omega)]
  refine ⟨fun c k hh => (z.1 c k (by omega)).trans (f5 c k (by omega)), ?_, ?_, fun k hk => (z.2 k hk).trans (f5 22 k (by omega))⟩
  · rw [z.1 17 3 (by omega), e5, up2_ne (by omega), e3, up2_ne (by omega), e1, up_eq]
  · rw [z.1 17 9 (by omega), e5, up2_ne (by omega), e3, up_eq, e1, up2_ne (by omega)]
theorem okp_at {α : Type} {P : α → gI → gJ → Prop} {x : Option (α × gI × gJ)} {a : α} {σ : gI} {τ : gJ} (h : okp P x) (e : x = some (a, σ, τ)) : P a σ τ := by
  obtain ⟨a1, s1, t1, e1, h1⟩ := h
  rw [e] at e1
  obtain ⟨w1, w2, w3⟩ := sm_inj e1
  rw [w1, w2, w3]
  exact h1
theorem kc_rule {N : Nat} {σ σ1 σ2 : gI} {τ τ1 τ2 : gJ} {a b : Int32} (hN : 4294967296 ≤ N) (hI : IC σ) (hK : KC σ) (hX : ∀ k : Nat, (k : Int) < (σ 1 2).toInt → σ 2 k = σ 208 k ∧ (σ 2 k).toInt ≤ 255) (h12 : 0 ≤ (σ 1 2).toInt ∧ (σ 1 2).toInt ≤ 80) (hT : σ 1 2 = σ 199 13) (h199 : ∀ c k : Nat, 199 ≤ c → σ1 c k = σ c k) (e : B_X11_rule_0 N σ τ = some (a, σ1, τ1)) (e2 : B_X12_rule_0 N σ1 τ1 = some (b, σ2, τ2)) (F2 : ∀ c k : Nat, c < 199 → σ2 c k = σ1 c k) : KC σ2 := by
  have g13 : σ1 199 13 = σ 1 2 := (h199 199 13 (by omega)).trans hT.symm
  unfold B_X11_rule_0 at e
  obtain ⟨r1, s1, t1, q1, e⟩ := bd_some e
  obtain ⟨u1, u2⟩ := x_read5 h12 (fun k hk2 => (hX k hk2).2) q1
  obtain ⟨v1, v2⟩ := x_rule12 (by rw [g13]; exact h12) e2
  rw [g13] at v1 v2
  rw [← lk_two40 (t := σ 2) (t1 := σ1 208) h12.1 (fun k hk2 => (hX k hk2).1.trans (h199 208 k (by omega)).symm)] at v1 v2
  have er : b.toInt = r1.toInt := v1.trans u1.symm
  obtain ⟨r3, s3, t3, q3, e⟩ := bd_some e
  have f3 := x_cutf q3
  have keep : KC σ → (∀ c k : Nat, c = 17 ∨ c = 18 → σ1 c k = σ c k) → σ2 199 28 = σ1 199 28 → (∀ k : Nat, σ2 216 k = σ1 216 k) → KC σ2 := fun h g1 g2 g3 => kc_fr h (fun c k hh => by
    rcases hh with z | z | z | z
    · rw [z, F2 17 k (by omega)]; exact g1 17 k (by omega)
    · rw [z, F2 18 k (by omega)]; exact g1 18 k (by omega)
    · rw [z, g3 k]; exact h199 216 k (by omega)
    · rw [z.1, z.2, g2]; exact h199 199 28 (by omega))
  by_cases c : r1 < 0
  · rw [if_pos c] at e
    rw [fa_lt] at c
    have l0 : (0 : Int32).toInt = 0 := rfl
    obtain ⟨-, w, -⟩ := sm_inj e
    rcases v2 with ⟨-, g2, g3⟩ | ⟨g1, -⟩
    · refine keep hK (fun c k hh => ?_) g2 g3
      rw [← w, f3 c k (by omega)]
      exact (okp_at (s_B_X5_read_0 N hN σ τ hI) q1).2.1.1.1 c k (by omega)
    · rw [g1] at er
      omega
  · rw [if_neg c] at e
    rw [fa_lt] at c
    have l0 : (0 : Int32).toInt = 0 := rfl
    obtain ⟨u4, s4, t4, q4, e⟩ := bd_some e
    obtain ⟨-, w, -⟩ := sm_inj e
    obtain ⟨y1, y2, y3, y4⟩ := x_copy5 q4
    rw [f3 21 3 (by omega)] at y2
    rw [f3 21 9 (by omega)] at y3
    have u2 := u2 (by omega)
    rcases v2 with ⟨g1, -⟩ | ⟨-, g2, g3⟩
    · omega
    · by_cases d : (σ 1 2).toInt ≤ 0
      · rw [if_pos d] at u2 g2 g3
        left
        obtain ⟨a1, a2, a3⟩ := u2
        refine ⟨(fa_eq _ _).mpr g3, ?_, ?_, ?_⟩
        · rw [F2 17 3 (by omega), ← w, y2, a2]
        · rw [F2 18 0 (by omega), ← w, y4 0 (by omega), f3 22 0 (by omega)]; exact a1.1
        · rw [F2 17 9 (by omega), ← w, y3, a3]; decide
      · rw [if_neg d] at u2 g2 g3 u1
        right
        obtain ⟨a1, a2, a3, a4⟩ := u2
        have pos := rf_ne (by omega) 41 0 q06 (Int.le_refl 0) (show 0 ≤ ra (lk (σ 2) (imin 40 (σ 1 2)).toInt) (σ 1 2).toInt 41 0 q06 by omega) (fun z => absurd z (show ¬ true = false by decide))
        generalize rf (lk (σ 2) (imin 40 (σ 1 2)).toInt) (σ 1 2).toInt 41 0 q06 = o at a1 a2 a3 a4 pos g2 g3
        have h216 : HV σ2 216 o := g2
        have e17 : σ2 17 3 = s1 21 3 := by rw [F2 17 3 (by omega), ← w]; exact y2
        have e9 : σ2 17 9 = s1 21 9 := by rw [F2 17 9 (by omega), ← w]; exact y3
        have e18 : ∀ k : Nat, k < 40 → σ2 18 k = s1 22 k := fun k hk => by rw [F2 18 k (by omega), ← w, y4 k hk]; exact f3 22 k (by omega)
        refine ⟨by rw [g3]; omega, by rw [g3]; omega, by rw [e17, a2, g3], fun k hk => ?_, fun hz k hk => ?_⟩
        · rw [g3] at hk
          have hk2 : k < o.length := by omega
          obtain ⟨x, hx, ex⟩ := hv_get h216 hk2
          refine ⟨?_, by rw [ex]; exact a4.1 x hx⟩
          rw [e18 k (by omega)]
          have hv : HV (fun c j => if c = 22 then s1 22 j else σ2 c j) 22 (o.map en) := hv_fr a1 (fun j _ => rfl)
          have hv2 : HV (fun c j => if c = 22 then s1 22 j else σ2 c j) 216 o := hv_fr h216 (fun j _ => rfl)
          exact hv_map hv hv2 hk2
        · rw [g3] at hk
          obtain ⟨x, hx, ex⟩ := hv_get h216 (k := k) (by omega)
          rw [ex]
          rw [e9] at hz
          exact a4.2.2 hz x hx
/-- the rest that holds between calls -/
def KD (σ : gI) : Prop := (σ 158 7 = 0 ∧ σ 158 8 = 0 ∧ σ 199 33 = 0) ∧ F5 σ ∧ KC σ
theorem kd_fr {σ σ1 : gI} (h : KD σ) (f : ∀ c k : Nat, (c = 158 ∧ (k = 7 ∨ k = 8)) ∨ (c = 199 ∧ (k = 28 ∨ k = 33)) ∨ (3 ≤ c ∧ c ≤ 7) ∨ c = 17 ∨ c = 18 ∨ c = 216 → σ1 c k = σ c k) : KD σ1 := by
  obtain ⟨⟨a1, a2, a3⟩, a4, a5⟩ := h
  exact ⟨⟨(f 158 7 (by omega)).trans a1, (f 158 8 (by omega)).trans a2, (f 199 33 (by omega)).trans a3⟩, f5_fr a4 (fun c k hh => f c k (by omega)), kc_fr a5 (fun c k hh => f c k (by omega))⟩
/-- what the trials ask -/
theorem bb_of {σ : gI} {B : Int} (hI : IC σ) (hz : ZN σ B) (hT : T4 σ) (hW : σ 15 1 = σ 199 4 ∧ (∀ k : Nat, (k : Int) < (σ 199 4).toInt → σ 16 k = σ 205 k) ∧ σ 199 31 = 0) (hC : C4 σ) (hD : KD σ) : ∃ (cd cr2 : Nat → Int32) (L Lr : Int), BB σ cd cr2 L Lr ∧ CKc σ ∧ BV σ cr2 Lr ∧ CK σ := by
  obtain ⟨g, hz⟩ := hz
  have hS := hz.1.1
  have hK := hz.1.2.2.2.2.2.1
  obtain ⟨⟨h3, hTI⟩, hWI, ⟨h28, hCI⟩⟩ := hS
  obtain ⟨⟨d1, d2, d3⟩, d4, d5⟩ := hD
  have e36 := hT.1
  have row : ∀ i p : Nat, i ≤ 3 → (p : Int) < (σ 3 6).toInt → σ (4 + i) p = σ (201 + i) p := hT.2.2.1
  have tkr : TK (TT σ) (σ 199 3).toInt := fun p hp => by
    have z := hTI p hp
    exact ⟨fun h => z.1 h, fun h => z.2.1 h⟩
  have tkc : TK (TC σ) (σ 3 6).toInt := fun p hp => by
    have z := hTI p (by rw [← e36]; exact hp)
    have r0 : σ 4 p = σ 201 p := row 0 p (by omega) hp
    have r1 : σ 5 p = σ 202 p := row 1 p (by omega) hp
    have r2 : σ 6 p = σ 203 p := row 2 p (by omega) hp
    show (σ 4 p ≠ 6 → 0 ≤ (σ 5 p).toInt ∧ (σ 5 p).toInt < (σ 3 6).toInt) ∧ (σ 4 p = 1 → 0 ≤ (σ 6 p).toInt ∧ (σ 6 p).toInt < (σ 3 6).toInt)
    rw [r0, r1, r2, e36]
    exact ⟨z.1, z.2.1⟩
  have w15 : 0 ≤ (σ 15 1).toInt ∧ (σ 15 1).toInt ≤ 40 := by rw [hW.1]; exact hWI
  have hKc : CKc σ := by
    refine ⟨hC.2.1, fun k hk => ?_⟩
    have z := hK.2 k (by rw [← hC.1]; exact hk)
    have c0 : σ 153 k = σ 226 k := hC.2.2 0 k (by omega) hk
    have c1 : σ 154 k = σ 227 k := hC.2.2 1 k (by omega) hk
    rw [c0, c1, e36]
    exact z
  have wat : σ 15 1 = σ 199 4 ∧ ∀ k : Nat, (k : Int) < (σ 15 1).toInt → σ 16 k = σ 205 k := ⟨hW.1, fun k hk => hW.2.1 k (by rw [← hW.1]; exact hk)⟩
  have fin : ∀ (cd cr2 : Nat → Int32) (L Lr : Int), CC σ cd L → ((0 ≤ Lr ∧ Lr ≤ 80) ∧ CW cr2 Lr ∧ (σ 199 28).toInt = Lr ∧ ∀ k : Nat, (k : Int) < Lr → σ 216 k = cr2 k) → (∀ pl t fl s, RC cd L pl t fl s = RVL cr2 Lr pl t fl s) → ∃ (cd cr2 : Nat → Int32) (L Lr : Int), BB σ cd cr2 L Lr ∧ CKc σ ∧ BV σ cr2 Lr ∧ CK σ := by
    intro cd cr2 L Lr h1 h2 h4
    have hV : BV σ cr2 Lr := ⟨hW.2.2, d3, h3, tkr, h2.1, h2.2.1, h2.2.2.1, h2.2.2.2⟩
    exact ⟨cd, cr2, L, Lr, ⟨⟨hI.2.2.1, d1, d2, w15, hT, tkc, d4, h1⟩, hV, h4, wat⟩, hKc, hV, hK⟩
  rcases d5 with ⟨k1, k2, k3, k4⟩ | ⟨k1, k2, k3, k4, k5⟩
  · have z28 : (σ 199 28).toInt = 0 := by rw [k1]; rfl
    have n0 : need 1000 = 0 := by decide
    refine fin (fun _ => 1000) (fun _ => 1000) 1 0 ⟨by omega, ⟨fun k hk => ?_, fun k _ => Or.inl (show 0 ≤ (1000 : Int32).toInt ∧ (1000 : Int32).toInt ≤ 1007 by decide)⟩, k2, fun k hk => ?_, fun z => absurd z k4⟩ ⟨by omega, ⟨fun k hk => by omega, fun k hk => by omega⟩, z28, fun k hk => by omega⟩ (fun pl t fl s => ?_)
    · rw [show k = 0 by omega]
      show need 1000 ≤ 0
      rw [n0]
      exact Int.le_refl 0
    · rw [show k = 0 by omega, k3]
      decide
    · unfold RC RVL
      rw [if_pos rfl]
      have e1 : (1000 : Int32) - 1000 = 0 := by decide
      show (if (1000 : Int32) = 3000 then (if 0 = (0 : Int).toNat - 1 then -(0 : Int32) else 0) else if (1000 : Int32).toInt < 2000 then (if 0 = (0 : Int).toNat then (if (1000 : Int32).toInt < 1000 then (1000 : Int32) else Fq pl t fl s (1000 - 1000)) else 0) else _) = _
      rw [if_neg (by decide), if_pos (by decide), if_pos (by decide), if_neg (by decide), e1]
      unfold Fq
      rw [if_pos rfl]
  · have hcw : CW (σ 216) (σ 199 28).toInt := ⟨fun k hk => hCI k hk, fun k hk => (k4 k hk).2⟩
    refine fin (σ 216) (σ 216) (σ 199 28).toInt (σ 199 28).toInt ⟨⟨k1, k2⟩, hcw, k3, fun k hk => (k4 k hk).1, k5⟩ ⟨⟨by omega, by omega⟩, hcw, rfl, fun _ _ => rfl⟩ (fun pl t fl s => ?_)
    unfold RC RVL
    rw [if_neg (by omega)]
section SIM34P
variable {N : Nat} {σ σ1 : gI} {τ τ1 : gJ} {r : Int32}
theorem xk_has8 {x1 : Int32} (h : B_X8_has_0 N σ τ x1 = some (r, σ1, τ1)) : σ1 = σ := (x_has8 h).1.symm
theorem xk_has6 {c : Nat} {x1 : Int32} (h : B_X6_has_0 N c σ τ x1 = some (r, σ1, τ1)) : σ1 = σ := by
  unfold B_X6_has_0 at h
  by_cases c1 : x1 < 0
  · rw [if_pos c1] at h; exact (sm_inj h).2.1.symm
  · rw [if_neg c1] at h
    by_cases c2 : σ c 6 ≤ x1
    · rw [if_pos c2] at h; exact (sm_inj h).2.1.symm
    · rw [if_neg c2] at h; exact (sm_inj h).2.1.symm
theorem xk_round89 {x2 y0 : Int32} (h : B_X11_round_89 N σ τ x2 y0 = some (r, σ1, τ1)) : σ1 158 7 = 0 := by
  unfold B_X11_round_89 at h
  obtain ⟨s1, e1, h⟩ := nm_some h
  have g1 : s1 158 7 = 0 := by rw [e1, up_eq]
  have tl : ∀ (t : gJ) (v : Int64) (u : Unit) (s2 : gI) (t2 : gJ), B_X4_tell_0 N s1 t v = some (u, s2, t2) → s2 158 7 = 0 := by
    intro t v u s2 t2 q
    unfold B_X4_tell_0 at q
    obtain ⟨t3, e3, q⟩ := nm_some q
    obtain ⟨s4, e4, q⟩ := nm_some q
    obtain ⟨-, w, -⟩ := sm_inj q
    rw [← w, e4, up2_ne (by omega)]; exact g1
  by_cases c1 : x2 = -1
  · rw [if_pos c1] at h
    obtain ⟨-, w, -⟩ := sm_inj h
    rw [← w]; exact g1
  · rw [if_neg c1] at h
    by_cases c2 : y0 = -1
    · rw [if_pos c2] at h
      obtain ⟨u, s2, t2, q, h⟩ := bd_some h
      obtain ⟨-, w, -⟩ := sm_inj h
      rw [← w]; exact tl _ _ _ _ _ q
    · rw [if_neg c2] at h
      obtain ⟨u, s2, t2, q, h⟩ := bd_some h
      obtain ⟨-, w, -⟩ := sm_inj h
      rw [← w]; exact tl _ _ _ _ _ q
theorem xk_round11 {x1 : Int32} (h7 : σ 158 7 = 0) (h : B_X11_round_0 N σ τ x1 = some (r, σ1, τ1)) : σ1 158 7 = 0 := by
  unfold B_X11_round_0 at h
  obtain ⟨r1, s1, t1, q1, h⟩ := bd_some h
  have e1 := xk_has8 q1
  by_cases c1 : r1 = 0
  · rw [if_pos c1] at h
    obtain ⟨-, w, -⟩ := sm_inj h
    rw [← w, e1]; exact h7
  · rw [if_neg c1] at h
    obtain ⟨u3, s3, t3, -, h⟩ := bd_some h
    obtain ⟨u4, s4, t4, -, h⟩ := bd_some h
    obtain ⟨s5, e5, h⟩ := nm_some h
    obtain ⟨r6, s6, t6, -, h⟩ := bd_some h
    by_cases c2 : r6 = -1
    · rw [if_pos c2] at h
      exact xk_round89 h
    · rw [if_neg c2] at h
      obtain ⟨r8, s8, t8, -, h⟩ := bd_some h
      exact xk_round89 h
theorem xk_cd : ∀ (n : Nat) (s : gI) (t : gJ) (x2 x3 x4 r : Int32) (σ1 : gI) (τ1 : gJ), H_X11_commonDivisor_7 N n s t x2 x3 x4 = some (r, σ1, τ1) → σ1 = s := by
  intro n
  induction n with
  | zero => intro s t x2 x3 x4 r σ1 τ1 h; cases h
  | succ n ih =>
    intro s t x2 x3 x4 r σ1 τ1 h
    have h : C_X11_commonDivisor_7 N (H_X11_commonDivisor_7 N n) s t x2 x3 x4 = some (r, σ1, τ1) := h
    unfold C_X11_commonDivisor_7 at h
    by_cases c1 : 100 ≤ x4
    · rw [if_pos c1] at h; exact (sm_inj h).2.1.symm
    · rw [if_neg c1] at h
      by_cases c2 : x3 = 0
      · rw [if_pos c2] at h; exact (sm_inj h).2.1.symm
      · rw [if_neg c2] at h
        obtain ⟨-, h⟩ := dz_some h
        obtain ⟨v4, e4, h⟩ := nm_some h
        obtain ⟨v5, e5, h⟩ := nm_some h
        exact ih _ _ _ _ _ _ _ _ h
theorem xk_odds124 {x1 x2 x3 x5 : Int32} : ∀ (n : Nat) (s : gI) (t : gJ) (x6 x7 x8 r : Int32) (σ1 : gI) (τ1 : gJ), H_X11_odds_124 N n s t x1 x2 x3 x5 x6 x7 x8 = some (r, σ1, τ1) → σ1 158 8 = 0 := by
  intro n
  induction n with
  | zero => intro s t x6 x7 x8 r σ1 τ1 h; cases h
  | succ n ih =>
    intro s t x6 x7 x8 r σ1 τ1 h
    have h : C_X11_odds_124 N (H_X11_odds_124 N n) s t x1 x2 x3 x5 x6 x7 x8 = some (r, σ1, τ1) := h
    unfold C_X11_odds_124 at h
    by_cases c1 : 1 <<< (x5 &&& 31) ≤ x8
    · rw [if_pos c1] at h
      obtain ⟨s2, e2, h⟩ := nm_some h
      obtain ⟨r3, s3, t3, q3, h⟩ := bd_some h
      unfold B_X11_commonDivisor_0 at q3
      have e3 := xk_cd _ _ _ _ _ _ _ _ _ q3
      obtain ⟨-, h⟩ := dz_some h
      obtain ⟨-, h⟩ := dz_some h
      obtain ⟨u6, s6, t6, q6, h⟩ := bd_some h
      obtain ⟨-, w, -⟩ := sm_inj h
      unfold B_X4_tell__0 at q6
      obtain ⟨y1, d1, q6⟩ := nm_some q6
      obtain ⟨y2, d2, q6⟩ := nm_some q6
      obtain ⟨s4, e4, q6⟩ := nm_some q6
      obtain ⟨-, w6, -⟩ := sm_inj q6
      rw [← w, ← w6, e4, up2_ne (by omega), e3, e2, up_eq]
    · rw [if_neg c1] at h
      obtain ⟨r7, s7, t7, -, h⟩ := bd_some h
      by_cases c2 : r7 ≤ 0
      · rw [if_pos c2] at h
        obtain ⟨v9, e9, h⟩ := nm_some h
        exact ih _ _ _ _ _ _ _ _ h
      · rw [if_neg c2] at h
        obtain ⟨s10, e10, h⟩ := nm_some h
        obtain ⟨u11, s11, t11, -, h⟩ := bd_some h
        obtain ⟨r12, s12, t12, -, h⟩ := bd_some h
        by_cases c3 : r12 = 1
        · rw [if_pos c3] at h
          obtain ⟨v1, d1, h⟩ := nm_some h
          obtain ⟨v2, d2, h⟩ := nm_some h
          exact ih _ _ _ _ _ _ _ _ h
        · rw [if_neg c3] at h
          obtain ⟨v1, d1, h⟩ := nm_some h
          obtain ⟨v2, d2, h⟩ := nm_some h
          exact ih _ _ _ _ _ _ _ _ h
theorem xk_odds92 {x1 x2 x3 x4 x5 : Int32} : ∀ (n : Nat) (s : gI) (t : gJ) (x7 x8 r : Int32) (σ1 : gI) (τ1 : gJ), H_X11_odds_92 N n s t x1 x2 x3 x4 x5 x7 x8 = some (r, σ1, τ1) → σ1 158 8 = 0 := by
  intro n
  induction n with
  | zero => intro s t x7 x8 r σ1 τ1 h; cases h
  | succ n ih =>
    intro s t x7 x8 r σ1 τ1 h
    have h : C_X11_odds_92 N (H_X11_odds_92 N n) s t x1 x2 x3 x4 x5 x7 x8 = some (r, σ1, τ1) := h
    unfold C_X11_odds_92 at h
    by_cases c1 : x5 ≤ x8
    · rw [if_pos c1] at h
      obtain ⟨s2, e2, h⟩ := nm_some h
      exact xk_odds124 _ _ _ _ _ _ _ _ _ h
    · rw [if_neg c1] at h
      obtain ⟨v3, e3, h⟩ := nm_some h
      obtain ⟨v4, e4, h⟩ := nm_some h
      exact ih _ _ _ _ _ _ _ h
theorem xk_odds11 {x1 x2 x3 : Int32} (h8 : σ 158 8 = 0) (h : B_X11_odds_0 N σ τ x1 x2 x3 = some (r, σ1, τ1)) : σ1 158 8 = 0 := by
  unfold B_X11_odds_0 at h
  obtain ⟨r1, s1, t1, q1, h⟩ := bd_some h
  have e1 := xk_has6 q1
  have out : ∀ v : Int32, some (v, s1, t1) = some (r, σ1, τ1) → σ1 158 8 = 0 := fun v h => by
    obtain ⟨-, w, -⟩ := sm_inj h
    rw [← w, e1]; exact h8
  by_cases c1 : r1 = 0
  · rw [if_pos c1] at h; exact out _ h
  · rw [if_neg c1] at h
    by_cases c2 : x2 < 0
    · rw [if_pos c2] at h; exact out _ h
    · rw [if_neg c2] at h
      by_cases c3 : 60 < x2
      · rw [if_pos c3] at h; exact out _ h
      · rw [if_neg c3] at h
        by_cases c4 : x3 < 0
        · rw [if_pos c4] at h; exact out _ h
        · rw [if_neg c4] at h
          by_cases c5 : x3 ≤ 10
          · rw [if_pos c5] at h
            obtain ⟨v7, e7, h⟩ := nm_some h
            by_cases c6 : x2 = 0
            · rw [if_pos c6] at h
              exact xk_odds92 _ _ _ _ _ _ _ _ h
            · rw [if_neg c6] at h
              obtain ⟨v9, e9, h⟩ := nm_some h
              exact xk_odds92 _ _ _ _ _ _ _ _ h
          · rw [if_neg c5] at h; exact out _ h
theorem xk_round132 {x2 x3 : Int32} (h : B_X12_round_132 N σ τ x2 x3 = some (r, σ1, τ1)) : σ1 199 33 = 0 := by
  unfold B_X12_round_132 at h
  obtain ⟨s1, e1, h⟩ := nm_some h
  have g1 : s1 199 33 = 0 := by rw [e1, up_eq]
  by_cases c1 : 0 ≤ x2
  · rw [if_pos c1] at h
    obtain ⟨s3, e3, h⟩ := nm_some h
    obtain ⟨u4, s4, t4, q4, h⟩ := bd_some h
    obtain ⟨-, w, -⟩ := sm_inj h
    unfold B_X12_enters_0 at q4
    obtain ⟨j, ej, -, q4⟩ := ck_some q4
    obtain ⟨t5, e5, q4⟩ := nm_some q4
    obtain ⟨s6, e6, q4⟩ := nm_some q4
    obtain ⟨-, w4, -⟩ := sm_inj q4
    rw [← w, ← w4, e6, up2_ne (by omega), e3, up2_ne (by omega)]; exact g1
  · rw [if_neg c1] at h
    obtain ⟨-, w, -⟩ := sm_inj h
    rw [← w]; exact g1
theorem xk_round51 {x1 : Int32} : ∀ (n : Nat) (s : gI) (t : gJ) (x2 x3 x4 r : Int32) (σ1 : gI) (τ1 : gJ), H_X12_round_51 N n s t x1 x2 x3 x4 = some (r, σ1, τ1) → σ1 199 33 = 0 := by
  intro n
  induction n with
  | zero => intro s t x2 x3 x4 r σ1 τ1 h; cases h
  | succ n ih =>
    intro s t x2 x3 x4 r σ1 τ1 h
    have h : C_X12_round_51 N (H_X12_round_51 N n) s t x1 x2 x3 x4 = some (r, σ1, τ1) := h
    unfold C_X12_round_51 at h
    by_cases c1 : 300 < x4
    · rw [if_pos c1] at h; exact xk_round132 h
    · rw [if_neg c1] at h
      by_cases c2 : 0 ≤ x3
      · rw [if_pos c2] at h; exact xk_round132 h
      · rw [if_neg c2] at h
        obtain ⟨u3, s3, t3, -, h⟩ := bd_some h
        by_cases c3 : s3 199 34 = 0
        · rw [if_pos c3] at h
          obtain ⟨v5, e5, h⟩ := nm_some h
          exact ih _ _ _ _ _ _ _ _ h
        · rw [if_neg c3] at h
          by_cases c4 : s3 224 4 = 0
          · rw [if_pos c4] at h
            by_cases c5 : s3 224 0 = x1
            · rw [if_pos c5] at h
              by_cases c6 : 0 ≤ x2
              · rw [if_pos c6] at h
                obtain ⟨v11, e11, h⟩ := nm_some h
                rw [if_pos c6] at h
                obtain ⟨s13, e13, h⟩ := nm_some h
                obtain ⟨v14, e14, h⟩ := nm_some h
                exact ih _ _ _ _ _ _ _ _ h
              · rw [if_neg c6, if_neg c6] at h
                obtain ⟨s13, e13, h⟩ := nm_some h
                obtain ⟨v14, e14, h⟩ := nm_some h
                exact ih _ _ _ _ _ _ _ _ h
            · rw [if_neg c5] at h
              obtain ⟨v9, e9, h⟩ := nm_some h
              exact ih _ _ _ _ _ _ _ _ h
          · rw [if_neg c4] at h
            obtain ⟨v9, e9, h⟩ := nm_some h
            exact ih _ _ _ _ _ _ _ _ h
theorem xk_round12 {x1 : Int32} (h33 : σ 199 33 = 0) (h : B_X12_round_0 N σ τ x1 = some (r, σ1, τ1)) : σ1 199 33 = 0 := by
  unfold B_X12_round_0 at h
  obtain ⟨s1, e1, h⟩ := nm_some h
  obtain ⟨r2, s2, t2, q2, h⟩ := bd_some h
  have f2 := (fr_B_X12_isPlace_0 N s1 τ x1 q2).1
  by_cases c1 : r2 = 0
  · rw [if_pos c1] at h
    obtain ⟨-, w, -⟩ := sm_inj h
    rw [← w, f2 199 33 (by first | exact id | omega), e1, up2_ne (by omega)]; exact h33
  · rw [if_neg c1] at h
    obtain ⟨u4, s4, t4, -, h⟩ := bd_some h
    obtain ⟨s5, e5, h⟩ := nm_some h
    obtain ⟨s6, e6, h⟩ := nm_some h
    obtain ⟨s7, e7, h⟩ := nm_some h
    obtain ⟨u8, s8, t8, -, h⟩ := bd_some h
    exact xk_round51 _ _ _ _ _ _ _ _ _ h
end SIM34P
