def VC (x : Int) : Prop := (0 ≤ x ∧ x ≤ 1007) ∨ op6 x
/-- what went out, and whether the PLANK is asked -/
def VA (σ : gI) (o : List Int) : Prop := (∀ x, x ∈ o → VC x) ∧ (σ 21 9 = 0 ∨ σ 21 9 = 1) ∧ (σ 21 9 = 0 → ∀ x, x ∈ o → x ≠ 1000)
theorem va_fr {σ σ1 : gI} {o : List Int} (h : VA σ o) (e : σ1 21 9 = σ 21 9) : VA σ1 o := by
  unfold VA
  rw [e]
  exact h
theorem va_cons {σ : gI} {o : List Int} {y : Int} (h : VA σ o) (hy : VC y) (hn : y ≠ 1000) : VA σ (y :: o) := by
  refine ⟨fun x hx => ?_, h.2.1, fun z x hx => ?_⟩
  · rcases List.mem_cons.mp hx with e | e
    · rw [e]; exact hy
    · exact h.1 x e
  · rcases List.mem_cons.mp hx with e | e
    · rw [e]; exact hn
    · exact h.2.2 z x e
theorem op_n {x : Int} (h : op6 x) : x ≠ 1000 := by
  unfold op6 at h
  omega
theorem rla_mem : ∀ (P o : List Int) (x : Int), x ∈ rla P o → x ∈ P ∨ x ∈ o := by
  intro P
  induction P with
  | nil => intro o x h; exact Or.inr h
  | cons y P ih =>
    intro o x h
    rcases ih (y :: o) x h with g | g
    · exact Or.inl (List.mem_cons_of_mem _ g)
    · rcases List.mem_cons.mp g with e | e
      · rw [e]; exact Or.inl (List.mem_cons_self ..)
      · exact Or.inr e
theorem rel_mem {q : Int} : ∀ (P o : List Int) (x : Int), x ∈ (rel q P o).2 → x ∈ P ∨ x ∈ o := by
  intro P
  induction P with
  | nil => intro o x h; exact Or.inr h
  | cons y P ih =>
    intro o x h
    have e : rel q (y :: P) o = if q ≤ rk y then rel q P (y :: o) else (y :: P, o) := rfl
    rw [e] at h
    by_cases c : q ≤ rk y
    · rw [if_pos c] at h
      rcases ih (y :: o) x h with g | g
      · exact Or.inl (List.mem_cons_of_mem _ g)
      · rcases List.mem_cons.mp g with e | e
        · rw [e]; exact Or.inl (List.mem_cons_self ..)
        · exact Or.inr e
    · rw [if_neg c] at h
      exact Or.inr h
theorem va_mix {σ : gI} {H o o1 : List Int} (h : VA σ o) (hH : ∀ x, x ∈ H → op6 x) (hm : ∀ x, x ∈ o1 → x ∈ H ∨ x ∈ o) : VA σ o1 := by
  refine ⟨fun x hx => ?_, h.2.1, fun z x hx => ?_⟩
  · rcases hm x hx with e | e
    · exact Or.inr (hH x e)
    · exact h.1 x e
  · rcases hm x hx with e | e
    · exact op_n (hH x e)
    · exact h.2.2 z x e
def DN (d : Int) (out : List Int) : Prop := d = 3 ∨ ((d = 1 ∨ d = 2) ∧ ∃ (n : Int) (o : List Int), out = n :: o ∧ 0 ≤ n ∧ (d = 1 → n ≤ 9) ∧ n ≤ 99)
/-- the class's draft and the automaton's state -/
def CR (σ : gI) (w : Bool) (d : Int) (F : List (Bool × List Int)) (out : List Int) (A : Int) : Prop := (σ 21 8 = if w = true then 1 else 0) ∧ (w = false → (σ 21 7).toInt = d) ∧ (σ 21 5).toInt = (F.length : Int) - 1 ∧ (1 ≤ F.length ∧ F.length ≤ 5) ∧ CB σ F ∧ (HV σ 24 (hs F) ∧ (σ 21 4).toInt = (hs F).length) ∧ (HV σ 22 (out.map en) ∧ (σ 21 3).toInt = out.length) ∧ ((out.length : Int) + (hs F).length ≤ A) ∧ (w = false → DN d out) ∧ (∀ f, f ∈ F → ∀ x, x ∈ f.2 → op6 x) ∧ VA σ out
theorem st_m1 (q : Qs) : st q (-1) = none := by
  obtain ⟨w, d, F, out⟩ := q
  cases w with
  | true => exact st_wno (by decide) (by decide) (by decide) (fun z => absurd z.1 (by decide))
  | false =>
    cases F with
    | nil => rfl
    | cons x S =>
      obtain ⟨c, H⟩ := x
      exact st_bno (fun z => absurd z (by decide)) (fun z => absurd z (by decide)) (fun z => absurd z (by decide))
theorem bt_clr {x : Int32} {i j : Nat} (hi : i < 32) (hj : j < 32) : bt (x &&& ((1 <<< (Int32.ofNat i &&& 31)) ^^^ (-1))) j = if i = j then false else bt x j := by
  rw [b_and, b_xor, bt_1sh hi hj, b_m1 j hj]
  by_cases c : i = j
  · rw [if_pos c, decide_eq_true c]
    simp
  · rw [if_neg c, decide_eq_false c]
    simp
section RU6D
variable {N : Nat} {σ σ1 : gI} {τ τ1 : gJ} {r : Int32} {K : Int → Int}
theorem x_oneb {bs : List Int32} {x2 : Int32} (hl : bs.length ≤ 20) (hb : ∀ k : Nat, k < bs.length → 0 ≤ (bs.getD k 0).toInt ∧ (bs.getD k 0).toInt ≤ 127) (hm : (σ 1 1).toInt ≤ 80) (hs : lk (σ 2) (σ 1 1).toInt x2.toInt ≤ 255) (h : B_X7_oneOf_0 N bs σ τ x2 = some (r, σ1, τ1)) : (σ = σ1 ∧ τ = τ1) ∧ ((∃ k : Nat, k < bs.length ∧ r.toInt = k ∧ (bs.getD k 0).toInt = lk (σ 2) (σ 1 1).toInt x2.toInt) ∨ (r.toInt = -1 ∧ ∀ k : Nat, k < bs.length → (bs.getD k 0).toInt ≠ lk (σ 2) (σ 1 1).toInt x2.toInt)) := by
  have l0 : (0 : Int32).toInt = 0 := rfl
  unfold B_X7_oneOf_0 at h
  obtain ⟨r1, s1, t1, q1, h⟩ := bd_some h
  obtain ⟨⟨rfl, rfl⟩, k⟩ := x_lk hm q1
  rw [← k] at hs ⊢
  by_cases c : 0 ≤ r1
  · rw [if_pos c] at h
    rw [fa_le] at c
    obtain ⟨r3, s3, t3, q3, h⟩ := bd_some h
    obtain ⟨rfl, rfl, rfl⟩ := sm_inj h
    rw [ch_v (by omega)] at q3
    obtain ⟨e, z⟩ := x_idx hl hb (by omega) q3
    refine ⟨e, ?_⟩
    rcases z with ⟨k9, z1, z2, z3⟩ | ⟨z1, z2⟩
    · exact Or.inl ⟨k9, z1, z2, by rw [z3]⟩
    · exact Or.inr ⟨z1, fun k hk z => z2 k hk ((fa_eq _ _).mpr z)⟩
  · rw [if_neg c] at h
    rw [fa_le] at c
    obtain ⟨rfl, rfl, rfl⟩ := sm_inj h
    exact ⟨⟨rfl, rfl⟩, Or.inr ⟨rfl, fun k hk => by have := hb k hk; omega⟩⟩
theorem x_fact6 {x2 : Int32} (hm : (σ 1 1).toInt ≤ 80) (hs : lk (σ 2) (σ 1 1).toInt x2.toInt ≤ 255) (h : B_X7_oneOf_0 N sb_1 σ τ x2 = some (r, σ1, τ1)) : (σ = σ1 ∧ τ = τ1) ∧ r.toInt = ft (lk (σ 2) (σ 1 1).toInt x2.toInt) := by
  obtain ⟨e, z⟩ := x_oneb (by decide) (by decide) hm hs h
  refine ⟨e, ?_⟩
  rcases z with ⟨k, z1, z2, z3⟩ | ⟨z1, z2⟩
  · rw [z2, ← z3]
    exact (ft_at k z1).symm
  · rw [z1]
    exact (ft_no z2).symm
theorem x_jnt6 {x2 : Int32} (hm : (σ 1 1).toInt ≤ 80) (hs : lk (σ 2) (σ 1 1).toInt x2.toInt ≤ 255) (h : B_X7_oneOf_0 N sb_2 σ τ x2 = some (r, σ1, τ1)) : (σ = σ1 ∧ τ = τ1) ∧ ((0 ≤ r.toInt ∧ r.toInt ≤ 6 ∧ 0 ≤ jc (lk (σ 2) (σ 1 1).toInt x2.toInt) ∧ en (jc (lk (σ 2) (σ 1 1).toInt x2.toInt)) = 9 + r.toInt ∧ op6 (jc (lk (σ 2) (σ 1 1).toInt x2.toInt)) ∧ (r.toInt < 4 ↔ ¬ rk (jc (lk (σ 2) (σ 1 1).toInt x2.toInt)) = 1)) ∨ (r.toInt = -1 ∧ ¬ 0 ≤ jc (lk (σ 2) (σ 1 1).toInt x2.toInt))) := by
  obtain ⟨e, z⟩ := x_oneb (by decide) (by decide) hm hs h
  refine ⟨e, ?_⟩
  have len : sb_2.length = 7 := rfl
  have at6 : ∀ k : Nat, k < sb_2.length → 0 ≤ jc (sb_2.getD k 0).toInt ∧ en (jc (sb_2.getD k 0).toInt) = 9 + k ∧ (2000 ≤ jc (sb_2.getD k 0).toInt ∧ jc (sb_2.getD k 0).toInt ≤ 2006) ∧ ((k : Int) < 4 ↔ ¬ rk (jc (sb_2.getD k 0).toInt) = 1) := by decide
  rcases z with ⟨k, z1, z2, z3⟩ | ⟨z1, z2⟩
  · have q := at6 k z1
    rw [z3] at q
    exact Or.inl ⟨by omega, by omega, q.1, by rw [q.2.1, z2], Or.inr q.2.2.1, by rw [z2]; exact q.2.2.2⟩
  · refine Or.inr ⟨z1, fun w => ?_⟩
    have q0 : (43 : Int) ≠ _ := z2 0 (by decide)
    have q1 : (45 : Int) ≠ _ := z2 1 (by decide)
    have q2 : (42 : Int) ≠ _ := z2 2 (by decide)
    have q3 : (47 : Int) ≠ _ := z2 3 (by decide)
    have q4 : (60 : Int) ≠ _ := z2 4 (by decide)
    have q5 : (62 : Int) ≠ _ := z2 5 (by decide)
    have q6 : (61 : Int) ≠ _ := z2 6 (by decide)
    have := rk_jc w
    omega
theorem x_addFact {x1 : Int32} {u : Unit} {o : List Int} (hV : HV σ 22 o) (hl : (σ 21 3).toInt = o.length) (h40 : o.length < 40) (h : B_X5_addFact_0 N σ τ x1 = some (u, σ1, τ1)) : HV σ1 22 (x1.toInt :: o) ∧ (σ1 21 3).toInt = o.length + 1 ∧ σ1 21 7 = 3 ∧ σ1 21 8 = 0 ∧ (∀ c k : Nat, ¬ (c = 22 ∨ (c = 21 ∧ (k = 3 ∨ k = 7 ∨ k = 8 ∨ k = 9 ∨ k = 10))) → σ1 c k = σ c k) ∧ σ1 21 9 = (if x1 = 0 then σ 21 9 ||| 1 else σ 21 9 ||| 0) := by
  have G : ∀ (s : gI) (t : gJ) (y0 y1 : Int32), B_X5_addFact_34 N s t x1 y0 y1 = some (u, σ1, τ1) → (∀ c k : Nat, ¬ (c = 21 ∧ k = 9) → s c k = σ c k) → s 21 9 = (if x1 = 0 then σ 21 9 ||| 1 else σ 21 9 ||| 0) → HV σ1 22 (x1.toInt :: o) ∧ (σ1 21 3).toInt = o.length + 1 ∧ σ1 21 7 = 3 ∧ σ1 21 8 = 0 ∧ (∀ c k : Nat, ¬ (c = 22 ∨ (c = 21 ∧ (k = 3 ∨ k = 7 ∨ k = 8 ∨ k = 9 ∨ k = 10))) → σ1 c k = σ c k) ∧ σ1 21 9 = (if x1 = 0 then σ 21 9 ||| 1 else σ 21 9 ||| 0) := by
    intro s t y0 y1 h f h9
    unfold B_X5_addFact_34 at h
    obtain ⟨-, h⟩ := cb_some h
    obtain ⟨s2, e2, h⟩ := nm_some h
    have f2 : ∀ c k : Nat, ¬ (c = 21 ∧ (k = 9 ∨ k = 10)) → s2 c k = σ c k := fun c k hh => by rw [e2, up2_ne (by omega)]; exact f c k (by omega)
    obtain ⟨u3, s3, t3, q3, h⟩ := bd_some h
    obtain ⟨a1, a2, a3⟩ := x_addStep (hv_fr hV (fun k _ => f2 22 k (by omega))) (by rw [f2 21 3 (by omega)]; exact hl) h40 q3
    obtain ⟨s4, e4, h⟩ := nm_some h
    obtain ⟨s5, e5, h⟩ := nm_some h
    obtain ⟨-, rfl, -⟩ := sm_inj h
    have f5 : ∀ c k : Nat, ¬ (c = 21 ∧ (k = 7 ∨ k = 8)) → s5 c k = s3 c k := fun c k hh => by rw [e5, up2_ne (by omega), e4, up2_ne (by omega)]
    exact ⟨hv_fr a1 (fun k _ => f5 22 k (by omega)), by rw [f5 21 3 (by omega)]; exact a2, by rw [e5, up2_ne (by omega), e4, up_eq], by rw [e5, up_eq], fun c k hh => (f5 c k (by omega)).trans ((a3 c k (by omega)).trans (f2 c k (by omega))), by rw [f5 21 9 (by omega), a3 21 9 (by omega), e2, up2_ne (by omega)]; exact h9⟩
  unfold B_X5_addFact_0 at h
  by_cases c : x1 = 0
  · rw [if_pos c] at h
    obtain ⟨-, h⟩ := cb_some h
    obtain ⟨s6, e6, h⟩ := nm_some h
    have e9 : s6 21 9 = (if x1 = 0 then σ 21 9 ||| 1 else σ 21 9 ||| 0) := by rw [e6, up_eq, if_pos c]
    by_cases c6 : x1 = 6
    · rw [if_pos c6] at h
      exact G s6 _ _ _ h (fun c k hh => by rw [e6]; exact up2_ne hh) e9
    · rw [if_neg c6] at h
      exact G s6 _ _ _ h (fun c k hh => by rw [e6]; exact up2_ne hh) e9
  · rw [if_neg c] at h
    obtain ⟨-, h⟩ := cb_some h
    obtain ⟨s6, e6, h⟩ := nm_some h
    have e9 : s6 21 9 = (if x1 = 0 then σ 21 9 ||| 1 else σ 21 9 ||| 0) := by rw [e6, up_eq, if_neg c]
    by_cases c6 : x1 = 6
    · rw [if_pos c6] at h
      exact G s6 _ _ _ h (fun c k hh => by rw [e6]; exact up2_ne hh) e9
    · rw [if_neg c6] at h
      exact G s6 _ _ _ h (fun c k hh => by rw [e6]; exact up2_ne hh) e9
/-- a step told -/
def CS (σ σ1 : gI) (K : Int → Int) (q : Qs) (A : Int) (r : Int32) : Prop := (∀ c k : Nat, ¬ (21 ≤ c ∧ c ≤ 24) → σ1 c k = σ c k) ∧ ((r = 0 ∧ st q (K A) = none) ∨ (r = 1 ∧ ∃ (w : Bool) (d : Int) (F : List (Bool × List Int)) (out : List Int), st q (K A) = some (w, d, F, out) ∧ CR σ1 w d F out (A + 1)))
theorem c_thing {x2 : Int32} {A d : Int} {c : Bool} {H : List Int} {S : List (Bool × List Int)} {out : List Int} (hKd : K = lk (σ 2) (σ 1 1).toInt) (hm : (σ 1 1).toInt ≤ 80) (hK : ∀ i, K i ≤ 255) (hKm : ∀ i, K i ≠ -1 → i < 40) (hx : x2.toInt = A) (hC : CR σ true d ((c, H) :: S) out A) (h : B_X5_takeThing_0 N σ τ x2 = some (r, σ1, τ1)) : CS σ σ1 K (true, d, (c, H) :: S, out) A r := by
  have l0 : (0 : Int32).toInt = 0 := rfl
  have l1 : (1 : Int32).toInt = 1 := rfl
  have l4 : (4 : Int32).toInt = 4 := rfl
  have l32 : (32 : Int32).toInt = 32 := rfl
  have hK0 := hK A
  obtain ⟨c8, -, c5, cF, cB, ⟨cH, cHl⟩, ⟨cO, cOl⟩, cA, -, cP, cV⟩ := hC
  have ol : (out.map en).length = out.length := List.length_map ..
  have fl : ((c, H) :: S).length = S.length + 1 := rfl
  unfold B_X5_takeThing_0 at h
  obtain ⟨r1, s1, t1, q1, h⟩ := bd_some h
  obtain ⟨⟨rfl, rfl⟩, k1⟩ := x_fact6 hm (by rw [← hKd, hx]; exact hK0) q1
  rw [← hKd, hx] at k1
  obtain ⟨r2, s2, t2, q2, h⟩ := bd_some h
  obtain ⟨⟨rfl, rfl⟩, k2⟩ := x_digit4 hm q2
  rw [← hKd, hx] at k2
  have g7 := ft_rng (K A)
  have g9 := dg_rng (K A)
  by_cases d1 : r1 < 0
  · rw [if_pos d1] at h
    rw [fa_lt] at d1
    by_cases d2 : r2 < 0
    · rw [if_pos d2] at h
      rw [fa_lt] at d2
      obtain ⟨r5, s5, t5, q5, h⟩ := bd_some h
      obtain ⟨⟨rfl, rfl⟩, k5⟩ := x_has4 hm q5
      rw [← hKd, hx] at k5
      rcases k5 with ⟨k5, k6⟩ | ⟨k5, k6⟩
      · rw [if_neg (show ¬ r5 = 0 by rw [k5]; decide)] at h
        have e45 : K A = 45 := k6
        have a40 := hKm A (by rw [e45]; decide)
        obtain ⟨u13, s13, t13, q13, h⟩ := bd_some h
        obtain ⟨rfl, rfl, -⟩ := sm_inj h
        obtain ⟨a1, a2, a3⟩ := x_hold cH cHl (by omega) q13
        have ehs : hs ((c, 3000 :: H) :: S) = 8 :: hs ((c, H) :: S) := by rw [hs_cons, hs_cons]; rfl
        refine ⟨fun c k hh => a3 c k (by omega), Or.inr ⟨rfl, true, d, (c, 3000 :: H) :: S, out, by rw [e45]; exact st_neg, ?_⟩⟩
        refine ⟨by rw [a3 21 8 (by omega)]; exact c8, fun z => (by cases z), by rw [a3 21 5 (by omega)]; exact c5, cF, cb_fr (σ := σ) (F := (c, 3000 :: H) :: S) ⟨cB.1, cB.2⟩ (fun i _ => by rw [a3 21 6 (by omega)]), ⟨by rw [ehs]; exact a1, ?_⟩, ⟨hv_fr cO (fun k _ => a3 22 k (by omega)), by rw [a3 21 3 (by omega)]; exact cOl⟩, ?_, fun z => (by cases z), ?_, va_fr cV (a3 21 9 (by omega))⟩
        · rw [a2, ehs]
          rfl
        · rw [ehs]
          show (out.length : Int) + (((hs ((c, H) :: S)).length + 1 : Nat) : Int) ≤ A + 1
          omega
        · intro f hf x hx9
          rcases List.mem_cons.mp hf with e | e
          · rw [e] at hx9
            rcases List.mem_cons.mp hx9 with e2 | e2
            · rw [e2]; exact Or.inl rfl
            · exact cP (c, H) (List.mem_cons_self ..) x e2
          · exact cP f (List.mem_cons_of_mem _ e) x hx9
      · rw [if_pos k5] at h
        have n45 : K A ≠ 45 := k6
        obtain ⟨r7, s7, t7, q7, h⟩ := bd_some h
        obtain ⟨⟨rfl, rfl⟩, k7⟩ := x_has4 hm q7
        rw [← hKd, hx] at k7
        rcases k7 with ⟨k7, k8⟩ | ⟨k7, k8⟩
        · rw [if_neg (show ¬ r7 = 0 by rw [k7]; decide)] at h
          have e40 : K A = 40 := k8
          have a40 := hKm A (by rw [e40]; decide)
          by_cases d5 : 4 ≤ σ 21 5
          · rw [if_pos d5] at h
            rw [fa_le] at d5
            obtain ⟨rfl, rfl, -⟩ := sm_inj h
            refine ⟨fun _ _ _ => rfl, Or.inl ⟨rfl, st_wno (by omega) (by omega) n45 (fun z => ?_)⟩⟩
            have z2 : S.length + 1 ≤ 4 := z.2
            omega
          · rw [if_neg d5] at h
            rw [fa_le] at d5
            obtain ⟨s10, e10, h⟩ := nm_some h
            have g10 : (s10 21 5).toInt = ((S.length + 1 : Nat) : Int) := by rw [e10, up_eq, ti_add (by omega) (by omega), l1]; omega
            have f10 : ∀ c k : Nat, ¬ (c = 21 ∧ k = 5) → s10 c k = σ c k := fun c k hh => by rw [e10]; exact up2_ne hh
            obtain ⟨s11, e11, h⟩ := nm_some h
            have f11 : ∀ c k : Nat, ¬ (c = 21 ∧ k = 6) → s11 c k = s10 c k := fun c k hh => by rw [e11]; exact up2_ne hh
            have o10 : s10 21 5 = Int32.ofNat (S.length + 1) := (fa_eq _ _).mpr (by rw [ofn_ti (by omega)]; exact g10)
            have b11 : ∀ j : Nat, j < 32 → bt (s11 21 6) j = if S.length + 1 = j then false else bt (σ 21 6) j := fun j hj => by
              rw [e11, up_eq, o10, f10 21 6 (by omega)]
              exact bt_clr (by omega) hj
            obtain ⟨u12, s12, t12, q12, h⟩ := bd_some h
            obtain ⟨rfl, rfl, -⟩ := sm_inj h
            obtain ⟨a1, a2, a3⟩ := x_hold (hv_fr cH (fun k _ => (f11 24 k (by omega)).trans (f10 24 k (by omega)))) (by rw [f11 21 4 (by omega), f10 21 4 (by omega)]; exact cHl) (by omega) q12
            have Fx : ∀ c k : Nat, ¬ (c = 24 ∨ (c = 21 ∧ (k = 4 ∨ k = 5 ∨ k = 6))) → s12 c k = σ c k := fun c k hh => (a3 c k (by omega)).trans ((f11 c k (by omega)).trans (f10 c k (by omega)))
            have ehs : hs ((false, []) :: (c, H) :: S) = 16 :: hs ((c, H) :: S) := rfl
            refine ⟨fun c k hh => Fx c k (by omega), Or.inr ⟨rfl, true, d, (false, []) :: (c, H) :: S, out, by rw [e40]; exact st_open (show S.length + 1 ≤ 4 by omega), ?_⟩⟩
            refine ⟨by rw [Fx 21 8 (by omega)]; exact c8, fun z => (by cases z), ?_, ⟨Nat.le_add_left .., show S.length + 1 + 1 ≤ 5 by omega⟩, ⟨?_, cb_fr cB (fun i hi => ?_)⟩, ⟨by rw [ehs]; exact a1, by rw [a2, ehs]; rfl⟩, ⟨hv_fr cO (fun k _ => Fx 22 k (by omega)), by rw [Fx 21 3 (by omega)]; exact cOl⟩, ?_, fun z => (by cases z), ?_, va_fr cV (Fx 21 9 (by omega))⟩
            · rw [a3 21 5 (by omega), f11 21 5 (by omega), g10]
              show ((S.length + 1 : Nat) : Int) = ((S.length + 1 + 1 : Nat) : Int) - 1
              omega
            · rw [a3 21 6 (by omega)]
              show bt (s11 21 6) (S.length + 1) = false
              rw [b11 _ (by omega), if_pos rfl]
            · rw [a3 21 6 (by omega), b11 i (by omega), if_neg (by omega)]
            · rw [ehs]
              show (out.length : Int) + (((hs ((c, H) :: S)).length + 1 : Nat) : Int) ≤ A + 1
              omega
            · intro f hf x hx9
              rcases List.mem_cons.mp hf with e | e
              · rw [e] at hx9
                exact absurd hx9 (List.not_mem_nil)
              · exact cP f e x hx9
        · rw [if_pos k7] at h
          obtain ⟨rfl, rfl, -⟩ := sm_inj h
          exact ⟨fun _ _ _ => rfl, Or.inl ⟨rfl, st_wno (by omega) (by omega) n45 (fun z => k8 z.1)⟩⟩
    · rw [if_neg d2] at h
      rw [fa_lt] at d2
      have a40 := hKm A (fun z => by rw [z] at k2; exact absurd k2 (by intro w; have : r2.toInt = -1 := w; omega))
      obtain ⟨u14, s14, t14, q14, h⟩ := bd_some h
      obtain ⟨s15, e15, h⟩ := nm_some h
      obtain ⟨s16, e16, h⟩ := nm_some h
      obtain ⟨rfl, rfl, -⟩ := sm_inj h
      obtain ⟨a1, a2, a3⟩ := x_addStep (o := out.map en) cO (by rw [ol]; exact cOl) (by omega) q14
      have f16 : ∀ c k : Nat, ¬ (c = 21 ∧ (k = 7 ∨ k = 8)) → s16 c k = s14 c k := fun c k hh => by rw [e16, up2_ne (by omega), e15, up2_ne (by omega)]
      have Fx : ∀ c k : Nat, ¬ (c = 22 ∨ (c = 21 ∧ (k = 3 ∨ k = 7 ∨ k = 8))) → s16 c k = σ c k := fun c k hh => (f16 c k (by omega)).trans (a3 c k (by omega))
      have een : ((32 : Int32) + r2).toInt = en (dg4 (K A)) := by
        rw [ti_add (by omega) (by omega), l32, k2]
        unfold en
        rw [if_neg (by omega), if_neg (by omega), if_neg (by omega), if_neg (by omega)]
      rw [een] at a1
      refine ⟨fun c k hh => Fx c k (by omega), Or.inr ⟨rfl, false, 1, (c, H) :: S, dg4 (K A) :: out, st_dig (by omega) (by omega), ?_⟩⟩
      refine ⟨by rw [e16, up_eq]; rfl, fun _ => by rw [e16, up2_ne (by omega), e15, up_eq]; rfl, by rw [Fx 21 5 (by omega)]; exact c5, cF, cb_fr cB (fun i _ => by rw [Fx 21 6 (by omega)]), ⟨hv_fr cH (fun k _ => Fx 24 k (by omega)), by rw [Fx 21 4 (by omega)]; exact cHl⟩, ⟨hv_fr a1 (fun k _ => f16 22 k (by omega)), ?_⟩, ?_, fun _ => Or.inr ⟨Or.inl rfl, _, _, rfl, by omega, fun _ => by omega, by omega⟩, cP, va_cons (va_fr cV (Fx 21 9 (by omega))) (Or.inl (by omega)) (by omega)⟩
      · rw [f16 21 3 (by omega), a2, ol]
        rfl
      · show ((out.length + 1 : Nat) : Int) + _ ≤ A + 1
        omega
  · rw [if_neg d1] at h
    rw [fa_lt] at d1
    have a40 := hKm A (fun z => by rw [z] at k1; exact absurd k1 (by intro w; have : r1.toInt = -1 := w; omega))
    obtain ⟨u17, s17, t17, q17, h⟩ := bd_some h
    obtain ⟨rfl, rfl, -⟩ := sm_inj h
    obtain ⟨a1, a2, a7, a8, a3, a9⟩ := x_addFact (o := out.map en) cO (by rw [ol]; exact cOl) (by omega) q17
    have een : r1.toInt = en (1000 + ft (K A)) := by
      rw [k1]
      unfold en
      rw [if_neg (by omega), if_neg (by omega), if_neg (by omega), if_pos (by omega)]
      omega
    rw [een] at a1
    refine ⟨fun c k hh => a3 c k (by omega), Or.inr ⟨rfl, false, 3, (c, H) :: S, (1000 + ft (K A)) :: out, st_fact (by omega), ?_⟩⟩
    refine ⟨by rw [a8]; rfl, fun _ => by rw [a7]; rfl, by rw [a3 21 5 (by omega)]; exact c5, cF, cb_fr cB (fun i _ => by rw [a3 21 6 (by omega)]), ⟨hv_fr cH (fun k _ => a3 24 k (by omega)), by rw [a3 21 4 (by omega)]; exact cHl⟩, ⟨a1, ?_⟩, ?_, fun _ => Or.inl rfl, cP, ?_⟩
    rotate_left 2
    · obtain ⟨v1, v2, v3⟩ := cV
      refine ⟨fun x hx => ?_, ?_, fun z x hx => ?_⟩
      · rcases List.mem_cons.mp hx with e | e
        · rw [e]; exact Or.inl (by omega)
        · exact v1 x e
      · rw [a9]
        by_cases c9 : r1 = 0
        · rw [if_pos c9]
          rcases v2 with e | e <;> rw [e] <;> decide
        · rw [if_neg c9]
          rcases v2 with e | e <;> rw [e] <;> decide
      · rw [a9] at z
        by_cases c9 : r1 = 0
        · rw [if_pos c9] at z
          rcases v2 with e | e <;> (rw [e] at z; exact absurd z (by decide))
        · rw [if_neg c9] at z
          rw [fa_eq, l0] at c9
          have z0 : σ 21 9 = 0 := by
            rcases v2 with e | e
            · exact e
            · rw [e] at z; exact absurd z (by decide)
          rcases List.mem_cons.mp hx with e | e
          · rw [e]; omega
          · exact v3 z0 x e
    · rw [a2, ol]
      rfl
    · show ((out.length + 1 : Nat) : Int) + _ ≤ A + 1
      omega
end RU6D
