/-! THE RULE'S READER OF THE REFERENCE -/
def CV (σ : gI) : List Int → Prop
  | [] => True
  | x :: o => (σ 217 o.length).toInt = x ∧ CV σ o
theorem cv_fr {σ σ1 : gI} : ∀ {o : List Int}, CV σ o → (∀ k : Nat, k < o.length → σ1 217 k = σ 217 k) → CV σ1 o := by
  intro o
  induction o with
  | nil => intro _ _; trivial
  | cons x o ih =>
    intro h f
    have hl : o.length < (x :: o).length := Nat.lt_succ_self _
    exact ⟨by rw [f o.length hl]; exact h.1, ih h.2 (fun k hk => f k (Nat.lt_trans hk hl))⟩
def RH (σ : gI) (K : Int → Int) (T A v : Int) (out : List Int) : Prop := K = lk (σ 208) (σ 199 15).toInt ∧ (σ 199 15).toInt = T ∧ (σ 199 14).toInt = A ∧ (σ 199 16).toInt = v ∧ CV σ out ∧ (σ 199 29).toInt = out.length
section RU6R
variable {N : Nat} {σ σ1 : gI} {τ τ1 : gJ} {r : Int32} {K : Int → Int} {T A A1 v : Int} {out : List Int}
theorem rh_14 (h : RH σ K T A v out) (f : ∀ c k : Nat, ¬ (c = 199 ∧ k = 14) → σ1 c k = σ c k) (e : (σ1 199 14).toInt = A1) : RH σ1 K T A1 v out := by
  obtain ⟨a, b, -, d, g, i⟩ := h
  exact ⟨by rw [show σ1 208 = σ 208 from funext fun k => f 208 k (by omega), f 199 15 (by omega)]; exact a, by rw [f 199 15 (by omega)]; exact b, e, by rw [f 199 16 (by omega)]; exact d, cv_fr g (fun k _ => f 217 k (by omega)), by rw [f 199 29 (by omega)]; exact i⟩
theorem rh_16 {v1 : Int} (h : RH σ K T A v out) (f : ∀ c k : Nat, ¬ (c = 199 ∧ k = 16) → σ1 c k = σ c k) (e : (σ1 199 16).toInt = v1) : RH σ1 K T A v1 out := by
  obtain ⟨a, b, d, -, g, i⟩ := h
  exact ⟨by rw [show σ1 208 = σ 208 from funext fun k => f 208 k (by omega), f 199 15 (by omega)]; exact a, by rw [f 199 15 (by omega)]; exact b, by rw [f 199 14 (by omega)]; exact d, e, cv_fr g (fun k _ => f 217 k (by omega)), by rw [f 199 29 (by omega)]; exact i⟩
theorem x_codes {x1 : Int32} {u : Unit} (h : RH σ K T A v out) (q : B_X12_codes_0 N σ τ x1 = some (u, σ1, τ1)) : RH σ1 K T A v (x1.toInt :: out) ∧ ∀ c k : Nat, ¬ (c = 217 ∨ (c = 199 ∧ k = 29)) → σ1 c k = σ c k := by
  have l1 : (1 : Int32).toInt = 1 := rfl
  obtain ⟨a, b, d, e, g, i⟩ := h
  unfold B_X12_codes_0 at q
  have nn := nat_of_toInt (i := σ 199 29) (by omega)
  obtain ⟨j, kj, b3, q⟩ := ck_some q
  have b4 : ¬ (σ 199 29 < 0 ∨ 80 ≤ (σ 199 29).toNatClampNeg) := b3
  have b5 := Nat.lt_of_not_le (fun q => b4 (Or.inr q))
  obtain ⟨s2, e2, q⟩ := nm_some q
  obtain ⟨s3, e3, q⟩ := nm_some q
  obtain ⟨-, rfl, -⟩ := sm_inj q
  have hj : j = out.length := by omega
  rw [hj] at e2
  have g2 : s2 199 29 = σ 199 29 := by rw [e2, up2_ne (by omega)]
  have f : ∀ c k : Nat, ¬ ((c = 217 ∧ k = out.length) ∨ (c = 199 ∧ k = 29)) → s3 c k = σ c k := fun c k hh => by rw [e3, up2_ne (by omega), e2, up2_ne (by omega)]
  refine ⟨⟨by rw [show s3 208 = σ 208 from funext fun k => f 208 k (by omega), f 199 15 (by omega)]; exact a, by rw [f 199 15 (by omega)]; exact b, by rw [f 199 14 (by omega)]; exact d, by rw [f 199 16 (by omega)]; exact e, ⟨?_, cv_fr g (fun k hk => f 217 k (by omega))⟩, ?_⟩, fun c k hh => f c k (by omega)⟩
  · rw [e3, up2_ne (by omega), e2, up_eq]
  · show (s3 199 29).toInt = ((out.length + 1 : Nat) : Int)
    rw [e3, up_eq, g2, ti_add (by omega) (by omega), l1]
    omega
theorem x_tkv {x1 : Int32} (hv : 0 ≤ x1.toInt) (hH : RH σ K T A v out) (hA : 0 ≤ A ∧ A ≤ T ∧ T ≤ 40) (h : B_X12_takes_0 N σ τ x1 = some (r, σ1, τ1)) : (∀ c k : Nat, ¬ (c = 199 ∧ k = 14) → σ1 c k = σ c k) ∧ ((r = 1 ∧ K A = x1.toInt ∧ RH σ1 K T (A + 1) v out ∧ A < T) ∨ (r = 0 ∧ ¬ K A = x1.toInt ∧ RH σ1 K T A v out)) := by
  have l0 : (0 : Int32).toInt = 0 := rfl
  have l1 : (1 : Int32).toInt = 1 := rfl
  obtain ⟨hKd, eT, eA, -⟩ := id hH
  have G : ∀ y0 : Int32, y0 = 0 ∨ y0 = 1 → B_X12_takes_29 N σ τ y0 = some (r, σ1, τ1) → (∀ c k : Nat, ¬ (c = 199 ∧ k = 14) → σ1 c k = σ c k) ∧ r = y0 ∧ (σ1 199 14).toInt = (σ 199 14).toInt + y0.toInt := by
    intro y0 hy h
    unfold B_X12_takes_29 at h
    obtain ⟨r1, s1, t1, q1, h⟩ := bd_some h
    have k1 : σ = s1 ∧ r1 = y0 := by
      unfold B_X12_flag_0 at q1
      rcases hy with rfl | rfl
      · rw [if_pos (show (0 : Int32) = 0 from rfl)] at q1
        obtain ⟨a, b, -⟩ := sm_inj q1
        exact ⟨b, a.symm⟩
      · rw [if_neg (show ¬ (1 : Int32) = 0 by decide)] at q1
        obtain ⟨a, b, -⟩ := sm_inj q1
        exact ⟨b, a.symm⟩
    obtain ⟨rfl, rfl⟩ := k1
    obtain ⟨s2, e2, h⟩ := nm_some h
    obtain ⟨-, h⟩ := cb_some h
    obtain ⟨rfl, rfl, -⟩ := sm_inj h
    refine ⟨fun c k hh => by rw [e2]; exact up2_ne hh, rfl, ?_⟩
    rw [e2, up_eq]
    rcases hy with rfl | rfl <;> rw [ti_add (by omega) (by omega)]
  unfold B_X12_takes_0 at h
  by_cases c : σ 199 15 ≤ σ 199 14
  · rw [if_pos c] at h
    rw [fa_le] at c
    obtain ⟨f, e, g⟩ := G 0 (Or.inl rfl) h
    refine ⟨f, Or.inr ⟨e, ?_, rh_14 hH f (by omega)⟩⟩
    rw [hKd]
    unfold lk
    rw [if_neg (by omega)]
    omega
  · rw [if_neg c] at h
    rw [fa_le] at c
    have nn := nat_of_toInt (i := σ 199 14) (by omega)
    obtain ⟨j, ej, -, h⟩ := ck_some h
    have eK : K A = (σ 208 j).toInt := by
      rw [hKd]
      unfold lk
      rw [if_pos (by omega), show A.toNat = j by omega]
    by_cases d : σ 208 j = x1
    · rw [if_pos d] at h
      obtain ⟨f, e, g⟩ := G 1 (Or.inr rfl) h
      exact ⟨f, Or.inl ⟨e, by rw [eK, d], rh_14 hH f (by omega), by omega⟩⟩
    · rw [if_neg d] at h
      rw [fa_eq] at d
      obtain ⟨f, e, g⟩ := G 0 (Or.inl rfl) h
      exact ⟨f, Or.inr ⟨e, by rw [eK]; exact d, rh_14 hH f (by omega)⟩⟩
theorem x_isD (hH : RH σ K T A v out) (hA : 0 ≤ A ∧ A ≤ T ∧ T ≤ 40) (h : B_X12_isDigit_0 N σ τ = some (r, σ1, τ1)) : σ = σ1 ∧ ((r = 1 ∧ 0 ≤ dg4 (K A) ∧ A < T) ∨ (r = 0 ∧ ¬ 0 ≤ dg4 (K A))) := by
  have o48 : (48 : Int64).toInt = 48 := rfl
  have o57 : (57 : Int64).toInt = 57 := rfl
  obtain ⟨hKd, eT, eA, -⟩ := id hH
  unfold B_X12_isDigit_0 at h
  by_cases c : σ 199 15 ≤ σ 199 14
  · rw [if_pos c] at h
    rw [fa_le] at c
    obtain ⟨rfl, rfl, -⟩ := sm_inj h
    refine ⟨rfl, Or.inr ⟨rfl, ?_⟩⟩
    rw [hKd]
    unfold lk
    rw [if_neg (by omega)]
    decide
  · rw [if_neg c] at h
    rw [fa_le] at c
    have nn := nat_of_toInt (i := σ 199 14) (by omega)
    obtain ⟨j, ej, -, h⟩ := ck_some h
    have eK : K A = (σ 208 j).toInt := by
      rw [hKd]
      unfold lk
      rw [if_pos (by omega), show A.toNat = j by omega]
    obtain ⟨r3, s3, t3, q3, h⟩ := bd_some h
    obtain ⟨k0, k⟩ := x_in q3
    rw [Int32.toInt_toInt64, o48, o57] at k
    rw [eK]
    unfold dg4
    rcases k with ⟨k1, k2⟩ | ⟨k1, k2⟩
    · rw [if_neg (show ¬ r3 = 0 by rw [k1]; decide)] at h
      obtain ⟨rfl, w, -⟩ := sm_inj h
      exact ⟨by rw [← w, k0], Or.inl ⟨rfl, by rw [if_pos k2]; omega, by omega⟩⟩
    · rw [if_pos k1] at h
      obtain ⟨rfl, w, -⟩ := sm_inj h
      exact ⟨by rw [← w, k0], Or.inr ⟨rfl, by rw [if_neg k2]; omega⟩⟩
theorem x_tkf {bs : List Int32} (hl : bs.length ≤ 20) (hb : ∀ k : Nat, k < bs.length → chv (bs.getD k 0) = bs.getD k 0) (hb2 : ∀ k : Nat, k < bs.length → 0 ≤ (bs.getD k 0).toInt) (hH : RH σ K T A v out) (hA : 0 ≤ A ∧ A ≤ T ∧ T ≤ 40) (h : B_X12_takesOf_0 N bs σ τ = some (r, σ1, τ1)) : (∀ c k : Nat, ¬ (c = 199 ∧ k = 14) → σ1 c k = σ c k) ∧ ((RH σ1 K T (A + 1) v out ∧ A < T ∧ ∃ k : Nat, k < bs.length ∧ r.toInt = k ∧ (bs.getD k 0).toInt = K A) ∨ (r.toInt = -1 ∧ RH σ1 K T A v out ∧ ∀ k : Nat, k < bs.length → (bs.getD k 0).toInt ≠ K A)) := by
  obtain ⟨hKd, eT, eA, -⟩ := id hH
  obtain ⟨f, z⟩ := x_tk hl hb hb2 hKd (by omega) h
  rw [eA] at z
  refine ⟨f, ?_⟩
  rcases z with ⟨z0, z1, z2, z3⟩ | ⟨z1, z2, z3⟩
  · exact Or.inl ⟨rh_14 hH f z1, by omega, z3⟩
  · exact Or.inr ⟨z1, rh_14 hH f z2, z3⟩
theorem ft_at : ∀ k : Nat, k < sb_15.length → ft (sb_15.getD k 0).toInt = k := by decide
theorem ft_no {v : Int} (h : ∀ k : Nat, k < sb_15.length → (sb_15.getD k 0).toInt ≠ v) : ft v = -1 := by
  have q0 : (112 : Int) ≠ v := h 0 (by decide)
  have q1 : (109 : Int) ≠ v := h 1 (by decide)
  have q2 : (119 : Int) ≠ v := h 2 (by decide)
  have q3 : (105 : Int) ≠ v := h 3 (by decide)
  have q4 : (98 : Int) ≠ v := h 4 (by decide)
  have q5 : (99 : Int) ≠ v := h 5 (by decide)
  have q6 : (110 : Int) ≠ v := h 6 (by decide)
  have q7 : (102 : Int) ≠ v := h 7 (by decide)
  unfold ft
  rw [if_neg (by omega), if_neg (by omega), if_neg (by omega), if_neg (by omega), if_neg (by omega), if_neg (by omega), if_neg (by omega), if_neg (by omega)]
theorem tk_fact (hH : RH σ K T A v out) (hA : 0 ≤ A ∧ A ≤ T ∧ T ≤ 40) (h : B_X12_takesOf_0 N sb_15 σ τ = some (r, σ1, τ1)) : (∀ c k : Nat, ¬ (c = 199 ∧ k = 14) → σ1 c k = σ c k) ∧ ((0 ≤ r.toInt ∧ ft (K A) = r.toInt ∧ RH σ1 K T (A + 1) v out ∧ A < T) ∨ (r.toInt = -1 ∧ ¬ 0 ≤ ft (K A) ∧ RH σ1 K T A v out)) := by
  obtain ⟨f, z⟩ := x_tkf (by decide) (by decide) (by decide) hH hA h
  refine ⟨f, ?_⟩
  rcases z with ⟨z1, z2, k, z3, z4, z5⟩ | ⟨z1, z2, z3⟩
  · exact Or.inl ⟨by omega, by rw [← z5, ft_at k z3]; exact z4.symm, z1, z2⟩
  · exact Or.inr ⟨z1, by rw [ft_no z3]; decide, z2⟩
/-- the joints of a level: base, level -/
theorem tk_j0 (hH : RH σ K T A v out) (hA : 0 ≤ A ∧ A ≤ T ∧ T ≤ 40) (h : B_X12_takesOf_0 N sb_16 σ τ = some (r, σ1, τ1)) : (∀ c k : Nat, ¬ (c = 199 ∧ k = 14) → σ1 c k = σ c k) ∧ ((0 ≤ r.toInt ∧ r.toInt ≤ 2 ∧ jc (K A) = 2000 + r.toInt ∧ rk (jc (K A)) = 1 ∧ RH σ1 K T (A + 1) v out ∧ A < T) ∨ (r.toInt = -1 ∧ ¬ (0 ≤ jc (K A) ∧ rk (jc (K A)) = 1) ∧ RH σ1 K T A v out)) := by
  obtain ⟨f, z⟩ := x_tkf (by decide) (by decide) (by decide) hH hA h
  refine ⟨f, ?_⟩
  have at6 : ∀ k : Nat, k < sb_16.length → jc (sb_16.getD k 0).toInt = 2000 + k ∧ rk (jc (sb_16.getD k 0).toInt) = 1 := by decide
  have len : sb_16.length = 3 := rfl
  rcases z with ⟨z1, z2, k, z3, z4, z5⟩ | ⟨z1, z2, z3⟩
  · have q := at6 k z3
    rw [z5] at q
    exact Or.inl ⟨by omega, by omega, by rw [q.1, z4], q.2, z1, z2⟩
  · refine Or.inr ⟨z1, fun w => ?_, z2⟩
    have q0 : (60 : Int) ≠ K A := z3 0 (by decide)
    have q1 : (62 : Int) ≠ K A := z3 1 (by decide)
    have q2 : (61 : Int) ≠ K A := z3 2 (by decide)
    have := rk_jc w.1
    omega
theorem tk_j1 (hH : RH σ K T A v out) (hA : 0 ≤ A ∧ A ≤ T ∧ T ≤ 40) (h : B_X12_takesOf_0 N sb_17 σ τ = some (r, σ1, τ1)) : (∀ c k : Nat, ¬ (c = 199 ∧ k = 14) → σ1 c k = σ c k) ∧ ((0 ≤ r.toInt ∧ r.toInt ≤ 2 ∧ jc (K A) = 2003 + r.toInt ∧ rk (jc (K A)) = 2 ∧ RH σ1 K T (A + 1) v out ∧ A < T) ∨ (r.toInt = -1 ∧ ¬ (0 ≤ jc (K A) ∧ rk (jc (K A)) = 2) ∧ RH σ1 K T A v out)) := by
  obtain ⟨f, z⟩ := x_tkf (by decide) (by decide) (by decide) hH hA h
  refine ⟨f, ?_⟩
  have at6 : ∀ k : Nat, k < sb_17.length → jc (sb_17.getD k 0).toInt = 2003 + k ∧ rk (jc (sb_17.getD k 0).toInt) = 2 := by decide
  have len : sb_17.length = 2 := rfl
  rcases z with ⟨z1, z2, k, z3, z4, z5⟩ | ⟨z1, z2, z3⟩
  · have q := at6 k z3
    rw [z5] at q
    exact Or.inl ⟨by omega, by omega, by rw [q.1, z4], q.2, z1, z2⟩
  · refine Or.inr ⟨z1, fun w => ?_, z2⟩
    have q0 : (43 : Int) ≠ K A := z3 0 (by decide)
    have q1 : (45 : Int) ≠ K A := z3 1 (by decide)
    have := rk_jc w.1
    omega
theorem tk_j2 (hH : RH σ K T A v out) (hA : 0 ≤ A ∧ A ≤ T ∧ T ≤ 40) (h : B_X12_takesOf_0 N sb_18 σ τ = some (r, σ1, τ1)) : (∀ c k : Nat, ¬ (c = 199 ∧ k = 14) → σ1 c k = σ c k) ∧ ((0 ≤ r.toInt ∧ r.toInt ≤ 2 ∧ jc (K A) = 2005 + r.toInt ∧ rk (jc (K A)) = 3 ∧ RH σ1 K T (A + 1) v out ∧ A < T) ∨ (r.toInt = -1 ∧ ¬ (0 ≤ jc (K A) ∧ rk (jc (K A)) = 3) ∧ RH σ1 K T A v out)) := by
  obtain ⟨f, z⟩ := x_tkf (by decide) (by decide) (by decide) hH hA h
  refine ⟨f, ?_⟩
  have at6 : ∀ k : Nat, k < sb_18.length → jc (sb_18.getD k 0).toInt = 2005 + k ∧ rk (jc (sb_18.getD k 0).toInt) = 3 := by decide
  have len : sb_18.length = 2 := rfl
  rcases z with ⟨z1, z2, k, z3, z4, z5⟩ | ⟨z1, z2, z3⟩
  · have q := at6 k z3
    rw [z5] at q
    exact Or.inl ⟨by omega, by omega, by rw [q.1, z4], q.2, z1, z2⟩
  · refine Or.inr ⟨z1, fun w => ?_, z2⟩
    have q0 : (42 : Int) ≠ K A := z3 0 (by decide)
    have q1 : (47 : Int) ≠ K A := z3 1 (by decide)
    have := rk_jc w.1
    omega
theorem dg_sg {j : Nat} (hH : RH σ K T A v out) (hA : 0 ≤ A ∧ A < T) (hj : j = A.toNat) (hd : 0 ≤ dg4 (K A)) : (σ 208 j).toInt = 48 + dg4 (K A) ∧ dg4 (K A) ≤ 9 := by
  obtain ⟨hKd, eT, -⟩ := id hH
  have eK : K A = (σ 208 j).toInt := by
    rw [hKd]
    unfold lk
    rw [if_pos (by omega), hj]
  rw [eK] at hd ⊢
  unfold dg4 at hd ⊢
  by_cases c : 48 ≤ (σ 208 j).toInt ∧ (σ 208 j).toInt ≤ 57
  · rw [if_pos c]
    omega
  · rw [if_neg c] at hd
    omega
/-- the digits behind the first -/
theorem x_num {c : Bool} {H : List Int} {S : List (Bool × List Int)} (hT : T ≤ 40) : ∀ (n : Nat) (s : gI) (t : gJ) (x2 x3 r : Int32) (σ1 : gI) (τ1 : gJ) (A : Int), H_X12_numberOf_13 N n s t 3 x2 x3 = some (r, σ1, τ1) → RH s K T A v out → (0 ≤ A ∧ A ≤ T) → (1 ≤ x3.toInt ∧ x3.toInt ≤ 3) → (0 ≤ x2.toInt ∧ (x3.toInt = 1 → x2.toInt ≤ 9) ∧ (x3.toInt = 2 → x2.toInt ≤ 99)) → (∀ c k : Nat, ¬ (c = 199 ∧ k = 14) → σ1 c k = s c k) ∧ ∃ (m : Nat) (i : Int), rn K m A (false, x3.toInt, (c, H) :: S, x2.toInt :: out) = some (false, i, (c, H) :: S, r.toInt :: out) ∧ RH σ1 K T (A + m) v out ∧ A + m ≤ T ∧ (0 ≤ dg4 (K (A + m)) → 3 ≤ i) := by
  have l1 : (1 : Int32).toInt = 1 := rfl
  have l3 : (3 : Int32).toInt = 3 := rfl
  have l10 : (10 : Int32).toInt = 10 := rfl
  have l48 : (48 : Int32).toInt = 48 := rfl
  intro n
  induction n with
  | zero => intro s t x2 x3 r σ1 τ1 A h; cases h
  | succ n ih =>
    intro s t x2 x3 r σ1 τ1 A h hH hA h3 h2
    have h : C_X12_numberOf_13 N (H_X12_numberOf_13 N n) s t 3 x2 x3 = some (r, σ1, τ1) := h
    unfold C_X12_numberOf_13 at h
    have stop : ∀ i : Int, (0 ≤ dg4 (K A) → 3 ≤ i) → ∀ s1 : gI, s = s1 → (∀ c k : Nat, ¬ (c = 199 ∧ k = 14) → s1 c k = s c k) ∧ ∃ (m : Nat) (i1 : Int), rn K m A (false, i, (c, H) :: S, x2.toInt :: out) = some (false, i1, (c, H) :: S, x2.toInt :: out) ∧ RH s1 K T (A + m) v out ∧ A + m ≤ T ∧ (0 ≤ dg4 (K (A + m)) → 3 ≤ i1) := by
      intro i hi s1 e
      rw [← e]
      refine ⟨fun _ _ _ => rfl, 0, i, rfl, ?_, ?_, ?_⟩
      · rw [show A + ((0 : Nat) : Int) = A by omega]; exact hH
      · omega
      · rw [show A + ((0 : Nat) : Int) = A by omega]; exact hi
    by_cases c3 : 3 ≤ x3
    · rw [if_pos c3] at h
      rw [fa_le] at c3
      obtain ⟨rfl, w, -⟩ := sm_inj h
      exact stop _ (fun _ => by omega) _ w
    · rw [if_neg c3] at h
      rw [fa_le] at c3
      obtain ⟨r2, s2, t2, q2, h⟩ := bd_some h
      obtain ⟨e2, k2⟩ := x_isD hH (by omega) q2
      rcases k2 with ⟨k2, k3, k4⟩ | ⟨k2, k3⟩
      · rw [if_neg (show ¬ r2 = 0 by rw [k2]; decide), ← e2] at h
        have eA := hH.2.2.1
        have nn := nat_of_toInt (i := s 199 14) (by omega)
        obtain ⟨j, ej, -, h⟩ := ck_some h
        obtain ⟨v5, e5, h⟩ := nm_some h
        obtain ⟨s6, e6, h⟩ := nm_some h
        obtain ⟨v7, e7, h⟩ := nm_some h
        obtain ⟨d1, d2⟩ := dg_sg (j := j) hH (by omega) (by omega) k3
        have u7 : v7.toInt = x3.toInt + 1 := by rw [e7, ti_add (by omega) (by omega), l1]
        have m10 : ((10 : Int32) * x2).toInt = 10 * x2.toInt := by rw [ti_mul (by rw [l10]; omega) (by rw [l10]; omega), l10]
        have m11 : ((10 : Int32) * x2 + s 208 j).toInt = 10 * x2.toInt + (s 208 j).toInt := by rw [ti_add (by omega) (by omega), m10]
        have u5 : v5.toInt = 10 * x2.toInt + dg4 (K A) := by rw [e5, ti_sub (by omega) (by omega), m11, l48]; omega
        have f6 : ∀ c k : Nat, ¬ (c = 199 ∧ k = 14) → s6 c k = s c k := fun c k hh => by rw [e6]; exact up2_ne hh
        have a6 : (s6 199 14).toInt = A + 1 := by rw [e6, up_eq, ti_add (by omega) (by omega), l1]; omega
        obtain ⟨g1, m, i, g2, g3, g4, g5⟩ := ih s6 t2 v5 v7 r σ1 τ1 (A + 1) h (rh_14 hH f6 a6) (by omega) (by omega) (by omega)
        refine ⟨fun c k hh => (g1 c k hh).trans (f6 c k hh), m + 1, i, ?_, ?_, by omega, ?_⟩
        · show (st (false, x3.toInt, (c, H) :: S, x2.toInt :: out) (K A)).bind (rn K m (A + 1)) = _
          rw [st_len k3 (by omega), ← u5, ← u7]
          exact g2
        · rw [show A + ((m + 1 : Nat) : Int) = A + 1 + m by omega]; exact g3
        · rw [show A + ((m + 1 : Nat) : Int) = A + 1 + m by omega]; exact g5
      · rw [if_pos k2] at h
        obtain ⟨rfl, w, -⟩ := sm_inj h
        exact stop _ (fun z => absurd z k3) _ (e2.trans w)
end RU6R
