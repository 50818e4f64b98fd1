/-! THE TOWN'S READER OF THE REFERENCE -/
section T4R
variable {N : Nat} {σ σ1 : gI} {τ τ1 : gJ} {r : Int32}
theorem kd_noI {v : Int} (h : ∀ k : Nat, k < sb_9.length → (sb_9.getD k 0).toInt ≠ v) : kd v = -1 := by
  have q0 : (103 : Int) ≠ v := h 0 (by decide)
  have q1 : (100 : Int) ≠ v := h 1 (by decide)
  have q2 : (102 : Int) ≠ v := h 2 (by decide)
  have q3 : (114 : Int) ≠ v := h 3 (by decide)
  have q4 : (109 : Int) ≠ v := h 4 (by decide)
  have q5 : (105 : Int) ≠ v := h 5 (by decide)
  have q6 : (107 : Int) ≠ v := h 6 (by decide)
  unfold kd
  rw [if_neg (by omega), if_neg (by omega), if_neg (by omega), if_neg (by omega), if_neg (by omega), if_neg (by omega), if_neg (by omega)]
theorem kd_at9 : ∀ k : Nat, k < sb_9.length → kd (sb_9.getD k 0).toInt = k := by decide
theorem lt_at : ∀ k : Nat, k < sb_10.length → (sb_10.getD k 0).toInt = 97 + k := by decide
theorem dg_at : ∀ i : Fin 11, ∀ k : Nat, k < (sb_11.drop i.val).length → ((sb_11.drop i.val).getD k 0).toInt = 48 + i.val + k := by decide
theorem dg_ch : ∀ i : Fin 11, ∀ k : Nat, k < (sb_11.drop i.val).length → chv ((sb_11.drop i.val).getD k 0) = (sb_11.drop i.val).getD k 0 := by decide
theorem dg_len : ∀ i : Fin 11, (sb_11.drop i.val).length = 10 - i.val := by decide
theorem x_tk {bs : List Int32} {K : Int → Int} (hl : bs.length ≤ 20) (hb : ∀ k : Nat, k < bs.length → chv (bs.getD k 0) = bs.getD k 0) (hb2 : ∀ k : Nat, k < bs.length → 0 ≤ (bs.getD k 0).toInt) (hKd : K = lk (σ 208) (σ 199 15).toInt) (hA : 0 ≤ (σ 199 14).toInt ∧ (σ 199 14).toInt ≤ (σ 199 15).toInt ∧ (σ 199 15).toInt ≤ 80) (h : B_X12_takesOf_0 N bs σ τ = some (r, σ1, τ1)) : (∀ c k : Nat, ¬ (c = 199 ∧ k = 14) → σ1 c k = σ c k) ∧ ((0 ≤ r.toInt ∧ (σ1 199 14).toInt = (σ 199 14).toInt + 1 ∧ (σ 199 14).toInt < (σ 199 15).toInt ∧ ∃ k : Nat, k < bs.length ∧ r.toInt = k ∧ (bs.getD k 0).toInt = K (σ 199 14).toInt) ∨ (r.toInt = -1 ∧ (σ1 199 14).toInt = (σ 199 14).toInt ∧ ∀ k : Nat, k < bs.length → (bs.getD k 0).toInt ≠ K (σ 199 14).toInt)) := by
  obtain ⟨f, z⟩ := x_takesOf hl hb (by omega) h
  refine ⟨f, ?_⟩
  rw [hKd]
  unfold lk
  rcases z with ⟨z1, z2, k, z3, z4, z5⟩ | ⟨z1, z2, z3⟩
  · rw [if_pos ⟨hA.1, z1⟩]
    exact Or.inl ⟨by omega, z2, z1, k, z3, z4, by rw [z5]⟩
  · refine Or.inr ⟨z1, z2, fun k hk => ?_⟩
    by_cases c : (σ 199 14).toInt < (σ 199 15).toInt
    · rw [if_pos ⟨hA.1, c⟩]
      rcases z3 with z3 | z3
      · exact absurd c z3
      · exact fun w => z3 k hk ((fa_eq _ _).mpr w)
    · rw [if_neg (fun w => c w.2)]
      have := hb2 k hk
      omega
theorem tk_kind {K : Int → Int} (hKd : K = lk (σ 208) (σ 199 15).toInt) (hA : 0 ≤ (σ 199 14).toInt ∧ (σ 199 14).toInt ≤ (σ 199 15).toInt ∧ (σ 199 15).toInt ≤ 80) (h : B_X12_takesOf_0 N sb_9 σ τ = some (r, σ1, τ1)) : (∀ c k : Nat, ¬ (c = 199 ∧ k = 14) → σ1 c k = σ c k) ∧ r.toInt = kd (K (σ 199 14).toInt) ∧ ((0 ≤ r.toInt ∧ (σ1 199 14).toInt = (σ 199 14).toInt + 1 ∧ (σ 199 14).toInt < (σ 199 15).toInt) ∨ (r.toInt = -1 ∧ (σ1 199 14).toInt = (σ 199 14).toInt)) := by
  obtain ⟨f, z⟩ := x_tk (by decide) (by decide) (by decide) hKd hA h
  refine ⟨f, ?_⟩
  rcases z with ⟨z0, z1, z2, k, z3, z4, z5⟩ | ⟨z1, z2, z3⟩
  · refine ⟨?_, Or.inl ⟨z0, z1, z2⟩⟩
    rw [z4, ← z5]
    exact (kd_at9 k z3).symm
  · exact ⟨z1.trans (kd_noI z3).symm, Or.inr ⟨z1, z2⟩⟩
theorem tk_letter {K : Int → Int} (hKd : K = lk (σ 208) (σ 199 15).toInt) (hA : 0 ≤ (σ 199 14).toInt ∧ (σ 199 14).toInt ≤ (σ 199 15).toInt ∧ (σ 199 15).toInt ≤ 80) (h : B_X12_takesOf_0 N sb_10 σ τ = some (r, σ1, τ1)) : (∀ c k : Nat, ¬ (c = 199 ∧ k = 14) → σ1 c k = σ c k) ∧ r.toInt = lt4 (K (σ 199 14).toInt) ∧ ((0 ≤ r.toInt ∧ (σ1 199 14).toInt = (σ 199 14).toInt + 1 ∧ (σ 199 14).toInt < (σ 199 15).toInt) ∨ (r.toInt = -1 ∧ (σ1 199 14).toInt = (σ 199 14).toInt)) := by
  obtain ⟨f, z⟩ := x_tk (by decide) (by decide) (by decide) hKd hA h
  refine ⟨f, ?_⟩
  have len : sb_10.length = 12 := rfl
  rcases z with ⟨z0, z1, z2, k, z3, z4, z5⟩ | ⟨z1, z2, z3⟩
  · refine ⟨?_, Or.inl ⟨z0, z1, z2⟩⟩
    have q := lt_at k z3
    unfold lt4
    rw [if_pos (by omega)]
    omega
  · refine ⟨?_, Or.inr ⟨z1, z2⟩⟩
    unfold lt4
    rw [if_neg (fun w => ?_)]
    · exact z1
    · have q := lt_at (K (σ 199 14).toInt - 97).toNat (by omega)
      exact z3 (K (σ 199 14).toInt - 97).toNat (by omega) (by omega)
theorem tk_digit {K : Int → Int} {i : Nat} (hi : i ≤ 10) (hKd : K = lk (σ 208) (σ 199 15).toInt) (hA : 0 ≤ (σ 199 14).toInt ∧ (σ 199 14).toInt ≤ (σ 199 15).toInt ∧ (σ 199 15).toInt ≤ 80) (h : B_X12_takesOf_0 N (sb_11.drop i) σ τ = some (r, σ1, τ1)) : (∀ c k : Nat, ¬ (c = 199 ∧ k = 14) → σ1 c k = σ c k) ∧ ((r.toInt = dg4 (K (σ 199 14).toInt) - i ∧ 0 ≤ r.toInt ∧ (σ1 199 14).toInt = (σ 199 14).toInt + 1 ∧ (σ 199 14).toInt < (σ 199 15).toInt) ∨ (dg4 (K (σ 199 14).toInt) < i ∧ r.toInt = -1 ∧ (σ1 199 14).toInt = (σ 199 14).toInt)) := by
  have len : (sb_11.drop i).length = 10 - i := dg_len ⟨i, by omega⟩
  have at1 : ∀ k : Nat, k < (sb_11.drop i).length → ((sb_11.drop i).getD k 0).toInt = 48 + i + k := dg_at ⟨i, by omega⟩
  have ch1 : ∀ k : Nat, k < (sb_11.drop i).length → chv ((sb_11.drop i).getD k 0) = (sb_11.drop i).getD k 0 := dg_ch ⟨i, by omega⟩
  obtain ⟨f, z⟩ := x_tk (by omega) ch1 (fun k hk => by rw [at1 k hk]; omega) hKd hA h
  refine ⟨f, ?_⟩
  rcases z with ⟨z0, z1, z2, k, z3, z4, z5⟩ | ⟨z1, z2, z3⟩
  · have q := at1 k z3
    refine Or.inl ⟨?_, z0, z1, z2⟩
    unfold dg4
    rw [if_pos (by omega)]
    omega
  · refine Or.inr ⟨?_, z1, z2⟩
    unfold dg4
    by_cases c : 48 ≤ K (σ 199 14).toInt ∧ K (σ 199 14).toInt ≤ 57
    · rw [if_pos c]
      by_cases d : K (σ 199 14).toInt - 48 < i
      · exact d
      · have q := at1 (K (σ 199 14).toInt - 48 - i).toNat (by omega)
        exact absurd (by omega) (z3 (K (σ 199 14).toInt - 48 - i).toNat (by omega))
    · rw [if_neg c]; omega
theorem x_takes59 {K : Int → Int} (hKd : K = lk (σ 208) (σ 199 15).toInt) (hA : 0 ≤ (σ 199 14).toInt ∧ (σ 199 14).toInt ≤ (σ 199 15).toInt ∧ (σ 199 15).toInt ≤ 80) (h : B_X12_takes_0 N σ τ 59 = some (r, σ1, τ1)) : (∀ c k : Nat, ¬ (c = 199 ∧ k = 14) → σ1 c k = σ c k) ∧ ((r = 1 ∧ K (σ 199 14).toInt = 59 ∧ (σ1 199 14).toInt = (σ 199 14).toInt + 1 ∧ (σ 199 14).toInt < (σ 199 15).toInt) ∨ (r = 0 ∧ ¬ K (σ 199 14).toInt = 59 ∧ (σ1 199 14).toInt = (σ 199 14).toInt)) := by
  have l0 : (0 : Int32).toInt = 0 := rfl
  have l1 : (1 : Int32).toInt = 1 := rfl
  have l59 : (59 : Int32).toInt = 59 := rfl
  have H : ∀ y0 : Int32, y0 = 0 ∨ y0 = 1 → B_X12_takes_29 N σ τ y0 = some (r, σ1, τ1) → (∀ c k : Nat, ¬ (c = 199 ∧ k = 14) → σ1 c k = σ c k) ∧ r = y0 ∧ (σ1 199 14).toInt = (σ 199 14).toInt + y0.toInt := by
    intro y0 hy h
    unfold B_X12_takes_29 at h
    obtain ⟨r1, s1, t1, q1, h⟩ := bd_some h
    have k1 : σ = s1 ∧ r1 = y0 := by
      unfold B_X12_flag_0 at q1
      rcases hy with rfl | rfl
      · rw [if_pos (show (0 : Int32) = 0 from rfl)] at q1
        obtain ⟨a, b, -⟩ := sm_inj q1
        exact ⟨b, a.symm⟩
      · rw [if_neg (show ¬ (1 : Int32) = 0 by decide)] at q1
        obtain ⟨a, b, -⟩ := sm_inj q1
        exact ⟨b, a.symm⟩
    obtain ⟨rfl, rfl⟩ := k1
    obtain ⟨s2, e2, h⟩ := nm_some h
    obtain ⟨-, h⟩ := cb_some h
    obtain ⟨rfl, rfl, -⟩ := sm_inj h
    refine ⟨fun c k hh => by rw [e2]; exact up2_ne hh, rfl, ?_⟩
    rw [e2]
    unfold up2
    rw [if_pos ⟨rfl, rfl⟩]
    rcases hy with rfl | rfl <;> rw [ti_add (by omega) (by omega)]
  unfold B_X12_takes_0 at h
  rw [hKd]
  unfold lk
  by_cases c : σ 199 15 ≤ σ 199 14
  · rw [if_pos c] at h
    rw [fa_le] at c
    obtain ⟨f, e, g⟩ := H 0 (Or.inl rfl) h
    rw [if_neg (by omega)]
    exact ⟨f, Or.inr ⟨e, by omega, by omega⟩⟩
  · rw [if_neg c] at h
    rw [fa_le] at c
    have nn := nat_of_toInt (i := σ 199 14) hA.1
    obtain ⟨j, ej, -, h⟩ := ck_some h
    rw [if_pos (by omega), show (σ 199 14).toInt.toNat = j by omega]
    by_cases d : σ 208 j = 59
    · rw [if_pos d] at h
      obtain ⟨f, e, g⟩ := H 1 (Or.inr rfl) h
      exact ⟨f, Or.inl ⟨e, by rw [d]; rfl, by omega, by omega⟩⟩
    · rw [if_neg d] at h
      rw [fa_eq] at d
      obtain ⟨f, e, g⟩ := H 0 (Or.inl rfl) h
      exact ⟨f, Or.inr ⟨e, d, by omega⟩⟩
/-- the letters as the reference keeps them -/
def MV (σ : gI) : List (Int × Int) → Prop
  | [] => True
  | x :: us => (σ 213 us.length).toInt = x.1 ∧ (σ 214 us.length).toInt = x.2 ∧ MV σ us
theorem mv_fr {us : List (Int × Int)} (h : MV σ us) (f : ∀ k : Nat, k < us.length → σ1 213 k = σ 213 k ∧ σ1 214 k = σ 214 k) : MV σ1 us := by
  induction us with
  | nil => trivial
  | cons x us ih =>
    have q := f us.length (by show us.length < us.length + 1; omega)
    exact ⟨by rw [q.1]; exact h.1, by rw [q.2]; exact h.2.1, ih h.2.2 (fun k hk => f k (by show k < us.length + 1; omega))⟩
theorem jd_mv {s : Int} {us : List (Int × Int)} : ∀ {b : Int}, MV σ us → BU b us → ((∀ k : Nat, k < us.length → (σ 213 k).toInt < s) → jd s us = -1) ∧ ∀ k0 : Nat, k0 < us.length → s ≤ (σ 213 k0).toInt → (∀ k : Nat, k < k0 → (σ 213 k).toInt < s) → jd s us = (σ 214 k0).toInt ∧ 0 ≤ (σ 214 k0).toInt := by
  induction us with
  | nil => intro b _ _; exact ⟨fun _ => rfl, fun k0 hk => absurd hk (Nat.not_lt_zero _)⟩
  | cons x us ih =>
    intro b h hB
    obtain ⟨a1, a2⟩ := ih h.2.2 hB.2.2
    have hl : ∀ k : Nat, k < (x :: us).length ↔ k < us.length + 1 := fun k => Iff.rfl
    have h1 := h.1
    have h2 := h.2.1
    have hp := hB.2.1
    have ej : jd s (x :: us) = if jd s us = -1 ∧ s ≤ x.1 then x.2 else jd s us := rfl
    refine ⟨fun g => ?_, fun k0 hk g1 g2 => ?_⟩
    · have g3 := g us.length ((hl _).mpr (by omega))
      rw [ej, if_neg (fun w => by have := w.2; omega)]
      exact a1 (fun k hk => g k ((hl _).mpr (by omega)))
    · have hk' := (hl k0).mp hk
      by_cases c : k0 = us.length
      · have z := a1 (fun k hk => g2 k (by omega))
        rw [c] at g1 ⊢
        rw [ej, if_pos ⟨z, by omega⟩]
        exact ⟨h2.symm, by omega⟩
      · have z := a2 k0 (by omega) g1 g2
        rw [ej, if_neg (fun w => by have := w.1; omega)]
        exact z
theorem bu_len : ∀ {us : List (Int × Int)} {b : Int}, BU b us → 0 ≤ b → (us.length : Int) ≤ b := by
  intro us
  induction us with
  | nil => intro b _ hb; exact hb
  | cons x us ih =>
    intro b h hb
    have q := ih h.2.2 h.2.1.1
    have q2 := h.2.1.2
    show ((us.length + 1 : Nat) : Int) ≤ b
    omega
theorem up_eq (s : gI) (c j : Nat) (v : Int32) : up2 s c j v c j = v := by unfold up2; rw [if_pos ⟨rfl, rfl⟩]
theorem x_rl4 {K : Int → Int} {us : List (Int × Int)} (hKd : K = lk (σ 208) (σ 199 15).toInt) (hA : 0 ≤ (σ 199 14).toInt ∧ (σ 199 14).toInt ≤ (σ 199 15).toInt ∧ (σ 199 15).toInt ≤ 80) (hM : MV σ us) (hw : (σ 199 24).toInt = us.length) (h : B_X12_readsLetter_0 N σ τ = some (r, σ1, τ1)) : (∀ c k : Nat, ¬ (c = 213 ∨ c = 214 ∨ (c = 199 ∧ (k = 14 ∨ k = 24))) → σ1 c k = σ c k) ∧ r.toInt = lt4 (K (σ 199 14).toInt) ∧ ((0 ≤ r.toInt ∧ (σ1 199 14).toInt = (σ 199 14).toInt + 1 ∧ (σ 199 14).toInt < (σ 199 15).toInt ∧ MV σ1 ((r.toInt, (σ 199 14).toInt) :: us) ∧ (σ1 199 24).toInt = us.length + 1) ∨ (r.toInt = -1 ∧ (σ1 199 14).toInt = (σ 199 14).toInt ∧ MV σ1 us ∧ (σ1 199 24).toInt = us.length)) := by
  have l0 : (0 : Int32).toInt = 0 := rfl
  have l1 : (1 : Int32).toInt = 1 := rfl
  unfold B_X12_readsLetter_0 at h
  obtain ⟨r1, s1, t1, q1, h⟩ := bd_some h
  obtain ⟨f1, e1, z1⟩ := tk_letter hKd hA q1
  have g24 : s1 199 24 = σ 199 24 := f1 199 24 (by omega)
  by_cases c : r1 < 0
  · rw [if_pos c] at h
    rw [fa_lt] at c
    obtain ⟨rfl, rfl, -⟩ := sm_inj h
    refine ⟨fun c k hh => f1 c k (by omega), e1, ?_⟩
    rcases z1 with z | z
    · omega
    · exact Or.inr ⟨z.1, z.2, mv_fr hM (fun k _ => ⟨f1 213 k (by omega), f1 214 k (by omega)⟩), by rw [g24]; exact hw⟩
  · rw [if_neg c] at h
    rw [fa_lt] at c
    rw [g24] at h
    have nn := nat_of_toInt (i := σ 199 24) (by omega)
    obtain ⟨j3, k3, b3, h⟩ := ck_some h
    have b4 : ¬ (σ 199 24 < 0 ∨ 80 ≤ (σ 199 24).toNatClampNeg) := b3
    have b5 := Nat.lt_of_not_le (fun q => b4 (Or.inr q))
    obtain ⟨s4, e4, h⟩ := nm_some h
    have g4 : s4 199 24 = σ 199 24 := by rw [e4, up2_ne (by omega)]; exact g24
    rw [g4] at h
    obtain ⟨j5, k5, -, h⟩ := ck_some h
    obtain ⟨s6, e6, h⟩ := nm_some h
    obtain ⟨s7, e7, h⟩ := nm_some h
    obtain ⟨rfl, rfl, -⟩ := sm_inj h
    have h3 : j3 = us.length := by omega
    have h5 : j5 = us.length := by omega
    rw [h3] at e4
    rw [h5] at e6
    have z14 : s4 199 14 = s1 199 14 := by rw [e4, up2_ne (by omega)]
    have g6 : s6 199 24 = σ 199 24 := by rw [e6, up2_ne (by omega)]; exact g4
    have F : ∀ c k : Nat, ¬ ((c = 213 ∧ k = us.length) ∨ (c = 214 ∧ k = us.length) ∨ (c = 199 ∧ k = 24)) → s7 c k = s1 c k := fun c k hh => by rw [e7, up2_ne (by omega), e6, up2_ne (by omega), e4, up2_ne (by omega)]
    rcases z1 with ⟨z0, z1, z2⟩ | z
    · refine ⟨fun c k hh => (F c k (by omega)).trans (f1 c k (by omega)), e1, Or.inl ⟨z0, by rw [F 199 14 (by omega)]; exact z1, z2, ⟨?_, ?_, mv_fr hM (fun k hk => ⟨(F 213 k (by omega)).trans (f1 213 k (by omega)), (F 214 k (by omega)).trans (f1 214 k (by omega))⟩)⟩, ?_⟩⟩
      · show (s7 213 us.length).toInt = r1.toInt
        rw [e7, up2_ne (by omega), e6, up2_ne (by omega), e4, up_eq]
      · show (s7 214 us.length).toInt = (σ 199 14).toInt
        rw [e7, up2_ne (by omega), e6, up_eq, z14, ti_sub (by omega) (by omega), l1]
        omega
      · rw [e7, up_eq, g6, ti_add (by omega) (by omega), l1, hw]
    · omega
theorem x_p162 {K : Int → Int} {x1 x2 y0 : Int32} (hKd : K = lk (σ 208) (σ 199 15).toInt) (hA : 0 ≤ (σ 199 14).toInt ∧ (σ 199 14).toInt ≤ (σ 199 15).toInt ∧ (σ 199 15).toInt ≤ 80) (hx : 0 ≤ x1.toInt ∧ x1.toInt < 12) (hy : 0 ≤ y0.toInt ∧ y0.toInt ≤ 2) (h4 : x2 = 4 → y0.toInt = 0) (h : B_X12_readsPlace_162 N σ τ x1 x2 y0 = some (r, σ1, τ1)) : (∀ c k : Nat, ¬ ((c = 212 ∧ k = x1.toInt.toNat) ∨ (c = 199 ∧ k = 14)) → σ1 c k = σ c k) ∧ (σ1 199 14).toInt ≤ (σ 199 15).toInt ∧ ((r = 0 ∧ dg4 (K (σ 199 14).toInt) < y0.toInt ∧ (σ1 199 14).toInt = (σ 199 14).toInt) ∨ (r = 0 ∧ x2 = 4 ∧ ¬ dg4 (K (σ 199 14).toInt) < 0 ∧ dg4 (K ((σ 199 14).toInt + 1)) < dg4 (K (σ 199 14).toInt) ∧ (σ1 199 14).toInt = (σ 199 14).toInt + 1) ∨ (r = 1 ∧ x2 = 4 ∧ ¬ dg4 (K (σ 199 14).toInt) < 0 ∧ ¬ dg4 (K ((σ 199 14).toInt + 1)) < dg4 (K (σ 199 14).toInt) ∧ (σ1 199 14).toInt = (σ 199 14).toInt + 2 ∧ (σ1 212 x1.toInt.toNat).toInt = 10 * dg4 (K (σ 199 14).toInt) + dg4 (K ((σ 199 14).toInt + 1))) ∨ (r = 1 ∧ ¬ x2 = 4 ∧ ¬ dg4 (K (σ 199 14).toInt) < y0.toInt ∧ (σ1 199 14).toInt = (σ 199 14).toInt + 1 ∧ (σ1 212 x1.toInt.toNat).toInt = dg4 (K (σ 199 14).toInt))) := by
  have l0 : (0 : Int32).toInt = 0 := rfl
  have l10 : (10 : Int32).toInt = 10 := rfl
  have ny := nat_of_toInt (i := y0) hy.1
  have nx := nat_of_toInt (i := x1) hx.1
  unfold B_X12_readsPlace_162 at h
  obtain ⟨-, h⟩ := sbx_some h
  obtain ⟨r2, s2, t2, q2, h⟩ := bd_some h
  obtain ⟨f2, z2⟩ := tk_digit (i := y0.toNatClampNeg) (by omega) hKd hA q2
  have g2 := dg_rng (K (σ 199 14).toInt)
  have g3 := dg_rng (K ((σ 199 14).toInt + 1))
  by_cases c : 0 ≤ r2
  · rw [if_pos c] at h
    rw [fa_le] at c
    obtain ⟨a1, a2, a3, a4⟩ : r2.toInt = dg4 (K (σ 199 14).toInt) - y0.toNatClampNeg ∧ 0 ≤ r2.toInt ∧ (s2 199 14).toInt = (σ 199 14).toInt + 1 ∧ (σ 199 14).toInt < (σ 199 15).toInt := by
      rcases z2 with z | z
      · exact z
      · omega
    obtain ⟨j4, k4, -, h⟩ := ck_some h
    have ej : j4 = x1.toInt.toNat := by omega
    rw [ej] at h
    obtain ⟨s5, e5, h⟩ := nm_some h
    have f5 : ∀ c k : Nat, ¬ (c = 212 ∧ k = x1.toInt.toNat) → s5 c k = s2 c k := fun c k hh => by rw [e5]; exact up2_ne hh
    have w5 : (s5 212 x1.toInt.toNat).toInt = dg4 (K (σ 199 14).toInt) := by rw [e5, up_eq, ti_add (by omega) (by omega)]; omega
    have F5 : ∀ c k : Nat, ¬ ((c = 212 ∧ k = x1.toInt.toNat) ∨ (c = 199 ∧ k = 14)) → s5 c k = σ c k := fun c k hh => (f5 c k (by omega)).trans (f2 c k (by omega))
    by_cases c4 : x2 = 4
    · rw [if_pos c4] at h
      have y00 := h4 c4
      obtain ⟨-, h⟩ := sbx_some h
      obtain ⟨r8, s8, t8, q8, h⟩ := bd_some h
      have nr := nat_of_toInt (i := r2) (by omega)
      have e14 : (s5 199 14).toInt = (σ 199 14).toInt + 1 := by rw [f5 199 14 (by omega)]; exact a3
      have e15 : s5 199 15 = σ 199 15 := F5 199 15 (by omega)
      have eK : K = lk (s5 208) (s5 199 15).toInt := by rw [show s5 208 = σ 208 from funext fun k => F5 208 k (by omega), e15]; exact hKd
      obtain ⟨f8, z8⟩ := tk_digit (i := r2.toNatClampNeg) (by omega) eK (by rw [e14, e15]; omega) q8
      rw [e14, e15] at z8
      have F8 : ∀ c k : Nat, ¬ ((c = 212 ∧ k = x1.toInt.toNat) ∨ (c = 199 ∧ k = 14)) → s8 c k = σ c k := fun c k hh => (f8 c k (by omega)).trans (F5 c k (by omega))
      by_cases c8 : 0 ≤ r8
      · rw [if_pos c8] at h
        rw [fa_le] at c8
        obtain ⟨s10, e10, h⟩ := nm_some h
        obtain ⟨rfl, rfl, -⟩ := sm_inj h
        have f10 : ∀ c k : Nat, ¬ (c = 212 ∧ k = x1.toInt.toNat) → s10 c k = s8 c k := fun c k hh => by rw [e10]; exact up2_ne hh
        rcases z8 with ⟨b1, b2, b3, b4⟩ | z
        · have e14' : (s10 199 14).toInt = (σ 199 14).toInt + 2 := by rw [f10 199 14 (by omega), b3]; omega
          refine ⟨fun c k hh => (f10 c k (by omega)).trans (F8 c k hh), by omega, Or.inr (Or.inr (Or.inl ⟨rfl, c4, by omega, by omega, e14', ?_⟩))⟩
          have m10 : ((10 : Int32) * r2).toInt = 10 * r2.toInt := by rw [ti_mul (by rw [l10]; omega) (by rw [l10]; omega), l10]
          have m11 : ((10 : Int32) * r2 + r2).toInt = 10 * r2.toInt + r2.toInt := by rw [ti_add (by omega) (by omega), m10]
          rw [e10, up_eq, ti_add (by omega) (by omega), m11]
          omega
        · omega
      · rw [if_neg c8] at h
        rw [fa_le] at c8
        obtain ⟨rfl, rfl, -⟩ := sm_inj h
        rcases z8 with z | ⟨b1, b2, b3⟩
        · omega
        · exact ⟨F8, by omega, Or.inr (Or.inl ⟨rfl, c4, by omega, by omega, b3⟩)⟩
    · rw [if_neg c4] at h
      obtain ⟨rfl, rfl, -⟩ := sm_inj h
      have e14 : (s5 199 14).toInt = (σ 199 14).toInt + 1 := by rw [f5 199 14 (by omega)]; exact a3
      exact ⟨F5, by omega, Or.inr (Or.inr (Or.inr ⟨rfl, c4, by omega, e14, w5⟩))⟩
  · rw [if_neg c] at h
    rw [fa_le] at c
    obtain ⟨rfl, rfl, -⟩ := sm_inj h
    rcases z2 with z | ⟨b1, b2, b3⟩
    · omega
    · exact ⟨fun c k hh => f2 c k (by omega), by omega, Or.inl ⟨rfl, by omega, b3⟩⟩
theorem x_rp4 {K : Int → Int} {us : List (Int × Int)} {A T m : Int} (hKd : K = lk (σ 208) (σ 199 15).toInt) (eA : (σ 199 14).toInt = A) (eT : (σ 199 15).toInt = T) (hA : 0 ≤ A ∧ A ≤ T ∧ T ≤ 76) (hM : MV σ us) (hw : (σ 199 24).toInt = us.length) (hB : BU A us) (em : (σ 199 21).toInt = m) (hm : 0 ≤ m ∧ m ≤ 12) (h : B_X12_readsPlace_0 N σ τ = some (r, σ1, τ1)) : (∀ c k : Nat, ¬ ((209 ≤ c ∧ c ≤ 214) ∨ (c = 199 ∧ (k = 14 ∨ k = 21 ∨ k = 24))) → σ1 c k = σ c k) ∧ (σ1 199 14).toInt ≤ T ∧ ((m = 12 ∧ r = 0 ∧ (σ1 199 14).toInt = A) ∨ (m < 12 ∧ (ln4 K A).1 = false ∧ r = 0 ∧ (σ1 199 14).toInt = (ln4 K A).2.1) ∨ (m < 12 ∧ (ln4 K A).1 = true ∧ r = 1 ∧ (σ1 199 14).toInt = (ln4 K A).2.1 ∧ MV σ1 ((ln4 K A).2.2 ++ us) ∧ (σ1 199 24).toInt = ((ln4 K A).2.2 ++ us).length ∧ (σ1 199 21).toInt = m + 1 ∧ PW σ1 209 m.toNat K A ∧ ∀ c k : Nat, 209 ≤ c → c ≤ 212 → k ≠ m.toNat → σ1 c k = σ c k)) := by
  have l0 : (0 : Int32).toInt = 0 := rfl
  have l1 : (1 : Int32).toInt = 1 := rfl
  have l2 : (2 : Int32).toInt = 2 := rfl
  have l4 : (4 : Int32).toInt = 4 := rfl
  have l5 : (5 : Int32).toInt = 5 := rfl
  have l6 : (6 : Int32).toInt = 6 := rfl
  have l12 : (12 : Int32).toInt = 12 := rfl
  have lm : (-1 : Int32).toInt = -1 := rfl
  have ul := bu_len hB hA.1
  unfold B_X12_readsPlace_0 at h
  obtain ⟨v1, e1, h⟩ := nm_some h
  have ev : v1.toInt = m := by rw [e1]; exact em
  by_cases c1 : v1 = 12
  · rw [if_pos c1] at h
    rw [fa_eq] at c1
    obtain ⟨rfl, rfl, -⟩ := sm_inj h
    exact ⟨fun _ _ _ => rfl, by omega, Or.inl ⟨by omega, rfl, eA⟩⟩
  · rw [if_neg c1] at h
    rw [fa_eq] at c1
    have hm' : m < 12 := by omega
    obtain ⟨r3, s3, t3, q3, h⟩ := bd_some h
    obtain ⟨f3, k3, z3⟩ := tk_kind hKd (by omega) q3
    rw [eA] at k3 z3
    by_cases c3 : 0 ≤ r3
    · rw [if_pos c3] at h
      rw [fa_le] at c3
      have a3 : (s3 199 14).toInt = A + 1 ∧ A < T := by
        rcases z3 with z | z
        · omega
        · omega
      have nn := nat_of_toInt (i := v1) (by omega)
      obtain ⟨j5, ej, -, h⟩ := ck_some h
      have hj : j5 = m.toNat := by omega
      rw [hj] at h
      generalize hn : m.toNat = n at h ⊢
      obtain ⟨s6, e6, h⟩ := nm_some h
      obtain ⟨s7, e7, h⟩ := nm_some h
      obtain ⟨s8, e8, h⟩ := nm_some h
      obtain ⟨s9, e9, h⟩ := nm_some h
      obtain ⟨s10, e10, h⟩ := nm_some h
      have f10 : ∀ c k : Nat, ¬ ((209 ≤ c ∧ c ≤ 212 ∧ k = n) ∨ (c = 199 ∧ k = 21)) → s10 c k = s3 c k := fun c k hh => by rw [e10, up2_ne (by omega), e9, up2_ne (by omega), e8, up2_ne (by omega), e7, up2_ne (by omega), e6, up2_ne (by omega)]
      have g9 : s9 199 21 = σ 199 21 := by rw [e9, up2_ne (by omega), e8, up2_ne (by omega), e7, up2_ne (by omega), e6, up2_ne (by omega)]; exact f3 199 21 (by omega)
      have m10 : (s10 199 21).toInt = m + 1 := by rw [e10, up_eq, g9, ti_add (by omega) (by omega), l1]; omega
      have r9 : s10 209 n = r3 := by rw [e10, up2_ne (by omega), e9, up2_ne (by omega), e8, up2_ne (by omega), e7, up2_ne (by omega), e6, up_eq]
      have r10 : s10 210 n = -1 := by rw [e10, up2_ne (by omega), e9, up2_ne (by omega), e8, up2_ne (by omega), e7, up_eq]
      have r11 : s10 211 n = -1 := by rw [e10, up2_ne (by omega), e9, up2_ne (by omega), e8, up_eq]
      have r12 : s10 212 n = 0 := by rw [e10, up2_ne (by omega), e9, up_eq]
      have F10 : ∀ c k : Nat, ¬ ((209 ≤ c ∧ c ≤ 212 ∧ k = n) ∨ (c = 199 ∧ (k = 14 ∨ k = 21))) → s10 c k = σ c k := fun c k hh => (f10 c k (by omega)).trans (f3 c k (by omega))
      have kk : ∀ s : gI, (∀ c k : Nat, ¬ ((209 ≤ c ∧ c ≤ 214) ∨ (c = 199 ∧ (k = 14 ∨ k = 21 ∨ k = 24))) → s c k = σ c k) → K = lk (s 208) (s 199 15).toInt ∧ (s 199 15).toInt = T := fun s f => by
        rw [show s 208 = σ 208 from funext fun k => f 208 k (by omega), f 199 15 (by omega)]
        exact ⟨hKd, eT⟩
      have a10 : (s10 199 14).toInt = A + 1 := by rw [f10 199 14 (by omega)]; exact a3.1
      have w10 : (s10 199 24).toInt = us.length := by rw [F10 199 24 (by omega)]; exact hw
      have M10 : MV s10 us := mv_fr hM (fun k _ => ⟨F10 213 k (by omega), F10 214 k (by omega)⟩)
      by_cases c6 : r3 = 6
      · rw [if_pos c6] at h
        obtain ⟨rfl, rfl, -⟩ := sm_inj h
        rw [fa_eq] at c6
        have e : ln4 K A = (true, A + 1, []) := by unfold ln4; rw [if_neg (by omega), if_pos (by omega)]
        rw [e]
        refine ⟨fun c k hh => F10 c k (by omega), by omega, Or.inr (Or.inr ⟨hm', rfl, rfl, a10, M10, w10, m10, ⟨by rw [r9]; exact k3, ?_, ?_, ?_⟩, fun c k h1 h2 h3 => F10 c k (by omega)⟩)⟩
        · show (s10 210 n).toInt = pn K A
          rw [r10]; unfold pn; rw [if_pos (by omega)]; rfl
        · show (s10 211 n).toInt = ps K A
          rw [r11]; unfold ps; rw [if_neg (by omega)]; rfl
        · show (s10 212 n).toInt = pf K A
          rw [r12]; unfold pf; rw [if_neg (by omega), if_pos (by omega)]; rfl
      · rw [if_neg c6] at h
        rw [fa_eq] at c6
        obtain ⟨r12', s12, t12, q12, h⟩ := bd_some h
        obtain ⟨kd10, kt10⟩ := kk s10 (fun c k hh => F10 c k (by omega))
        obtain ⟨f12, k12, z12⟩ := x_rl4 kd10 (by omega) M10 w10 q12
        rw [a10, kt10] at z12
        rw [a10] at k12
        obtain ⟨s13, e13, h⟩ := nm_some h
        have f13 : ∀ c k : Nat, ¬ (c = 210 ∧ k = n) → s13 c k = s12 c k := fun c k hh => by rw [e13]; exact up2_ne hh
        have w13 : s13 210 n = r12' := by rw [e13, up_eq]
        have F13 : ∀ c k : Nat, ¬ ((209 ≤ c ∧ c ≤ 212 ∧ k = n) ∨ c = 213 ∨ c = 214 ∨ (c = 199 ∧ (k = 14 ∨ k = 21 ∨ k = 24))) → s13 c k = σ c k := fun c k hh => (f13 c k (by omega)).trans ((f12 c k (by omega)).trans (F10 c k (by omega)))
        have g9' : s13 209 n = r3 := by rw [f13 209 n (by omega), f12 209 n (by omega)]; exact r9
        have g11' : s13 211 n = -1 := by rw [f13 211 n (by omega), f12 211 n (by omega)]; exact r11
        have g12' : s13 212 n = 0 := by rw [f13 212 n (by omega), f12 212 n (by omega)]; exact r12
        have m13 : (s13 199 21).toInt = m + 1 := by rw [f13 199 21 (by omega), f12 199 21 (by omega)]; exact m10
        rw [w13] at h
        by_cases c12 : r12' < 0
        · rw [if_pos c12, if_pos c12] at h
          rw [fa_lt] at c12
          obtain ⟨rfl, rfl, -⟩ := sm_inj h
          rcases z12 with z | ⟨z1, z2, z3, z4⟩
          · omega
          · have e : ln4 K A = (false, A + 1, []) := by unfold ln4; rw [if_neg (by omega), if_neg (by omega), if_pos (by omega)]
            rw [e]
            have e14 : (s13 199 14).toInt = A + 1 := by rw [f13 199 14 (by omega)]; exact z2
            exact ⟨fun c k hh => F13 c k (by omega), by omega, Or.inr (Or.inl ⟨hm', rfl, rfl, e14⟩)⟩
        · rw [if_neg c12] at h
          have c12' := c12
          rw [fa_lt] at c12
          obtain ⟨z1, z2, z3, z4, z5⟩ : 0 ≤ r12'.toInt ∧ (s12 199 14).toInt = A + 1 + 1 ∧ A + 1 < T ∧ MV s12 ((r12'.toInt, A + 1) :: us) ∧ (s12 199 24).toInt = us.length + 1 := by
            rcases z12 with z | z
            · exact z
            · omega
          have e14 : (s13 199 14).toInt = A + 2 := by rw [f13 199 14 (by omega), z2]; omega
          have M13 : MV s13 ((lt4 (K (A + 1)), A + 1) :: us) := by
            rw [← k12]
            exact mv_fr z4 (fun k _ => ⟨f13 213 k (by omega), f13 214 k (by omega)⟩)
          have w13' : (s13 199 24).toInt = us.length + 1 := by rw [f13 199 24 (by omega)]; exact z5
          by_cases c0 : r3 = 0
          · rw [if_pos c0, if_neg c12'] at h
            rw [fa_eq] at c0
            obtain ⟨rfl, rfl, -⟩ := sm_inj h
            have e : ln4 K A = (true, A + 2, [(lt4 (K (A + 1)), A + 1)]) := by unfold ln4; rw [if_neg (by omega), if_neg (by omega), if_neg (by omega), if_pos (by omega)]
            rw [e]
            refine ⟨fun c k hh => F13 c k (by omega), by omega, Or.inr (Or.inr ⟨hm', rfl, rfl, e14, M13, w13', m13, ⟨by rw [g9']; exact k3, ?_, ?_, ?_⟩, fun c k h1 h2 h3 => F13 c k (by omega)⟩)⟩
            · show (s13 210 n).toInt = pn K A
              rw [w13]; unfold pn; rw [if_neg (by omega)]; exact k12
            · show (s13 211 n).toInt = ps K A
              rw [g11']; unfold ps; rw [if_neg (by omega)]; rfl
            · show (s13 212 n).toInt = pf K A
              rw [g12']; unfold pf; rw [if_neg (by omega), if_pos (by omega)]; rfl
          · rw [if_neg c0] at h
            rw [fa_eq] at c0
            obtain ⟨kd13, kt13⟩ := kk s13 (fun c k hh => F13 c k (by omega))
            by_cases cf : r3 = 1
            · rw [if_pos cf] at h
              rw [fa_eq] at cf
              obtain ⟨r20, s20, t20, q20, h⟩ := bd_some h
              obtain ⟨f20, k20, z20⟩ := x_rl4 kd13 (by omega) M13 w13' q20
              rw [e14, kt13] at z20
              rw [e14] at k20
              obtain ⟨s21, e21, h⟩ := nm_some h
              have f21 : ∀ c k : Nat, ¬ (c = 211 ∧ k = n) → s21 c k = s20 c k := fun c k hh => by rw [e21]; exact up2_ne hh
              have w21 : s21 211 n = r20 := by rw [e21, up_eq]
              have F21 : ∀ c k : Nat, ¬ ((209 ≤ c ∧ c ≤ 212 ∧ k = n) ∨ c = 213 ∨ c = 214 ∨ (c = 199 ∧ (k = 14 ∨ k = 21 ∨ k = 24))) → s21 c k = σ c k := fun c k hh => (f21 c k (by omega)).trans ((f20 c k (by omega)).trans (F13 c k (by omega)))
              have r13 : ∀ c : Nat, 209 ≤ c → c ≤ 212 → c ≠ 211 → s21 c n = s13 c n := fun c h1 h2 h3 => (f21 c n (by omega)).trans (f20 c n (by omega))
              rw [w21] at h
              by_cases c20 : r20 < 0
              · rw [if_pos c20] at h
                rw [fa_lt] at c20
                obtain ⟨rfl, rfl, -⟩ := sm_inj h
                rcases z20 with z | ⟨y1, y2, y3, y4⟩
                · omega
                · have e : ln4 K A = (false, A + 2, []) := by unfold ln4; rw [if_neg (by omega), if_neg (by omega), if_neg (by omega), if_neg (by omega), if_pos (by omega), if_pos (by omega)]
                  rw [e]
                  have e14' : (s21 199 14).toInt = A + 2 := by rw [f21 199 14 (by omega)]; exact y2
                  exact ⟨fun c k hh => F21 c k (by omega), by omega, Or.inr (Or.inl ⟨hm', rfl, rfl, e14'⟩)⟩
              · rw [if_neg c20] at h
                rw [fa_lt] at c20
                obtain ⟨rfl, rfl, -⟩ := sm_inj h
                rcases z20 with ⟨y1, y2, y3, y4, y5⟩ | z
                · have e : ln4 K A = (true, A + 3, [(lt4 (K (A + 2)), A + 2), (lt4 (K (A + 1)), A + 1)]) := by unfold ln4; rw [if_neg (by omega), if_neg (by omega), if_neg (by omega), if_neg (by omega), if_pos (by omega), if_neg (by omega)]
                  rw [e]
                  have e14' : (s21 199 14).toInt = A + 3 := by rw [f21 199 14 (by omega), y2]; omega
                  have M21 : MV s21 ((lt4 (K (A + 2)), A + 2) :: (lt4 (K (A + 1)), A + 1) :: us) := by
                    rw [← k20]
                    exact mv_fr y4 (fun k _ => ⟨f21 213 k (by omega), f21 214 k (by omega)⟩)
                  refine ⟨fun c k hh => F21 c k (by omega), by omega, Or.inr (Or.inr ⟨hm', rfl, rfl, e14', M21, by rw [f21 199 24 (by omega)]; exact y5, by rw [f21 199 21 (by omega), f20 199 21 (by omega)]; exact m13, ⟨by rw [r13 209 (by omega) (by omega) (by omega), g9']; exact k3, ?_, ?_, ?_⟩, fun c k h1 h2 h3 => F21 c k (by omega)⟩)⟩
                  · show (s21 210 n).toInt = pn K A
                    rw [r13 210 (by omega) (by omega) (by omega), w13]; unfold pn; rw [if_neg (by omega)]; exact k12
                  · show (s21 211 n).toInt = ps K A
                    rw [w21]; unfold ps; rw [if_pos (by omega)]; exact k20
                  · show (s21 212 n).toInt = pf K A
                    rw [r13 212 (by omega) (by omega) (by omega), g12']; unfold pf; rw [if_neg (by omega), if_pos (by omega)]; rfl
                · omega
            · rw [if_neg cf] at h
              rw [fa_eq] at cf
              have hx1 : v1.toInt.toNat = n := by omega
              have g20 := dg_rng (K (A + 2))
              have fin : ∀ y0 : Int32, (0 ≤ y0.toInt ∧ y0.toInt ≤ 2) → (r3 = 4 → y0.toInt = 0) → (r3.toInt = 5 → y0.toInt = 2) → (¬ r3.toInt = 5 → ¬ r3 = 4 → y0.toInt = 1) → B_X12_readsPlace_162 N s13 t12 v1 r3 y0 = some (r, σ1, τ1) → (∀ c k : Nat, ¬ ((209 ≤ c ∧ c ≤ 214) ∨ (c = 199 ∧ (k = 14 ∨ k = 21 ∨ k = 24))) → σ1 c k = σ c k) ∧ (σ1 199 14).toInt ≤ T ∧ ((m = 12 ∧ r = 0 ∧ (σ1 199 14).toInt = A) ∨ (m < 12 ∧ (ln4 K A).1 = false ∧ r = 0 ∧ (σ1 199 14).toInt = (ln4 K A).2.1) ∨ (m < 12 ∧ (ln4 K A).1 = true ∧ r = 1 ∧ (σ1 199 14).toInt = (ln4 K A).2.1 ∧ MV σ1 ((ln4 K A).2.2 ++ us) ∧ (σ1 199 24).toInt = ((ln4 K A).2.2 ++ us).length ∧ (σ1 199 21).toInt = m + 1 ∧ PW σ1 209 n K A ∧ ∀ c k : Nat, 209 ≤ c → c ≤ 212 → k ≠ n → σ1 c k = σ c k)) := by
                intro y0 hy h4 h5 h1 h
                obtain ⟨f, ft, z⟩ := x_p162 kd13 (by omega) (by omega) hy h4 h
                rw [hx1] at f z
                rw [e14] at z
                rw [kt13] at ft
                rw [show A + 2 + 1 = A + 3 by omega, show A + 2 + 2 = A + 4 by omega] at z
                have Fr : ∀ c k : Nat, ¬ ((209 ≤ c ∧ c ≤ 212 ∧ k = n) ∨ c = 213 ∨ c = 214 ∨ (c = 199 ∧ (k = 14 ∨ k = 21 ∨ k = 24))) → σ1 c k = σ c k := fun c k hh => (f c k (by omega)).trans (F13 c k (by omega))
                have Rw : (σ1 209 n).toInt = kd (K A) ∧ (σ1 210 n).toInt = pn K A ∧ (σ1 211 n).toInt = ps K A := by
                  refine ⟨by rw [f 209 n (by omega), g9']; exact k3, ?_, ?_⟩
                  · rw [f 210 n (by omega), w13]; unfold pn; rw [if_neg (by omega)]; exact k12
                  · rw [f 211 n (by omega), g11']; unfold ps; rw [if_neg (by omega)]; rfl
                have Mr : MV σ1 ((lt4 (K (A + 1)), A + 1) :: us) := mv_fr M13 (fun k _ => ⟨f 213 k (by omega), f 214 k (by omega)⟩)
                have wr : (σ1 199 24).toInt = us.length + 1 := by rw [f 199 24 (by omega)]; exact w13'
                have mr : (σ1 199 21).toInt = m + 1 := by rw [f 199 21 (by omega)]; exact m13
                by_cases c4 : r3 = 4
                · have y0z := h4 c4
                  have k4 : kd (K A) = 4 := by rw [← k3, c4]; rfl
                  rcases z with ⟨za, zb, zc⟩ | ⟨za, zb, zc, zd, ze⟩ | ⟨za, zb, zc, zd, ze, zf⟩ | ⟨za, zb, -⟩
                  · have e : ln4 K A = (false, A + 2, []) := by unfold ln4; rw [if_neg (by omega), if_neg (by omega), if_neg (by omega), if_neg (by omega), if_neg (by omega), if_pos (by omega), if_pos (by omega)]
                    rw [e]
                    exact ⟨fun c k hh => Fr c k (by omega), ft, Or.inr (Or.inl ⟨hm', rfl, za, zc⟩)⟩
                  · have e : ln4 K A = (false, A + 3, []) := by unfold ln4; rw [if_neg (by omega), if_neg (by omega), if_neg (by omega), if_neg (by omega), if_neg (by omega), if_pos (by omega), if_neg (by omega), if_pos (by omega)]
                    rw [e]
                    exact ⟨fun c k hh => Fr c k (by omega), ft, Or.inr (Or.inl ⟨hm', rfl, za, ze⟩)⟩
                  · have e : ln4 K A = (true, A + 4, [(lt4 (K (A + 1)), A + 1)]) := by unfold ln4; rw [if_neg (by omega), if_neg (by omega), if_neg (by omega), if_neg (by omega), if_neg (by omega), if_pos (by omega), if_neg (by omega), if_neg (by omega)]
                    rw [e]
                    refine ⟨fun c k hh => Fr c k (by omega), ft, Or.inr (Or.inr ⟨hm', rfl, za, ze, Mr, wr, mr, ⟨Rw.1, Rw.2.1, Rw.2.2, ?_⟩, fun c k h1 h2 h3 => Fr c k (by omega)⟩)⟩
                    show (σ1 212 n).toInt = pf K A
                    rw [zf]; unfold pf; rw [if_pos k4]
                  · exact absurd c4 zb
                · have k4 : ¬ kd (K A) = 4 := fun w => c4 ((fa_eq _ _).mpr (by omega))
                  have yy : y0.toInt = if kd (K A) = 5 then 2 else 1 := by
                    by_cases c5 : r3.toInt = 5
                    · rw [if_pos (by omega)]; exact h5 c5
                    · rw [if_neg (by omega)]; exact h1 c5 c4
                  rcases z with ⟨za, zb, zc⟩ | ⟨za, zb, -⟩ | ⟨za, zb, -⟩ | ⟨za, zb, zc, zd, ze⟩
                  · have e : ln4 K A = (false, A + 2, []) := by unfold ln4; rw [if_neg (by omega), if_neg (by omega), if_neg (by omega), if_neg (by omega), if_neg (by omega), if_neg (by omega), ← yy, if_pos (by omega)]
                    rw [e]
                    exact ⟨fun c k hh => Fr c k (by omega), ft, Or.inr (Or.inl ⟨hm', rfl, za, zc⟩)⟩
                  · exact absurd zb c4
                  · exact absurd zb c4
                  · have e : ln4 K A = (true, A + 3, [(lt4 (K (A + 1)), A + 1)]) := by unfold ln4; rw [if_neg (by omega), if_neg (by omega), if_neg (by omega), if_neg (by omega), if_neg (by omega), if_neg (by omega), ← yy, if_neg (by omega)]
                    rw [e]
                    refine ⟨fun c k hh => Fr c k (by omega), ft, Or.inr (Or.inr ⟨hm', rfl, za, by omega, Mr, wr, mr, ⟨Rw.1, Rw.2.1, Rw.2.2, ?_⟩, fun c k h1 h2 h3 => Fr c k (by omega)⟩)⟩
                    show (σ1 212 n).toInt = pf K A
                    rw [ze]; unfold pf; rw [if_neg k4, if_neg (by omega)]
              by_cases c4 : r3 = 4
              · rw [if_pos c4] at h
                exact fin 0 (by omega) (fun _ => rfl) (fun w => by rw [c4] at w; exact absurd w (by decide)) (fun _ w => absurd c4 w) h
              · rw [if_neg c4] at h
                by_cases c5 : r3 = 5
                · rw [if_pos c5] at h
                  exact fin 2 (by omega) (fun w => absurd w c4) (fun _ => rfl) (fun w => absurd (by rw [c5]; rfl) w) h
                · rw [if_neg c5] at h
                  rw [fa_eq] at c5
                  exact fin 1 (by omega) (fun w => absurd w c4) (fun w => absurd w (by omega)) (fun _ _ => rfl) h
    · rw [if_neg c3] at h
      rw [fa_le] at c3
      obtain ⟨rfl, rfl, -⟩ := sm_inj h
      have e : ln4 K A = (false, A, []) := by unfold ln4; rw [if_pos (by omega)]
      rw [e]
      rcases z3 with z | ⟨za, zb⟩
      · omega
      · exact ⟨fun c k hh => f3 c k (by omega), by omega, Or.inr (Or.inl ⟨hm', rfl, rfl, zb⟩)⟩
end T4R
