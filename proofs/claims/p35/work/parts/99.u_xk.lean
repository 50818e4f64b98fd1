section SIM34E
variable {N : Nat} {σ σ1 : gI} {τ τ1 : gJ} {r : Int32}
/-- a step of the class's boat: as stp, what was asked, whether a rat holds it -/
theorem x_cstep {pl t fl : Int32} {s : SB} {cd : Nat → Int32} {L : Int} (hI : σ 17 10 = 0 ∨ σ 17 10 = 1) (h7 : σ 158 7 = 0) (hT : T4 σ) (hTK : TK (TC σ) (σ 3 6).toInt) (hfi : ∀ p : Nat, (p : Int) < (σ 3 6).toInt → σ 4 p = 5 → 0 < (σ 7 p).toInt) (hs : IN6 (TC σ) (σ 3 6).toInt s) (hC : CC σ cd L) (hB : BC σ pl t 0 s) (h : B_X1_step_0 N 171 σ τ 0 fl = some (r, σ1, τ1)) : SC6 σ σ1 pl t (stp (TC σ) (RC cd L pl t fl) t s) r ∧ σ1 158 4 = σ 158 4 ||| abit (TC σ) (σ 17 9) s ∧ ((σ1 158 5 = σ 158 5 ∧ ¬ (σ 4 (ix s.1) = 3 ∧ ¬ σ 7 (ix s.1) ≤ s.2.2)) ∨ (σ1 158 5 = σ 158 5 ||| 1 ∧ σ 4 (ix s.1) = 3 ∧ ¬ σ 7 (ix s.1) ≤ s.2.2)) := by
  obtain ⟨p0, b, c⟩ := s
  obtain ⟨b0, b1, b2, b9, b10, b7, b8, b6⟩ := id hB
  have b0 : σ 172 0 = p0 := b0
  have b2 : σ 174 0 = c := b2
  obtain ⟨⟨i1, i2⟩, i3⟩ := hs
  have i1 : 0 ≤ p0.toInt := i1
  have i2 : p0.toInt < (σ 3 6).toInt := i2
  have i3 : ¬ σ 4 (ix p0) = 6 := i3
  have h12 := hT.2.1
  have hp : 0 ≤ p0.toInt ∧ p0.toInt < 12 := by omega
  have l0 : (0 : Int32).toInt = 0 := rfl
  have T0 : TC σ 0 (ix p0) = σ 4 (ix p0) := rfl
  have T1 : TC σ 1 (ix p0) = σ 5 (ix p0) := rfl
  have T2 : TC σ 2 (ix p0) = σ 6 (ix p0) := rfl
  have T3 : TC σ 3 (ix p0) = σ 7 (ix p0) := rfl
  have hk := hTK (ix p0) (by unfold ix; omega)
  rw [T0, T1, T2] at hk
  have hp1 := hk.1 i3
  have hfi := hfi (ix p0) (by unfold ix; omega)
  have or0 : ∀ v : Int32, v = v ||| 0 := fun v => by
    refine b_ext (fun i _ => ?_)
    rw [b_or, b_0, Bool.or_false]
  -- what is told of each kind
  show SC6 σ σ1 pl t (stp (TC σ) (RC cd L pl t fl) t (p0, b, c)) r ∧ σ1 158 4 = σ 158 4 ||| (if TC σ 0 (ix p0) = 1 ∧ ¬ TC σ 1 (ix p0) = TC σ 2 (ix p0) ∧ ¬ σ 17 9 = 0 then 1 <<< (p0 &&& 31) else 0) ∧ ((σ1 158 5 = σ 158 5 ∧ ¬ (σ 4 (ix p0) = 3 ∧ ¬ σ 7 (ix p0) ≤ c)) ∨ (σ1 158 5 = σ 158 5 ||| 1 ∧ σ 4 (ix p0) = 3 ∧ ¬ σ 7 (ix p0) ≤ c))
  unfold stp
  show SC6 σ σ1 pl t (if TC σ 0 (ix p0) = 5 ∧ ¬ t - t / TC σ 3 (ix p0) * TC σ 3 (ix p0) = 0 then (0, false, (p0, b, c)) else if TC σ 0 (ix p0) = 3 ∧ ¬ TC σ 3 (ix p0) ≤ c then (0, false, (p0, b, c)) else if TC σ 0 (ix p0) = 4 ∧ (TC σ 3 (ix p0) / 10).toInt ≤ (t - t / 10 * 10).toInt ∧ (t - t / 10 * 10).toInt ≤ (TC σ 3 (ix p0) - TC σ 3 (ix p0) / 10 * 10).toInt then (2, false, (p0, b, c)) else arr6 (TC σ) (if TC σ 0 (ix p0) = 1 ∧ ¬ RC cd L pl t fl (p0, b, c) = 0 then TC σ 2 (ix p0) else TC σ 1 (ix p0)) (b - (if TC σ 0 (ix p0) = 2 then 1 + TC σ 3 (ix p0) else 1)) (if TC σ 0 (ix p0) = 3 then c - TC σ 3 (ix p0) else c)) r ∧ _
  rw [T0, T1, T2, T3]
  unfold B_X1_step_0 at h
  obtain ⟨r1, s1, t1, p1, h⟩ := bd_some h
  obtain ⟨w1, k1⟩ := x_spot6 p1
  rw [b0] at k1
  rw [← w1, k1] at h
  obtain ⟨r2, s2, t2, p2, h⟩ := bd_some h
  obtain ⟨w2, k2⟩ := x_figure6 hp p2
  rw [← w2] at h
  obtain ⟨r3, s3, t3, p3, h⟩ := bd_some h
  obtain ⟨w3, k3⟩ := x_next6 hp p3
  rw [← w3] at h
  obtain ⟨r4, s4, t4, p4, h⟩ := bd_some h
  obtain ⟨w4, k4⟩ := x_kind6 hp p4
  rw [← w4] at h
  rw [k2, k3, k4] at h
  have stay : r = 0 → σ1 = σ → SC6 σ σ1 pl t (0, false, (p0, b, c)) r := fun e1 e2 => by
    rw [e1, e2]
    exact ⟨rfl, hB, fun _ _ _ => rfl⟩
  by_cases d1 : σ 4 (ix p0) = 1
  · have ne : ∀ v : Int32, v ≠ 1 → ¬ σ 4 (ix p0) = v := fun v hv z => hv (z.symm.trans d1)
    rw [if_pos d1] at h
    obtain ⟨r6, s6, t6, p6, h⟩ := bd_some h
    obtain ⟨y1, y2, y3⟩ := x_way0 (s := (p0, b, c)) hI hp hC hB p6
    have y1 : r6 = if RC cd L pl t fl (p0, b, c) = 0 then σ 5 (ix p0) else σ 6 (ix p0) := y1
    have y2 : s6 158 4 = if ¬ σ 5 (ix p0) = σ 6 (ix p0) ∧ ¬ σ 17 9 = 0 then σ 158 4 ||| (1 <<< (p0 &&& 31)) else σ 158 4 := y2
    have hp2 := hk.2 d1
    have h6p : 0 ≤ r6.toInt ∧ r6.toInt < (s6 3 6).toInt := by
      rw [y3 3 6 (by omega), y1]
      by_cases c9 : RC cd L pl t fl (p0, b, c) = 0
      · rw [if_pos c9]; exact hp1
      · rw [if_neg c9]; exact hp2
    have eT : TC s6 = TC σ := tc_fr (fun c k a1 a2 => y3 c k (by omega))
    have w := x_step172 (by rw [y3 158 7 (by omega)]; exact h7) (t4_fr hT (fun c k hh => y3 c k (by omega))) h6p (bc_fr hB (fun c k hh => y3 c k (by omega))) h
    rw [eT] at w
    rw [if_neg (fun z => ne 5 (by decide) z.1), if_neg (fun z => ne 3 (by decide) z.1), if_neg (fun z => ne 4 (by decide) z.1), if_neg (ne 2 (by decide)), if_neg (ne 3 (by decide))]
    have e6 : r6 = if σ 4 (ix p0) = 1 ∧ ¬ RC cd L pl t fl (p0, b, c) = 0 then σ 6 (ix p0) else σ 5 (ix p0) := by
      rw [y1]
      by_cases c9 : RC cd L pl t fl (p0, b, c) = 0
      · rw [if_pos c9, if_neg (fun z => z.2 c9)]
      · rw [if_neg c9, if_pos ⟨d1, c9⟩]
    rw [← e6]
    refine ⟨⟨w.1, w.2.1, fun c k hh => (w.2.2 c k (by omega)).trans (y3 c k (by omega))⟩, ?_, Or.inl ⟨(w.2.2 158 5 (by omega)).trans (y3 158 5 (by omega)), fun z => ne 3 (by decide) z.1⟩⟩
    rw [w.2.2 158 4 (by omega), y2]
    by_cases c9 : ¬ σ 5 (ix p0) = σ 6 (ix p0) ∧ ¬ σ 17 9 = 0
    · rw [if_pos c9, if_pos ⟨d1, c9⟩]
    · rw [if_neg c9, if_neg (fun z => c9 z.2)]; exact or0 _
  rw [if_neg d1] at h
  rw [if_neg (show ¬ (σ 4 (ix p0) = 1 ∧ ¬ RC cd L pl t fl (p0, b, c) = 0) from fun z => d1 z.1), if_neg (show ¬ (σ 4 (ix p0) = 1 ∧ ¬ σ 5 (ix p0) = σ 6 (ix p0) ∧ ¬ σ 17 9 = 0) from fun z => d1 z.1)]
  rw [← or0 (σ 158 4)]
  have tell : ∀ (x7 : Int32) (s9 : gI) (t9 : gJ) (c' : Int32), (∀ c k : Nat, ¬ (c = 174) → s9 c k = σ c k) → s9 174 0 = c' → B_X1_step_172 N 171 s9 t9 0 (σ 5 (ix p0)) x7 = some (r, σ1, τ1) → SC6 σ σ1 pl t (arr6 (TC σ) (σ 5 (ix p0)) (b - x7) c') r ∧ σ1 158 4 = σ 158 4 ∧ σ1 158 5 = σ 158 5 := by
    intro x7 s9 t9 c' f g h
    have eT : TC s9 = TC σ := tc_fr (fun c k a1 a2 => f c k (by omega))
    have w := x_step172 (pl := pl) (t := t) (by rw [f 158 7 (by omega)]; exact h7) (t4_fr hT (fun c k hh => f c k (by omega))) (by rw [f 3 6 (by omega)]; exact hp1) (p0 := p0) (b := b) (c := c') ⟨by rw [f 172 0 (by omega)]; exact b0, by rw [f 173 0 (by omega)]; exact b1, g, by rw [f 171 9 (by omega)]; exact b9, by rw [f 171 10 (by omega)]; exact b10, by rw [f 171 7 (by omega)]; exact b7, by rw [f 171 8 (by omega)]; exact b8, by rw [f 171 6 (by omega)]; exact b6⟩ h
    rw [eT] at w
    exact ⟨⟨w.1, w.2.1, fun c k hh => (w.2.2 c k (by omega)).trans (f c k (by omega))⟩, (w.2.2 158 4 (by omega)).trans (f 158 4 (by omega)), (w.2.2 158 5 (by omega)).trans (f 158 5 (by omega))⟩
  by_cases d2 : σ 4 (ix p0) = 2
  · have ne : ∀ v : Int32, v ≠ 2 → ¬ σ 4 (ix p0) = v := fun v hv z => hv (z.symm.trans d2)
    rw [if_pos d2] at h
    obtain ⟨v8, e8, h⟩ := nm_some h
    rw [e8] at h
    rw [if_neg (fun z => ne 5 (by decide) z.1), if_neg (fun z => ne 3 (by decide) z.1), if_neg (fun z => ne 4 (by decide) z.1), if_pos d2, if_neg (ne 3 (by decide))]
    obtain ⟨y1, y2, y3⟩ := tell _ σ _ c (fun _ _ _ => rfl) b2 h
    exact ⟨y1, y2, Or.inl ⟨y3, fun z => ne 3 (by decide) z.1⟩⟩
  rw [if_neg d2] at h
  rw [if_neg d2]
  by_cases d3 : σ 4 (ix p0) = 3
  · have ne : ∀ v : Int32, v ≠ 3 → ¬ σ 4 (ix p0) = v := fun v hv z => hv (z.symm.trans d3)
    rw [if_pos d3] at h
    rw [if_neg (fun z => ne 5 (by decide) z.1)]
    obtain ⟨r10, s10, t10, p10, h⟩ := bd_some h
    unfold B_X1_pays_0 at p10
    obtain ⟨q1, m1, n1, o1, p10⟩ := bd_some p10
    obtain ⟨w5, k5⟩ := x_purse6 o1
    rw [← w5, k5, b2] at p10
    by_cases d5 : σ 7 (ix p0) ≤ c
    · rw [if_pos d5, if_pos h7] at p10
      obtain ⟨u4, m4, n4, o4, p10⟩ := bd_some p10
      obtain ⟨e1, e2, -⟩ := sm_inj p10
      unfold B_X6_setPurse_0 at o4
      rw [if_neg (by decide), if_neg (by decide)] at o4
      obtain ⟨j, ej, -, o4⟩ := ck_some o4
      have hj : j = 0 := by rw [← ej]; rfl
      obtain ⟨m5, e5, o4⟩ := nm_some o4
      obtain ⟨-, e6, -⟩ := sm_inj o4
      rw [hj] at e5
      rw [if_neg (show ¬ r10 = 0 by rw [← e1]; decide)] at h
      rw [if_neg (fun z => z.2 d5), if_neg (fun z => ne 4 (by decide) z.1), if_pos d3]
      obtain ⟨y1, y2, y3⟩ := tell _ s10 _ (c - σ 7 (ix p0)) (fun c k hh => by rw [← e2, ← e6, e5]; exact up2_ne (by omega)) (by rw [← e2, ← e6, e5, up_eq]) h
      exact ⟨y1, y2, Or.inl ⟨y3, fun z => z.2 d5⟩⟩
    · rw [if_neg d5] at p10
      obtain ⟨m5, e5, p10⟩ := nm_some p10
      rw [one_sh] at e5
      obtain ⟨e1, e2, -⟩ := sm_inj p10
      rw [if_pos e1.symm] at h
      obtain ⟨e3, e4, -⟩ := sm_inj h
      rw [if_pos ⟨d3, d5⟩]
      have es : σ1 = m5 := e4.symm.trans e2.symm
      rw [es, ← e3]
      refine ⟨⟨rfl, bc_fr hB (fun c k hh => by rw [e5]; exact up2_ne (by omega)), fun c k hh => by rw [e5]; exact up2_ne (by omega)⟩, by rw [e5, up2_ne (by omega)], Or.inr ⟨by rw [e5, up_eq], d3, d5⟩⟩
  rw [if_neg d3] at h
  rw [if_neg (show ¬ (σ 4 (ix p0) = 3 ∧ ¬ σ 7 (ix p0) ≤ c) from fun z => d3 z.1), if_neg d3]
  by_cases d4 : σ 4 (ix p0) = 4
  · have ne : ∀ v : Int32, v ≠ 4 → ¬ σ 4 (ix p0) = v := fun v hv z => hv (z.symm.trans d4)
    rw [if_pos d4] at h
    rw [if_neg (fun z => ne 5 (by decide) z.1)]
    obtain ⟨v13, e13, h⟩ := nm_some h
    rw [b8] at e13
    rw [e13] at h
    by_cases d5 : t - t / 10 * 10 < σ 7 (ix p0) / 10
    · rw [if_pos d5] at h
      rw [fa_lt] at d5
      rw [if_neg (fun z => by have := z.2.1; omega)]
      obtain ⟨y1, y2, y3⟩ := tell _ σ _ c (fun _ _ _ => rfl) b2 h
      exact ⟨y1, y2, Or.inl ⟨y3, fun z => d3 z.1⟩⟩
    · rw [if_neg d5] at h
      rw [fa_lt] at d5
      by_cases d6 : σ 7 (ix p0) - σ 7 (ix p0) / 10 * 10 < t - t / 10 * 10
      · rw [if_pos d6] at h
        rw [fa_lt] at d6
        rw [if_neg (fun z => by have := z.2.2; omega)]
        obtain ⟨y1, y2, y3⟩ := tell _ σ _ c (fun _ _ _ => rfl) b2 h
        exact ⟨y1, y2, Or.inl ⟨y3, fun z => d3 z.1⟩⟩
      · rw [if_neg d6] at h
        rw [fa_lt] at d6
        rw [if_pos ⟨d4, by omega, by omega⟩]
        obtain ⟨u16, s16, t16, p16, h⟩ := bd_some h
        obtain ⟨y1, y2⟩ := x_lose6 p16
        obtain ⟨rfl, rfl, -⟩ := sm_inj h
        have b10 : σ 171 10 = 0 := b10
        exact ⟨⟨rfl, ⟨by rw [y2 172 0 (by omega)]; exact b0, by rw [y2 173 0 (by omega)]; exact b1, by rw [y2 174 0 (by omega)]; exact b2, by rw [y2 171 9 (by omega)]; exact b9, by rw [y1, b10]; rfl, by rw [y2 171 7 (by omega)]; exact b7, by rw [y2 171 8 (by omega)]; exact b8, by rw [y2 171 6 (by omega)]; exact b6⟩, fun c k hh => y2 c k (by omega)⟩, y2 158 4 (by omega), Or.inl ⟨y2 158 5 (by omega), fun z => d3 z.1⟩⟩
  rw [if_neg d4] at h
  by_cases d5 : σ 4 (ix p0) = 5
  · rw [if_pos d5, if_neg (show ¬ σ 7 (ix p0) ≤ 0 from fun z => by rw [fa_le] at z; have := hfi d5; omega)] at h
    obtain ⟨-, h⟩ := dz_some h
    rw [b8] at h
    by_cases d6 : t - t / σ 7 (ix p0) * σ 7 (ix p0) = 0
    · rw [if_pos d6] at h
      rw [if_neg (fun z => z.2 d6), if_neg (fun z => d4 z.1)]
      obtain ⟨y1, y2, y3⟩ := tell _ σ _ c (fun _ _ _ => rfl) b2 h
      exact ⟨y1, y2, Or.inl ⟨y3, fun z => d3 z.1⟩⟩
    · rw [if_neg d6] at h
      rw [if_pos ⟨d5, d6⟩]
      obtain ⟨e1, e2, -⟩ := sm_inj h
      exact ⟨stay e1.symm e2.symm, by rw [← e2], Or.inl ⟨by rw [← e2], fun z => d3 z.1⟩⟩
  rw [if_neg d5, if_neg i3] at h
  rw [if_neg (fun z => d5 z.1), if_neg (fun z => d4 z.1)]
  obtain ⟨y1, y2, y3⟩ := tell _ σ _ c (fun _ _ _ => rfl) b2 h
  exact ⟨y1, y2, Or.inl ⟨y3, fun z => d3 z.1⟩⟩
end SIM34E
