section SIM34U
variable {N : Nat} {σ σ1 : gI} {τ τ1 : gJ} {r : Int32}
def H3 (h : Int32) : Prop := h = 0 ∨ h = 1 ∨ h = 2
theorem arr_h {T : Nat → Nat → Int32} {p b c : Int32} : H3 (arr6 T p b c).1 := by
  unfold arr6
  by_cases c1 : b.toInt < 0
  · rw [if_pos c1]; exact Or.inr (Or.inr rfl)
  · rw [if_neg c1]
    by_cases c2 : T 0 (ix p) = 6
    · rw [if_pos c2]; exact Or.inr (Or.inl rfl)
    · rw [if_neg c2]; exact Or.inl rfl
theorem stp_h {T : Nat → Nat → Int32} {rv : SB → Int32} {t : Int32} {s : SB} : H3 (stp T rv t s).1 := by
  unfold stp
  by_cases c1 : T 0 (ix s.1) = 5 ∧ ¬ t - t / T 3 (ix s.1) * T 3 (ix s.1) = 0
  · rw [if_pos c1]; exact Or.inl rfl
  · rw [if_neg c1]
    by_cases c2 : T 0 (ix s.1) = 3 ∧ ¬ T 3 (ix s.1) ≤ s.2.2
    · rw [if_pos c2]; exact Or.inl rfl
    · rw [if_neg c2]
      by_cases c3 : T 0 (ix s.1) = 4 ∧ (T 3 (ix s.1) / 10).toInt ≤ (t - t / 10 * 10).toInt ∧ (t - t / 10 * 10).toInt ≤ (T 3 (ix s.1) - T 3 (ix s.1) / 10 * 10).toInt
      · rw [if_pos c3]; exact Or.inr (Or.inr rfl)
      · rw [if_neg c3]; exact arr_h
theorem mst_h {T : Nat → Nat → Int32} {rv : SB → Int32} {t : Int32} : ∀ (k : Nat) (s : SB), H3 (mst (stp T rv t) k s).1 := by
  intro k
  induction k with
  | zero => intro s; exact Or.inl rfl
  | succ k ih =>
    intro s
    have e : mst (stp T rv t) (k + 1) s = if (stp T rv t s).2.1 = true then mst (stp T rv t) k (stp T rv t s).2.2 else ((stp T rv t s).1, (stp T rv t s).2.2) := rfl
    rw [e]
    by_cases c : (stp T rv t s).2.1 = true
    · rw [if_pos c]; exact ih _
    · rw [if_neg c]; exact stp_h
theorem x_ends3 {pl : Int32} {cd : Nat → Int32} {L n0 : Int} : ∀ (n : Nat) (s : gI) (t2 : gJ) (x4 r : Int32) (σ1 : gI) (τ1 : gJ) (t how : Int32) (x : SB), H_X12_endsAfter_3 N 224 n s t2 0 x4 = some (r, σ1, τ1) → EV σ s cd L n0 → BR s pl t how x → H3 how → (how = 0 → IN6 (TT σ) n0 x) → (0 ≤ x4.toInt ∧ x4.toInt ≤ 301) → ((s 224 5).toInt ≤ t.toInt ∧ t.toInt ≤ 1000000 + x4.toInt) → EV σ σ1 cd L n0 ∧ (if σ1 224 4 = 1 then σ1 224 0 else -1) = (if how = 1 then x.1 else if how = 2 then -1 else rnn (TT σ) (fun t => RVL cd L pl t (wtr (σ 199 4) (σ 205) t)) (wtr (σ 199 4) (σ 205)) (300 - x4.toInt).toNat t x) := by
  have l1 : (1 : Int32).toInt = 1 := rfl
  have l300 : (300 : Int32).toInt = 300 := rfl
  intro n
  induction n with
  | zero => intro s t2 x4 r σ1 τ1 t how x h; cases h
  | succ n ih =>
    intro s t2 x4 r σ1 τ1 t how x h hE hB h3 hI h4 h5
    have h : C_X12_endsAfter_3 N 224 (H_X12_endsAfter_3 N 224 n) s t2 0 x4 = some (r, σ1, τ1) := h
    unfold C_X12_endsAfter_3 at h
    obtain ⟨b0, b1, b2, b4, b42, b43, b44⟩ := id hB
    have stop : σ1 = s → (how = 0 → (300 - x4.toInt).toNat = 0) → EV σ σ1 cd L n0 ∧ (if σ1 224 4 = 1 then σ1 224 0 else -1) = (if how = 1 then x.1 else if how = 2 then -1 else rnn (TT σ) (fun t => RVL cd L pl t (wtr (σ 199 4) (σ 205) t)) (wtr (σ 199 4) (σ 205)) (300 - x4.toInt).toNat t x) := by
      intro e hz
      rw [e]
      refine ⟨hE, ?_⟩
      rw [b4, b0]
      rcases h3 with z | z | z
      · rw [z, if_neg (show ¬ (0 : Int32) = 1 by decide), if_neg (show ¬ (0 : Int32) = 1 by decide), if_neg (show ¬ (0 : Int32) = 2 by decide), hz z]
        rfl
      · rw [z, if_pos rfl, if_pos rfl]
      · rw [z, if_neg (show ¬ (2 : Int32) = 1 by decide), if_neg (show ¬ (2 : Int32) = 1 by decide), if_pos rfl]
    by_cases c1 : 300 < x4
    · rw [if_pos c1] at h
      rw [fa_lt] at c1
      obtain ⟨-, e, -⟩ := sm_inj h
      exact stop e.symm (fun _ => by omega)
    · rw [if_neg c1] at h
      rw [fa_lt] at c1
      obtain ⟨j2, ej2, -, h⟩ := ck_some h
      have h2 : j2 = 4 := by rw [← ej2]; rfl
      rw [h2, b4] at h
      by_cases c2 : how = 0
      · rw [if_pos c2] at h
        by_cases c3 : 300 ≤ x4
        · rw [if_pos c3] at h
          rw [fa_le] at c3
          obtain ⟨v5, e5, h⟩ := nm_some h
          have u5 : v5.toInt = x4.toInt + 1 := by rw [e5, ti_add (by omega) (by omega), l1]
          have w := ih s t2 v5 r σ1 τ1 t how x h hE hB h3 hI (by omega) (by omega)
          rw [show (300 - v5.toInt).toNat = (300 - x4.toInt).toNat by omega] at w
          exact w
        · rw [if_neg c3] at h
          rw [fa_le] at c3
          obtain ⟨u6, s6, t6, q6, h⟩ := bd_some h
          obtain ⟨v7, e7, h⟩ := nm_some h
          have u7 : v7.toInt = x4.toInt + 1 := by rw [e7, ti_add (by omega) (by omega), l1]
          rw [c2] at hB
          obtain ⟨y1, y2, y3⟩ := x_minute6 hE (hI c2) hB (fun z => by rw [fa_lt] at z; omega) q6
          have ut : (t + 1).toInt = t.toInt + 1 := by have := i32_rng (s 224 5); rw [ti_add (by omega) (by omega), l1]
          have w := ih s6 t6 v7 r σ1 τ1 (t + 1) _ _ h y1 y2 (mst_h _ _) (fun z => (mst_in hE.2.2.2.1 hE.2.2.2.2.1 _ _ (hI c2)).2 z) (by omega) (by rw [y3, ut]; omega)
          refine ⟨w.1, ?_⟩
          rw [w.2, c2, if_neg (show ¬ (0 : Int32) = 1 by decide), if_neg (show ¬ (0 : Int32) = 2 by decide), show (300 - x4.toInt).toNat = (300 - v7.toInt).toNat + 1 by omega]
          rfl
      · rw [if_neg c2] at h
        obtain ⟨-, e, -⟩ := sm_inj h
        exact stop e.symm (fun z => absurd z c2)
theorem x_lays6 {u : Unit} {p x4 x5 x6 : Int32} (hp : 0 ≤ p.toInt ∧ p.toInt < 12) (h : B_X12_lays_0 N 224 σ τ 0 p x4 x5 x6 = some (u, σ1, τ1)) : σ1 224 0 = p ∧ σ1 224 1 = x4 ∧ σ1 224 2 = x5 ∧ (σ1 224 4 = if σ 201 (ix p) = 6 then 1 else 0) ∧ σ1 224 5 = σ 224 43 + x6 ∧ ∀ c k : Nat, ¬ (c = 224 ∧ k ≤ 6) → σ1 c k = σ c k := by
  have nn := nat_of_toInt (i := p) hp.1
  have G : ∀ (s : gI) (t : gJ) (y0 : Int32), B_X12_lays_59 N 224 s t p x6 0 y0 4 = some (u, σ1, τ1) → σ1 224 4 = y0 ∧ σ1 224 5 = s 224 43 + x6 ∧ ∀ c k : Nat, ¬ (c = 224 ∧ (k = 4 ∨ k = 5 ∨ k = 6)) → σ1 c k = s c k := by
    intro s t y0 h
    unfold B_X12_lays_59 at h
    obtain ⟨j1, ej1, -, h⟩ := ck_some h
    have h1 : j1 = 4 := by rw [← ej1]; rfl
    obtain ⟨s2, e2, h⟩ := nm_some h
    obtain ⟨j3, ej3, -, h⟩ := ck_some h
    have h3 : j3 = 5 := by rw [← ej3]; rfl
    obtain ⟨s4, e4, h⟩ := nm_some h
    rw [h1] at e2
    rw [h3] at e4
    have f4 : ∀ c k : Nat, ¬ (c = 224 ∧ (k = 4 ∨ k = 5)) → s4 c k = s c k := fun c k hh => by rw [e4, up2_ne (by omega), e2, up2_ne (by omega)]
    have g4 : s4 224 4 = y0 := by rw [e4, up2_ne (by omega), e2, up_eq]
    have g5 : s4 224 5 = s 224 43 + x6 := by rw [e4, up_eq, e2, up2_ne (by omega)]
    obtain ⟨j5, ej5, -, h⟩ := ck_some h
    have fin : ∀ w : Int32, (ck ((0 : Int32) + 6) 45 fun j_9 => nm (up2 s4 224 j_9 w) fun σ_10 => some ((), σ_10, t)) = some (u, σ1, τ1) → σ1 224 4 = y0 ∧ σ1 224 5 = s 224 43 + x6 ∧ ∀ c k : Nat, ¬ (c = 224 ∧ (k = 4 ∨ k = 5 ∨ k = 6)) → σ1 c k = s c k := by
      intro w h
      obtain ⟨j9, ej9, -, h⟩ := ck_some h
      have h9 : j9 = 6 := by rw [← ej9]; rfl
      obtain ⟨s10, e10, h⟩ := nm_some h
      obtain ⟨-, rfl, -⟩ := sm_inj h
      rw [h9] at e10
      exact ⟨by rw [e10, up2_ne (by omega)]; exact g4, by rw [e10, up2_ne (by omega)]; exact g5, fun c k hh => by rw [e10, up2_ne (by omega)]; exact f4 c k (by omega)⟩
    by_cases c6 : s4 201 j5 = 6
    · rw [if_pos c6] at h; exact fin _ h
    · rw [if_neg c6] at h; exact fin _ h
  unfold B_X12_lays_0 at h
  obtain ⟨v1, e1, h⟩ := nm_some h
  have ev : v1 = 0 := e1
  rw [ev] at h
  obtain ⟨j2, ej2, -, h⟩ := ck_some h
  have h2 : j2 = 0 := by rw [← ej2]; rfl
  obtain ⟨s3, e3, h⟩ := nm_some h
  obtain ⟨j4, ej4, -, h⟩ := ck_some h
  have h4 : j4 = 1 := by rw [← ej4]; rfl
  obtain ⟨s5, e5, h⟩ := nm_some h
  obtain ⟨j6, ej6, -, h⟩ := ck_some h
  have h6 : j6 = 2 := by rw [← ej6]; rfl
  obtain ⟨s7, e7, h⟩ := nm_some h
  obtain ⟨j8, ej8, -, h⟩ := ck_some h
  have h8 : j8 = 3 := by rw [← ej8]; rfl
  obtain ⟨s9, e9, h⟩ := nm_some h
  obtain ⟨j10, ej10, -, h⟩ := ck_some h
  have h10 : j10 = ix p := by unfold ix; omega
  rw [h2] at e3
  rw [h4] at e5
  rw [h6] at e7
  rw [h8] at e9
  have f9 : ∀ c k : Nat, ¬ (c = 224 ∧ k ≤ 3) → s9 c k = σ c k := fun c k hh => by rw [e9, up2_ne (by omega), e7, up2_ne (by omega), e5, up2_ne (by omega), e3, up2_ne (by omega)]
  have a0 : s9 224 0 = p := by rw [e9, up2_ne (by omega), e7, up2_ne (by omega), e5, up2_ne (by omega), e3, up_eq]
  have a1 : s9 224 1 = x4 := by rw [e9, up2_ne (by omega), e7, up2_ne (by omega), e5, up_eq]
  have a2 : s9 224 2 = x5 := by rw [e9, up2_ne (by omega), e7, up_eq]
  rw [h10, f9 201 _ (by omega)] at h
  by_cases c6 : σ 201 (ix p) = 6
  · rw [if_pos c6] at h
    rw [if_pos c6]
    obtain ⟨w1, w2, w3⟩ := G s9 _ 1 h
    exact ⟨by rw [w3 224 0 (by omega)]; exact a0, by rw [w3 224 1 (by omega)]; exact a1, by rw [w3 224 2 (by omega)]; exact a2, w1, by rw [w2, f9 224 43 (by omega)], fun c k hh => (w3 c k (by omega)).trans (f9 c k (by omega))⟩
  · rw [if_neg c6] at h
    rw [if_neg c6]
    obtain ⟨w1, w2, w3⟩ := G s9 _ 0 h
    exact ⟨by rw [w3 224 0 (by omega)]; exact a0, by rw [w3 224 1 (by omega)]; exact a1, by rw [w3 224 2 (by omega)]; exact a2, w1, by rw [w2, f9 224 43 (by omega)], fun c k hh => (w3 c k (by omega)).trans (f9 c k (by omega))⟩
theorem x_laysAlone6 {p x2 x3 x4 : Int32} (hp : 0 ≤ p.toInt ∧ p.toInt < 12) : ∀ (n : Nat) (s : gI) (t : gJ) (x5 : Int32) (u : Unit) (σ1 : gI) (τ1 : gJ), H_X12_laysAlone_3 N n s t p x2 x3 x4 x5 = some (u, σ1, τ1) → (∀ c k : Nat, ¬ (c = 224) → s c k = σ c k) → BR σ1 (σ 199 45) (σ 199 46) (if σ 201 (ix p) = 6 then 1 else 0) (p, x2, x3) ∧ σ1 224 5 = σ 199 46 + x4 ∧ ∀ c k : Nat, ¬ (c = 224) → σ1 c k = σ c k := by
  intro n
  induction n with
  | zero => intro s t x5 u σ1 τ1 h; cases h
  | succ n ih =>
    intro s t x5 u σ1 τ1 h f
    have h : C_X12_laysAlone_3 N (H_X12_laysAlone_3 N n) s t p x2 x3 x4 x5 = some (u, σ1, τ1) := h
    unfold C_X12_laysAlone_3 at h
    by_cases c : 45 ≤ x5
    · rw [if_pos c] at h
      obtain ⟨s2, e2, h⟩ := nm_some h
      obtain ⟨s3, e3, h⟩ := nm_some h
      obtain ⟨s4, e4, h⟩ := nm_some h
      obtain ⟨u5, s5, t5, q5, h⟩ := bd_some h
      obtain ⟨-, rfl, -⟩ := sm_inj h
      have f4 : ∀ c k : Nat, ¬ (c = 224) → s4 c k = σ c k := fun c k hh => by rw [e4, up2_ne (by omega), e3, up2_ne (by omega), e2, up2_ne (by omega)]; exact f c k hh
      have a42 : s4 224 42 = σ 199 45 := by rw [e4, up2_ne (by omega), e3, up2_ne (by omega), e2, up_eq, f 199 45 (by omega)]
      have a43 : s4 224 43 = σ 199 46 := by rw [e4, up2_ne (by omega), e3, up_eq, e2, up2_ne (by omega), f 199 46 (by omega)]
      have a44 : s4 224 44 = 1 := by rw [e4, up_eq]
      obtain ⟨y0, y1, y2, y4, y5, y6⟩ := x_lays6 hp q5
      rw [f4 201 _ (by omega)] at y4
      exact ⟨⟨y0, y1, y2, y4, by rw [y6 224 42 (by omega)]; exact a42, by rw [y6 224 43 (by omega)]; exact a43, by rw [y6 224 44 (by omega)]; exact a44⟩, by rw [y5, a43], fun c k hh => (y6 c k (by omega)).trans (f4 c k hh)⟩
    · rw [if_neg c] at h
      obtain ⟨j, -, -, h⟩ := ck_some h
      obtain ⟨s7, e7, h⟩ := nm_some h
      obtain ⟨v8, e8, h⟩ := nm_some h
      exact ih s7 t v8 u σ1 τ1 h (fun c k hh => by rw [e7, up2_ne (by omega)]; exact f c k hh)
/-- where a cork floats, told by the reference -/
theorem x_floats {p m pl : Int32} {cd : Nat → Int32} {L n0 : Int} (h31 : σ 199 31 = 0) (h33 : σ 199 33 = 0) (hn : n0 ≤ 12) (hT : TK (TT σ) n0) (hL : 0 ≤ L ∧ L ≤ 80) (hW : CW cd L) (e28 : (σ 199 28).toInt = L) (e216 : ∀ k : Nat, (k : Int) < L → σ 216 k = cd k) (hp : 0 ≤ p.toInt ∧ p.toInt < n0) (hm : 0 ≤ m.toInt ∧ m.toInt ≤ 999) (h : B_X12_floatsTo_0 N σ τ p m pl = some (r, σ1, τ1)) : r = flo (TT σ) (fun t => RVL cd L pl t (wtr (σ 199 4) (σ 205) t)) (wtr (σ 199 4) (σ 205)) p m ∧ ∀ c k : Nat, ¬ (c = 218 ∨ c = 224 ∨ (c = 199 ∧ (k = 34 ∨ k = 45 ∨ k = 46))) → σ1 c k = σ c k := by
  have l0 : (0 : Int32).toInt = 0 := rfl
  unfold B_X12_floatsTo_0 at h
  obtain ⟨s1, e1, h⟩ := nm_some h
  obtain ⟨s2, e2, h⟩ := nm_some h
  have f2 : ∀ c k : Nat, ¬ (c = 199 ∧ (k = 45 ∨ k = 46)) → s2 c k = σ c k := fun c k hh => by rw [e2, up2_ne (by omega), e1, up2_ne (by omega)]
  have a45 : s2 199 45 = pl := by rw [e2, up2_ne (by omega), e1, up_eq]
  have a46 : s2 199 46 = m := by rw [e2, up_eq]
  have eT : TT s2 = TT σ := tt_fr (fun c k a1 a2 => f2 c k (by omega))
  obtain ⟨r3, s3, t3, q3, h⟩ := bd_some h
  unfold B_X12_goesAlone_0 at q3
  obtain ⟨u4, s4, t4, q4, q3⟩ := bd_some q3
  unfold B_X12_laysAlone_0 at q4
  obtain ⟨y1, y2, y3⟩ := x_laysAlone6 (σ := s2) (by omega) N s2 _ 0 u4 s4 t4 q4 (fun _ _ _ => rfl)
  rw [a45, a46, f2 201 _ (by omega)] at y1
  rw [a46] at y2
  obtain ⟨r5, s5, t5, q5, q3⟩ := bd_some q3
  obtain ⟨rfl, rfl, -⟩ := sm_inj q3
  unfold B_X12_endsAfter_0 at q5
  have hE : EV s2 s4 cd L n0 := ⟨fun c k hh => y3 c k (by omega), by rw [f2 199 31 (by omega)]; exact h31, by rw [f2 199 33 (by omega)]; exact h33, hn, by rw [eT]; exact hT, hL, hW, by rw [f2 199 28 (by omega)]; exact e28, fun k hk => by rw [f2 216 k (by omega)]; exact e216 k hk⟩
  have um : (m + 0).toInt = m.toInt := by rw [ti_add (by omega) (by omega), l0]; omega
  obtain ⟨w1, w2⟩ := x_ends3 (pl := pl) N s4 t4 0 r5 s5 t5 m _ _ q5 hE y1 (by
      by_cases c6 : σ 201 (ix p) = 6
      · rw [if_pos c6]; exact Or.inr (Or.inl rfl)
      · rw [if_neg c6]; exact Or.inl rfl) (fun z => by
      by_cases c6 : σ 201 (ix p) = 6
      · rw [if_pos c6] at z; exact absurd z (by decide)
      · rw [eT]; exact ⟨hp, c6⟩) (by omega) (by rw [y2]; omega)
  rw [eT, f2 199 4 (by omega), show s2 205 = σ 205 from funext fun k => f2 205 k (by omega)] at w2
  have hr : r = if s5 224 4 = 1 then s5 224 0 else -1 := by
    by_cases c : s5 224 4 = 1
    · rw [if_pos c] at h ⊢; exact (sm_inj h).1.symm
    · rw [if_neg c] at h ⊢; exact (sm_inj h).1.symm
  have hs : σ1 = s5 := by
    by_cases c : s5 224 4 = 1
    · rw [if_pos c] at h; exact (sm_inj h).2.1.symm
    · rw [if_neg c] at h; exact (sm_inj h).2.1.symm
  refine ⟨?_, fun c k hh => by rw [hs]; exact (w1.1 c k (by omega)).trans (f2 c k (by omega))⟩
  rw [hr, w2]
  unfold flo
  have eT0 : TT σ 0 (ix p) = σ 201 (ix p) := rfl
  rw [eT0]
  by_cases c6 : σ 201 (ix p) = 6
  · rw [if_pos c6, if_pos c6, if_pos rfl]
  · rw [if_neg c6, if_neg c6, if_neg (show ¬ (0 : Int32) = 1 by decide), if_neg (show ¬ (0 : Int32) = 2 by decide)]
    rfl
end SIM34U
