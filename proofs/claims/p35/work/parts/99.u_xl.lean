section SIM34F
variable {N : Nat} {σ σ1 : gI} {τ τ1 : gJ} {r : Int32}
theorem x_wat6 {x1 : Int32} (hL : 0 ≤ (σ 15 1).toInt ∧ (σ 15 1).toInt ≤ 40) (hx : 0 ≤ x1.toInt) (h : B_X10_in_0 N σ τ x1 = some (r, σ1, τ1)) : σ = σ1 ∧ r = wtr (σ 15 1) (σ 16) x1 := by
  have l0 : (0 : Int32).toInt = 0 := rfl
  have l40 : (40 : Int32).toInt = 40 := rfl
  unfold B_X10_in_0 at h
  unfold wtr
  by_cases c : σ 15 1 ≤ 0
  · rw [if_pos c] at h
    rw [fa_le] at c
    rw [if_pos ((fa_eq _ _).mpr (by omega))]
    obtain ⟨a, b, -⟩ := sm_inj h
    exact ⟨b, a.symm⟩
  · rw [if_neg c] at h
    rw [fa_le] at c
    rw [if_neg (fun z => by rw [fa_eq] at z; omega)]
    rw [if_neg (show ¬ (40 : Int32) < σ 15 1 from fun z => by rw [fa_lt] at z; omega)] at h
    by_cases c2 : 0 ≤ x1
    · rw [if_pos c2] at h
      obtain ⟨-, h⟩ := dz_some h
      obtain ⟨j, ej, -, h⟩ := ck_some h
      rw [ej]
      obtain ⟨a, b, -⟩ := sm_inj h
      exact ⟨b, a.symm⟩
    · rw [fa_le] at c2
      omega
/-- what a run of the class's boat finds: σ ahead, s now -/
def EC (σ s : gI) (cd : Nat → Int32) (L : Int) : Prop := (∀ c k : Nat, ¬ (c = 19 ∨ c = 159 ∨ (c = 158 ∧ (k = 4 ∨ k = 5 ∨ k = 6)) ∨ (171 ≤ c ∧ c ≤ 177)) → s c k = σ c k) ∧ (σ 17 10 = 0 ∨ σ 17 10 = 1) ∧ σ 158 7 = 0 ∧ σ 158 8 = 0 ∧ (0 ≤ (σ 15 1).toInt ∧ (σ 15 1).toInt ≤ 40) ∧ T4 σ ∧ TK (TC σ) (σ 3 6).toInt ∧ (∀ p : Nat, (p : Int) < (σ 3 6).toInt → σ 4 p = 5 → 0 < (σ 7 p).toInt) ∧ CC σ cd L
/-- held by a rat -/
def SK (T : Nat → Nat → Int32) (s : SB) : Prop := T 0 (ix s.1) = 3 ∧ ¬ T 3 (ix s.1) ≤ s.2.2
theorem x_cst6 {s : gI} {t2 : gJ} {pl t fl : Int32} {x : SB} {cd : Nat → Int32} {L : Int} (hE : EC σ s cd L) (hs : IN6 (TC σ) (σ 3 6).toInt x) (hB : BC s pl t 0 x) (h : B_X1_step_0 N 171 s t2 0 fl = some (r, σ1, τ1)) : (r = if (stp (TC σ) (RC cd L pl t fl) t x).2.1 = true then 1 else 0) ∧ BC σ1 pl t (stp (TC σ) (RC cd L pl t fl) t x).1 (stp (TC σ) (RC cd L pl t fl) t x).2.2 ∧ EC σ σ1 cd L ∧ σ1 176 0 = s 176 0 ∧ σ1 158 4 = s 158 4 ||| abit (TC σ) (σ 17 9) x ∧ ((σ1 158 5 = s 158 5 ∧ ¬ SK (TC σ) x) ∨ (σ1 158 5 = s 158 5 ||| 1 ∧ SK (TC σ) x)) := by
  obtain ⟨f, a10, a7, a8, a15, aT, aK, aF, aC⟩ := hE
  have eT : TC s = TC σ := tc_fr (fun c k a1 a2 => f c k (by omega))
  have e36 : s 3 6 = σ 3 6 := f 3 6 (by omega)
  obtain ⟨w1, w2, w3⟩ := x_cstep (N := N) (by rw [f 17 10 (by omega)]; exact a10) (by rw [f 158 7 (by omega)]; exact a7) (t4_fr aT (fun c k hh => f c k (by omega))) (by rw [eT, e36]; exact aK) (fun p hp h5 => by rw [e36] at hp; rw [f 4 p (by omega)] at h5; rw [f 7 p (by omega)]; exact aF p hp h5) (by rw [eT, e36]; exact hs) (cc_fr aC (fun c k hh => f c k (by omega))) hB h
  rw [eT] at w1 w2
  rw [f 17 9 (by omega)] at w2
  rw [f 4 _ (by omega), f 7 _ (by omega)] at w3
  exact ⟨w1.1, w1.2.1, ⟨fun c k hh => (w1.2.2 c k (by omega)).trans (f c k hh), a10, a7, a8, a15, aT, aK, aF, aC⟩, w1.2.2 176 0 (by omega), w2, w3⟩
theorem x_pass33 {pl t x2 : Int32} {cd : Nat → Int32} {L : Int} {rec : gI → gJ → Int32 → Int32 → Option (Unit × gI × gJ)} {u : Unit} : ∀ (m : Nat) (s : gI) (t2 : gJ) (x4 x5 how : Int32) (x : SB), H_X1_pass_33 N 171 rec m s t2 x2 0 x4 x5 = some (u, σ1, τ1) → EC σ s cd L → 0 ≤ x5.toInt → BC s pl t how x → ((x4 = 1 ∧ how = 0 ∧ IN6 (TC σ) (σ 3 6).toInt x) ∨ x4 = 0) → ∃ (s3 : gI) (t3 : gJ), rec s3 t3 x2 1 = some (u, σ1, τ1) ∧ EC σ s3 cd L ∧ BC s3 pl t (if x4 = 1 then (mst (stp (TC σ) (RC cd L pl t x2) t) (x2.toInt - x5.toInt).toNat x).1 else how) (if x4 = 1 then (mst (stp (TC σ) (RC cd L pl t x2) t) (x2.toInt - x5.toInt).toNat x).2 else x) ∧ s3 176 0 = s 176 0 ∧ (s3 158 4 = if x4 = 1 then mas (stp (TC σ) (RC cd L pl t x2) t) (abit (TC σ) (σ 17 9)) (x2.toInt - x5.toInt).toNat x (s 158 4) else s 158 4) ∧ (s3 158 5 = s 158 5 ∨ (s3 158 5 = s 158 5 ||| 1 ∧ x4 = 1 ∧ (mst (stp (TC σ) (RC cd L pl t x2) t) (x2.toInt - x5.toInt).toNat x).1 = 0 ∧ SK (TC σ) (mst (stp (TC σ) (RC cd L pl t x2) t) (x2.toInt - x5.toInt).toNat x).2)) := by
  have l1 : (1 : Int32).toInt = 1 := rfl
  intro m
  induction m with
  | zero => intro s t2 x4 x5 how x h; cases h
  | succ m ih =>
    intro s t2 x4 x5 how x h hE h5 hB h4
    have h : C_X1_pass_33 N 171 rec (H_X1_pass_33 N 171 rec m) s t2 x2 0 x4 x5 = some (u, σ1, τ1) := h
    unfold C_X1_pass_33 at h
    have z1 : (0 : Int32) + 1 = 1 := rfl
    by_cases c1 : x2 ≤ x5
    · rw [if_pos c1] at h
      rw [fa_le] at c1
      obtain ⟨v2, e2, h⟩ := nm_some h
      rw [e2, z1] at h
      rw [show (x2.toInt - x5.toInt).toNat = 0 by omega]
      refine ⟨s, t2, h, hE, ?_, rfl, ?_, Or.inl rfl⟩
      · rcases h4 with ⟨h4, h40, -⟩ | h4
        · rw [if_pos h4, if_pos h4]
          show BC s pl t 0 x
          rw [← h40]; exact hB
        · rw [if_neg (by rw [h4]; decide), if_neg (by rw [h4]; decide)]
          exact hB
      · split <;> rfl
    · rw [if_neg c1] at h
      rw [fa_le] at c1
      rcases h4 with ⟨h4, h40, h4i⟩ | h4
      · rw [if_neg (show ¬ x4 = 0 by rw [h4]; decide)] at h
        obtain ⟨r5, s5, t5, q5, h⟩ := bd_some h
        rw [h40] at hB
        obtain ⟨w1, w2, w3, w4, w5, w6⟩ := x_cst6 hE h4i hB q5
        obtain ⟨v6, e6, h⟩ := nm_some h
        have hx2 := i32_rng x2
        have u6 : v6.toInt = x5.toInt + 1 := by rw [e6, ti_add (by omega) (by omega), l1]
        have n12 := hE.2.2.2.2.2.1.2.1.2
        have si := stp_in (rv := RC cd L pl t x2) (t := t) n12 hE.2.2.2.2.2.2.1 h4i
        rw [if_pos h4, if_pos h4, if_pos h4, show (x2.toInt - x5.toInt).toNat = (x2.toInt - v6.toInt).toNat + 1 by omega]
        -- a rat that holds it: no step more
        have sk : SK (TC σ) x → stp (TC σ) (RC cd L pl t x2) t x = (0, false, x) := fun z => by
          unfold stp
          rw [if_neg (fun y => by have := y.1; rw [z.1] at this; exact absurd this (by decide)), if_pos (show TC σ 0 (ix x.1) = 3 ∧ ¬ TC σ 3 (ix x.1) ≤ x.2.2 from z)]
        generalize hf : stp (TC σ) (RC cd L pl t x2) t = f at *
        have em : mst f ((x2.toInt - v6.toInt).toNat + 1) x = if (f x).2.1 = true then mst f (x2.toInt - v6.toInt).toNat (f x).2.2 else ((f x).1, (f x).2.2) := rfl
        have ea : ∀ a : Int32, mas f (abit (TC σ) (σ 17 9)) ((x2.toInt - v6.toInt).toNat + 1) x a = if (f x).2.1 = true then mas f (abit (TC σ) (σ 17 9)) (x2.toInt - v6.toInt).toNat (f x).2.2 (a ||| abit (TC σ) (σ 17 9) x) else a ||| abit (TC σ) (σ 17 9) x := fun _ => rfl
        rw [em, ea]
        by_cases c2 : (f x).2.1 = true
        · rw [if_pos c2] at w1 ⊢
          rw [if_pos c2]
          obtain ⟨s3, t3, y1, y2, y3, y4, y5, y6⟩ := ih s5 t5 r5 v6 (f x).1 (f x).2.2 h w3 (by omega) w2 (Or.inl ⟨w1, si.2.2 c2, si.2.1 (si.2.2 c2)⟩)
          rw [if_pos w1, if_pos w1] at y3
          rw [if_pos w1, w5] at y5
          have e5 : s5 158 5 = s 158 5 := by
            rcases w6 with z | z
            · exact z.1
            · rw [sk z.2] at c2; exact absurd c2 (show ¬ false = true by decide)
          rw [e5] at y6
          refine ⟨s3, t3, y1, y2, y3, y4.trans w4, y5, ?_⟩
          rcases y6 with z | z
          · exact Or.inl z
          · exact Or.inr ⟨z.1, h4, z.2.2⟩
        · rw [if_neg c2] at w1 ⊢
          rw [if_neg c2]
          obtain ⟨s3, t3, y1, y2, y3, y4, y5, y6⟩ := ih s5 t5 r5 v6 (f x).1 (f x).2.2 h w3 (by omega) w2 (Or.inr w1)
          rw [if_neg (by rw [w1]; decide), if_neg (by rw [w1]; decide)] at y3
          rw [if_neg (by rw [w1]; decide), w5] at y5
          have y6 : s3 158 5 = s5 158 5 := by
            rcases y6 with z | z
            · exact z
            · rw [w1] at z; exact absurd z.2.1 (by decide)
          refine ⟨s3, t3, y1, y2, y3, y4.trans w4, y5, ?_⟩
          rcases w6 with z | z
          · exact Or.inl (y6.trans z.1)
          · rw [sk z.2]
            exact Or.inr ⟨y6.trans z.1, h4, rfl, z.2⟩
      · rw [if_pos h4] at h
        obtain ⟨v4, e4, h⟩ := nm_some h
        rw [e4, z1] at h
        have n4 : ¬ x4 = 1 := by rw [h4]; decide
        refine ⟨s, t2, h, hE, ?_, rfl, ?_, Or.inl rfl⟩
        · rw [if_neg n4, if_neg n4]; exact hB
        · rw [if_neg n4]
end SIM34F
