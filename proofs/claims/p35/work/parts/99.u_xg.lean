section SIM34T
variable {N : Nat} {σ σ1 : gI} {τ τ1 : gJ} {r : Int32}
/-- what a run of the boat finds: σ ahead, s now -/
def EV (σ s : gI) (cd : Nat → Int32) (L n : Int) : Prop := (∀ c k : Nat, ¬ (c = 218 ∨ c = 224 ∨ (c = 199 ∧ k = 34)) → s c k = σ c k) ∧ σ 199 31 = 0 ∧ σ 199 33 = 0 ∧ n ≤ 12 ∧ TK (TT σ) n ∧ (0 ≤ L ∧ L ≤ 80) ∧ CW cd L ∧ (σ 199 28).toInt = L ∧ ∀ k : Nat, (k : Int) < L → σ 216 k = cd k
theorem x_step6 {s : gI} {t2 : gJ} {pl t : Int32} {x : SB} {cd : Nat → Int32} {L n : Int} (hE : EV σ s cd L n) (hs : IN6 (TT σ) n x) (hB : BR s pl t 0 x) (h : B_X12_steps_0 N 224 s t2 0 = some (r, σ1, τ1)) : (r = if (stp (TT σ) (RVL cd L pl t (wtr (σ 199 4) (σ 205) t)) t x).2.1 = true then 1 else 0) ∧ BR σ1 pl t (stp (TT σ) (RVL cd L pl t (wtr (σ 199 4) (σ 205) t)) t x).1 (stp (TT σ) (RVL cd L pl t (wtr (σ 199 4) (σ 205) t)) t x).2.2 ∧ EV σ σ1 cd L n ∧ σ1 224 5 = s 224 5 := by
  obtain ⟨f, a31, a33, an, aT, aL, aW, a28, a216⟩ := hE
  have eT : TT s = TT σ := tt_fr (fun c k a1 a2 => f c k (by omega))
  have w := x_steps0 (N := N) (by rw [f 199 31 (by omega)]; exact a31) (by rw [f 199 33 (by omega)]; exact a33) an (by rw [eT]; exact aT) (by rw [eT]; exact hs) hB aL aW (by rw [f 199 28 (by omega)]; exact a28) (fun k hk => by rw [f 216 k (by omega)]; exact a216 k hk) h
  rw [eT, f 199 4 (by omega), show s 205 = σ 205 from funext fun k => f 205 k (by omega)] at w
  exact ⟨w.1, w.2.1, ⟨fun c k hh => (w.2.2 c k (by omega)).trans (f c k hh), a31, a33, an, aT, aL, aW, a28, a216⟩, w.2.2 224 5 (by omega)⟩
theorem x_min55 {pl t x2 : Int32} {cd : Nat → Int32} {L n : Int} {rec : gI → gJ → Int32 → Int32 → Option (Unit × gI × gJ)} {u : Unit} : ∀ (m : Nat) (s : gI) (t2 : gJ) (x4 x5 how : Int32) (x : SB), H_X12_minuteGoes_55 N 224 rec m s t2 x2 0 x4 x5 = some (u, σ1, τ1) → EV σ s cd L n → (0 ≤ x5.toInt) → BR s pl t how x → ((x4 = 1 ∧ how = 0 ∧ IN6 (TT σ) n x) ∨ x4 = 0) → ∃ (s3 : gI) (t3 : gJ), rec s3 t3 x2 1 = some (u, σ1, τ1) ∧ EV σ s3 cd L n ∧ (BR s3 pl t (if x4 = 1 then (mst (stp (TT σ) (RVL cd L pl t (wtr (σ 199 4) (σ 205) t)) t) (x2.toInt - x5.toInt).toNat x).1 else how) (if x4 = 1 then (mst (stp (TT σ) (RVL cd L pl t (wtr (σ 199 4) (σ 205) t)) t) (x2.toInt - x5.toInt).toNat x).2 else x)) ∧ s3 224 5 = s 224 5 := by
  have l1 : (1 : Int32).toInt = 1 := rfl
  intro m
  induction m with
  | zero => intro s t2 x4 x5 how x h; cases h
  | succ m ih =>
    intro s t2 x4 x5 how x h hE h5 hB h4
    have h : C_X12_minuteGoes_55 N 224 rec (H_X12_minuteGoes_55 N 224 rec m) s t2 x2 0 x4 x5 = some (u, σ1, τ1) := h
    unfold C_X12_minuteGoes_55 at h
    have z1 : (0 : Int32) + 1 = 1 := rfl
    by_cases c1 : x2 ≤ x5
    · rw [if_pos c1] at h
      rw [fa_le] at c1
      obtain ⟨v2, e2, h⟩ := nm_some h
      rw [e2, z1] at h
      refine ⟨s, t2, h, hE, ?_, rfl⟩
      rw [show (x2.toInt - x5.toInt).toNat = 0 by omega]
      rcases h4 with ⟨h4, h40, -⟩ | h4
      · rw [if_pos h4, if_pos h4]
        show BR s pl t 0 x
        rw [← h40]; exact hB
      · rw [if_neg (by rw [h4]; decide), if_neg (by rw [h4]; decide)]
        exact hB
    · rw [if_neg c1] at h
      rw [fa_le] at c1
      rcases h4 with ⟨h4, h40, h4i⟩ | h4
      · rw [if_neg (show ¬ x4 = 0 by rw [h4]; decide)] at h
        obtain ⟨r5, s5, t5, q5, h⟩ := bd_some h
        rw [h40] at hB
        obtain ⟨w1, w2, w3, w4⟩ := x_step6 hE h4i hB q5
        obtain ⟨v6, e6, h⟩ := nm_some h
        have hx2 := i32_rng x2
        have u6 : v6.toInt = x5.toInt + 1 := by rw [e6, ti_add (by omega) (by omega), l1]
        have si := stp_in (rv := RVL cd L pl t (wtr (σ 199 4) (σ 205) t)) (t := t) hE.2.2.2.1 hE.2.2.2.2.1 h4i
        rw [if_pos h4, if_pos h4, show (x2.toInt - x5.toInt).toNat = (x2.toInt - v6.toInt).toNat + 1 by omega]
        generalize hf : stp (TT σ) (RVL cd L pl t (wtr (σ 199 4) (σ 205) t)) t = f at *
        have em : mst f ((x2.toInt - v6.toInt).toNat + 1) x = if (f x).2.1 = true then mst f (x2.toInt - v6.toInt).toNat (f x).2.2 else ((f x).1, (f x).2.2) := rfl
        rw [em]
        by_cases c2 : (f x).2.1 = true
        · rw [if_pos c2] at w1 ⊢
          obtain ⟨s3, t3, y1, y2, y3, y4⟩ := ih s5 t5 r5 v6 (f x).1 (f x).2.2 h w3 (by omega) w2 (Or.inl ⟨w1, si.2.2 c2, si.2.1 (si.2.2 c2)⟩)
          rw [if_pos w1, if_pos w1] at y3
          exact ⟨s3, t3, y1, y2, y3, y4.trans w4⟩
        · rw [if_neg c2] at w1 ⊢
          obtain ⟨s3, t3, y1, y2, y3, y4⟩ := ih s5 t5 r5 v6 (f x).1 (f x).2.2 h w3 (by omega) w2 (Or.inr w1)
          rw [if_neg (by rw [w1]; decide), if_neg (by rw [w1]; decide)] at y3
          exact ⟨s3, t3, y1, y2, y3, y4.trans w4⟩
      · rw [if_pos h4] at h
        obtain ⟨v4, e4, h⟩ := nm_some h
        rw [e4, z1] at h
        refine ⟨s, t2, h, hE, ?_, rfl⟩
        rw [if_neg (by rw [h4]; decide), if_neg (by rw [h4]; decide)]
        exact hB
/-- a minute of a boat that is on its way -/
theorem x_minute6 {s : gI} {t2 : gJ} {pl t : Int32} {x : SB} {cd : Nat → Int32} {L n : Int} {u : Unit} (hE : EV σ s cd L n) (hs : IN6 (TT σ) n x) (hB : BR s pl t 0 x) (h5 : ¬ t < s 224 5) (h : B_X12_minuteGoes_0 N 224 s t2 = some (u, σ1, τ1)) : EV σ σ1 cd L n ∧ BR σ1 pl (t + 1) (mst (stp (TT σ) (RVL cd L pl t (wtr (σ 199 4) (σ 205) t)) t) (wtr (σ 199 4) (σ 205) t).toInt.toNat x).1 (mst (stp (TT σ) (RVL cd L pl t (wtr (σ 199 4) (σ 205) t)) t) (wtr (σ 199 4) (σ 205) t).toInt.toNat x).2 ∧ σ1 224 5 = s 224 5 := by
  have l0 : (0 : Int32).toInt = 0 := rfl
  have f := hE.1
  obtain ⟨b0, b1, b2, b4, b42, b43, b44⟩ := id hB
  unfold B_X12_minuteGoes_0 at h
  obtain ⟨r1, s1, t1, q1, h⟩ := bd_some h
  obtain ⟨es, er⟩ := x_waterIn (by rw [f 199 31 (by omega)]; exact hE.2.1) q1
  rw [← es] at h
  rw [b43, f 199 4 (by omega), show s 205 = σ 205 from funext fun k => f 205 k (by omega)] at er
  generalize hN : N = n9 at h
  cases n9 with
  | zero => cases h
  | succ n9 =>
    have h : C_X12_minuteGoes_11 (n9 + 1) 224 (H_X12_minuteGoes_11 (n9 + 1) 224 n9) s t1 r1 0 = some (u, σ1, τ1) := h
    unfold C_X12_minuteGoes_11 at h
    rw [if_neg (by rw [b44]; decide)] at h
    obtain ⟨j3, ej3, -, h⟩ := ck_some h
    have h3 : j3 = 4 := by rw [← ej3]; rfl
    rw [h3, if_pos b4] at h
    obtain ⟨j5, ej5, -, h⟩ := ck_some h
    have h5' : j5 = 5 := by rw [← ej5]; rfl
    rw [h5', b43, if_neg h5] at h
    obtain ⟨s3, t3, y1, y2, y3, y4⟩ := x_min55 (N := n9 + 1) (pl := pl) (t := t) (x2 := r1) (n9 + 1) s t1 1 0 0 x h hE (by omega) hB (Or.inl ⟨rfl, rfl, hs⟩)
    rw [if_pos rfl, if_pos rfl, show (r1.toInt - (0 : Int32).toInt).toNat = r1.toInt.toNat by omega, er] at y3
    cases n9 with
    | zero => cases y1
    | succ n8 =>
      have y1 : C_X12_minuteGoes_11 (n8 + 1 + 1) 224 (H_X12_minuteGoes_11 (n8 + 1 + 1) 224 n8) s3 t3 r1 1 = some (u, σ1, τ1) := y1
      unfold C_X12_minuteGoes_11 at y1
      rw [if_pos (by rw [y3.2.2.2.2.2.2]; decide)] at y1
      obtain ⟨s2, e2, y1⟩ := nm_some y1
      obtain ⟨-, rfl, -⟩ := sm_inj y1
      have f2 : ∀ c k : Nat, ¬ (c = 224 ∧ k = 43) → s2 c k = s3 c k := fun c k hh => by rw [e2]; exact up2_ne hh
      obtain ⟨z0, z1, z2, z4, z42, z43, z44⟩ := y3
      refine ⟨⟨fun c k hh => (f2 c k (by omega)).trans (y2.1 c k hh), y2.2⟩, ⟨(f2 224 0 (by omega)).trans z0, (f2 224 1 (by omega)).trans z1, (f2 224 2 (by omega)).trans z2, (f2 224 4 (by omega)).trans z4, (f2 224 42 (by omega)).trans z42, by rw [e2, up_eq, z43], (f2 224 44 (by omega)).trans z44⟩, (f2 224 5 (by omega)).trans y4⟩
end SIM34T
