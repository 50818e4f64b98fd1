section SIM34S
variable {N : Nat} {σ σ1 : gI} {τ τ1 : gJ} {r : Int32}
def TT (σ : gI) (i p : Nat) : Int32 := if i ≤ 3 then σ (201 + i) p else 0
theorem tt_fr {σ σ1 : gI} (f : ∀ c k : Nat, 201 ≤ c → c ≤ 204 → σ1 c k = σ c k) : TT σ1 = TT σ := funext fun i => funext fun p => by
  unfold TT
  by_cases hi : i ≤ 3
  · rw [if_pos hi, if_pos hi]; exact f (201 + i) p (by omega) (by omega)
  · rw [if_neg hi, if_neg hi]
/-- a step told: the row of the boat, the rest as it was -/
def SR6 (σ σ1 : gI) (pl t : Int32) (x : Int32 × Bool × SB) (r : Int32) : Prop := (r = if x.2.1 = true then 1 else 0) ∧ BR σ1 pl t x.1 x.2.2 ∧ ∀ c k : Nat, ¬ (c = 218 ∨ (c = 224 ∧ (k = 0 ∨ k = 1 ∨ k = 2 ∨ k = 3 ∨ k = 4 ∨ k = 6)) ∨ (c = 199 ∧ k = 34)) → σ1 c k = σ c k
theorem x_ends6 {u : Unit} {x3 : Int32} (h : B_X12_ends_0 N 224 σ τ 0 x3 = some (u, σ1, τ1)) : σ1 224 4 = x3 ∧ ∀ c k : Nat, ¬ (c = 224 ∧ (k = 4 ∨ k = 6)) → σ1 c k = σ c k := by
  unfold B_X12_ends_0 at h
  obtain ⟨j1, ej1, -, h⟩ := ck_some h
  have h1 : j1 = 4 := by rw [← ej1]; rfl
  obtain ⟨s2, e2, h⟩ := nm_some h
  obtain ⟨j3, ej3, -, h⟩ := ck_some h
  have h3 : j3 = 6 := by rw [← ej3]; rfl
  obtain ⟨s4, e4, h⟩ := nm_some h
  obtain ⟨-, rfl, -⟩ := sm_inj h
  rw [h1] at e2
  rw [h3] at e4
  exact ⟨by rw [e4, up2_ne (by omega), e2, up_eq], fun c k hh => by rw [e4, up2_ne (by omega), e2, up2_ne (by omega)]⟩
theorem x_steps274 {pl t p y0 y1 c : Int32} {b0 : Int32} (hp : 0 ≤ p.toInt ∧ p.toInt < 12) (hB : BR σ pl t 0 (p, b0, c)) (h : B_X12_steps_274 N 224 σ τ 0 0 p y0 y1 1 = some (r, σ1, τ1)) : (r = if (arr6 (TT σ) p (y1 - y0) c).2.1 = true then 1 else 0) ∧ BR σ1 pl t (arr6 (TT σ) p (y1 - y0) c).1 (arr6 (TT σ) p (y1 - y0) c).2.2 ∧ ∀ c k : Nat, ¬ (c = 224 ∧ (k = 1 ∨ k = 4 ∨ k = 6)) → σ1 c k = σ c k := by
  have l0 : (0 : Int32).toInt = 0 := rfl
  obtain ⟨b0', b1, b2, b4, b42, b43, b44⟩ := hB
  unfold B_X12_steps_274 at h
  obtain ⟨j1, ej1, -, h⟩ := ck_some h
  have h1 : j1 = 1 := by rw [← ej1]; rfl
  obtain ⟨s2, e2, h⟩ := nm_some h
  rw [h1] at e2
  have f2 : ∀ c k : Nat, ¬ (c = 224 ∧ k = 1) → s2 c k = σ c k := fun c k hh => by rw [e2]; exact up2_ne hh
  have g2 : s2 224 1 = y1 - y0 := by rw [e2, up_eq]
  obtain ⟨j3, ej3, -, h⟩ := ck_some h
  have h3 : j3 = 1 := by rw [← ej3]; rfl
  rw [h3, g2] at h
  unfold arr6
  have nn := nat_of_toInt (i := p) hp.1
  by_cases c1 : 0 ≤ y1 - y0
  · rw [if_pos c1] at h
    rw [fa_le, l0] at c1
    rw [if_neg (show ¬ (y1 - y0).toInt < 0 by omega)]
    obtain ⟨j5, ej5, -, h⟩ := ck_some h
    have h5 : j5 = ix p := by unfold ix; omega
    rw [h5, f2 201 (ix p) (by omega)] at h
    have eT : TT σ 0 (ix p) = σ 201 (ix p) := rfl
    rw [eT]
    by_cases c2 : σ 201 (ix p) = 6
    · rw [if_pos c2] at h ⊢
      obtain ⟨u9, s9, t9, q9, h⟩ := bd_some h
      obtain ⟨a1, a2⟩ := x_ends6 q9
      obtain ⟨j10, ej10, -, h⟩ := ck_some h
      have h10 : j10 = 4 := by rw [← ej10]; rfl
      rw [h10, a1, if_neg (show ¬ (1 : Int32) = 0 by decide)] at h
      obtain ⟨rfl, rfl, -⟩ := sm_inj h
      exact ⟨rfl, ⟨by rw [a2 224 0 (by omega), f2 224 0 (by omega)]; exact b0', by rw [a2 224 1 (by omega)]; exact g2, by rw [a2 224 2 (by omega), f2 224 2 (by omega)]; exact b2, a1, by rw [a2 224 42 (by omega), f2 224 42 (by omega)]; exact b42, by rw [a2 224 43 (by omega), f2 224 43 (by omega)]; exact b43, by rw [a2 224 44 (by omega), f2 224 44 (by omega)]; exact b44⟩, fun c k hh => (a2 c k (by omega)).trans (f2 c k (by omega))⟩
    · rw [if_neg c2] at h ⊢
      obtain ⟨j7, ej7, -, h⟩ := ck_some h
      have h7 : j7 = 4 := by rw [← ej7]; rfl
      rw [h7, f2 224 4 (by omega), b4, if_pos (show (0 : Int32) = 0 from rfl)] at h
      obtain ⟨rfl, rfl, -⟩ := sm_inj h
      exact ⟨rfl, ⟨by rw [f2 224 0 (by omega)]; exact b0', g2, by rw [f2 224 2 (by omega)]; exact b2, by rw [f2 224 4 (by omega)]; exact b4, by rw [f2 224 42 (by omega)]; exact b42, by rw [f2 224 43 (by omega)]; exact b43, by rw [f2 224 44 (by omega)]; exact b44⟩, fun c k hh => f2 c k (by omega)⟩
  · rw [if_neg c1] at h
    rw [fa_le, l0] at c1
    rw [if_pos (show (y1 - y0).toInt < 0 by omega)]
    obtain ⟨s12, e12, h⟩ := nm_some h
    have f12 : ∀ c k : Nat, ¬ (c = 224 ∧ k = 1) → s12 c k = σ c k := fun c k hh => by rw [e12, up2_ne hh]; exact f2 c k hh
    have g12 : s12 224 1 = 0 := by rw [e12, up_eq]
    obtain ⟨u13, s13, t13, q13, h⟩ := bd_some h
    obtain ⟨a1, a2⟩ := x_ends6 q13
    obtain ⟨j14, ej14, -, h⟩ := ck_some h
    have h14 : j14 = 4 := by rw [← ej14]; rfl
    rw [h14, a1, if_neg (show ¬ (2 : Int32) = 0 by decide)] at h
    obtain ⟨rfl, rfl, -⟩ := sm_inj h
    exact ⟨rfl, ⟨by rw [a2 224 0 (by omega), f12 224 0 (by omega)]; exact b0', by rw [a2 224 1 (by omega)]; exact g12, by rw [a2 224 2 (by omega), f12 224 2 (by omega)]; exact b2, a1, by rw [a2 224 42 (by omega), f12 224 42 (by omega)]; exact b42, by rw [a2 224 43 (by omega), f12 224 43 (by omega)]; exact b43, by rw [a2 224 44 (by omega), f12 224 44 (by omega)]; exact b44⟩, fun c k hh => (a2 c k (by omega)).trans (f12 c k (by omega))⟩
theorem x_steps211 {pl t p0 p y0 b c : Int32} (h33 : σ 199 33 = 0) (h0 : 0 ≤ p0.toInt ∧ p0.toInt < 12) (hp : 0 ≤ p.toInt ∧ p.toInt < 12) (hB : BR σ pl t 0 (p0, b, c)) (h : B_X12_steps_211 N 224 σ τ 0 0 p0 p y0 = some (r, σ1, τ1)) : SR6 σ σ1 pl t (arr6 (TT σ) p (b - (if σ 201 (ix p0) = 2 then 1 + σ 204 (ix p0) else 1)) c) r := by
  obtain ⟨b0', b1, b2, b4, b42, b43, b44⟩ := hB
  unfold B_X12_steps_211 at h
  obtain ⟨-, h⟩ := cb_some h
  obtain ⟨s2, e2, h⟩ := nm_some h
  obtain ⟨j3, ej3, -, h⟩ := ck_some h
  have h3 : j3 = 0 := by rw [← ej3]; rfl
  obtain ⟨s4, e4, h⟩ := nm_some h
  obtain ⟨j5, ej5, -, h⟩ := ck_some h
  have h5 : j5 = 3 := by rw [← ej5]; rfl
  obtain ⟨s6, e6, h⟩ := nm_some h
  obtain ⟨j7, ej7, -, h⟩ := ck_some h
  have h7 : j7 = 1 := by rw [← ej7]; rfl
  rw [h3] at e4
  rw [h5] at e6
  rw [h7] at h
  have f6 : ∀ c k : Nat, ¬ ((c = 199 ∧ k = 34) ∨ (c = 224 ∧ (k = 0 ∨ k = 3))) → s6 c k = σ c k := fun c k hh => by rw [e6, up2_ne (by omega), e4, up2_ne (by omega), e2, up2_ne (by omega)]
  have g0 : s6 224 0 = p := by rw [e6, up2_ne (by omega), e4, up_eq]
  have B6 : BR s6 pl t 0 (p, b, c) := ⟨g0, by rw [f6 224 1 (by omega)]; exact b1, by rw [f6 224 2 (by omega)]; exact b2, by rw [f6 224 4 (by omega)]; exact b4, by rw [f6 224 42 (by omega)]; exact b42, by rw [f6 224 43 (by omega)]; exact b43, by rw [f6 224 44 (by omega)]; exact b44⟩
  rw [f6 199 33 (by omega), if_pos h33] at h
  have nn := nat_of_toInt (i := p0) h0.1
  obtain ⟨j9, ej9, -, h⟩ := ck_some h
  have h9 : j9 = ix p0 := by unfold ix; omega
  rw [h9, f6 201 (ix p0) (by omega), f6 204 (ix p0) (by omega), f6 224 1 (by omega), b1] at h
  have eTT : TT s6 = TT σ := tt_fr (fun c k h1 h2 => f6 c k (by omega))
  have z1 : (0 : Int32) + 1 = 1 := rfl
  rw [z1] at h
  by_cases c2 : σ 201 (ix p0) = 2
  · rw [if_pos c2] at h ⊢
    obtain ⟨w1, w2, w3⟩ := x_steps274 hp B6 h
    rw [eTT] at w1 w2
    exact ⟨w1, w2, fun c k hh => (w3 c k (by omega)).trans (f6 c k (by omega))⟩
  · rw [if_neg c2] at h ⊢
    obtain ⟨w1, w2, w3⟩ := x_steps274 hp B6 h
    rw [eTT] at w1 w2
    exact ⟨w1, w2, fun c k hh => (w3 c k (by omega)).trans (f6 c k (by omega))⟩
theorem sr_tr {s σ1 : gI} {pl t : Int32} {x : Int32 × Bool × SB} (h : SR6 s σ1 pl t x r) (f : ∀ c k : Nat, ¬ (c = 218 ∨ (c = 224 ∧ (k = 0 ∨ k = 1 ∨ k = 2 ∨ k = 3 ∨ k = 4 ∨ k = 6)) ∨ (c = 199 ∧ k = 34)) → s c k = σ c k) : SR6 σ σ1 pl t x r := ⟨h.1, h.2.1, fun c k hh => (h.2.2 c k hh).trans (f c k hh)⟩
theorem br_fr {s : gI} {pl t how : Int32} {x : SB} (h : BR σ pl t how x) (f : ∀ k : Nat, k = 0 ∨ k = 1 ∨ k = 2 ∨ k = 4 ∨ k = 42 ∨ k = 43 ∨ k = 44 → s 224 k = σ 224 k) : BR s pl t how x := by
  obtain ⟨b0, b1, b2, b4, b42, b43, b44⟩ := h
  exact ⟨by rw [f 0 (by omega)]; exact b0, by rw [f 1 (by omega)]; exact b1, by rw [f 2 (by omega)]; exact b2, by rw [f 4 (by omega)]; exact b4, by rw [f 42 (by omega)]; exact b42, by rw [f 43 (by omega)]; exact b43, by rw [f 44 (by omega)]; exact b44⟩
theorem x_steps180 {pl t p0 b c : Int32} (h33 : σ 199 33 = 0) (h0 : 0 ≤ p0.toInt ∧ p0.toInt < 12) (hp : 0 ≤ (σ 202 (ix p0)).toInt ∧ (σ 202 (ix p0)).toInt < 12) (hB : BR σ pl t 0 (p0, b, c)) (h : B_X12_steps_180 N 224 σ τ 0 0 p0 = some (r, σ1, τ1)) : SR6 σ σ1 pl t (arr6 (TT σ) (σ 202 (ix p0)) (b - (if σ 201 (ix p0) = 2 then 1 + σ 204 (ix p0) else 1)) c) r := by
  unfold B_X12_steps_180 at h
  have nn := nat_of_toInt (i := p0) h0.1
  obtain ⟨j1, ej1, -, h⟩ := ck_some h
  have h1 : j1 = ix p0 := by unfold ix; omega
  obtain ⟨v2, e2, h⟩ := nm_some h
  rw [h1] at e2
  rw [e2] at h
  by_cases c1 : σ 199 34 = 0
  · rw [if_pos c1] at h
    by_cases c2 : p0 = σ 199 35
    · rw [if_pos c2] at h
      exact x_steps211 h33 h0 hp hB h
    · rw [if_neg c2] at h
      exact x_steps211 h33 h0 hp hB h
  · rw [if_neg c1] at h
    exact x_steps211 h33 h0 hp hB h
theorem x_steps150 {pl t p0 b c : Int32} {cd : Nat → Int32} {L : Int} (h31 : σ 199 31 = 0) (h33 : σ 199 33 = 0) (h0 : 0 ≤ p0.toInt ∧ p0.toInt < 12) (hp : 0 ≤ (σ 202 (ix p0)).toInt ∧ (σ 202 (ix p0)).toInt < 12) (hp2 : σ 201 (ix p0) = 1 → 0 ≤ (σ 203 (ix p0)).toInt ∧ (σ 203 (ix p0)).toInt < 12) (hB : BR σ pl t 0 (p0, b, c)) (hL : 0 ≤ L ∧ L ≤ 80) (hW : CW cd L) (e28 : (σ 199 28).toInt = L) (e216 : ∀ k : Nat, (k : Int) < L → σ 216 k = cd k) (h : B_X12_steps_150 N 224 σ τ 0 0 p0 = some (r, σ1, τ1)) : SR6 σ σ1 pl t (arr6 (TT σ) (if σ 201 (ix p0) = 1 ∧ ¬ RVL cd L pl t (wtr (σ 199 4) (σ 205) t) (p0, b, c) = 0 then σ 203 (ix p0) else σ 202 (ix p0)) (b - (if σ 201 (ix p0) = 2 then 1 + σ 204 (ix p0) else 1)) c) r := by
  unfold B_X12_steps_150 at h
  have nn := nat_of_toInt (i := p0) h0.1
  obtain ⟨j1, ej1, -, h⟩ := ck_some h
  have h1 : j1 = ix p0 := by unfold ix; omega
  rw [h1] at h
  by_cases c1 : σ 201 (ix p0) = 1
  · rw [if_pos c1] at h
    obtain ⟨r3, s3, t3, q3, h⟩ := bd_some h
    obtain ⟨k3, f3⟩ := x_ruled0 h31 hB hL hW e28 e216 q3
    have B3 : BR s3 pl t 0 (p0, b, c) := br_fr hB (fun k _ => f3 224 k (by omega))
    have g33 : s3 199 33 = 0 := (f3 199 33 (by omega)).trans h33
    have eT : TT s3 = TT σ := tt_fr (fun c k a1 a2 => f3 c k (by omega))
    rw [← k3]
    by_cases c3 : r3 = 0
    · rw [if_pos c3] at h
      rw [if_neg (fun z => z.2 c3)]
      have w := x_steps180 g33 h0 (by rw [f3 202 _ (by omega)]; exact hp) B3 h
      rw [eT, f3 202 _ (by omega), f3 201 _ (by omega), f3 204 _ (by omega)] at w
      exact sr_tr w (fun c k hh => f3 c k (by omega))
    · rw [if_neg c3] at h
      rw [if_pos ⟨c1, c3⟩]
      obtain ⟨v5, e5, h⟩ := nm_some h
      rw [e5, f3 203 _ (by omega)] at h
      have fin : ∀ y : Int32, B_X12_steps_211 N 224 s3 t3 0 0 p0 (σ 203 (ix p0)) y = some (r, σ1, τ1) → SR6 σ σ1 pl t (arr6 (TT σ) (σ 203 (ix p0)) (b - (if σ 201 (ix p0) = 2 then 1 + σ 204 (ix p0) else 1)) c) r := by
        intro y h
        have w := x_steps211 g33 h0 (hp2 c1) B3 h
        rw [eT, f3 201 _ (by omega), f3 204 _ (by omega)] at w
        exact sr_tr w (fun c k hh => f3 c k (by omega))
      by_cases d1 : s3 199 34 = 0
      · rw [if_pos d1] at h
        by_cases d2 : p0 = s3 199 35
        · rw [if_pos d2] at h; exact fin 1 h
        · rw [if_neg d2] at h; exact fin 0 h
      · rw [if_neg d1] at h
        exact fin 1 h
  · rw [if_neg c1] at h
    rw [if_neg (fun z => c1 z.1)]
    exact x_steps180 h33 h0 hp hB h
/-- a step of the reference's boat -/
theorem x_steps0 {pl t : Int32} {s : SB} {cd : Nat → Int32} {L n : Int} (h31 : σ 199 31 = 0) (h33 : σ 199 33 = 0) (hn : n ≤ 12) (hT : TK (TT σ) n) (hs : IN6 (TT σ) n s) (hB : BR σ pl t 0 s) (hL : 0 ≤ L ∧ L ≤ 80) (hW : CW cd L) (e28 : (σ 199 28).toInt = L) (e216 : ∀ k : Nat, (k : Int) < L → σ 216 k = cd k) (h : B_X12_steps_0 N 224 σ τ 0 = some (r, σ1, τ1)) : SR6 σ σ1 pl t (stp (TT σ) (RVL cd L pl t (wtr (σ 199 4) (σ 205) t)) t s) r := by
  obtain ⟨p0, b, c⟩ := s
  obtain ⟨b0, b1, b2, b4, b42, b43, b44⟩ := id hB
  have b0 : σ 224 0 = p0 := b0
  have b2 : σ 224 2 = c := b2
  obtain ⟨⟨i1, i2⟩, i3⟩ := hs
  have i1 : 0 ≤ p0.toInt := i1
  have i2 : p0.toInt < n := i2
  have T0 : TT σ 0 (ix p0) = σ 201 (ix p0) := rfl
  have T1 : TT σ 1 (ix p0) = σ 202 (ix p0) := rfl
  have T2 : TT σ 2 (ix p0) = σ 203 (ix p0) := rfl
  have T3 : TT σ 3 (ix p0) = σ 204 (ix p0) := rfl
  have i3 : ¬ σ 201 (ix p0) = 6 := i3
  have hk := hT (ix p0) (by unfold ix; omega)
  rw [T0, T1, T2] at hk
  have hp1 := hk.1 i3
  have h012 : 0 ≤ p0.toInt ∧ p0.toInt < 12 := by omega
  have nn := nat_of_toInt (i := p0) i1
  unfold stp
  show SR6 σ σ1 pl t (if TT σ 0 (ix p0) = 5 ∧ ¬ t - t / TT σ 3 (ix p0) * TT σ 3 (ix p0) = 0 then (0, false, (p0, b, c)) else if TT σ 0 (ix p0) = 3 ∧ ¬ TT σ 3 (ix p0) ≤ c then (0, false, (p0, b, c)) else if TT σ 0 (ix p0) = 4 ∧ (TT σ 3 (ix p0) / 10).toInt ≤ (t - t / 10 * 10).toInt ∧ (t - t / 10 * 10).toInt ≤ (TT σ 3 (ix p0) - TT σ 3 (ix p0) / 10 * 10).toInt then (2, false, (p0, b, c)) else arr6 (TT σ) (if TT σ 0 (ix p0) = 1 ∧ ¬ RVL cd L pl t (wtr (σ 199 4) (σ 205) t) (p0, b, c) = 0 then TT σ 2 (ix p0) else TT σ 1 (ix p0)) (b - (if TT σ 0 (ix p0) = 2 then 1 + TT σ 3 (ix p0) else 1)) (if TT σ 0 (ix p0) = 3 then c - TT σ 3 (ix p0) else c)) r
  rw [T0, T1, T2, T3]
  -- from the mill on, the coins paid
  have fin : ∀ (s2 : gI) (t2 : gJ) (c' : Int32), (∀ c k : Nat, ¬ (c = 224 ∧ k = 2) → s2 c k = σ c k) → s2 224 2 = c' → (σ 201 (ix p0) = 1 → c' = c) → (¬ σ 201 (ix p0) = 4 → c' = c' ) → (σ 201 (ix p0) = 4 → c' = c) → B_X12_steps_94 N 224 s2 t2 0 0 p0 = some (r, σ1, τ1) → SR6 σ σ1 pl t (if σ 201 (ix p0) = 4 ∧ (σ 204 (ix p0) / 10).toInt ≤ (t - t / 10 * 10).toInt ∧ (t - t / 10 * 10).toInt ≤ (σ 204 (ix p0) - σ 204 (ix p0) / 10 * 10).toInt then (2, false, (p0, b, c)) else arr6 (TT σ) (if σ 201 (ix p0) = 1 ∧ ¬ RVL cd L pl t (wtr (σ 199 4) (σ 205) t) (p0, b, c) = 0 then σ 203 (ix p0) else σ 202 (ix p0)) (b - (if σ 201 (ix p0) = 2 then 1 + σ 204 (ix p0) else 1)) c') r := by
    intro s2 t2 c' f g e1 _ e4 h
    have eT : TT s2 = TT σ := tt_fr (fun c k a1 a2 => f c k (by omega))
    have B2 : BR s2 pl t 0 (p0, b, c') := ⟨by rw [f 224 0 (by omega)]; exact b0, by rw [f 224 1 (by omega)]; exact b1, g, by rw [f 224 4 (by omega)]; exact b4, by rw [f 224 42 (by omega)]; exact b42, by rw [f 224 43 (by omega)]; exact b43, by rw [f 224 44 (by omega)]; exact b44⟩
    have go : ∀ (s3 : gI) (t3 : gJ), s2 = s3 → B_X12_steps_150 N 224 s3 t3 0 0 p0 = some (r, σ1, τ1) → SR6 σ σ1 pl t (arr6 (TT σ) (if σ 201 (ix p0) = 1 ∧ ¬ RVL cd L pl t (wtr (σ 199 4) (σ 205) t) (p0, b, c) = 0 then σ 203 (ix p0) else σ 202 (ix p0)) (b - (if σ 201 (ix p0) = 2 then 1 + σ 204 (ix p0) else 1)) c') r := by
      intro s3 t3 e3 h
      rw [← e3] at h
      have w := x_steps150 (by rw [f 199 31 (by omega)]; exact h31) (by rw [f 199 33 (by omega)]; exact h33) h012 (by rw [f 202 _ (by omega)]; omega) (fun z => by rw [f 203 _ (by omega)]; rw [f 201 _ (by omega)] at z; have := hk.2 z; omega) B2 hL hW (by rw [f 199 28 (by omega)]; exact e28) (fun k hk => by rw [f 216 k (by omega)]; exact e216 k hk) h
      rw [eT, f 201 _ (by omega), f 202 _ (by omega), f 203 _ (by omega), f 204 _ (by omega), f 199 4 (by omega), show s2 205 = σ 205 from funext fun k => f 205 k (by omega)] at w
      have ec : (σ 201 (ix p0) = 1 ∧ ¬ RVL cd L pl t (wtr (σ 199 4) (σ 205) t) (p0, b, c') = 0) ↔ (σ 201 (ix p0) = 1 ∧ ¬ RVL cd L pl t (wtr (σ 199 4) (σ 205) t) (p0, b, c) = 0) := by
        constructor
        · intro z
          rw [e1 z.1] at z
          exact z
        · intro z
          rw [e1 z.1]
          exact z
      have w : SR6 s2 σ1 pl t (arr6 (TT σ) (if σ 201 (ix p0) = 1 ∧ ¬ RVL cd L pl t (wtr (σ 199 4) (σ 205) t) (p0, b, c') = 0 then σ 203 (ix p0) else σ 202 (ix p0)) (b - (if σ 201 (ix p0) = 2 then 1 + σ 204 (ix p0) else 1)) c') r := w
      have ei : (if σ 201 (ix p0) = 1 ∧ ¬ RVL cd L pl t (wtr (σ 199 4) (σ 205) t) (p0, b, c') = 0 then σ 203 (ix p0) else σ 202 (ix p0)) = (if σ 201 (ix p0) = 1 ∧ ¬ RVL cd L pl t (wtr (σ 199 4) (σ 205) t) (p0, b, c) = 0 then σ 203 (ix p0) else σ 202 (ix p0)) := ite_congr (propext ec) (fun _ => rfl) (fun _ => rfl)
      rw [ei] at w
      exact sr_tr w (fun c k hh => f c k (by omega))
    unfold B_X12_steps_94 at h
    obtain ⟨j1, ej1, -, h⟩ := ck_some h
    have h1 : j1 = ix p0 := by unfold ix; omega
    rw [h1, f 201 _ (by omega)] at h
    by_cases d4 : σ 201 (ix p0) = 4
    · rw [if_pos d4] at h
      obtain ⟨r3, s3, t3, q3, h⟩ := bd_some h
      obtain ⟨k0, k⟩ := x_in q3
      rw [Int32.toInt_toInt64, Int32.toInt_toInt64, Int32.toInt_toInt64, f 224 43 (by omega), b43, f 204 _ (by omega)] at k
      rcases k with ⟨k1, k2⟩ | ⟨k1, k2⟩
      · rw [if_neg (show ¬ r3 = 0 by rw [k1]; decide)] at h
        rw [if_pos ⟨d4, k2⟩]
        obtain ⟨u5, s5, t5, q5, h⟩ := bd_some h
        rw [k0] at q5
        obtain ⟨a1, a2⟩ := x_ends6 q5
        obtain ⟨rfl, rfl, -⟩ := sm_inj h
        exact ⟨rfl, ⟨by rw [a2 224 0 (by omega), f 224 0 (by omega)]; exact b0, by rw [a2 224 1 (by omega), f 224 1 (by omega)]; exact b1, by rw [a2 224 2 (by omega), g]; exact e4 d4, a1, by rw [a2 224 42 (by omega), f 224 42 (by omega)]; exact b42, by rw [a2 224 43 (by omega), f 224 43 (by omega)]; exact b43, by rw [a2 224 44 (by omega), f 224 44 (by omega)]; exact b44⟩, fun c k hh => (a2 c k (by omega)).trans (f c k (by omega))⟩
      · rw [if_pos k1] at h
        rw [if_neg (fun z => k2 z.2)]
        exact go s3 t3 k0.symm h
    · rw [if_neg d4] at h
      rw [if_neg (fun z => d4 z.1)]
      exact go s2 t2 rfl h
  have stay : r = 0 → σ1 = σ → SR6 σ σ1 pl t (0, false, (p0, b, c)) r := fun e1 e2 => by
    rw [e1, e2]
    exact ⟨rfl, hB, fun _ _ _ => rfl⟩
  have go40 : ∀ t4 : gJ, B_X12_steps_40 N 224 σ t4 0 0 p0 = some (r, σ1, τ1) → SR6 σ σ1 pl t (if σ 201 (ix p0) = 3 ∧ ¬ σ 204 (ix p0) ≤ c then (0, false, (p0, b, c)) else if σ 201 (ix p0) = 4 ∧ (σ 204 (ix p0) / 10).toInt ≤ (t - t / 10 * 10).toInt ∧ (t - t / 10 * 10).toInt ≤ (σ 204 (ix p0) - σ 204 (ix p0) / 10 * 10).toInt then (2, false, (p0, b, c)) else arr6 (TT σ) (if σ 201 (ix p0) = 1 ∧ ¬ RVL cd L pl t (wtr (σ 199 4) (σ 205) t) (p0, b, c) = 0 then σ 203 (ix p0) else σ 202 (ix p0)) (b - (if σ 201 (ix p0) = 2 then 1 + σ 204 (ix p0) else 1)) (if σ 201 (ix p0) = 3 then c - σ 204 (ix p0) else c)) r := by
    intro t4 h
    unfold B_X12_steps_40 at h
    obtain ⟨j1, ej1, -, h⟩ := ck_some h
    have h1 : j1 = ix p0 := by unfold ix; omega
    rw [h1] at h
    by_cases d3 : σ 201 (ix p0) = 3
    · rw [if_pos d3] at h
      obtain ⟨j3, ej3, -, h⟩ := ck_some h
      have h3 : j3 = 2 := by rw [← ej3]; rfl
      rw [h3, b2] at h
      by_cases d5 : σ 204 (ix p0) ≤ c
      · rw [if_pos d5, if_pos h33] at h
        rw [if_neg (fun z => z.2 d5), if_pos d3]
        obtain ⟨s6, e6, h⟩ := nm_some h
        have ne : ∀ v : Int32, v ≠ 3 → ¬ σ 201 (ix p0) = v := fun v hv z => hv (z.symm.trans d3)
        exact fin s6 _ (c - σ 204 (ix p0)) (fun c k hh => by rw [e6]; exact up2_ne hh) (by rw [e6, up_eq]) (fun z => absurd z (ne 1 (by decide))) (fun _ => rfl) (fun z => absurd z (ne 4 (by decide))) h
      · rw [if_neg d5] at h
        rw [if_pos ⟨d3, d5⟩]
        obtain ⟨e1, e2, -⟩ := sm_inj h
        exact stay e1.symm e2.symm
    · rw [if_neg d3] at h
      rw [if_neg (fun z => d3 z.1), if_neg d3]
      exact fin σ _ c (fun _ _ _ => rfl) b2 (fun _ => rfl) (fun _ => rfl) (fun _ => rfl) h
  unfold B_X12_steps_0 at h
  obtain ⟨v1, e1, h⟩ := nm_some h
  have ev : v1 = 0 := e1
  rw [ev] at h
  obtain ⟨j2, ej2, -, h⟩ := ck_some h
  have h2 : j2 = 0 := by rw [← ej2]; rfl
  obtain ⟨v3, e3, h⟩ := nm_some h
  rw [h2, b0] at e3
  rw [e3] at h
  obtain ⟨j4, ej4, -, h⟩ := ck_some h
  have h4 : j4 = ix p0 := by unfold ix; omega
  rw [h4, b43] at h
  by_cases d5 : σ 201 (ix p0) = 5
  · rw [if_pos d5] at h
    obtain ⟨-, h⟩ := dz_some h
    by_cases d6 : t - t / σ 204 (ix p0) * σ 204 (ix p0) = 0
    · rw [if_pos d6] at h
      rw [if_neg (fun z => z.2 d6)]
      exact go40 _ h
    · rw [if_neg d6] at h
      rw [if_pos ⟨d5, d6⟩]
      obtain ⟨e1, e2, -⟩ := sm_inj h
      exact stay e1.symm e2.symm
  · rw [if_neg d5] at h
    rw [if_neg (fun z => d5 z.1)]
    exact go40 _ h
end SIM34S
