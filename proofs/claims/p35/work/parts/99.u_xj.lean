section SIM34D
variable {N : Nat} {σ σ1 : gI} {τ τ1 : gJ} {r : Int32}
/-- the class's codes -/
def CC (σ : gI) (cd : Nat → Int32) (L : Int) : Prop := (0 < L ∧ L ≤ 40) ∧ CW cd L ∧ (σ 17 3).toInt = L ∧ (∀ k : Nat, (k : Int) < L → (σ 18 k).toInt = en (cd k).toInt) ∧ (σ 17 9 = 0 → ∀ k : Nat, (k : Int) < L → (cd k).toInt ≠ 1000)
theorem cc_fr {s : gI} {cd : Nat → Int32} {L : Int} (h : CC σ cd L) (f : ∀ c k : Nat, c = 17 ∨ c = 18 → s c k = σ c k) : CC s cd L := by
  obtain ⟨a, b, c, d, e⟩ := h
  exact ⟨a, b, by rw [f 17 3 (by omega)]; exact c, fun k hk => by rw [f 18 k (by omega)]; exact d k hk, by rw [f 17 9 (by omega)]; exact e⟩
theorem x_at6 {x1 : Int32} (h6 : σ 171 6 = 1) (h0 : σ 172 0 = x1) (h : B_X6_at_0 N 171 σ τ x1 = some (r, σ1, τ1)) : σ = σ1 ∧ r = 1 := by
  have G : ∀ (n : Nat) (t : gJ) (x2 x3 r : Int32) (σ1 : gI) (τ1 : gJ), H_X6_at_4 N 171 n σ t x1 x2 x3 = some (r, σ1, τ1) → ((x2 = 0 ∧ x3 = 0) ∨ (x2 = 1 ∧ x3 = 1)) → σ = σ1 ∧ r = 1 := by
    intro n
    induction n with
    | zero => intro t x2 x3 r σ1 τ1 h; cases h
    | succ n ih =>
      intro t x2 x3 r σ1 τ1 h h3
      have h : C_X6_at_4 N 171 (H_X6_at_4 N 171 n) σ t x1 x2 x3 = some (r, σ1, τ1) := h
      unfold C_X6_at_4 at h
      rw [h6] at h
      rcases h3 with ⟨rfl, rfl⟩ | ⟨rfl, rfl⟩
      · rw [if_neg (by decide), if_neg (by decide)] at h
        obtain ⟨j, ej, -, h⟩ := ck_some h
        have hj : j = 0 := by rw [← ej]; rfl
        rw [hj, if_pos h0] at h
        obtain ⟨v7, e7, h⟩ := nm_some h
        obtain ⟨v8, e8, h⟩ := nm_some h
        exact ih t v7 v8 r σ1 τ1 h (Or.inr ⟨by rw [e7]; decide, by rw [e8]; decide⟩)
      · rw [if_pos (by decide)] at h
        obtain ⟨a, b, -⟩ := sm_inj h
        exact ⟨b, a.symm⟩
  exact G N τ 0 0 r σ1 τ1 h (Or.inl ⟨rfl, rfl⟩)
theorem fq_8 {pl t fl : Int32} {s : SB} : Fq pl t fl s (Int32.ofNat 0) = (pl >>> (s.1 &&& 31)) &&& 1 ∧ Fq pl t fl s (Int32.ofNat 1) = t ∧ Fq pl t fl s (Int32.ofNat 2) = fl ∧ Fq pl t fl s (Int32.ofNat 3) = 0 ∧ Fq pl t fl s (Int32.ofNat 4) = s.2.1 ∧ Fq pl t fl s (Int32.ofNat 5) = s.2.2 ∧ Fq pl t fl s (Int32.ofNat 6) = 0 ∧ Fq pl t fl s (Int32.ofNat 7) = s.1 := by
  refine ⟨?_, ?_, ?_, ?_, ?_, ?_, ?_, ?_⟩ <;> (unfold Fq; simp)
def RC (cd : Nat → Int32) (L : Int) (pl t fl : Int32) (s : SB) : Int32 := sa (Fq pl t fl s) cd L.toNat 0
theorem x_way143 {pl t fl : Int32} {s : SB} {cd : Nat → Int32} {L : Int} {x5 x6 y0 : Int32} (hC : CC σ cd L) (h159 : ∀ i : Nat, i < 6 → σ 159 i = Fq pl t fl s (Int32.ofNat i)) (hy : y0 = 0) (h : B_X1_wayOf_143 N 171 σ τ s.1 x5 x6 y0 = some (r, σ1, τ1)) : (r = if RC cd L pl t fl s = 0 then x5 else x6) ∧ ∀ c k : Nat, ¬ (c = 19 ∨ c = 159) → σ1 c k = σ c k := by
  unfold B_X1_wayOf_143 at h
  obtain ⟨s1, e1, h⟩ := nm_some h
  obtain ⟨s2, e2, h⟩ := nm_some h
  have f2 : ∀ c k : Nat, ¬ (c = 159 ∧ (k = 6 ∨ k = 7)) → s2 c k = σ c k := fun c k hh => by rw [e2, up2_ne (by omega), e1, up2_ne (by omega)]
  have g6 : s2 159 6 = 0 := by rw [e2, up2_ne (by omega), e1, up_eq]; exact hy
  have g7 : s2 159 7 = s.1 := by rw [e2, up_eq]
  obtain ⟨q0, q1, q2, q3, q4, q5, q6, q7⟩ := fq_8 (pl := pl) (t := t) (fl := fl) (s := s)
  obtain ⟨r3, s3, t3, k3, h⟩ := bd_some h
  obtain ⟨a1, a2, a3, a4, -⟩ := cc_fr hC (fun c k hh => f2 c k (by omega))
  unfold B_X5_value_0 at k3
  obtain ⟨w1, w2⟩ := x_value (F := Fq pl t fl s) (σ := s2) a1 a2 N s2 _ 0 0 r3 s3 t3 k3 (fun _ _ _ => rfl) a3 a4 (fun i hi => by
    by_cases c : i < 6
    · rw [f2 159 i (by omega)]; exact h159 i c
    · rcases (show i = 6 ∨ i = 7 by omega) with rfl | rfl
      · rw [g6, q6]
      · rw [g7, q7]) (by have l0 : (0 : Int32).toInt = 0 := rfl; omega) rfl (fun j hj => absurd hj (by have l0 : (0 : Int32).toInt = 0 := rfl; omega))
  unfold RC
  rw [← w1]
  have F3 : ∀ c k : Nat, ¬ (c = 19 ∨ c = 159) → s3 c k = σ c k := fun c k hh => (w2 c k (by omega)).trans (f2 c k (by omega))
  by_cases c : r3 = 0
  · rw [if_pos c] at h ⊢
    obtain ⟨e3, e4, -⟩ := sm_inj h
    exact ⟨e3.symm, fun c k hh => by rw [← e4]; exact F3 c k hh⟩
  · rw [if_neg c] at h ⊢
    obtain ⟨e3, e4, -⟩ := sm_inj h
    exact ⟨e3.symm, fun c k hh => by rw [← e4]; exact F3 c k hh⟩
def bc5 (v : Int32) : Int32 := (v + (ius v 16)) &&& 63
def bc4 (v : Int32) : Int32 := bc5 (v + (ius v 8))
def bc3 (v : Int32) : Int32 := bc4 ((v + (ius v 4)) &&& 252645135)
def bc2 (v : Int32) : Int32 := bc3 ((v &&& 858993459) + ((ius v 2) &&& 858993459))
def bcp (x : Int32) : Int32 := bc2 (x - ((ius x 1) &&& 1431655765))
theorem bc_val (s : gI) (t : gJ) (x : Int32) : B_J6_bitCount_0f7a4_0 N s t x = some (bcp x, s, t) := rfl
theorem bc_one (s : gI) (t : gJ) (r : Int32) (s1 : gI) (t1 : gJ) (h : B_J6_bitCount_0f7a4_0 N s t 1 = some (r, s1, t1)) : s = s1 ∧ r = 1 := by
  rw [bc_val] at h
  obtain ⟨a, b, -⟩ := sm_inj h
  exact ⟨b, by rw [← a]; decide⟩
theorem x_way52 {pl t fl : Int32} {s : SB} {cd : Nat → Int32} {L : Int} {x5 x6 : Int32} (hI : σ 17 10 = 0 ∨ σ 17 10 = 1) (hC : CC σ cd L) (hB : BC σ pl t 0 s) (h : B_X1_wayOf_52 N 171 σ τ 0 s.1 fl x5 x6 = some (r, σ1, τ1)) : (r = if RC cd L pl t fl s = 0 then x5 else x6) ∧ ∀ c k : Nat, ¬ (c = 19 ∨ c = 159) → σ1 c k = σ c k := by
  obtain ⟨b0, b1, b2, b9, b10, b7, b8, b6⟩ := hB
  obtain ⟨q0, q1, q2, q3, q4, q5, q6, q7⟩ := fq_8 (pl := pl) (t := t) (fl := fl) (s := s)
  unfold B_X1_wayOf_52 at h
  obtain ⟨s1, e1, h⟩ := nm_some h
  obtain ⟨s2, e2, h⟩ := nm_some h
  obtain ⟨s3, e3, h⟩ := nm_some h
  obtain ⟨s4, e4, h⟩ := nm_some h
  have f4 : ∀ c k : Nat, ¬ (c = 159) → s4 c k = σ c k := fun c k hh => by rw [e4, up2_ne (by omega), e3, up2_ne (by omega), e2, up2_ne (by omega), e1, up2_ne (by omega)]
  have a0 : s4 159 0 = (pl >>> (s.1 &&& 31)) &&& 1 := by rw [e4, up2_ne (by omega), e3, up2_ne (by omega), e2, up2_ne (by omega), e1, up_eq, b7]
  have a1 : s4 159 1 = t := by rw [e4, up2_ne (by omega), e3, up2_ne (by omega), e2, up_eq, e1, up2_ne (by omega)]; exact b8
  have a2 : s4 159 2 = fl := by rw [e4, up2_ne (by omega), e3, up_eq]
  have a3 : s4 159 3 = 0 := by rw [e4, up_eq]
  obtain ⟨r5, s5, t5, p5, h⟩ := bd_some h
  obtain ⟨w5, k5⟩ := x_paper6 p5
  obtain ⟨s6, e6, h⟩ := nm_some h
  rw [← w5, k5, f4 173 0 (by omega), b1] at e6
  obtain ⟨r7, s7, t7, p7, h⟩ := bd_some h
  obtain ⟨w7, k7⟩ := x_purse6 p7
  obtain ⟨s8, e8, h⟩ := nm_some h
  have g174 : s6 174 0 = s.2.2 := by rw [e6, up2_ne (by omega), f4 174 0 (by omega)]; exact b2
  rw [← w7, k7, g174] at e8
  have f8 : ∀ c k : Nat, ¬ (c = 159) → s8 c k = σ c k := fun c k hh => by rw [e8, up2_ne (by omega), e6, up2_ne (by omega)]; exact f4 c k hh
  have hf : ∀ i : Nat, i < 6 → s8 159 i = Fq pl t fl s (Int32.ofNat i) := by
    intro i hi
    rcases (show i = 0 ∨ i = 1 ∨ i = 2 ∨ i = 3 ∨ i = 4 ∨ i = 5 by omega) with rfl | rfl | rfl | rfl | rfl | rfl
    · rw [q0, e8, up2_ne (by omega), e6, up2_ne (by omega)]; exact a0
    · rw [q1, e8, up2_ne (by omega), e6, up2_ne (by omega)]; exact a1
    · rw [q2, e8, up2_ne (by omega), e6, up2_ne (by omega)]; exact a2
    · rw [q3, e8, up2_ne (by omega), e6, up2_ne (by omega)]; exact a3
    · rw [q4, e8, up2_ne (by omega), e6, up_eq]
    · rw [q5, e8, up_eq]
  have C8 : CC s8 cd L := cc_fr hC (fun c k hh => f8 c k (by omega))
  by_cases c : s8 17 10 = 0
  · rw [if_pos c] at h
    obtain ⟨y1, y2⟩ := x_way143 C8 hf rfl h
    exact ⟨y1, fun c k hh => (y2 c k hh).trans (f8 c k (by omega))⟩
  · rw [if_neg c] at h
    obtain ⟨r10, s10, t10, p10, h⟩ := bd_some h
    obtain ⟨w10, k10⟩ := x_at6 (by rw [f8 171 6 (by omega)]; exact b6) (by rw [f8 172 0 (by omega)]; exact b0) p10
    obtain ⟨r11, s11, t11, p11, h⟩ := bd_some h
    rw [k10] at p11
    obtain ⟨w11, k11⟩ := bc_one _ _ _ _ _ p11
    rw [← w11, ← w10, k11] at h
    obtain ⟨y1, y2⟩ := x_way143 C8 hf (show (1 : Int32) - 1 = 0 from rfl) h
    exact ⟨y1, fun c k hh => (y2 c k hh).trans (f8 c k (by omega))⟩
/-- the fork's bit, where its PLANK is asked -/
def abit (T : Nat → Nat → Int32) (ap : Int32) (s : SB) : Int32 := if T 0 (ix s.1) = 1 ∧ ¬ T 1 (ix s.1) = T 2 (ix s.1) ∧ ¬ ap = 0 then 1 <<< (s.1 &&& 31) else 0
theorem x_way0 {pl t fl : Int32} {s : SB} {cd : Nat → Int32} {L : Int} (hI : σ 17 10 = 0 ∨ σ 17 10 = 1) (hp : 0 ≤ s.1.toInt ∧ s.1.toInt < 12) (hC : CC σ cd L) (hB : BC σ pl t 0 s) (h : B_X1_wayOf_0 N 171 σ τ 0 s.1 fl = some (r, σ1, τ1)) : (r = if RC cd L pl t fl s = 0 then σ 5 (ix s.1) else σ 6 (ix s.1)) ∧ (σ1 158 4 = if ¬ σ 5 (ix s.1) = σ 6 (ix s.1) ∧ ¬ σ 17 9 = 0 then σ 158 4 ||| (1 <<< (s.1 &&& 31)) else σ 158 4) ∧ ∀ c k : Nat, ¬ (c = 19 ∨ c = 159 ∨ (c = 158 ∧ k = 4)) → σ1 c k = σ c k := by
  unfold B_X1_wayOf_0 at h
  obtain ⟨r1, s1, t1, p1, h⟩ := bd_some h
  obtain ⟨w1, k1⟩ := x_next6 hp p1
  rw [← w1] at h
  obtain ⟨r2, s2, t2, p2, h⟩ := bd_some h
  obtain ⟨w2, k2⟩ := x_second6 hp p2
  rw [← w2, k1, k2] at h
  by_cases c1 : σ 5 (ix s.1) = σ 6 (ix s.1)
  · rw [if_pos c1] at h
    obtain ⟨e1, e2, -⟩ := sm_inj h
    refine ⟨?_, ?_, fun c k _ => by rw [← e2]⟩
    · rw [← e1]
      by_cases c : RC cd L pl t fl s = 0
      · rw [if_pos c]
      · rw [if_neg c]; exact c1
    · rw [if_neg (fun z => z.1 c1), ← e2]
  · rw [if_neg c1] at h
    by_cases c2 : σ 17 9 = 0
    · rw [if_pos c2] at h
      obtain ⟨y1, y2⟩ := x_way52 hI hC hB h
      exact ⟨y1, by rw [if_neg (fun z => z.2 c2)]; exact y2 158 4 (by omega), fun c k hh => y2 c k (by omega)⟩
    · rw [if_neg c2] at h
      obtain ⟨s5, e5, h⟩ := nm_some h
      have f5 : ∀ c k : Nat, ¬ (c = 158 ∧ k = 4) → s5 c k = σ c k := fun c k hh => by rw [e5]; exact up2_ne hh
      obtain ⟨y1, y2⟩ := x_way52 (by rw [f5 17 10 (by omega)]; exact hI) (cc_fr hC (fun c k hh => f5 c k (by omega))) (bc_fr hB (fun c k hh => f5 c k (by omega))) h
      exact ⟨y1, by rw [if_pos ⟨c1, c2⟩, y2 158 4 (by omega), e5, up_eq], fun c k hh => (y2 c k (by omega)).trans (f5 c k (by omega))⟩
end SIM34D
