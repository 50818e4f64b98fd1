section SIM34G
variable {N : Nat} {σ σ1 : gI} {τ τ1 : gJ} {r : Int32}
theorem x_afloat6 {pl t : Int32} {x : SB} (hB : BC σ pl t 0 x) (h5 : ¬ t < σ 176 0) (h : B_X6_isAfloat_0 N 171 σ τ 0 = some (r, σ1, τ1)) : σ = σ1 ∧ r = 1 := by
  obtain ⟨b0, b1, b2, b9, b10, b7, b8, b6⟩ := hB
  have b9 : σ 171 9 = 0 := b9
  have b10 : σ 171 10 = 0 := b10
  unfold B_X6_isAfloat_0 at h
  rw [if_neg (by decide), if_neg (by decide)] at h
  obtain ⟨j, ej, -, h⟩ := ck_some h
  have hj : j = 0 := by rw [← ej]; rfl
  rw [hj, b8, if_neg h5] at h
  unfold B_X6_isAfloat_28 at h
  rw [if_neg (show ¬ (1 : Int32) = 0 by decide), b9, b10, if_pos (show (((0 : Int32) ||| 0) >>> ((0 : Int32) &&& 31)) &&& 1 = 0 by decide)] at h
  obtain ⟨a, b, -⟩ := sm_inj h
  exact ⟨b, a.symm⟩
/-- a minute of the class's boat that is on its way -/
theorem x_cpass {s : gI} {t2 : gJ} {pl t : Int32} {x : SB} {cd : Nat → Int32} {L : Int} {u : Unit} (hE : EC σ s cd L) (hs : IN6 (TC σ) (σ 3 6).toInt x) (hB : BC s pl t 0 x) (ht : 0 ≤ t.toInt) (h5 : ¬ t < s 176 0) (h : B_X1_pass_0 N 171 s t2 = some (u, σ1, τ1)) : EC σ σ1 cd L ∧ BC σ1 pl (t + 1) (mst (stp (TC σ) (RC cd L pl t (wtr (σ 15 1) (σ 16) t)) t) (wtr (σ 15 1) (σ 16) t).toInt.toNat x).1 (mst (stp (TC σ) (RC cd L pl t (wtr (σ 15 1) (σ 16) t)) t) (wtr (σ 15 1) (σ 16) t).toInt.toNat x).2 ∧ σ1 176 0 = s 176 0 ∧ σ1 158 4 = mas (stp (TC σ) (RC cd L pl t (wtr (σ 15 1) (σ 16) t)) t) (abit (TC σ) (σ 17 9)) (wtr (σ 15 1) (σ 16) t).toInt.toNat x (s 158 4) ∧ (σ1 158 5 = s 158 5 ∨ (σ1 158 5 = s 158 5 ||| 1 ∧ (mst (stp (TC σ) (RC cd L pl t (wtr (σ 15 1) (σ 16) t)) t) (wtr (σ 15 1) (σ 16) t).toInt.toNat x).1 = 0 ∧ SK (TC σ) (mst (stp (TC σ) (RC cd L pl t (wtr (σ 15 1) (σ 16) t)) t) (wtr (σ 15 1) (σ 16) t).toInt.toNat x).2)) := by
  have l0 : (0 : Int32).toInt = 0 := rfl
  have f := hE.1
  obtain ⟨b0, b1, b2, b9, b10, b7, b8, b6⟩ := id hB
  unfold B_X1_pass_0 at h
  obtain ⟨r1, s1, t1, q1, h⟩ := bd_some h
  unfold B_X1_flowIn_0 at q1
  obtain ⟨r0, s0, t0, q0, q1⟩ := bd_some q1
  rw [b8] at q0
  have e15 : s 15 1 = σ 15 1 := f 15 1 (by omega)
  obtain ⟨es, er⟩ := x_wat6 (by rw [e15]; exact hE.2.2.2.2.1) ht q0
  rw [e15, show s 16 = σ 16 from funext fun k => f 16 k (by omega)] at er
  rw [← es, f 158 8 (by omega), if_pos hE.2.2.2.1] at q1
  obtain ⟨e1, e2, -⟩ := sm_inj q1
  rw [← e1, ← e2, er] at h
  generalize hw : wtr (σ 15 1) (σ 16) t = w at *
  -- the end of a minute
  have fin : ∀ s3 : gI, EC σ s3 cd L → BC s3 pl t (mst (stp (TC σ) (RC cd L pl t w) t) w.toInt.toNat x).1 (mst (stp (TC σ) (RC cd L pl t w) t) w.toInt.toNat x).2 → s3 176 0 = s 176 0 → s3 158 4 = mas (stp (TC σ) (RC cd L pl t w) t) (abit (TC σ) (σ 17 9)) w.toInt.toNat x (s 158 4) → (s3 158 5 = s 158 5 ∨ (s3 158 5 = s 158 5 ||| 1 ∧ (mst (stp (TC σ) (RC cd L pl t w) t) w.toInt.toNat x).1 = 0 ∧ SK (TC σ) (mst (stp (TC σ) (RC cd L pl t w) t) w.toInt.toNat x).2)) → ∀ s4 : gI, s4 = up2 s3 171 8 (s3 171 8 + 1) → EC σ s4 cd L ∧ BC s4 pl (t + 1) (mst (stp (TC σ) (RC cd L pl t w) t) w.toInt.toNat x).1 (mst (stp (TC σ) (RC cd L pl t w) t) w.toInt.toNat x).2 ∧ s4 176 0 = s 176 0 ∧ s4 158 4 = mas (stp (TC σ) (RC cd L pl t w) t) (abit (TC σ) (σ 17 9)) w.toInt.toNat x (s 158 4) ∧ (s4 158 5 = s 158 5 ∨ (s4 158 5 = s 158 5 ||| 1 ∧ (mst (stp (TC σ) (RC cd L pl t w) t) w.toInt.toNat x).1 = 0 ∧ SK (TC σ) (mst (stp (TC σ) (RC cd L pl t w) t) w.toInt.toNat x).2)) := by
    intro s3 y2 y3 y4 y5 y6 s4 e4
    have f4 : ∀ c k : Nat, ¬ (c = 171 ∧ k = 8) → s4 c k = s3 c k := fun c k hh => by rw [e4]; exact up2_ne hh
    obtain ⟨z0, z1, z2, z9, z10, z7, z8, z6⟩ := y3
    exact ⟨⟨fun c k hh => (f4 c k (by omega)).trans (y2.1 c k hh), y2.2⟩, ⟨(f4 172 0 (by omega)).trans z0, (f4 173 0 (by omega)).trans z1, (f4 174 0 (by omega)).trans z2, (f4 171 9 (by omega)).trans z9, (f4 171 10 (by omega)).trans z10, (f4 171 7 (by omega)).trans z7, by rw [e4, up_eq, z8], (f4 171 6 (by omega)).trans z6⟩, (f4 176 0 (by omega)).trans y4, (f4 158 4 (by omega)).trans y5, by rw [f4 158 5 (by omega)]; exact y6⟩
  generalize hN : N = n9 at h
  cases n9 with
  | zero => cases h
  | succ n9 =>
    have h : C_X1_pass_11 (n9 + 1) 171 (H_X1_pass_11 (n9 + 1) 171 n9) s t1 w 0 = some (u, σ1, τ1) := h
    unfold C_X1_pass_11 at h
    rw [if_neg (by rw [b6]; decide)] at h
    by_cases c : w ≤ 0
    · rw [if_pos c] at h
      rw [fa_le] at c
      obtain ⟨s4, e4, h⟩ := nm_some h
      obtain ⟨-, rfl, -⟩ := sm_inj h
      have z : w.toInt.toNat = 0 := by omega
      rw [z] at fin ⊢
      exact fin s hE hB rfl rfl (Or.inl rfl) s4 e4
    · rw [if_neg c] at h
      obtain ⟨r5, s5, t5, q5, h⟩ := bd_some h
      obtain ⟨w5, k5⟩ := x_afloat6 hB h5 q5
      rw [← w5, k5] at h
      obtain ⟨s3, t3, y1, y2, y3, y4, y5, y6⟩ := x_pass33 (N := n9 + 1) (pl := pl) (t := t) (x2 := w) (n9 + 1) s t5 1 0 0 x h hE (by omega) hB (Or.inl ⟨rfl, rfl, hs⟩)
      rw [if_pos rfl, if_pos rfl, show (w.toInt - (0 : Int32).toInt).toNat = w.toInt.toNat by omega] at y3
      rw [if_pos rfl, show (w.toInt - (0 : Int32).toInt).toNat = w.toInt.toNat by omega] at y5
      rw [show (w.toInt - (0 : Int32).toInt).toNat = w.toInt.toNat by omega] at y6
      cases n9 with
      | zero => cases y1
      | succ n8 =>
        have y1 : C_X1_pass_11 (n8 + 1 + 1) 171 (H_X1_pass_11 (n8 + 1 + 1) 171 n8) s3 t3 w 1 = some (u, σ1, τ1) := y1
        unfold C_X1_pass_11 at y1
        rw [if_pos (by rw [y3.2.2.2.2.2.2.2]; decide)] at y1
        obtain ⟨s2, e2, y1⟩ := nm_some y1
        obtain ⟨-, rfl, -⟩ := sm_inj y1
        refine fin s3 y2 y3 y4 y5 ?_ s2 e2
        rcases y6 with z | z
        · exact Or.inl z
        · exact Or.inr ⟨z.1, z.2.2⟩
end SIM34G
