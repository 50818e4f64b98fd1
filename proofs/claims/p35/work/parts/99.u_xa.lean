/-! WHAT THE RULE IS WORTH: one value of a row of codes, facts given -/
def wk (a x y : Int32) : Int32 := if a = 0 then (if y ≤ x then 0 else 1) else if a = 1 then (if x ≤ y then 0 else 1) else if a = 2 then (if x = y then 1 else 0) else if a = 3 then x + y else if a = 4 then x - y else if a = 5 then x * y else (if y = 0 then 0 else x / y)
def sa (F : Int32 → Int32) (c : Nat → Int32) : Nat → Nat → Int32
  | 0, _ => 0
  | k + 1, j => if c k = 3000 then (if j = (dep c k).toNat - 1 then -(sa F c k ((dep c k).toNat - 1)) else sa F c k j) else if (c k).toInt < 2000 then (if j = (dep c k).toNat then (if (c k).toInt < 1000 then c k else F (c k - 1000)) else sa F c k j) else (if j = (dep c k).toNat - 2 then wk (c k - 2000) (sa F c k ((dep c k).toNat - 2)) (sa F c k ((dep c k).toNat - 1)) else sa F c k j)
/-- codes that can be worked -/
def CW (c : Nat → Int32) (L : Int) : Prop := (∀ k : Nat, (k : Int) < L → need (c k) ≤ dep c k) ∧ ∀ k : Nat, (k : Int) < L → VC (c k).toInt
theorem dep_pos {c : Nat → Int32} {L : Int} (h : CW c L) : ∀ k : Nat, (k : Int) ≤ L → 0 ≤ dep c k ∧ (0 < k → 1 ≤ dep c k) := by
  intro k
  induction k with
  | zero => intro _; exact ⟨Int.le_refl 0, fun z => absurd z (Nat.lt_irrefl _)⟩
  | succ k ih =>
    intro hk
    have q := ih (by omega)
    have n := h.1 k (by omega)
    have e : dep c (k + 1) = dep c k + eff (c k) := rfl
    have : 1 ≤ dep c (k + 1) := by
      rw [e]
      unfold need at n
      unfold eff
      by_cases c1 : c k = 3000
      · rw [if_pos c1] at n ⊢; omega
      · rw [if_neg c1] at n ⊢
        by_cases c2 : (c k).toInt < 2000
        · rw [if_pos c2] at n ⊢; omega
        · rw [if_neg c2] at n ⊢; omega
    exact ⟨by omega, fun _ => this⟩
section VAL34
variable {N : Nat} {σ σ1 : gI} {τ τ1 : gJ} {r : Int32} {F : Int32 → Int32}
theorem x_worked {x0 x1 x2 : Int32} (h : B_X12_worked_0 N σ τ x0 x1 x2 = some (r, σ1, τ1)) : σ = σ1 ∧ r = wk x0 x1 x2 := by
  have fl : ∀ (y r : Int32) (s s1 : gI) (t t1 : gJ), y = 0 ∨ y = 1 → B_X12_flag_0 N s t y = some (r, s1, t1) → s = s1 ∧ r = y := by
    intro y r s s1 t t1 hy q1
    unfold B_X12_flag_0 at q1
    rcases hy with rfl | rfl
    · rw [if_pos (show (0 : Int32) = 0 from rfl)] at q1
      obtain ⟨a, b, -⟩ := sm_inj q1
      exact ⟨b, a.symm⟩
    · rw [if_neg (show ¬ (1 : Int32) = 0 by decide)] at q1
      obtain ⟨a, b, -⟩ := sm_inj q1
      exact ⟨b, a.symm⟩
  have g : ∀ y : Int32, y = 0 ∨ y = 1 → (bd (B_X12_flag_0 N σ τ y) fun r_3 σ_3 τ_3 => some (r_3, σ_3, τ_3)) = some (r, σ1, τ1) → σ = σ1 ∧ r = y := by
    intro y hy h
    obtain ⟨r3, s3, t3, q3, h⟩ := bd_some h
    obtain ⟨rfl, rfl, -⟩ := sm_inj h
    exact fl y _ _ _ _ _ hy q3
  unfold B_X12_worked_0 at h
  unfold wk
  by_cases c0 : x0 = 0
  · rw [if_pos c0] at h ⊢
    by_cases d : x2 ≤ x1
    · rw [if_pos d] at h ⊢
      exact g 0 (Or.inl rfl) h
    · rw [if_neg d] at h ⊢
      exact g 1 (Or.inr rfl) h
  · rw [if_neg c0] at h ⊢
    by_cases c1 : x0 = 1
    · rw [if_pos c1] at h ⊢
      by_cases d : x1 ≤ x2
      · rw [if_pos d] at h ⊢
        exact g 0 (Or.inl rfl) h
      · rw [if_neg d] at h ⊢
        exact g 1 (Or.inr rfl) h
    · rw [if_neg c1] at h ⊢
      by_cases c2 : x0 = 2
      · rw [if_pos c2] at h ⊢
        by_cases d : x1 = x2
        · rw [if_pos d] at h ⊢
          exact g 1 (Or.inr rfl) h
        · rw [if_neg d] at h ⊢
          exact g 0 (Or.inl rfl) h
      · rw [if_neg c2] at h ⊢
        by_cases c3 : x0 = 3
        · rw [if_pos c3] at h ⊢
          obtain ⟨rfl, w, -⟩ := sm_inj h
          exact ⟨w, rfl⟩
        · rw [if_neg c3] at h ⊢
          by_cases c4 : x0 = 4
          · rw [if_pos c4] at h ⊢
            obtain ⟨rfl, w, -⟩ := sm_inj h
            exact ⟨w, rfl⟩
          · rw [if_neg c4] at h ⊢
            by_cases c5 : x0 = 5
            · rw [if_pos c5] at h ⊢
              obtain ⟨rfl, w, -⟩ := sm_inj h
              exact ⟨w, rfl⟩
            · rw [if_neg c5] at h ⊢
              by_cases d : x2 = 0
              · rw [if_pos d] at h ⊢
                obtain ⟨rfl, w, -⟩ := sm_inj h
                exact ⟨w, rfl⟩
              · rw [if_neg d] at h ⊢
                obtain ⟨-, h⟩ := dz_some h
                obtain ⟨rfl, w, -⟩ := sm_inj h
                exact ⟨w, rfl⟩
/-- the reference's -/
theorem x_ruled {q : Nat} {c : Nat → Int32} {x2 : Int32} {L : Int} (hq : q ≠ 218) (hL : 0 ≤ L ∧ L ≤ 80) (hW : CW c L) (hF : ∀ (s : gI) (t : gJ) (w v : Int32) (s1 : gI) (t1 : gJ), (∀ c k : Nat, ¬ (c = 218) → s c k = σ c k) → (0 ≤ w.toInt ∧ w.toInt ≤ 7) → B_X12_askedOf_0 N q s t x2 w = some (v, s1, t1) → s = s1 ∧ v = F w) : ∀ (n : Nat) (s : gI) (t : gJ) (x3 x4 r : Int32) (σ1 : gI) (τ1 : gJ), H_X12_ruled_28 N q n s t x2 x3 x4 = some (r, σ1, τ1) → (∀ c k : Nat, ¬ (c = 218) → s c k = σ c k) → (σ 199 28).toInt = L → (∀ k : Nat, (k : Int) < L → σ 216 k = c k) → (0 ≤ x4.toInt ∧ x4.toInt ≤ L) → 0 < L → x3.toInt = dep c x4.toInt.toNat → (∀ j : Nat, (j : Int) < x3.toInt → s 218 j = sa F c x4.toInt.toNat j) → r = sa F c L.toNat 0 ∧ ∀ c k : Nat, ¬ (c = 218) → σ1 c k = σ c k := by
  have l1 : (1 : Int32).toInt = 1 := rfl
  have lm : (-1 : Int32).toInt = -1 := rfl
  have l1000 : (1000 : Int32).toInt = 1000 := rfl
  have l2000 : (2000 : Int32).toInt = 2000 := rfl
  intro n
  induction n with
  | zero => intro s t x3 x4 r σ1 τ1 h; cases h
  | succ n ih =>
    intro s t x3 x4 r σ1 τ1 h f e28 e216 h4 hL0 h3 hs
    have h : C_X12_ruled_28 N q (H_X12_ruled_28 N q n) s t x2 x3 x4 = some (r, σ1, τ1) := h
    unfold C_X12_ruled_28 at h
    rw [f 199 28 (by omega)] at h
    by_cases c1 : σ 199 28 ≤ x4
    · rw [if_pos c1] at h
      rw [fa_le] at c1
      obtain ⟨rfl, rfl, -⟩ := sm_inj h
      have ek : x4.toInt.toNat = L.toNat := by omega
      have dp := (dep_pos hW L.toNat (by omega)).2 (by omega)
      refine ⟨?_, f⟩
      rw [hs 0 (by rw [h3, ek]; omega), ek]
    · rw [if_neg c1] at h
      rw [fa_le] at c1
      generalize hk : x4.toInt.toNat = k at h3 hs
      have nn := nat_of_toInt (i := x4) h4.1
      obtain ⟨j, ej, -, h⟩ := ck_some h
      have hj : j = k := by omega
      rw [hj] at h
      obtain ⟨v3, e3, h⟩ := nm_some h
      rw [f 216 k (by omega), e216 k (by omega)] at e3
      have u4 : (x4 + 1).toInt = x4.toInt + 1 := by rw [ti_add (by omega) (by omega), l1]
      have k4 : (x4 + 1).toInt.toNat = k + 1 := by omega
      have dpos := (dep_pos hW k (by omega)).1
      have nd := hW.1 k (by omega)
      have dle := dep_le c k
      have de : dep c (k + 1) = dep c k + eff (c k) := rfl
      have se : ∀ j : Nat, sa F c (k + 1) j = if c k = 3000 then (if j = (dep c k).toNat - 1 then -(sa F c k ((dep c k).toNat - 1)) else sa F c k j) else if (c k).toInt < 2000 then (if j = (dep c k).toNat then (if (c k).toInt < 1000 then c k else F (c k - 1000)) else sa F c k j) else (if j = (dep c k).toNat - 2 then wk (c k - 2000) (sa F c k ((dep c k).toNat - 2)) (sa F c k ((dep c k).toNat - 1)) else sa F c k j) := fun _ => rfl
      unfold need at nd
      unfold eff at de
      have vc := hW.2 k (by omega)
      by_cases c3 : v3 = 3000
      · rw [if_pos c3] at h
        have c3' : c k = 3000 := e3.symm.trans c3
        rw [if_pos c3'] at nd de
        have u3 : (x3 - 1).toInt = x3.toInt - 1 := by rw [ti_sub (by omega) (by omega), l1]
        have nn3 := nat_of_toInt (i := x3 - 1) (by omega)
        obtain ⟨j2, ej2, -, h⟩ := ck_some h
        obtain ⟨s3, es3, h⟩ := nm_some h
        obtain ⟨v4, ev4, h⟩ := nm_some h
        have hj2 : j2 = (dep c k).toNat - 1 := by omega
        rw [hj2] at es3
        refine ih s3 t x3 v4 r σ1 τ1 h (fun c k hh => by rw [es3, up2_ne (by omega)]; exact f c k hh) e28 e216 (by rw [ev4]; omega) hL0 (by rw [ev4, k4, de]; omega) (fun j hj => ?_)
        rw [ev4, k4, se, if_pos c3', es3]
        by_cases d : j = (dep c k).toNat - 1
        · rw [d, up_eq, if_pos rfl, hs _ (by omega)]
        · rw [up2_ne (by omega), if_neg d]
          exact hs j hj
      · rw [if_neg c3] at h
        have c3' : ¬ c k = 3000 := fun z => c3 (e3.trans z)
        rw [if_neg c3'] at nd de
        by_cases c4 : v3 < 2000
        · rw [if_pos c4] at h
          rw [fa_lt, e3] at c4
          have c4' : (c k).toInt < 2000 := by omega
          rw [if_pos c4'] at nd de
          -- one more on the stack
          have push : ∀ (s2 : gI) (t2 : gJ) (v : Int32), (∀ c k : Nat, ¬ (c = 218) → s2 c k = σ c k) → (∀ j, s2 218 j = s 218 j) → (v = if (c k).toInt < 1000 then c k else F (c k - 1000)) → (ck x3 80 fun j_7 => nm (up2 s2 218 j_7 v) fun σ_8 => nm (x3 + 1) fun v_9 => nm (x4 + 1) fun v_10 => H_X12_ruled_28 N q n σ_8 t2 x2 v_9 v_10) = some (r, σ1, τ1) → r = sa F c L.toNat 0 ∧ ∀ c k : Nat, ¬ (c = 218) → σ1 c k = σ c k := by
            intro s2 t2 v f2 g2 ev h
            have nn3 := nat_of_toInt (i := x3) (by omega)
            obtain ⟨j2, ej2, -, h⟩ := ck_some h
            obtain ⟨s3, es3, h⟩ := nm_some h
            obtain ⟨v9, ev9, h⟩ := nm_some h
            obtain ⟨v4, ev4, h⟩ := nm_some h
            have hj2 : j2 = (dep c k).toNat := by omega
            rw [hj2] at es3
            have u9 : v9.toInt = x3.toInt + 1 := by rw [ev9, ti_add (by omega) (by omega), l1]
            refine ih s3 t2 v9 v4 r σ1 τ1 h (fun c k hh => by rw [es3, up2_ne (by omega)]; exact f2 c k hh) e28 e216 (by rw [ev4]; omega) hL0 (by rw [ev4, k4, de]; omega) (fun j hj => ?_)
            rw [ev4, k4, se, if_neg c3', if_pos c4', es3]
            by_cases d : j = (dep c k).toNat
            · rw [d, up_eq, if_pos rfl, ev]
            · rw [up2_ne (by omega), if_neg d, g2]
              exact hs j (by omega)
          by_cases c5 : v3 < 1000
          · rw [if_pos c5] at h
            rw [fa_lt, e3] at c5
            exact push s t v3 f (fun _ => rfl) (by rw [if_pos (by omega)]; exact e3) h
          · rw [if_neg c5] at h
            rw [fa_lt, e3] at c5
            obtain ⟨r11, s11, t11, q11, h⟩ := bd_some h
            have uw : (v3 - 1000).toInt = (c k).toInt - 1000 := by rw [e3, ti_sub (by omega) (by omega), l1000]
            have w7 : (c k).toInt ≤ 1007 := by
              rcases vc with z | z
              · exact z.2
              · unfold op6 at z; omega
            obtain ⟨w1, w2⟩ := hF s t (v3 - 1000) r11 s11 t11 f (by omega) q11
            rw [← w1] at h
            exact push s t11 r11 f (fun _ => rfl) (by rw [if_neg (by omega), w2, e3]) h
        · rw [if_neg c4] at h
          rw [fa_lt, e3] at c4
          have c4' : ¬ (c k).toInt < 2000 := by omega
          rw [if_neg c4'] at nd de
          obtain ⟨v16, e16, h⟩ := nm_some h
          have u16 : v16.toInt = x3.toInt - 1 := by rw [e16, ti_add (by omega) (by omega), lm]; omega
          have u17 : (v16 - 1).toInt = x3.toInt - 2 := by rw [ti_sub (by omega) (by omega), l1]; omega
          have n17 := nat_of_toInt (i := v16 - 1) (by omega)
          have n16 := nat_of_toInt (i := v16) (by omega)
          obtain ⟨j17, ej17, -, h⟩ := ck_some h
          obtain ⟨j18, ej18, -, h⟩ := ck_some h
          have h17 : j17 = (dep c k).toNat - 2 := by omega
          have h18 : j18 = (dep c k).toNat - 1 := by omega
          rw [h17, h18] at h
          obtain ⟨r19, s19, t19, q19, h⟩ := bd_some h
          obtain ⟨w1, w2⟩ := x_worked q19
          obtain ⟨s3, es3, h⟩ := nm_some h
          obtain ⟨v4, ev4, h⟩ := nm_some h
          rw [← w1] at es3
          refine ih s3 t19 v16 v4 r σ1 τ1 h (fun c k hh => by rw [es3, up2_ne (by omega)]; exact f c k hh) e28 e216 (by rw [ev4]; omega) hL0 (by rw [ev4, k4, de]; omega) (fun j hj => ?_)
          rw [ev4, k4, se, if_neg c3', if_neg c4', es3]
          by_cases d : j = (dep c k).toNat - 2
          · rw [d, up_eq, if_pos rfl, w2, e3, hs _ (by omega), hs _ (by omega)]
          · rw [up2_ne (by omega), if_neg d]
            exact hs j (by omega)
end VAL34
