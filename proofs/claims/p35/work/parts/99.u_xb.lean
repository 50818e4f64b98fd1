section VAL34C
variable {N : Nat} {σ σ1 : gI} {τ τ1 : gJ} {r : Int32} {F : Int32 → Int32}
theorem v115_neg {rec : gI → gJ → Int32 → Int32 → Option (Int32 × gI × gJ)} {s : gI} {t : gJ} {x3 y1 : Int32} (h1 : 1 ≤ y1.toInt ∧ y1.toInt < 40) (h : B_X5_value_115 N rec s t x3 8 0 y1 = some (r, σ1, τ1)) : ∃ v : Int32, v.toInt = y1.toInt ∧ rec (up2 s 19 (y1.toInt.toNat - 1) (-(s 19 (y1.toInt.toNat - 1)))) t v (x3 + 1) = some (r, σ1, τ1) := by
  have l0 : (0 : Int32).toInt = 0 := rfl
  have l1 : (1 : Int32).toInt = 1 := rfl
  unfold B_X5_value_115 at h
  obtain ⟨v1, e1, h⟩ := nm_some h
  have u1 : v1.toInt = y1.toInt := by rw [e1, ti_sub (by omega) (by omega), l0]; omega
  have u2 : (v1 - 1).toInt = y1.toInt - 1 := by rw [ti_sub (by omega) (by omega), l1]; omega
  have n2 := nat_of_toInt (i := v1 - 1) (by omega)
  obtain ⟨j2, ej2, -, h⟩ := ck_some h
  obtain ⟨v3, e3, h⟩ := nm_some h
  obtain ⟨j4, ej4, -, h⟩ := ck_some h
  obtain ⟨v5, e5, h⟩ := nm_some h
  rw [if_pos (show (8 : Int32) = 8 from rfl)] at h
  obtain ⟨s7, e7, h⟩ := nm_some h
  obtain ⟨v8, e8, h⟩ := nm_some h
  have hj : j2 = y1.toInt.toNat - 1 := by omega
  rw [hj] at e3 e7
  rw [e3] at e7
  rw [e7, e8] at h
  exact ⟨v1, u1, h⟩
theorem v115_op {rec : gI → gJ → Int32 → Int32 → Option (Int32 × gI × gJ)} {s : gI} {t : gJ} {a x3 x4 y1 : Int32} (h1 : 2 ≤ y1.toInt ∧ y1.toInt < 40) (ha : (x4 = 9 ∧ a = 3) ∨ (x4 = 10 ∧ a = 4) ∨ (x4 = 11 ∧ a = 5) ∨ (x4 = 12 ∧ a = 6) ∨ (x4 = 13 ∧ a = 0) ∨ (x4 = 14 ∧ a = 1) ∨ (x4 = 15 ∧ a = 2)) (h : B_X5_value_115 N rec s t x3 x4 1 y1 = some (r, σ1, τ1)) : ∃ v : Int32, v.toInt = y1.toInt - 1 ∧ rec (up2 s 19 (y1.toInt.toNat - 2) (wk a (s 19 (y1.toInt.toNat - 2)) (s 19 (y1.toInt.toNat - 1)))) t v (x3 + 1) = some (r, σ1, τ1) := by
  have l1 : (1 : Int32).toInt = 1 := rfl
  unfold B_X5_value_115 at h
  obtain ⟨v1, e1, h⟩ := nm_some h
  have u1 : v1.toInt = y1.toInt - 1 := by rw [e1, ti_sub (by omega) (by omega), l1]
  have u2 : (v1 - 1).toInt = y1.toInt - 2 := by rw [ti_sub (by omega) (by omega), l1]; omega
  have n2 := nat_of_toInt (i := v1 - 1) (by omega)
  have n1 := nat_of_toInt (i := v1) (by omega)
  obtain ⟨j2, ej2, -, h⟩ := ck_some h
  obtain ⟨v3, e3, h⟩ := nm_some h
  obtain ⟨j4, ej4, -, h⟩ := ck_some h
  obtain ⟨v5, e5, h⟩ := nm_some h
  have hj : j2 = y1.toInt.toNat - 2 := by omega
  have hj4 : j4 = y1.toInt.toNat - 1 := by omega
  rw [hj] at e3 h
  rw [hj4] at e5
  refine ⟨v1, u1, ?_⟩
  rw [← e3, ← e5]
  -- the end of each
  have fin : ∀ w : Int32, w = wk a v3 v5 → (nm (up2 s 19 (y1.toInt.toNat - 2) w) fun σ_7 => nm (x3 + 1) fun v_8 => rec σ_7 t v1 v_8) = some (r, σ1, τ1) → rec (up2 s 19 (y1.toInt.toNat - 2) (wk a v3 v5)) t v1 (x3 + 1) = some (r, σ1, τ1) := by
    intro w ew h
    obtain ⟨s7, e7, h⟩ := nm_some h
    obtain ⟨v8, e8, h⟩ := nm_some h
    rw [e7, e8, ew] at h
    exact h
  rcases ha with ⟨rfl, rfl⟩ | ⟨rfl, rfl⟩ | ⟨rfl, rfl⟩ | ⟨rfl, rfl⟩ | ⟨rfl, rfl⟩ | ⟨rfl, rfl⟩ | ⟨rfl, rfl⟩
  · rw [if_neg (by decide), if_pos rfl] at h
    exact fin _ rfl h
  · rw [if_neg (by decide), if_neg (by decide), if_pos rfl] at h
    exact fin _ rfl h
  · rw [if_neg (by decide), if_neg (by decide), if_neg (by decide), if_pos rfl] at h
    exact fin _ rfl h
  · rw [if_neg (by decide), if_neg (by decide), if_neg (by decide), if_neg (by decide), if_pos rfl] at h
    have ew : wk 6 v3 v5 = if v5 = 0 then 0 else v3 / v5 := rfl
    by_cases c : v5 = 0
    · rw [if_pos c] at h
      exact fin 0 (by rw [ew, if_pos c]) h
    · rw [if_neg c] at h
      obtain ⟨-, h⟩ := dz_some h
      exact fin (v3 / v5) (by rw [ew, if_neg c]) h
  · rw [if_neg (by decide), if_neg (by decide), if_neg (by decide), if_neg (by decide), if_neg (by decide), if_pos rfl] at h
    have ew : wk 0 v3 v5 = if v5 ≤ v3 then 0 else 1 := rfl
    by_cases c : v5 ≤ v3
    · rw [if_pos c] at h
      exact fin 0 (by rw [ew, if_pos c]) h
    · rw [if_neg c] at h
      exact fin 1 (by rw [ew, if_neg c]) h
  · rw [if_neg (by decide), if_neg (by decide), if_neg (by decide), if_neg (by decide), if_neg (by decide), if_neg (by decide), if_pos rfl] at h
    have ew : wk 1 v3 v5 = if v3 ≤ v5 then 0 else 1 := rfl
    by_cases c : v3 ≤ v5
    · rw [if_pos c] at h
      exact fin 0 (by rw [ew, if_pos c]) h
    · rw [if_neg c] at h
      exact fin 1 (by rw [ew, if_neg c]) h
  · rw [if_neg (by decide), if_neg (by decide), if_neg (by decide), if_neg (by decide), if_neg (by decide), if_neg (by decide), if_neg (by decide)] at h
    have ew : wk 2 v3 v5 = if v3 = v5 then 1 else 0 := rfl
    by_cases c : v3 = v5
    · rw [if_pos c] at h
      exact fin 1 (by rw [ew, if_pos c]) h
    · rw [if_neg c] at h
      exact fin 0 (by rw [ew, if_neg c]) h
theorem en_op {x : Int} {v a : Int32} (hx : 2000 ≤ x ∧ x ≤ 2006) (hv : v.toInt = en x) (ha : a.toInt = x - 2000) : (v = 9 ∧ a = 3) ∨ (v = 10 ∧ a = 4) ∨ (v = 11 ∧ a = 5) ∨ (v = 12 ∧ a = 6) ∨ (v = 13 ∧ a = 0) ∨ (v = 14 ∧ a = 1) ∨ (v = 15 ∧ a = 2) := by
  have l0 : (0 : Int32).toInt = 0 := rfl
  have l1 : (1 : Int32).toInt = 1 := rfl
  have l2 : (2 : Int32).toInt = 2 := rfl
  have l3 : (3 : Int32).toInt = 3 := rfl
  have l4 : (4 : Int32).toInt = 4 := rfl
  have l5 : (5 : Int32).toInt = 5 := rfl
  have l6 : (6 : Int32).toInt = 6 := rfl
  have l9 : (9 : Int32).toInt = 9 := rfl
  have l10 : (10 : Int32).toInt = 10 := rfl
  have l11 : (11 : Int32).toInt = 11 := rfl
  have l12 : (12 : Int32).toInt = 12 := rfl
  have l13 : (13 : Int32).toInt = 13 := rfl
  have l14 : (14 : Int32).toInt = 14 := rfl
  have l15 : (15 : Int32).toInt = 15 := rfl
  simp only [fa_eq]
  unfold en at hv
  rw [if_neg (by omega)] at hv
  by_cases c : 2003 ≤ x
  · rw [if_pos c] at hv; omega
  · rw [if_neg c, if_pos (by omega)] at hv; omega
/-- the class's -/
theorem x_value {c : Nat → Int32} {L : Int} (hL : 0 < L ∧ L ≤ 40) (hW : CW c L) : ∀ (n : Nat) (s : gI) (t : gJ) (x2 x3 r : Int32) (σ1 : gI) (τ1 : gJ), H_X5_value_4 N n s t x2 x3 = some (r, σ1, τ1) → (∀ c k : Nat, ¬ (c = 19) → s c k = σ c k) → (σ 17 3).toInt = L → (∀ k : Nat, (k : Int) < L → (σ 18 k).toInt = en (c k).toInt) → (∀ i : Nat, i < 8 → σ 159 i = F (Int32.ofNat i)) → (0 ≤ x3.toInt ∧ x3.toInt ≤ L) → x2.toInt = dep c x3.toInt.toNat → (∀ j : Nat, (j : Int) < x2.toInt → s 19 j = sa F c x3.toInt.toNat j) → r = sa F c L.toNat 0 ∧ ∀ c k : Nat, ¬ (c = 19) → σ1 c k = σ c k := by
  have l0 : (0 : Int32).toInt = 0 := rfl
  have l1 : (1 : Int32).toInt = 1 := rfl
  have l2 : (2 : Int32).toInt = 2 := rfl
  have l8 : (8 : Int32).toInt = 8 := rfl
  have l32 : (32 : Int32).toInt = 32 := rfl
  have l40 : (40 : Int32).toInt = 40 := rfl
  have l1000 : (1000 : Int32).toInt = 1000 := rfl
  have l2000 : (2000 : Int32).toInt = 2000 := rfl
  have l3000 : (3000 : Int32).toInt = 3000 := rfl
  intro n
  induction n with
  | zero => intro s t x2 x3 r σ1 τ1 h; cases h
  | succ n ih =>
    intro s t x2 x3 r σ1 τ1 h f e17 e18 e159 h3 h2 hs
    have h : C_X5_value_4 N (H_X5_value_4 N n) s t x2 x3 = some (r, σ1, τ1) := h
    unfold C_X5_value_4 at h
    rw [f 17 3 (by omega)] at h
    by_cases c1 : σ 17 3 ≤ x3
    · rw [if_pos c1] at h
      rw [fa_le] at c1
      obtain ⟨rfl, rfl, -⟩ := sm_inj h
      have ek : x3.toInt.toNat = L.toNat := by omega
      have dp := (dep_pos hW L.toNat (by omega)).2 (by omega)
      refine ⟨?_, f⟩
      rw [hs 0 (by rw [h2, ek]; omega), ek]
    · rw [if_neg c1] at h
      rw [fa_le] at c1
      generalize hk : x3.toInt.toNat = k at h2 hs
      have dpos := (dep_pos hW k (by omega)).1
      have dle := dep_le c k
      rw [if_neg (show ¬ (40 : Int32) ≤ x3 from fun z => by rw [fa_le] at z; omega), if_neg (show ¬ (40 : Int32) ≤ x2 from fun z => by rw [fa_le] at z; omega)] at h
      have nn := nat_of_toInt (i := x3) h3.1
      obtain ⟨j, ej, -, h⟩ := ck_some h
      have hj : j = k := by omega
      rw [hj] at h
      obtain ⟨v5, e5, h⟩ := nm_some h
      have u5 : v5.toInt = en (c k).toInt := by rw [e5, f 18 k (by omega)]; exact e18 k (by omega)
      have u4 : (x3 + 1).toInt = x3.toInt + 1 := by rw [ti_add (by omega) (by omega), l1]
      have k4 : (x3 + 1).toInt.toNat = k + 1 := by omega
      have nd := hW.1 k (by omega)
      have vc := hW.2 k (by omega)
      have de : dep c (k + 1) = dep c k + eff (c k) := rfl
      have se : ∀ j : Nat, sa F c (k + 1) j = if c k = 3000 then (if j = (dep c k).toNat - 1 then -(sa F c k ((dep c k).toNat - 1)) else sa F c k j) else if (c k).toInt < 2000 then (if j = (dep c k).toNat then (if (c k).toInt < 1000 then c k else F (c k - 1000)) else sa F c k j) else (if j = (dep c k).toNat - 2 then wk (c k - 2000) (sa F c k ((dep c k).toNat - 2)) (sa F c k ((dep c k).toNat - 1)) else sa F c k j) := fun _ => rfl
      unfold need at nd
      unfold eff at de
      rcases vc with vc | vc
      · -- a number or a fact
        have c3' : ¬ c k = 3000 := fun z => by rw [fa_eq] at z; omega
        have c4' : (c k).toInt < 2000 := by omega
        rw [if_neg c3', if_pos c4'] at de
        have push : ∀ (w : Int32), (w = if (c k).toInt < 1000 then c k else F (c k - 1000)) → ∀ j2 : Nat, x2.toNatClampNeg = j2 → ∀ v9 : Int32, v9 = x2 + 1 → H_X5_value_4 N n (up2 s 19 j2 w) t v9 (x3 + 1) = some (r, σ1, τ1) → r = sa F c L.toNat 0 ∧ ∀ c k : Nat, ¬ (c = 19) → σ1 c k = σ c k := by
          intro w ew j2 ej2 v9 e9 h
          have nn2 := nat_of_toInt (i := x2) (by omega)
          have hj2 : j2 = (dep c k).toNat := by omega
          rw [hj2] at h
          have u9 : v9.toInt = x2.toInt + 1 := by rw [e9, ti_add (by omega) (by omega), l1]
          refine ih _ t v9 (x3 + 1) r σ1 τ1 h (fun c k hh => by rw [up2_ne (by omega)]; exact f c k hh) e17 e18 e159 (by omega) (by rw [k4, de]; omega) (fun j hj => ?_)
          rw [k4, se, if_neg c3', if_pos c4']
          by_cases d : j = (dep c k).toNat
          · rw [d, up_eq, if_pos rfl, ew]
          · rw [up2_ne (by omega), if_neg d]
            exact hs j (by omega)
        unfold en at u5
        rw [if_neg (show ¬ (c k).toInt = 3000 by omega), if_neg (show ¬ 2003 ≤ (c k).toInt by omega), if_neg (show ¬ 2000 ≤ (c k).toInt by omega)] at u5
        by_cases c5 : 1000 ≤ (c k).toInt
        · rw [if_pos c5] at u5
          rw [if_pos (show v5 < 32 from (fa_lt _ _).mpr (by omega)), if_neg (show ¬ v5 < 0 from fun z => by rw [fa_lt] at z; omega), if_neg (show ¬ (8 : Int32) ≤ v5 from fun z => by rw [fa_le] at z; omega)] at h
          obtain ⟨v9, e9, h⟩ := nm_some h
          have nn5 := nat_of_toInt (i := v5) (by omega)
          obtain ⟨j10, ej10, -, h⟩ := ck_some h
          obtain ⟨j11, ej11, -, h⟩ := ck_some h
          obtain ⟨s12, e12, h⟩ := nm_some h
          obtain ⟨v13, e13, h⟩ := nm_some h
          rw [e12, e13] at h
          refine push (s 159 j10) ?_ j11 ej11 v9 e9 h
          rw [if_neg (by omega), f 159 j10 (by omega), e159 j10 (by omega)]
          congr 1
          rw [fa_eq, ofn_ti (by omega), ti_sub (by omega) (by omega), l1000]
          omega
        · rw [if_neg c5] at u5
          rw [if_neg (show ¬ v5 < 32 from fun z => by rw [fa_lt] at z; omega)] at h
          obtain ⟨v14, e14, h⟩ := nm_some h
          obtain ⟨j15, ej15, -, h⟩ := ck_some h
          obtain ⟨s16, e16, h⟩ := nm_some h
          obtain ⟨v17, e17', h⟩ := nm_some h
          rw [e16, e17'] at h
          refine push (v5 - 32) ?_ j15 ej15 v14 e14 h
          rw [if_pos (by omega), fa_eq, ti_sub (by omega) (by omega), l32]
          omega
      · have v8 : 8 ≤ v5.toInt ∧ v5.toInt ≤ 15 := by
          rw [u5]
          unfold op6 at vc
          unfold en
          by_cases z : (c k).toInt = 3000
          · rw [if_pos z]; omega
          · rw [if_neg z]
            by_cases y : 2003 ≤ (c k).toInt
            · rw [if_pos y]; omega
            · rw [if_neg y, if_pos (by omega)]; omega
        rw [if_pos (show v5 < 32 from (fa_lt _ _).mpr (by omega)), if_neg (show ¬ v5 < 0 from fun z => by rw [fa_lt] at z; omega), if_pos (show (8 : Int32) ≤ v5 from (fa_le _ _).mpr (by omega))] at h
        unfold B_X5_value_84 at h
        rcases vc with vc | vc
        · have c3' : c k = 3000 := (fa_eq _ _).mpr vc
          rw [if_pos c3'] at nd de
          have e8 : v5 = 8 := by
            rw [fa_eq, u5, vc]
            rfl
          rw [if_pos e8, if_pos (show (1 : Int32) ≤ x2 from (fa_le _ _).mpr (by omega)), if_pos e8, e8] at h
          obtain ⟨v, ev, h⟩ := v115_neg (by omega) h
          have ed : x2.toInt.toNat = (dep c k).toNat := by omega
          rw [ed] at h
          refine ih _ t v (x3 + 1) r σ1 τ1 h (fun c k hh => by rw [up2_ne (by omega)]; exact f c k hh) e17 e18 e159 (by omega) (by rw [k4, de]; omega) (fun j hj => ?_)
          rw [k4, se, if_pos c3']
          by_cases d : j = (dep c k).toNat - 1
          · rw [d, up_eq, if_pos rfl, hs _ (by omega)]
          · rw [up2_ne (by omega), if_neg d]
            exact hs j (by omega)
        · have c3' : ¬ c k = 3000 := fun z => by rw [fa_eq] at z; omega
          have c4' : ¬ (c k).toInt < 2000 := by omega
          rw [if_neg c3', if_neg c4'] at nd de
          have ha := en_op (a := c k - 2000) vc u5 (by rw [ti_sub (by omega) (by omega), l2000])
          have e8 : ¬ v5 = 8 := by
            intro z
            rcases ha with y | y | y | y | y | y | y <;> (rw [y.1] at z; exact absurd z (by decide))
          rw [if_neg e8, if_pos (show (2 : Int32) ≤ x2 from (fa_le _ _).mpr (by omega)), if_neg e8] at h
          obtain ⟨v, ev, h⟩ := v115_op (by omega) ha h
          have ed : x2.toInt.toNat = (dep c k).toNat := by omega
          rw [ed] at h
          refine ih _ t v (x3 + 1) r σ1 τ1 h (fun c k hh => by rw [up2_ne (by omega)]; exact f c k hh) e17 e18 e159 (by omega) (by rw [k4, de]; omega) (fun j hj => ?_)
          rw [k4, se, if_neg c3', if_neg c4']
          by_cases d : j = (dep c k).toNat - 2
          · rw [d, up_eq, if_pos rfl, hs _ (by omega), hs _ (by omega)]
          · rw [up2_ne (by omega), if_neg d]
            exact hs j (by omega)
end VAL34C
