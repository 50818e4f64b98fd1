section ZS2
variable {B B1 : Int} {g : Nat → Int32} {σ : gI} {τ : gJ} {N : Nat}
theorem z_undo (hN : 4294967296 ≤ N) (h : ZM σ g B) (hB : B ≤ B1) (hB9 : B1 ≤ 900000000) : okp (fun (a : Int32) σ1 τ1 => ZN σ1 B1) (B_X12_undo_0 N σ τ) := by
  unfold B_X12_undo_0
  have l0 : (0 : Int32).toInt = 0 := rfl
  have l1 : (1 : Int32).toInt = 1 := rfl
  have l45 : (45 : Int32).toInt = 45 := rfl
  refine ok_nm (fun s1 e1 => ?_)
  have h1 := zm_up h e1 (by omega)
  refine ok_ite (fun _ => ok_r (zm_n h1 hB)) (fun c => ok_nm (fun s3 e3 => ?_))
  rw [fa_eq] at c
  have hu := h1.2.2.1
  have e36 : (s3 199 36).toInt = (s1 199 36).toInt - 1 := by
    rw [e3]
    unfold up2
    rw [if_pos ⟨rfl, rfl⟩, ti_sub (by omega) (by omega), l1]
  have f3 : ∀ c k : Nat, ¬ (c = 199 ∧ k = 36) → s3 c k = s1 c k := fun c k hh => by rw [e3]; exact up2_ne (by omega)
  have hU : UU s3 ((s3 199 36).toInt + 1) B := uu_fr (by rw [e36, Int.sub_add_cancel]; exact h1.2.2.2.1) (fun c k hh => f3 c k (by omega)) (Int.le_refl B)
  have hK : KI s3 B := ki_fr h1.2.2.2.2.1 (fun c k hh => f3 c k (by omega)) (Int.le_refl B)
  have hQ : QB 16 s3 g := qb_fr h1.1 (fun c k hh => f3 c k (by omega))
  have h13 : 0 ≤ (s3 199 13).toInt ∧ (s3 199 13).toInt ≤ 80 := by rw [f3 199 13 (by omega)]; exact h1.2.2.2.2.2
  generalize hu0 : s3 199 36 = u0 at hU e36
  suffices H : ∀ (n : Nat) (σ1 : gI) (τ : gJ) (x1 : Int32), (∀ c k : Nat, c ≠ 206 → σ1 c k = s3 c k) → (∀ k : Nat, (k : Int) < x1.toInt → σ1 206 k = s3 219 (45 * u0.toInt.toNat + k)) → (0 ≤ x1.toInt ∧ x1.toInt ≤ 45) → (46 - x1.toInt).toNat < n → okp (fun (a : Int32) σ1 τ1 => ZN σ1 B1) (H_X12_undo_26 N n σ1 τ x1) from H N s3 τ 0 (fun _ _ _ => rfl) (fun k hk => absurd hk (by omega)) (by omega) (by omega)
  intro n
  induction n with
  | zero => intro σ1 τ x1 _ _ _ hm; exact absurd hm (Nat.not_lt_zero _)
  | succ n ih =>
    intro σ1 τ x1 F1 F2 h0 hm
    show okp _ (C_X12_undo_26 N (H_X12_undo_26 N n) σ1 τ x1)
    unfold C_X12_undo_26
    have ee := F1 199 36 (by omega)
    rw [ee, hu0]
    refine ok_ite (fun c => ok_r ?_) (fun c => ?_)
    · rw [fa_le] at c
      have hv : RV σ1 (fun k => σ1 206 k) B := rv_fr (hU u0.toInt.toNat (by omega)) (F1 199 3 (by omega)) (fun k => F1 201 k (by omega)) (fun k hk => F2 k (by omega)) (Int.le_refl B)
      have q := qb_of hQ (by omega) hv (fun c k hh => F1 c k (by omega))
      refine ⟨gg σ1, q.1, by omega, by rw [ee, hu0]; omega, ?_, ki_fr hK (fun c k hh => F1 c k (by omega)) hB, by rw [F1 199 13 (by omega)]; exact h13⟩
      rw [ee, hu0]
      exact fun i hi => uu_fr hU (fun c k hh => F1 c k (by omega)) hB i (by omega)
    · rw [fa_le] at c
      have i3 := ti_45k (x := u0) (k := x1) (by omega) (by omega)
      refine ok_ck ⟨by omega, by omega⟩ (fun j hj lj => ok_ck ⟨by omega, by omega⟩ (fun j3 hj3 lj3 => ok_nm (fun σ4 e4 => ok_nm (fun v ev => ?_))))
      have eu : v.toInt = x1.toInt + 1 := by rw [ev, ti_add (by omega) (by omega), l1]
      refine ih σ4 τ v (fun c k hc => by rw [e4, up2_ne (by omega)]; exact F1 c k hc) (fun k hk => ?_) (by omega) (by omega)
      by_cases hkj : k = j3
      · rw [e4, hkj]
        unfold up2
        rw [if_pos ⟨rfl, rfl⟩, F1 219 j (by omega), show j = 45 * u0.toInt.toNat + j3 by omega]
      · rw [e4, up2_ne (by omega)]
        exact F2 k (by omega)
theorem z_again (hN : 4294967296 ≤ N) {x1 : Int32} (h : ZM σ g B) (hB : B ≤ B1) (hB9 : B1 ≤ 900000000) : okp (fun (a : Int32) σ1 τ1 => ZN σ1 B1) (B_X12_again_0 N σ τ x1) := by
  unfold B_X12_again_0
  have l0 : (0 : Int32).toInt = 0 := rfl
  have l1 : (1 : Int32).toInt = 1 := rfl
  have l45 : (45 : Int32).toInt = 45 := rfl
  refine ok_nm (fun s1 e1 => ?_)
  have h1 := zm_up h e1 (by omega)
  refine ok_bd (w_B_X12_in_0 hN) (fun r2 σ2 τ2 h2 => ?_)
  obtain ⟨h9, h2⟩ := h2
  subst h9
  have k2 := h2.2
  simp only [Int32.toInt_toInt64, show (0 : Int64).toInt = 0 from rfl, show (2 : Int64).toInt = 2 from rfl] at k2
  refine ok_ite (fun _ => ok_r (zm_n h1 hB)) (fun c2 => ?_)
  rw [fa_eq] at c2
  refine ok_ck ⟨by omega, by omega⟩ (fun j4 hj4 lj4 => ok_ite (fun _ => ok_r (zm_n h1 hB)) (fun c4 => ?_))
  have hV := h1.2.2.2.2.1 j4 lj4 c4
  have ej : j4 = x1.toInt.toNat := by omega
  rw [ej] at hV
  suffices H : ∀ (n : Nat) (σ1 : gI) (τ : gJ) (x2 : Int32), (∀ c k : Nat, c ≠ 206 → σ1 c k = s1 c k) → (∀ k : Nat, (k : Int) < x2.toInt → σ1 206 k = s1 232 (45 * x1.toInt.toNat + k)) → (0 ≤ x2.toInt ∧ x2.toInt ≤ 45) → (46 - x2.toInt).toNat < n → okp (fun (a : Int32) σ1 τ1 => ZN σ1 B1) (H_X12_again_30 N n σ1 τ x1 x2) from H N s1 _ 0 (fun _ _ _ => rfl) (fun k hk => absurd hk (by omega)) (by omega) (by omega)
  intro n
  induction n with
  | zero => intro σ1 τ x2 _ _ _ hm; exact absurd hm (Nat.not_lt_zero _)
  | succ n ih =>
    intro σ1 τ x2 F1 F2 h0 hm
    show okp _ (C_X12_again_30 N (H_X12_again_30 N n) σ1 τ x1 x2)
    unfold C_X12_again_30
    refine ok_ite (fun c => ok_nm (fun s9 e9 => ok_r ?_)) (fun c => ?_)
    · rw [fa_le] at c
      have f9 : ∀ c k : Nat, ¬ (c = 199 ∧ k = 36) → s9 c k = σ1 c k := fun c k hh => by rw [e9]; exact up2_ne (by omega)
      have hv : RV s9 (fun k => s9 206 k) B := rv_fr hV ((f9 199 3 (by omega)).trans (F1 199 3 (by omega))) (fun k => (f9 201 k (by omega)).trans (F1 201 k (by omega))) (fun k hk => (f9 206 k (by omega)).trans (F2 k (by omega))) (Int.le_refl B)
      have q := qb_of h1.1 (by omega) hv (fun c k hh => (f9 c k (by omega)).trans (F1 c k (by omega)))
      have z36 : (s9 199 36).toInt = 0 := by rw [e9]; unfold up2; rw [if_pos ⟨rfl, rfl⟩]; rfl
      refine ⟨gg s9, q.1, by omega, by omega, ?_, ki_fr h1.2.2.2.2.1 (fun c k hh => (f9 c k (by omega)).trans (F1 c k (by omega))) hB, by rw [f9 199 13 (by omega), F1 199 13 (by omega)]; exact h1.2.2.2.2.2⟩
      rw [z36]
      exact fun i hi => absurd hi (by omega)
    · rw [fa_le] at c
      have i3 := ti_45k (x := x1) (k := x2) (by omega) (by omega)
      refine ok_ck ⟨by omega, by omega⟩ (fun j hj lj => ok_ck ⟨by omega, by omega⟩ (fun j3 hj3 lj3 => ok_nm (fun σ4 e4 => ok_nm (fun v ev => ?_))))
      have eu : v.toInt = x2.toInt + 1 := by rw [ev, ti_add (by omega) (by omega), l1]
      refine ih σ4 τ v (fun c k hc => by rw [e4, up2_ne (by omega)]; exact F1 c k hc) (fun k hk => ?_) (by omega) (by omega)
      by_cases hkj : k = j3
      · rw [e4, hkj]
        unfold up2
        rw [if_pos ⟨rfl, rfl⟩, F1 232 j (by omega), show j = 45 * x1.toInt.toNat + j3 by omega]
      · rw [e4, up2_ne (by omega)]
        exact F2 k (by omega)
theorem z_keep (hN : 4294967296 ≤ N) {x1 : Int32} (h : ZM σ g B) (hB : B ≤ B1) (hB9 : B1 ≤ 900000000) : okp (fun (a : Int32) σ1 τ1 => (a = 0 ∨ a = 1) ∧ (a = 1 ↔ 0 ≤ x1.toInt ∧ x1.toInt ≤ 2) ∧ ZN σ1 B1) (B_X12_keep_0 N σ τ x1) := by
  unfold B_X12_keep_0
  have l0 : (0 : Int32).toInt = 0 := rfl
  have l1 : (1 : Int32).toInt = 1 := rfl
  have l45 : (45 : Int32).toInt = 45 := rfl
  refine ok_nm (fun s1 e1 => ?_)
  have h1 := zm_up h e1 (by omega)
  refine ok_bd2 (w_B_X12_in_0 hN) (fun r2 σ2 τ2 q2 h2 => ?_)
  obtain ⟨h9, h2⟩ := h2
  have k2 := h2.2
  simp only [Int32.toInt_toInt64, show (0 : Int64).toInt = 0 from rfl, show (2 : Int64).toInt = 2 from rfl] at k2
  have kb : r2.toInt = 0 → ¬ (0 ≤ x1.toInt ∧ x1.toInt ≤ 2) := by
    intro z hz
    unfold B_X12_in_0 at q2
    have z2 : r2 = 0 := (fa_eq _ _).mpr z
    by_cases c1 : lg_cmp x1.toInt64 0 < 0
    · have := (gx_cl x1.toInt64 0).mp c1
      rw [Int32.toInt_toInt64] at this
      have o : (0 : Int64).toInt = 0 := rfl
      omega
    · rw [if_neg c1] at q2
      by_cases c2 : 0 < lg_cmp x1.toInt64 2
      · have := (gx_cg x1.toInt64 2).mp c2
        rw [Int32.toInt_toInt64] at this
        have o : (2 : Int64).toInt = 2 := rfl
        omega
      · rw [if_neg c2] at q2
        have e := congrArg Prod.fst (Option.some.inj q2)
        rw [z2] at e
        exact absurd (show (1 : Int32) = 0 from e) (by decide)
  subst h9
  refine ok_ite (fun c2 => ok_r ⟨Or.inl rfl, ⟨fun z => absurd z (by decide), fun z => absurd z (kb ((fa_eq _ _).mp c2))⟩, zm_n h1 hB⟩) (fun c2 => ?_)
  rw [fa_eq] at c2
  have hx : 0 ≤ x1.toInt ∧ x1.toInt ≤ 2 := by omega
  refine ok_ck ⟨by omega, by omega⟩ (fun j4 hj4 lj4 => ok_nm (fun s5 e5 => ?_))
  have hV := rv_of h1.1 h1.2.1
  have ej : j4 = x1.toInt.toNat := by omega
  have f5 : ∀ c k : Nat, ¬ (c = 231 ∧ k = j4) → s5 c k = s1 c k := fun c k hh => by rw [e5]; exact up2_ne hh
  suffices H : ∀ (n : Nat) (σ1 : gI) (τ : gJ) (x2 : Int32), (∀ c k : Nat, c ≠ 232 → σ1 c k = s5 c k) → (∀ k : Nat, ¬ (45 * x1.toInt ≤ k ∧ (k : Int) < 45 * x1.toInt + 45) → σ1 232 k = s1 232 k) → (∀ k : Nat, (k : Int) < x2.toInt → σ1 232 (45 * x1.toInt.toNat + k) = s1 206 k) → (0 ≤ x2.toInt ∧ x2.toInt ≤ 45) → (46 - x2.toInt).toNat < n → okp (fun (a : Int32) σ1 τ1 => (a = 0 ∨ a = 1) ∧ (a = 1 ↔ 0 ≤ x1.toInt ∧ x1.toInt ≤ 2) ∧ ZN σ1 B1) (H_X12_keep_28 N n σ1 τ x1 x2) from H N s5 _ 0 (fun _ _ _ => rfl) (fun k _ => f5 232 k (by omega)) (fun k hk => absurd hk (by omega)) (by omega) (by omega)
  intro n
  induction n with
  | zero => intro σ1 τ x2 _ _ _ _ hm; exact absurd hm (Nat.not_lt_zero _)
  | succ n ih =>
    intro σ1 τ x2 F1 F2 F3 h0 hm
    show okp _ (C_X12_keep_28 N (H_X12_keep_28 N n) σ1 τ x1 x2)
    unfold C_X12_keep_28
    refine ok_ite (fun c => ok_r ⟨Or.inr rfl, ⟨fun _ => hx, fun _ => rfl⟩, ?_⟩) (fun c => ?_)
    · rw [fa_le] at c
      have f : ∀ c k : Nat, ¬ (c = 232 ∨ c = 231) → σ1 c k = s1 c k := fun c k hh => (F1 c k (by omega)).trans (f5 c k (by omega))
      have e36 := f 199 36 (by omega)
      refine ⟨g, qb_fr h1.1 (fun c k hh => f c k (by omega)), by have := h1.2.1; omega, by rw [e36]; exact h1.2.2.1, by rw [e36]; exact uu_fr h1.2.2.2.1 (fun c k hh => f c k (by omega)) hB, fun i hi hn => ?_, by rw [f 199 13 (by omega)]; exact h1.2.2.2.2.2⟩
      by_cases hij : i = j4
      · refine rv_fr hV (f 199 3 (by omega)) (fun k => f 201 k (by omega)) (fun k hk => ?_) hB
        rw [hij, ej]
        exact F3 k (by omega)
      · rw [F1 231 i (by omega), f5 231 i (by omega)] at hn
        exact rv_fr (h1.2.2.2.2.1 i hi hn) (f 199 3 (by omega)) (fun k => f 201 k (by omega)) (fun k hk => F2 _ (by omega)) hB
    · rw [fa_le] at c
      have i3 := ti_45k (x := x1) (k := x2) (by omega) (by omega)
      refine ok_ck ⟨by omega, by omega⟩ (fun j hj lj => ok_ck ⟨by omega, by omega⟩ (fun j3 hj3 lj3 => ok_nm (fun σ4 e4 => ok_nm (fun v ev => ?_))))
      have eu : v.toInt = x2.toInt + 1 := by rw [ev, ti_add (by omega) (by omega), l1]
      refine ih σ4 τ v (fun c k hc => by rw [e4, up2_ne (by omega)]; exact F1 c k hc) (fun k hk => by rw [e4, up2_ne (by omega)]; exact F2 k hk) (fun k hk => ?_) (by omega) (by omega)
      by_cases hkj : k = j
      · rw [e4, show 45 * x1.toInt.toNat + k = j3 by omega, hkj]
        unfold up2
        rw [if_pos ⟨rfl, rfl⟩, F1 206 j (by omega), f5 206 j (by omega)]
      · rw [e4, up2_ne (by omega)]
        exact F3 k (by omega)
theorem z_forget (h : ZM σ g B) (hB : B ≤ B1) : okp (fun (a : Int32) σ1 τ1 => ZN σ1 B1) (B_X12_forget_0 N σ τ) := by
  unfold B_X12_forget_0
  refine ok_nm (fun s1 e1 => ok_nm (fun v2 _ => ok_nm (fun s3 e3 => ok_r ?_)))
  have h1 := zm_up h e1 (by omega)
  have hb := h1.2.1
  have hg := qb_rng h1.1
  have f : ∀ c k : Nat, ¬ (c = 199 ∧ k = 52) → s3 c k = s1 c k := fun c k hh => by rw [e3]; exact up2_ne hh
  have z52 : s3 199 52 = 0 := by rw [e3]; unfold up2; rw [if_pos ⟨rfl, rfl⟩]
  have q3 : QB 16 s3 (fun i => if i = 4 then 0 else g i) := by
    obtain ⟨a, b, c, d, e, k, i, j, m⟩ := h1.1
    refine ⟨si_fr a (fun c k h => f c k (by omega)), rj_fr b (fun c k h => f c k (by omega)), rk_fr c (fun c k h => f c k (by omega)), d, by rw [f 199 1 (by omega)]; exact e, ⟨by rw [z52]; decide, fun k hk => ?_⟩, by rw [f 199 46 (by omega)]; exact i, (f 199 3 (by omega)).trans j, z52⟩
    rw [z52] at hk
    have o : (0 : Int32).toInt = 0 := rfl
    omega
  exact zn_q h1 q3 (by show (g 2).toInt ≤ B1; omega) hB (fun c k hh => f c k (by omega))
theorem z_cork (hN : 4294967296 ≤ N) {x1 x2 x3 : Int32} (h : ZM σ g B) (hB : B ≤ B1) : okp (fun (a : Int32) σ1 τ1 => ZN σ1 B1) (B_X12_cork_0 N σ τ x1 x2 x3) := by
  unfold B_X12_cork_0
  have hg := qb_rng h.1
  have l0 : (0 : Int32).toInt = 0 := rfl
  have l1 : (1 : Int32).toInt = 1 := rfl
  have l10 : (10 : Int32).toInt = 10 := rfl
  refine ok_nm (fun s1 e1 => ?_)
  have h1 := zm_up h e1 (by omega)
  refine ok_bd (w_B_X12_isPlace_0 hN h1.1) (fun r2 σ2 τ2 h2 => ?_)
  obtain ⟨h9, h2⟩ := h2
  subst h9
  refine ok_ite (fun _ => ok_r (zm_n h1 hB)) (fun c2 => ?_)
  rw [fa_eq] at c2
  refine ok_bd (w_B_X12_in_0 hN) (fun r4 σ4 τ4 h4 => ?_)
  obtain ⟨h9, h4⟩ := h4
  subst h9
  have k4 := h4.2
  simp only [Int32.toInt_toInt64, show (0 : Int64).toInt = 0 from rfl, show (999 : Int64).toInt = 999 from rfl] at k4
  refine ok_ite (fun _ => ok_r (zm_n h1 hB)) (fun c4 => ?_)
  rw [fa_eq] at c4
  have P : ∀ τ : gJ, okp (fun (a : Int32) σ1 τ1 => ZN σ1 B1) (B_X12_cork_38 N s1 τ x1 x2 x3) := by
    intro τ
    unfold B_X12_cork_38
    have ec := qb_co h1.1
    refine ok_ite (fun _ => ok_r (zm_n h1 hB)) (fun c => ?_)
    rw [fa_eq] at c
    refine ok_ck ⟨by omega, by omega⟩ (fun j2 hj2 lj2 => ok_nm (fun s3 e3 => ?_))
    have g3 : s3 199 52 = s1 199 52 := by rw [e3]; exact up2_ne (by omega)
    rw [g3]
    refine ok_ck ⟨by omega, by omega⟩ (fun j4 hj4 lj4 => ok_nm (fun s5 e5 => ?_))
    have g5 : s5 199 52 = s1 199 52 := by rw [e5, up2_ne (by omega)]; exact g3
    rw [g5]
    refine ok_ck ⟨by omega, by omega⟩ (fun j6 hj6 lj6 => ok_nm (fun s7 e7 => ok_nm (fun s8 e8 => ok_r ?_)))
    have g7 : s7 199 52 = s1 199 52 := by rw [e7, up2_ne (by omega)]; exact g5
    have f : ∀ c k : Nat, ¬ (c = 226 ∨ c = 227 ∨ c = 228 ∨ (c = 199 ∧ k = 52)) → s8 c k = s1 c k := fun c k hh => by rw [e8, up2_ne (by omega), e7, up2_ne (by omega), e5, up2_ne (by omega), e3, up2_ne (by omega)]
    have z52 : s8 199 52 = s1 199 52 + 1 := by rw [e8]; unfold up2; rw [if_pos ⟨rfl, rfl⟩, g7]
    have zi : (s8 199 52).toInt = (s1 199 52).toInt + 1 := by rw [z52, ti_add (by omega) (by omega), l1]
    have w6 : ∀ k : Nat, s8 226 k = if k = j2 then x1 else s1 226 k := fun k => by
      rw [e8, up2_ne (by omega), e7, up2_ne (by omega), e5, up2_ne (by omega), e3]
      unfold up2
      by_cases hk : k = j2
      · rw [if_pos ⟨rfl, hk⟩, if_pos hk]
      · rw [if_neg (by omega), if_neg hk]
    have w7 : ∀ k : Nat, s8 227 k = if k = j4 then x2 else s1 227 k := fun k => by
      rw [e8, up2_ne (by omega), e7, up2_ne (by omega), e5]
      unfold up2
      by_cases hk : k = j4
      · rw [if_pos ⟨rfl, hk⟩, if_pos hk]
      · rw [if_neg (by omega), if_neg hk]; rw [e3]; exact up2_ne (by omega)
    have q8 : QB 16 s8 (fun i => if i = 4 then s8 199 52 else g i) := by
      have pl := qb_pl h1.1
      obtain ⟨a, b, c, d, e, k, i, j, m⟩ := h1.1
      have e3' := f 199 3 (by omega)
      refine ⟨si_fr a (fun c k h => f c k (by omega)), rj_fr b (fun c k h => f c k (by omega)), rk_fr c (fun c k h => f c k (by omega)), d, by rw [f 199 1 (by omega)]; exact e, ⟨by omega, fun k9 hk9 => ?_⟩, by rw [f 199 46 (by omega)]; exact i, e3'.trans j, rfl⟩
      rw [w6, w7, e3']
      by_cases hk : k9 = j2
      · rw [if_pos hk, if_pos (by omega)]
        omega
      · rw [if_neg hk, if_neg (by omega)]
        exact k.2 k9 (by omega)
    have hb := h1.2.1
    exact zn_q h1 q8 (by show (g 2).toInt ≤ B1; omega) hB (fun c k hh => f c k (by omega))
  refine ok_ite (fun _ => P _) (fun _ => ?_)
  refine ok_bd (w_B_X12_isKitchen_0 hN h1.1) (fun r7 σ7 τ7 h7 => ?_)
  obtain ⟨h9, h7⟩ := h7
  subst h9
  exact ok_ite (fun _ => ok_r (zm_n h1 hB)) (fun _ => P _)
theorem z_row (hN : 4294967296 ≤ N) {x1 : Int32} (h : ZM σ g B) (hB : B ≤ B1) : okp (fun (a : Int64) σ1 τ1 => ZN σ1 B1) (B_X12_row_0 N σ τ x1) := by
  unfold B_X12_row_0
  have l1 : (1 : Int32).toInt = 1 := rfl
  have l0 : (0 : Int32).toInt = 0 := rfl
  refine ok_nm (fun s1 e1 => ?_)
  have h1 := zm_up h e1 (by omega)
  have hr := h1.1.2.2.2.2.1
  have es := ti_sub (a := s1 199 1) (b := 1) (by omega) (by omega)
  refine ok_bd (w_B_X12_in_0 hN) (fun r4 σ4 τ4 h4 => ?_)
  obtain ⟨h9, h4⟩ := h4
  subst h9
  have k4 := h4.2
  simp only [Int32.toInt_toInt64, show (0 : Int64).toInt = 0 from rfl] at k4
  refine ok_ite (fun _ => ok_nm (fun s5 e5 => ok_r (zm_n (zm_up h1 e5 (by omega)) hB))) (fun c => ?_)
  rw [fa_eq] at c
  exact ok_ck ⟨by omega, by omega⟩ (fun j hj lj => ok_r (zm_n h1 hB))
theorem z_order (hN : 4294967296 ≤ N) {x1 x2 : Int32} (h : ZM σ g B) (hB : B ≤ B1) : okp (fun (a : Int32) σ1 τ1 => QB 16 σ1 g) (B_X12_order_0 N σ τ x1 x2) := by
  unfold B_X12_order_0
  have l0 : (0 : Int32).toInt = 0 := rfl
  have l1 : (1 : Int32).toInt = 1 := rfl
  have l4 : (4 : Int32).toInt = 4 := rfl
  have l5 : (5 : Int32).toInt = 5 := rfl
  have l9 : (9 : Int32).toInt = 9 := rfl
  have l18 : (18 : Int32).toInt = 18 := rfl
  have hg := qb_rng h.1
  refine ok_nm (fun s1 e1 => ?_)
  have q1 := qb_up h.1 e1 (by omega)
  refine ok_bd (w_B_X12_isThing_0 hN q1) (fun r2 σ2 τ2 h2 => ?_)
  obtain ⟨h9, h2⟩ := h2
  subst h9
  refine ok_ite (fun _ => ok_r q1) (fun c2 => ?_)
  rw [fa_eq] at c2
  refine ok_bd (w_B_X12_isThing_0 hN q1) (fun r4 σ4 τ4 h4 => ?_)
  obtain ⟨h9, h4⟩ := h4
  subst h9
  refine ok_ite (fun _ => ok_r q1) (fun c4 => ok_ite (fun _ => ok_r q1) (fun _ => ?_))
  rw [fa_eq] at c4
  have i14 := ti_7k (x := x1) (k := 4) (by omega) (by omega)
  have i15 := ti_7k (x := x1) (k := 5) (by omega) (by omega)
  have i24 := ti_7k (x := x2) (k := 4) (by omega) (by omega)
  have i25 := ti_7k (x := x2) (k := 5) (by omega) (by omega)
  refine ok_ck ⟨by omega, by omega⟩ (fun j7 hj7 lj7 => ok_ite (fun _ => ok_ck ⟨by omega, by omega⟩ (fun j9 hj9 lj9 => ok_ite (fun _ => ok_ck ⟨by omega, by omega⟩ (fun j11 hj11 lj11 => ok_nm (fun v12 _ => ok_ck ⟨by omega, by omega⟩ (fun j13 hj13 lj13 => ok_nm (fun v14 _ => ?_))))) (fun _ => ok_r q1))) (fun _ => ok_r q1))
  have P222 : ∀ (σ : gI) (τ : gJ) (x3 x4 x5 x6 x7 : Int32), QB 16 σ g → okp (fun (a : Int32) σ1 τ1 => QB 16 σ1 g) (B_X12_order_222 N σ τ x1 x2 x3 x4 x5 x6 x7) := by
    intro σ τ x3 x4 x5 x6 x7 hQ
    unfold B_X12_order_222
    refine ok_ck ⟨by omega, by omega⟩ (fun j1 hj1 lj1 => ok_nm (fun s2 e2 => ok_ck ⟨by omega, by omega⟩ (fun j3 hj3 lj3 => ok_nm (fun s4 e4 => ?_))))
    have q4 := qb_own (qb_own hQ e2 (by omega)) e4 (by omega)
    refine ok_ite (fun _ => ok_nm (fun s6 e6 => ?_)) (fun _ => ok_r q4)
    exact ok_bd (w_B_X12_enters_0 hN (qb_r0 q4 e6) (by omega)) (fun _ σ7 τ7 h7 => ok_bd (w_B_X12_enters_0 hN h7.1 (by omega)) (fun _ σ8 τ8 h8 => ok_bd (w_B_X12_enters_0 hN h8.1 (by omega)) (fun _ σ9 τ9 h9 => ok_r (qb_w h9.1 (by omega)))))
  suffices H : ∀ (n : Nat) (σ : gI) (τ : gJ) (x3 x4 x5 x6 x7 x8 : Int32), QB 16 σ g → (0 ≤ x8.toInt ∧ x8.toInt ≤ 19) → (20 - x8.toInt).toNat < n → okp (fun (a : Int32) σ1 τ1 => QB 16 σ1 g) (H_X12_order_94 N n σ τ x1 x2 x3 x4 x5 x6 x7 x8) from H N _ _ _ _ _ _ _ _ q1 (by omega) (by omega)
  intro n
  induction n with
  | zero => intro σ τ x3 x4 x5 x6 x7 x8 _ _ hm; exact absurd hm (Nat.not_lt_zero _)
  | succ n ih =>
    intro σ τ x3 x4 x5 x6 x7 x8 hQ h8 hm
    show okp _ (C_X12_order_94 N (H_X12_order_94 N n) σ τ x1 x2 x3 x4 x5 x6 x7 x8)
    unfold C_X12_order_94
    refine ok_ite (fun _ => P222 _ _ _ _ _ _ _ hQ) (fun c => ok_ite (fun _ => P222 _ _ _ _ _ _ _ hQ) (fun _ => ok_nm (fun v3 e3 => ?_)))
    rw [fa_lt] at c
    have es := ti_sub (a := x8) (b := 9) (by omega) (by omega)
    have em := imax_c 0 (x8 - 9)
    rw [← e3] at em
    suffices H2 : ∀ (n2 : Nat) (σ : gI) (τ : gJ) (x5 x6 x7 x9 : Int32), QB 16 σ g → (0 ≤ x9.toInt ∧ x9.toInt ≤ 18) → (20 - x9.toInt).toNat < n2 → okp (fun (a : Int32) σ1 τ1 => QB 16 σ1 g) (H_X12_order_117 N (H_X12_order_94 N n) n2 σ τ x1 x2 x3 x4 x5 x6 x7 x8 x9) from H2 N _ _ _ _ _ _ hQ (by omega) (by omega)
    intro n2
    induction n2 with
    | zero => intro σ τ x5 x6 x7 x9 _ _ hm; exact absurd hm (Nat.not_lt_zero _)
    | succ n2 ih2 =>
      intro σ τ x5 x6 x7 x9 hQ h9 hm2
      show okp _ (C_X12_order_117 N (H_X12_order_94 N n) (H_X12_order_117 N (H_X12_order_94 N n) n2) σ τ x1 x2 x3 x4 x5 x6 x7 x8 x9)
      unfold C_X12_order_117
      refine ok_ite (fun _ => ok_nm (fun v2 e2 => ?_)) (fun c9 => ?_)
      · have eu : v2.toInt = x8.toInt + 1 := by rw [e2, ti_add (by omega) (by omega), l1]
        exact ih _ _ _ _ _ _ _ _ hQ (by omega) (by omega)
      · rw [fa_lt] at c9
        have en := imin_c 9 x8
        refine ok_ck ⟨by omega, by omega⟩ (fun j1 hj1 lj1 => ok_nm (fun s2 e2 => ok_ck ⟨by omega, by omega⟩ (fun j3 hj3 lj3 => ok_nm (fun s4 e4 => ?_))))
        have q4 := qb_own (qb_own hQ e2 (by omega)) e4 (by omega)
        refine ok_bd (w_B_X12_savedAfter_0 hN q4) (fun r7 σ7 τ7 h7 => ok_ite (fun _ => ok_nm (fun v e => ?_)) (fun _ => ok_ite (fun _ => ok_nm (fun _ _ => ok_nm (fun v e => ?_))) (fun _ => ok_nm (fun _ _ => ok_nm (fun v e => ?_)))))
        · have eu : v.toInt = x9.toInt + 1 := by rw [e, ti_add (by omega) (by omega), l1]
          exact ih2 _ _ _ _ _ _ h7 (by omega) (by omega)
        · have eu : v.toInt = x9.toInt + 1 := by rw [e, ti_add (by omega) (by omega), l1]
          exact ih2 _ _ _ _ _ _ h7 (by omega) (by omega)
        · have eu : v.toInt = x9.toInt + 1 := by rw [e, ti_add (by omega) (by omega), l1]
          exact ih2 _ _ _ _ _ _ h7 (by omega) (by omega)
end ZS2
