section TOWN
variable {A T B w m : Int} {g : Nat → Int32} {σ : gI} {τ : gJ} {N : Nat}
def MN (σ : gI) (w : Int) : Prop := ∀ k : Nat, (k : Int) < w → 0 ≤ (σ 213 k).toInt
def TP (σ : gI) (m w : Int) : Prop := ∀ p : Nat, (p : Int) < m → (σ 209 p ≠ 6 → ∃ k : Nat, (k : Int) < w ∧ σ 213 k = σ 210 p) ∧ (σ 209 p = 1 → ∃ k : Nat, (k : Int) < w ∧ σ 213 k = σ 211 p) ∧ (σ 209 p = 5 → σ 212 p ≠ 0)
theorem ok_sbx {α : Type} {P : α → gI → gJ → Prop} {x : Int32} {k : Option (α × gI × gJ)} (h : 0 ≤ x.toInt ∧ x.toInt ≤ 9) (hk : okp P k) : okp P (sbx x k) := by
  have l0 : (0 : Int32).toInt = 0 := rfl
  have l9 : (9 : Int32).toInt = 9 := rfl
  unfold sbx
  rw [if_pos ⟨(fa_le _ _).mpr (by omega), (fa_le _ _).mpr (by omega)⟩]
  exact hk
theorem p_readsLetter (hN : 4294967296 ≤ N) (h : AP σ A T) (hw : (σ 199 24).toInt = w) (h0 : 0 ≤ w ∧ w < 80) : okp (fun (a : Int32) σ1 τ1 => (∀ c k : Nat, ¬ (c = 213 ∨ c = 214 ∨ (c = 199 ∧ (k = 14 ∨ k = 24))) → σ1 c k = σ c k) ∧ (∀ k : Nat, (k : Int) < w → σ1 213 k = σ 213 k) ∧ ((a.toInt < 0 ∧ AP σ1 A T ∧ (σ1 199 24).toInt = w) ∨ (0 ≤ a.toInt ∧ AP σ1 (A + 1) T ∧ (σ1 199 24).toInt = w + 1 ∧ σ1 213 w.toNat = a))) (B_X12_readsLetter_0 N σ τ) := by
  unfold B_X12_readsLetter_0
  have l0 : (0 : Int32).toInt = 0 := rfl
  have l1 : (1 : Int32).toInt = 1 := rfl
  refine ok_bd (p_takesOf hN (by decide) h) (fun r1 σ1 τ1 h1 => ?_)
  obtain ⟨f1, b1, h1⟩ := h1
  have w1 : (σ1 199 24).toInt = w := by rw [f1 199 24 (by omega)]; exact hw
  refine ok_ite (fun c => ?_) (fun c => ?_)
  · rw [fa_lt] at c
    rcases h1 with z | z
    · exact ok_r ⟨fun c k hh => f1 c k (by omega), fun k hk => f1 213 k (by omega), Or.inl ⟨by omega, z.2, w1⟩⟩
    · omega
  · rw [fa_lt] at c
    refine ok_ck ⟨by omega, by omega⟩ (fun j3 hj3 lj3 => ok_nm (fun s4 e4 => ?_))
    have g4 : s4 199 24 = σ1 199 24 := by rw [e4]; exact up2_ne (by omega)
    rw [g4]
    refine ok_ck ⟨by omega, by omega⟩ (fun j5 hj5 lj5 => ok_nm (fun s6 e6 => ok_nm (fun s7 e7 => ok_r ?_)))
    have g6 : s6 199 24 = σ1 199 24 := by rw [e6, up2_ne (by omega)]; exact g4
    have f7 : ∀ c k : Nat, ¬ ((c = 213 ∧ k = j3) ∨ c = 214 ∨ (c = 199 ∧ k = 24)) → s7 c k = σ1 c k := fun c k hh => by rw [e7, up2_ne (by omega), e6, up2_ne (by omega), e4, up2_ne (by omega)]
    have z24 : (s7 199 24).toInt = w + 1 := by rw [e7]; unfold up2; rw [if_pos ⟨rfl, rfl⟩, g6, ti_add (by omega) (by omega), l1]; omega
    have z13 : s7 213 j3 = r1 := by rw [e7, up2_ne (by omega), e6, up2_ne (by omega), e4]; unfold up2; rw [if_pos ⟨rfl, rfl⟩]
    rcases h1 with z | z
    · omega
    · exact ⟨fun c k hh => (f7 c k (by omega)).trans (f1 c k (by omega)), fun k hk => (f7 213 k (by omega)).trans (f1 213 k (by omega)), Or.inr ⟨z.1, ap_fr z.2 (fun k hk => f7 199 k (by omega)), z24, by rw [show w.toNat = j3 by omega]; exact z13⟩⟩
theorem len11 (n : Nat) : ((sb_11.drop n).length : Int) = ((10 - n : Nat) : Int) := by rw [List.length_drop]; rfl
theorem p_place162 (hN : 4294967296 ≤ N) {x1 x2 y0 : Int32} (h : AP σ A T) (hx : 0 ≤ x1.toInt ∧ x1.toInt < 12) (hy : 0 ≤ y0.toInt ∧ y0.toInt ≤ 2) (h5 : x2 = 5 → 1 ≤ y0.toInt) (h4 : x2 = 4 → y0.toInt = 0) : okp (fun (a : Int32) σ1 τ1 => (∀ c k : Nat, ¬ ((c = 212 ∧ k = x1.toInt.toNat) ∨ (c = 199 ∧ k = 14)) → σ1 c k = σ c k) ∧ (a = 0 ∨ a = 1) ∧ (a = 1 → x2 = 5 → σ1 212 x1.toInt.toNat ≠ 0) ∧ ∃ A1 : Int, A ≤ A1 ∧ AP σ1 A1 T) (B_X12_readsPlace_162 N σ τ x1 x2 y0) := by
  unfold B_X12_readsPlace_162
  have l0 : (0 : Int32).toInt = 0 := rfl
  have ny := nat_of_toInt hy.1
  have ln := len11 y0.toNatClampNeg
  refine ok_sbx (by omega) (ok_bd (p_takesOf hN (by omega) h) (fun r2 σ2 τ2 h2 => ?_))
  obtain ⟨f2, b2, h2⟩ := h2
  refine ok_ite (fun c => ?_) (fun c => ?_)
  · rw [fa_le] at c
    have a2 : AP σ2 (A + 1) T := by
      rcases h2 with z | z
      · omega
      · exact z.2
    refine ok_ck ⟨by omega, by omega⟩ (fun j4 hj4 lj4 => ok_nm (fun s5 e5 => ?_))
    have ej : j4 = x1.toInt.toNat := by omega
    have f5 : ∀ c k : Nat, ¬ (c = 212 ∧ k = x1.toInt.toNat) → s5 c k = σ2 c k := fun c k hh => by rw [e5]; exact up2_ne (by omega)
    have w5 : s5 212 x1.toInt.toNat = r2 + y0 := by rw [e5, ← ej]; unfold up2; rw [if_pos ⟨rfl, rfl⟩]
    have a5 : AP s5 (A + 1) T := ap_fr a2 (fun k hk => f5 199 k (by omega))
    refine ok_ite (fun c4 => ?_) (fun c4 => ok_r ⟨fun c k hh => (f5 c k (by omega)).trans (f2 c k (by omega)), Or.inr rfl, fun _ z => ?_, A + 1, by omega, a5⟩)
    · have y00 := h4 c4
      have nr := nat_of_toInt (i := r2) (by omega)
      have ln2 := len11 r2.toNatClampNeg
      refine ok_sbx (by omega) (ok_bd (p_takesOf hN (by omega) a5) (fun r8 σ8 τ8 h8 => ?_))
      obtain ⟨f8, b8, h8⟩ := h8
      have a8 : ∃ A1 : Int, A ≤ A1 ∧ AP σ8 A1 T := by
        rcases h8 with z | z
        · exact ⟨A + 1, by omega, z.2⟩
        · exact ⟨A + 1 + 1, by omega, z.2⟩
      obtain ⟨A8, k8, a8⟩ := a8
      have n5 : ¬ x2 = 5 := fun z => by rw [z] at c4; exact absurd c4 (by decide)
      refine ok_ite (fun _ => ok_nm (fun s10 e10 => ok_r ?_)) (fun _ => ok_r ⟨fun c k hh => (f8 c k (by omega)).trans ((f5 c k (by omega)).trans (f2 c k (by omega))), Or.inl rfl, fun z => absurd z (by decide), A8, k8, a8⟩)
      have f10 : ∀ c k : Nat, ¬ (c = 212 ∧ k = x1.toInt.toNat) → s10 c k = σ8 c k := fun c k hh => by rw [e10]; exact up2_ne (by omega)
      exact ⟨fun c k hh => (f10 c k (by omega)).trans ((f8 c k (by omega)).trans ((f5 c k (by omega)).trans (f2 c k (by omega)))), Or.inr rfl, fun _ z => absurd z n5, A8, k8, ap_fr a8 (fun k hk => f10 199 k (by omega))⟩
    · rw [w5]
      have := h5 z
      have e := ti_add (a := r2) (b := y0) (by omega) (by omega)
      intro q
      rw [q] at e
      omega
  · rw [fa_le] at c
    have a2 : AP σ2 A T := by
      rcases h2 with z | z
      · exact z.2
      · omega
    exact ok_r ⟨fun c k hh => f2 c k (by omega), Or.inl rfl, fun z => absurd z (by decide), A, by omega, a2⟩
/-- what readsPlace tells -/
def PL (σ : gI) (A T m : Int) : Int32 → gI → gJ → Prop := fun a σ1 _ => (∀ c k : Nat, ¬ ((209 ≤ c ∧ c ≤ 214) ∨ (c = 199 ∧ (k = 14 ∨ k = 21 ∨ k = 24))) → σ1 c k = σ c k) ∧ (a = 0 ∨ a = 1) ∧ ∃ A1 w1 m1 : Int, AP σ1 A1 T ∧ A ≤ A1 ∧ (σ1 199 24).toInt = w1 ∧ (0 ≤ w1 ∧ w1 ≤ A1) ∧ MN σ1 w1 ∧ (σ1 199 21).toInt = m1 ∧ (0 ≤ m1 ∧ m1 ≤ 12) ∧ (a = 1 → m1 = m + 1 ∧ TP σ1 (m + 1) w1)
theorem p_readsPlace (hN : 4294967296 ≤ N) (h : AP σ A T) (hT : T ≤ 76) (hw : (σ 199 24).toInt = w) (h0 : 0 ≤ w ∧ w ≤ A) (hM : MN σ w) (hm : (σ 199 21).toInt = m) (hm0 : 0 ≤ m ∧ m ≤ 12) (hP : TP σ m w) : okp (PL σ A T m) (B_X12_readsPlace_0 N σ τ) := by
  unfold B_X12_readsPlace_0
  have hab := ap_b h
  have l0 : (0 : Int32).toInt = 0 := rfl
  have l1 : (1 : Int32).toInt = 1 := rfl
  have l2 : (2 : Int32).toInt = 2 := rfl
  have l12 : (12 : Int32).toInt = 12 := rfl
  refine ok_nm (fun v1 e1 => ?_)
  have ev : v1.toInt = m := by rw [e1]; exact hm
  refine ok_ite (fun _ => ok_r ⟨fun _ _ _ => rfl, Or.inl rfl, A, w, m, h, by omega, hw, h0, hM, hm, hm0, fun z => absurd z (by decide)⟩) (fun c1 => ?_)
  rw [fa_eq] at c1
  refine ok_bd (p_takesOf hN (by decide) h) (fun r3 σ3 τ3 h3 => ?_)
  obtain ⟨f3, b3, h3⟩ := h3
  have w3 : (σ3 199 24).toInt = w := by rw [f3 199 24 (by omega)]; exact hw
  have m3 : (σ3 199 21).toInt = m := by rw [f3 199 21 (by omega)]; exact hm
  have M3 : MN σ3 w := fun k hk => by rw [f3 213 k (by omega)]; exact hM k hk
  refine ok_ite (fun c3 => ?_) (fun c3 => ?_)
  · rw [fa_le] at c3
    have a3 : AP σ3 (A + 1) T := by
      rcases h3 with z | z
      · omega
      · exact z.2
    have hab3 := ap_b a3
    refine ok_ck ⟨by omega, by omega⟩ (fun j5 hj5 lj5 => ok_nm (fun s6 e6 => ok_nm (fun s7 e7 => ok_nm (fun s8 e8 => ok_nm (fun s9 e9 => ok_nm (fun s10 e10 => ?_))))))
    have f10 : ∀ c k : Nat, ¬ ((209 ≤ c ∧ c ≤ 212 ∧ k = j5) ∨ (c = 199 ∧ k = 21)) → s10 c k = σ3 c k := fun c k hh => by rw [e10, up2_ne (by omega), e9, up2_ne (by omega), e8, up2_ne (by omega), e7, up2_ne (by omega), e6, up2_ne (by omega)]
    have g9 : s9 199 21 = σ3 199 21 := by rw [e9, up2_ne (by omega), e8, up2_ne (by omega), e7, up2_ne (by omega), e6, up2_ne (by omega)]
    have m10 : (s10 199 21).toInt = m + 1 := by rw [e10]; unfold up2; rw [if_pos ⟨rfl, rfl⟩, g9, ti_add (by omega) (by omega), l1]; omega
    have k10 : s10 209 j5 = r3 := by rw [e10, up2_ne (by omega), e9, up2_ne (by omega), e8, up2_ne (by omega), e7, up2_ne (by omega), e6]; unfold up2; rw [if_pos ⟨rfl, rfl⟩]
    have a10 : AP s10 (A + 1) T := ap_fr a3 (fun k hk => f10 199 k (by omega))
    have w10 : (s10 199 24).toInt = w := by rw [f10 199 24 (by omega)]; exact w3
    have F10 : ∀ c k : Nat, ¬ ((209 ≤ c ∧ c ≤ 212 ∧ k = j5) ∨ (c = 199 ∧ (k = 14 ∨ k = 21))) → s10 c k = σ c k := fun c k hh => (f10 c k (by omega)).trans (f3 c k (by omega))
    -- the end of a place: what stands there then
    have fin : ∀ (σ' : gI) (τ' : gJ) (A' w' : Int), (∀ c k : Nat, ¬ ((210 ≤ c ∧ c ≤ 212 ∧ k = j5) ∨ c = 213 ∨ c = 214 ∨ (c = 199 ∧ (k = 14 ∨ k = 24))) → σ' c k = s10 c k) → (∀ k : Nat, (k : Int) < w → σ' 213 k = σ 213 k) → AP σ' A' T → A ≤ A' → (σ' 199 24).toInt = w' → (w ≤ w' ∧ w' ≤ A') → MN σ' w' → (r3 ≠ 6 → ∃ k : Nat, (k : Int) < w' ∧ σ' 213 k = σ' 210 j5) → (r3 = 1 → ∃ k : Nat, (k : Int) < w' ∧ σ' 213 k = σ' 211 j5) → (r3 = 5 → σ' 212 j5 ≠ 0) → PL σ A T m 1 σ' τ' := by
      intro σ' τ' A' w' f' p' a' kA ww kw MM t1 t2 t3
      refine ⟨fun c k hh => (f' c k (by omega)).trans (F10 c k (by omega)), Or.inr rfl, A', w', m + 1, a', kA, ww, by omega, MM, by rw [f' 199 21 (by omega)]; exact m10, by omega, fun _ => ⟨rfl, fun p hp => ?_⟩⟩
      by_cases hpj : p = j5
      · rw [hpj, f' 209 j5 (by omega), k10]
        exact ⟨t1, t2, t3⟩
      · rw [f' 209 p (by omega), f' 210 p (by omega), f' 211 p (by omega), f' 212 p (by omega), F10 209 p (by omega), F10 210 p (by omega), F10 211 p (by omega), F10 212 p (by omega)]
        have hq := hP p (by omega)
        refine ⟨fun z => ?_, fun z => ?_, hq.2.2⟩
        · obtain ⟨k, kk1, kk2⟩ := hq.1 z
          exact ⟨k, by omega, by rw [p' k kk1]; exact kk2⟩
        · obtain ⟨k, kk1, kk2⟩ := hq.2.1 z
          exact ⟨k, by omega, by rw [p' k kk1]; exact kk2⟩
    -- the end of one that fails
    have bad : ∀ (σ' : gI) (τ' : gJ) (A' w' : Int), (∀ c k : Nat, ¬ ((210 ≤ c ∧ c ≤ 212 ∧ k = j5) ∨ c = 213 ∨ c = 214 ∨ (c = 199 ∧ (k = 14 ∨ k = 24))) → σ' c k = s10 c k) → AP σ' A' T → A ≤ A' → (σ' 199 24).toInt = w' → (w ≤ w' ∧ w' ≤ A') → MN σ' w' → PL σ A T m 0 σ' τ' := by
      intro σ' τ' A' w' f' a' kA ww kw MM
      exact ⟨fun c k hh => (f' c k (by omega)).trans (F10 c k (by omega)), Or.inl rfl, A', w', m + 1, a', kA, ww, by omega, MM, by rw [f' 199 21 (by omega)]; exact m10, by omega, fun z => absurd z (by decide)⟩
    have M10 : MN s10 w := fun k hk => by rw [f10 213 k (by omega)]; exact M3 k hk
    refine ok_ite (fun c6 => ok_r (fin s10 τ3 (A + 1) w (fun _ _ _ => rfl) (fun k hk => F10 213 k (by omega)) a10 (by omega) w10 (by omega) M10 (fun z => absurd c6 z) (fun z => by rw [z] at c6; exact absurd c6 (by decide)) (fun z => by rw [z] at c6; exact absurd c6 (by decide)))) (fun c6 => ?_)
    refine ok_bd (p_readsLetter hN a10 w10 (by omega)) (fun r12 σ12 τ12 h12 => ok_nm (fun s13 e13 => ?_))
    obtain ⟨f12, p12, h12⟩ := h12
    have f13 : ∀ c k : Nat, ¬ (c = 210 ∧ k = j5) → s13 c k = σ12 c k := fun c k hh => by rw [e13]; exact up2_ne hh
    have z13 : s13 210 j5 = r12 := by rw [e13]; unfold up2; rw [if_pos ⟨rfl, rfl⟩]
    have F13 : ∀ c k : Nat, ¬ ((210 ≤ c ∧ c ≤ 212 ∧ k = j5) ∨ c = 213 ∨ c = 214 ∨ (c = 199 ∧ (k = 14 ∨ k = 24))) → s13 c k = s10 c k := fun c k hh => (f13 c k (by omega)).trans (f12 c k (by omega))
    have P13 : ∀ k : Nat, (k : Int) < w → s13 213 k = σ 213 k := fun k hk => (f13 213 k (by omega)).trans ((p12 k hk).trans (F10 213 k (by omega)))
    rw [z13]
    refine ok_ite (fun c13 => ?_) (fun c13 => ?_)
    · rw [fa_lt] at c13
      refine ok_ite (fun _ => ok_r ?_) (fun z => absurd ((fa_lt _ _).mpr c13) z)
      rcases h12 with z | z
      · exact bad s13 τ12 (A + 1) w F13 (ap_fr z.2.1 (fun k hk => f13 199 k (by omega))) (by omega) (by rw [f13 199 24 (by omega)]; exact z.2.2) (by omega) (fun k hk => by rw [P13 k hk]; exact hM k hk)
      · omega
    · have c13' := c13
      rw [fa_lt] at c13
      have z12 : 0 ≤ r12.toInt ∧ AP σ12 (A + 1 + 1) T ∧ (σ12 199 24).toInt = w + 1 ∧ σ12 213 w.toNat = r12 := by
        rcases h12 with z | z
        · omega
        · exact z
      obtain ⟨_, a12, w12, q12⟩ := z12
      have a13 : AP s13 (A + 1 + 1) T := ap_fr a12 (fun k hk => f13 199 k (by omega))
      have w13 : (s13 199 24).toInt = w + 1 := by rw [f13 199 24 (by omega)]; exact w12
      have q13 : s13 213 w.toNat = r12 := by rw [f13 213 _ (by omega)]; exact q12
      have M13 : MN s13 (w + 1) := fun k hk => by
        by_cases hkw : (k : Int) < w
        · rw [P13 k hkw]; exact hM k hkw
        · rw [show k = w.toNat by omega, q13]; omega
      have hab13 := ap_b a13
      have E13 : ∃ k : Nat, (k : Int) < w + 1 ∧ s13 213 k = s13 210 j5 := ⟨w.toNat, by omega, by rw [q13, z13]⟩
      refine ok_ite (fun c0 => ok_ite (fun z => absurd z c13') (fun _ => ok_r (fin s13 τ12 (A + 1 + 1) (w + 1) F13 P13 a13 (by omega) w13 (by omega) M13 (fun _ => E13) (fun z => by rw [z] at c0; exact absurd c0 (by decide)) (fun z => by rw [z] at c0; exact absurd c0 (by decide))))) (fun c0 => ?_)
      refine ok_ite (fun c20 => ?_) (fun c20 => ?_)
      · refine ok_bd (p_readsLetter hN a13 w13 (by omega)) (fun r20 σ20 τ20 h20 => ok_nm (fun s21 e21 => ?_))
        obtain ⟨f20, p20, h20⟩ := h20
        have f21 : ∀ c k : Nat, ¬ (c = 211 ∧ k = j5) → s21 c k = σ20 c k := fun c k hh => by rw [e21]; exact up2_ne hh
        have z21 : s21 211 j5 = r20 := by rw [e21]; unfold up2; rw [if_pos ⟨rfl, rfl⟩]
        have F21 : ∀ c k : Nat, ¬ ((210 ≤ c ∧ c ≤ 212 ∧ k = j5) ∨ c = 213 ∨ c = 214 ∨ (c = 199 ∧ (k = 14 ∨ k = 24))) → s21 c k = s10 c k := fun c k hh => (f21 c k (by omega)).trans ((f20 c k (by omega)).trans (F13 c k hh))
        have P21 : ∀ k : Nat, (k : Int) < w + 1 → s21 213 k = s13 213 k := fun k hk => (f21 213 k (by omega)).trans (p20 k hk)
        rw [z21]
        refine ok_ite (fun c21 => ?_) (fun c21 => ?_)
        · rw [fa_lt] at c21
          rcases h20 with z | z
          · exact ok_r (bad s21 τ20 (A + 1 + 1) (w + 1) F21 (ap_fr z.2.1 (fun k hk => f21 199 k (by omega))) (by omega) (by rw [f21 199 24 (by omega)]; exact z.2.2) (by omega) (fun k hk => by rw [P21 k hk]; exact M13 k hk))
          · omega
        · rw [fa_lt] at c21
          have z20 : 0 ≤ r20.toInt ∧ AP σ20 (A + 1 + 1 + 1) T ∧ (σ20 199 24).toInt = w + 1 + 1 ∧ σ20 213 (w + 1).toNat = r20 := by
            rcases h20 with z | z
            · omega
            · exact z
          obtain ⟨_, a20, w20, q20⟩ := z20
          have q21 : s21 213 (w + 1).toNat = r20 := by rw [f21 213 _ (by omega)]; exact q20
          refine ok_r (fin s21 τ20 (A + 1 + 1 + 1) (w + 1 + 1) F21 (fun k hk => (P21 k (by omega)).trans (P13 k hk)) (ap_fr a20 (fun k hk => f21 199 k (by omega))) (by omega) (by rw [f21 199 24 (by omega)]; exact w20) (by omega) (fun k hk => ?_) (fun _ => ?_) (fun _ => ⟨(w + 1).toNat, by omega, by rw [q21, z21]⟩) (fun z => by rw [z] at c20; exact absurd c20 (by decide)))
          · by_cases hkw : (k : Int) < w + 1
            · rw [P21 k hkw]; exact M13 k hkw
            · rw [show k = (w + 1).toNat by omega, q21]; omega
          · obtain ⟨k, kk1, kk2⟩ := E13
            exact ⟨k, by omega, by rw [P21 k kk1, kk2, f21 210 j5 (by omega), f20 210 j5 (by omega)]⟩
      · have last : ∀ y0 : Int32, (0 ≤ y0.toInt ∧ y0.toInt ≤ 2) → (r3 = 5 → 1 ≤ y0.toInt) → (r3 = 4 → y0.toInt = 0) → okp (PL σ A T m) (B_X12_readsPlace_162 N s13 τ12 v1 r3 y0) := by
          intro y0 hy hy5 hy4
          refine ok_mono (fun a σ9 τ9 h9 => ?_) (p_place162 hN a13 (by omega) hy hy5 hy4)
          obtain ⟨f9, b9, t9, A9, k9, a9⟩ := h9
          have ej : v1.toInt.toNat = j5 := by omega
          rw [ej] at t9
          have F9 : ∀ c k : Nat, ¬ ((210 ≤ c ∧ c ≤ 212 ∧ k = j5) ∨ c = 213 ∨ c = 214 ∨ (c = 199 ∧ (k = 14 ∨ k = 24))) → σ9 c k = s10 c k := fun c k hh => (f9 c k (by omega)).trans (F13 c k hh)
          have w9 : (σ9 199 24).toInt = w + 1 := by rw [f9 199 24 (by omega)]; exact w13
          have M9 : MN σ9 (w + 1) := fun k hk => by rw [f9 213 k (by omega)]; exact M13 k hk
          rcases b9 with z | z
          · rw [z]
            exact bad σ9 τ9 A9 (w + 1) F9 a9 (by omega) w9 (by omega) M9
          · rw [z]
            refine fin σ9 τ9 A9 (w + 1) F9 (fun k hk => (f9 213 k (by omega)).trans (P13 k hk)) a9 (by omega) w9 (by omega) M9 (fun _ => ?_) (fun q => absurd q c20) (t9 z)
            obtain ⟨k, kk1, kk2⟩ := E13
            exact ⟨k, kk1, by rw [f9 213 k (by omega), f9 210 j5 (by omega)]; exact kk2⟩
        exact ok_ite (fun c4 => last 0 (by omega) (fun z => by rw [z] at c4; exact absurd c4 (by decide)) (fun _ => l0)) (fun c4 => ok_ite (fun _ => last 2 (by omega) (fun _ => by omega) (fun z => absurd z c4)) (fun c5 => last 1 (by omega) (fun z => absurd z c5) (fun z => absurd z c4)))
  · rw [fa_le] at c3
    have a3 : AP σ3 A T := by
      rcases h3 with z | z
      · exact z.2
      · omega
    exact ok_r ⟨fun c k hh => f3 c k (by omega), Or.inl rfl, A, w, m, a3, by omega, w3, h0, M3, m3, hm0, fun z => absurd z (by decide)⟩
end TOWN
