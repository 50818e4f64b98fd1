/-! READING: where it stands (A), up to where (T) -/
def AP (σ : gI) (A T : Int) : Prop := (σ 199 14).toInt = A ∧ (σ 199 15).toInt = T ∧ 0 ≤ A ∧ A ≤ T ∧ T ≤ 80
theorem ap_fr {σ σ1 : gI} {A T : Int} (h : AP σ A T) (f : ∀ k : Nat, k = 14 ∨ k = 15 → σ1 199 k = σ 199 k) : AP σ1 A T := by
  obtain ⟨a, b, c⟩ := h
  exact ⟨by rw [f 14 (by omega)]; exact a, by rw [f 15 (by omega)]; exact b, c⟩
theorem zm_fr {σ σ1 : gI} {g : Nat → Int32} {B : Int} (h : ZM σ g B) (f : ∀ c k : Nat, ((c = 199 ∧ (k = 1 ∨ k = 3 ∨ k = 4 ∨ k = 28 ∨ k = 46 ∨ k = 52 ∨ k = 13 ∨ k = 36)) ∨ (201 ≤ c ∧ c ≤ 204) ∨ c = 206 ∨ c = 216 ∨ c = 226 ∨ c = 227 ∨ c = 219 ∨ c = 231 ∨ c = 232) → σ1 c k = σ c k) : ZM σ1 g B := by
  obtain ⟨a, b, c9, d, e9, i⟩ := h
  have e36 := f 199 36 (by omega)
  refine ⟨qb_fr a (fun c k hh => f c k (by omega)), b, by rw [e36]; exact c9, ?_, ki_fr e9 (fun c k hh => f c k (by omega)) (by omega), by rw [f 199 13 (by omega)]; exact i⟩
  rw [e36]
  exact uu_fr d (fun c k hh => f c k (by omega)) (by omega)
section PARSE
variable {A T : Int} {B : Int} {g : Nat → Int32} {σ : gI} {τ : gJ} {N : Nat}
theorem p_takes (hN : 4294967296 ≤ N) {x1 : Int32} (h : AP σ A T) : okp (fun (a : Int32) σ1 τ1 => (∀ c k : Nat, ¬ (c = 199 ∧ k = 14) → σ1 c k = σ c k) ∧ (a = 0 ∨ a = 1) ∧ ((a.toInt = 0 ∧ AP σ1 A T) ∨ (a.toInt = 1 ∧ AP σ1 (A + 1) T))) (B_X12_takes_0 N σ τ x1) := by
  obtain ⟨h1, h2, h3, h4, h5⟩ := h
  obtain ⟨a, σ1, τ1, e, hp⟩ := m_B_X12_takes_0 N hN σ τ x1 (by omega)
  have f := (fr_B_X12_takes_0 N σ τ x1 e).1
  have e15 := congrArg Int32.toInt (f 199 15 (by omega))
  refine ⟨a, σ1, τ1, e, fun c k hh => f c k (by omega), hp.1, ?_⟩
  have h6 := hp.2
  by_cases ha : a.toInt = 0
  · exact Or.inl ⟨ha, by unfold AP; omega⟩
  · exact Or.inr ⟨by omega, by unfold AP; omega⟩
theorem p_takesOf (hN : 4294967296 ≤ N) {bs : List Int32} (hb : bs.length ≤ 20) (h : AP σ A T) : okp (fun (a : Int32) σ1 τ1 => (∀ c k : Nat, ¬ (c = 199 ∧ k = 14) → σ1 c k = σ c k) ∧ (-1 ≤ a.toInt ∧ a.toInt < bs.length) ∧ ((a.toInt < 0 ∧ AP σ1 A T) ∨ (0 ≤ a.toInt ∧ AP σ1 (A + 1) T))) (B_X12_takesOf_0 N bs σ τ) := by
  obtain ⟨h1, h2, h3, h4, h5⟩ := h
  obtain ⟨a, σ1, τ1, e, hp⟩ := m_B_X12_takesOf_0 N hN bs σ τ hb (by omega)
  have f := (fr_B_X12_takesOf_0 N bs σ τ e).1
  have e15 := congrArg Int32.toInt (f 199 15 (by omega))
  refine ⟨a, σ1, τ1, e, fun c k hh => f c k (by omega), hp.1, ?_⟩
  have h6 := hp.2
  by_cases ha : a.toInt < 0
  · exact Or.inl ⟨ha, by unfold AP; omega⟩
  · exact Or.inr ⟨by omega, by unfold AP; omega⟩
theorem p_takesOf1 (hN : 4294967296 ≤ N) {bs : List Int32} (hb : bs.length ≤ 20) (h : AP σ A T) {r9 : Int32} {σ9 : gI} {τ9 : gJ} (q : B_X12_among_0 N bs σ τ = some (r9, σ9, τ9)) (hr : 0 ≤ r9.toInt) : okp (fun (a : Int32) σ1 τ1 => (∀ c k : Nat, ¬ (c = 199 ∧ k = 14) → σ1 c k = σ c k) ∧ (0 ≤ a.toInt ∧ a.toInt < bs.length) ∧ AP σ1 (A + 1) T) (B_X12_takesOf_0 N bs σ τ) := by
  obtain ⟨a, σ1, τ1, e, hp⟩ := p_takesOf (τ := τ) hN hb h
  have ea : a = r9 := by
    unfold B_X12_takesOf_0 at e
    obtain ⟨r8, σ8, τ8, q8, h8⟩ := bd_some e
    rw [q] at q8
    have e9 := congrArg Prod.fst (Option.some.inj q8)
    have e9 : r9 = r8 := e9
    by_cases c : r8 < 0
    · rw [if_pos c] at h8
      obtain ⟨r7, σ7, τ7, q7, h7⟩ := bd_some h8
      have e7 := congrArg Prod.fst (Option.some.inj h7)
      exact (show r8 = a from e7).symm.trans e9.symm
    · rw [if_neg c] at h8
      obtain ⟨r7, σ7, τ7, q7, h7⟩ := bd_some h8
      have e7 := congrArg Prod.fst (Option.some.inj h7)
      exact (show r8 = a from e7).symm.trans e9.symm
  rw [← ea] at hr
  refine ⟨a, σ1, τ1, e, hp.1, ⟨hr, hp.2.1.2⟩, ?_⟩
  rcases hp.2.2 with z | z
  · omega
  · exact z.2
theorem p_among (hN : 4294967296 ≤ N) {bs : List Int32} (hb : bs.length ≤ 20) (h : AP σ A T) : okp (fun (a : Int32) σ1 τ1 => σ = σ1 ∧ (-1 ≤ a.toInt ∧ a.toInt < bs.length) ∧ (0 ≤ a.toInt → A < T)) (B_X12_among_0 N bs σ τ) := by
  obtain ⟨h1, h2, h3, h4, h5⟩ := h
  obtain ⟨a, σ1, τ1, e, hp⟩ := m_B_X12_among_0 N hN bs σ τ hb (by omega)
  refine ⟨a, σ1, τ1, e, same_st (fr_B_X12_among_0 N bs σ τ e).1, hp.1, fun z => ?_⟩
  have := hp.2 z
  omega
theorem p_faultOf {x1 x2 x3 : Int32} (h : AP σ A T) (h2 : 0 ≤ x2.toInt ∧ x2.toInt ≤ 80) : okp (fun (a : Int32) σ1 τ1 => σ = σ1 ∧ (0 ≤ a.toInt → ¬ x3.toInt = 0)) (B_X12_faultOf_0 N σ τ x1 x2 x3) := by
  obtain ⟨h1, h15, h3, h4, h5⟩ := h
  have l0 : (0 : Int32).toInt = 0 := rfl
  have lm : (-1 : Int32).toInt = -1 := rfl
  have e1 := ti_sub (a := -1) (b := σ 199 14) (by omega) (by omega)
  have e2 := ti_sub (a := -1) (b := x2) (by omega) (by omega)
  have F : ∀ y0 : Int32, (¬ y0 = 0 → ¬ x3.toInt = 0) → okp (fun (a : Int32) σ1 τ1 => σ = σ1 ∧ (0 ≤ a.toInt → ¬ x3.toInt = 0)) (B_X12_faultOf_20 N σ τ x1 x2 y0) := by
    intro y0 hy
    unfold B_X12_faultOf_20
    exact ok_ite (fun _ => ok_ite (fun _ => ok_r ⟨rfl, fun z => absurd z (by omega)⟩) (fun c => ok_r ⟨rfl, fun _ => hy c⟩)) (fun _ => ok_ite (fun _ => ok_ite (fun _ => ok_ite (fun _ => ok_r ⟨rfl, fun z => absurd z (by omega)⟩) (fun c => ok_r ⟨rfl, fun _ => hy c⟩)) (fun _ => ok_r ⟨rfl, fun z => absurd z (by omega)⟩)) (fun _ => ok_r ⟨rfl, fun z => absurd z (by omega)⟩))
  unfold B_X12_faultOf_0
  refine ok_ite (fun _ => F 0 (fun z => absurd rfl z)) (fun c => ?_)
  rw [fa_eq] at c
  exact ok_ite (fun _ => F 1 (fun _ => by omega)) (fun _ => F 0 (fun z => absurd rfl z))
theorem p_begins {x1 : Int32} (h : ZM σ g B) (h1 : 0 ≤ x1.toInt ∧ x1.toInt ≤ 80) : okp (fun (a : Int32) σ1 τ1 => ZM σ1 g B ∧ (∃ T : Int, T ≤ x1.toInt ∧ AP σ1 0 T ∧ (0 < a.toInt → 0 < T ∨ x1.toInt = 0)) ∧ (σ1 199 16).toInt = 0 ∧ 0 ≤ a.toInt) (B_X12_begins_0 N σ τ x1) := by
  unfold B_X12_begins_0
  have l0 : (0 : Int32).toInt = 0 := rfl
  have h13 := h.2.2.2.2.2
  refine ok_nm (fun v1 e1 => ok_nm (fun s2 e2 => ok_nm (fun s3 e3 => ok_nm (fun s4 e4 => ok_nm (fun s5 e5 => ok_r ?_)))))
  have f : ∀ c k : Nat, ¬ (c = 199 ∧ (k = 13 ∨ k = 14 ∨ k = 15 ∨ k = 16)) → s5 c k = σ c k := fun c k hh => by rw [e5, up2_ne (by omega), e4, up2_ne (by omega), e3, up2_ne (by omega), e2, up2_ne (by omega)]
  have z13 : (s5 199 13).toInt = 0 := by rw [e5, up2_ne (by omega), e4, up2_ne (by omega), e3, up2_ne (by omega), e2]; unfold up2; rw [if_pos ⟨rfl, rfl⟩]; rfl
  have z14 : (s5 199 14).toInt = 0 := by rw [e5, up2_ne (by omega), e4, up2_ne (by omega), e3]; unfold up2; rw [if_pos ⟨rfl, rfl⟩]; rfl
  have z16 : (s5 199 16).toInt = 0 := by rw [e5, up2_ne (by omega), e4]; unfold up2; rw [if_pos ⟨rfl, rfl⟩]; rfl
  have z15 : s5 199 15 = imin v1 x1 := by rw [e5]; unfold up2; rw [if_pos ⟨rfl, rfl⟩]
  have en := imin_c v1 x1
  rw [← e1] at h13
  refine ⟨?_, ⟨(imin v1 x1).toInt, by omega, ⟨z14, by rw [z15], by omega, by omega, by omega⟩, by omega⟩, z16, h13.1⟩
  obtain ⟨a, b, c9, d, e9, i⟩ := h
  have e36 := f 199 36 (by omega)
  refine ⟨qb_fr a (fun c k hh => f c k (by omega)), b, by rw [e36]; exact c9, ?_, ki_fr e9 (fun c k hh => f c k (by omega)) (by omega), by omega⟩
  rw [e36]
  exact uu_fr d (fun c k hh => f c k (by omega)) (by omega)
theorem p_isDigit (hN : 4294967296 ≤ N) (h : AP σ A T) : okp (fun (a : Int32) σ1 τ1 => (σ = σ1 ∧ τ = τ1) ∧ ((a.toInt = 0 ∧ ¬ (A < T ∧ 48 ≤ (σ 208 A.toNat).toInt ∧ (σ 208 A.toNat).toInt ≤ 57)) ∨ (a.toInt = 1 ∧ (A < T ∧ 48 ≤ (σ 208 A.toNat).toInt ∧ (σ 208 A.toNat).toInt ≤ 57)))) (B_X12_isDigit_0 N σ τ) := by
  obtain ⟨h1, h2, h3, h4, h5⟩ := h
  unfold B_X12_isDigit_0 B_X12_in_0
  have o48 : (48 : Int64).toInt = 48 := rfl
  have o57 : (57 : Int64).toInt = 57 := rfl
  have l0 : (0 : Int32).toInt = 0 := rfl
  refine ok_ite (fun c => ?_) (fun c => ?_)
  · rw [fa_le] at c
    exact ok_r ⟨⟨rfl, rfl⟩, Or.inl ⟨rfl, by omega⟩⟩
  · rw [fa_le] at c
    refine ok_ck ⟨by omega, by omega⟩ (fun j hj lj => ?_)
    rw [show A.toNat = j by omega]
    refine ok_bd (Q := fun a σ1 τ1 => (σ = σ1 ∧ τ = τ1) ∧ ((a = 0 ∧ ¬ (48 ≤ (σ 208 j).toInt ∧ (σ 208 j).toInt ≤ 57)) ∨ (a = 1 ∧ (48 ≤ (σ 208 j).toInt ∧ (σ 208 j).toInt ≤ 57)))) ?_ (fun r σ3 τ3 hp => ?_)
    · refine ok_ite (fun c1 => ok_r ⟨⟨rfl, rfl⟩, Or.inl ⟨rfl, ?_⟩⟩) (fun c1 => ok_ite (fun c2 => ok_r ⟨⟨rfl, rfl⟩, Or.inl ⟨rfl, ?_⟩⟩) (fun c2 => ok_r ⟨⟨rfl, rfl⟩, Or.inr ⟨rfl, ?_⟩⟩))
      · have := (gx_cl _ _).mp c1
        rw [Int32.toInt_toInt64] at this
        omega
      · have := (gx_cg _ _).mp c2
        rw [Int32.toInt_toInt64] at this
        omega
      · have t1 := Int.not_lt.mp (fun q => c1 ((gx_cl _ _).mpr q))
        have t2 := Int.not_lt.mp (fun q => c2 ((gx_cg _ _).mpr q))
        rw [Int32.toInt_toInt64] at t1 t2
        omega
    · obtain ⟨⟨e1, e2⟩, hp⟩ := hp
      subst e1
      subst e2
      rcases hp with ⟨rfl, hp⟩ | ⟨rfl, hp⟩
      · exact ok_ite (fun _ => ok_r ⟨⟨rfl, rfl⟩, Or.inl ⟨rfl, fun z => hp ⟨z.2.1, z.2.2⟩⟩⟩) (fun z => absurd rfl z)
      · exact ok_ite (fun z => absurd z (by decide)) (fun _ => ok_r ⟨⟨rfl, rfl⟩, Or.inr ⟨rfl, by omega, hp.1, hp.2⟩⟩)
theorem p_numberOf (hN : 4294967296 ≤ N) {x1 : Int32} (h : AP σ A T) (hx : 1 ≤ x1.toInt ∧ x1.toInt ≤ 3) : okp (fun (a : Int32) σ1 τ1 => (∀ c k : Nat, ¬ (c = 199 ∧ k = 14) → σ1 c k = σ c k) ∧ ((a.toInt = -1 ∧ AP σ1 A T ∧ ¬ (A < T ∧ 48 ≤ (σ 208 A.toNat).toInt ∧ (σ 208 A.toNat).toInt ≤ 57)) ∨ (0 ≤ a.toInt ∧ a.toInt ≤ 999 ∧ (x1.toInt ≤ 2 → a.toInt ≤ 99) ∧ ∃ A1 : Int, A + 1 ≤ A1 ∧ AP σ1 A1 T))) (B_X12_numberOf_0 N σ τ x1) := by
  unfold B_X12_numberOf_0
  have l0 : (0 : Int32).toInt = 0 := rfl
  have l1 : (1 : Int32).toInt = 1 := rfl
  have l10 : (10 : Int32).toInt = 10 := rfl
  have l48 : (48 : Int32).toInt = 48 := rfl
  refine ok_bd (p_isDigit hN h) (fun r σ1 τ1 hp => ?_)
  obtain ⟨⟨e1, e2⟩, hp⟩ := hp
  subst e1
  subst e2
  refine ok_ite (fun c => ?_) (fun c => ?_)
  · rw [fa_eq] at c
    exact ok_r ⟨fun _ _ _ => rfl, Or.inl ⟨rfl, h, by omega⟩⟩
  · rw [fa_eq] at c
    have hD : A < T ∧ 48 ≤ (σ 208 A.toNat).toInt ∧ (σ 208 A.toNat).toInt ≤ 57 := by omega
    suffices H : ∀ (n : Nat) (σ2 : gI) (τ2 : gJ) (x2 x3 : Int32), (∀ c k : Nat, ¬ (c = 199 ∧ k = 14) → σ2 c k = σ c k) → AP σ2 (A + x3.toInt) T → (0 ≤ x2.toInt ∧ ((x3.toInt = 0 ∧ x2.toInt = 0) ∨ (x3.toInt = 1 ∧ x2.toInt ≤ 9) ∨ (x3.toInt = 2 ∧ x2.toInt ≤ 99) ∨ (x3.toInt = 3 ∧ x2.toInt ≤ 999))) → x3.toInt ≤ x1.toInt → (4 - x3.toInt).toNat < n → okp (fun (a : Int32) σ1 τ1 => (∀ c k : Nat, ¬ (c = 199 ∧ k = 14) → σ1 c k = σ c k) ∧ ((a.toInt = -1 ∧ AP σ1 A T ∧ ¬ (A < T ∧ 48 ≤ (σ 208 A.toNat).toInt ∧ (σ 208 A.toNat).toInt ≤ 57)) ∨ (0 ≤ a.toInt ∧ a.toInt ≤ 999 ∧ (x1.toInt ≤ 2 → a.toInt ≤ 99) ∧ ∃ A1 : Int, A + 1 ≤ A1 ∧ AP σ1 A1 T))) (H_X12_numberOf_13 N n σ2 τ2 x1 x2 x3) from H N σ _ 0 0 (fun _ _ _ => rfl) (by rw [l0, Int.add_zero]; exact h) (by omega) (by omega) (by omega)
    intro n
    induction n with
    | zero => intro σ2 τ2 x2 x3 _ _ _ _ hm; exact absurd hm (Nat.not_lt_zero _)
    | succ n ih =>
      intro σ2 τ2 x2 x3 F P h3 h31 hm
      show okp _ (C_X12_numberOf_13 N (H_X12_numberOf_13 N n) σ2 τ2 x1 x2 x3)
      unfold C_X12_numberOf_13
      refine ok_ite (fun c1 => ?_) (fun c1 => ?_)
      · rw [fa_le] at c1
        exact ok_r ⟨F, Or.inr ⟨by omega, by omega, by omega, A + x3.toInt, by omega, P⟩⟩
      · rw [fa_le] at c1
        refine ok_bd (p_isDigit hN P) (fun r σ4 τ4 hq => ?_)
        obtain ⟨⟨e1, e2⟩, hq⟩ := hq
        subst e1
        subst e2
        refine ok_ite (fun c2 => ?_) (fun c2 => ?_)
        · rw [fa_eq] at c2
          refine ok_r ⟨F, Or.inr ⟨by omega, by omega, by omega, A + x3.toInt, ?_, P⟩⟩
          by_cases hz : x3.toInt = 0
          · exfalso
            rcases hq with hq | hq
            · apply hq.2
              rw [hz, Int.add_zero, F 208 _ (by omega)]
              exact hD
            · omega
          · omega
        · rw [fa_eq] at c2
          have hq2 : A + x3.toInt < T ∧ 48 ≤ (σ2 208 (A + x3.toInt).toNat).toInt ∧ (σ2 208 (A + x3.toInt).toNat).toInt ≤ 57 := by omega
          obtain ⟨p1, p2, p3, p4, p5⟩ := P
          refine ok_ck ⟨by omega, by omega⟩ (fun j hj lj => ok_nm (fun v5 e5 => ok_nm (fun s6 e6 => ok_nm (fun v7 e7 => ?_))))
          rw [show (A + x3.toInt).toNat = j by omega] at hq2
          have m10 : (10 * x2).toInt = 10 * x2.toInt := by rw [ti_mul (by rw [l10]; omega) (by rw [l10]; omega), l10]
          have a1 := ti_add (a := 10 * x2) (b := σ2 208 j) (by omega) (by omega)
          have eu5 : v5.toInt = 10 * x2.toInt + (σ2 208 j).toInt - 48 := by rw [e5, ti_sub (by omega) (by omega)]; omega
          have eu7 : v7.toInt = x3.toInt + 1 := by rw [e7, ti_add (by omega) (by omega), l1]
          have f6 : ∀ c k : Nat, ¬ (c = 199 ∧ k = 14) → s6 c k = σ2 c k := fun c k hh => by rw [e6]; exact up2_ne hh
          have z14 : (s6 199 14).toInt = A + x3.toInt + 1 := by rw [e6]; unfold up2; rw [if_pos ⟨rfl, rfl⟩, ti_add (by omega) (by omega), l1]; omega
          have z15 := congrArg Int32.toInt (f6 199 15 (by omega))
          exact ih s6 _ v5 v7 (fun c k hh => (f6 c k hh).trans (F c k hh)) (by unfold AP; omega) (by omega) (by omega) (by omega)
theorem z_water (hN : 4294967296 ≤ N) {B1 : Int} (h : ZM σ g B) (hB : B ≤ B1) : okp (fun (a : Int32) σ1 τ1 => ZN σ1 B1) (B_X12_water_0 N σ τ) := by
  unfold B_X12_water_0
  have l0 : (0 : Int32).toInt = 0 := rfl
  have l1 : (1 : Int32).toInt = 1 := rfl
  have l40 : (40 : Int32).toInt = 40 := rfl
  refine ok_nm (fun s1 e1 => ok_bd (p_begins (zm_up h e1 (by omega)) (by omega)) (fun r2 σ2 τ2 h2 => ?_))
  obtain ⟨z2, ⟨T, hT, p2, _⟩, _, _⟩ := h2
  suffices H : ∀ (n : Nat) (σ : gI) (τ : gJ) (x2 : Int32), ZM σ g B → AP σ x2.toInt T → (41 - x2.toInt).toNat < n → okp (fun (a : Int32) σ1 τ1 => ZN σ1 B1) (H_X12_water_14 N n σ τ r2 x2) from H N _ _ 0 z2 (by rw [l0]; exact p2) (by omega)
  intro n
  induction n with
  | zero => intro σ τ x2 _ _ hm; exact absurd hm (Nat.not_lt_zero _)
  | succ n ih =>
    intro σ τ x2 z p hm
    show okp _ (C_X12_water_14 N (H_X12_water_14 N n) σ τ r2 x2)
    unfold C_X12_water_14
    have p' := p
    obtain ⟨p14, p15, p0, p3, p5⟩ := p'
    refine ok_bd2 (p_among hN (by decide) p) (fun r3 σ3 τ3 q3 h3 => ?_)
    have t3 : τ = τ3 := funext fun c => funext fun k => ((fr_B_X12_among_0 N _ σ τ q3).2 c k).symm
    obtain ⟨h9, h3⟩ := h3
    subst h9
    subst t3
    refine ok_ite (fun c => ?_) (fun c => ?_)
    · refine ok_bd (p_faultOf p (by omega)) (fun r4 σ4 τ4 h4 => ?_)
      obtain ⟨h9, h4⟩ := h4
      subst h9
      refine ok_ite (fun c4 => ok_nm (fun s5 e5 => ?_)) (fun _ => ok_r (zm_n z hB))
      have f5 : ∀ c k : Nat, ¬ (c = 199 ∧ k = 4) → s5 c k = σ c k := fun c k hh => by rw [e5]; exact up2_ne hh
      have w5 : s5 199 4 = x2 := by rw [e5]; unfold up2; rw [if_pos ⟨rfl, rfl⟩]
      have z5 : ZM s5 g B := by
        obtain ⟨a, b, c9, d, e9, i⟩ := z
        have e36 := f5 199 36 (by omega)
        refine ⟨?_, b, by rw [e36]; exact c9, by rw [e36]; exact uu_fr d (fun c k hh => f5 c k (by omega)) (by omega), ki_fr e9 (fun c k hh => f5 c k (by omega)) (by omega), by rw [f5 199 13 (by omega)]; exact i⟩
        obtain ⟨⟨a1, a2, a3⟩, b9, c, d, e, ⟨k1, k2⟩, i, j, m⟩ := a
        have e52 := f5 199 52 (by omega)
        have e3 := f5 199 3 (by omega)
        refine ⟨⟨⟨by rw [e3]; exact a1.1, fun p hp => ?_⟩, ?_, ⟨by rw [f5 199 28 (by omega)]; exact a3.1, fun k hk => ?_⟩⟩, rj_fr b9 (fun c k h => f5 c k (by omega)), rk_fr c (fun c k h => f5 c k (by omega)), d, by rw [f5 199 1 (by omega)]; exact e, ⟨by rw [e52]; exact k1, fun k hk => ?_⟩, by rw [f5 199 46 (by omega)]; exact i, e3.trans j, e52.trans m⟩
        · rw [e3] at hp ⊢
          rw [f5 201 p (by omega), f5 202 p (by omega), f5 203 p (by omega), f5 204 p (by omega)]
          exact a1.2 p hp
        · unfold WI; rw [w5]; omega
        · rw [f5 199 28 (by omega)] at hk
          rw [show s5 216 = σ 216 from funext fun k => f5 216 k (by omega)]
          exact a3.2 k hk
        · rw [e52] at hk
          rw [f5 226 k (by omega), f5 227 k (by omega), e3]
          exact k2 k hk
      suffices H2 : ∀ (n2 : Nat) (σ : gI) (τ : gJ) (x4 : Int32), ZM σ g B → 0 ≤ x4.toInt → (41 - x4.toInt).toNat < n2 → okp (fun (a : Int32) σ1 τ1 => ZN σ1 B1) (H_X12_water_64 N n2 σ τ x2 x4) from H2 N _ _ 0 z5 (by omega) (by omega)
      intro n2
      induction n2 with
      | zero => intro σ τ x4 _ _ hm; exact absurd hm (Nat.not_lt_zero _)
      | succ n2 ih2 =>
        intro σ τ x4 z h4 hm2
        show okp _ (C_X12_water_64 N (H_X12_water_64 N n2) σ τ x2 x4)
        unfold C_X12_water_64
        refine ok_ite (fun _ => ok_r (zm_n z hB)) (fun c6 => ?_)
        rw [fa_le] at c6
        refine ok_ck ⟨by omega, by omega⟩ (fun j hj lj => ok_nm (fun s3 e3 => ok_nm (fun v ev => ?_)))
        have eu : v.toInt = x4.toInt + 1 := by rw [ev, ti_add (by omega) (by omega), l1]
        exact ih2 _ _ _ (zm_up z e3 (by omega)) (by omega) (by omega)
    · rw [fa_lt] at c
      have hlt := h3.2 (by omega)
      refine ok_bd (p_takesOf1 hN (by decide) p q3 (by omega)) (fun r6 σ6 τ6 h6 => ok_ck ⟨by omega, by omega⟩ (fun j hj lj => ok_nm (fun s8 e8 => ok_nm (fun v ev => ?_))))
      obtain ⟨f6, b6, h6⟩ := h6
      have eu : v.toInt = x2.toInt + 1 := by rw [ev, ti_add (by omega) (by omega), l1]
      exact ih s8 τ6 v (zm_up (zm_fr z (fun c k hh => f6 c k (by omega))) e8 (by omega)) (by rw [eu]; exact ap_fr h6 (fun k hk => by rw [e8]; exact up2_ne (by omega))) (by omega)
end PARSE
