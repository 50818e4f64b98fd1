section DAY
variable {A T B : Int} {g : Nat → Int32} {σ : gI} {τ : gJ} {N : Nat}
def AC (σ : gI) (m : Int) : Prop := ∀ k : Nat, (k : Int) < m → σ 220 k = 2 → (σ 221 k).toInt ≤ 99
theorem p_act82 (hN : 4294967296 ≤ N) {x1 y0 : Int32} (h : AP σ A T) (hx : 0 ≤ x1.toInt ∧ x1.toInt < 60) : okp (fun (a : Int32) σ1 τ1 => (∀ c k : Nat, ¬ ((c = 221 ∧ k = x1.toInt.toNat) ∨ c = 222 ∨ c = 223 ∨ (c = 199 ∧ k = 14)) → σ1 c k = σ c k) ∧ σ1 221 x1.toInt.toNat = y0 ∧ ∃ A1 : Int, A ≤ A1 ∧ AP σ1 A1 T) (B_X12_readsAct_82 N σ τ x1 y0 x1) := by
  unfold B_X12_readsAct_82
  have l1 : (1 : Int32).toInt = 1 := rfl
  have l2 : (2 : Int32).toInt = 2 := rfl
  refine ok_ck ⟨by omega, by omega⟩ (fun j1 hj1 lj1 => ok_nm (fun s2 e2 => ok_ck ⟨by omega, by omega⟩ (fun j3 hj3 lj3 => ?_)))
  have ej : j3 = x1.toInt.toNat := by omega
  have f2 : ∀ c k : Nat, ¬ (c = 221 ∧ k = x1.toInt.toNat) → s2 c k = σ c k := fun c k hh => by rw [e2]; exact up2_ne (by omega)
  have w2 : s2 221 x1.toInt.toNat = y0 := by rw [e2, show x1.toInt.toNat = j1 by omega]; unfold up2; rw [if_pos ⟨rfl, rfl⟩]
  have a2 : AP s2 A T := ap_fr h (fun k hk => f2 199 k (by omega))
  have E : ∀ (a : Int32) (τ : gJ), okp (fun (a : Int32) σ1 τ1 => (∀ c k : Nat, ¬ ((c = 221 ∧ k = x1.toInt.toNat) ∨ c = 222 ∨ c = 223 ∨ (c = 199 ∧ k = 14)) → σ1 c k = σ c k) ∧ σ1 221 x1.toInt.toNat = y0 ∧ ∃ A1 : Int, A ≤ A1 ∧ AP σ1 A1 T) (some (a, s2, τ)) := fun a τ => ok_r ⟨fun c k hh => f2 c k (by omega), w2, A, by omega, a2⟩
  refine ok_ite (fun _ => ok_ite (fun _ => E _ _) (fun _ => E _ _)) (fun _ => ok_ite (fun _ => ok_ite (fun _ => E _ _) (fun _ => E _ _)) (fun _ => ok_ite (fun _ => ok_ite (fun _ => E _ _) (fun _ => E _ _)) (fun _ => ok_ite (fun _ => ?_) (fun _ => ?_))))
  · refine ok_bd (p_takesOf hN (by decide) a2) (fun r σ3 τ3 h3 => ok_nm (fun s4 e4 => ?_))
    obtain ⟨f3, b3, h3⟩ := h3
    have f4 : ∀ c k : Nat, ¬ (c = 222) → s4 c k = σ3 c k := fun c k hh => by rw [e4]; exact up2_ne (by omega)
    have G : ∀ (a : Int32), okp (fun (a : Int32) σ1 τ1 => (∀ c k : Nat, ¬ ((c = 221 ∧ k = x1.toInt.toNat) ∨ c = 222 ∨ c = 223 ∨ (c = 199 ∧ k = 14)) → σ1 c k = σ c k) ∧ σ1 221 x1.toInt.toNat = y0 ∧ ∃ A1 : Int, A ≤ A1 ∧ AP σ1 A1 T) (some (a, s4, τ3)) := fun a => by
      refine ok_r ⟨fun c k hh => (f4 c k (by omega)).trans ((f3 c k (by omega)).trans (f2 c k (by omega))), by rw [f4 _ _ (by omega), f3 _ _ (by omega)]; exact w2, ?_⟩
      rcases h3 with z | z
      · exact ⟨A, by omega, ap_fr z.2 (fun k hk => f4 199 k (by omega))⟩
      · exact ⟨A + 1, by omega, ap_fr z.2 (fun k hk => f4 199 k (by omega))⟩
    exact ok_ite (fun _ => G _) (fun _ => G _)
  · refine ok_bd (p_numberOf hN a2 (by omega)) (fun r σ3 τ3 h3 => ok_nm (fun s4 e4 => ?_))
    obtain ⟨f3, h3⟩ := h3
    have f4 : ∀ c k : Nat, ¬ (c = 222) → s4 c k = σ3 c k := fun c k hh => by rw [e4]; exact up2_ne (by omega)
    have w4 : s4 221 x1.toInt.toNat = y0 := by rw [f4 _ _ (by omega), f3 _ _ (by omega)]; exact w2
    have F4 : ∀ c k : Nat, ¬ ((c = 221 ∧ k = x1.toInt.toNat) ∨ c = 222 ∨ c = 223 ∨ (c = 199 ∧ k = 14)) → s4 c k = σ c k := fun c k hh => (f4 c k (by omega)).trans ((f3 c k (by omega)).trans (f2 c k (by omega)))
    have a4 : ∃ A4 : Int, A ≤ A4 ∧ AP s4 A4 T := by
      rcases h3 with z | z
      · exact ⟨A, by omega, ap_fr z.2.1 (fun k hk => f4 199 k (by omega))⟩
      · obtain ⟨_, _, _, A3, z4, z5⟩ := z
        exact ⟨A3, by omega, ap_fr z5 (fun k hk => f4 199 k (by omega))⟩
    obtain ⟨A4, k4, a4⟩ := a4
    refine ok_ite (fun _ => ?_) (fun _ => ok_r ⟨F4, w4, A4, k4, a4⟩)
    refine ok_bd (p_takes hN a4) (fun r13 σ13 τ13 h13 => ?_)
    obtain ⟨f13, b13, h13⟩ := h13
    have a13 : ∃ A5 : Int, A ≤ A5 ∧ AP σ13 A5 T := by
      rcases h13 with z | z
      · exact ⟨A4, by omega, z.2⟩
      · exact ⟨A4 + 1, by omega, z.2⟩
    obtain ⟨A5, k5, a5⟩ := a13
    refine ok_ite (fun _ => ok_nm (fun s15 e15 => ?_)) (fun _ => ?_)
    · have f15 : ∀ c k : Nat, ¬ (c = 223) → s15 c k = σ13 c k := fun c k hh => by rw [e15]; exact up2_ne (by omega)
      have G : ∀ (a : Int32), okp (fun (a : Int32) σ1 τ1 => (∀ c k : Nat, ¬ ((c = 221 ∧ k = x1.toInt.toNat) ∨ c = 222 ∨ c = 223 ∨ (c = 199 ∧ k = 14)) → σ1 c k = σ c k) ∧ σ1 221 x1.toInt.toNat = y0 ∧ ∃ A1 : Int, A ≤ A1 ∧ AP σ1 A1 T) (some (a, s15, τ13)) := fun a => ok_r ⟨fun c k hh => (f15 c k (by omega)).trans ((f13 c k (by omega)).trans (F4 c k hh)), by rw [f15 _ _ (by omega), f13 _ _ (by omega)]; exact w4, A5, k5, ap_fr a5 (fun k hk => f15 199 k (by omega))⟩
      exact ok_ite (fun _ => G _) (fun _ => G _)
    · refine ok_bd (p_numberOf hN a5 (by omega)) (fun r17 σ17 τ17 h17 => ok_nm (fun s18 e18 => ?_))
      obtain ⟨f17, h17⟩ := h17
      have f18 : ∀ c k : Nat, ¬ (c = 223) → s18 c k = σ17 c k := fun c k hh => by rw [e18]; exact up2_ne (by omega)
      have a18 : ∃ A8 : Int, A ≤ A8 ∧ AP s18 A8 T := by
        rcases h17 with z | z
        · exact ⟨A5, by omega, ap_fr z.2.1 (fun k hk => f18 199 k (by omega))⟩
        · obtain ⟨_, _, _, A3, z4, z5⟩ := z
          exact ⟨A3, by omega, ap_fr z5 (fun k hk => f18 199 k (by omega))⟩
      have G : ∀ (a : Int32), okp (fun (a : Int32) σ1 τ1 => (∀ c k : Nat, ¬ ((c = 221 ∧ k = x1.toInt.toNat) ∨ c = 222 ∨ c = 223 ∨ (c = 199 ∧ k = 14)) → σ1 c k = σ c k) ∧ σ1 221 x1.toInt.toNat = y0 ∧ ∃ A1 : Int, A ≤ A1 ∧ AP σ1 A1 T) (some (a, s18, τ17)) := fun a => ok_r ⟨fun c k hh => (f18 c k (by omega)).trans ((f17 c k (by omega)).trans ((f13 c k (by omega)).trans (F4 c k hh))), by rw [f18 _ _ (by omega), f17 _ _ (by omega), f13 _ _ (by omega)]; exact w4, a18⟩
      exact ok_ite (fun _ => G _) (fun _ => G _)
theorem p_readsAct (hN : 4294967296 ≤ N) {m : Int} (h : AP σ A T) (hm : (σ 199 42).toInt = m) (h0 : 0 ≤ m ∧ m < 60) (hC : AC σ m) : okp (fun (a : Int32) σ1 τ1 => (∀ c k : Nat, ¬ (c = 220 ∨ c = 221 ∨ c = 222 ∨ c = 223 ∨ (c = 199 ∧ (k = 14 ∨ k = 42))) → σ1 c k = σ c k) ∧ (σ1 199 42).toInt = m + 1 ∧ AC σ1 (m + 1) ∧ ∃ A1 : Int, A ≤ A1 ∧ (¬ a.toInt = 0 → A + 1 ≤ A1) ∧ AP σ1 A1 T) (B_X12_readsAct_0 N σ τ) := by
  unfold B_X12_readsAct_0
  have l0 : (0 : Int32).toInt = 0 := rfl
  have l1 : (1 : Int32).toInt = 1 := rfl
  have l2 : (2 : Int32).toInt = 2 := rfl
  refine ok_nm (fun v1 e1 => ok_bd (p_takesOf hN (by decide) h) (fun r2 σ2 τ2 h2 => ?_))
  obtain ⟨f2, b2, h2⟩ := h2
  have ev : v1.toInt = m := by rw [e1]; exact hm
  refine ok_ck ⟨by omega, by omega⟩ (fun j3 hj3 lj3 => ok_nm (fun s4 e4 => ok_nm (fun s5 e5 => ?_)))
  have f5 : ∀ c k : Nat, ¬ ((c = 220 ∧ k = j3) ∨ (c = 199 ∧ k = 42)) → s5 c k = σ2 c k := fun c k hh => by rw [e5, up2_ne (by omega), e4, up2_ne (by omega)]
  have g4 : s4 199 42 = σ 199 42 := by rw [e4, up2_ne (by omega)]; exact f2 199 42 (by omega)
  have g5 : (s5 199 42).toInt = m + 1 := by rw [e5]; unfold up2; rw [if_pos ⟨rfl, rfl⟩, g4, ti_add (by omega) (by omega), l1]; omega
  have w5 : s5 220 j3 = r2 := by rw [e5, up2_ne (by omega), e4]; unfold up2; rw [if_pos ⟨rfl, rfl⟩]
  have C5 : AC s5 m := fun k hk h2' => by
    rw [f5 220 k (by omega), f2 220 k (by omega)] at h2'
    rw [f5 221 k (by omega), f2 221 k (by omega)]
    exact hC k hk h2'
  have F5 : ∀ c k : Nat, ¬ (c = 220 ∨ c = 221 ∨ c = 222 ∨ c = 223 ∨ (c = 199 ∧ (k = 14 ∨ k = 42))) → s5 c k = σ c k := fun c k hh => (f5 c k (by omega)).trans (f2 c k (by omega))
  rw [w5]
  refine ok_ite (fun c => ?_) (fun c => ?_)
  · rw [fa_le] at c
    have a5 : AP s5 (A + 1) T := by
      rcases h2 with z | z
      · omega
      · exact ap_fr z.2 (fun k hk => f5 199 k (by omega))
    -- the tail
    have tail : ∀ (σ6 : gI) (τ6 : gJ) (A6 : Int) (y0 : Int32), (∀ c k : Nat, ¬ (c = 199 ∧ k = 14) → σ6 c k = s5 c k) → AP σ6 A6 T → A + 1 ≤ A6 → (r2 = 2 → y0.toInt ≤ 99) → okp (fun (a : Int32) σ1 τ1 => (∀ c k : Nat, ¬ (c = 220 ∨ c = 221 ∨ c = 222 ∨ c = 223 ∨ (c = 199 ∧ (k = 14 ∨ k = 42))) → σ1 c k = σ c k) ∧ (σ1 199 42).toInt = m + 1 ∧ AC σ1 (m + 1) ∧ ∃ A1 : Int, A ≤ A1 ∧ (¬ a.toInt = 0 → A + 1 ≤ A1) ∧ AP σ1 A1 T) (B_X12_readsAct_82 N σ6 τ6 v1 y0 v1) := by
      intro σ6 τ6 A6 y0 f6 a6 k6 hy
      refine ok_mono (fun a σ1 τ1 h9 => ?_) (p_act82 hN a6 (by omega))
      obtain ⟨f9, w9, A9, k9, a9⟩ := h9
      refine ⟨fun c k hh => (f9 c k (by omega)).trans ((f6 c k (by omega)).trans (F5 c k hh)), by rw [f9 199 42 (by omega), f6 199 42 (by omega)]; exact g5, fun k hk h2' => ?_, A9, by omega, by omega, a9⟩
      rw [f9 220 k (by omega), f6 220 k (by omega)] at h2'
      by_cases hkj : k = j3
      · rw [hkj, show j3 = v1.toInt.toNat by omega, w9]
        rw [hkj, w5] at h2'
        exact hy h2'
      · rw [f9 221 k (by omega), f6 221 k (by omega)]
        exact C5 k (by omega) h2'
    refine ok_ite (fun c2 => ok_ite (fun c3 => ?_) (fun c3 => ?_)) (fun c2 => ?_)
    · refine ok_bd (p_numberOf hN a5 (by omega)) (fun r10 σ10 τ10 h10 => ?_)
      obtain ⟨f10, h10⟩ := h10
      rcases h10 with z | z
      · exact tail _ _ (A + 1) r10 f10 z.2.1 (by omega) (fun _ => by omega)
      · obtain ⟨z1, z2, z3, A3, z4, z5⟩ := z
        exact tail _ _ A3 r10 f10 z5 (by omega) (fun _ => z3 (by omega))
    · refine ok_bd (p_numberOf hN a5 (by omega)) (fun r10 σ10 τ10 h10 => ?_)
      obtain ⟨f10, h10⟩ := h10
      rcases h10 with z | z
      · exact tail _ _ (A + 1) r10 f10 z.2.1 (by omega) (fun _ => by omega)
      · obtain ⟨z1, z2, z3, A3, z4, z5⟩ := z
        exact tail _ _ A3 r10 f10 z5 (by omega) (fun _ => z3 (by omega))
    · rw [fa_le] at c2
      refine ok_bd (p_takesOf hN (by decide) a5) (fun r11 σ11 τ11 h11 => ?_)
      obtain ⟨f11, b11, h11⟩ := h11
      have nt : r2 = 2 → r11.toInt ≤ 99 := fun z => by rw [z] at c2; omega
      rcases h11 with z | z
      · exact tail _ _ (A + 1) r11 f11 z.2 (by omega) nt
      · exact tail _ _ (A + 1 + 1) r11 f11 z.2 (by omega) nt
  · rw [fa_le] at c
    have a5 : AP s5 A T := by
      rcases h2 with z | z
      · exact ap_fr z.2 (fun k hk => f5 199 k (by omega))
      · omega
    refine ok_r ⟨F5, g5, fun k hk h2' => ?_, A, by omega, fun z => absurd l0 z, a5⟩
    by_cases hkj : k = j3
    · rw [hkj, w5] at h2'
      rw [h2'] at c
      omega
    · exact C5 k (by omega) h2'
theorem w_does (hN : 4294967296 ≤ N) {x1 : Int32} (hQ : QB 16 σ g) (hx : 0 ≤ x1.toInt ∧ x1.toInt < 60) (hC : σ 220 x1.toInt.toNat = 2 → (σ 221 x1.toInt.toNat).toInt ≤ 99) (hB : (g 2).toInt ≤ 900000000) : okp (fun (a : Int32) σ1 τ1 => ∃ g1 : Nat → Int32, QB 16 σ1 g1 ∧ (g1 2).toInt ≤ (g 2).toInt + 99) (B_X12_does_0 N σ τ x1) := by
  unfold B_X12_does_0
  have hg := qb_rng hQ
  have l0 : (0 : Int32).toInt = 0 := rfl
  have l1 : (1 : Int32).toInt = 1 := rfl
  refine ok_ck ⟨by omega, by omega⟩ (fun j hj lj => ok_nm (fun v2 e2 => ?_))
  rw [show x1.toInt.toNat = j by omega, ← e2] at hC
  have same : ∀ {σ1 : gI}, QB 16 σ1 g → ∃ g1 : Nat → Int32, QB 16 σ1 g1 ∧ (g1 2).toInt ≤ (g 2).toInt + 99 := fun h => ⟨g, h, by omega⟩
  refine ok_ite (fun _ => ?_) (fun _ => ok_ite (fun _ => ?_) (fun _ => ok_ite (fun c2 => ?_) (fun _ => ?_)))
  · refine ok_bd (w_comesNow hN hQ) (fun r σ4 τ4 h4 => ?_)
    obtain ⟨g1, q1, q2, q3⟩ := h4
    have hh : ∃ g1 : Nat → Int32, QB 16 σ4 g1 ∧ (g1 2).toInt ≤ (g 2).toInt + 99 := ⟨g1, q1, by rw [q2]; omega⟩
    exact ok_ite (fun _ => ok_r hh) (fun _ => ok_r hh)
  · refine ok_bd (w_B_X12_isFork_0 hN hQ) (fun r7 σ7 τ7 h7 => ?_)
    obtain ⟨h9, h7⟩ := h7
    subst h9
    refine ok_ite (fun _ => ok_r (same hQ)) (fun c7 => ok_nm (fun s9 e9 => ok_r ?_))
    rw [fa_eq] at c7
    have pP := qb_P hQ
    have hv := xor_rg (a := σ 206 42) (b := 1 <<< (v2 &&& 31)) 12 (by omega) (by omega) (shl_12 (by omega))
    exact ⟨_, qb_planks hQ e9 (by omega), by show (g 2).toInt ≤ _; omega⟩
  · have hv := hC c2
    refine ok_bd (w_those6 hN hQ) (fun r σ3 τ3 h3 => ?_)
    obtain ⟨h9, h3⟩ := h3
    subst h9
    suffices H : ∀ (n : Nat) (σ : gI) (τ : gJ) (g9 : Nat → Int32) (x4 : Int32), QB 16 σ g9 → (0 ≤ x4.toInt ∧ x4.toInt ≤ 99) → (g9 2).toInt = (g 2).toInt + x4.toInt → (101 - x4.toInt).toNat < n → okp (fun (a : Int32) σ1 τ1 => ∃ g1 : Nat → Int32, QB 16 σ1 g1 ∧ (g1 2).toInt ≤ (g 2).toInt + 99) (H_X12_does_104 N n σ τ v2 r x4) from H N _ _ g 0 hQ (by omega) (by omega) (by omega)
    intro n
    induction n with
    | zero => intro σ τ g9 x4 _ _ _ hm; exact absurd hm (Nat.not_lt_zero _)
    | succ n ih =>
      intro σ τ g9 x4 hQ9 h4 h5 hm
      show okp _ (C_X12_does_104 N (H_X12_does_104 N n) σ τ v2 r x4)
      unfold C_X12_does_104
      refine ok_ite (fun _ => ?_) (fun c => ?_)
      · refine ok_bd (w_those6 hN hQ9) (fun r3 σ3 τ3 h3 => ?_)
        obtain ⟨h9, h3⟩ := h3
        subst h9
        refine ok_bd (w_B_J6_bitCount_0f7a4_0 hN) (fun r8 σ8 τ8 h8 => ?_)
        obtain ⟨h9, h8⟩ := h8
        subst h9
        exact ok_nm (fun s9 e9 => ok_r ⟨g9, qb_up hQ9 e9 (by omega), by omega⟩)
      · rw [fa_le] at c
        refine ok_bd (w_minute6 hN hQ9 (by omega)) (fun _ σ3 τ3 h3 => ok_nm (fun v ev => ?_))
        obtain ⟨g1, q1, q2, q3, q4, q5, q6⟩ := h3
        have eu : v.toInt = x4.toInt + 1 := by rw [ev, ti_add (by omega) (by omega), l1]
        exact ih σ3 τ3 g1 v q1 (by omega) (by omega) (by omega)
  · refine ok_bd (w_gives hN hQ) (fun r σ4 τ4 h4 => ?_)
    exact ok_ite (fun _ => ok_r (same h4)) (fun _ => ok_r (same h4))
theorem z_day90 (hN : 4294967296 ≤ N) {B1 m : Int} (hB : B + 6000 ≤ B1) (hB9 : B1 ≤ 900000000) (hm60 : m ≤ 60) : ∀ (n : Nat) (σ : gI) (τ : gJ) (g : Nat → Int32) (x5 : Int32), ZP σ g (B + 99 * x5.toInt) → (σ 199 42).toInt = m → AC σ m → (0 ≤ x5.toInt ∧ x5.toInt ≤ 60) → (61 - x5.toInt).toNat < n → okp (fun (a : Int32) σ1 τ1 => ZN σ1 B1) (H_X12_day_90 N n σ τ x5) := by
  intro n
  induction n with
  | zero => intro σ τ g x5 _ _ _ _ hm; exact absurd hm (Nat.not_lt_zero _)
  | succ n ih =>
    intro σ τ g x5 h hm hC h5 hme
    show okp _ (C_X12_day_90 N (H_X12_day_90 N n) σ τ x5)
    unfold C_X12_day_90
    have l1 : (1 : Int32).toInt = 1 := rfl
    have E : ∀ (σ : gI) (τ : gJ) (g : Nat → Int32) (s2 : gI) (y0 : Int32), ZP σ g (B + 99 * 60) → s2 = up2 σ 199 1 0 → okp (fun (a : Int32) σ1 τ1 => ZN σ1 B1) (B_X12_day_134 N s2 τ x5 y0) := by
      intro σ τ g s2 y0 h e2
      unfold B_X12_day_134
      have q2 := qb_r0 h.1 e2
      refine ok_bd (w_B_X12_flag_0 hN) (fun r1 σ1 τ1 h1 => ?_)
      obtain ⟨h9, h1⟩ := h1
      subst h9
      refine ok_bd (w_B_X12_enters_0 hN q2 (by omega)) (fun _ σ4 τ4 h4 => ok_bd (w_B_X12_enters_0 hN h4.1 (by omega)) (fun _ σ6 τ6 h6 => ?_))
      have hz := zp_g h (qb_w h6.1 (by omega)) h.2.1 (Int.le_refl _) (fun c k hh => (h6.2 c k (by omega)).trans ((h4.2 c k (by omega)).trans (by rw [e2]; exact up2_ne (by omega))))
      exact ok_ite (fun _ => ok_r (zp_n hz (by omega))) (fun _ => ok_bd (z_adds hN hz (by omega)) (fun r9 σ9 τ9 h9 => ok_r h9))
    have up : ∀ {σ : gI} {g : Nat → Int32} {B2 : Int}, ZP σ g B2 → B2 ≤ B + 99 * 60 → ZP σ g (B + 99 * 60) := fun hh hle => zp_g hh hh.1 (by have := hh.2.1; omega) hle (fun _ _ _ => rfl)
    refine ok_ite (fun _ => ok_nm (fun s2 e2 => ok_ite (fun _ => E _ _ _ _ _ (up h (by omega)) e2) (fun _ => E _ _ _ _ _ (up h (by omega)) e2))) (fun c => ?_)
    rw [fa_le] at c
    have h22 := h.2.1
    refine ok_bd2 (w_does hN h.1 (by omega) (hC x5.toInt.toNat (by omega)) (by omega)) (fun r4 σ4 τ4 e4 h4 => ?_)
    obtain ⟨g1, q1, q2⟩ := h4
    have f4 := (fr_B_X12_does_0 N σ τ x5 e4).1
    have z4 : ZP σ4 g1 (B + 99 * x5.toInt + 99) := zp_g h q1 (by omega) (by omega) (fun c k hh => f4 c k (by omega))
    refine ok_ite (fun _ => ok_nm (fun s6 e6 => ok_ite (fun _ => E _ _ _ _ _ (up z4 (by omega)) e6) (fun _ => E _ _ _ _ _ (up z4 (by omega)) e6))) (fun _ => ok_nm (fun v ev => ?_))
    have eu : v.toInt = x5.toInt + 1 := by rw [ev, ti_add (by omega) (by omega), l1]
    refine ih σ4 τ4 g1 v (by rw [eu, show B + 99 * (x5.toInt + 1) = B + 99 * x5.toInt + 99 by omega]; exact z4) (by rw [f4 199 42 (by omega)]; exact hm) (fun k hk h2' => ?_) (by omega) (by omega)
    rw [f4 220 k (by omega)] at h2'
    rw [f4 221 k (by omega)]
    exact hC k hk h2'
theorem z_day (hN : 4294967296 ≤ N) {B1 : Int} (h : ZM σ g B) (hB : B + 6000 ≤ B1) (hB9 : B1 ≤ 900000000) : okp (fun (a : Int32) σ1 τ1 => ZN σ1 B1) (B_X12_day_0 N σ τ) := by
  unfold B_X12_day_0
  have l0 : (0 : Int32).toInt = 0 := rfl
  have l1 : (1 : Int32).toInt = 1 := rfl
  have l60 : (60 : Int32).toInt = 60 := rfl
  refine ok_nm (fun s1 e1 => ok_bd (p_begins (zm_up h e1 (by omega)) (by omega)) (fun r2 σ2 τ2 h2 => ok_nm (fun s3 e3 => ?_)))
  obtain ⟨z2, ⟨T, hT, p2, _⟩, _, _⟩ := h2
  have z3 := zm_up z2 e3 (by omega)
  have p3 : AP s3 0 T := ap_fr p2 (fun k hk => by rw [e3]; exact up2_ne (by omega))
  have g3 : (s3 199 42).toInt = 0 := by rw [e3]; unfold up2; rw [if_pos ⟨rfl, rfl⟩]; rfl
  suffices H : ∀ (n : Nat) (σ : gI) (τ : gJ) (A m : Int) (x2 x3 : Int32), ZM σ g B → AP σ A T → (σ 199 42).toInt = m → AC σ m → (0 ≤ m ∧ 2 * m ≤ A + 2) → (x3 = 0 ∨ (x3 = 1 ∧ 2 * m ≤ A)) → (2 * (T - A) + x3.toInt).toNat < n → okp (fun (a : Int32) σ1 τ1 => ZN σ1 B1) (H_X12_day_29 N n σ τ r2 x2 x3) from ok_ite (fun _ => H N s3 τ2 0 0 _ _ z3 p3 g3 (fun k hk => absurd hk (by omega)) (by omega) (Or.inl rfl) (by omega)) (fun _ => H N s3 τ2 0 0 _ _ z3 p3 g3 (fun k hk => absurd hk (by omega)) (by omega) (Or.inr ⟨rfl, by omega⟩) (by omega))
  intro n
  induction n with
  | zero => intro σ τ A m x2 x3 _ _ _ _ _ _ hm; exact absurd hm (Nat.not_lt_zero _)
  | succ n ih =>
    intro σ τ A m x2 x3 z p hm hC h0 h3 hme
    show okp _ (C_X12_day_29 N (H_X12_day_29 N n) σ τ r2 x2 x3)
    unfold C_X12_day_29
    have hab := ap_b p
    refine ok_ite (fun _ => ?_) (fun c3 => ?_)
    · refine ok_bd (p_faultOf p (by omega)) (fun r4 σ4 τ4 h4 => ?_)
      obtain ⟨h9, h4⟩ := h4
      subst h9
      refine ok_ite (fun _ => ?_) (fun _ => ok_r (zm_n z (by omega)))
      refine ok_bd2 (zp_by hN z) (fun _ σ5 τ5 e5 h5 => ok_nm (fun s6 e6 => ?_))
      have f5 := (fr_B_X12_putsBy_0 N σ _ e5).1
      have f6 : ∀ c k : Nat, ¬ (c = 199 ∧ k = 43) → s6 c k = σ5 c k := fun c k hh => by rw [e6]; exact up2_ne hh
      have z6 : ZP s6 g B := zp_g h5 (qb_up h5.1 e6 (by omega)) h5.2.1 (Int.le_refl _) (fun c k hh => f6 c k (by omega))
      refine z_day90 (m := m) hN hB hB9 (by omega) N s6 τ5 g 0 (by rw [l0]; simpa using z6) (by rw [f6 199 42 (by omega), f5 199 42 (by omega)]; exact hm) (fun k hk h2' => ?_) (by omega) (by omega)
      rw [f6 220 k (by omega), f5 220 k (by omega)] at h2'
      rw [f6 221 k (by omega), f5 221 k (by omega)]
      exact hC k hk h2'
    · have h31 : x3 = 1 ∧ 2 * m ≤ A := by
        rcases h3 with q | q
        · exact absurd q c3
        · exact q
      have x31 : x3.toInt = 1 := by rw [h31.1]; rfl
      refine ok_bd (p_readsAct hN p hm (by omega) hC) (fun r6 σ6 τ6 h6 => ?_)
      obtain ⟨f6, m6, C6, A6, k6, k7, a6⟩ := h6
      have z6 : ZM σ6 g B := zm_fr z (fun c k hh => f6 c k (by omega))
      have hab6 := ap_b a6
      refine ok_ite (fun _ => ih σ6 τ6 A6 (m + 1) _ _ z6 a6 m6 C6 (by omega) (Or.inl rfl) (by omega)) (fun c6 => ?_)
      rw [fa_eq] at c6
      have k8 := k7 (by omega)
      refine ok_bd (p_takes hN a6) (fun r8 σ8 τ8 h8 => ?_)
      obtain ⟨f8, b8, h8⟩ := h8
      have z8 : ZM σ8 g B := zm_fr z6 (fun c k hh => f8 c k (by omega))
      have m8 : (σ8 199 42).toInt = m + 1 := by rw [f8 199 42 (by omega)]; exact m6
      have C8 : AC σ8 (m + 1) := fun k hk h2' => by
        rw [f8 220 k (by omega)] at h2'
        rw [f8 221 k (by omega)]
        exact C6 k hk h2'
      refine ok_ite (fun c8 => ?_) (fun c8 => ?_)
      · rcases h8 with q | q
        · exact ih σ8 τ8 A6 (m + 1) _ _ z8 q.2 m8 C8 (by omega) (Or.inl rfl) (by omega)
        · have := ap_b q.2
          exact ih σ8 τ8 (A6 + 1) (m + 1) _ _ z8 q.2 m8 C8 (by omega) (Or.inl rfl) (by omega)
      · rw [fa_eq] at c8
        rcases h8 with q | q
        · omega
        · have := ap_b q.2
          exact ih σ8 τ8 (A6 + 1) (m + 1) _ _ z8 q.2 m8 C8 (by omega) (Or.inr ⟨rfl, by omega⟩) (by omega)
end DAY
