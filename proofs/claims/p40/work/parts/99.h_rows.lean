section ROWS
variable {R : Int} {g : Nat → Int32} {σ : gI} {τ : gJ} {N : Nat}
/-- a minute of a row beside that of now -/
theorem w_minute (hN : 4294967296 ≤ N) {q : Nat} {M : Int32} {B : Int} (hQ : QB R σ g) (hG : GQ σ q M B) (hq : q = 207 ∨ q = 224) (hM : 0 ≤ M.toInt ∧ M.toInt ≤ 6) (hB : B ≤ 2000000000) : okp (fun (a : Unit) σ1 τ1 => QB R σ1 g ∧ GQ σ1 q M (B + 1)) (B_X12_minuteGoes_0 N q σ τ) := by
  obtain ⟨n4, p4, a, b, c, d⟩ := hG
  have l1 : (1 : Int32).toInt = 1 := rfl
  obtain ⟨r, σ1, τ1, e, h⟩ := m_B_X12_minuteGoes_0 N hN τ a hQ.1 b (by omega) hM c
  have f := (fr_B_X12_minuteGoes_0 N q σ τ e).1
  have en : (n4 + 1).toInt = n4.toInt + 1 := by rw [ti_add (by omega) (by omega), l1]
  exact ⟨r, σ1, τ1, e, qb_fr hQ (fun c k h => f c k (by omega)), n4 + 1, p4, h.1, h.2.2, by omega, by omega⟩
/-- a minute of now -/
theorem w_minute6 (hN : 4294967296 ≤ N) (hQ : QB R σ g) (hB : (g 2).toInt < 1000000000) : okp (fun (a : Unit) σ1 τ1 => ∃ g1 : Nat → Int32, QB R σ1 g1 ∧ g1 0 = g 0 ∧ g1 1 = g 1 ∧ (g1 2).toInt = (g 2).toInt + 1 ∧ g1 3 = g 3 ∧ g1 4 = g 4) (B_X12_minuteGoes_0 N 206 σ τ) := by
  have hg := qb_rng hQ
  have l1 : (1 : Int32).toInt = 1 := rfl
  obtain ⟨r, σ1, τ1, e, h⟩ := m_B_X12_minuteGoes_0 N hN τ hQ.2.1 hQ.1 hQ.2.2.1 (by omega) hg.2.1 hg.2.2.1.1
  have f := (fr_B_X12_minuteGoes_0 N 206 σ τ e).1
  have en : (g 2 + 1).toInt = (g 2).toInt + 1 := by rw [ti_add (by omega) (by omega), l1]
  refine ⟨r, σ1, τ1, e, fun i => if i = 2 then g 2 + 1 else g i, ?_, rfl, rfl, en, rfl, rfl⟩
  obtain ⟨a, b, c, d, e5, ⟨k1, k2⟩, i, j, m⟩ := hQ
  have e52 := f 199 52 (by omega)
  have e3 := f 199 3 (by omega)
  refine ⟨h.2.1, h.1, h.2.2, ⟨d.1, ⟨?_, ?_⟩, d.2.2⟩, by rw [f 199 1 (by omega)]; exact e5, ⟨?_, fun k hk => ?_⟩, by rw [f 199 46 (by omega)]; exact i, e3.trans j, e52.trans m⟩
  · show 0 ≤ (g 2 + 1).toInt; omega
  · show (g 2 + 1).toInt ≤ 1000000000; omega
  · rw [e52]; exact k1
  · rw [e52] at hk
    rw [f 226 k (by omega), f 227 k (by omega), e3]
    exact k2 k hk
theorem w_endsAfter (hN : 4294967296 ≤ N) {q : Nat} {M x2 x3 : Int32} {B : Int} (hQ : QB R σ g) (hG : GQ σ q M B) (hq : q = 207 ∨ q = 224) (hM : 0 ≤ M.toInt ∧ M.toInt ≤ 6) (hB : B ≤ 1500000000) (h2 : 0 ≤ x2.toInt ∧ x2.toInt < M.toInt) (h3 : 0 ≤ x3.toInt ∧ x3.toInt ≤ 301) : okp (fun (a : Int32) σ1 τ1 => QB R σ1 g ∧ GQ σ1 q M (B + 301)) (B_X12_endsAfter_0 N q σ τ x2 x3) := by
  unfold B_X12_endsAfter_0
  have l1 : (1 : Int32).toInt = 1 := rfl
  have l4 : (4 : Int32).toInt = 4 := rfl
  have l300 : (300 : Int32).toInt = 300 := rfl
  have e4 := ti_7k (x := x2) (k := 4) (by omega) (by omega)
  suffices H : ∀ (n : Nat) (σ : gI) (τ : gJ) (x4 : Int32), QB R σ g → GQ σ q M (B + x4.toInt) → (0 ≤ x4.toInt ∧ x4.toInt ≤ 301) → (302 - x4.toInt).toNat < n → okp (fun (a : Int32) σ1 τ1 => QB R σ1 g ∧ GQ σ1 q M (B + 301)) (H_X12_endsAfter_3 N q n σ τ x2 x4) from H N σ τ x3 hQ (gq_w hG (by omega)) h3 (by omega)
  intro n
  induction n with
  | zero => intro σ τ x4 _ _ _ hm; exact absurd hm (Nat.not_lt_zero _)
  | succ n ih =>
    intro σ τ x4 hQ hG h0 hm
    show okp _ (C_X12_endsAfter_3 N q (H_X12_endsAfter_3 N q n) σ τ x2 x4)
    unfold C_X12_endsAfter_3
    refine ok_ite (fun _ => ok_r ⟨hQ, gq_w hG (by omega)⟩) (fun c0 => ?_)
    rw [fa_lt] at c0
    refine ok_ck ⟨by omega, by omega⟩ (fun j hj lj => ok_ite (fun _ => ok_ite (fun c => ok_nm (fun v ev => ?_)) (fun c => ?_)) (fun _ => ok_r ⟨hQ, gq_w hG (by omega)⟩))
    · have eu : v.toInt = x4.toInt + 1 := by rw [ev, ti_add (by omega) (by omega), l1]
      exact ih σ τ v hQ (gq_w hG (by omega)) (by omega) (by omega)
    · refine ok_bd (w_minute hN hQ hG hq hM (by omega)) (fun _ σ6 τ6 hp => ok_nm (fun v ev => ?_))
      have eu : v.toInt = x4.toInt + 1 := by rw [ev, ti_add (by omega) (by omega), l1]
      exact ih σ6 τ6 v hp.1 (gq_w hp.2 (by omega)) (by omega) (by omega)
theorem w_B_X12_puts_0 (hN : 4294967296 ≤ N) (hQ : QB R σ g) : okp (fun (a : Unit) σ1 τ1 => QB R σ1 g ∧ GQ σ1 207 (g 1) 1000000000) (B_X12_puts_0 N σ τ) := by
  unfold B_X12_puts_0
  have hg := qb_rng hQ
  have l0 : (0 : Int32).toInt = 0 := rfl
  have l1 : (1 : Int32).toInt = 1 := rfl
  have l45 : (45 : Int32).toInt = 45 := rfl
  suffices H : ∀ (n : Nat) (σ : gI) (τ : gJ) (x2 : Int32), QB R σ g → (∀ k : Nat, (k : Int) < x2.toInt → σ 207 k = σ 206 k) → (0 ≤ x2.toInt ∧ x2.toInt ≤ 45) → (46 - x2.toInt).toNat < n → okp (fun (a : Unit) σ1 τ1 => QB R σ1 g ∧ GQ σ1 207 (g 1) 1000000000) (H_X12_puts_2 N n σ τ x2) from H N σ τ 0 hQ (fun k hk => absurd hk (by omega)) (by omega) (by omega)
  intro n
  induction n with
  | zero => intro σ τ x2 _ _ _ hm; exact absurd hm (Nat.not_lt_zero _)
  | succ n ih =>
    intro σ τ x2 hQ hE h0 hm
    show okp _ (C_X12_puts_2 N (H_X12_puts_2 N n) σ τ x2)
    unfold C_X12_puts_2
    refine ok_ite (fun c => ok_r ⟨hQ, ?_⟩) (fun c => ?_)
    · rw [fa_le] at c
      obtain ⟨a, b, kk, d, e5, k1, i, j, m⟩ := hQ
      refine ⟨g 2, g 3, ⟨(hE 42 (by omega)).trans b.1, (hE 43 (by omega)).trans b.2.1, (hE 44 (by omega)).trans b.2.2.1, fun t ht => ?_⟩, fun t ht hx hw => ?_, hg.2.2.1.1, hg.2.2.1.2⟩
      · rw [hE (7 * t) (by omega)]; exact b.2.2.2 t ht
      · rw [hE (7 * t + 4) (by omega)] at hw
        rw [hE (7 * t) (by omega)]; exact kk t ht hx hw
    · rw [fa_le] at c
      refine ok_ck ⟨by omega, by omega⟩ (fun j hj lj => ok_nm (fun σ3 e3 => ok_nm (fun v ev => ?_)))
      have eu : v.toInt = x2.toInt + 1 := by rw [ev, ti_add (by omega) (by omega), l1]
      refine ih σ3 τ v (qb_up hQ e3 (by omega)) (fun k hk => ?_) (by omega) (by omega)
      have e6 : σ3 206 k = σ 206 k := by rw [e3]; exact up2_ne (by omega)
      rw [e6]
      by_cases hkj : k = j
      · rw [e3, hkj]; unfold up2; rw [if_pos ⟨rfl, rfl⟩]
      · rw [e3, up2_ne (by omega)]; exact hE k (by omega)
theorem w_B_X12_goesOn_0 (hN : 4294967296 ≤ N) {x1 : Int32} (hQ : QB R σ g) (h1 : x1.toInt ≤ 300) : okp (fun (a : Unit) σ1 τ1 => QB R σ1 g ∧ GQ σ1 207 (g 1) 1000000301) (B_X12_goesOn_0 N σ τ x1) := by
  unfold B_X12_goesOn_0
  have hg := qb_rng hQ
  have l0 : (0 : Int32).toInt = 0 := rfl
  have l1 : (1 : Int32).toInt = 1 := rfl
  refine ok_bd (w_B_X12_puts_0 hN hQ) (fun _ σ1 τ1 hp => ?_)
  suffices H : ∀ (n : Nat) (σ : gI) (τ : gJ) (x2 : Int32), QB R σ g → GQ σ 207 (g 1) (1000000000 + x2.toInt) → (0 ≤ x2.toInt ∧ x2.toInt ≤ 301) → (302 - x2.toInt).toNat < n → okp (fun (a : Unit) σ1 τ1 => QB R σ1 g ∧ GQ σ1 207 (g 1) 1000000301) (H_X12_goesOn_13 N n σ τ x1 x2) from H N σ1 τ1 0 hp.1 (gq_w hp.2 (by omega)) (by omega) (by omega)
  intro n
  induction n with
  | zero => intro σ τ x2 _ _ _ hm; exact absurd hm (Nat.not_lt_zero _)
  | succ n ih =>
    intro σ τ x2 hQ hG h0 hm
    show okp _ (C_X12_goesOn_13 N (H_X12_goesOn_13 N n) σ τ x1 x2)
    unfold C_X12_goesOn_13
    refine ok_ite (fun _ => ok_r ⟨hQ, gq_w hG (by omega)⟩) (fun c => ?_)
    rw [fa_le] at c
    refine ok_bd (w_minute hN hQ hG (by omega) hg.2.1 (by omega)) (fun _ σ6 τ6 hp => ok_nm (fun v ev => ?_))
    have eu : v.toInt = x2.toInt + 1 := by rw [ev, ti_add (by omega) (by omega), l1]
    exact ih σ6 τ6 v hp.1 (gq_w hp.2 (by omega)) (by omega) (by omega)
/-- a thing is laid into a row, as its last or over an elder one -/
theorem w_lays (N : Nat) {q : Nat} {M4 N4 P4 x2 x3 x4 x5 x6 : Int32} (hR : RJ σ q M4 N4 P4) (hS : SI σ) (hK : RK σ q M4 x2.toInt) (hq : q = 206 ∨ q = 207 ∨ q = 224) (hM : 0 ≤ M4.toInt ∧ M4.toInt ≤ 6) (h2 : 0 ≤ x2.toInt ∧ x2.toInt < 6) (h3 : 0 ≤ x3.toInt ∧ x3.toInt < (σ 199 3).toInt) : okp (fun (a : Unit) σ1 τ1 => RJ σ1 q M4 N4 P4 ∧ SI σ1 ∧ RK σ1 q M4 x2.toInt ∧ σ1 q (7 * x2.toInt.toNat) = x3 ∧ (σ1 q (7 * x2.toInt.toNat + 4) = 0 → σ 201 x3.toInt.toNat ≠ 6) ∧ (∀ c k : Nat, ¬ (c = q) → σ1 c k = σ c k)) (B_X12_lays_0 N q σ τ x2 x3 x4 x5 x6) := by
  unfold B_X12_lays_0
  have hp := hS.1.1
  have l0 : (0 : Int32).toInt = 0 := rfl
  have l1 : (1 : Int32).toInt = 1 := rfl
  have l2 : (2 : Int32).toInt = 2 := rfl
  have l3 : (3 : Int32).toInt = 3 := rfl
  have l4 : (4 : Int32).toInt = 4 := rfl
  have l5 : (5 : Int32).toInt = 5 := rfl
  have l6 : (6 : Int32).toInt = 6 := rfl
  refine ok_nm (fun v ev => ?_)
  have ew : v.toInt = 7 * x2.toInt := by rw [ev, ti_mul7 (by omega)]
  have a0 := ti_add (a := v) (b := 0) (by omega) (by omega)
  have a1 := ti_add (a := v) (b := 1) (by omega) (by omega)
  have a2 := ti_add (a := v) (b := 2) (by omega) (by omega)
  have a3 := ti_add (a := v) (b := 3) (by omega) (by omega)
  have a4 := ti_add (a := v) (b := 4) (by omega) (by omega)
  have a5 := ti_add (a := v) (b := 5) (by omega) (by omega)
  have a6 := ti_add (a := v) (b := 6) (by omega) (by omega)
  refine ok_ck ⟨by omega, by omega⟩ (fun j2 hj2 lj2 => ok_nm (fun s3 e3 => ok_ck ⟨by omega, by omega⟩ (fun j4 hj4 lj4 => ok_nm (fun s5 e5 => ok_ck ⟨by omega, by omega⟩ (fun j6 hj6 lj6 => ok_nm (fun s7 e7 => ok_ck ⟨by omega, by omega⟩ (fun j8 hj8 lj8 => ok_nm (fun s9 e9 => ok_ck ⟨by omega, by omega⟩ (fun j10 hj10 lj10 => ?_)))))))))
  have R3 := rj_upq hR e3 (by omega) hM.2 (by omega) (fun _ => h3)
  have p3 : s3 199 3 = σ 199 3 := by rw [e3]; exact up2_ne (by omega)
  have R5 := rj_upq R3 e5 (by omega) hM.2 (by omega) (by omega)
  have R7 := rj_upq R5 e7 (by omega) hM.2 (by omega) (by omega)
  have R9 := rj_upq R7 e9 (by omega) hM.2 (by omega) (by omega)
  have S9 := si_up (si_up (si_up (si_up hS e3 (by omega)) e5 (by omega)) e7 (by omega)) e9 (by omega)
  have K9 := rk_wr (rk_wr (rk_wr (rk_wr hK e3 (by omega) (by omega)) e5 (by omega) (by omega)) e7 (by omega) (by omega)) e9 (by omega) (by omega)
  have at9 : s9 q (7 * x2.toInt.toNat) = x3 := by
    rw [e9, up2_ne (by omega), e7, up2_ne (by omega), e5, up2_ne (by omega), e3, show 7 * x2.toInt.toNat = j2 by omega]
    unfold up2
    rw [if_pos ⟨rfl, rfl⟩]
  have f9 : ∀ c k : Nat, ¬ (c = q) → s9 c k = σ c k := fun c k hc => by rw [e9, up2_ne (by omega), e7, up2_ne (by omega), e5, up2_ne (by omega), e3, up2_ne (by omega)]
  have fin : ∀ y0 : Int32, (y0 = 0 → σ 201 x3.toInt.toNat ≠ 6) → okp (fun (a : Unit) σ1 τ1 => RJ σ1 q M4 N4 P4 ∧ SI σ1 ∧ RK σ1 q M4 x2.toInt ∧ σ1 q (7 * x2.toInt.toNat) = x3 ∧ (σ1 q (7 * x2.toInt.toNat + 4) = 0 → σ 201 x3.toInt.toNat ≠ 6) ∧ (∀ c k : Nat, ¬ (c = q) → σ1 c k = σ c k)) (B_X12_lays_59 N q s9 τ x3 x6 v y0 (v + 4)) := by
    intro y0 hy
    unfold B_X12_lays_59
    refine ok_ck ⟨by omega, by omega⟩ (fun k1 hk1 lk1 => ok_nm (fun t2 d2 => ok_ck ⟨by omega, by omega⟩ (fun k3 hk3 lk3 => ok_nm (fun t4 d4 => ok_ck ⟨by omega, by omega⟩ (fun k5 hk5 lk5 => ?_)))))
    have T2 := rj_upq R9 d2 (by omega) hM.2 (by omega) (by omega)
    have T4 := rj_upq T2 d4 (by omega) hM.2 (by omega) (by omega)
    have U4 := si_up (si_up S9 d2 (by omega)) d4 (by omega)
    have V4 := rk_wr (rk_wr K9 d2 (by omega) (by omega)) d4 (by omega) (by omega)
    have at4 : t4 q (7 * x2.toInt.toNat) = x3 := by rw [d4, up2_ne (by omega), d2, up2_ne (by omega)]; exact at9
    have ho4 : t4 q (7 * x2.toInt.toNat + 4) = y0 := by
      rw [d4, up2_ne (by omega), d2, show 7 * x2.toInt.toNat + 4 = k1 by omega]
      unfold up2
      rw [if_pos ⟨rfl, rfl⟩]
    have f4 : ∀ c k : Nat, ¬ (c = q) → t4 c k = σ c k := fun c k hc => by rw [d4, up2_ne (by omega), d2, up2_ne (by omega)]; exact f9 c k hc
    refine ok_ite (fun _ => ok_ck ⟨by omega, by omega⟩ (fun k9 hk9 lk9 => ok_nm (fun t10 d10 => ok_r ?_))) (fun _ => ok_ck ⟨by omega, by omega⟩ (fun k9 hk9 lk9 => ok_nm (fun t10 d10 => ok_r ?_)))
    · refine ⟨rj_upq T4 d10 (by omega) hM.2 (by omega) (by omega), si_up U4 d10 (by omega), rk_wr V4 d10 (by omega) (by omega), by rw [d10, up2_ne (by omega)]; exact at4, fun z => hy ?_, fun c k hc => by rw [d10, up2_ne (by omega)]; exact f4 c k hc⟩
      rw [d10, up2_ne (by omega), ho4] at z
      exact z
    · refine ⟨rj_upq T4 d10 (by omega) hM.2 (by omega) (by omega), si_up U4 d10 (by omega), rk_wr V4 d10 (by omega) (by omega), by rw [d10, up2_ne (by omega)]; exact at4, fun z => hy ?_, fun c k hc => by rw [d10, up2_ne (by omega)]; exact f4 c k hc⟩
      rw [d10, up2_ne (by omega), ho4] at z
      exact z
  have e201 : s9 201 j10 = σ 201 x3.toInt.toNat := by rw [f9 201 j10 (by omega), show j10 = x3.toInt.toNat by omega]
  refine ok_ite (fun _ => fin 1 (fun z => absurd z (by decide))) (fun c => fin 0 (fun _ => ?_))
  rw [← e201]
  exact c
theorem w_B_X12_laysAlone_0 (hN : 4294967296 ≤ N) {x1 x2 x3 x4 : Int32} (hQ : QB R σ g) (h1 : 0 ≤ x1.toInt ∧ x1.toInt < (g 0).toInt) : okp (fun (a : Unit) σ1 τ1 => QB R σ1 g ∧ GQ σ1 224 1 1000000000) (B_X12_laysAlone_0 N σ τ x1 x2 x3 x4) := by
  unfold B_X12_laysAlone_0
  have l0 : (0 : Int32).toInt = 0 := rfl
  have l1 : (1 : Int32).toInt = 1 := rfl
  have l45 : (45 : Int32).toInt = 45 := rfl
  suffices H : ∀ (n : Nat) (σ : gI) (τ : gJ) (x5 : Int32), QB R σ g → (∀ k : Nat, (k : Int) < x5.toInt → σ 224 k = 0) → (0 ≤ x5.toInt ∧ x5.toInt ≤ 45) → (46 - x5.toInt).toNat < n → okp (fun (a : Unit) σ1 τ1 => QB R σ1 g ∧ GQ σ1 224 1 1000000000) (H_X12_laysAlone_3 N n σ τ x1 x2 x3 x4 x5) from H N σ τ 0 hQ (fun k hk => absurd hk (by omega)) (by omega) (by omega)
  intro n
  induction n with
  | zero => intro σ τ x5 _ _ _ hm; exact absurd hm (Nat.not_lt_zero _)
  | succ n ih =>
    intro σ τ x5 hQ hE h0 hm
    show okp _ (C_X12_laysAlone_3 N (H_X12_laysAlone_3 N n) σ τ x1 x2 x3 x4 x5)
    unfold C_X12_laysAlone_3
    have pl := qb_pl hQ
    have h46 := hQ.2.2.2.2.2.2.1
    have hpl := hQ.1.1.1
    refine ok_ite (fun c => ?_) (fun c => ?_)
    · rw [fa_le] at c
      refine ok_nm (fun s2 e2 => ok_nm (fun s3 e3 => ok_nm (fun s4 e4 => ?_)))
      have q4 := qb_up (qb_up (qb_up hQ e2 (by omega)) e3 (by omega)) e4 (by omega)
      have g4 : ∀ k : Nat, k < 42 → s4 224 k = 0 := fun k hk => by rw [e4, up2_ne (by omega), e3, up2_ne (by omega), e2, up2_ne (by omega)]; exact hE k (by omega)
      have p4 := qb_pl q4
      have m44 : s4 224 44 = 1 := by rw [e4]; unfold up2; rw [if_pos ⟨rfl, rfl⟩]
      have m43 : s4 224 43 = σ 199 46 := by rw [e4, up2_ne (by omega), e3]; unfold up2; rw [if_pos ⟨rfl, rfl⟩, e2, up2_ne (by omega)]
      have R4 : RJ s4 224 1 (s4 224 43) (s4 224 42) := by
        refine ⟨rfl, rfl, m44, fun t ht => ?_⟩
        rw [g4 (7 * t) (by omega)]
        omega
      have K4 : RK s4 224 1 (0 : Int32).toInt := fun t ht hx => absurd (show (t : Int) = (0 : Int32).toInt by omega) hx
      refine ok_bd (w_lays N (x2 := 0) R4 q4.1 K4 (by omega) (by omega) (by omega) (by omega)) (fun _ σ9 τ9 hp => ok_r ?_)
      obtain ⟨a1, a2, a3, a4, a5, a6⟩ := hp
      have q9 := qb_fr q4 (fun c k h => a6 c k (by omega))
      refine ⟨q9, s4 224 43, s4 224 42, a1, ?_, ?_, ?_⟩
      · refine rk_whole a3 (fun t ht hw => ?_)
        have t0 : t = (0 : Int32).toInt.toNat := by omega
        rw [t0] at hw ⊢
        rw [a4, a6 201 _ (by omega)]
        exact a5 hw
      · rw [m43]; omega
      · rw [m43]; omega
    · rw [fa_le] at c
      refine ok_ck ⟨by omega, by omega⟩ (fun j hj lj => ok_nm (fun σ3 e3 => ok_nm (fun v ev => ?_)))
      have eu : v.toInt = x5.toInt + 1 := by rw [ev, ti_add (by omega) (by omega), l1]
      refine ih σ3 τ v (qb_up hQ e3 (by omega)) (fun k hk => ?_) (by omega) (by omega)
      by_cases hkj : k = j
      · rw [e3, hkj]; unfold up2; rw [if_pos ⟨rfl, rfl⟩]
      · rw [e3, up2_ne (by omega)]; exact hE k (by omega)
theorem w_B_X12_goesAlone_0 (hN : 4294967296 ≤ N) {x1 x2 x3 x4 : Int32} (hQ : QB R σ g) (h1 : 0 ≤ x1.toInt ∧ x1.toInt < (g 0).toInt) : okp (fun (a : Int32) σ1 τ1 => QB R σ1 g ∧ 0 ≤ (σ1 224 0).toInt ∧ (σ1 224 0).toInt < (g 0).toInt) (B_X12_goesAlone_0 N σ τ x1 x2 x3 x4) := by
  unfold B_X12_goesAlone_0
  have l0 : (0 : Int32).toInt = 0 := rfl
  have l1 : (1 : Int32).toInt = 1 := rfl
  refine ok_bd (w_B_X12_laysAlone_0 hN hQ h1) (fun _ σ1 τ1 hp => ok_bd (w_endsAfter hN hp.1 hp.2 (by omega) (by omega) (by omega) (by omega) (by omega)) (fun r σ2 τ2 h2 => ok_r ⟨h2.1, ?_⟩))
  have h3 := gq_at h2.2 0 (by omega) (j := 0) rfl
  rw [qb_pl h2.1] at h3
  exact h3
theorem w_B_X12_sails_0 (hN : 4294967296 ≤ N) {x1 x2 x3 x4 x5 : Int32} (hQ : QB R σ g) (h1 : 0 ≤ x1.toInt ∧ x1.toInt < (g 0).toInt) : okp (fun (a : Int32) σ1 τ1 => QB R σ1 g ∧ 0 ≤ (σ1 224 0).toInt ∧ (σ1 224 0).toInt < (g 0).toInt) (B_X12_sails_0 N σ τ x1 x2 x3 x4 x5) := by
  unfold B_X12_sails_0
  exact ok_bd (w_B_X12_goesAlone_0 hN hQ h1) (fun r σ1 τ1 hp => ok_ite (fun _ => ok_r hp) (fun _ => ok_ite (fun _ => ok_ite (fun _ => ok_r hp) (fun _ => ok_r hp)) (fun _ => ok_r hp)))
theorem w_B_X12_floatsTo_0 (hN : 4294967296 ≤ N) {x1 x2 x3 : Int32} (hQ : QB R σ g) (h1 : 0 ≤ x1.toInt ∧ x1.toInt < (g 0).toInt) (h2 : 0 ≤ x2.toInt ∧ x2.toInt ≤ 1000000000) : okp (fun (a : Int32) σ1 τ1 => QB R σ1 g ∧ -1 ≤ a.toInt ∧ a.toInt < (g 0).toInt) (B_X12_floatsTo_0 N σ τ x1 x2 x3) := by
  unfold B_X12_floatsTo_0
  have hg := qb_rng hQ
  have lm : (-1 : Int32).toInt = -1 := rfl
  refine ok_nm (fun s1 e1 => ok_nm (fun s2 e2 => ?_))
  have q1 := qb_up hQ e1 (by omega)
  have q2 : QB R s2 g := by
    refine qb_fr0 q1 (fun c k h => by rw [e2]; exact up2_ne (by omega)) (by rw [e2, up2_ne (by omega)]; exact q1.2.2.2.2.1) ?_
    rw [e2]
    unfold up2
    rw [if_pos ⟨rfl, rfl⟩]
    exact h2
  refine ok_bd (w_B_X12_goesAlone_0 hN q2 h1) (fun r σ1 τ1 hp => ok_ite (fun _ => ok_r ⟨hp.1, by omega, hp.2.2⟩) (fun _ => ok_r ⟨hp.1, by omega, by omega⟩))
theorem w_B_X12_savedAfter_0 (hN : 4294967296 ≤ N) {x1 x2 : Int32} (hQ : QB R σ g) : okp (fun (a : Int32) σ1 τ1 => QB R σ1 g) (B_X12_savedAfter_0 N σ τ x1 x2) := by
  unfold B_X12_savedAfter_0
  have hg := qb_rng hQ
  have l0 : (0 : Int32).toInt = 0 := rfl
  have l1 : (1 : Int32).toInt = 1 := rfl
  have l300 : (300 : Int32).toInt = 300 := rfl
  refine ok_bd (w_B_X12_puts_0 hN hQ) (fun _ σ1 τ1 hp => ok_nm (fun s2 e2 => ?_))
  have G2 : GQ s2 207 (g 1) 1000000000 := by
    obtain ⟨n4, p4, a, b, c, d⟩ := hp.2
    refine ⟨n4, s2 207 42, ⟨rfl, ?_, ?_, fun t ht => ?_⟩, rk_last b e2 (by omega) hg.2.1.2 (by omega), c, d⟩
    · rw [e2, up2_ne (by omega)]; exact a.2.1
    · rw [e2, up2_ne (by omega)]; exact a.2.2.1
    · rw [e2, up2_ne (by omega), up2_ne (by omega)]; exact a.2.2.2 t ht
  suffices H : ∀ (n : Nat) (σ : gI) (τ : gJ) (x3 : Int32), QB R σ g → GQ σ 207 (g 1) (1000000000 + x3.toInt) → (0 ≤ x3.toInt ∧ x3.toInt ≤ 301) → (302 - x3.toInt).toNat < n → okp (fun (a : Int32) σ1 τ1 => QB R σ1 g) (H_X12_savedAfter_24 N n σ τ x1 x3) from H N s2 τ1 0 (qb_up hp.1 e2 (by omega)) (gq_w G2 (by omega)) (by omega) (by omega)
  intro n
  induction n with
  | zero => intro σ τ x3 _ _ _ hm; exact absurd hm (Nat.not_lt_zero _)
  | succ n ih =>
    intro σ τ x3 hQ hG h0 hm
    show okp _ (C_X12_savedAfter_24 N (H_X12_savedAfter_24 N n) σ τ x1 x3)
    unfold C_X12_savedAfter_24
    refine ok_ite (fun _ => ok_r hQ) (fun c => ?_)
    rw [fa_lt] at c
    refine ok_bd (w_B_X12_thoseHow_0 hN hG hg.2.1) (fun r2 σ2 τ2 h2 => ?_)
    obtain ⟨h9, h2⟩ := h2
    subst h9
    refine ok_ite (fun _ => ok_r hQ) (fun _ => ?_)
    refine ok_bd (w_B_X12_thoseHow_0 hN hG hg.2.1) (fun r4 σ4 τ4 h4 => ?_)
    obtain ⟨h9, h4⟩ := h4
    subst h9
    refine ok_ite (fun _ => ok_ite (fun _ => ok_nm (fun v ev => ?_)) (fun _ => ?_)) (fun _ => ok_r hQ)
    · have eu : v.toInt = x3.toInt + 1 := by rw [ev, ti_add (by omega) (by omega), l1]
      exact ih _ _ v hQ (gq_w hG (by omega)) (by omega) (by omega)
    · refine ok_bd (w_minute hN hQ hG (by omega) hg.2.1 (by omega)) (fun _ σ6 τ6 hp => ok_nm (fun v ev => ?_))
      have eu : v.toInt = x3.toInt + 1 := by rw [ev, ti_add (by omega) (by omega), l1]
      exact ih σ6 τ6 v hp.1 (gq_w hp.2 (by omega)) (by omega) (by omega)
end ROWS
