section TOWN2
variable {B B1 : Int} {g : Nat → Int32} {N : Nat}
/-- behind the last check: the town is laid -/
theorem z_town86 (hN : 4294967296 ≤ N) {σ0 : gI} {w m : Int} (h : ZM σ0 g B) (hB : B ≤ B1) (hw : (σ0 199 24).toInt = w) (hw0 : 0 ≤ w ∧ w ≤ 80) (hM : MN σ0 w) (hm : (σ0 199 21).toInt = m) (hm0 : 0 ≤ m ∧ m ≤ 12) (hP : TP σ0 m w) : ∀ (n : Nat) (τ : gJ) (x5 : Int32), (∀ k : Nat, (k : Int) < x5.toInt → (σ0 213 k).toInt < m) → (0 ≤ x5.toInt ∧ x5.toInt ≤ w) → (81 - x5.toInt).toNat < n → okp (fun (a : Int32) σ1 τ1 => ZN σ1 B1) (H_X12_town_86 N n σ0 τ x5) := by
  have l0 : (0 : Int32).toInt = 0 := rfl
  have l1 : (1 : Int32).toInt = 1 := rfl
  have l3 : (3 : Int32).toInt = 3 := rfl
  have l45 : (45 : Int32).toInt = 45 := rfl
  intro n
  induction n with
  | zero => intro τ x5 _ _ hm; exact absurd hm (Nat.not_lt_zero _)
  | succ n ih =>
    intro τ x5 hK h5 hme
    show okp _ (C_X12_town_86 N (H_X12_town_86 N n) σ0 τ x5)
    unfold C_X12_town_86
    refine ok_ite (fun c => ok_nm (fun s2 e2 => ?_)) (fun c => ?_)
    · rw [fa_le] at c
      have hall : ∀ k : Nat, (k : Int) < w → 0 ≤ (σ0 213 k).toInt ∧ (σ0 213 k).toInt < m := fun k hk => ⟨hM k hk, hK k (by omega)⟩
      have f2 : ∀ c k : Nat, ¬ (c = 199 ∧ k = 3) → s2 c k = σ0 c k := fun c k hh => by rw [e2]; exact up2_ne hh
      have g2 : s2 199 3 = σ0 199 21 := by rw [e2]; unfold up2; rw [if_pos ⟨rfl, rfl⟩]
      suffices H : ∀ (n : Nat) (σ1 : gI) (τ : gJ) (x5 : Int32), (∀ c k : Nat, ¬ (201 ≤ c ∧ c ≤ 204) → σ1 c k = s2 c k) → (∀ p : Nat, (p : Int) < x5.toInt → σ1 201 p = σ0 209 p ∧ σ1 202 p = σ0 210 p ∧ σ1 203 p = σ0 211 p ∧ σ1 204 p = σ0 212 p) → (0 ≤ x5.toInt ∧ x5.toInt ≤ m) → (13 - x5.toInt).toNat < n → okp (fun (a : Int32) σ1 τ1 => ZN σ1 B1) (H_X12_town_136 N n σ1 τ x5) from H N s2 τ 0 (fun _ _ _ => rfl) (fun p hp => absurd hp (by omega)) (by omega) (by omega)
      intro n
      induction n with
      | zero => intro σ1 τ x5 _ _ _ hm; exact absurd hm (Nat.not_lt_zero _)
      | succ n ih =>
        intro σ1 τ x5 F1 F2 h5 hme
        show okp _ (C_X12_town_136 N (H_X12_town_136 N n) σ1 τ x5)
        unfold C_X12_town_136
        have g1 : (σ1 199 3).toInt = m := by rw [F1 199 3 (by omega), g2]; exact hm
        refine ok_ite (fun c => ?_) (fun c => ?_)
        · rw [fa_le] at c
          have hTI : TI σ1 := by
            refine ⟨by omega, fun p hp => ?_⟩
            have hq := F2 p (by omega)
            rw [hq.1, hq.2.1, hq.2.2.1, hq.2.2.2, g1]
            have hr := hP p (by omega)
            refine ⟨fun z => ?_, fun z => ?_, hr.2.2⟩
            · obtain ⟨k, k1, k2⟩ := hr.1 z
              rw [← k2]; exact hall k k1
            · obtain ⟨k, k1, k2⟩ := hr.2.1 z
              rw [← k2]; exact hall k k1
          have f1 : ∀ c k : Nat, ¬ ((201 ≤ c ∧ c ≤ 204) ∨ (c = 199 ∧ k = 3)) → σ1 c k = σ0 c k := fun c k hh => (F1 c k (by omega)).trans (f2 c k (by omega))
          suffices H : ∀ (n : Nat) (σ2 : gI) (τ : gJ) (x5 : Int32), (∀ c k : Nat, ¬ (c = 206) → σ2 c k = σ1 c k) → (∀ p : Nat, (p : Int) < x5.toInt → σ2 206 p = 0) → (0 ≤ x5.toInt ∧ x5.toInt ≤ 45) → (46 - x5.toInt).toNat < n → okp (fun (a : Int32) σ1 τ1 => ZN σ1 B1) (H_X12_town_210 N n σ2 τ x5) from H N σ1 τ 0 (fun _ _ _ => rfl) (fun p hp => absurd hp (by omega)) (by omega) (by omega)
          intro n
          induction n with
          | zero => intro σ2 τ x5 _ _ _ hm; exact absurd hm (Nat.not_lt_zero _)
          | succ n ih =>
            intro σ2 τ x5 G1 G2 h5 hme
            show okp _ (C_X12_town_210 N (H_X12_town_210 N n) σ2 τ x5)
            unfold C_X12_town_210
            refine ok_ite (fun c => ok_nm (fun s3 e3 => ok_nm (fun s4 e4 => ?_))) (fun c => ?_)
            · rw [fa_le] at c
              have f4 : ∀ c k : Nat, ¬ (c = 199 ∧ (k = 52 ∨ k = 36)) → s4 c k = σ2 c k := fun c k hh => by rw [e4, up2_ne (by omega), e3, up2_ne (by omega)]
              have z52 : s4 199 52 = 0 := by rw [e4, up2_ne (by omega), e3]; unfold up2; rw [if_pos ⟨rfl, rfl⟩]
              have z36 : s4 199 36 = 0 := by rw [e4]; unfold up2; rw [if_pos ⟨rfl, rfl⟩]
              suffices H : ∀ (n : Nat) (σ5 : gI) (τ : gJ) (x5 : Int32), (∀ c k : Nat, ¬ (c = 231) → σ5 c k = s4 c k) → (∀ p : Nat, (p : Int) < x5.toInt → σ5 231 p = 0) → (0 ≤ x5.toInt ∧ x5.toInt ≤ 3) → (4 - x5.toInt).toNat < n → okp (fun (a : Int32) σ1 τ1 => ZN σ1 B1) (H_X12_town_244 N n σ5 τ x5) from H N s4 τ 0 (fun _ _ _ => rfl) (fun p hp => absurd hp (by omega)) (by omega) (by omega)
              intro n
              induction n with
              | zero => intro σ5 τ x5 _ _ _ hm; exact absurd hm (Nat.not_lt_zero _)
              | succ n ih =>
                intro σ5 τ x5 I1 I2 h5 hme
                show okp _ (C_X12_town_244 N (H_X12_town_244 N n) σ5 τ x5)
                unfold C_X12_town_244
                refine ok_ite (fun c => ok_r ?_) (fun c => ?_)
                · rw [fa_le] at c
                  have t1 : ∀ c k : Nat, ¬ (c = 231 ∨ c = 206 ∨ (c = 199 ∧ (k = 52 ∨ k = 36))) → σ5 c k = σ1 c k := fun c k hh => (I1 c k (by omega)).trans ((f4 c k (by omega)).trans (G1 c k (by omega)))
                  have t0 : ∀ c k : Nat, ¬ (c = 231 ∨ c = 206 ∨ (201 ≤ c ∧ c ≤ 204) ∨ (c = 199 ∧ (k = 52 ∨ k = 36 ∨ k = 3))) → σ5 c k = σ0 c k := fun c k hh => (t1 c k (by omega)).trans (f1 c k (by omega))
                  have r0 : ∀ p : Nat, p < 45 → σ5 206 p = 0 := fun p hp => (I1 206 p (by omega)).trans ((f4 206 p (by omega)).trans (G2 p (by omega)))
                  have y52 : σ5 199 52 = 0 := (I1 199 52 (by omega)).trans z52
                  have y36 : (σ5 199 36).toInt = 0 := by rw [I1 199 36 (by omega), z36]; rfl
                  have hgr := qb_rng h.1
                  have hb := h.2.1
                  refine ⟨fun i => if i = 0 then σ5 199 3 else 0, ⟨⟨?_, ?_, ?_⟩, ⟨r0 42 (by omega), r0 43 (by omega), r0 44 (by omega), fun t ht => ?_⟩, fun t ht => ?_, ⟨(by show 0 ≤ (0 : Int32).toInt ∧ (0 : Int32).toInt ≤ 6; decide), (by show 0 ≤ (0 : Int32).toInt ∧ (0 : Int32).toInt ≤ 1000000000; decide), (by show 0 ≤ (0 : Int32).toInt ∧ (0 : Int32).toInt < 4096; decide)⟩, ?_, ⟨?_, fun k hk => ?_⟩, ?_, rfl, y52⟩, ?_, by omega, ?_, fun i hi hn => ?_, ?_⟩
                  · refine ⟨by rw [t1 199 3 (by omega)]; exact hTI.1, fun p hp => ?_⟩
                    rw [t1 199 3 (by omega)] at hp ⊢
                    rw [t1 201 p (by omega), t1 202 p (by omega), t1 203 p (by omega), t1 204 p (by omega)]
                    exact hTI.2 p hp
                  · unfold WI; rw [t0 199 4 (by omega)]; exact h.1.1.2.1
                  · refine ⟨by rw [t0 199 28 (by omega)]; exact h.1.1.2.2.1, fun k hk => ?_⟩
                    rw [t0 199 28 (by omega)] at hk
                    rw [show σ5 216 = σ0 216 from funext fun k => t0 216 k (by omega)]
                    exact h.1.1.2.2.2 k hk
                  · have ht' : (t : Int) < (0 : Int32).toInt := ht
                    omega
                  · have ht' : (t : Int) < (0 : Int32).toInt := ht
                    omega
                  · rw [t0 199 1 (by omega)]; exact h.1.2.2.2.2.1
                  · rw [y52]; decide
                  · rw [y52] at hk; omega
                  · rw [t0 199 46 (by omega)]; exact h.1.2.2.2.2.2.2.1
                  · show (0 : Int32).toInt ≤ B1
                    omega
                  · rw [y36]; exact fun i hi => absurd hi (by omega)
                  · exact absurd (I2 i (by omega)) hn
                  · rw [t0 199 13 (by omega)]; exact h.2.2.2.2.2
                · rw [fa_le] at c
                  refine ok_ck ⟨by omega, by omega⟩ (fun j hj lj => ok_nm (fun s5 e5 => ok_nm (fun v ev => ?_)))
                  have eu : v.toInt = x5.toInt + 1 := by rw [ev, ti_add (by omega) (by omega), l1]
                  refine ih s5 _ v (fun c k hc => by rw [e5, up2_ne (by omega)]; exact I1 c k hc) (fun k hk => ?_) (by omega) (by omega)
                  by_cases hkj : k = j
                  · rw [e5, hkj]; unfold up2; rw [if_pos ⟨rfl, rfl⟩]
                  · rw [e5, up2_ne (by omega)]; exact I2 k (by omega)
            · rw [fa_le] at c
              refine ok_ck ⟨by omega, by omega⟩ (fun j hj lj => ok_nm (fun s5 e5 => ok_nm (fun v ev => ?_)))
              have eu : v.toInt = x5.toInt + 1 := by rw [ev, ti_add (by omega) (by omega), l1]
              refine ih s5 _ v (fun c k hc => by rw [e5, up2_ne (by omega)]; exact G1 c k hc) (fun k hk => ?_) (by omega) (by omega)
              by_cases hkj : k = j
              · rw [e5, hkj]; unfold up2; rw [if_pos ⟨rfl, rfl⟩]
              · rw [e5, up2_ne (by omega)]; exact G2 k (by omega)
        · rw [fa_le] at c
          refine ok_ck ⟨by omega, by omega⟩ (fun j hj lj => ok_nm (fun s3 e3 => ok_nm (fun s4 e4 => ok_nm (fun s5 e5 => ok_nm (fun s6 e6 => ok_nm (fun v ev => ?_))))))
          have eu : v.toInt = x5.toInt + 1 := by rw [ev, ti_add (by omega) (by omega), l1]
          have d0 : ∀ c k : Nat, (209 ≤ c ∧ c ≤ 212) → σ1 c k = σ0 c k := fun c k hh => (F1 c k (by omega)).trans (f2 c k (by omega))
          refine ih s6 _ v (fun c k hc => by rw [e6, up2_ne (by omega), e5, up2_ne (by omega), e4, up2_ne (by omega), e3, up2_ne (by omega)]; exact F1 c k hc) (fun p hp => ?_) (by omega) (by omega)
          by_cases hpj : p = j
          · subst hpj
            refine ⟨?_, ?_, ?_, ?_⟩
            · rw [e6, up2_ne (by omega), e5, up2_ne (by omega), e4, up2_ne (by omega), e3]; unfold up2; rw [if_pos ⟨rfl, rfl⟩]; exact d0 209 p (by omega)
            · rw [e6, up2_ne (by omega), e5, up2_ne (by omega), e4]; unfold up2; rw [if_pos ⟨rfl, rfl⟩, e3, up2_ne (by omega)]; exact d0 210 p (by omega)
            · rw [e6, up2_ne (by omega), e5]; unfold up2; rw [if_pos ⟨rfl, rfl⟩, e4, up2_ne (by omega), e3, up2_ne (by omega)]; exact d0 211 p (by omega)
            · rw [e6]; unfold up2; rw [if_pos ⟨rfl, rfl⟩, e5, up2_ne (by omega), e4, up2_ne (by omega), e3, up2_ne (by omega)]; exact d0 212 p (by omega)
          · have hq := F2 p (by omega)
            have u : ∀ c : Nat, (201 ≤ c ∧ c ≤ 204) → s6 c p = σ1 c p := fun c hc => by rw [e6, up2_ne (by omega), e5, up2_ne (by omega), e4, up2_ne (by omega), e3, up2_ne (by omega)]
            rw [u 201 (by omega), u 202 (by omega), u 203 (by omega), u 204 (by omega)]
            exact hq
    · rw [fa_le] at c
      refine ok_ck ⟨by omega, by omega⟩ (fun j hj lj => ok_ite (fun c2 => ok_nm (fun v ev => ?_)) (fun _ => ok_r (zm_n h hB)))
      rw [fa_lt] at c2
      have eu : v.toInt = x5.toInt + 1 := by rw [ev, ti_add (by omega) (by omega), l1]
      refine ih _ v (fun k hk => ?_) (by omega) (by omega)
      by_cases hkj : k = j
      · rw [hkj]; omega
      · exact hK k (by omega)
theorem z_town (hN : 4294967296 ≤ N) {σ : gI} {τ : gJ} (h : ZM σ g B) (hB : B ≤ B1) : okp (fun (a : Int32) σ1 τ1 => ZN σ1 B1) (B_X12_town_0 N σ τ) := by
  unfold B_X12_town_0
  have l0 : (0 : Int32).toInt = 0 := rfl
  have l1 : (1 : Int32).toInt = 1 := rfl
  have l76 : (76 : Int32).toInt = 76 := rfl
  refine ok_nm (fun s1 e1 => ok_bd (p_begins (zm_up h e1 (by omega)) (by omega)) (fun r2 σ2 τ2 h2 => ok_nm (fun s3 e3 => ok_nm (fun s4 e4 => ?_))))
  obtain ⟨z2, ⟨T, hT, p2, _⟩, _, _⟩ := h2
  have z4 := zm_up (zm_up z2 e3 (by omega)) e4 (by omega)
  have p4 : AP s4 0 T := ap_fr p2 (fun k hk => by rw [e4, up2_ne (by omega), e3, up2_ne (by omega)])
  have g24 : (s4 199 24).toInt = 0 := by rw [e4]; unfold up2; rw [if_pos ⟨rfl, rfl⟩]; rfl
  have g21 : (s4 199 21).toInt = 0 := by rw [e4, up2_ne (by omega), e3]; unfold up2; rw [if_pos ⟨rfl, rfl⟩]; rfl
  suffices H : ∀ (n : Nat) (σ : gI) (τ : gJ) (A w m : Int) (x2 x3 : Int32), ZM σ g B → AP σ A T → (σ 199 24).toInt = w → (0 ≤ w ∧ w ≤ A) → MN σ w → (σ 199 21).toInt = m → (0 ≤ m ∧ m ≤ 12) → (¬ x2 = 0 → TP σ m w) → ((x3 = 0 ∧ 1 ≤ n) ∨ (x3 = 1 ∧ 14 - m ≤ n ∧ TP σ m w)) → okp (fun (a : Int32) σ1 τ1 => ZN σ1 B1) (H_X12_town_34 N n σ τ r2 x2 x3) from ok_ite (fun _ => H 14 s4 τ2 0 0 0 _ _ z4 p4 g24 (by omega) (fun k hk => absurd hk (by omega)) g21 (by omega) (fun _ p hp => absurd hp (by omega)) (Or.inl ⟨rfl, by omega⟩)) (fun _ => H 14 s4 τ2 0 0 0 _ _ z4 p4 g24 (by omega) (fun k hk => absurd hk (by omega)) g21 (by omega) (fun _ p hp => absurd hp (by omega)) (Or.inr ⟨rfl, by omega, fun p hp => absurd hp (by omega)⟩))
  intro n
  induction n with
  | zero =>
    intro σ τ A w m x2 x3 _ _ _ _ _ _ hm0 _ hn
    rcases hn with z | z <;> omega
  | succ n ih =>
    intro σ τ A w m x2 x3 z p hw h0 hM hm hm0 hP hn
    show okp _ (C_X12_town_34 N (H_X12_town_34 N n) σ τ r2 x2 x3)
    unfold C_X12_town_34
    have hab := ap_b p
    refine ok_ite (fun c3 => ?_) (fun c3 => ?_)
    · refine ok_bd (p_faultOf p (by omega)) (fun r4 σ4 τ4 h4 => ?_)
      obtain ⟨h9, h4⟩ := h4
      subst h9
      refine ok_ite (fun c4 => ?_) (fun _ => ok_r (zm_n z hB))
      rw [fa_le] at c4
      have hx2 : ¬ x2 = 0 := fun q => h4 (by omega) (by rw [q]; rfl)
      exact z_town86 hN z hB hw (by omega) hM hm hm0 (hP hx2) N _ 0 (fun k hk => absurd hk (by omega)) (by omega) (by omega)
    · have hn1 : x3 = 1 ∧ 14 - m ≤ n + 1 ∧ TP σ m w := by
        rcases hn with q | q
        · exact absurd q.1 c3
        · exact ⟨q.1, by omega, q.2.2⟩
      refine ok_bd (p_readsPlace hN p (by omega) hw h0 hM hm hm0 hn1.2.2) (fun r4 σ4 τ4 h4 => ?_)
      obtain ⟨f4, b4, A4, w4, m4, a4, k1, k2, k3, k4, k5, k6, k7⟩ := h4
      have z4 : ZM σ4 g B := zm_fr z (fun c k hh => f4 c k (by omega))
      refine ok_ite (fun c4 => ih σ4 τ4 A4 w4 m4 _ _ z4 a4 k2 k3 k4 k5 k6 (fun q => absurd c4 q) (Or.inl ⟨rfl, by omega⟩)) (fun c4 => ?_)
      have r41 : r4 = 1 := by
        rcases b4 with q | q
        · exact absurd q c4
        · exact q
      obtain ⟨y1, y2⟩ := k7 r41
      have y2' : TP σ4 m4 w4 := by rw [y1]; exact y2
      refine ok_bd (p_takes hN a4) (fun r6 σ6 τ6 h6 => ?_)
      obtain ⟨f6, b6, h6⟩ := h6
      have z6 : ZM σ6 g B := zm_fr z4 (fun c k hh => f6 c k (by omega))
      have w6 : (σ6 199 24).toInt = w4 := by rw [f6 199 24 (by omega)]; exact k2
      have m6 : (σ6 199 21).toInt = m4 := by rw [f6 199 21 (by omega)]; exact k5
      have M6 : MN σ6 w4 := fun k hk => by rw [f6 213 k (by omega)]; exact k4 k hk
      have P6 : TP σ6 m4 w4 := fun p hp => by
        rw [f6 209 p (by omega), f6 210 p (by omega), f6 211 p (by omega), f6 212 p (by omega)]
        have hq := y2' p hp
        refine ⟨fun q => ?_, fun q => ?_, hq.2.2⟩
        · obtain ⟨k, kk1, kk2⟩ := hq.1 q
          exact ⟨k, kk1, by rw [f6 213 k (by omega)]; exact kk2⟩
        · obtain ⟨k, kk1, kk2⟩ := hq.2.1 q
          exact ⟨k, kk1, by rw [f6 213 k (by omega)]; exact kk2⟩
      have a6 : ∃ A6 : Int, A4 ≤ A6 ∧ AP σ6 A6 T := by
        rcases h6 with q | q
        · exact ⟨A4, by omega, q.2⟩
        · exact ⟨A4 + 1, by omega, q.2⟩
      obtain ⟨A6, j1, a6⟩ := a6
      exact ok_ite (fun _ => ih σ6 τ6 A6 w4 m4 _ _ z6 a6 w6 (by omega) M6 m6 k6 (fun _ => P6) (Or.inl ⟨rfl, by omega⟩)) (fun _ => ih σ6 τ6 A6 w4 m4 _ _ z6 a6 w6 (by omega) M6 m6 k6 (fun _ => P6) (Or.inr ⟨rfl, by omega, P6⟩))
end TOWN2
