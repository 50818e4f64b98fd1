/-! THE RULE: what is read is a text that can be worked -/
def PC (σ : gI) (L d : Int) : Prop := (σ 199 29).toInt = L ∧ 0 ≤ L ∧ (∀ k : Nat, (k : Int) < L → need (σ 217 k) ≤ dep (σ 217) k) ∧ dep (σ 217) L.toNat = d
def fR (σ σ1 : gI) : Prop := ∀ c k : Nat, ¬ (c = 217 ∨ (c = 199 ∧ (k = 14 ∨ k = 16 ∨ k = 29))) → σ1 c k = σ c k
theorem pc_fr {σ σ1 : gI} {L d : Int} (h : PC σ L d) (f : ∀ c k : Nat, c = 217 ∨ (c = 199 ∧ k = 29) → σ1 c k = σ c k) : PC σ1 L d := by
  obtain ⟨a, b, c, e⟩ := h
  have e7 : σ1 217 = σ 217 := funext fun k => f 217 k (by omega)
  exact ⟨by rw [f 199 29 (by omega)]; exact a, b, by rw [e7]; exact c, by rw [e7]; exact e⟩
/-- what a reader of the rule tells: a = 1: one more on the stack -/
def RD (σ : gI) (A T L d v : Int) : Int32 → gI → gJ → Prop := fun a σ1 _ => fR σ σ1 ∧ (a = 0 ∨ a = 1) ∧ ∃ A1 L1 v1 : Int, AP σ1 A1 T ∧ A ≤ A1 ∧ (σ1 199 29).toInt = L1 ∧ L ≤ L1 ∧ L1 - L ≤ A1 - A ∧ (σ1 199 16).toInt = v1 ∧ (0 ≤ v1 ∧ v1 ≤ 4) ∧ (a.toInt = 1 → v1 = v ∧ PC σ1 L1 (d + 1))
section RULE
variable {A T L d v : Int} {B : Int} {g : Nat → Int32} {σ : gI} {τ : gJ} {N : Nat}
theorem need_le (x : Int32) : need x ≤ 2 := by unfold need; split <;> (try split) <;> omega
theorem p_codes {x1 : Int32} (hL : (σ 199 29).toInt = L) (h0 : 0 ≤ L ∧ L < 80) : okp (fun (a : Unit) σ1 τ1 => (∀ c k : Nat, ¬ (c = 217 ∨ (c = 199 ∧ k = 29)) → σ1 c k = σ c k) ∧ (σ1 199 29).toInt = L + 1 ∧ (∀ d : Int, PC σ L d → need x1 ≤ d → PC σ1 (L + 1) (d + eff x1))) (B_X12_codes_0 N σ τ x1) := by
  unfold B_X12_codes_0
  have l1 : (1 : Int32).toInt = 1 := rfl
  refine ok_ck ⟨by omega, by omega⟩ (fun j hj lj => ok_nm (fun s2 e2 => ok_nm (fun s3 e3 => ok_r ?_)))
  have g2 : s2 199 29 = σ 199 29 := by rw [e2]; exact up2_ne (by omega)
  have z29 : (s3 199 29).toInt = L + 1 := by rw [e3]; unfold up2; rw [if_pos ⟨rfl, rfl⟩, g2, ti_add (by omega) (by omega), l1]; omega
  have c7 : ∀ k : Nat, k ≠ j → s3 217 k = σ 217 k := fun k hk => by rw [e3, up2_ne (by omega), e2, up2_ne (by omega)]
  have cj : s3 217 j = x1 := by rw [e3, up2_ne (by omega), e2]; unfold up2; rw [if_pos ⟨rfl, rfl⟩]
  refine ⟨fun c k hh => by rw [e3, up2_ne (by omega), e2, up2_ne (by omega)], z29, fun d hP hd => ⟨z29, by omega, fun k hk => ?_, ?_⟩⟩
  · obtain ⟨a, b, c, e⟩ := hP
    by_cases hkj : k = j
    · rw [hkj, cj, dep_congr (g := σ 217) (fun i hi => c7 i (by omega)), show j = L.toNat by omega, e]
      exact hd
    · rw [c7 k hkj, dep_congr (g := σ 217) (fun i hi => c7 i (by omega))]
      exact c k (by omega)
  · obtain ⟨a, b, c, e⟩ := hP
    rw [show (L + 1).toNat = L.toNat + 1 by omega]
    simp only [dep]
    rw [dep_congr (g := σ 217) (fun i hi => c7 i (by omega)), e, show L.toNat = j by omega, cj]
/-- what depth D must do -/
def okT (N D : Nat) : Prop := ∀ (σ : gI) (τ : gJ) (A T L d v : Int), AP σ A T → T ≤ 40 → PC σ L d → L ≤ A → 0 ≤ d → (σ 199 16).toInt = v → 0 ≤ v → v ≤ 4 → T - A + 5 * (4 - v) + 1 ≤ D → okp (RD σ A T L d v) ((R_X12_reads N D).1 σ τ)
def okR (N D : Nat) : Prop := ∀ (σ : gI) (τ : gJ) (A T L d v : Int) (x1 : Int32), AP σ A T → T ≤ 40 → PC σ L d → L ≤ A → 0 ≤ d → (σ 199 16).toInt = v → 0 ≤ v → v ≤ 4 → (0 ≤ x1.toInt ∧ x1.toInt ≤ 3) → (3 - x1.toInt) + 1 + (T - A + 5 * (4 - v) + 1) ≤ D → okp (RD σ A T L d v) ((R_X12_reads N D).2 σ τ x1)
theorem ap_b (h : AP σ A T) : 0 ≤ A ∧ A ≤ T ∧ T ≤ 80 := ⟨h.2.2.1, h.2.2.2.1, h.2.2.2.2⟩
theorem r_thing (hN : 4294967296 ≤ N) {D : Nat} (hT : okT N D) (hR : okR N D) : okT N (D + 1) := by
  intro σ τ A T L d v hA hT40 hP hLA hd hv h0 h4 hD
  show okp _ (B_X12_readsThing_0 (R_X12_reads N D).1 (R_X12_reads N D).2 N σ τ)
  unfold B_X12_readsThing_0
  have hab := ap_b hA
  have hL0 := hP.2.1
  have l0 : (0 : Int32).toInt = 0 := rfl
  have l1 : (1 : Int32).toInt = 1 := rfl
  have l4 : (4 : Int32).toInt = 4 := rfl
  have l1000 : (1000 : Int32).toInt = 1000 := rfl
  have l3000 : (3000 : Int32).toInt = 3000 := rfl
  refine ok_bd (p_takes hN hA) (fun r1 σ1 τ1 h1 => ?_)
  obtain ⟨f1, b1, h1⟩ := h1
  have P1 : PC σ1 L d := pc_fr hP (fun c k hh => f1 c k (by omega))
  have v1 : (σ1 199 16).toInt = v := by rw [f1 199 16 (by omega)]; exact hv
  refine ok_ite (fun c1 => ?_) (fun c1 => ?_)
  · rw [fa_eq] at c1
    have A1 : AP σ1 A T := by
      rcases h1 with z | z
      · exact z.2
      · omega
    refine ok_bd (p_isDigit hN A1) (fun r3 σ3 τ3 h3 => ?_)
    obtain ⟨⟨e1, e2⟩, h3⟩ := h3
    subst e1
    subst e2
    refine ok_ite (fun c3 => ?_) (fun c3 => ?_)
    · refine ok_bd (p_takesOf hN (by decide) A1) (fun r5 σ5 τ5 h5 => ?_)
      obtain ⟨f5, b5, h5⟩ := h5
      have P5 : PC σ5 L d := pc_fr P1 (fun c k hh => f5 c k (by omega))
      have v5 : (σ5 199 16).toInt = v := by rw [f5 199 16 (by omega)]; exact v1
      have F5 : fR σ σ5 := fun c k hh => (f5 c k (by omega)).trans (f1 c k (by omega))
      refine ok_ite (fun c5 => ?_) (fun c5 => ?_)
      · rw [fa_lt] at c5
        have A5 : AP σ5 A T := by
          rcases h5 with z | z
          · exact z.2
          · omega
        refine ok_ite (fun _ => ok_r ⟨F5, Or.inl rfl, A, L, v, A5, by omega, P5.1, by omega, by omega, v5, by omega, fun z => absurd z (by decide)⟩) (fun c6 => ?_)
        rw [fa_eq] at c6
        refine ok_bd (p_takes hN A5) (fun r8 σ8 τ8 h8 => ?_)
        obtain ⟨f8, b8, h8⟩ := h8
        have P8 : PC σ8 L d := pc_fr P5 (fun c k hh => f8 c k (by omega))
        have v8 : (σ8 199 16).toInt = v := by rw [f8 199 16 (by omega)]; exact v5
        have F8 : fR σ σ8 := fun c k hh => (f8 c k (by omega)).trans (F5 c k hh)
        refine ok_ite (fun c8 => ?_) (fun c8 => ?_)
        · rw [fa_eq] at c8
          have A8 : AP σ8 A T := by
            rcases h8 with z | z
            · exact z.2
            · omega
          exact ok_r ⟨F8, Or.inl rfl, A, L, v, A8, by omega, P8.1, by omega, by omega, v8, by omega, fun z => absurd z (by decide)⟩
        · rw [fa_eq] at c8
          have A8 : AP σ8 (A + 1) T := by
            rcases h8 with z | z
            · omega
            · exact z.2
          have hab8 := ap_b A8
          refine ok_nm (fun s10 e10 => ?_)
          have f10 : ∀ c k : Nat, ¬ (c = 199 ∧ k = 16) → s10 c k = σ8 c k := fun c k hh => by rw [e10]; exact up2_ne hh
          have v10 : (s10 199 16).toInt = v + 1 := by rw [e10]; unfold up2; rw [if_pos ⟨rfl, rfl⟩, ti_add (by omega) (by omega), l1]; omega
          refine ok_bd (hR s10 τ8 (A + 1) T L d (v + 1) 0 (ap_fr A8 (fun k hk => f10 199 k (by omega))) hT40 (pc_fr P8 (fun c k hh => f10 c k (by omega))) (by omega) hd v10 (by omega) (by omega) (by omega) (by omega)) (fun r11 σ11 τ11 h11 => ?_)
          obtain ⟨f11, b11, A11, L11, v11, a11, k1, k2, k3, k4, k5, k6, k7⟩ := h11
          have F11 : fR σ σ11 := fun c k hh => (f11 c k (by omega)).trans ((f10 c k (by omega)).trans (F8 c k hh))
          refine ok_ite (fun _ => ok_r ⟨F11, Or.inl rfl, A11, L11, v11, a11, by omega, k2, by omega, by omega, k5, k6, fun z => absurd z (by decide)⟩) (fun c11 => ?_)
          have c11' : r11.toInt = 1 := by
            rcases b11 with z | z
            · exact absurd z c11
            · rw [z]; rfl
          obtain ⟨w1, w2⟩ := k7 c11'
          refine ok_bd (p_takes hN a11) (fun r13 σ13 τ13 h13 => ?_)
          obtain ⟨f13, b13, h13⟩ := h13
          have F13 : fR σ σ13 := fun c k hh => (f13 c k (by omega)).trans (F11 c k hh)
          have P13 : PC σ13 L11 (d + 1) := pc_fr w2 (fun c k hh => f13 c k (by omega))
          have v13 : (σ13 199 16).toInt = v11 := by rw [f13 199 16 (by omega)]; exact k5
          refine ok_ite (fun c13 => ?_) (fun c13 => ?_)
          · rw [fa_eq] at c13
            have A13 : AP σ13 A11 T := by
              rcases h13 with z | z
              · exact z.2
              · omega
            exact ok_r ⟨F13, Or.inl rfl, A11, L11, v11, A13, by omega, P13.1, by omega, by omega, v13, k6, fun z => absurd z (by decide)⟩
          · rw [fa_eq] at c13
            have A13 : AP σ13 (A11 + 1) T := by
              rcases h13 with z | z
              · omega
              · exact z.2
            refine ok_nm (fun s15 e15 => ok_r ?_)
            have f15 : ∀ c k : Nat, ¬ (c = 199 ∧ k = 16) → s15 c k = σ13 c k := fun c k hh => by rw [e15]; exact up2_ne hh
            have v15 : (s15 199 16).toInt = v := by rw [e15]; unfold up2; rw [if_pos ⟨rfl, rfl⟩, ti_sub (by omega) (by omega), l1]; omega
            exact ⟨fun c k hh => (f15 c k (by omega)).trans (F13 c k hh), Or.inr rfl, A11 + 1, L11, v, ap_fr A13 (fun k hk => f15 199 k (by omega)), by omega, by rw [f15 199 29 (by omega)]; exact P13.1, by omega, by omega, v15, by omega, fun _ => ⟨rfl, pc_fr P13 (fun c k hh => f15 c k (by omega))⟩⟩
      · rw [fa_lt] at c5
        have b5' : r5.toInt < 8 := b5.2
        have A5 : AP σ5 (A + 1) T := by
          rcases h5 with z | z
          · omega
          · exact z.2
        have hab5 := ap_b A5
        have er : (1000 + r5).toInt = 1000 + r5.toInt := by rw [ti_add (by omega) (by omega), l1000]
        have n0 : need (1000 + r5) = 0 := by unfold need; rw [if_neg (fun z => by rw [z] at er; omega), if_pos (by omega)]
        have n1 : eff (1000 + r5) = 1 := by unfold eff; rw [if_neg (fun z => by rw [z] at er; omega), if_pos (by omega)]
        refine ok_bd (p_codes P5.1 (by omega)) (fun _ σ9 τ9 h9 => ok_r ?_)
        obtain ⟨f9, q9, w9⟩ := h9
        have w := w9 d P5 (by omega)
        rw [n1] at w
        exact ⟨fun c k hh => (f9 c k (by omega)).trans (F5 c k hh), Or.inr rfl, A + 1, L + 1, v, ap_fr A5 (fun k hk => f9 199 k (by omega)), by omega, q9, by omega, by omega, by rw [f9 199 16 (by omega)]; exact v5, by omega, fun _ => ⟨rfl, w⟩⟩
    · rw [fa_eq] at c3
      have hDg : A < T ∧ 48 ≤ (σ1 208 A.toNat).toInt ∧ (σ1 208 A.toNat).toInt ≤ 57 := by omega
      have l3 : (3 : Int32).toInt = 3 := rfl
      refine ok_bd (p_numberOf hN A1 (by omega)) (fun r17 σ17 τ17 h17 => ?_)
      obtain ⟨f17, h17⟩ := h17
      rcases h17 with z | z
      · exact absurd hDg z.2.2
      · obtain ⟨z1, z2, _, A17, z4, a17⟩ := z
        have P17 : PC σ17 L d := pc_fr P1 (fun c k hh => f17 c k (by omega))
        have hab17 := ap_b a17
        have n0 : need r17 = 0 := by unfold need; rw [if_neg (fun q => by rw [q] at z2; omega), if_pos (by omega)]
        have n1 : eff r17 = 1 := by unfold eff; rw [if_neg (fun q => by rw [q] at z2; omega), if_pos (by omega)]
        refine ok_bd (p_codes P17.1 (by omega)) (fun _ σ9 τ9 h9 => ok_r ?_)
        obtain ⟨f9, q9, w9⟩ := h9
        have w := w9 d P17 (by omega)
        rw [n1] at w
        exact ⟨fun c k hh => (f9 c k (by omega)).trans ((f17 c k (by omega)).trans (f1 c k (by omega))), Or.inr rfl, A17, L + 1, v, ap_fr a17 (fun k hk => f9 199 k (by omega)), by omega, q9, by omega, by omega, by rw [f9 199 16 (by omega), f17 199 16 (by omega)]; exact v1, by omega, fun _ => ⟨rfl, w⟩⟩
  · rw [fa_eq] at c1
    have A1 : AP σ1 (A + 1) T := by
      rcases h1 with z | z
      · omega
      · exact z.2
    have hab1 := ap_b A1
    refine ok_bd (hT σ1 τ1 (A + 1) T L d v A1 hT40 P1 (by omega) hd v1 h0 h4 (by omega)) (fun r19 σ19 τ19 h19 => ?_)
    obtain ⟨f19, b19, A19, L19, v19, a19, k1, k2, k3, k4, k5, k6, k7⟩ := h19
    have hab19 := ap_b a19
    refine ok_bd (p_codes k2 (by omega)) (fun _ σ9 τ9 h9 => ok_cb b19 (ok_r ?_))
    obtain ⟨f9, q9, w9⟩ := h9
    have n0 : need 3000 = 1 := by decide
    have n1 : eff 3000 = 0 := by decide
    refine ⟨fun c k hh => (f9 c k (by omega)).trans ((f19 c k hh).trans (f1 c k (by omega))), b19, A19, L19 + 1, v19, ap_fr a19 (fun k hk => f9 199 k (by omega)), by omega, q9, by omega, by omega, by rw [f9 199 16 (by omega)]; exact k5, k6, fun z => ?_⟩
    obtain ⟨w1, w2⟩ := k7 z
    have w := w9 (d + 1) w2 (by omega)
    rw [n1, Int.add_zero] at w
    exact ⟨w1, w⟩
end RULE
