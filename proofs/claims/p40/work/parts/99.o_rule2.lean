section RULE2
variable {B : Int} {g : Nat → Int32} {σ : gI} {τ : gJ} {N : Nat}
theorem rd_tr {σ0 σ : gI} {A0 A T L0 L d v : Int} {x : Option (Int32 × gI × gJ)} (h : okp (RD σ A T L d v) x) (f : fR σ0 σ) (hA : A0 ≤ A) (hL : L0 ≤ L) (hd : L - L0 ≤ A - A0) : okp (RD σ0 A0 T L0 d v) x := by
  refine ok_mono (fun a σ1 τ1 h9 => ?_) h
  obtain ⟨f1, b, A1, L1, v1, a1, k1, k2, k3, k4, k5, k6, k7⟩ := h9
  exact ⟨fun c k hh => (f1 c k hh).trans (f c k hh), b, A1, L1, v1, a1, by omega, k2, by omega, by omega, k5, k6, k7⟩
theorem r_loop (hN : 4294967296 ≤ N) {D : Nat} (hR : okR N D) {x1 : Int32} (hx : 0 ≤ x1.toInt ∧ x1.toInt ≤ 2) {T : Int} (hT : T ≤ 40) : ∀ (n : Nat) (σ : gI) (τ : gJ) (A L d v : Int) (x2 : Int32), AP σ A T → PC σ L (d + 1) → L ≤ A → 0 ≤ d → (σ 199 16).toInt = v → 0 ≤ v → v ≤ 4 → (3 - x1.toInt) + (T - A + 5 * (4 - v) + 1) ≤ D → (x2 = 0 ∨ x2 = 1) → (2 * (T - A) + x2.toInt).toNat < n → okp (RD σ A T L d v) (H_X12_readsRank_24 (R_X12_reads N D).1 (R_X12_reads N D).2 N n σ τ x1 x2) := by
  intro n
  induction n with
  | zero => intro σ τ A L d v x2 _ _ _ _ _ _ _ _ _ hm; exact absurd hm (Nat.not_lt_zero _)
  | succ n ih =>
    intro σ τ A L d v x2 hA hP hLA hd hv h0 h4 hD h2 hm
    show okp _ (C_X12_readsRank_24 (R_X12_reads N D).1 (R_X12_reads N D).2 N (H_X12_readsRank_24 (R_X12_reads N D).1 (R_X12_reads N D).2 N n) σ τ x1 x2)
    have hab := ap_b hA
    have hL0 := hP.2.1
    have l0 : (0 : Int32).toInt = 0 := rfl
    have l1 : (1 : Int32).toInt = 1 := rfl
    have l2 : (2 : Int32).toInt = 2 := rfl
    have l3 : (3 : Int32).toInt = 3 := rfl
    have l5 : (5 : Int32).toInt = 5 := rfl
    have l2000 : (2000 : Int32).toInt = 2000 := rfl
    have x11 : (x1 + 1).toInt = x1.toInt + 1 := by rw [ti_add (by omega) (by omega), l1]
    have fin : ∀ {σ' : gI} {τ' : gJ} {A' : Int}, fR σ σ' → AP σ' A' T → A ≤ A' → PC σ' L (d + 1) → (σ' 199 16).toInt = v → okp (RD σ A T L d v) (some (1, σ', τ')) := fun f a k p w => ok_r ⟨f, Or.inr rfl, _, L, v, a, k, p.1, by omega, by omega, w, by omega, fun _ => ⟨rfl, p⟩⟩
    -- behind the right side
    have b96 : ∀ (σ' : gI) (τ' : gJ) (A' L' : Int) (y0 r : Int32), fR σ σ' → AP σ' A' T → A + 1 ≤ A' → L ≤ L' → L' - L ≤ A' - A - 1 → PC σ' L' (d + 1 + 1) → (σ' 199 16).toInt = v → (0 ≤ r.toInt ∧ r.toInt ≤ 2) → (0 ≤ y0.toInt ∧ y0.toInt ≤ 5) → okp (RD σ A T L d v) (B_X12_readsRank_96 (R_X12_reads N D).1 (R_X12_reads N D).2 N (H_X12_readsRank_24 (R_X12_reads N D).1 (R_X12_reads N D).2 N n) σ' τ' x1 y0 (2000 + r)) := by
      intro σ' τ' A' L' y0 r f a k1 k2 k3 p w hr hy
      unfold B_X12_readsRank_96
      have hab' := ap_b a
      have e1 : (2000 + r).toInt = 2000 + r.toInt := by rw [ti_add (by omega) (by omega), l2000]
      have e2 : (2000 + r + y0).toInt = 2000 + r.toInt + y0.toInt := by rw [ti_add (by omega) (by omega), e1]
      have n0 : need (2000 + r + y0) = 2 := by unfold need; rw [if_neg (fun z => by rw [z] at e2; have : (3000 : Int32).toInt = 3000 := rfl; omega), if_neg (by omega)]
      have n1 : eff (2000 + r + y0) = -1 := by unfold eff; rw [if_neg (fun z => by rw [z] at e2; have : (3000 : Int32).toInt = 3000 := rfl; omega), if_neg (by omega)]
      refine ok_bd (p_codes p.1 (by have := p.2.1; omega)) (fun _ σ9 τ9 h9 => ?_)
      obtain ⟨f9, q9, w9⟩ := h9
      have p9 := w9 (d + 1 + 1) p (by omega)
      rw [n1, show d + 1 + 1 + -1 = d + 1 by omega] at p9
      have F9 : fR σ σ9 := fun c k hh => (f9 c k (by omega)).trans (f c k hh)
      have a9 : AP σ9 A' T := ap_fr a (fun k hk => f9 199 k (by omega))
      have w16 : (σ9 199 16).toInt = v := by rw [f9 199 16 (by omega)]; exact w
      have hl' := p.2.1
      have h2' : 0 ≤ x2.toInt := by rcases h2 with z | z <;> rw [z] <;> decide
      exact ok_ite (fun _ => rd_tr (ih σ9 τ9 A' (L' + 1) d v 0 a9 p9 (by omega) hd w16 h0 h4 (by omega) (Or.inl rfl) (by omega)) F9 (by omega) (by omega) (by omega)) (fun _ => rd_tr (ih σ9 τ9 A' (L' + 1) d v 1 a9 p9 (by omega) hd w16 h0 h4 (by omega) (Or.inr rfl) (by omega)) F9 (by omega) (by omega) (by omega))
    have go : ∀ (bs : List Int32), bs.length ≤ 3 → okp (RD σ A T L d v) (bd (B_X12_takesOf_0 N bs σ τ) fun r_16 σ_16 τ_16 => if 0 ≤ r_16 then (bd ((R_X12_reads N D).2 σ_16 τ_16 (x1 + 1)) fun r_18 σ_18 τ_18 => if r_18 = 0 then (some (0, σ_18, τ_18)) else (if x1 = 0 then (B_X12_readsRank_96 (R_X12_reads N D).1 (R_X12_reads N D).2 N (H_X12_readsRank_24 (R_X12_reads N D).1 (R_X12_reads N D).2 N n) σ_18 τ_18 x1 0 (2000 + r_16)) else (if x1 = 1 then (B_X12_readsRank_96 (R_X12_reads N D).1 (R_X12_reads N D).2 N (H_X12_readsRank_24 (R_X12_reads N D).1 (R_X12_reads N D).2 N n) σ_18 τ_18 x1 3 (2000 + r_16)) else (B_X12_readsRank_96 (R_X12_reads N D).1 (R_X12_reads N D).2 N (H_X12_readsRank_24 (R_X12_reads N D).1 (R_X12_reads N D).2 N n) σ_18 τ_18 x1 5 (2000 + r_16))))) else (some (1, σ_16, τ_16))) := by
      intro bs hb
      refine ok_bd (p_takesOf hN (by omega) hA) (fun r σ3 τ3 h3 => ?_)
      obtain ⟨f3, b3, h3⟩ := h3
      have F3 : fR σ σ3 := fun c k hh => f3 c k (by omega)
      have p3 : PC σ3 L (d + 1) := pc_fr hP (fun c k hh => f3 c k (by omega))
      have w3 : (σ3 199 16).toInt = v := by rw [f3 199 16 (by omega)]; exact hv
      refine ok_ite (fun c => ?_) (fun c => ?_)
      · rw [fa_le] at c
        have a3 : AP σ3 (A + 1) T := by
          rcases h3 with z | z
          · omega
          · exact z.2
        have hab3 := ap_b a3
        refine ok_bd (hR σ3 τ3 (A + 1) T L (d + 1) v (x1 + 1) a3 hT p3 (by omega) (by omega) w3 h0 h4 (by omega) (by omega)) (fun r18 σ18 τ18 h18 => ?_)
        obtain ⟨f18, b18, A18, L18, v18, a18, k1, k2, k3, k4, k5, k6, k7⟩ := h18
        have F18 : fR σ σ18 := fun c k hh => (f18 c k hh).trans (F3 c k hh)
        refine ok_ite (fun _ => ok_r ⟨F18, Or.inl rfl, A18, L18, v18, a18, by omega, k2, by omega, by omega, k5, k6, fun z => absurd z (by decide)⟩) (fun c18 => ?_)
        have c18' : r18.toInt = 1 := by
          rcases b18 with z | z
          · exact absurd z c18
          · rw [z]; rfl
        obtain ⟨w1, w2⟩ := k7 c18'
        have w5 : (σ18 199 16).toInt = v := by omega
        exact ok_ite (fun _ => b96 _ _ A18 L18 0 r F18 a18 (by omega) (by omega) (by omega) w2 w5 (by omega) (by omega)) (fun _ => ok_ite (fun _ => b96 _ _ A18 L18 3 r F18 a18 (by omega) (by omega) (by omega) w2 w5 (by omega) (by omega)) (fun _ => b96 _ _ A18 L18 5 r F18 a18 (by omega) (by omega) (by omega) w2 w5 (by omega) (by omega)))
      · rw [fa_le] at c
        have a3 : AP σ3 A T := by
          rcases h3 with z | z
          · exact z.2
          · omega
        exact fin F3 a3 (by omega) p3 w3
    unfold C_X12_readsRank_24
    exact ok_ite (fun _ => fin (fun _ _ _ => rfl) hA (by omega) hP hv) (fun _ => ok_ite (fun _ => go sb_16 (by decide)) (fun _ => ok_ite (fun _ => go sb_17 (by decide)) (fun _ => go sb_18 (by decide))))
theorem r_rank (hN : 4294967296 ≤ N) {D : Nat} (hT : okT N D) (hR : okR N D) : okR N (D + 1) := by
  intro σ τ A T L d v x1 hA hT40 hP hLA hd hv h0 h4 hx hD
  show okp _ (B_X12_readsRank_0 (R_X12_reads N D).1 (R_X12_reads N D).2 N σ τ x1)
  unfold B_X12_readsRank_0
  have hab := ap_b hA
  have l1 : (1 : Int32).toInt = 1 := rfl
  have l3 : (3 : Int32).toInt = 3 := rfl
  refine ok_ite (fun c => ?_) (fun c => ?_)
  · rw [fa_eq] at c
    refine ok_bd (hT σ τ A T L d v hA hT40 hP hLA hd hv h0 h4 (by omega)) (fun r σ1 τ1 h1 => ok_cb h1.2.1 (ok_r h1))
  · rw [fa_eq] at c
    have x11 : (x1 + 1).toInt = x1.toInt + 1 := by rw [ti_add (by omega) (by omega), l1]
    refine ok_bd (hR σ τ A T L d v (x1 + 1) hA hT40 hP hLA hd hv h0 h4 (by omega) (by omega)) (fun r σ1 τ1 h1 => ?_)
    obtain ⟨f1, b1, A1, L1, v1, a1, k1, k2, k3, k4, k5, k6, k7⟩ := h1
    refine ok_ite (fun _ => ok_r ⟨f1, Or.inl rfl, A1, L1, v1, a1, by omega, k2, by omega, by omega, k5, k6, fun z => absurd z (by decide)⟩) (fun c1 => ?_)
    have c1' : r.toInt = 1 := by
      rcases b1 with z | z
      · exact absurd z c1
      · rw [z]; rfl
    obtain ⟨w1, w2⟩ := k7 c1'
    have hab1 := ap_b a1
    have hh := r_loop hN hR (x1 := x1) (by omega) hT40 N σ1 τ1 A1 L1 d v 1 a1 w2 (by omega) hd (by omega) h0 h4 (by omega) (Or.inr rfl) (by omega)
    exact rd_tr hh f1 (by omega) (by omega) (by omega)
theorem r_all (hN : 4294967296 ≤ N) : ∀ D : Nat, okT N D ∧ okR N D
  | 0 => ⟨fun σ τ A T L d v hA _ _ _ _ _ _ h4 hD => by have := ap_b hA; omega, fun σ τ A T L d v x1 hA _ _ _ _ _ _ h4 hx hD => by have := ap_b hA; omega⟩
  | D + 1 => ⟨r_thing hN (r_all hN D).1 (r_all hN D).2, r_rank hN (r_all hN D).1 (r_all hN D).2⟩
theorem z_rule34 (hN : 4294967296 ≤ N) {B1 A T L d : Int} {x1 y0 : Int32} (h : ZM σ g B) (hB : B ≤ B1) (hA : AP σ A T) (hLA : 0 ≤ L ∧ L ≤ 40) (hL : (σ 199 29).toInt = L) (hP : ¬ y0.toInt = 0 → PC σ L d) : okp (fun (a : Int32) σ1 τ1 => ZN σ1 B1) (B_X12_rule_34 N σ τ x1 y0) := by
  unfold B_X12_rule_34
  have l40 : (40 : Int32).toInt = 40 := rfl
  have l0 : (0 : Int32).toInt = 0 := rfl
  have l1 : (1 : Int32).toInt = 1 := rfl
  refine ok_bd (p_faultOf hA (by omega)) (fun r1 σ1 τ1 h1 => ?_)
  obtain ⟨h9, h1⟩ := h1
  subst h9
  refine ok_ite (fun c => ok_nm (fun s3 e3 => ?_)) (fun _ => ok_r (zm_n h hB))
  rw [fa_le] at c
  have P := hP (h1 (by omega))
  have f3 : ∀ c k : Nat, ¬ (c = 199 ∧ k = 28) → s3 c k = σ c k := fun c k hh => by rw [e3]; exact up2_ne hh
  have w28 : s3 199 28 = σ 199 29 := by rw [e3]; unfold up2; rw [if_pos ⟨rfl, rfl⟩]
  suffices H : ∀ (n : Nat) (σ1 : gI) (τ1 : gJ) (x4 : Int32), (∀ c k : Nat, c ≠ 216 → σ1 c k = s3 c k) → (∀ k : Nat, (k : Int) < x4.toInt → σ1 216 k = σ 217 k) → (0 ≤ x4.toInt ∧ x4.toInt ≤ L) → (81 - x4.toInt).toNat < n → okp (fun (a : Int32) σ1 τ1 => ZN σ1 B1) (H_X12_rule_61 N n σ1 τ1 x4) from H N s3 _ 0 (fun _ _ _ => rfl) (fun k hk => absurd hk (by omega)) (by omega) (by omega)
  intro n
  induction n with
  | zero => intro σ1 τ1 x4 _ _ _ hm; exact absurd hm (Nat.not_lt_zero _)
  | succ n ih =>
    intro σ1 τ1 x4 F1 F2 h4 hm
    show okp _ (C_X12_rule_61 N (H_X12_rule_61 N n) σ1 τ1 x4)
    unfold C_X12_rule_61
    have g29 : σ1 199 29 = σ 199 29 := (F1 199 29 (by omega)).trans (f3 199 29 (by omega))
    rw [g29]
    refine ok_ite (fun c4 => ok_r ?_) (fun c4 => ?_)
    · rw [fa_le] at c4
      have f : ∀ c k : Nat, ¬ (c = 216 ∨ (c = 199 ∧ k = 28)) → σ1 c k = σ c k := fun c k hh => (F1 c k (by omega)).trans (f3 c k (by omega))
      have g28 : (σ1 199 28).toInt = L := by rw [F1 199 28 (by omega), w28]; exact hL
      obtain ⟨a, b, c9, d9, e9, i⟩ := h
      have e36 := f 199 36 (by omega)
      refine ⟨g, ?_, by omega, by rw [e36]; exact c9, by rw [e36]; exact uu_fr d9 (fun c k hh => f c k (by omega)) hB, ki_fr e9 (fun c k hh => f c k (by omega)) hB, by rw [f 199 13 (by omega)]; exact i⟩
      obtain ⟨⟨a1, a2, a3⟩, b9, c, d, e, ⟨k1, k2⟩, i, j, m⟩ := a
      have e52 := f 199 52 (by omega)
      have e3' := f 199 3 (by omega)
      refine ⟨⟨⟨by rw [e3']; exact a1.1, fun p hp => ?_⟩, by unfold WI; rw [f 199 4 (by omega)]; exact a2, ⟨by omega, fun k hk => ?_⟩⟩, rj_fr b9 (fun c k h => f c k (by omega)), rk_fr c (fun c k h => f c k (by omega)), d, by rw [f 199 1 (by omega)]; exact e, ⟨by rw [e52]; exact k1, fun k hk => ?_⟩, by rw [f 199 46 (by omega)]; exact i, e3'.trans j, e52.trans m⟩
      · rw [e3'] at hp ⊢
        rw [f 201 p (by omega), f 202 p (by omega), f 203 p (by omega), f 204 p (by omega)]
        exact a1.2 p hp
      · rw [F2 k (by omega), dep_congr (g := σ 217) (fun q hq => F2 q (by omega))]
        exact P.2.2.1 k (by omega)
      · rw [e52] at hk
        rw [f 226 k (by omega), f 227 k (by omega), e3']
        exact k2 k hk
    · rw [fa_le] at c4
      refine ok_ck ⟨by omega, by omega⟩ (fun j hj lj => ok_nm (fun s5 e5 => ok_nm (fun v ev => ?_)))
      have eu : v.toInt = x4.toInt + 1 := by rw [ev, ti_add (by omega) (by omega), l1]
      refine ih s5 _ v (fun c k hc => by rw [e5, up2_ne (by omega)]; exact F1 c k hc) (fun k hk => ?_) (by omega) (by omega)
      by_cases hkj : k = j
      · rw [e5, hkj]
        unfold up2
        rw [if_pos ⟨rfl, rfl⟩, F1 217 j (by omega), f3 217 j (by omega)]
      · rw [e5, up2_ne (by omega)]
        exact F2 k (by omega)
theorem z_rule (hN : 4294967296 ≤ N) {B1 : Int} (h : ZM σ g B) (hB : B ≤ B1) : okp (fun (a : Int32) σ1 τ1 => ZN σ1 B1) (B_X12_rule_0 N σ τ) := by
  unfold B_X12_rule_0
  have l0 : (0 : Int32).toInt = 0 := rfl
  have l1 : (1 : Int32).toInt = 1 := rfl
  have l40 : (40 : Int32).toInt = 40 := rfl
  refine ok_nm (fun s1 e1 => ok_bd (p_begins (zm_up h e1 (by omega)) (by omega)) (fun r2 σ2 τ2 h2 => ok_nm (fun s3 e3 => ?_)))
  obtain ⟨z2, ⟨T, hT, p2, _⟩, n2, _⟩ := h2
  have z3 := zm_up z2 e3 (by omega)
  have p3 : AP s3 0 T := ap_fr p2 (fun k hk => by rw [e3]; exact up2_ne (by omega))
  have g29 : (s3 199 29).toInt = 0 := by rw [e3]; unfold up2; rw [if_pos ⟨rfl, rfl⟩]; rfl
  have g16 : (s3 199 16).toInt = 0 := by rw [e3, up2_ne (by omega)]; exact n2
  have P3 : PC s3 0 0 := ⟨g29, by omega, fun k hk => absurd hk (by omega), rfl⟩
  have hab := ap_b p3
  refine ok_ite (fun _ => z_rule34 hN z3 hB p3 (by omega) g29 (fun _ => P3)) (fun _ => ?_)
  refine ok_bd ((r_all hN 100).2 s3 τ2 0 T 0 0 0 0 p3 (by omega) P3 (by omega) (by omega) g16 (by omega) (by omega) (by omega) (by omega)) (fun r5 σ5 τ5 h5 => ?_)
  obtain ⟨f5, b5, A5, L5, v5, a5, k1, k2, k3, k4, k5, k6, k7⟩ := h5
  have z5 : ZM σ5 g B := zm_fr z3 (fun c k hh => f5 c k (by omega))
  have hab5 := ap_b a5
  refine ok_ite (fun _ => z_rule34 (d := 0) hN z5 hB a5 (by omega) k2 (fun z => absurd l0 z)) (fun c5 => z_rule34 hN z5 hB a5 (by omega) k2 (fun _ => (k7 ?_).2))
  rcases b5 with z | z
  · exact absurd z c5
  · rw [z]; rfl
end RULE2
