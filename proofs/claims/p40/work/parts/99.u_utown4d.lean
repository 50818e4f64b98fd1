section T4D
variable {N : Nat} {σ σ1 : gI} {τ τ1 : gJ} {r : Int32}
theorem fu_fr {us : List (Int × Int)} (h : FU σ us) (f : ∀ k : Nat, σ1 14 k = σ 14 k) : FU σ1 us := fun l hl => by rw [f]; exact h l hl
theorem mil10 {r8 r9 : Int32} {a b : Int} (h8 : r8.toInt = a) (h9 : r9.toInt = b) (ha : 0 ≤ a ∧ a ≤ 9) (hb : 0 ≤ b ∧ b ≤ 9) : ((10 * r8) + r9).toInt = 10 * a + b := by
  have l10 : (10 : Int32).toInt = 10 := rfl
  have m : (10 * r8).toInt = 10 * a := by rw [ti_mul (by rw [l10]; omega) (by rw [l10]; omega), l10, h8]
  rw [ti_add (by omega) (by omega), m, h9]
theorem x_line4 {x2 : Int32} {K : Int → Int} {us : List (Int × Int)} (hm : (σ 1 1).toInt ≤ 80) (hKd : K = lk (σ 2) (σ 1 1).toInt) (hK : ∀ i, K i ≤ 255) (hx : 0 ≤ x2.toInt ∧ x2.toInt ≤ 100) (hs : 0 ≤ (σ 9 6).toInt ∧ (σ 9 6).toInt < 12) (hF : FU σ us) (h : B_X8_readLine_0 N σ τ x2 = some (r, σ1, τ1)) : (∀ c k : Nat, ¬ (9 ≤ c ∧ c ≤ 14) → σ1 c k = σ c k) ∧ (((ln4 K x2.toInt).1 = false ∧ r.toInt = -1 - (ln4 K x2.toInt).2.1) ∨ ((ln4 K x2.toInt).1 = true ∧ r.toInt = (ln4 K x2.toInt).2.1 ∧ (σ1 9 6).toInt = (σ 9 6).toInt + 1 ∧ FU σ1 ((ln4 K x2.toInt).2.2 ++ us) ∧ PA σ σ1 K x2.toInt)) := by
  have l0 : (0 : Int32).toInt = 0 := rfl
  have l1 : (1 : Int32).toInt = 1 := rfl
  have l2 : (2 : Int32).toInt = 2 := rfl
  have l4 : (4 : Int32).toInt = 4 := rfl
  have l5 : (5 : Int32).toInt = 5 := rfl
  have l6 : (6 : Int32).toInt = 6 := rfl
  have lm : (-1 : Int32).toInt = -1 := rfl
  have a1 : (x2 + 1).toInt = x2.toInt + 1 := by rw [ti_add (by omega) (by omega), l1]
  have a2 : (x2 + 2).toInt = x2.toInt + 2 := by rw [ti_add (by omega) (by omega), l2]
  have a3 : (x2 + 2 + 1).toInt = x2.toInt + 3 := by rw [ti_add (by omega) (by omega), a2, l1]; omega
  have a4 : (x2 + 2 + 2).toInt = x2.toInt + 4 := by rw [ti_add (by omega) (by omega), a2, l2]; omega
  have neg : ∀ v : Int32, ((-1) - v).toInt = -1 - v.toInt := fun v => by have := i32_rng v; rw [ti_sub (by omega) (by omega), lm]
  have kk : ∀ (s : gI), (∀ c k : Nat, ¬ (9 ≤ c ∧ c ≤ 14) → s c k = σ c k) → lk (s 2) (s 1 1).toInt = K ∧ (s 1 1).toInt ≤ 80 := fun s f => by
    have e1 := f 1 1 (by omega)
    have e2 : s 2 = σ 2 := funext fun k => f 2 k (by omega)
    rw [e1, e2]
    exact ⟨hKd.symm, hm⟩
  have hK0 := hK x2.toInt
  have g1 := lt_rng (K (x2.toInt + 1))
  have g2 := lt_rng (K (x2.toInt + 2))
  have g3 := dg_rng (K (x2.toInt + 2))
  have g4 := dg_rng (K (x2.toInt + 3))
  unfold B_X8_readLine_0 at h
  obtain ⟨r1, s1, t1, q1, h⟩ := bd_some h
  obtain ⟨⟨rfl, rfl⟩, k1⟩ := x_one4 hm (by rw [← hKd]; exact hK0) q1
  rw [← hKd] at k1
  by_cases c1 : 0 ≤ r1
  · rw [if_pos c1] at h
    rw [fa_le] at c1
    by_cases c6 : r1 = 6
    · rw [if_pos c6] at h
      rw [fa_eq] at c6
      obtain ⟨u, s2, t2, q2, h⟩ := bd_some h
      obtain ⟨rfl, rfl, -⟩ := sm_inj h
      have w2 := x_add4 hs q2
      obtain ⟨f2, h2, -⟩ := id w2
      have e : ln4 K x2.toInt = (true, x2.toInt + 1, []) := by unfold ln4; rw [if_neg (by omega), if_pos (by omega)]
      rw [e]
      exact ⟨fun c k hh => f2 c k (by omega), Or.inr ⟨rfl, a1, h2, fu_fr hF (fun k => f2 14 k (by omega)), pa_ad w2 (fun _ _ _ => rfl) (by omega) (by unfold pn; rw [if_pos (by omega)]; rfl) (by unfold ps; rw [if_neg (by omega)]; rfl) (by unfold pf; rw [if_neg (by omega), if_pos (by omega)]; rfl)⟩⟩
    · rw [if_neg c6] at h
      rw [fa_eq] at c6
      obtain ⟨r4, s4, t4, q4, h⟩ := bd_some h
      obtain ⟨⟨rfl, rfl⟩, k4⟩ := x_letter4 hm q4
      rw [← hKd, a1] at k4
      by_cases c4 : 0 ≤ r4
      · rw [if_pos c4] at h
        rw [fa_le] at c4
        obtain ⟨u6, s6, t6, q6, h⟩ := bd_some h
        obtain ⟨f6, F6⟩ := x_use4 (by omega) hF q6
        rw [a1, k4] at F6
        have hs6 : 0 ≤ (s6 9 6).toInt ∧ (s6 9 6).toInt < 12 := by rw [f6 9 6 (by omega)]; exact hs
        obtain ⟨kk6, m6⟩ := kk s6 (fun c k hh => f6 c k (by omega))
        by_cases c0 : r1 = 0
        · rw [if_pos c0] at h
          rw [fa_eq] at c0
          obtain ⟨u7, s7, t7, q7, h⟩ := bd_some h
          obtain ⟨rfl, rfl, -⟩ := sm_inj h
          have w7 := x_add4 hs6 q7
          obtain ⟨f7, h7, -⟩ := id w7
          have e : ln4 K x2.toInt = (true, x2.toInt + 2, [(lt4 (K (x2.toInt + 1)), x2.toInt + 1)]) := by unfold ln4; rw [if_neg (by omega), if_neg (by omega), if_neg (by omega), if_pos (by omega)]
          rw [e]
          exact ⟨fun c k hh => (f7 c k (by omega)).trans (f6 c k (by omega)), Or.inr ⟨rfl, a2, by rw [h7, f6 9 6 (by omega)], fu_fr F6 (fun k => f7 14 k (by omega)), pa_ad w7 f6 (by omega) (by unfold pn; rw [if_neg (by omega)]; exact k4) (by unfold ps; rw [if_neg (by omega)]; rfl) (by unfold pf; rw [if_neg (by omega), if_pos (by omega)]; rfl)⟩⟩
        · rw [if_neg c0] at h
          rw [fa_eq] at c0
          by_cases cf : r1 = 1
          · rw [if_pos cf] at h
            rw [fa_eq] at cf
            obtain ⟨r12, s12, t12, q12, h⟩ := bd_some h
            obtain ⟨rfl, rfl, -⟩ := sm_inj h
            unfold B_X8_readFork_0 at q12
            obtain ⟨r8, s8, t8, q8, q12⟩ := bd_some q12
            obtain ⟨⟨rfl, rfl⟩, k8⟩ := x_letter4 m6 q8
            rw [kk6, a2] at k8
            by_cases c8 : 0 ≤ r8
            · rw [if_pos c8] at q12
              rw [fa_le] at c8
              obtain ⟨u9, s9, t9, q9, q12⟩ := bd_some q12
              obtain ⟨f9, F9⟩ := x_use4 (by omega) F6 q9
              rw [a2, k8] at F9
              obtain ⟨u10, s10, t10, q10, q12⟩ := bd_some q12
              have w10 := x_add4 (by rw [f9 9 6 (by omega)]; exact hs6) q10
              obtain ⟨f10, h10, -⟩ := id w10
              obtain ⟨rfl, rfl, -⟩ := sm_inj q12
              have e : ln4 K x2.toInt = (true, x2.toInt + 3, [(lt4 (K (x2.toInt + 2)), x2.toInt + 2), (lt4 (K (x2.toInt + 1)), x2.toInt + 1)]) := by unfold ln4; rw [if_neg (by omega), if_neg (by omega), if_neg (by omega), if_neg (by omega), if_pos (by omega), if_neg (by omega)]
              rw [e]
              exact ⟨fun c k hh => (f10 c k (by omega)).trans ((f9 c k (by omega)).trans (f6 c k (by omega))), Or.inr ⟨rfl, a3, by rw [h10, f9 9 6 (by omega), f6 9 6 (by omega)], fu_fr F9 (fun k => f10 14 k (by omega)), pa_ad w10 (fun c k hc => (f9 c k hc).trans (f6 c k hc)) (show (1 : Int32).toInt = kd (K x2.toInt) by omega) (by unfold pn; rw [if_neg (by omega)]; exact k4) (by unfold ps; rw [if_pos (by omega)]; exact k8) (by unfold pf; rw [if_neg (by omega), if_pos (by omega)]; rfl)⟩⟩
            · rw [if_neg c8] at q12
              rw [fa_le] at c8
              obtain ⟨rfl, rfl, -⟩ := sm_inj q12
              have e : ln4 K x2.toInt = (false, x2.toInt + 2, []) := by unfold ln4; rw [if_neg (by omega), if_neg (by omega), if_neg (by omega), if_neg (by omega), if_pos (by omega), if_pos (by omega)]
              rw [e]
              exact ⟨fun c k hh => f6 c k (by omega), Or.inl ⟨rfl, by rw [neg, a2]⟩⟩
          · rw [if_neg cf] at h
            rw [fa_eq] at cf
            by_cases cm : r1 = 4
            · rw [if_pos cm] at h
              rw [fa_eq] at cm
              obtain ⟨r12, s12, t12, q12, h⟩ := bd_some h
              obtain ⟨rfl, rfl, -⟩ := sm_inj h
              unfold B_X8_readMill_0 at q12
              obtain ⟨r8, s8, t8, q8, q12⟩ := bd_some q12
              obtain ⟨⟨rfl, rfl⟩, k8⟩ := x_digit4 m6 q8
              rw [kk6, a2] at k8
              by_cases c8 : 0 ≤ r8
              · rw [if_pos c8] at q12
                rw [fa_le] at c8
                obtain ⟨r9, s9, t9, q9, q12⟩ := bd_some q12
                obtain ⟨⟨rfl, rfl⟩, k9⟩ := x_digit4 m6 q9
                rw [kk6, a3] at k9
                by_cases c9 : r8 ≤ r9
                · rw [if_pos c9] at q12
                  rw [fa_le] at c9
                  obtain ⟨u10, s10, t10, q10, q12⟩ := bd_some q12
                  have w10 := x_add4 hs6 q10
                  obtain ⟨f10, h10, -⟩ := id w10
                  obtain ⟨rfl, rfl, -⟩ := sm_inj q12
                  have e : ln4 K x2.toInt = (true, x2.toInt + 4, [(lt4 (K (x2.toInt + 1)), x2.toInt + 1)]) := by unfold ln4; rw [if_neg (by omega), if_neg (by omega), if_neg (by omega), if_neg (by omega), if_neg (by omega), if_pos (by omega), if_neg (by omega), if_neg (by omega)]
                  rw [e]
                  exact ⟨fun c k hh => (f10 c k (by omega)).trans (f6 c k (by omega)), Or.inr ⟨rfl, a4, by rw [h10, f6 9 6 (by omega)], fu_fr F6 (fun k => f10 14 k (by omega)), pa_ad w10 f6 (show (4 : Int32).toInt = kd (K x2.toInt) by omega) (by unfold pn; rw [if_neg (by omega)]; exact k4) (by unfold ps; rw [if_neg (by omega)]; rfl) (by unfold pf; rw [if_pos (by omega)]; exact mil10 k8 k9 (by omega) (by omega))⟩⟩
                · rw [if_neg c9] at q12
                  rw [fa_le] at c9
                  obtain ⟨rfl, rfl, -⟩ := sm_inj q12
                  have e : ln4 K x2.toInt = (false, x2.toInt + 3, []) := by unfold ln4; rw [if_neg (by omega), if_neg (by omega), if_neg (by omega), if_neg (by omega), if_neg (by omega), if_pos (by omega), if_neg (by omega), if_pos (by omega)]
                  rw [e]
                  exact ⟨fun c k hh => f6 c k (by omega), Or.inl ⟨rfl, by rw [neg, a3]⟩⟩
              · rw [if_neg c8] at q12
                rw [fa_le] at c8
                obtain ⟨rfl, rfl, -⟩ := sm_inj q12
                have e : ln4 K x2.toInt = (false, x2.toInt + 2, []) := by unfold ln4; rw [if_neg (by omega), if_neg (by omega), if_neg (by omega), if_neg (by omega), if_neg (by omega), if_pos (by omega), if_pos (by omega)]
                rw [e]
                exact ⟨fun c k hh => f6 c k (by omega), Or.inl ⟨rfl, by rw [neg, a2]⟩⟩
            · rw [if_neg cm] at h
              rw [fa_eq] at cm
              obtain ⟨r12, s12, t12, q12, h⟩ := bd_some h
              obtain ⟨rfl, rfl, -⟩ := sm_inj h
              unfold B_X8_readFigure_0 at q12
              obtain ⟨r8, s8, t8, q8, q12⟩ := bd_some q12
              obtain ⟨⟨rfl, rfl⟩, k8⟩ := x_digit4 m6 q8
              rw [kk6, a2] at k8
              have H20 : ∀ y1 : Int32, y1.toInt = (if kd (K x2.toInt) = 5 then 2 else 1) → B_X8_readFigure_20 N s6 t6 r1 r4 (x2 + 2) r8 y1 r8 = some (r12, s12, t12) → (∀ c k : Nat, ¬ (9 ≤ c ∧ c ≤ 14) → s12 c k = s6 c k) ∧ (((ln4 K x2.toInt).1 = false ∧ r12.toInt = -1 - (ln4 K x2.toInt).2.1) ∨ ((ln4 K x2.toInt).1 = true ∧ r12.toInt = (ln4 K x2.toInt).2.1 ∧ (s12 9 6).toInt = (s6 9 6).toInt + 1 ∧ FU s12 ((ln4 K x2.toInt).2.2 ++ us) ∧ PA σ s12 K x2.toInt)) := by
                intro y1 ey q
                unfold B_X8_readFigure_20 at q
                by_cases c9 : y1 ≤ r8
                · rw [if_pos c9] at q
                  rw [fa_le] at c9
                  obtain ⟨u10, s10, t10, q10, q⟩ := bd_some q
                  have w10 := x_add4 hs6 q10
                  obtain ⟨f10, h10, -⟩ := id w10
                  obtain ⟨rfl, rfl, -⟩ := sm_inj q
                  have e : ln4 K x2.toInt = (true, x2.toInt + 3, [(lt4 (K (x2.toInt + 1)), x2.toInt + 1)]) := by unfold ln4; rw [if_neg (by omega), if_neg (by omega), if_neg (by omega), if_neg (by omega), if_neg (by omega), if_neg (by omega), ← ey, if_neg (by omega)]
                  rw [e]
                  exact ⟨fun c k hh => f10 c k (by omega), Or.inr ⟨rfl, a3, h10, fu_fr F6 (fun k => f10 14 k (by omega)), pa_ad w10 f6 (by omega) (by unfold pn; rw [if_neg (by omega)]; exact k4) (by unfold ps; rw [if_neg (by omega)]; rfl) (by unfold pf; rw [if_neg (by omega), if_neg (by omega)]; exact k8)⟩⟩
                · rw [if_neg c9] at q
                  rw [fa_le] at c9
                  obtain ⟨rfl, rfl, -⟩ := sm_inj q
                  have e : ln4 K x2.toInt = (false, x2.toInt + 2, []) := by unfold ln4; rw [if_neg (by omega), if_neg (by omega), if_neg (by omega), if_neg (by omega), if_neg (by omega), if_neg (by omega), ← ey, if_pos (by omega)]
                  rw [e]
                  exact ⟨fun _ _ _ => rfl, Or.inl ⟨rfl, by rw [neg, a2]⟩⟩
              by_cases c5 : r1 = 5
              · rw [if_pos c5] at q12
                rw [fa_eq] at c5
                obtain ⟨f, z⟩ := H20 2 (by rw [if_pos (by omega)]; rfl) q12
                refine ⟨fun c k hh => (f c k hh).trans (f6 c k (by omega)), ?_⟩
                rw [f6 9 6 (by omega)] at z
                exact z
              · rw [if_neg c5] at q12
                rw [fa_eq] at c5
                obtain ⟨f, z⟩ := H20 1 (by rw [if_neg (by omega)]; rfl) q12
                refine ⟨fun c k hh => (f c k hh).trans (f6 c k (by omega)), ?_⟩
                rw [f6 9 6 (by omega)] at z
                exact z
      · rw [if_neg c4] at h
        rw [fa_le] at c4
        obtain ⟨rfl, rfl, -⟩ := sm_inj h
        have e : ln4 K x2.toInt = (false, x2.toInt + 1, []) := by unfold ln4; rw [if_neg (by omega), if_neg (by omega), if_pos (by omega)]
        rw [e]
        exact ⟨fun _ _ _ => rfl, Or.inl ⟨rfl, by rw [neg, a1]⟩⟩
  · rw [if_neg c1] at h
    rw [fa_le] at c1
    obtain ⟨rfl, rfl, -⟩ := sm_inj h
    have e : ln4 K x2.toInt = (false, x2.toInt, []) := by unfold ln4; rw [if_pos (by omega)]
    rw [e]
    exact ⟨fun _ _ _ => rfl, Or.inl ⟨rfl, neg x2⟩⟩
theorem x_judge4 {us : List (Int × Int)} {b : Int} (hB : BU b us) (hF : FU σ us) (hs : 0 ≤ (σ 9 6).toInt ∧ (σ 9 6).toInt ≤ 12) (h : B_X8_judgeLetters_0 N σ τ = some (r, σ1, τ1)) : σ = σ1 ∧ r.toInt = jg (σ 9 6).toInt us := by
  have l1 : (1 : Int32).toInt = 1 := rfl
  have l12 : (12 : Int32).toInt = 12 := rfl
  have lm : (-1 : Int32).toInt = -1 := rfl
  have neg : ∀ v : Int32, ((-1) - v).toInt = -1 - v.toInt := fun v => by have := i32_rng v; rw [ti_sub (by omega) (by omega), lm]
  unfold B_X8_judgeLetters_0 at h
  obtain ⟨v1, e1, h⟩ := nm_some h
  rw [e1] at h
  have H : ∀ (n : Nat) (t : gJ) (x1 x2 r : Int32) (σ1 : gI) (τ1 : gJ), H_X8_judgeLetters_7 N n σ t x1 x2 = some (r, σ1, τ1) → (σ 9 6).toInt ≤ x2.toInt → x2.toInt ≤ 12 → ((x1.toInt = -1 ∧ ∀ l : Int, (σ 9 6).toInt ≤ l → l < x2.toInt → fp us l = -1) ∨ (x1.toInt ≠ -1 ∧ (∃ l : Int, (σ 9 6).toInt ≤ l ∧ l < x2.toInt ∧ fp us l = x1.toInt) ∧ ∀ l : Int, (σ 9 6).toInt ≤ l → l < x2.toInt → fp us l = -1 ∨ x1.toInt ≤ fp us l)) → σ = σ1 ∧ r.toInt = jg (σ 9 6).toInt us := by
    intro n
    induction n with
    | zero => intro t x1 x2 r σ1 τ1 h; cases h
    | succ n ih =>
      intro t x1 x2 r σ1 τ1 h p1 p2 p
      have h : C_X8_judgeLetters_7 N (H_X8_judgeLetters_7 N n) σ t x1 x2 = some (r, σ1, τ1) := h
      unfold C_X8_judgeLetters_7 at h
      by_cases c : 12 ≤ x2
      · rw [if_pos c] at h
        rw [fa_le] at c
        unfold jg
        by_cases c1 : x1 = -1
        · rw [if_pos c1] at h
          rw [fa_eq] at c1
          obtain ⟨rfl, es, -⟩ := sm_inj h
          refine ⟨es, ?_⟩
          rcases jd_fp (s := (σ 9 6).toInt) hB with ⟨z, -⟩ | ⟨z, ⟨l, z1, z2, z3, z4⟩, -⟩
          · rw [if_pos z]
          · rcases p with ⟨-, p⟩ | ⟨p, -⟩
            · exact absurd (z4.symm.trans (p l z1 (by omega))) z
            · omega
        · rw [if_neg c1] at h
          rw [fa_eq] at c1
          obtain ⟨rfl, es, -⟩ := sm_inj h
          refine ⟨es, ?_⟩
          rcases p with ⟨p, -⟩ | ⟨p, ⟨l, w1, w2, w3⟩, w⟩
          · omega
          · rcases jd_fp (s := (σ 9 6).toInt) hB with ⟨z, y⟩ | ⟨z, ⟨l', z1, z2, z3, z4⟩, y⟩
            · have := y l w1
              omega
            · rw [if_neg z, neg]
              have y1 := y l w1
              have y2 := w l' z1 (by omega)
              omega
      · rw [if_neg c] at h
        rw [fa_le] at c
        have nn := nat_of_toInt (i := x2) (by omega)
        obtain ⟨j, ej, -, h⟩ := ck_some h
        obtain ⟨v4, e4, h⟩ := nm_some h
        have f4 : v4.toInt = fp us x2.toInt := by
          rw [e4, hF j (by omega), show (j : Int) = x2.toInt by omega]
        have eu : ∀ v : Int32, v = x2 + 1 → v.toInt = x2.toInt + 1 := fun v e => by rw [e, ti_add (by omega) (by omega), l1]
        by_cases c4 : v4 = -1
        · rw [if_pos c4] at h
          rw [fa_eq] at c4
          obtain ⟨v6, e6, h⟩ := nm_some h
          have u6 := eu v6 e6
          refine ih t x1 v6 r σ1 τ1 h (by omega) (by omega) ?_
          rcases p with ⟨p3, p⟩ | ⟨p3, ⟨l, w1, w2, w3⟩, w⟩
          · refine Or.inl ⟨p3, fun l hl hl2 => ?_⟩
            by_cases d : l = x2.toInt
            · rw [d]; omega
            · exact p l hl (by omega)
          · refine Or.inr ⟨p3, ⟨l, w1, by omega, w3⟩, fun l hl hl2 => ?_⟩
            by_cases d : l = x2.toInt
            · rw [d]; omega
            · exact w l hl (by omega)
        · rw [if_neg c4] at h
          rw [fa_eq] at c4
          by_cases c1 : x1 = -1
          · rw [if_pos c1] at h
            rw [fa_eq] at c1
            obtain ⟨v6, e6, h⟩ := nm_some h
            have u6 := eu v6 e6
            refine ih t v4 v6 r σ1 τ1 h (by omega) (by omega) (Or.inr ⟨by omega, ⟨x2.toInt, p1, by omega, f4.symm⟩, fun l hl hl2 => ?_⟩)
            by_cases d : l = x2.toInt
            · rw [d]; omega
            · rcases p with ⟨p3, p⟩ | ⟨p3, -⟩
              · exact Or.inl (p l hl (by omega))
              · omega
          · rw [if_neg c1] at h
            rw [fa_eq] at c1
            rcases p with ⟨p3, -⟩ | ⟨p3, ⟨l0, w1, w2, w3⟩, w⟩
            · omega
            · by_cases c2 : x1 ≤ v4
              · rw [if_pos c2] at h
                rw [fa_le] at c2
                obtain ⟨v6, e6, h⟩ := nm_some h
                have u6 := eu v6 e6
                refine ih t x1 v6 r σ1 τ1 h (by omega) (by omega) (Or.inr ⟨p3, ⟨l0, w1, by omega, w3⟩, fun l hl hl2 => ?_⟩)
                by_cases d : l = x2.toInt
                · rw [d]; omega
                · exact w l hl (by omega)
              · rw [if_neg c2] at h
                rw [fa_le] at c2
                obtain ⟨v6, e6, h⟩ := nm_some h
                have u6 := eu v6 e6
                refine ih t v4 v6 r σ1 τ1 h (by omega) (by omega) (Or.inr ⟨by omega, ⟨x2.toInt, p1, by omega, f4.symm⟩, fun l hl hl2 => ?_⟩)
                by_cases d : l = x2.toInt
                · rw [d]; omega
                · have := w l hl (by omega)
                  omega
  exact H N τ (-1) (σ 9 6) r σ1 τ1 h (by omega) (by omega) (Or.inl ⟨rfl, fun l h1 h2 => by omega⟩)
theorem x_clear8 {u : Unit} (h : B_X8_clear_0 N σ τ = some (u, σ1, τ1)) : (∀ c k : Nat, ¬ (c = 9 ∨ c = 14) → σ1 c k = σ c k) ∧ (σ1 9 6).toInt = 0 ∧ FU σ1 [] ∧ TD σ1 := by
  have l0 : (0 : Int32).toInt = 0 := rfl
  have l1 : (1 : Int32).toInt = 1 := rfl
  have l12 : (12 : Int32).toInt = 12 := rfl
  unfold B_X8_clear_0 at h
  obtain ⟨s1, e1, h⟩ := nm_some h
  obtain ⟨s2, e2, h⟩ := nm_some h
  obtain ⟨s3, e3, h⟩ := nm_some h
  obtain ⟨s4, e4, h⟩ := nm_some h
  have H : ∀ (n : Nat) (s : gI) (t : gJ) (x1 : Int32) (u : Unit) (σ1 : gI) (τ1 : gJ), H_X8_clear_22 N n s t x1 = some (u, σ1, τ1) → 0 ≤ x1.toInt → (∀ l : Nat, (l : Int) < x1.toInt → l < 12 → s 14 l = -1) → (∀ c k : Nat, ¬ (c = 14) → σ1 c k = s c k) ∧ FU σ1 [] := by
    intro n
    induction n with
    | zero => intro s t x1 u σ1 τ1 h; cases h
    | succ n ih =>
      intro s t x1 u σ1 τ1 h p0 p
      have h : C_X8_clear_22 N (H_X8_clear_22 N n) s t x1 = some (u, σ1, τ1) := h
      unfold C_X8_clear_22 at h
      by_cases c : 12 ≤ x1
      · rw [if_pos c] at h
        rw [fa_le] at c
        obtain ⟨-, rfl, -⟩ := sm_inj h
        exact ⟨fun _ _ _ => rfl, fun l hl => by rw [p l (by omega) hl]; rfl⟩
      · rw [if_neg c] at h
        rw [fa_le] at c
        have nn := nat_of_toInt (i := x1) p0
        obtain ⟨j, ej, -, h⟩ := ck_some h
        obtain ⟨s3, e3, h⟩ := nm_some h
        obtain ⟨v4, e4, h⟩ := nm_some h
        have eu : v4.toInt = x1.toInt + 1 := by rw [e4, ti_add (by omega) (by omega), l1]
        have z := ih s3 t v4 u σ1 τ1 h (by omega) (fun l hl hl2 => ?_)
        · exact ⟨fun c k hh => (z.1 c k hh).trans (by rw [e3]; exact up2_ne (by omega)), z.2⟩
        · by_cases d : l = j
          · rw [e3, d]
            unfold up2
            rw [if_pos ⟨rfl, rfl⟩]
          · rw [e3, up2_ne (by omega)]
            exact p l (by omega) hl2
  have z := H N s4 τ 0 u σ1 τ1 h (by omega) (fun l hl => absurd hl (by omega))
  have up : ∀ (s : gI) (c j : Nat) (v : Int32), up2 s c j v c j = v := fun s c j v => by unfold up2; rw [if_pos ⟨rfl, rfl⟩]
  have a6 : σ1 9 6 = 0 := by rw [z.1 9 6 (by omega), e4, up2_ne (by omega), e3, up2_ne (by omega), e2, up2_ne (by omega), e1, up]
  have a7 : σ1 9 7 = 0 := by rw [z.1 9 7 (by omega), e4, up2_ne (by omega), e3, up2_ne (by omega), e2, up]
  have a5 : σ1 9 5 = 0 := by rw [z.1 9 5 (by omega), e4, up2_ne (by omega), e3, up]
  have a8 : σ1 9 8 = 1 := by rw [z.1 9 8 (by omega), e4, up]
  refine ⟨fun c k hh => by rw [z.1 c k (by omega), e4, up2_ne (by omega), e3, up2_ne (by omega), e2, up2_ne (by omega), e1, up2_ne (by omega)], by rw [a6]; rfl, z.2, ?_⟩
  unfold TD
  rw [a6, a7, a5, a8]
  exact ⟨rfl, rfl, rfl⟩
theorem x_readT {K : Int → Int} {L : Int} (hL : 0 ≤ L ∧ L ≤ 80) (hK : ∀ i, K i ≤ 255) (hKm : ∀ i, K i ≠ -1 → i < 76) : ∀ (n : Nat) (s : gI) (t : gJ) (x2 x3 r : Int32) (σ1 : gI) (τ1 : gJ) (us : List (Int × Int)) (bs : List Int), H_X8_read_24 N n s t x2 x3 = some (r, σ1, τ1) → K = lk (s 2) (s 1 1).toInt → (s 1 1).toInt ≤ 80 → (s 1 2).toInt = L → (s 9 6).toInt = x3.toInt → (0 ≤ x3.toInt ∧ x3.toInt ≤ 12) → (0 ≤ x2.toInt ∧ x2.toInt ≤ 80) → FU s us → BU x2.toInt us → PR s 10 K bs → (bs.length : Int) = x3.toInt → TD s → (∀ c k : Nat, ¬ (9 ≤ c ∧ c ≤ 14) → σ1 c k = s c k) ∧ r.toInt = tw K L (12 - x3.toInt).toNat x2.toInt us ∧ (0 ≤ r.toInt → PR σ1 10 K (tws K L (12 - x3.toInt).toNat x2.toInt bs) ∧ ((tws K L (12 - x3.toInt).toNat x2.toInt bs).length : Int) = r.toInt ∧ (σ1 9 6).toInt = r.toInt ∧ TD σ1) := by
  have l1 : (1 : Int32).toInt = 1 := rfl
  have l0 : (0 : Int32).toInt = 0 := rfl
  have l12 : (12 : Int32).toInt = 12 := rfl
  have l59 : (59 : Int32).toInt = 59 := rfl
  have lm : (-1 : Int32).toInt = -1 := rfl
  have neg : ∀ v : Int32, ((-1) - v).toInt = -1 - v.toInt := fun v => by have := i32_rng v; rw [ti_sub (by omega) (by omega), lm]
  intro n
  induction n with
  | zero => intro s t x2 x3 r σ1 τ1 us bs h; cases h
  | succ n ih =>
    intro s t x2 x3 r σ1 τ1 us bs h hKd hm hl h6 h3 h2 hF hB hP hbl hTD
    have h : C_X8_read_24 N (H_X8_read_24 N n) s t x2 x3 = some (r, σ1, τ1) := h
    unfold C_X8_read_24 at h
    by_cases c : 12 ≤ x3
    · rw [if_pos c] at h
      rw [fa_le] at c
      obtain ⟨rfl, rfl, -⟩ := sm_inj h
      rw [show (12 - x3.toInt).toNat = 0 by omega, neg]
      exact ⟨fun _ _ _ => rfl, rfl, fun z => by omega⟩
    · rw [if_neg c] at h
      rw [fa_le] at c
      obtain ⟨f, hf⟩ : ∃ f : Nat, (12 - x3.toInt).toNat = f + 1 := ⟨(11 - x3.toInt).toNat, by omega⟩
      rw [hf]
      have et : tw K L (f + 1) x2.toInt us = (if (ln4 K x2.toInt).1 = false then -1 - (ln4 K x2.toInt).2.1 else if L ≤ (ln4 K x2.toInt).2.1 then jg (12 - (f : Int)) ((ln4 K x2.toInt).2.2 ++ us) else if K (ln4 K x2.toInt).2.1 = 59 then tw K L f ((ln4 K x2.toInt).2.1 + 1) ((ln4 K x2.toInt).2.2 ++ us) else -1 - (ln4 K x2.toInt).2.1) := rfl
      have es : tws K L (f + 1) x2.toInt bs = (if L ≤ (ln4 K x2.toInt).2.1 then x2.toInt :: bs else tws K L f ((ln4 K x2.toInt).2.1 + 1) (x2.toInt :: bs)) := rfl
      rw [et, es]
      obtain ⟨r2, s2, t2, q2, h⟩ := bd_some h
      obtain ⟨f2, z2⟩ := x_line4 hm hKd hK (by omega) (by omega) hF q2
      have rg := ln_rng K x2.toInt us h2.1 hB
      have k2 : lk (s2 2) (s2 1 1).toInt = K := by rw [show s2 2 = s 2 from funext fun k => f2 2 k (by omega), f2 1 1 (by omega)]; exact hKd.symm
      have m2 : (s2 1 1).toInt ≤ 80 := by rw [f2 1 1 (by omega)]; exact hm
      rcases z2 with ⟨z, e⟩ | ⟨z, e, e6, F2, P2⟩
      · rw [if_pos z]
        rw [if_neg (show ¬ 0 ≤ r2 from fun w => by rw [fa_le] at w; omega)] at h
        obtain ⟨rfl, rfl, -⟩ := sm_inj h
        exact ⟨f2, e, fun w => by omega⟩
      · rw [if_neg (by rw [z]; decide)]
        rw [if_pos (show 0 ≤ r2 from (fa_le _ _).mpr (by omega))] at h
        rw [← e] at rg ⊢
        have n9 : (s 9 6).toInt.toNat = bs.length := by omega
        have P3 : PR s2 10 K (x2.toInt :: bs) := by
          refine ⟨?_, pr_fr hP (fun c k h1 h2 h3 => P2.2.1 c k h1 h2 (by omega))⟩
          have w := P2.1
          rw [n9] at w
          exact w
        have T3 := P2.2.2 hTD
        have len3 : ((x2.toInt :: bs).length : Int) = x3.toInt + 1 := by
          show ((bs.length + 1 : Nat) : Int) = x3.toInt + 1
          omega
        obtain ⟨r4, s4, t4, q4, h⟩ := bd_some h
        unfold B_X7_isOver_0 at q4
        by_cases c4 : r2 < s2 1 2
        · rw [if_pos c4] at q4
          rw [fa_lt, f2 1 2 (by omega), hl] at c4
          obtain ⟨rfl, rfl, rfl⟩ := sm_inj q4
          rw [if_pos (show (0 : Int32) = 0 from rfl)] at h
          rw [if_neg (by omega)]
          obtain ⟨r6, s6, t6, q6, h⟩ := bd_some h
          obtain ⟨⟨rfl, rfl⟩, k6⟩ := x_has4 m2 q6
          rw [k2, l59] at k6
          rcases k6 with ⟨rfl, k6⟩ | ⟨rfl, k6⟩
          · rw [if_pos k6]
            rw [if_neg (show ¬ (1 : Int32) = 0 by decide)] at h
            obtain ⟨v8, e8, h⟩ := nm_some h
            obtain ⟨v9, e9, h⟩ := nm_some h
            have b2 := hKm r2.toInt (by omega)
            have u8 : v8.toInt = r2.toInt + 1 := by rw [e8, ti_add (by omega) (by omega), l1]
            have u9 : v9.toInt = x3.toInt + 1 := by rw [e9, ti_add (by omega) (by omega), l1]
            have q := ih s2 _ v8 v9 r σ1 τ1 _ _ h k2.symm m2 (by rw [f2 1 2 (by omega)]; exact hl) (by omega) (by omega) (by omega) F2 (by rw [u8]; exact bu_up rg.2.2 (by omega)) P3 (by omega) T3
            rw [u8, show (12 - v9.toInt).toNat = f by omega] at q
            rw [if_neg (show ¬ L ≤ r2.toInt by omega)]
            exact ⟨fun c k hh => (q.1 c k hh).trans (f2 c k hh), q.2⟩
          · rw [if_neg k6]
            rw [if_pos (show (0 : Int32) = 0 from rfl)] at h
            obtain ⟨rfl, rfl, -⟩ := sm_inj h
            exact ⟨f2, neg r2, fun w => by rw [neg] at w; omega⟩
        · rw [if_neg c4] at q4
          rw [fa_lt, f2 1 2 (by omega), hl] at c4
          obtain ⟨rfl, rfl, rfl⟩ := sm_inj q4
          rw [if_neg (show ¬ (1 : Int32) = 0 by decide)] at h
          rw [if_pos (by omega)]
          obtain ⟨r10, s10, t10, q10, h⟩ := bd_some h
          obtain ⟨rfl, rfl, -⟩ := sm_inj h
          obtain ⟨es, ej⟩ := x_judge4 rg.2.2 F2 (by omega) q10
          rw [← es]
          have e12 : (s2 9 6).toInt = 12 - (f : Int) := by omega
          rw [e12] at ej
          rw [if_pos (show L ≤ r2.toInt by omega)]
          refine ⟨f2, ej, fun w => ?_⟩
          have ej2 : r10.toInt = 12 - (f : Int) := by
            rw [ej]
            have jl := jd_lt (s := 12 - (f : Int)) rg.2.2 (by omega)
            rw [ej] at w
            unfold jg at w ⊢
            by_cases d : jd (12 - (f : Int)) ((ln4 K x2.toInt).2.2 ++ us) = -1
            · rw [if_pos d]
            · rw [if_neg d] at w
              omega
          exact ⟨P3, by omega, by omega, T3⟩
theorem x_read8 (h0 : 0 ≤ (σ 1 2).toInt ∧ (σ 1 2).toInt ≤ 80) (hS : ∀ k : Nat, (k : Int) < (σ 1 2).toInt → (σ 2 k).toInt ≤ 255) (h : B_X8_read_0 N σ τ = some (r, σ1, τ1)) : (∀ c k : Nat, ¬ ((9 ≤ c ∧ c ≤ 14) ∨ (c = 1 ∧ k = 1)) → σ1 c k = σ c k) ∧ r.toInt = (if (σ 1 2).toInt ≤ 0 then 0 else tw (lk (σ 2) (imin 76 (σ 1 2)).toInt) (σ 1 2).toInt 12 0 []) ∧ (0 ≤ r.toInt → PR σ1 10 (lk (σ 2) (imin 76 (σ 1 2)).toInt) (if (σ 1 2).toInt ≤ 0 then [] else tws (lk (σ 2) (imin 76 (σ 1 2)).toInt) (σ 1 2).toInt 12 0 []) ∧ ((if (σ 1 2).toInt ≤ 0 then [] else tws (lk (σ 2) (imin 76 (σ 1 2)).toInt) (σ 1 2).toInt 12 0 []).length : Int) = r.toInt ∧ (σ1 9 6).toInt = r.toInt ∧ TD σ1) := by
  have l0 : (0 : Int32).toInt = 0 := rfl
  have l76 : (76 : Int32).toInt = 76 := rfl
  have em := imin_c 76 (σ 1 2)
  unfold B_X8_read_0 at h
  obtain ⟨u1, s1, t1, q1, h⟩ := bd_some h
  obtain ⟨f1, z6, F1, T1⟩ := x_clear8 q1
  obtain ⟨u2, s2, t2, q2, h⟩ := bd_some h
  unfold B_X7_showAtMost_0 at q2
  obtain ⟨s9, e9, q2⟩ := nm_some q2
  obtain ⟨-, rfl, rfl⟩ := sm_inj q2
  rw [f1 1 2 (by omega)] at e9
  have f9 : ∀ c k : Nat, ¬ (c = 1 ∧ k = 1) → s9 c k = s1 c k := fun c k hh => by rw [e9]; exact up2_ne hh
  have z9 : s9 1 1 = imin 76 (σ 1 2) := by rw [e9]; unfold up2; rw [if_pos ⟨rfl, rfl⟩]
  have z2 : s9 2 = σ 2 := funext fun k => (f9 2 k (by omega)).trans (f1 2 k (by omega))
  obtain ⟨r3, s3, t3, q3, h⟩ := bd_some h
  unfold B_X7_isOver_0 at q3
  have e12 : s9 1 2 = σ 1 2 := (f9 1 2 (by omega)).trans (f1 1 2 (by omega))
  rw [e12] at q3
  by_cases c : 0 < σ 1 2
  · rw [if_pos c] at q3
    rw [fa_lt] at c
    obtain ⟨rfl, rfl, rfl⟩ := sm_inj q3
    rw [if_pos (show (0 : Int32) = 0 from rfl)] at h
    rw [if_neg (show ¬ (σ 1 2).toInt ≤ 0 by omega), if_neg (show ¬ (σ 1 2).toInt ≤ 0 by omega)]
    have hb : ∀ i, lk (σ 2) (imin 76 (σ 1 2)).toInt i ≤ 255 := fun i => by
      unfold lk
      by_cases d : 0 ≤ i ∧ i < (imin 76 (σ 1 2)).toInt
      · rw [if_pos d]; exact hS i.toNat (by omega)
      · rw [if_neg d]; omega
    have hb2 : ∀ i, lk (σ 2) (imin 76 (σ 1 2)).toInt i ≠ -1 → i < 76 := fun i z => by
      unfold lk at z
      by_cases d : 0 ≤ i ∧ i < (imin 76 (σ 1 2)).toInt
      · omega
      · rw [if_neg d] at z; exact absurd rfl z
    have q := x_readT h0 hb hb2 N s9 _ 0 0 r σ1 τ1 [] [] h (by rw [z2, z9]) (by rw [z9]; omega) (by rw [e12]) (by rw [f9 9 6 (by omega), z6]; rfl) (by omega) (by omega) (fu_fr F1 (fun k => f9 14 k (by omega))) trivial trivial rfl (td_fr T1 (fun c k hc => f9 c k (by omega)))
    exact ⟨fun c k hh => (q.1 c k (by omega)).trans ((f9 c k (by omega)).trans (f1 c k (by omega))), q.2⟩
  · rw [if_neg c] at q3
    rw [fa_lt] at c
    obtain ⟨rfl, rfl, rfl⟩ := sm_inj q3
    rw [if_neg (show ¬ (1 : Int32) = 0 by decide)] at h
    obtain ⟨rfl, rfl, -⟩ := sm_inj h
    rw [if_pos (show (σ 1 2).toInt ≤ 0 by omega), if_pos (show (σ 1 2).toInt ≤ 0 by omega)]
    exact ⟨fun c k hh => (f9 c k (by omega)).trans (f1 c k (by omega)), rfl, fun _ => ⟨trivial, rfl, by rw [f9 9 6 (by omega), z6]; rfl, td_fr T1 (fun c k hc => f9 c k (by omega))⟩⟩
end T4D
