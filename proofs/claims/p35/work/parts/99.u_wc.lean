def RT (K : Int → Int) (A L : Int) (q : Qs) (c : Bool) (H : List Int) (S : List (Bool × List Int)) (T : Int) (σ1 : gI) : Prop := ∃ (n : Nat) (d' : Int) (c' : Bool) (P o' : List Int), rn K n A q = some (false, d', (c', P ++ H) :: S, o') ∧ RH σ1 K T (A + n) S.length (rla P o') ∧ A + n ≤ T ∧ (∀ x, x ∈ P → L + 1 ≤ rk x) ∧ (1 ≤ L → c' = c) ∧ (0 ≤ dg4 (K (A + n)) → 3 ≤ d') ∧ (0 ≤ jc (K (A + n)) → rk (jc (K (A + n))) ≤ L ∨ (L = 0 ∧ c' = true ∧ rk (jc (K (A + n))) = 1))
def RF (K : Int → Int) (A : Int) (q : Qs) (T : Int) (σ1 : gI) : Prop := ∃ (n : Nat) (q' : Qs), rn K n A q = some q' ∧ (σ1 199 14).toInt = A + n ∧ A + n ≤ T ∧ st q' (K (A + n)) = none ∧ ¬ (q'.1 = false ∧ q'.2.2.1.length = 1)
theorem rf_comp {K : Int → Int} {A A1 T : Int} {q q1 : Qs} {σ1 : gI} {n : Nat} (h : rn K n A q = some q1) (e : A1 = A + n) (hF : RF K A1 q1 T σ1) : RF K A q T σ1 := by
  obtain ⟨m, q', a, b, c, d, g⟩ := hF
  rw [e] at a b c d
  have e2 : A + n + (m : Int) = A + ((n + m : Nat) : Int) := by omega
  rw [e2] at b c d
  exact ⟨n + m, q', by rw [rn_add h]; exact a, b, c, d, g⟩
theorem rt_comp {K : Int → Int} {A A1 T L : Int} {q q1 : Qs} {c : Bool} {H : List Int} {S : List (Bool × List Int)} {σ1 : gI} {n : Nat} (h : rn K n A q = some q1) (e : A1 = A + n) (hT : RT K A1 L q1 c H S T σ1) : RT K A L q c H S T σ1 := by
  obtain ⟨m, d', c', P, o', a, b, b2, d, g, i, j⟩ := hT
  rw [e] at a b b2 i j
  have e2 : A + n + (m : Int) = A + ((n + m : Nat) : Int) := by omega
  rw [e2] at b b2 i j
  exact ⟨n + m, d', c', P, o', by rw [rn_add h]; exact a, b, b2, d, g, i, j⟩
def GT (N D : Nat) : Prop := ∀ (σ : gI) (τ : gJ) (r : Int32) (σ1 : gI) (τ1 : gJ) (K : Int → Int) (T A d : Int) (c : Bool) (H : List Int) (S : List (Bool × List Int)) (out : List Int), (R_X12_reads N D).1 σ τ = some (r, σ1, τ1) → RH σ K T A S.length out → (0 ≤ A ∧ A ≤ T ∧ T ≤ 40) → S.length ≤ 4 → fR σ σ1 ∧ ((r = 0 ∧ RF K A (true, d, (c, H) :: S, out) T σ1) ∨ (r = 1 ∧ RT K A 3 (true, d, (c, H) :: S, out) c H S T σ1))
def GR (N D : Nat) : Prop := ∀ (σ : gI) (τ : gJ) (x1 r : Int32) (σ1 : gI) (τ1 : gJ) (K : Int → Int) (T A d L : Int) (c : Bool) (H : List Int) (S : List (Bool × List Int)) (out : List Int), (R_X12_reads N D).2 σ τ x1 = some (r, σ1, τ1) → RH σ K T A S.length out → (0 ≤ A ∧ A ≤ T ∧ T ≤ 40) → S.length ≤ 4 → x1.toInt = L → (0 ≤ L ∧ L ≤ 3) → (L = 0 → H = [] ∧ c = false) → (L ≤ 2 → ∀ x H', H = x :: H' → rk x ≤ L) → fR σ σ1 ∧ ((r = 0 ∧ RF K A (true, d, (c, H) :: S, out) T σ1) ∨ (r = 1 ∧ RT K A L (true, d, (c, H) :: S, out) c H S T σ1))
section RU6S
variable {N : Nat}
theorem x_num0 {c : Bool} {H : List Int} {S : List (Bool × List Int)} {K : Int → Int} {T A v d : Int} {out : List Int} (hA : 0 ≤ A ∧ A < T ∧ T ≤ 40) (hd : 0 ≤ dg4 (K A)) : ∀ (n : Nat) (s : gI) (t : gJ) (r : Int32) (σ1 : gI) (τ1 : gJ), H_X12_numberOf_13 N n s t 3 0 0 = some (r, σ1, τ1) → RH s K T A v out → (∀ c k : Nat, ¬ (c = 199 ∧ k = 14) → σ1 c k = s c k) ∧ ∃ (m : Nat) (i : Int), rn K m A (true, d, (c, H) :: S, out) = some (false, i, (c, H) :: S, r.toInt :: out) ∧ RH σ1 K T (A + m) v out ∧ A + m ≤ T ∧ (0 ≤ dg4 (K (A + m)) → 3 ≤ i) := by
  have l0 : (0 : Int32).toInt = 0 := rfl
  have l1 : (1 : Int32).toInt = 1 := rfl
  have l48 : (48 : Int32).toInt = 48 := rfl
  intro n s t r σ1 τ1 h hH
  cases n with
  | zero => cases h
  | succ n =>
    have h : C_X12_numberOf_13 N (H_X12_numberOf_13 N n) s t 3 0 0 = some (r, σ1, τ1) := h
    unfold C_X12_numberOf_13 at h
    rw [if_neg (show ¬ (3 : Int32) ≤ 0 by decide)] at h
    obtain ⟨r2, s2, t2, q2, h⟩ := bd_some h
    obtain ⟨e2, k2⟩ := x_isD hH (by omega) q2
    rcases k2 with ⟨k2, k3, k4⟩ | ⟨k2, k3⟩
    · rw [if_neg (show ¬ r2 = 0 by rw [k2]; decide), ← e2] at h
      have eA := hH.2.2.1
      have nn := nat_of_toInt (i := s 199 14) (by omega)
      obtain ⟨j, ej, -, h⟩ := ck_some h
      obtain ⟨v5, e5, h⟩ := nm_some h
      obtain ⟨s6, e6, h⟩ := nm_some h
      obtain ⟨v7, e7, h⟩ := nm_some h
      obtain ⟨d1, d2⟩ := dg_sg (j := j) hH (by omega) (by omega) k3
      have u7 : v7.toInt = 1 := by rw [e7]; rfl
      have m10 : ((10 : Int32) * 0).toInt = 0 := rfl
      have m11 : ((10 : Int32) * 0 + s 208 j).toInt = (s 208 j).toInt := by rw [ti_add (by omega) (by omega), m10]; omega
      have u5 : v5.toInt = dg4 (K A) := by rw [e5, ti_sub (by omega) (by omega), m11, l48]; omega
      have f6 : ∀ c k : Nat, ¬ (c = 199 ∧ k = 14) → s6 c k = s c k := fun c k hh => by rw [e6]; exact up2_ne hh
      have a6 : (s6 199 14).toInt = A + 1 := by rw [e6, up_eq, ti_add (by omega) (by omega), l1]; omega
      obtain ⟨g1, m, i, g2, g3, g4, g5⟩ := x_num (c := c) (H := H) (S := S) (by omega) n s6 t2 v5 v7 r σ1 τ1 (A + 1) h (rh_14 hH f6 a6) (by omega) (by omega) (by omega)
      rw [u7, u5] at g2
      refine ⟨fun c k hh => (g1 c k hh).trans (f6 c k hh), m + 1, i, ?_, ?_, by omega, ?_⟩
      · show (st (true, d, (c, H) :: S, out) (K A)).bind (rn K m (A + 1)) = _
        rw [st_dig (ft_dg k3) k3]
        exact g2
      · rw [show A + ((m + 1 : Nat) : Int) = A + 1 + m by omega]; exact g3
      · rw [show A + ((m + 1 : Nat) : Int) = A + 1 + m by omega]; exact g5
    · exact absurd hd k3
theorem g_thing {D : Nat} (hT : GT N D) (hR : GR N D) : GT N (D + 1) := by
  intro σ τ r σ1 τ1 K T A d c H S out h hH hA hS
  have h : B_X12_readsThing_0 (R_X12_reads N D).1 (R_X12_reads N D).2 N σ τ = some (r, σ1, τ1) := h
  have l0 : (0 : Int32).toInt = 0 := rfl
  have l1 : (1 : Int32).toInt = 1 := rfl
  have l4 : (4 : Int32).toInt = 4 := rfl
  have l1000 : (1000 : Int32).toInt = 1000 := rfl
  unfold B_X12_readsThing_0 at h
  obtain ⟨r1, s1, t1, q1, h⟩ := bd_some h
  obtain ⟨f1, z1⟩ := x_tkv (by decide) hH hA q1
  rcases z1 with ⟨a1, a2, a3, a4⟩ | ⟨a1, a2, a3⟩
  · rw [if_neg (show ¬ r1 = 0 by rw [a1]; decide)] at h
    obtain ⟨r19, s19, t19, q19, h⟩ := bd_some h
    obtain ⟨f19, z19⟩ := hT s1 t1 r19 s19 t19 K T (A + 1) d c (3000 :: H) S out q19 a3 (by omega) hS
    obtain ⟨u20, s20, t20, q20, h⟩ := bd_some h
    obtain ⟨-, h⟩ := cb_some h
    obtain ⟨rfl, rfl, -⟩ := sm_inj h
    have st1 : st (true, d, (c, H) :: S, out) (K A) = some (true, d, (c, 3000 :: H) :: S, out) := by
      rw [show K A = 45 from a2]
      exact st_neg
    have f20 := (fr_B_X12_codes_0 N s19 t19 3000 q20).1
    have Ff : fR σ s20 := fun c k hh => (f20 c k (by omega)).trans ((f19 c k hh).trans (f1 c k (by omega)))
    rcases z19 with ⟨b1, b2⟩ | ⟨b1, b2⟩
    · refine ⟨Ff, Or.inl ⟨b1, ?_⟩⟩
      obtain ⟨n, q', y1, y2, y3, y4, y5⟩ := rf_comp (rn_1 st1) rfl b2
      exact ⟨n, q', y1, by rw [f20 199 14 (by omega)]; exact y2, y3, y4, y5⟩
    · obtain ⟨n, d', c', P, o', y1, y2, y3, y4, y5, y6, y7⟩ := b2
      obtain ⟨w1, w2⟩ := x_codes y2 q20
      have e9 : A + 1 + (n : Int) = A + ((n + 1 : Nat) : Int) := by omega
      rw [e9] at w1 y3 y6 y7
      refine ⟨Ff, Or.inr ⟨b1, n + 1, d', c', P ++ [3000], o', ?_, ?_, y3, fun x hx => ?_, y5, y6, y7⟩⟩
      · show (st (true, d, (c, H) :: S, out) (K A)).bind (rn K n (A + 1)) = _
        rw [st1, List.append_assoc]
        exact y1
      · rw [rla_app]
        exact w1
      · rcases List.mem_append.mp hx with g | g
        · exact y4 x g
        · rw [List.mem_singleton.mp g]
          decide
  · rw [if_pos a1] at h
    obtain ⟨r3, s3, t3, q3, h⟩ := bd_some h
    obtain ⟨e3, z3⟩ := x_isD a3 hA q3
    rcases z3 with ⟨b1, b2, b3⟩ | ⟨b1, b2⟩
    · rw [if_neg (show ¬ r3 = 0 by rw [b1]; decide), ← e3] at h
      obtain ⟨r17, s17, t17, q17, h⟩ := bd_some h
      obtain ⟨u18, s18, t18, q18, h⟩ := bd_some h
      obtain ⟨rfl, rfl, -⟩ := sm_inj h
      unfold B_X12_numberOf_0 at q17
      obtain ⟨r4, s4, t4, q4, q17⟩ := bd_some q17
      obtain ⟨e4, z4⟩ := x_isD a3 hA q4
      rcases z4 with ⟨c1, c2, c3⟩ | ⟨c1, c2⟩
      · rw [if_neg (show ¬ r4 = 0 by rw [c1]; decide), ← e4] at q17
        obtain ⟨g1, m, i, g2, g3, g4, g5⟩ := x_num0 (c := c) (H := H) (S := S) (d := d) ⟨hA.1, c3, hA.2.2⟩ b2 N s1 t4 r17 s17 t17 q17 a3
        obtain ⟨w1, w2⟩ := x_codes g3 q18
        refine ⟨fun c k hh => (w2 c k (by omega)).trans ((g1 c k (by omega)).trans (f1 c k (by omega))), Or.inr ⟨rfl, m, i, c, [], r17.toInt :: out, g2, w1, g4, fun x hx => absurd hx (List.not_mem_nil), fun _ => rfl, g5, fun z => ?_⟩⟩
        have := rk_jc z
        omega
      · exact absurd b2 c2
    · rw [if_pos b1, ← e3] at h
      obtain ⟨r5, s5, t5, q5, h⟩ := bd_some h
      obtain ⟨f5, z5⟩ := tk_fact a3 hA q5
      rcases z5 with ⟨c1, c2, c3, c4⟩ | ⟨c1, c2, c3⟩
      · rw [if_neg (show ¬ r5 < 0 from fun z => by rw [fa_lt] at z; omega)] at h
        obtain ⟨u16, s16, t16, q16, h⟩ := bd_some h
        obtain ⟨rfl, rfl, -⟩ := sm_inj h
        obtain ⟨w1, w2⟩ := x_codes c3 q16
        have g7 := ft_rng (K A)
        rw [ti_add (by omega) (by omega), l1000, ← c2] at w1
        refine ⟨fun c k hh => (w2 c k (by omega)).trans ((f5 c k (by omega)).trans (f1 c k (by omega))), Or.inr ⟨rfl, 1, 3, c, [], (1000 + ft (K A)) :: out, rn_1 (st_fact (by omega)), w1, by omega, fun x hx => absurd hx (List.not_mem_nil), fun _ => rfl, fun _ => by omega, fun z => ?_⟩⟩
        have := rk_jc z
        omega
      · rw [if_pos (show r5 < 0 from (fa_lt _ _).mpr (by omega))] at h
        have v5 : (s5 199 16).toInt = S.length := c3.2.2.2.1
        have a45 : K A ≠ 45 := a2
        by_cases c16 : s5 199 16 = 4
        · rw [if_pos c16] at h
          rw [fa_eq] at c16
          obtain ⟨rfl, rfl, -⟩ := sm_inj h
          refine ⟨fun c k hh => (f5 c k (by omega)).trans (f1 c k (by omega)), Or.inl ⟨rfl, 0, _, rfl, ?_, by omega, ?_, fun z => by cases z.1⟩⟩
          · rw [c3.2.2.1]; omega
          · rw [show A + ((0 : Nat) : Int) = A by omega]
            refine st_wno c2 b2 a45 (fun z => ?_)
            have z2 : S.length + 1 ≤ 4 := z.2
            omega
        · rw [if_neg c16] at h
          rw [fa_eq] at c16
          obtain ⟨r8, s8, t8, q8, h⟩ := bd_some h
          obtain ⟨f8, z8⟩ := x_tkv (by decide) c3 hA q8
          rcases z8 with ⟨d1, d2, d3, d4⟩ | ⟨d1, d2, d3⟩
          · rw [if_neg (show ¬ r8 = 0 by rw [d1]; decide)] at h
            obtain ⟨s10, e10, h⟩ := nm_some h
            have f10 : ∀ c k : Nat, ¬ (c = 199 ∧ k = 16) → s10 c k = s8 c k := fun c k hh => by rw [e10]; exact up2_ne hh
            have v8 : (s8 199 16).toInt = S.length := d3.2.2.2.1
            have v10 : (s10 199 16).toInt = ((S.length + 1 : Nat) : Int) := by rw [e10, up_eq, ti_add (by omega) (by omega), l1]; omega
            have H10 := rh_16 d3 f10 v10
            have hopen : st (true, d, (c, H) :: S, out) (K A) = some (true, d, (false, []) :: (c, H) :: S, out) := by
              rw [show K A = 40 from d2]
              exact st_open (show S.length + 1 ≤ 4 by omega)
            obtain ⟨r11, s11, t11, q11, h⟩ := bd_some h
            obtain ⟨f11, z11⟩ := hR s10 t8 0 r11 s11 t11 K T (A + 1) d 0 false [] ((c, H) :: S) out q11 H10 (by omega) (show S.length + 1 ≤ 4 by omega) rfl (by omega) (fun _ => ⟨rfl, rfl⟩) (fun _ x H' e => by cases e)
            have F11 : fR σ s11 := fun c k hh => (f11 c k hh).trans ((f10 c k (by omega)).trans ((f8 c k (by omega)).trans ((f5 c k (by omega)).trans (f1 c k (by omega)))))
            rcases z11 with ⟨g1, g2⟩ | ⟨g1, g2⟩
            · rw [if_pos g1] at h
              obtain ⟨rfl, rfl, -⟩ := sm_inj h
              exact ⟨F11, Or.inl ⟨rfl, rf_comp (rn_1 hopen) rfl g2⟩⟩
            · rw [if_neg (show ¬ r11 = 0 by rw [g1]; decide)] at h
              obtain ⟨n, d', c', P, o', y1, y2, y3, y4, y5, y6, y7⟩ := g2
              obtain ⟨r13, s13, t13, q13, h⟩ := bd_some h
              obtain ⟨f13, z13⟩ := x_tkv (by decide) y2 (by omega) q13
              have e9 : A + 1 + (n : Int) = A + ((n + 1 : Nat) : Int) := by omega
              have run : rn K (n + 1) A (true, d, (c, H) :: S, out) = some (false, d', (c', P) :: (c, H) :: S, o') := by
                show (st (true, d, (c, H) :: S, out) (K A)).bind (rn K n (A + 1)) = _
                rw [hopen]
                rw [List.append_nil] at y1
                exact y1
              rcases z13 with ⟨i1, i2, i3, i4⟩ | ⟨i1, i2, i3⟩
              · rw [if_neg (show ¬ r13 = 0 by rw [i1]; decide)] at h
                obtain ⟨s15, e15, h⟩ := nm_some h
                obtain ⟨rfl, rfl, -⟩ := sm_inj h
                have f15 : ∀ c k : Nat, ¬ (c = 199 ∧ k = 16) → s15 c k = s13 c k := fun c k hh => by rw [e15]; exact up2_ne hh
                have v13 : (s13 199 16).toInt = ((S.length + 1 : Nat) : Int) := i3.2.2.2.1
                have v15 : (s15 199 16).toInt = (S.length : Int) := by rw [e15, up_eq, ti_sub (by omega) (by omega), l1, v13]; omega
                have H15 := rh_16 i3 f15 v15
                have cl : st (false, d', (c', P) :: (c, H) :: S, o') (K (A + ((n + 1 : Nat) : Int))) = some (false, 3, (c, H) :: S, rla P o') := by
                  rw [← e9, show K (A + 1 + n) = 41 from i2]
                  exact st_close (List.cons_ne_nil _ _)
                have e8 : A + 1 + (n : Int) + 1 = A + ((n + 1 + 1 : Nat) : Int) := by omega
                rw [e8] at H15
                refine ⟨fun c k hh => (f15 c k (by omega)).trans ((f13 c k (by omega)).trans (F11 c k hh)), Or.inr ⟨rfl, n + 1 + 1, 3, c, [], rla P o', ?_, H15, by omega, fun x hx => absurd hx (List.not_mem_nil), fun _ => rfl, fun _ => by omega, fun z => ?_⟩⟩
                · rw [rn_add run]
                  exact rn_1 cl
                · have := rk_jc z
                  omega
              · rw [if_pos i1] at h
                obtain ⟨rfl, rfl, -⟩ := sm_inj h
                refine ⟨fun c k hh => (f13 c k (by omega)).trans (F11 c k hh), Or.inl ⟨rfl, n + 1, _, run, by rw [i3.2.2.1]; exact e9, by omega, ?_, fun z => ?_⟩⟩
                · rw [← e9]
                  refine st_bno y6 (fun w => absurd w i2) (fun w => ?_)
                  rcases y7 w with x | x
                  · have := rk_rng (jc (K (A + 1 + n)))
                    omega
                  · exact ⟨x.2.2, x.2.1⟩
                · have z2 : S.length + 1 + 1 = 1 := z.2
                  omega
          · rw [if_pos d1] at h
            obtain ⟨rfl, rfl, -⟩ := sm_inj h
            refine ⟨fun c k hh => (f8 c k (by omega)).trans ((f5 c k (by omega)).trans (f1 c k (by omega))), Or.inl ⟨rfl, 0, _, rfl, ?_, by omega, ?_, fun z => by cases z.1⟩⟩
            · rw [d3.2.2.1]; omega
            · rw [show A + ((0 : Nat) : Int) = A by omega]
              exact st_wno c2 b2 a45 (fun z => d2 z.1)
/-- the loop of a level: from a thing that stands, held P above H -/
theorem g_loop {D : Nat} (hR : GR N D) {K : Int → Int} {T L : Int} {H : List Int} {S : List (Bool × List Int)} (hL : 0 ≤ L ∧ L ≤ 2) (hT40 : T ≤ 40) (hS : S.length ≤ 4) (hH0 : L = 0 → H = []) (hHt : ∀ x H', H = x :: H' → rk x ≤ L) : ∀ (n : Nat) (σ : gI) (τ : gJ) (x1 r : Int32) (σ1 : gI) (τ1 : gJ) (A d : Int) (c : Bool) (P o : List Int), H_X12_readsRank_24 (R_X12_reads N D).1 (R_X12_reads N D).2 N n σ τ x1 1 = some (r, σ1, τ1) → x1.toInt = L → RH σ K T A S.length (rla P o) → (0 ≤ A ∧ A ≤ T) → (∀ x, x ∈ P → L + 1 ≤ rk x) → (L = 0 → c = false) → (0 ≤ dg4 (K A) → 3 ≤ d) → (0 ≤ jc (K A) → rk (jc (K A)) ≤ L + 1) → fR σ σ1 ∧ ((r = 0 ∧ RF K A (false, d, (c, P ++ H) :: S, o) T σ1) ∨ (r = 1 ∧ RT K A L (false, d, (c, P ++ H) :: S, o) c H S T σ1)) := by
  have l0 : (0 : Int32).toInt = 0 := rfl
  have l1 : (1 : Int32).toInt = 1 := rfl
  have l2000 : (2000 : Int32).toInt = 2000 := rfl
  intro n
  induction n with
  | zero => intro σ τ x1 r σ1 τ1 A d c P o h; cases h
  | succ n ih =>
    intro σ τ x1 r σ1 τ1 A d c P o h hx hH hA hP hc hdg hjc
    have h : C_X12_readsRank_24 (R_X12_reads N D).1 (R_X12_reads N D).2 N (H_X12_readsRank_24 (R_X12_reads N D).1 (R_X12_reads N D).2 N n) σ τ x1 1 = some (r, σ1, τ1) := h
    unfold C_X12_readsRank_24 at h
    rw [if_neg (show ¬ (1 : Int32) = 0 by decide)] at h
    -- no joint of this level: it ends here
    have none6 : ∀ (s : gI), (∀ c k : Nat, ¬ (c = 199 ∧ k = 14) → s c k = σ c k) → RH s K T A S.length (rla P o) → ¬ (0 ≤ jc (K A) ∧ rk (jc (K A)) = L + 1) → fR σ s ∧ RT K A L (false, d, (c, P ++ H) :: S, o) c H S T s := by
      intro s f hs hn
      have e0 : A + ((0 : Nat) : Int) = A := by omega
      refine ⟨fun c k hh => f c k (by omega), 0, d, c, P, o, rfl, by rw [e0]; exact hs, by omega, hP, fun _ => rfl, by rw [e0]; exact hdg, ?_⟩
      rw [e0]
      intro w
      have := hjc w
      exact Or.inl (by
        by_cases g : rk (jc (K A)) = L + 1
        · exact absurd ⟨w, g⟩ hn
        · omega)
    -- a joint of this level
    have some6 : ∀ (s : gI) (t : gJ) (b rr x : Int32), (∀ c k : Nat, ¬ (c = 199 ∧ k = 14) → s c k = σ c k) → RH s K T (A + 1) S.length (rla P o) → A < T → (0 ≤ rr.toInt ∧ rr.toInt ≤ 2) → (0 ≤ b.toInt ∧ b.toInt ≤ 5) → jc (K A) = 2000 + rr.toInt + b.toInt → rk (jc (K A)) = L + 1 → x.toInt = L + 1 → (bd ((R_X12_reads N D).2 s t x) fun r_18 σ_18 τ_18 => if r_18 = 0 then (some (0, σ_18, τ_18)) else (B_X12_readsRank_96 (R_X12_reads N D).1 (R_X12_reads N D).2 N (H_X12_readsRank_24 (R_X12_reads N D).1 (R_X12_reads N D).2 N n) σ_18 τ_18 x1 b (2000 + rr))) = some (r, σ1, τ1) → fR σ σ1 ∧ ((r = 0 ∧ RF K A (false, d, (c, P ++ H) :: S, o) T σ1) ∨ (r = 1 ∧ RT K A L (false, d, (c, P ++ H) :: S, o) c H S T σ1)) := by
      intro s t b rr x f hs hAT hr hb ej erk ex h
      have j0 : 0 ≤ jc (K A) := by omega
      have sj : st (false, d, (c, P ++ H) :: S, o) (K A) = some (true, d, (c || decide (rk (jc (K A)) = 1), jc (K A) :: H) :: S, rla P o) := by
        refine st_joint j0 (fun z => ?_) (fun y hy => by rw [erk]; exact hP y hy) (fun y T' e => ?_)
        · have hL0 : L = 0 := by omega
          rw [hc hL0] at z
          exact absurd z.2 (by decide)
        · have := hHt y T' e
          omega
      obtain ⟨r18, s18, t18, q18, h⟩ := bd_some h
      obtain ⟨f18, z18⟩ := hR s t x r18 s18 t18 K T (A + 1) d (L + 1) (c || decide (rk (jc (K A)) = 1)) (jc (K A) :: H) S (rla P o) q18 hs (by omega) hS ex (by omega) (fun z => by omega) (fun _ y H' e => by
        have e1 : jc (K A) = y := (List.cons.inj e).1
        rw [← e1]
        omega)
      have F18 : fR σ s18 := fun c k hh => (f18 c k hh).trans (f c k (by omega))
      rcases z18 with ⟨g1, g2⟩ | ⟨g1, g2⟩
      · rw [if_pos g1] at h
        obtain ⟨rfl, rfl, -⟩ := sm_inj h
        exact ⟨F18, Or.inl ⟨rfl, rf_comp (rn_1 sj) rfl g2⟩⟩
      · rw [if_neg (show ¬ r18 = 0 by rw [g1]; decide)] at h
        obtain ⟨m, d', c', P2, o', y1, y2, y3, y4, y5, y6, y7⟩ := g2
        unfold B_X12_readsRank_96 at h
        obtain ⟨u1, s1, t1, q1, h⟩ := bd_some h
        obtain ⟨w1, w2⟩ := x_codes y2 q1
        have e2000 : ((2000 : Int32) + rr).toInt = 2000 + rr.toInt := by rw [ti_add (by omega) (by omega), l2000]
        rw [ti_add (by omega) (by omega), e2000, ← ej] at w1
        have e9 : A + 1 + (m : Int) = A + ((m + 1 : Nat) : Int) := by omega
        have run : rn K (m + 1) A (false, d, (c, P ++ H) :: S, o) = some (false, d', (c', (P2 ++ [jc (K A)]) ++ H) :: S, o') := by
          show (st (false, d, (c, P ++ H) :: S, o) (K A)).bind (rn K m (A + 1)) = _
          rw [sj, List.append_assoc]
          exact y1
        have c2 := y5 (by omega)
        have W1 : RH s1 K T (A + ((m + 1 : Nat) : Int)) S.length (rla (P2 ++ [jc (K A)]) o') := by
          rw [rla_app, ← e9]
          exact w1
        have F1 : fR σ s1 := fun c k hh => (w2 c k (by omega)).trans (F18 c k hh)
        have rP : ∀ y, y ∈ P2 ++ [jc (K A)] → L + 1 ≤ rk y := fun y hy => by
          rcases List.mem_append.mp hy with g | g
          · have := y4 y g
            omega
          · rw [List.mem_singleton.mp g]
            omega
        rw [e9] at y3 y6 y7
        by_cases cl : x1 ≤ 0
        · rw [if_pos cl] at h
          rw [fa_le] at cl
          have hL0 : L = 0 := by omega
          cases n with
          | zero => cases h
          | succ n =>
            have h : C_X12_readsRank_24 (R_X12_reads N D).1 (R_X12_reads N D).2 N (H_X12_readsRank_24 (R_X12_reads N D).1 (R_X12_reads N D).2 N n) s1 t1 x1 0 = some (r, σ1, τ1) := h
            unfold C_X12_readsRank_24 at h
            rw [if_pos (show (0 : Int32) = 0 from rfl)] at h
            obtain ⟨rfl, rfl, -⟩ := sm_inj h
            refine ⟨F1, Or.inr ⟨rfl, m + 1, d', c', P2 ++ [jc (K A)], o', run, W1, y3, rP, fun z => absurd z (by omega), y6, fun w => Or.inr ⟨hL0, ?_, ?_⟩⟩⟩
            · rw [c2, decide_eq_true (show rk (jc (K A)) = 1 by omega), Bool.or_true]
            · rcases y7 w with q | q
              · have := rk_rng (jc (K (A + ((m + 1 : Nat) : Int))))
                omega
              · have := q.1
                omega
        · rw [if_neg cl] at h
          rw [fa_le] at cl
          have hc' : c' = c := by rw [c2, decide_eq_false (show ¬ rk (jc (K A)) = 1 by omega), Bool.or_false]
          obtain ⟨F2, z2⟩ := ih s1 t1 x1 r σ1 τ1 (A + ((m + 1 : Nat) : Int)) d' c' (P2 ++ [jc (K A)]) o' h hx W1 (by omega) rP (fun z => by omega) y6 (fun w => by
            rcases y7 w with q | q
            · exact q
            · have := q.1
              omega)
          refine ⟨fun c k hh => (F2 c k hh).trans (F1 c k hh), ?_⟩
          rcases z2 with ⟨q1, q2⟩ | ⟨q1, q2⟩
          · exact Or.inl ⟨q1, rf_comp run rfl q2⟩
          · rw [hc'] at q2 run
            exact Or.inr ⟨q1, rt_comp run rfl q2⟩
    have ex1 : (x1 + 1).toInt = L + 1 := by rw [ti_add (by omega) (by omega), l1, hx]
    by_cases cx0 : x1 = 0
    · have hL0 : L = 0 := by rw [← hx, cx0]; rfl
      rw [if_pos cx0] at h
      obtain ⟨r16, s16, t16, q16, h⟩ := bd_some h
      obtain ⟨f16, z16⟩ := tk_j0 hH (by omega) q16
      rcases z16 with ⟨g1, g2, g3, g4, g5, g6⟩ | ⟨g1, g2, g3⟩
      · rw [if_pos (show 0 ≤ r16 from (fa_le _ _).mpr (by omega))] at h
        refine some6 s16 t16 0 r16 (x1 + 1) f16 g5 g6 (by omega) (by omega) (by omega) (by omega) ex1 ?_
        simp only [if_pos cx0] at h
        exact h
      · rw [if_neg (show ¬ 0 ≤ r16 from fun z => by rw [fa_le] at z; omega)] at h
        obtain ⟨rfl, rfl, -⟩ := sm_inj h
        obtain ⟨w1, w2⟩ := none6 s16 f16 g3 (by rw [hL0]; exact g2)
        exact ⟨w1, Or.inr ⟨rfl, w2⟩⟩
    · rw [if_neg cx0] at h
      by_cases cx1 : x1 = 1
      · have hL0 : L = 1 := by rw [← hx, cx1]; rfl
        rw [if_pos cx1] at h
        obtain ⟨r16, s16, t16, q16, h⟩ := bd_some h
        obtain ⟨f16, z16⟩ := tk_j1 hH (by omega) q16
        rcases z16 with ⟨g1, g2, g3, g4, g5, g6⟩ | ⟨g1, g2, g3⟩
        · rw [if_pos (show 0 ≤ r16 from (fa_le _ _).mpr (by omega))] at h
          have l3 : (3 : Int32).toInt = 3 := rfl
          refine some6 s16 t16 3 r16 (x1 + 1) f16 g5 g6 (by omega) (by omega) (by omega) (by omega) ex1 ?_
          simp only [if_neg cx0, if_pos cx1] at h
          exact h
        · rw [if_neg (show ¬ 0 ≤ r16 from fun z => by rw [fa_le] at z; omega)] at h
          obtain ⟨rfl, rfl, -⟩ := sm_inj h
          obtain ⟨w1, w2⟩ := none6 s16 f16 g3 (by rw [hL0]; exact g2)
          exact ⟨w1, Or.inr ⟨rfl, w2⟩⟩
      · rw [if_neg cx1] at h
        have hL0 : L = 2 := by
          rw [fa_eq] at cx0 cx1
          omega
        obtain ⟨r16, s16, t16, q16, h⟩ := bd_some h
        obtain ⟨f16, z16⟩ := tk_j2 hH (by omega) q16
        rcases z16 with ⟨g1, g2, g3, g4, g5, g6⟩ | ⟨g1, g2, g3⟩
        · rw [if_pos (show 0 ≤ r16 from (fa_le _ _).mpr (by omega))] at h
          have l5 : (5 : Int32).toInt = 5 := rfl
          refine some6 s16 t16 5 r16 (x1 + 1) f16 g5 g6 (by omega) (by omega) (by omega) (by omega) ex1 ?_
          simp only [if_neg cx0, if_neg cx1] at h
          exact h
        · rw [if_neg (show ¬ 0 ≤ r16 from fun z => by rw [fa_le] at z; omega)] at h
          obtain ⟨rfl, rfl, -⟩ := sm_inj h
          obtain ⟨w1, w2⟩ := none6 s16 f16 g3 (by rw [hL0]; exact g2)
          exact ⟨w1, Or.inr ⟨rfl, w2⟩⟩
theorem g_rank {D : Nat} (hT : GT N D) (hR : GR N D) : GR N (D + 1) := by
  intro σ τ x1 r σ1 τ1 K T A d L c H S out h hH hA hS hx hL h0 h2
  have l1 : (1 : Int32).toInt = 1 := rfl
  have l3 : (3 : Int32).toInt = 3 := rfl
  have h : B_X12_readsRank_0 (R_X12_reads N D).1 (R_X12_reads N D).2 N σ τ x1 = some (r, σ1, τ1) := h
  unfold B_X12_readsRank_0 at h
  by_cases c3 : x1 = 3
  · rw [if_pos c3] at h
    rw [fa_eq] at c3
    obtain ⟨r4, s4, t4, q4, h⟩ := bd_some h
    obtain ⟨-, h⟩ := cb_some h
    obtain ⟨rfl, rfl, -⟩ := sm_inj h
    have hL3 : L = 3 := by omega
    rw [hL3]
    exact hT σ τ r4 s4 t4 K T A d c H S out q4 hH hA hS
  · rw [if_neg c3] at h
    rw [fa_eq] at c3
    obtain ⟨r2, s2, t2, q2, h⟩ := bd_some h
    have ex : (x1 + 1).toInt = L + 1 := by rw [ti_add (by omega) (by omega), l1, hx]
    obtain ⟨f2, z2⟩ := hR σ τ (x1 + 1) r2 s2 t2 K T A d (L + 1) c H S out q2 hH hA hS ex (by omega) (fun z => by omega) (fun _ x H' e => by have := h2 (by omega) x H' e; omega)
    rcases z2 with ⟨g1, g2⟩ | ⟨g1, g2⟩
    · rw [if_pos g1] at h
      obtain ⟨rfl, rfl, -⟩ := sm_inj h
      exact ⟨f2, Or.inl ⟨rfl, g2⟩⟩
    · rw [if_neg (show ¬ r2 = 0 by rw [g1]; decide)] at h
      obtain ⟨n, d', c', P, o', y1, y2, y3, y4, y5, y6, y7⟩ := g2
      have hc' : c' = c := y5 (by omega)
      obtain ⟨F, z⟩ := g_loop hR (by omega) hA.2.2 hS (fun z => (h0 z).1) (h2 (by omega)) N s2 t2 x1 r σ1 τ1 (A + n) d' c' P o' h hx y2 (by omega) (fun x hx => by have := y4 x hx; omega) (fun z => by rw [hc']; exact (h0 z).2) y6 (fun w => by
        rcases y7 w with q | q
        · exact q
        · have := q.1
          omega)
      refine ⟨fun c k hh => (F c k hh).trans (f2 c k hh), ?_⟩
      rcases z with ⟨q1, q2⟩ | ⟨q1, q2⟩
      · exact Or.inl ⟨q1, rf_comp y1 rfl q2⟩
      · rw [hc'] at q2 y1
        exact Or.inr ⟨q1, rt_comp y1 rfl q2⟩
theorem g_all : ∀ D : Nat, GT N D ∧ GR N D := by
  intro D
  induction D with
  | zero => exact ⟨fun σ τ r σ1 τ1 K T A d c H S out h => (by cases h), fun σ τ x1 r σ1 τ1 K T A d L c H S out h => (by cases h)⟩
  | succ D ih => exact ⟨g_thing ih.1 ih.2, g_rank ih.1 ih.2⟩
end RU6S
