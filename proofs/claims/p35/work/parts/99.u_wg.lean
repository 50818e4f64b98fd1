section RU6E
variable {N : Nat} {σ σ1 : gI} {τ τ1 : gJ} {r : Int32} {K : Int → Int}
/-- all that is released, and what is held then -/
theorem x_release {u : Unit} {x1 : Int32} {q : Int} {c : Bool} {H : List Int} {S : List (Bool × List Int)} {out : List Int} (hq : x1.toInt = q) (cH : HV σ 24 (hs ((c, H) :: S))) (cHl : (σ 21 4).toInt = (hs ((c, H) :: S)).length) (cO : HV σ 22 (out.map en)) (cOl : (σ 21 3).toInt = out.length) (h40 : out.length + (hs ((c, H) :: S)).length ≤ 40) (hop : ∀ x, x ∈ H → op6 x) (h : B_X5_release_0 N σ τ x1 = some (u, σ1, τ1)) : HV σ1 24 (hs ((c, (rel q H out).1) :: S)) ∧ (σ1 21 4).toInt = (hs ((c, (rel q H out).1) :: S)).length ∧ HV σ1 22 ((rel q H out).2.map en) ∧ (σ1 21 3).toInt = (rel q H out).2.length ∧ (∀ c k : Nat, ¬ (c = 22 ∨ (c = 21 ∧ (k = 3 ∨ k = 4))) → σ1 c k = σ c k) ∧ (rel q H out).2.length + (hs ((c, (rel q H out).1) :: S)).length = out.length + (hs ((c, H) :: S)).length := by
  have l0 : (0 : Int32).toInt = 0 := rfl
  rw [hs_cons] at cH cHl h40
  have hlen : (H.map en ++ hb S).length = H.length + (hb S).length := by rw [List.length_append, List.length_map]
  unfold B_X5_release_0 at h
  have w := x_rel (B := hb S) (hb_or S) N σ τ x1 0 u σ1 τ1 H out h hq cH cHl cO cOl (by omega) (by omega) hop
  rw [hs_cons, hs_cons]
  refine ⟨w.1, w.2.1, w.2.2.1, w.2.2.2.1, w.2.2.2.2, ?_⟩
  have g := rel_len (q := q) H out
  rw [List.length_append, List.length_map, hlen]
  omega
theorem c_behind {x2 : Int32} {A d : Int} {c : Bool} {H : List Int} {S : List (Bool × List Int)} {out : List Int} (hKd : K = lk (σ 2) (σ 1 1).toInt) (hm : (σ 1 1).toInt ≤ 80) (hK : ∀ i, K i ≤ 255) (hKm : ∀ i, K i ≠ -1 → i < 40) (hx : x2.toInt = A) (hC : CR σ false d ((c, H) :: S) out A) (h : B_X5_takeBehindThing_0 N σ τ x2 = some (r, σ1, τ1)) : CS σ σ1 K (false, d, (c, H) :: S, out) A r := by
  have l0 : (0 : Int32).toInt = 0 := rfl
  have l1 : (1 : Int32).toInt = 1 := rfl
  have l3 : (3 : Int32).toInt = 3 := rfl
  have l9 : (9 : Int32).toInt = 9 := rfl
  have l10 : (10 : Int32).toInt = 10 := rfl
  have l13 : (13 : Int32).toInt = 13 := rfl
  have l32 : (32 : Int32).toInt = 32 := rfl
  have l40 : (40 : Int32).toInt = 40 := rfl
  have hK0 := hK A
  obtain ⟨c8, c7, c5, cF, cB, ⟨cH, cHl⟩, ⟨cO, cOl⟩, cA, cD, cP, cV⟩ := hC
  have c7 := c7 rfl
  have cD := cD rfl
  have ol : (out.map en).length = out.length := List.length_map ..
  have fl : ((c, H) :: S).length = S.length + 1 := rfl
  have hopH : ∀ x, x ∈ H → op6 x := cP (c, H) (List.mem_cons_self ..)
  have hopS : ∀ f, f ∈ S → ∀ x, x ∈ f.2 → op6 x := fun f hf => cP f (List.mem_cons_of_mem _ hf)
  unfold B_X5_takeBehindThing_0 at h
  obtain ⟨r1, s1, t1, q1, h⟩ := bd_some h
  obtain ⟨⟨rfl, rfl⟩, k1⟩ := x_digit4 hm q1
  rw [← hKd, hx] at k1
  have g9 := dg_rng (K A)
  by_cases d1 : r1 < 0
  · rw [if_pos d1] at h
    rw [fa_lt] at d1
    obtain ⟨r3, s3, t3, q3, h⟩ := bd_some h
    obtain ⟨⟨rfl, rfl⟩, k3⟩ := x_has4 hm q3
    rw [← hKd, hx] at k3
    rcases k3 with ⟨k3, k4⟩ | ⟨k3, k4⟩
    · rw [if_neg (show ¬ r3 = 0 by rw [k3]; decide)] at h
      have e41 : K A = 41 := k4
      have a40 := hKm A (by rw [e41]; decide)
      obtain ⟨r11, s11, t11, q11, h⟩ := bd_some h
      obtain ⟨-, h⟩ := cb_some h
      obtain ⟨rfl, rfl, -⟩ := sm_inj h
      unfold B_X5_close_0 at q11
      by_cases d5 : 0 < σ 21 5
      · rw [if_pos d5] at q11
        rw [fa_lt] at d5
        have hSne : S ≠ [] := fun z => by rw [z] at c5; have : (σ 21 5).toInt = 0 := c5; omega
        obtain ⟨u2, s2, t2, q2, q11⟩ := bd_some q11
        obtain ⟨a1, a2, a3, a4, a5, a6⟩ := x_release (q := 0) l0 cH cHl cO cOl (by omega) hopH q2
        rw [rel_0] at a1 a2 a3 a4 a6
        have e16 : hs ((c, ([], rla H out).1) :: S) = 16 :: hs S := by
          rw [hs_cons]
          show [] ++ hb S = _
          unfold hb
          rw [if_neg hSne]
          rfl
        rw [e16] at a1 a2 a6
        have a2 : (s2 21 4).toInt = (((hs S).length + 1 : Nat) : Int) := a2
        have a6 : (rla H out).length + ((hs S).length + 1) = out.length + (hs ((c, H) :: S)).length := a6
        obtain ⟨s3, e3, q11⟩ := nm_some q11
        obtain ⟨s4, e4, q11⟩ := nm_some q11
        obtain ⟨s5, e5, q11⟩ := nm_some q11
        obtain ⟨rfl, rfl, -⟩ := sm_inj q11
        have f5 : ∀ c k : Nat, ¬ (c = 21 ∧ (k = 4 ∨ k = 5 ∨ k = 7)) → s5 c k = s2 c k := fun c k hh => by rw [e5, up2_ne (by omega), e4, up2_ne (by omega), e3, up2_ne (by omega)]
        have Fx : ∀ c k : Nat, ¬ (c = 22 ∨ (c = 21 ∧ (k = 3 ∨ k = 4 ∨ k = 5 ∨ k = 7))) → s5 c k = σ c k := fun c k hh => (f5 c k (by omega)).trans (a5 c k (by omega))
        have g21 : (s2 21 4 - 1).toInt = (hs S).length := by rw [ti_sub (by omega) (by omega), l1]; omega
        have gm := imax_c 0 (s2 21 4 - 1)
        have g4 : (s5 21 4).toInt = (hs S).length := by rw [e5, up2_ne (by omega), e4, up2_ne (by omega), e3, up_eq]; omega
        have g5 : (s5 21 5).toInt = (S.length : Int) - 1 := by
          rw [e5, up2_ne (by omega), e4, up_eq, e3, up2_ne (by omega), a5 21 5 (by omega), ti_sub (by omega) (by omega), l1, c5]
          show ((S.length + 1 : Nat) : Int) - 1 - 1 = _
          omega
        have sl : 1 ≤ S.length := by
          cases S with
          | nil => exact absurd rfl hSne
          | cons x S => exact Nat.le_add_left ..
        refine ⟨fun c k hh => Fx c k (by omega), Or.inr ⟨rfl, false, 3, S, rla H out, by rw [e41]; exact st_close hSne, ?_⟩⟩
        refine ⟨by rw [Fx 21 8 (by omega)]; exact c8, fun _ => by rw [e5, up_eq]; rfl, g5, ⟨sl, by omega⟩, cb_fr cB.2 (fun i _ => by rw [Fx 21 6 (by omega)]), ⟨hv_fr a1.2 (fun k _ => f5 24 k (by omega)), g4⟩, ⟨hv_fr a3 (fun k _ => f5 22 k (by omega)), by rw [f5 21 3 (by omega)]; exact a4⟩, by omega, fun _ => Or.inl rfl, hopS, va_fr (va_mix cV hopH (rla_mem H out)) (Fx 21 9 (by omega))⟩
      · rw [if_neg d5] at q11
        rw [fa_lt] at d5
        obtain ⟨rfl, rfl, -⟩ := sm_inj q11
        refine ⟨fun _ _ _ => rfl, Or.inl ⟨rfl, st_bno (fun z => by rw [e41] at z; exact absurd z (by decide)) (fun _ => ?_) (fun z => by rw [e41] at z; exact absurd z (by decide))⟩⟩
        cases S with
        | nil => rfl
        | cons x S =>
          have : (σ 21 5).toInt = ((S.length + 1 + 1 : Nat) : Int) - 1 := c5
          omega
    · rw [if_pos k3] at h
      have n41 : K A ≠ 41 := k4
      obtain ⟨r5, s5, t5, q5, h⟩ := bd_some h
      obtain ⟨⟨rfl, rfl⟩, k5⟩ := x_jnt6 hm (by rw [← hKd, hx]; exact hK0) q5
      rw [← hKd, hx] at k5
      rcases k5 with ⟨j1, j2, j3, j4, j5, j6⟩ | ⟨j1, j2⟩
      · rw [if_pos (show 0 ≤ r5 from (fa_le _ _).mpr (by omega))] at h
        have a40 := hKm A (fun z => by rw [z] at j3; exact absurd j3 (by decide))
        obtain ⟨v7, e7, h⟩ := nm_some h
        have u7 : v7.toInt = en (jc (K A)) := by rw [e7, ti_add (by omega) (by omega), l9, j4]
        -- the rest, from where compared is told
        have fin : ∀ (s : gI) (t : gJ), (∀ c k : Nat, ¬ (c = 21 ∧ k = 6) → s c k = σ c k) → (∀ i : Nat, i < S.length + 1 → bt (s 21 6) i = if i = S.length then (c || decide (rk (jc (K A)) = 1)) else bt (σ 21 6) i) → ¬ (rk (jc (K A)) = 1 ∧ c = true) → B_X5_takeBehindThing_92 N s t v7 = some (r, σ1, τ1) → CS σ σ1 K (false, d, (c, H) :: S, out) A r := by
          intro s t f b hc h
          unfold B_X5_takeBehindThing_92 at h
          obtain ⟨y1, w1, v1, p1, h⟩ := bd_some h
          obtain ⟨⟨rfl, rfl⟩, k9, -⟩ := x_rankOf j5 u7 p1
          obtain ⟨u2, w2, v2, p2, h⟩ := bd_some h
          obtain ⟨a1, a2, a3, a4, a5, a6⟩ := x_release (q := rk (jc (K A))) (c := c) (S := S) k9 (hv_fr cH (fun k _ => f 24 k (by omega))) (by rw [f 21 4 (by omega)]; exact cHl) (hv_fr cO (fun k _ => f 22 k (by omega))) (by rw [f 21 3 (by omega)]; exact cOl) (by omega) hopH p2
          obtain ⟨u3, w3, v3, p3, h⟩ := bd_some h
          obtain ⟨b1, b2, b3⟩ := x_hold a1 a2 (by omega) p3
          obtain ⟨w4, e4, h⟩ := nm_some h
          obtain ⟨rfl, rfl, -⟩ := sm_inj h
          have f4 : ∀ c k : Nat, ¬ (c = 21 ∧ k = 8) → w4 c k = w3 c k := fun c k hh => by rw [e4]; exact up2_ne hh
          have Fx : ∀ c k : Nat, ¬ (c = 22 ∨ c = 24 ∨ (c = 21 ∧ (k = 3 ∨ k = 4 ∨ k = 6 ∨ k = 8))) → w4 c k = σ c k := fun c k hh => (f4 c k (by omega)).trans ((b3 c k (by omega)).trans ((a5 c k (by omega)).trans (f c k (by omega))))
          have g6 : w4 21 6 = s 21 6 := (f4 21 6 (by omega)).trans ((b3 21 6 (by omega)).trans (a5 21 6 (by omega)))
          have ehs : ∀ c9 : Bool, hs ((c9, jc (K A) :: (rel (rk (jc (K A))) H out).1) :: S) = en (jc (K A)) :: hs ((c, (rel (rk (jc (K A))) H out).1) :: S) := fun c9 => by rw [hs_cons, hs_cons]; rfl
          rw [u7] at b1
          have sj : st (false, d, (c, H) :: S, out) (K A) = some (true, d, (c || decide (rk (jc (K A)) = 1), jc (K A) :: (rel (rk (jc (K A))) H out).1) :: S, (rel (rk (jc (K A))) H out).2) := by
            have g := jc_dg j3
            show (if 0 ≤ dg4 (K A) then _ else _) = _
            rw [if_neg g.1, if_neg g.2, if_pos j3, if_neg hc]
          refine ⟨fun c k hh => Fx c k (by omega), Or.inr ⟨rfl, true, d, _, _, sj, ?_⟩⟩
          refine ⟨by rw [e4, up_eq]; rfl, fun z => (by cases z), by rw [Fx 21 5 (by omega)]; exact c5, cF, ⟨?_, cb_fr cB.2 (fun i hi => ?_)⟩, ⟨?_, ?_⟩, ⟨?_, ?_⟩, ?_, fun z => (by cases z), ?_, va_fr (va_mix cV hopH (rel_mem H out)) (Fx 21 9 (by omega))⟩
          · rw [g6, b S.length (by omega), if_pos rfl]
          · rw [g6, b i (by omega), if_neg (by omega)]
          · rw [ehs]; exact hv_fr b1 (fun k _ => f4 24 k (by omega))
          · rw [f4 21 4 (by omega), b2, ehs]; rfl
          · exact hv_fr a3 (fun k _ => (f4 22 k (by omega)).trans (b3 22 k (by omega)))
          · rw [f4 21 3 (by omega), b3 21 3 (by omega)]; exact a4
          · rw [ehs]
            show _ + (((hs ((c, (rel (rk (jc (K A))) H out).1) :: S)).length + 1 : Nat) : Int) ≤ A + 1
            omega
          · intro f9 hf x hx9
            rcases List.mem_cons.mp hf with e | e
            · rw [e] at hx9
              rcases List.mem_cons.mp hx9 with e2 | e2
              · rw [e2]; exact j5
              · exact rel_op H out hopH x e2
            · exact hopS f9 e x hx9
        have v79 : v7.toInt = 9 + r5.toInt := by rw [u7]; exact j4
        by_cases d7 : v7 < 13
        · rw [if_pos d7] at h
          rw [fa_lt] at d7
          have nr : ¬ rk (jc (K A)) = 1 := j6.mp (by omega)
          refine fin σ _ (fun _ _ _ => rfl) (fun i hi => ?_) (fun z => nr z.1) h
          by_cases e : i = S.length
          · rw [if_pos e, decide_eq_false nr, Bool.or_false, e]; exact cB.1
          · rw [if_neg e]
        · rw [if_neg d7] at h
          rw [fa_lt] at d7
          have yr : rk (jc (K A)) = 1 := Classical.not_not.mp (fun z => by have := j6.mpr z; omega)
          have o5 : σ 21 5 = Int32.ofNat S.length := (fa_eq _ _).mpr (by rw [ofn_ti (by omega), c5]; show ((S.length + 1 : Nat) : Int) - 1 = _; omega)
          by_cases d8 : ((σ 21 6) >>> ((σ 21 5) &&& 31)) &&& 1 = 0
          · rw [if_pos d8] at h
            have bc : c = false := by
              rw [o5, tb_iff (by omega)] at d8
              exact cB.1.symm.trans d8
            obtain ⟨s10, e10, h⟩ := nm_some h
            refine fin s10 _ (fun c k hh => by rw [e10]; exact up2_ne hh) (fun i hi => ?_) (fun z => by rw [bc] at z; exact absurd z.2 (by decide)) h
            rw [e10, up_eq, o5, b_or, bt_1sh (by omega) (by omega)]
            by_cases e : i = S.length
            · rw [if_pos e, decide_eq_true e.symm, decide_eq_true yr, Bool.or_true, Bool.or_true]
            · rw [if_neg e, decide_eq_false (fun z => e z.symm), Bool.or_false]
          · rw [if_neg d8] at h
            obtain ⟨rfl, rfl, -⟩ := sm_inj h
            have bc : c = true := by
              rw [o5, tb_iff (by omega)] at d8
              have w : bt (σ 21 6) S.length = c := cB.1
              rw [w] at d8
              cases c with
              | true => rfl
              | false => exact absurd rfl d8
            exact ⟨fun _ _ _ => rfl, Or.inl ⟨rfl, st_bno (fun z => absurd z (jc_dg j3).1) (fun z => absurd z n41) (fun _ => ⟨yr, bc⟩)⟩⟩
      · rw [if_neg (show ¬ 0 ≤ r5 from fun z => by rw [fa_le] at z; omega)] at h
        obtain ⟨rfl, rfl, -⟩ := sm_inj h
        exact ⟨fun _ _ _ => rfl, Or.inl ⟨rfl, st_bno (fun z => by omega) (fun z => absurd z n41) (fun z => absurd z j2)⟩⟩
  · rw [if_neg d1] at h
    rw [fa_lt] at d1
    have a40 := hKm A (fun z => by rw [z] at k1; exact absurd k1 (by intro w; have : r1.toInt = -1 := w; omega))
    obtain ⟨r13, s13, t13, q13, h⟩ := bd_some h
    obtain ⟨-, h⟩ := cb_some h
    obtain ⟨rfl, rfl, -⟩ := sm_inj h
    unfold B_X5_lengthenNumber_0 at q13
    by_cases d7 : 3 ≤ σ 21 7
    · rw [if_pos d7] at q13
      rw [fa_le] at d7
      obtain ⟨rfl, rfl, -⟩ := sm_inj q13
      exact ⟨fun _ _ _ => rfl, Or.inl ⟨rfl, st_bno (fun _ => by omega) (fun z => by rw [z] at k1; exact absurd k1 (by intro w; have : r1.toInt = -1 := w; omega)) (fun z => absurd (show 0 ≤ dg4 (K A) by omega) (jc_dg z).1)⟩⟩
    · rw [if_neg d7] at q13
      rw [fa_le] at d7
      rcases cD with cD | ⟨cD, n, o, eo, n0, n9, n99⟩
      · omega
      · rw [eo] at cO cOl cA
        have cOl' : (σ 21 3).toInt = ((o.length + 1 : Nat) : Int) := cOl
        have cA' : ((o.length + 1 : Nat) : Int) + (hs ((c, H) :: S)).length ≤ A := cA
        have olo : (o.map en).length = o.length := List.length_map ..
        rw [if_neg (show ¬ σ 21 3 < 1 from fun z => by rw [fa_lt] at z; omega), if_pos (show σ 21 3 ≤ 40 from (fa_le _ _).mpr (by omega))] at q13
        have e1 : (σ 21 3 - 1).toInt = o.length := by rw [ti_sub (by omega) (by omega), l1]; omega
        have nn := nat_of_toInt (i := σ 21 3 - 1) (by omega)
        obtain ⟨j, ej, -, q13⟩ := ck_some q13
        have hj : j = (o.map en).length := by omega
        obtain ⟨v5, e5, q13⟩ := nm_some q13
        have en1 : en n = 32 + n := by
          unfold en
          rw [if_neg (by omega), if_neg (by omega), if_neg (by omega), if_neg (by omega)]
        have z1 : (σ 22 j).toInt = 32 + n := by rw [hj, ← en1]; exact cO.1
        have u5 : v5.toInt = n := by rw [e5, ti_sub (by omega) (by omega), l32]; omega
        obtain ⟨s6, e6, q13⟩ := nm_some q13
        obtain ⟨s7, e7, q13⟩ := nm_some q13
        obtain ⟨rfl, rfl, -⟩ := sm_inj q13
        have f7 : ∀ c k : Nat, ¬ ((c = 22 ∧ k = j) ∨ (c = 21 ∧ k = 7)) → s7 c k = σ c k := fun c k hh => by rw [e7, up2_ne (by omega), e6, up2_ne (by omega)]
        have m10 : ((10 : Int32) * v5).toInt = 10 * n := by rw [ti_mul (by rw [l10]; omega) (by rw [l10]; omega), l10, u5]
        have m11 : ((32 : Int32) + 10 * v5).toInt = 32 + 10 * n := by rw [ti_add (by omega) (by omega), l32, m10]
        have w22 : (s7 22 j).toInt = en (10 * n + dg4 (K A)) := by
          rw [e7, up2_ne (by omega), e6, up_eq, ti_add (by omega) (by omega), m11]
          unfold en
          rw [if_neg (by omega), if_neg (by omega), if_neg (by omega), if_neg (by omega)]
          omega
        have w7 : (s7 21 7).toInt = d + 1 := by rw [e7, up_eq, e6, up2_ne (by omega), ti_add (by omega) (by omega), l1, c7]
        rw [eo]
        refine ⟨fun c k hh => f7 c k (by omega), Or.inr ⟨rfl, false, d + 1, (c, H) :: S, (10 * n + dg4 (K A)) :: o, st_len (by omega) (by omega), ?_⟩⟩
        refine ⟨by rw [f7 21 8 (by omega)]; exact c8, fun _ => w7, by rw [f7 21 5 (by omega)]; exact c5, cF, cb_fr cB (fun i _ => by rw [f7 21 6 (by omega)]), ⟨hv_fr cH (fun k _ => f7 24 k (by omega)), by rw [f7 21 4 (by omega)]; exact cHl⟩, ⟨⟨?_, hv_fr cO.2 (fun k hk => f7 22 k (by omega))⟩, ?_⟩, ?_, fun _ => ?_, cP, ?_⟩
        rotate_left 4
        · rw [eo] at cV
          refine va_cons (va_fr (o := o) ⟨fun x hx => cV.1 x (List.mem_cons_of_mem _ hx), cV.2.1, fun z x hx => cV.2.2 z x (List.mem_cons_of_mem _ hx)⟩ (f7 21 9 (by omega))) (Or.inl ?_) ?_ <;> omega
        · rw [← hj]; exact w22
        · rw [f7 21 3 (by omega)]; exact cOl
        · show ((o.length + 1 : Nat) : Int) + _ ≤ A + 1
          omega
        · rcases cD with rfl | rfl
          · exact Or.inr ⟨Or.inr rfl, _, _, rfl, by omega, fun z => absurd z (by decide), by have := n9 rfl; omega⟩
          · exact Or.inl rfl
/-- the codes of a text that can stand, the last first -/
def rf (K : Int → Int) (L : Int) : Nat → Int → Qs → List Int
  | 0, _, _ => []
  | f + 1, A, q => if L ≤ A then (match q.2.2.1 with | [] => [] | x :: _ => rla x.2 q.2.2.2) else match st q (K A) with | none => [] | some q1 => rf K L f (A + 1) q1
theorem rf_rn {K : Int → Int} {L : Int} : ∀ {n f : Nat} {A : Int} {q q1 : Qs}, rn K n A q = some q1 → A + n ≤ L → rf K L (n + f) A q = rf K L f (A + n) q1 := by
  intro n
  induction n with
  | zero =>
    intro f A q q1 h _
    have e : q = q1 := Option.some.inj h
    rw [e, Nat.zero_add, show A + ((0 : Nat) : Int) = A by omega]
  | succ n ih =>
    intro f A q q1 h hL
    have h : (st q (K A)).bind (rn K n (A + 1)) = some q1 := h
    rw [show n + 1 + f = (n + f) + 1 by omega]
    show (if L ≤ A then _ else _) = _
    rw [if_neg (by omega)]
    cases hs : st q (K A) with
    | none => rw [hs] at h; cases h
    | some q2 =>
      rw [hs] at h
      show rf K L (n + f) (A + 1) q2 = _
      rw [ih (f := f) h (by omega), show A + 1 + (n : Int) = A + ((n + 1 : Nat) : Int) by omega]
/-- the draft told -/
def FIN (σ1 : gI) (o : List Int) : Prop := HV σ1 22 (o.map en) ∧ (σ1 21 3).toInt = o.length ∧ o.length ≤ 40 ∧ VA σ1 o
theorem x_read27 {L : Int} (hK : ∀ i, K i ≤ 255) (hKm : ∀ i, K i ≠ -1 → i < 40) (hL : 0 ≤ L ∧ L ≤ 80) : ∀ (n : Nat) (s : gI) (t : gJ) (x2 r : Int32) (σ1 : gI) (τ1 : gJ) (w : Bool) (d : Int) (F : List (Bool × List Int)) (out : List Int) (A : Int), H_X5_read_27 N n s t x2 = some (r, σ1, τ1) → K = lk (s 2) (s 1 1).toInt → (s 1 1).toInt ≤ 80 → (s 1 2).toInt = L → CR s w d F out A → x2.toInt = A → (0 ≤ A ∧ A ≤ 40) → r.toInt = ra K L (41 - A).toNat A (w, d, F, out) ∧ (0 ≤ r.toInt → FIN σ1 (rf K L (41 - A).toNat A (w, d, F, out))) := by
  have l0 : (0 : Int32).toInt = 0 := rfl
  have l1 : (1 : Int32).toInt = 1 := rfl
  have l40 : (40 : Int32).toInt = 40 := rfl
  have lm : (-1 : Int32).toInt = -1 := rfl
  have neg : ∀ v : Int32, ((-1) - v).toInt = -1 - v.toInt := fun v => by have := i32_rng v; rw [ti_sub (by omega) (by omega), lm]
  intro n
  induction n with
  | zero => intro s t x2 r σ1 τ1 w d F out A h; cases h
  | succ n ih =>
    intro s t x2 r σ1 τ1 w d F out A h hKd hm hl hC hx hA
    have h : C_X5_read_27 N (H_X5_read_27 N n) s t x2 = some (r, σ1, τ1) := h
    unfold C_X5_read_27 at h
    rw [if_neg (show ¬ (40 : Int32) < x2 from fun z => by rw [fa_lt] at z; omega)] at h
    obtain ⟨f, hf⟩ : ∃ f : Nat, (41 - A).toNat = f + 1 := ⟨(40 - A).toNat, by omega⟩
    rw [hf]
    have er : ra K L (f + 1) A (w, d, F, out) = if L ≤ A then (if w = false ∧ F.length = 1 then 0 else -1 - A) else match st (w, d, F, out) (K A) with | none => -1 - A | some q1 => ra K L f (A + 1) q1 := rfl
    have er2 : rf K L (f + 1) A (w, d, F, out) = if L ≤ A then (match (generalizing := false) F with | [] => [] | x :: _ => rla x.2 out) else match (generalizing := false) st (w, d, F, out) (K A) with | none => [] | some q1 => rf K L f (A + 1) q1 := rfl
    rw [er, er2]
    have c8 := hC.1
    have c5 := hC.2.2.1
    have cF := hC.2.2.2.1
    obtain ⟨r2, s2, t2, q2, h⟩ := bd_some h
    unfold B_X7_isOver_0 at q2
    by_cases c : x2 < s 1 2
    · rw [if_pos c] at q2
      rw [fa_lt, hl, hx] at c
      obtain ⟨rfl, rfl, rfl⟩ := sm_inj q2
      rw [if_pos (show (0 : Int32) = 0 from rfl)] at h
      rw [if_neg (show ¬ L ≤ A by omega), if_neg (show ¬ L ≤ A by omega)]
      -- a step told
      have go : ∀ (r5 : Int32) (s5 : gI) (t5 : gJ), CS s s5 K (w, d, F, out) A r5 → (if r5 = 0 then (some ((-1) - x2, s5, t5)) else (nm (x2 + 1) fun v_7 => H_X5_read_27 N n s5 t5 v_7)) = some (r, σ1, τ1) → (r.toInt = match st (w, d, F, out) (K A) with | none => -1 - A | some q1 => ra K L f (A + 1) q1) ∧ (0 ≤ r.toInt → FIN σ1 (match st (w, d, F, out) (K A) with | none => [] | some q1 => rf K L f (A + 1) q1)) := by
        intro r5 s5 t5 hS h
        obtain ⟨f5, z5⟩ := hS
        rcases z5 with ⟨g1, g2⟩ | ⟨g1, w', d', F', out', g2, g3⟩
        · rw [if_pos g1] at h
          obtain ⟨rfl, -, -⟩ := sm_inj h
          rw [g2]
          exact ⟨by rw [neg, hx], fun z => by rw [neg] at z; omega⟩
        · rw [if_neg (show ¬ r5 = 0 by rw [g1]; decide)] at h
          obtain ⟨v7, e7, h⟩ := nm_some h
          have ne : K A ≠ -1 := fun z => by rw [z, st_m1] at g2; cases g2
          have a40 := hKm A ne
          have u7 : v7.toInt = A + 1 := by rw [e7, ti_add (by omega) (by omega), l1, hx]
          rw [g2]
          show r.toInt = ra K L f (A + 1) (w', d', F', out') ∧ (0 ≤ r.toInt → FIN σ1 (rf K L f (A + 1) (w', d', F', out')))
          have q := ih s5 t5 v7 r σ1 τ1 w' d' F' out' (A + 1) h (by rw [show s5 2 = s 2 from funext fun k => f5 2 k (by omega), f5 1 1 (by omega)]; exact hKd) (by rw [f5 1 1 (by omega)]; exact hm) (by rw [f5 1 2 (by omega)]; exact hl) g3 u7 (by omega)
          rw [show (41 - (A + 1)).toNat = f by omega] at q
          exact q
      have hne : F ≠ [] := fun z => by rw [z] at cF; exact absurd cF.1 (by decide)
      obtain ⟨x, S, eF⟩ : ∃ x S, F = x :: S := by
        cases F with
        | nil => exact absurd rfl hne
        | cons x S => exact ⟨x, S, rfl⟩
      obtain ⟨cc, H⟩ := x
      rw [eF] at hC go ⊢
      cases w with
      | false =>
        rw [if_neg (show ¬ false = true by decide)] at c8
        rw [if_pos c8] at h
        obtain ⟨r5, s5, t5, q5, h⟩ := bd_some h
        exact go r5 s5 t5 (c_behind hKd hm hK hKm hx hC q5) h
      | true =>
        rw [if_pos (show true = true from rfl)] at c8
        rw [if_neg (show ¬ s 21 8 = 0 by rw [c8]; decide)] at h
        obtain ⟨r5, s5, t5, q5, h⟩ := bd_some h
        exact go r5 s5 t5 (c_thing hKd hm hK hKm hx hC q5) h
    · rw [if_neg c] at q2
      rw [fa_lt, hl, hx] at c
      obtain ⟨rfl, rfl, rfl⟩ := sm_inj q2
      rw [if_neg (show ¬ (1 : Int32) = 0 by decide)] at h
      rw [if_pos (show L ≤ A by omega), if_pos (show L ≤ A by omega)]
      obtain ⟨r11, s11, t11, q11, h⟩ := bd_some h
      obtain ⟨rfl, rfl, -⟩ := sm_inj h
      unfold B_X5_finish_0 at q11
      cases w with
      | false =>
        rw [if_neg (show ¬ false = true by decide)] at c8
        rw [if_pos c8] at q11
        by_cases d5 : s 21 5 ≤ 0
        · rw [if_pos d5] at q11
          rw [fa_le] at d5
          obtain ⟨u3, s3, t3, q3, q11⟩ := bd_some q11
          obtain ⟨rfl, rfl, -⟩ := sm_inj q11
          rw [if_pos ⟨rfl, by omega⟩]
          refine ⟨rfl, fun _ => ?_⟩
          obtain ⟨-, -, -, -, -, ⟨cH, cHl⟩, ⟨cO, cOl⟩, cA, -, cP, cV⟩ := hC
          cases F with
          | nil => exact absurd cF.1 (by decide)
          | cons x S =>
            obtain ⟨cc, H⟩ := x
            have hopH : ∀ x, x ∈ H → op6 x := cP (cc, H) (List.mem_cons_self ..)
            obtain ⟨a1, a2, a3, a4, a5, a6⟩ := x_release (q := 0) l0 cH cHl cO cOl (by omega) hopH q3
            rw [rel_0] at a3 a4 a6
            have b6 : (rla H out).length + (hs ((cc, []) :: S)).length = out.length + (hs ((cc, H) :: S)).length := a6
            exact ⟨a3, a4, show (rla H out).length ≤ 40 by omega, va_fr (va_mix cV hopH (rla_mem H out)) (a5 21 9 (by omega))⟩
        · rw [if_neg d5] at q11
          rw [fa_le] at d5
          obtain ⟨rfl, -, -⟩ := sm_inj q11
          rw [if_neg (fun z => by have := z.2; omega)]
          exact ⟨by rw [neg, hx], fun z => by rw [neg] at z; omega⟩
      | true =>
        rw [if_pos (show true = true from rfl)] at c8
        rw [if_neg (show ¬ s 21 8 = 0 by rw [c8]; decide)] at q11
        obtain ⟨rfl, -, -⟩ := sm_inj q11
        rw [if_neg (fun z => by cases z.1)]
        exact ⟨by rw [neg, hx], fun z => by rw [neg] at z; omega⟩
def q06 : Qs := (true, 0, [(false, [])], [])
theorem x_read5 (h0 : 0 ≤ (σ 1 2).toInt ∧ (σ 1 2).toInt ≤ 80) (hS : ∀ k : Nat, (k : Int) < (σ 1 2).toInt → (σ 2 k).toInt ≤ 255) (h : B_X5_read_0 N σ τ = some (r, σ1, τ1)) : (r.toInt = if (σ 1 2).toInt ≤ 0 then 0 else ra (lk (σ 2) (imin 40 (σ 1 2)).toInt) (σ 1 2).toInt 41 0 q06) ∧ (0 ≤ r.toInt → if (σ 1 2).toInt ≤ 0 then (HV σ1 22 [0] ∧ (σ1 21 3).toInt = 1 ∧ σ1 21 9 = 1) else (FIN σ1 (rf (lk (σ 2) (imin 40 (σ 1 2)).toInt) (σ 1 2).toInt 41 0 q06))) := by
  have l0 : (0 : Int32).toInt = 0 := rfl
  have l40 : (40 : Int32).toInt = 40 := rfl
  have em := imin_c 40 (σ 1 2)
  unfold B_X5_read_0 at h
  obtain ⟨u1, s1, t1, q1, h⟩ := bd_some h
  unfold B_X5_clear_0 at q1
  obtain ⟨y1, e1, q1⟩ := nm_some q1
  obtain ⟨y2, e2, q1⟩ := nm_some q1
  obtain ⟨y3, e3, q1⟩ := nm_some q1
  obtain ⟨y4, e4, q1⟩ := nm_some q1
  obtain ⟨y5, e5, q1⟩ := nm_some q1
  obtain ⟨y6, e6, q1⟩ := nm_some q1
  obtain ⟨y7, e7, q1⟩ := nm_some q1
  obtain ⟨y8, e8, q1⟩ := nm_some q1
  obtain ⟨-, rfl, rfl⟩ := sm_inj q1
  have F8 : ∀ c k : Nat, ¬ (c = 21) → y8 c k = σ c k := fun c k hh => by rw [e8, up2_ne (by omega), e7, up2_ne (by omega), e6, up2_ne (by omega), e5, up2_ne (by omega), e4, up2_ne (by omega), e3, up2_ne (by omega), e2, up2_ne (by omega), e1, up2_ne (by omega)]
  have zz9 : y8 21 9 = 0 := by rw [e8, up2_ne (by omega), e7, up_eq]
  have z8 : y8 21 8 = 1 := by rw [e8, up2_ne (by omega), e7, up2_ne (by omega), e6, up_eq]
  have z6 : y8 21 6 = 0 := by rw [e8, up2_ne (by omega), e7, up2_ne (by omega), e6, up2_ne (by omega), e5, up2_ne (by omega), e4, up_eq]
  have z5 : y8 21 5 = 0 := by rw [e8, up2_ne (by omega), e7, up2_ne (by omega), e6, up2_ne (by omega), e5, up2_ne (by omega), e4, up2_ne (by omega), e3, up_eq]
  have z4 : y8 21 4 = 0 := by rw [e8, up2_ne (by omega), e7, up2_ne (by omega), e6, up2_ne (by omega), e5, up2_ne (by omega), e4, up2_ne (by omega), e3, up2_ne (by omega), e2, up_eq]
  have z3 : y8 21 3 = 0 := by rw [e8, up2_ne (by omega), e7, up2_ne (by omega), e6, up2_ne (by omega), e5, up2_ne (by omega), e4, up2_ne (by omega), e3, up2_ne (by omega), e2, up2_ne (by omega), e1, up_eq]
  obtain ⟨u2, s2, t2, q2, h⟩ := bd_some h
  unfold B_X7_showAtMost_0 at q2
  obtain ⟨s9, e9, q2⟩ := nm_some q2
  obtain ⟨-, rfl, rfl⟩ := sm_inj q2
  rw [F8 1 2 (by omega)] at e9
  have f9 : ∀ c k : Nat, ¬ (c = 1 ∧ k = 1) → s9 c k = y8 c k := fun c k hh => by rw [e9]; exact up2_ne hh
  have z9 : s9 1 1 = imin 40 (σ 1 2) := by rw [e9, up_eq]
  have z2 : s9 2 = σ 2 := funext fun k => (f9 2 k (by omega)).trans (F8 2 k (by omega))
  have e12 : s9 1 2 = σ 1 2 := (f9 1 2 (by omega)).trans (F8 1 2 (by omega))
  obtain ⟨r3, s3, t3, q3, h⟩ := bd_some h
  unfold B_X7_isOver_0 at q3
  rw [e12] at q3
  by_cases c : 0 < σ 1 2
  · rw [if_pos c] at q3
    rw [fa_lt] at c
    obtain ⟨rfl, rfl, rfl⟩ := sm_inj q3
    rw [if_pos (show (0 : Int32) = 0 from rfl)] at h
    rw [if_neg (show ¬ (σ 1 2).toInt ≤ 0 by omega), if_neg (show ¬ (σ 1 2).toInt ≤ 0 by omega)]
    have hb : ∀ i, lk (σ 2) (imin 40 (σ 1 2)).toInt i ≤ 255 := fun i => by
      unfold lk
      by_cases d : 0 ≤ i ∧ i < (imin 40 (σ 1 2)).toInt
      · rw [if_pos d]; exact hS i.toNat (by omega)
      · rw [if_neg d]; omega
    have hb2 : ∀ i, lk (σ 2) (imin 40 (σ 1 2)).toInt i ≠ -1 → i < 40 := fun i z => by
      unfold lk at z
      by_cases d : 0 ≤ i ∧ i < (imin 40 (σ 1 2)).toInt
      · omega
      · rw [if_neg d] at z; exact absurd rfl z
    have hC : CR s9 true 0 [(false, [])] [] 0 := by
      refine ⟨by rw [f9 21 8 (by omega), z8]; rfl, fun z => (by cases z), by rw [f9 21 5 (by omega), z5]; rfl, by decide, ⟨by rw [f9 21 6 (by omega), z6]; exact b_0 _, trivial⟩, ⟨trivial, by rw [f9 21 4 (by omega), z4]; rfl⟩, ⟨trivial, by rw [f9 21 3 (by omega), z3]; rfl⟩, by decide, fun z => (by cases z), ?_, fun x hx => absurd hx (List.not_mem_nil), Or.inl (by rw [f9 21 9 (by omega)]; exact zz9), fun _ x hx => absurd hx (List.not_mem_nil)⟩
      intro f hf x hx9
      rw [List.mem_singleton.mp hf] at hx9
      exact absurd hx9 (List.not_mem_nil)
    exact x_read27 hb hb2 h0 N s9 _ 0 r σ1 τ1 true 0 [(false, [])] [] 0 h (by rw [z2, z9]) (by rw [z9]; omega) (by rw [e12]) hC rfl (by omega)
  · rw [if_neg c] at q3
    rw [fa_lt] at c
    obtain ⟨rfl, rfl, rfl⟩ := sm_inj q3
    rw [if_neg (show ¬ (1 : Int32) = 0 by decide)] at h
    obtain ⟨u5, s5, t5, q5, h⟩ := bd_some h
    obtain ⟨rfl, rfl, -⟩ := sm_inj h
    rw [if_pos (show (σ 1 2).toInt ≤ 0 by omega), if_pos (show (σ 1 2).toInt ≤ 0 by omega)]
    obtain ⟨a1, a2, -, -, -, a9⟩ := x_addFact (o := []) trivial (by rw [f9 21 3 (by omega), z3]; rfl) (by decide) q5
    refine ⟨rfl, fun _ => ⟨a1, a2, ?_⟩⟩
    rw [a9, if_pos rfl, f9 21 9 (by omega), zz9]
    decide
/-- the reference's answer -/
theorem x_rule34 {x1 y0 : Int32} (hA : 0 ≤ (σ 199 14).toInt ∧ (σ 199 14).toInt ≤ 40) (h29 : y0 = 0 ∨ (σ 199 29).toInt ≤ 80) (h : B_X12_rule_34 N σ τ x1 y0 = some (r, σ1, τ1)) : (r.toInt = if (40 < x1.toInt ∧ ((¬ y0 = 0 ∧ (σ 199 14).toInt = (σ 199 15).toInt) ∨ 40 ≤ (σ 199 14).toInt)) then -1 - 40 else if ¬ y0 = 0 ∧ (σ 199 14).toInt = (σ 199 15).toInt then 0 else -1 - (σ 199 14).toInt) ∧ ((r.toInt < 0 ∧ σ1 = σ) ∨ (r.toInt = 0 ∧ σ1 199 28 = σ 199 29 ∧ ∀ k : Nat, (k : Int) < (σ 199 29).toInt → σ1 216 k = σ 217 k)) := by
  have l0 : (0 : Int32).toInt = 0 := rfl
  have l40 : (40 : Int32).toInt = 40 := rfl
  have G : ∀ (n : Nat) (s : gI) (t : gJ) (x4 r : Int32) (σ1 : gI) (τ1 : gJ), H_X12_rule_61 N n s t x4 = some (r, σ1, τ1) → (0 ≤ x4.toInt ∧ (s 199 29).toInt ≤ 80) → (∀ k : Nat, (k : Int) < x4.toInt → s 216 k = s 217 k) → r = 0 ∧ (∀ c k : Nat, ¬ (c = 216) → σ1 c k = s c k) ∧ ∀ k : Nat, (k : Int) < (s 199 29).toInt → σ1 216 k = s 217 k := by
    have l1 : (1 : Int32).toInt = 1 := rfl
    intro n
    induction n with
    | zero => intro s t x4 r σ1 τ1 h; cases h
    | succ n ih =>
      intro s t x4 r σ1 τ1 h p0 p
      have h : C_X12_rule_61 N (H_X12_rule_61 N n) s t x4 = some (r, σ1, τ1) := h
      unfold C_X12_rule_61 at h
      by_cases c : s 199 29 ≤ x4
      · rw [if_pos c] at h
        rw [fa_le] at c
        obtain ⟨rfl, rfl, -⟩ := sm_inj h
        exact ⟨rfl, fun _ _ _ => rfl, fun k hk => p k (by omega)⟩
      · rw [if_neg c] at h
        rw [fa_le] at c
        have nn := nat_of_toInt (i := x4) p0.1
        obtain ⟨j, ej, -, h⟩ := ck_some h
        obtain ⟨s3, e3, h⟩ := nm_some h
        obtain ⟨v4, e4, h⟩ := nm_some h
        have eu : v4.toInt = x4.toInt + 1 := by rw [e4, ti_add (by omega) (by omega), l1]
        have f3 : ∀ c k : Nat, ¬ (c = 216 ∧ k = j) → s3 c k = s c k := fun c k hh => by rw [e3]; exact up2_ne hh
        have z := ih s3 t v4 r σ1 τ1 h (by rw [f3 199 29 (by omega)]; omega) (fun k hk => ?_)
        · obtain ⟨z1, z2, z3⟩ := z
          rw [f3 199 29 (by omega)] at z3
          exact ⟨z1, fun c k hh => (z2 c k hh).trans (f3 c k (by omega)), fun k hk => (z3 k hk).trans (f3 217 k (by omega))⟩
        · rw [f3 217 k (by omega)]
          by_cases d : k = j
          · rw [e3, d, up_eq]
          · rw [f3 216 k (by omega)]
            exact p k (by omega)
  unfold B_X12_rule_34 at h
  obtain ⟨r1, s1, t1, q1, h⟩ := bd_some h
  obtain ⟨⟨es, -⟩, k1⟩ := x_fault (by omega) (by omega) q1
  rw [l40] at k1
  rw [← k1]
  by_cases c : 0 ≤ r1
  · rw [if_pos c] at h
    rw [fa_le] at c
    have r0 : r1.toInt = 0 ∧ ¬ y0 = 0 := by
      by_cases d : 40 < x1.toInt ∧ ((¬ y0 = 0 ∧ (σ 199 14).toInt = (σ 199 15).toInt) ∨ 40 ≤ (σ 199 14).toInt)
      · rw [if_pos d] at k1; omega
      · rw [if_neg d] at k1
        by_cases e : ¬ y0 = 0 ∧ (σ 199 14).toInt = (σ 199 15).toInt
        · rw [if_pos e] at k1; exact ⟨k1, e.1⟩
        · rw [if_neg e] at k1; omega
    have h29 := h29.resolve_left r0.2
    obtain ⟨s3, e3, h⟩ := nm_some h
    rw [← es] at e3
    have f3 : ∀ c k : Nat, ¬ (c = 199 ∧ k = 28) → s3 c k = σ c k := fun c k hh => by rw [e3]; exact up2_ne hh
    obtain ⟨z1, z2, z3⟩ := G N s3 _ 0 _ _ _ h (by rw [f3 199 29 (by omega)]; omega) (fun k hk => absurd hk (by omega))
    rw [f3 199 29 (by omega)] at z3
    rw [z1, l0]
    exact ⟨r0.1.symm, Or.inr ⟨rfl, by rw [z2 199 28 (by omega), e3, up_eq], fun k hk => (z3 k hk).trans (f3 217 k (by omega))⟩⟩
  · rw [if_neg c] at h
    rw [fa_le] at c
    obtain ⟨e1, e2, -⟩ := sm_inj h
    rw [← e1]
    exact ⟨rfl, Or.inl ⟨by omega, by rw [← e2, es]⟩⟩
theorem cv_hv {s σ1 : gI} : ∀ {o : List Int}, CV s o → (∀ k : Nat, k < o.length → σ1 216 k = s 217 k) → HV σ1 216 o := by
  intro o
  induction o with
  | nil => intro _ _; trivial
  | cons x o ih =>
    intro h f
    have hl : o.length < (x :: o).length := Nat.lt_succ_self _
    exact ⟨by rw [f o.length hl]; exact h.1, ih h.2 (fun k hk => f k (Nat.lt_trans hk hl))⟩
theorem x_rule12 (h0 : 0 ≤ (σ 199 13).toInt ∧ (σ 199 13).toInt ≤ 80) (h : B_X12_rule_0 N σ τ = some (r, σ1, τ1)) : (r.toInt = if (σ 199 13).toInt ≤ 0 then 0 else ra (lk (σ 208) (imin (σ 199 13) 40).toInt) (σ 199 13).toInt 41 0 q06) ∧ ((r.toInt < 0 ∧ σ1 199 28 = σ 199 28 ∧ ∀ k : Nat, σ1 216 k = σ 216 k) ∨ (r.toInt = 0 ∧ HV σ1 216 (if (σ 199 13).toInt ≤ 0 then [] else rf (lk (σ 208) (imin (σ 199 13) 40).toInt) (σ 199 13).toInt 41 0 q06) ∧ (σ1 199 28).toInt = ((if (σ 199 13).toInt ≤ 0 then [] else rf (lk (σ 208) (imin (σ 199 13) 40).toInt) (σ 199 13).toInt 41 0 q06)).length)) := by
  have l0 : (0 : Int32).toInt = 0 := rfl
  have l40 : (40 : Int32).toInt = 40 := rfl
  have em := imin_c (σ 199 13) 40
  unfold B_X12_rule_0 at h
  obtain ⟨s1, e1, h⟩ := nm_some h
  have f1 : ∀ c k : Nat, ¬ (c = 199 ∧ k = 0) → s1 c k = σ c k := fun c k hh => by rw [e1]; exact up2_ne hh
  obtain ⟨r2, s2, t2, q2, h⟩ := bd_some h
  obtain ⟨b1, b2, b3, b4, f2⟩ := x_begins2 q2
  rw [f1 199 13 (by omega)] at b1 b3
  obtain ⟨s3, e3, h⟩ := nm_some h
  have f3 : ∀ c k : Nat, ¬ (c = 199 ∧ k = 29) → s3 c k = s2 c k := fun c k hh => by rw [e3]; exact up2_ne hh
  have z29 : s3 199 29 = 0 := by rw [e3, up_eq]
  have a14 : (s3 199 14).toInt = 0 := by rw [f3 199 14 (by omega)]; exact b2
  have a15 : s3 199 15 = imin (σ 199 13) 40 := by rw [f3 199 15 (by omega)]; exact b3
  have a16 : (s3 199 16).toInt = 0 := by rw [f3 199 16 (by omega)]; exact b4
  have kD : lk (σ 208) (imin (σ 199 13) 40).toInt = lk (s3 208) (s3 199 15).toInt := by rw [a15, show s3 208 = σ 208 from funext fun k => (f3 208 k (by omega)).trans ((f2 208 k (by omega)).trans (f1 208 k (by omega)))]
  by_cases c : r2 = 0
  · rw [if_pos c] at h
    rw [fa_eq, b1] at c
    rw [if_pos (show (σ 199 13).toInt ≤ 0 by omega), if_pos (show (σ 199 13).toInt ≤ 0 by omega)]
    obtain ⟨k, k2⟩ := x_rule34 (by omega) (Or.inr (by rw [z29]; decide)) h
    rw [a14, a15, b1] at k
    rw [if_neg (by omega), if_pos ⟨by decide, by omega⟩] at k
    refine ⟨k, ?_⟩
    rcases k2 with z | ⟨z1, z2, z3⟩
    · omega
    · exact Or.inr ⟨z1, trivial, by rw [z2, z29]; rfl⟩
  · rw [if_neg c] at h
    rw [fa_eq, b1] at c
    rw [if_neg (show ¬ (σ 199 13).toInt ≤ 0 by omega), if_neg (show ¬ (σ 199 13).toInt ≤ 0 by omega)]
    have F3 : ∀ c k : Nat, ¬ (c = 199 ∧ (k = 0 ∨ k = 13 ∨ k = 14 ∨ k = 15 ∨ k = 16 ∨ k = 29)) → s3 c k = σ c k := fun c k hh => (f3 c k (by omega)).trans ((f2 c k (by omega)).trans (f1 c k (by omega)))
    generalize hKK : lk (σ 208) (imin (σ 199 13) 40).toInt = K at kD ⊢
    have Km : ∀ i, (imin (σ 199 13) 40).toInt ≤ i → K i = -1 := fun i hi => by
      rw [← hKK]
      unfold lk
      rw [if_neg (by omega)]
    generalize hT9 : (imin (σ 199 13) 40).toInt = T at em Km
    generalize hL9 : (σ 199 13).toInt = L at *
    have e15 : (s3 199 15).toInt = T := by rw [a15]; exact hT9
    have hRH : RH s3 K T 0 (([] : List (Bool × List Int)).length : Int) [] := ⟨kD, e15, a14, a16, trivial, by rw [z29]; rfl⟩
    obtain ⟨r5, s5, t5, q5, h⟩ := bd_some h
    obtain ⟨F5, z5⟩ := (g_all (N := N) 100).2 s3 t2 0 r5 s5 t5 K T 0 0 0 false [] [] [] q5 hRH (by omega) (by decide) rfl (by omega) (fun _ => ⟨rfl, rfl⟩) (fun _ x H' e => by cases e)
    have t15 : (s5 199 15).toInt = T := by rw [F5 199 15 (by omega)]; exact e15
    rcases z5 with ⟨g1, n, q', y1, y2, y3, y4, y5⟩ | ⟨g1, n, d', c', P, o', y1, y2, y3, y4, y5, y6, y7⟩
    · rw [if_pos g1] at h
      obtain ⟨k, kx⟩ := x_rule34 (by omega) (Or.inl rfl) h
      rw [y2, t15, b1, hL9] at k
      have run := ra_rn (L := L) (f := 41 - n) y1 (by omega)
      rw [show n + (41 - n) = 41 by omega] at run
      have rl : r.toInt < 0 := by
        rw [k]
        have n0 : ¬ ¬ (0 : Int32) = 0 := fun z => z rfl
        by_cases d : 40 < L ∧ ((¬ (0 : Int32) = 0 ∧ 0 + (n : Int) = T) ∨ 40 ≤ 0 + (n : Int))
        · rw [if_pos d]; omega
        · rw [if_neg d, if_neg (fun z => n0 z.1)]; omega
      refine ⟨?_, Or.inl ⟨rl, ?_⟩⟩
      rotate_left
      · rcases kx with ⟨-, ex⟩ | ⟨ex, -⟩
        · rw [ex]
          exact ⟨(F5 199 28 (by omega)).trans (F3 199 28 (by omega)), fun k => (F5 216 k (by omega)).trans (F3 216 k (by omega))⟩
        · omega
      show r.toInt = ra K L 41 0 (true, 0, [(false, [])], [])
      rw [run]
      obtain ⟨f, hf⟩ : ∃ f : Nat, 41 - n = f + 1 := ⟨40 - n, by omega⟩
      rw [hf]
      have er : ra K L (f + 1) (0 + n) q' = if L ≤ 0 + n then (if q'.1 = false ∧ q'.2.2.1.length = 1 then 0 else -1 - (0 + (n : Int))) else match st q' (K (0 + n)) with | none => -1 - (0 + (n : Int)) | some q1 => ra K L f (0 + n + 1) q1 := rfl
      rw [er, if_neg y5, y4, k]
      have n0 : ¬ ¬ (0 : Int32) = 0 := fun z => z rfl
      have e9 : (if L ≤ 0 + (n : Int) then -1 - (0 + (n : Int)) else -1 - (0 + (n : Int))) = -1 - (0 + (n : Int)) := by split <;> rfl
      show _ = if L ≤ 0 + (n : Int) then -1 - (0 + (n : Int)) else -1 - (0 + (n : Int))
      rw [e9]
      by_cases d : 40 < L ∧ ((¬ (0 : Int32) = 0 ∧ 0 + (n : Int) = T) ∨ 40 ≤ 0 + (n : Int))
      · rw [if_pos d]
        have d2 : 40 ≤ 0 + (n : Int) := d.2.resolve_left (fun z => n0 z.1)
        omega
      · rw [if_neg d, if_neg (fun z => n0 z.1)]
    · rw [if_neg (show ¬ r5 = 0 by rw [g1]; decide)] at h
      have y14 := y2.2.2.1
      have olen : ((rla P o').length : Int) = (s5 199 29).toInt := y2.2.2.2.2.2.symm
      have ole : (rla P o').length ≤ 80 := by
        have g := rn_mz y1
        have g : o'.length + ((P ++ []).length + 0) ≤ 0 + (0 + 0) + n := g
        rw [List.append_nil] at g
        rw [rla_len]
        omega
      obtain ⟨k, kx⟩ := x_rule34 (by omega) (Or.inr (by omega)) h
      rw [y14, t15, b1, hL9] at k
      have run2 := rf_rn (L := L) (f := 41 - n) y1 (by omega)
      rw [show n + (41 - n) = 41 by omega] at run2
      have run := ra_rn (L := L) (f := 41 - n) y1 (by omega)
      rw [show n + (41 - n) = 41 by omega] at run
      show (r.toInt = ra K L 41 0 (true, 0, [(false, [])], [])) ∧ ((r.toInt < 0 ∧ σ1 199 28 = σ 199 28 ∧ ∀ k : Nat, σ1 216 k = σ 216 k) ∨ (r.toInt = 0 ∧ HV σ1 216 (rf K L 41 0 (true, 0, [(false, [])], [])) ∧ (σ1 199 28).toInt = ((rf K L 41 0 (true, 0, [(false, [])], [])).length : Int)))
      rw [run, run2]
      obtain ⟨f, hf⟩ : ∃ f : Nat, 41 - n = f + 1 := ⟨40 - n, by omega⟩
      rw [hf]
      have stn : st (false, d', [(c', P ++ [])], o') (K (0 + n)) = none := by
        refine st_bno y6 (fun _ => rfl) (fun w => ?_)
        rcases y7 w with x | x
        · have := rk_rng (jc (K (0 + n)))
          omega
        · exact ⟨x.2.2, x.2.1⟩
      have er : ra K L (f + 1) (0 + n) (false, d', [(c', P ++ [])], o') = if L ≤ 0 + n then 0 else match st (false, d', [(c', P ++ [])], o') (K (0 + n)) with | none => -1 - (0 + (n : Int)) | some q1 => ra K L f (0 + n + 1) q1 := rfl
      have er2 : rf K L (f + 1) (0 + n) (false, d', [(c', P ++ [])], o') = if L ≤ 0 + n then rla (P ++ []) o' else match st (false, d', [(c', P ++ [])], o') (K (0 + n)) with | none => [] | some q1 => rf K L f (0 + n + 1) q1 := rfl
      rw [er, er2, stn]
      have n1 : ¬ (1 : Int32) = 0 := by decide
      by_cases dL : L ≤ 0 + (n : Int)
      · rw [if_pos dL, if_pos dL, List.append_nil]
        rw [if_neg (fun z => by have := z.1; omega), if_pos ⟨n1, by omega⟩] at k
        refine ⟨k, Or.inr ?_⟩
        rcases kx with ⟨z, -⟩ | ⟨z1, z2, z3⟩
        · omega
        · exact ⟨z1, cv_hv y2.2.2.2.2.1 (fun i hi => z3 i (by omega)), by rw [z2]; exact olen.symm⟩
      · rw [if_neg dL, if_neg dL]
        have kl : r.toInt = -1 - (0 + (n : Int)) := by
          rw [k]
          by_cases d : 40 < L ∧ ((¬ (1 : Int32) = 0 ∧ 0 + (n : Int) = T) ∨ 40 ≤ 0 + (n : Int))
          · rw [if_pos d]
            rcases d with ⟨d1, ⟨-, d2⟩ | d2⟩ <;> omega
          · rw [if_neg d, if_neg (fun z => d ⟨by have := z.2; omega, Or.inl z⟩)]
        refine ⟨kl, Or.inl ⟨by omega, ?_⟩⟩
        rcases kx with ⟨-, ex⟩ | ⟨ex, -⟩
        · rw [ex]
          exact ⟨(F5 199 28 (by omega)).trans (F3 199 28 (by omega)), fun k => (F5 216 k (by omega)).trans (F3 216 k (by omega))⟩
        · omega
end RU6E
