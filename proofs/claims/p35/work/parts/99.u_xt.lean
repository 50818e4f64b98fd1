/-! BOTH SIDES: maps, next -/
section SIM34N
variable {N : Nat} {σ σ1 : gI} {τ τ1 : gJ} {r : Int32}
theorem x_next12 {cd : Nat → Int32} {L : Int} {f : Nat} {m : Int32} (hV : BV σ cd L) (hK : CK σ) (hf : f < 4096) (ef : fk 1 (σ 201) (σ 199 3).toInt.toNat = Int32.ofNat f) (h : B_X12_next_0 N σ τ m = some (r, σ1, τ1)) : r.toInt = (if (σ 199 3).toInt = 0 ∨ ¬ (0 ≤ m.toInt ∧ m.toInt ≤ 999) then -1 else if cr (hR σ cd L f) 0 (f + 1) = 0 then -2 else (nxf (fun p => mxc (gK σ cd L f (Int32.ofNat p) m) 13) ((σ 199 3).toInt - 1).toNat 1 0 (mxc (gK σ cd L f (Int32.ofNat 0) m) 13 : Nat)).1) := by
  have o : (0 : Int64).toInt = 0 := rfl
  have o9 : (999 : Int64).toInt = 999 := rfl
  have l0 : (0 : Int32).toInt = 0 := rfl
  have lm : (-1 : Int32).toInt = -1 := rfl
  have h12 := hV.2.2.1
  unfold B_X12_next_0 at h
  obtain ⟨s1, e1, h⟩ := nm_some h
  have Y1 : YF σ s1 := fun c k hh => by rw [e1]; exact up2_ne (by omega)
  rw [Y1 199 3 (by omega)] at h
  by_cases c : σ 199 3 = 0
  · rw [if_pos c] at h
    obtain ⟨w, -, -⟩ := sm_inj h
    rw [fa_eq, l0] at c
    rw [if_pos (Or.inl c), ← w]
    rfl
  · rw [if_neg c] at h
    rw [fa_eq, l0] at c
    obtain ⟨r3, s3, t3, q3, h⟩ := bd_some h
    obtain ⟨m0, k⟩ := x_in q3
    rw [Int32.toInt_toInt64, o, o9] at k
    rcases k with ⟨k1, k2⟩ | ⟨k1, k2⟩
    · rw [if_neg (show ¬ r3 = 0 by rw [k1]; decide), m0] at h
      rw [if_neg (fun z => by rcases z with z | z; exact c z; exact z k2)]
      obtain ⟨r5, s5, t5, q5, h⟩ := bd_some h
      obtain ⟨z1, z2, z3⟩ := x_laysFits hV hK hf ef Y1 q5
      by_cases d : r5 = 0
      · rw [if_pos d] at h
        obtain ⟨w, -, -⟩ := sm_inj h
        rw [fa_eq, l0] at d
        rw [if_pos (by omega), ← w]
        rfl
      · rw [if_neg d] at h
        rw [fa_eq, l0] at d
        rw [if_neg (by omega)]
        obtain ⟨r7, s7, t7, q7, h⟩ := bd_some h
        obtain ⟨w7, k7⟩ := x_forks hV.2.2.1 ef z2 q7
        rw [← w7, k7] at h
        have go : ∀ n : Nat, H_X12_next_49 N n s5 t7 m (Int32.ofNat f) (-1) 0 0 = some (r, σ1, τ1) → r.toInt = (nxf (fun p => mxc (gK σ cd L f (Int32.ofNat p) m) 13) ((σ 199 3).toInt - 1).toNat 1 0 (mxc (gK σ cd L f (Int32.ofNat 0) m) 13 : Nat)).1 := by
          intro n h
          cases n with
          | zero => cases h
          | succ n =>
            have h : C_X12_next_49 N (H_X12_next_49 N n) s5 t7 m (Int32.ofNat f) (-1) 0 0 = some (r, σ1, τ1) := h
            unfold C_X12_next_49 at h
            rw [z2 199 3 (by omega), if_neg (fun z => by rw [fa_le, l0] at z; omega)] at h
            obtain ⟨s8, t8, v6, y1, y2, y3, y4⟩ := x_nxp hV hf (by rw [l0]; omega) k2 z2 z3 h
            rw [if_pos (Or.inl (by decide))] at y4
            have z := x_nx49 hV hf k2 n s8 t8 0 v6 (0 + 1) r σ1 τ1 y4 y2 y3 (by decide) (by
              have l1 : ((0 : Int32) + 1).toInt = 1 := rfl
              rw [l1]; omega)
            have l1 : ((0 : Int32) + 1).toInt = 1 := rfl
            rw [l1, l0, y1] at z
            exact z
        exact go N h
    · rw [if_pos k1] at h
      obtain ⟨w, -, -⟩ := sm_inj h
      rw [if_pos (Or.inr k2), ← w]
      rfl
/-- both trials the same -/
def TE2 (T T2 : Nat → Nat → Int32) (n : Int) : Prop := ∀ i p : Nat, i ≤ 3 → (p : Int) < n → T i p = T2 i p
theorem stp_cg {T T2 : Nat → Nat → Int32} {n : Int} {rv : SB → Int32} {t : Int32} {s : SB} (hT : TK T n) (h : TE2 T T2 n) (hs : IN6 T n s) : stp T rv t s = stp T2 rv t s := by
  have hi : ((ix s.1 : Nat) : Int) < n := by unfold ix; have := hs.1; omega
  have hk := hT (ix s.1) hi
  have e0 := h 0 (ix s.1) (by omega) hi
  have e1 := h 1 (ix s.1) (by omega) hi
  have e2 := h 2 (ix s.1) (by omega) hi
  have e3 := h 3 (ix s.1) (by omega) hi
  have hp : 0 ≤ (if T 0 (ix s.1) = 1 ∧ ¬ rv s = 0 then T 2 (ix s.1) else T 1 (ix s.1)).toInt ∧ (if T 0 (ix s.1) = 1 ∧ ¬ rv s = 0 then T 2 (ix s.1) else T 1 (ix s.1)).toInt < n := by
    by_cases c4 : T 0 (ix s.1) = 1 ∧ ¬ rv s = 0
    · rw [if_pos c4]; exact hk.2 c4.1
    · rw [if_neg c4]; exact hk.1 hs.2
  have ea : ∀ (p b c : Int32), (0 ≤ p.toInt ∧ p.toInt < n) → arr6 T p b c = arr6 T2 p b c := fun p b c hp => by
    unfold arr6
    rw [h 0 (ix p) (by omega) (by unfold ix; omega)]
  have e9 := ea _ (s.2.1 - (if T 0 (ix s.1) = 2 then 1 + T 3 (ix s.1) else 1)) (if T 0 (ix s.1) = 3 then s.2.2 - T 3 (ix s.1) else s.2.2) hp
  unfold stp
  rw [e9, e0, e1, e2, e3]
theorem mst_cg {T T2 : Nat → Nat → Int32} {n : Int} {rv : SB → Int32} {t : Int32} (hn : n ≤ 12) (hT : TK T n) (h : TE2 T T2 n) : ∀ (k : Nat) (s : SB), IN6 T n s → mst (stp T rv t) k s = mst (stp T2 rv t) k s := by
  intro k
  induction k with
  | zero =>
    intro s _
    show ((0 : Int32), s) = ((0 : Int32), s)
    rfl
  | succ k ih =>
    intro s hs
    have e := stp_cg (rv := rv) (t := t) hT h hs
    have q := stp_in (rv := rv) (t := t) hn hT hs
    show (if (stp T rv t s).2.1 = true then mst (stp T rv t) k (stp T rv t s).2.2 else ((stp T rv t s).1, (stp T rv t s).2.2)) = (if (stp T2 rv t s).2.1 = true then mst (stp T2 rv t) k (stp T2 rv t s).2.2 else ((stp T2 rv t s).1, (stp T2 rv t s).2.2))
    rw [← e]
    by_cases c : (stp T rv t s).2.1 = true
    · rw [if_pos c, if_pos c]
      exact ih _ (q.2.1 (q.2.2 c))
    · rw [if_neg c, if_neg c]
theorem rnn_cg {T T2 : Nat → Nat → Int32} {n : Int} {rv rw2 : Int32 → SB → Int32} {wt wt2 : Int32 → Int32} (hn : n ≤ 12) (hT : TK T n) (h : TE2 T T2 n) (hw : ∀ t : Int32, 0 ≤ t.toInt → wt t = wt2 t ∧ rv t = rw2 t) : ∀ (k : Nat) (t : Int32) (s : SB), IN6 T n s → (0 ≤ t.toInt ∧ t.toInt + k ≤ 1000000000) → rnn T rv wt k t s = rnn T2 rw2 wt2 k t s := by
  have l1 : (1 : Int32).toInt = 1 := rfl
  intro k
  induction k with
  | zero => intro t s _ _; rfl
  | succ k ih =>
    intro t s hs ht
    obtain ⟨w1, w2⟩ := hw t ht.1
    have e := mst_cg (rv := rv t) (t := t) hn hT h (wt t).toInt.toNat s hs
    have q := mst_in (rv := rv t) (t := t) hn hT (wt t).toInt.toNat s hs
    have hh := mst_h (T := T) (rv := rv t) (t := t) (wt t).toInt.toNat s
    have ut : (t + 1).toInt = t.toInt + 1 := by rw [ti_add (by omega) (by omega), l1]
    show (if (mst (stp T (rv t) t) (wt t).toInt.toNat s).1 = 1 then (mst (stp T (rv t) t) (wt t).toInt.toNat s).2.1 else if (mst (stp T (rv t) t) (wt t).toInt.toNat s).1 = 2 then -1 else rnn T rv wt k (t + 1) (mst (stp T (rv t) t) (wt t).toInt.toNat s).2) = (if (mst (stp T2 (rw2 t) t) (wt2 t).toInt.toNat s).1 = 1 then (mst (stp T2 (rw2 t) t) (wt2 t).toInt.toNat s).2.1 else if (mst (stp T2 (rw2 t) t) (wt2 t).toInt.toNat s).1 = 2 then -1 else rnn T2 rw2 wt2 k (t + 1) (mst (stp T2 (rw2 t) t) (wt2 t).toInt.toNat s).2)
    rw [← w1, ← w2, ← e]
    rcases hh with hh | hh | hh
    · rw [hh, if_neg (show ¬ (0 : Int32) = 1 by decide), if_neg (show ¬ (0 : Int32) = 2 by decide), if_neg (show ¬ (0 : Int32) = 1 by decide), if_neg (show ¬ (0 : Int32) = 2 by decide)]
      exact ih _ _ (q.2 hh) (by omega)
    · rw [if_pos hh, if_pos hh]
    · rw [hh, if_neg (show ¬ (2 : Int32) = 1 by decide), if_pos rfl, if_neg (show ¬ (2 : Int32) = 1 by decide), if_pos rfl]
theorem rnn_rng {T : Nat → Nat → Int32} {n : Int} {rv : Int32 → SB → Int32} {wt : Int32 → Int32} (hn : n ≤ 12) (hT : TK T n) : ∀ (k : Nat) (t : Int32) (s : SB), IN6 T n s → -1 ≤ (rnn T rv wt k t s).toInt ∧ (rnn T rv wt k t s).toInt < 12 := by
  have lm : (-1 : Int32).toInt = -1 := rfl
  intro k
  induction k with
  | zero => intro t s _; show -1 ≤ (-1 : Int32).toInt ∧ (-1 : Int32).toInt < 12; omega
  | succ k ih =>
    intro t s hs
    have q := mst_in (rv := rv t) (t := t) hn hT (wt t).toInt.toNat s hs
    have hh := mst_h (T := T) (rv := rv t) (t := t) (wt t).toInt.toNat s
    have e : rnn T rv wt (k + 1) t s = (if (mst (stp T (rv t) t) (wt t).toInt.toNat s).1 = 1 then (mst (stp T (rv t) t) (wt t).toInt.toNat s).2.1 else if (mst (stp T (rv t) t) (wt t).toInt.toNat s).1 = 2 then -1 else rnn T rv wt k (t + 1) (mst (stp T (rv t) t) (wt t).toInt.toNat s).2) := rfl
    rw [e]
    rcases hh with hh | hh | hh
    · rw [hh, if_neg (show ¬ (0 : Int32) = 1 by decide), if_neg (show ¬ (0 : Int32) = 2 by decide)]
      exact ih _ _ (q.2 hh)
    · rw [if_pos hh]
      omega
    · rw [hh, if_neg (show ¬ (2 : Int32) = 1 by decide), if_pos rfl]
      omega
theorem flo_cg {T T2 : Nat → Nat → Int32} {n : Int} {rv rw2 : Int32 → SB → Int32} {wt wt2 : Int32 → Int32} {p m : Int32} (hn : n ≤ 12) (hT : TK T n) (h : TE2 T T2 n) (hw : ∀ t : Int32, 0 ≤ t.toInt → wt t = wt2 t ∧ rv t = rw2 t) (hp : 0 ≤ p.toInt ∧ p.toInt < n) (hm : 0 ≤ m.toInt ∧ m.toInt ≤ 999) : flo T rv wt p m = flo T2 rw2 wt2 p m ∧ -1 ≤ (flo T rv wt p m).toInt ∧ (flo T rv wt p m).toInt < 12 := by
  unfold flo
  rw [← h 0 (ix p) (by omega) (by unfold ix; omega)]
  by_cases c : T 0 (ix p) = 6
  · rw [if_pos c, if_pos c]
    exact ⟨rfl, by omega, by omega⟩
  · rw [if_neg c, if_neg c]
    have hs : IN6 T n (p, 99, 0) := ⟨hp, c⟩
    exact ⟨rnn_cg hn hT h hw 300 m _ hs (by omega), rnn_rng hn hT 300 m _ hs⟩
/-- what holds of both sides, for a trial -/
def BB (σ : gI) (cd cr : Nat → Int32) (L Lr : Int) : Prop := BF σ cd L ∧ BV σ cr Lr ∧ (∀ pl t fl s, RC cd L pl t fl s = RVL cr Lr pl t fl s) ∧ (σ 15 1 = σ 199 4 ∧ ∀ k : Nat, (k : Int) < (σ 15 1).toInt → σ 16 k = σ 205 k)
theorem wtr_cg {L : Int32} {d d2 : Nat → Int32} {t : Int32} (hL : 0 ≤ L.toInt) (ht : 0 ≤ t.toInt) (h : ∀ k : Nat, (k : Int) < L.toInt → d k = d2 k) : wtr L d t = wtr L d2 t := by
  have l0 : (0 : Int32).toInt = 0 := rfl
  have l10 : (10 : Int32).toInt = 10 := rfl
  unfold wtr
  by_cases c : L = 0
  · rw [if_pos c, if_pos c]
  · rw [if_neg c, if_neg c]
    rw [fa_eq, l0] at c
    have e1 := ti_div (a := t) (b := 10) ht (by omega)
    rw [l10] at e1
    have e2 := ti_rem (a := t / 10) (b := L) (by rw [e1]; omega) (by omega)
    have h1 := Int.emod_nonneg (t / 10).toInt (show L.toInt ≠ 0 by omega)
    have h2 := Int.emod_lt_of_pos (t / 10).toInt (show 0 < L.toInt by omega)
    have nn := nat_of_toInt (i := (t / 10) - (t / 10) / L * L) (by omega)
    exact h _ (by omega)
theorem eo_er {cd cr : Nat → Int32} {L Lr : Int} {p m pl : Int32} (hB : BB σ cd cr L Lr) (hp : 0 ≤ p.toInt ∧ p.toInt < (σ 3 6).toInt) (hm : 0 ≤ m.toInt ∧ m.toInt ≤ 999) : Eo σ cd L p m pl = Er σ cr Lr p m pl ∧ -1 ≤ (Eo σ cd L p m pl).toInt ∧ (Eo σ cd L p m pl).toInt < 12 := by
  obtain ⟨hF, hV, hR, hW⟩ := hB
  have hT4 := hF.2.2.2.2.1
  unfold Eo Er
  refine flo_cg (n := (σ 3 6).toInt) hT4.2.1.2 hF.2.2.2.2.2.1 (fun i q hi hq => ?_) (fun t ht => ?_) hp hm
  · unfold TC TT
    rw [if_pos hi, if_pos hi]
    exact hT4.2.2.1 i q hi hq
  · have e : wtr (σ 15 1) (σ 16) t = wtr (σ 199 4) (σ 205) t := by
      rw [← hW.1]
      exact wtr_cg hF.2.2.2.1.1 ht hW.2
    refine ⟨e, ?_⟩
    funext s
    unfold rvc rvr
    rw [e]
    exact hR pl t _ s
theorem gb_gr {cd cr : Nat → Int32} {L Lr : Int} {a : Nat} (hB : BB σ cd cr L Lr) (hC : C4 σ) (hK : CKc σ) : gB σ cd L a = gR σ cr Lr a := by
  unfold gB gR
  rw [← hC.1]
  refine Bool.eq_iff_iff.mpr ?_
  rw [List.all_eq_true, List.all_eq_true]
  have key : ∀ i : Nat, i ∈ List.range (σ 152 3).toInt.toNat → (Eo σ cd L (σ 153 i) (σ 154 i) (Int32.ofNat a) = σ 155 i ↔ Er σ cr Lr (σ 226 i) (σ 227 i) (Int32.ofNat a) = σ 228 i) := fun i hi => by
    have hi := List.mem_range.mp hi
    have hv := hK.2 i (by omega)
    have e := (eo_er (pl := Int32.ofNat a) hB hv.1 hv.2).1
    have c0 := hC.2.2 0 i (by omega) (by omega)
    have c1 := hC.2.2 1 i (by omega) (by omega)
    have c2 := hC.2.2 2 i (by omega) (by omega)
    have c0 : σ 153 i = σ 226 i := c0
    have c1 : σ 154 i = σ 227 i := c1
    have c2 : σ 155 i = σ 228 i := c2
    rw [e, c0, c1, c2]
  constructor
  · intro h i hi
    exact decide_eq_true ((key i hi).mp (of_decide_eq_true (h i hi)))
  · intro h i hi
    exact decide_eq_true ((key i hi).mpr (of_decide_eq_true (h i hi)))
theorem cr_ls {f : Nat} {Ls : List Nat} (hW : TWN σ f Ls) (g : Nat → Bool) : cr (fun k => decide (k &&& f = k) && g k) 0 (f + 1) = cf g Ls := by
  rw [cr_cf, hW.2.2.2.2.2.1]
theorem fk_same (hT : T4 σ) : fk 1 (σ 201) (σ 199 3).toInt.toNat = σ 3 7 := by
  rw [hT.2.2.2.1, ← hT.1]
  refine fk_fr (fun k hk => ?_)
  exact (hT.2.2.1 0 k (by omega) (by have := hT.2.1; omega)).symm
theorem bv_fr {cd : Nat → Int32} {L : Int} (h : BV σ cd L) (f : ∀ c k : Nat, 199 ≤ c → σ1 c k = σ c k) : BV σ1 cd L := by
  obtain ⟨a1, a2, a3, a4, a5, a6, a7, a8⟩ := h
  have eT : TT σ1 = TT σ := tt_fr (fun c k h1 h2 => f c k (by omega))
  exact ⟨by rw [f 199 31 (by omega)]; exact a1, by rw [f 199 33 (by omega)]; exact a2, by rw [f 199 3 (by omega)]; exact a3, by rw [eT, f 199 3 (by omega)]; exact a4, a5, a6, by rw [f 199 28 (by omega)]; exact a7, fun k hk => by rw [f 216 k (by omega)]; exact a8 k hk⟩
theorem ckr_fr (h : CK σ) (f : ∀ c k : Nat, 199 ≤ c → σ1 c k = σ c k) : CK σ1 := by
  obtain ⟨a1, a2⟩ := h
  refine ⟨by rw [f 199 52 (by omega)]; exact a1, fun k hk => ?_⟩
  rw [f 199 52 (by omega)] at hk
  rw [f 226 k (by omega), f 227 k (by omega), f 199 3 (by omega)]
  exact a2 k hk
theorem maps_one {τ2 t9 : gJ} {σ2 : gI} {s2 : gI} {cd cr2 : Nat → Int32} {L Lr : Int} {a b : Int32} (hB : BB σ cd cr2 L Lr) (hC : C4 σ) (hK : CKc σ) (hK9 : CK σ) (h199 : ∀ c k : Nat, 199 ≤ c → σ1 c k = σ c k) (e : B_X11_maps_0 N σ τ = some (a, s2, t9)) (e2 : B_X12_maps_0 N σ1 τ1 = some (b, σ2, τ2)) : a = b := by
  have hB2 : BV σ1 cr2 Lr := bv_fr hB.2.1 h199
  have hK2 : CK σ1 := ckr_fr hK9 h199
  obtain ⟨f, Ls, hW, hf7⟩ := twn_of hB.1.2.2.2.2.1
  have ef : fk 1 (σ1 201) (σ1 199 3).toInt.toNat = Int32.ofNat f := by
    rw [h199 199 3 (by omega), show σ1 201 = σ 201 from funext fun k => h199 201 k (by omega), fk_same hB.1.2.2.2.2.1]
    exact hW.1.1
  have z1 := x_maps11 hB.1 hW hK e
  have z2 := x_maps12 hB2 hK2 hW.1.2 ef e2
  refine (fa_eq _ _).mpr ?_
  have eR : Er σ1 cr2 Lr = Er σ cr2 Lr := by
    have eT : TT σ1 = TT σ := tt_fr (fun c k h1 h2 => h199 c k (by omega))
    have e4 : σ1 199 4 = σ 199 4 := h199 199 4 (by omega)
    have e5 : σ1 205 = σ 205 := funext fun k => h199 205 k (by omega)
    funext p m pl
    unfold Er wtv rvr
    rw [eT, e4, e5]
  have eg : ∀ k : Nat, hR σ1 cr2 Lr f k = (decide (k &&& f = k) && gB σ cd L k) := fun k => by
    unfold hR
    rw [gb_gr hB hC hK]
    unfold gR
    rw [eR, h199 199 52 (by omega), show σ1 226 = σ 226 from funext fun k => h199 226 k (by omega), show σ1 227 = σ 227 from funext fun k => h199 227 k (by omega), show σ1 228 = σ 228 from funext fun k => h199 228 k (by omega)]
  rw [z1, z2, show hR σ1 cr2 Lr f = (fun k => decide (k &&& f = k) && gB σ cd L k) from funext eg, cr_ls hW]
theorem nxf_pos {M : Nat → Nat} (h : ∀ p : Nat, 1 ≤ M p) : ∀ (k p : Nat) (b w : Int), 1 ≤ w → 1 ≤ (nxf M k p b w).2 := by
  intro k
  induction k with
  | zero => intro p b w hw; exact hw
  | succ k ih =>
    intro p b w hw
    show 1 ≤ (if w ≤ (M p : Int) then nxf M k (p + 1) b w else nxf M k (p + 1) p (M p)).2
    by_cases c : w ≤ (M p : Int)
    · rw [if_pos c]; exact ih _ _ _ hw
    · rw [if_neg c]; exact ih _ _ _ (by have := h p; omega)
theorem nxf_cg {M M2 : Nat → Nat} {n : Nat} (h : ∀ p : Nat, p < n → M p = M2 p) : ∀ (k p : Nat) (b w : Int), p + k ≤ n → nxf M k p b w = nxf M2 k p b w := by
  intro k
  induction k with
  | zero => intro p b w _; rfl
  | succ k ih =>
    intro p b w hp
    show (if w ≤ (M p : Int) then nxf M k (p + 1) b w else nxf M k (p + 1) p (M p)) = (if w ≤ (M2 p : Int) then nxf M2 k (p + 1) b w else nxf M2 k (p + 1) p (M2 p))
    rw [h p (by omega), ih _ _ _ (by omega), ih _ _ _ (by omega)]
theorem nxf_zero {M : Nat → Nat} : ∀ (k p : Nat) (b : Int), (nxf M k p b 0).2 = 0 := by
  intro k
  induction k with
  | zero => intro p b; rfl
  | succ k ih =>
    intro p b
    show (if (0 : Int) ≤ (M p : Int) then nxf M k (p + 1) b 0 else nxf M k (p + 1) p (M p)).2 = 0
    rw [if_pos (by omega)]
    exact ih _ _
theorem cf_mono {g h : Nat → Bool} (hh : ∀ a, g a = true → h a = true) : ∀ R : List Nat, cf g R ≤ cf h R := by
  intro R
  induction R with
  | nil => exact Nat.le_refl 0
  | cons a r ih =>
    show (if g a = true then 1 else 0) + cf g r ≤ (if h a = true then 1 else 0) + cf h r
    by_cases c : g a = true
    · rw [if_pos c, if_pos (hh a c)]; omega
    · rw [if_neg c]; omega
/-- the counts of both sides, each in its own order -/
theorem mxc_two {c d : Nat → Nat} (h12 : c 12 = d 0) (h : ∀ j : Nat, j < 12 → c j = d (j + 1)) : mxc c 13 = mxc d 13 := by
  have z := mxc_le c 13
  have i : IsM d (mxc c 13 : Nat) := by
    refine ⟨fun j hj => ?_, ?_⟩
    · by_cases e : j = 0
      · have := z.1 12 (by omega)
        rw [e, ← h12]; omega
      · have := z.1 (j - 1) (by omega)
        have e2 := h (j - 1) (by omega)
        rw [show j - 1 + 1 = j by omega] at e2
        omega
    · rcases z.2 with z | ⟨j, z1, z2⟩
      · exact Or.inl (by omega)
      · right
        by_cases e : j = 12
        · exact ⟨0, by omega, by rw [← h12, ← e, z2]⟩
        · exact ⟨j + 1, by omega, by rw [← h j (by omega), z2]⟩
  have := ism_mxc i
  omega
theorem next_one {τ2 t9 : gJ} {σ2 s2 : gI} {cd cr2 : Nat → Int32} {L Lr : Int} {a b m : Int32} (hB : BB σ cd cr2 L Lr) (hC : C4 σ) (hK : CKc σ) (hK9 : CK σ) (h199 : ∀ c k : Nat, 199 ≤ c → σ1 c k = σ c k) (e : B_X11_next_0 N σ τ m = some (a, s2, t9)) (e2 : B_X12_next_0 N σ1 τ1 m = some (b, σ2, τ2)) : a = b := by
  have hB2 : BV σ1 cr2 Lr := bv_fr hB.2.1 h199
  have hK2 : CK σ1 := ckr_fr hK9 h199
  have hT := hB.1.2.2.2.2.1
  have h12 := hT.2.1
  obtain ⟨f, Ls, hW, hf7⟩ := twn_of hT
  have e3 : σ1 199 3 = σ 3 6 := (h199 199 3 (by omega)).trans hT.1.symm
  have ef : fk 1 (σ1 201) (σ1 199 3).toInt.toNat = Int32.ofNat f := by
    rw [h199 199 3 (by omega), show σ1 201 = σ 201 from funext fun k => h199 201 k (by omega), fk_same hT]
    exact hW.1.1
  have z1 := x_next11 hB.1 hW hK e
  have z2 := x_next12 hB2 hK2 hW.1.2 ef e2
  refine (fa_eq _ _).mpr ?_
  have eR : Er σ1 cr2 Lr = Er σ cr2 Lr := by
    have eT : TT σ1 = TT σ := tt_fr (fun c k h1 h2 => h199 c k (by omega))
    have e4 : σ1 199 4 = σ 199 4 := h199 199 4 (by omega)
    have e5 : σ1 205 = σ 205 := funext fun k => h199 205 k (by omega)
    funext p m pl
    unfold Er wtv rvr
    rw [eT, e4, e5]
  have eg : ∀ k : Nat, hR σ1 cr2 Lr f k = (decide (k &&& f = k) && gB σ cd L k) := fun k => by
    unfold hR
    rw [gb_gr hB hC hK]
    unfold gR
    rw [eR, h199 199 52 (by omega), show σ1 226 = σ 226 from funext fun k => h199 226 k (by omega), show σ1 227 = σ 227 from funext fun k => h199 227 k (by omega), show σ1 228 = σ 228 from funext fun k => h199 228 k (by omega)]
  rw [e3] at z2
  by_cases c1 : (σ 3 6).toInt = 0 ∨ ¬ (0 ≤ m.toInt ∧ m.toInt ≤ 999)
  · rw [if_pos c1] at z1 z2
    omega
  · rw [if_neg c1] at z1 z2
    have hm : 0 ≤ m.toInt ∧ m.toInt ≤ 999 := by
      by_cases d : 0 ≤ m.toInt ∧ m.toInt ≤ 999
      · exact d
      · exact absurd (Or.inr d) c1
    have hs : ¬ (σ 3 6).toInt = 0 := fun z => c1 (Or.inl z)
    rw [show hR σ1 cr2 Lr f = (fun k => decide (k &&& f = k) && gB σ cd L k) from funext eg, cr_ls hW] at z2
    -- the counts of a place
    have hM : ∀ p : Nat, p < (σ 3 6).toInt.toNat → mxc (gC σ cd L Ls (Int32.ofNat p) m) 13 = mxc (gK σ1 cr2 Lr f (Int32.ofNat p) m) 13 := by
      intro p hp
      have up : (Int32.ofNat p).toInt = p := ofn_ti (by omega)
      have key : ∀ (j i : Nat), (∀ v : Int32, -1 ≤ v.toInt → v.toInt < 12 → (tx v = j ↔ (1 + v).toNatClampNeg = i)) → gC σ cd L Ls (Int32.ofNat p) m j = gK σ1 cr2 Lr f (Int32.ofNat p) m i := by
        intro j i hv
        unfold gC gK
        have eq : (fun a => hR σ1 cr2 Lr f a && decide ((1 + Er σ1 cr2 Lr (Int32.ofNat p) m (Int32.ofNat a)).toNatClampNeg = i)) = (fun k => decide (k &&& f = k) && (gB σ cd L k && decide (tx (Eo σ cd L (Int32.ofNat p) m (Int32.ofNat k)) = j))) := funext fun k => by
          have ee := eo_er (pl := Int32.ofNat k) (p := Int32.ofNat p) hB (by rw [up]; omega) hm
          rw [eg, eR, ← ee.1, Bool.and_assoc]
          have hd : decide ((1 + Eo σ cd L (Int32.ofNat p) m (Int32.ofNat k)).toNatClampNeg = i) = decide (tx (Eo σ cd L (Int32.ofNat p) m (Int32.ofNat k)) = j) := decide_eq_decide.mpr (hv _ ee.2.1 ee.2.2).symm
          rw [hd]
        rw [eq, cr_ls hW]
      have u1 : ∀ v : Int32, -1 ≤ v.toInt → v.toInt < 12 → ((1 + v).toNatClampNeg : Int) = 1 + v.toInt := fun v h1 h2 => by
        have l1 : (1 : Int32).toInt = 1 := rfl
        have e : (1 + v).toInt = 1 + v.toInt := by rw [ti_add (by omega) (by omega), l1]
        rw [nat_of_toInt (by omega), e]
      refine mxc_two (key 12 0 (fun v h1 h2 => ?_)) (fun j hj => key j (j + 1) (fun v h1 h2 => ?_))
      · have := u1 v h1 h2
        unfold tx
        by_cases d : 0 ≤ v.toInt ∧ v.toInt < 12
        · rw [if_pos d]; omega
        · rw [if_neg d]; omega
      · have := u1 v h1 h2
        unfold tx
        by_cases d : 0 ≤ v.toInt ∧ v.toInt < 12
        · rw [if_pos d]; omega
        · rw [if_neg d]; omega
    generalize hM1 : (fun p : Nat => mxc (gC σ cd L Ls (Int32.ofNat p) m) 13) = M1 at z1
    generalize hM2 : (fun p : Nat => mxc (gK σ1 cr2 Lr f (Int32.ofNat p) m) 13) = M2 at z2
    have h0 : mxc (gK σ1 cr2 Lr f (Int32.ofNat 0) m) 13 = M2 0 := by rw [← hM2]
    rw [h0] at z2
    have hMM : ∀ p : Nat, p < (σ 3 6).toInt.toNat → M1 p = M2 p := fun p hp => by rw [← hM1, ← hM2]; exact hM p hp
    have m1 : ∀ p : Nat, M1 p = mxc (gC σ cd L Ls (Int32.ofNat p) m) 13 := fun p => by rw [← hM1]
    have step : ∀ k : Nat, nxf M1 (k + 1) 0 (-1) 4097 = if (4097 : Int) ≤ (M1 0 : Int) then nxf M1 k (0 + 1) (-1) 4097 else nxf M1 k (0 + 1) ((0 : Nat) : Int) (M1 0) := fun _ => rfl
    have small : ∀ j : Nat, gC σ cd L Ls (Int32.ofNat 0) m j ≤ 4096 := fun j => Nat.le_trans (cf_le _ Ls) hW.2.2.2.2.2.2
    have s0 : M1 0 ≤ 4096 := by
      rw [m1 0]
      rcases (mxc_le (gC σ cd L Ls (Int32.ofNat 0) m) 13).2 with z | ⟨j, -, z⟩
      · omega
      · have := small j; omega
    rw [show (σ 3 6).toInt.toNat = ((σ 3 6).toInt - 1).toNat + 1 by omega, step, if_neg (show ¬ (4097 : Int) ≤ (M1 0 : Int) by omega)] at z1
    by_cases c2 : cf (gB σ cd L) Ls = 0
    · rw [if_pos c2] at z2
      have e0 : M1 0 = 0 := by
        rw [m1 0]
        rcases (mxc_le (gC σ cd L Ls (Int32.ofNat 0) m) 13).2 with z | ⟨j, -, z⟩
        · exact z
        · have : gC σ cd L Ls (Int32.ofNat 0) m j ≤ cf (gB σ cd L) Ls := cf_mono (fun a ha => by rw [Bool.and_eq_true] at ha; exact ha.1) Ls
          omega
      rw [e0] at z1
      have z0 : (nxf M1 ((σ 3 6).toInt - 1).toNat (0 + 1) ((0 : Nat) : Int) ((0 : Nat) : Int)).2 = 0 := nxf_zero (M := M1) ((σ 3 6).toInt - 1).toNat (0 + 1) ((0 : Nat) : Int)
      rw [if_pos z0] at z1
      omega
    · rw [if_neg c2] at z2
      obtain ⟨a0, ha1, ha2⟩ := cf_pos (g := gB σ cd L) Ls (by omega)
      have pos : ∀ p : Nat, 1 ≤ M1 p := fun p => by
        rw [m1 p]
        have h1 := (mxc_le (gC σ cd L Ls (Int32.ofNat p) m) 13).1 (tx (Eo σ cd L (Int32.ofNat p) m (Int32.ofNat a0))) (tx_lt _)
        have h2 : 1 ≤ gC σ cd L Ls (Int32.ofNat p) m (tx (Eo σ cd L (Int32.ofNat p) m (Int32.ofNat a0))) := cf_mem (a := a0) (by rw [ha2, decide_eq_true rfl]; rfl) Ls ha1
        omega
      have w := nxf_pos pos ((σ 3 6).toInt - 1).toNat (0 + 1) ((0 : Nat) : Int) (M1 0) (by have := pos 0; omega)
      rw [if_neg (by omega)] at z1
      rw [z1, z2, nxf_cg hMM _ _ _ _ (by omega), hMM 0 (by omega)]
      rfl
end SIM34N
