/-! THE CLASS'S FITS, MAPS, NEXT -/
def cf (g : Nat → Bool) : List Nat → Nat
  | [] => 0
  | a :: r => (if g a = true then 1 else 0) + cf g r
theorem cf_le (g : Nat → Bool) : ∀ R : List Nat, cf g R ≤ R.length := by
  intro R
  induction R with
  | nil => exact Nat.le_refl 0
  | cons a r ih =>
    show (if g a = true then 1 else 0) + cf g r ≤ r.length + 1
    split <;> omega
theorem cf_cg {g h : Nat → Bool} : ∀ R : List Nat, (∀ a, a ∈ R → g a = h a) → cf g R = cf h R := by
  intro R
  induction R with
  | nil => intro _; rfl
  | cons a r ih =>
    intro hh
    show (if g a = true then 1 else 0) + cf g r = (if h a = true then 1 else 0) + cf h r
    rw [hh a (List.mem_cons_self ..), ih (fun b hb => hh b (List.mem_cons_of_mem _ hb))]
theorem cf_mem {g : Nat → Bool} {a : Nat} (ha : g a = true) : ∀ R : List Nat, a ∈ R → 1 ≤ cf g R := by
  intro R
  induction R with
  | nil => intro h; cases h
  | cons b r ih =>
    intro h
    show 1 ≤ (if g b = true then 1 else 0) + cf g r
    rcases List.mem_cons.mp h with e | e
    · rw [← e, if_pos ha]; omega
    · have := ih e; omega
theorem cf_pos {g : Nat → Bool} : ∀ R : List Nat, 1 ≤ cf g R → ∃ a, a ∈ R ∧ g a = true := by
  intro R
  induction R with
  | nil => intro h; exact absurd h (show ¬ 1 ≤ (0 : Nat) by decide)
  | cons b r ih =>
    intro h
    have h : 1 ≤ (if g b = true then 1 else 0) + cf g r := h
    by_cases c : g b = true
    · exact ⟨b, List.mem_cons_self .., c⟩
    · rw [if_neg c] at h
      obtain ⟨a, h1, h2⟩ := ih (by omega)
      exact ⟨a, List.mem_cons_of_mem _ h1, h2⟩
section SIM34K
variable {N : Nat} {σ σ1 : gI} {τ τ1 : gJ} {r : Int32}
def XF (σ s : gI) : Prop := ∀ c k : Nat, ¬ (c = 19 ∨ c = 159 ∨ (c = 158 ∧ (k = 4 ∨ k = 5 ∨ k = 6)) ∨ (c = 160 ∧ (k = 5 ∨ k = 6)) ∨ (161 ≤ c ∧ c ≤ 177)) → s c k = σ c k
theorem bf_fr {s : gI} {cd : Nat → Int32} {L : Int} (h : BF σ cd L) (f : XF σ s) : BF s cd L := by
  obtain ⟨a1, a2, a3, a4, a5, a6, a7, a8⟩ := h
  have eT : TC s = TC σ := tc_fr (fun c k h1 h2 => f c k (by omega))
  refine ⟨by rw [f 17 10 (by omega)]; exact a1, by rw [f 158 7 (by omega)]; exact a2, by rw [f 158 8 (by omega)]; exact a3, by rw [f 15 1 (by omega)]; exact a4, t4_fr a5 (fun c k hh => f c k (by omega)), by rw [eT, f 3 6 (by omega)]; exact a6, fun p hp h5 => ?_, cc_fr a8 (fun c k hh => f c k (by omega))⟩
  rw [f 3 6 (by omega)] at hp
  rw [f 4 p (by omega)] at h5
  rw [f 7 p (by omega)]
  exact a7 p hp h5
theorem eo_fr {s : gI} {cd : Nat → Int32} {L : Int} (f : XF σ s) : Eo s cd L = Eo σ cd L := by
  have eT : TC s = TC σ := tc_fr (fun c k h1 h2 => f c k (by omega))
  have e15 : s 15 1 = σ 15 1 := f 15 1 (by omega)
  have e16 : s 16 = σ 16 := funext fun k => f 16 k (by omega)
  have ew : wtc s = wtc σ := by unfold wtc; rw [e15, e16]
  have er : rvc s cd L = rvc σ cd L := by funext pl t; unfold rvc; rw [e15, e16]
  funext p m pl
  unfold Eo
  rw [eT, ew, er]
/-- the sets of the town -/
def TWN (σ : gI) (f : Nat) (Ls : List Nat) : Prop := (σ 3 7 = Int32.ofNat f ∧ f < 4096) ∧ Ch f 0 Ls ∧ (∃ q, Ls = 0 :: q) ∧ (σ 3 8).toInt = Ls.length ∧ (∀ e, e ∈ Ls ↔ e &&& f = e) ∧ Ls = ff (fun s => decide (s &&& f = s)) 0 (f + 1) ∧ Ls.length ≤ 4096
theorem twn_of (hT : T4 σ) : ∃ (f : Nat) (Ls : List Nat), TWN σ f Ls ∧ σ 3 7 = fk 1 (σ 4) (σ 3 6).toInt.toNat := by
  have h12 := hT.2.1
  have hn : (σ 3 6).toInt.toNat ≤ 12 := by omega
  refine ⟨eb (fun k => decide (σ 4 k = 1)) (σ 3 6).toInt.toNat, el (fun k => decide (σ 4 k = 1)) (σ 3 6).toInt.toNat, ⟨⟨?_, ?_⟩, ?_, ?_, ?_, fun e => el_mem, (el_up _ _).symm, ?_⟩, hT.2.2.2.1⟩
  · rw [hT.2.2.2.1, fk_eb hn]
  · have h1 := eb_lt (fun k => decide (σ 4 k = 1)) (σ 3 6).toInt.toNat
    have h2 : 2 ^ (σ 3 6).toInt.toNat ≤ 2 ^ 12 := Nat.pow_le_pow_right (by omega) hn
    omega
  · exact (el_ch _ _ hn).1
  · exact (el_ch _ _ hn).2.1
  · rw [hT.2.2.2.2.2]; exact (len_sk _ hn).1
  · have h1 := (len_sk (f := σ 4) _ hn).2
    have h2 : 2 ^ (σ 3 6).toInt.toNat ≤ 2 ^ 12 := Nat.pow_le_pow_right (by omega) hn
    omega
theorem twn_lt {f : Nat} {Ls : List Nat} (h : TWN σ f Ls) {e : Nat} (he : e ∈ Ls) : e < 4096 ∧ e &&& f = e := by
  have h1 := (h.2.2.2.2.1 e).mp he
  have h2 : e &&& f ≤ f := Nat.and_le_right
  have := h.1.2
  exact ⟨by omega, h1⟩
theorem x_kitOf {x : Int32} (h : B_X11_kitchenOf_0 N σ τ x = some (r, σ1, τ1)) : σ = σ1 ∧ r = ko x := by
  have l0 : (0 : Int32).toInt = 0 := rfl
  unfold B_X11_kitchenOf_0 at h
  unfold ko
  by_cases c : x < 0
  · rw [if_pos c] at h
    rw [fa_lt, l0] at c
    rw [if_pos c]
    obtain ⟨a, b, -⟩ := sm_inj h
    exact ⟨b, a.symm⟩
  · rw [if_neg c] at h
    rw [fa_lt, l0] at c
    rw [if_neg c]
    obtain ⟨a, b, -⟩ := sm_inj h
    exact ⟨b, a.symm⟩
theorem x_fits {e : Nat} (he : e < 4096) (h : B_X9_fits_0 N σ τ (Int32.ofNat e) = some (r, σ1, τ1)) : σ = σ1 ∧ r = if σ 162 e = 0 then 0 else 1 := by
  have l0 : (0 : Int32).toInt = 0 := rfl
  have l4 : (4096 : Int32).toInt = 4096 := rfl
  obtain ⟨e1, e2⟩ := ofn_cl he
  unfold B_X9_fits_0 at h
  rw [if_neg (fun z => by rw [fa_lt] at z; omega), if_neg (fun z => by rw [fa_le] at z; omega)] at h
  obtain ⟨j, ej, -, h⟩ := ck_some h
  rw [← ej, e1] at h
  by_cases c : σ 162 e = 0
  · rw [if_pos c] at h ⊢
    obtain ⟨a, b, -⟩ := sm_inj h
    exact ⟨b, a.symm⟩
  · rw [if_neg c] at h ⊢
    obtain ⟨a, b, -⟩ := sm_inj h
    exact ⟨b, a.symm⟩
theorem x_setf {e : Nat} {x2 : Int32} {u : Unit} (he : e < 4096) (h : B_X9_setFitting_0 N σ τ (Int32.ofNat e) x2 = some (u, σ1, τ1)) : σ1 = up2 σ 162 e x2 := by
  have l0 : (0 : Int32).toInt = 0 := rfl
  have l4 : (4096 : Int32).toInt = 4096 := rfl
  obtain ⟨i1, i2⟩ := ofn_cl he
  unfold B_X9_setFitting_0 at h
  rw [if_neg (fun z => by rw [fa_lt] at z; omega), if_neg (fun z => by rw [fa_le] at z; omega)] at h
  obtain ⟨j, ej, -, h⟩ := ck_some h
  obtain ⟨-, h⟩ := cb_some h
  obtain ⟨s4, e4, h⟩ := nm_some h
  obtain ⟨-, w, -⟩ := sm_inj h
  rw [← w, e4, ← ej, i1]
/-- an outcome asked in a loop -/
theorem x_out9 {p m : Int32} {cd : Nat → Int32} {L : Int} {a f : Nat} {s : gI} {t : gJ} (hF : BF σ cd L) (hX : XF σ s) (hS : SD s p m (if σ 4 (ix p) = 6 then 1 else 0)) (hp : 0 ≤ p.toInt ∧ p.toInt < (σ 3 6).toInt) (hm : 0 ≤ m.toInt ∧ m.toInt ≤ 999) (ha : a < 4096) (hf : f < 4096) (haf : a &&& f = a) (h37 : σ 3 7 = Int32.ofNat f) (hM : MM s f (Eo σ cd L p m)) (h : B_X9_outcome_0 N s t (Int32.ofNat a) = some (r, σ1, τ1)) : XF σ σ1 ∧ SD σ1 p m (if σ 4 (ix p) = 6 then 1 else 0) ∧ ko r = Eo σ cd L p m (Int32.ofNat a) ∧ MM σ1 f (Eo σ cd L p m) ∧ ∀ c k : Nat, c = 162 ∨ c = 163 → σ1 c k = s c k := by
  have e4 : s 4 (ix p) = σ 4 (ix p) := hX 4 _ (by omega)
  have eE := eo_fr (cd := cd) (L := L) hX
  obtain ⟨z1, z2, z3, z4⟩ := x_outcome (bf_fr hF hX) (by rw [e4]; exact hS) (by rw [hX 3 6 (by omega)]; exact hp) hm ha hf haf (by rw [hX 3 7 (by omega)]; exact h37) (by rw [eE]; exact hM) h
  rw [eE] at z3 z4
  exact ⟨fun c k hh => (z1 c k (by omega)).trans (hX c k hh), sd_fr hS (fun c k hh => z1 c k (by omega)), z3, z4, fun c k hh => z1 c k (by omega)⟩
theorem x_ff68 {p m x1 x2 : Int32} {cd : Nat → Int32} {L : Int} {f : Nat} {rec : gI → gJ → Int32 → Option (Unit × gI × gJ)} (hF : BF σ cd L) (hp : 0 ≤ p.toInt ∧ p.toInt < (σ 3 6).toInt) (hm : 0 ≤ m.toInt ∧ m.toInt ≤ 999) (hf : f < 4096) (h37 : σ 3 7 = Int32.ofNat f) : ∀ (R : List Nat) (n : Nat) (s : gI) (t : gJ) (x3 x4 : Int32) (u : Unit) (σ1 : gI) (τ1 : gJ), H_X11_findFits_68 N rec n s t x1 x2 x3 x4 = some (u, σ1, τ1) → XF σ s → SD s p m (if σ 4 (ix p) = 6 then 1 else 0) → MM s f (Eo σ cd L p m) → Ch f 0 R → HDx x3 R → (∀ e, e ∈ R → e < 4096 ∧ e &&& f = e) → (x4.toInt + R.length = (σ 3 8).toInt ∧ 0 ≤ x4.toInt) → ∃ (s3 : gI) (t3 : gJ) (v : Int32), rec s3 t3 v = some (u, σ1, τ1) ∧ v = x1 + 1 ∧ XF σ s3 ∧ (∀ a : Nat, (a ∈ R → ¬ Eo σ cd L p m (Int32.ofNat a) = x2 → s3 162 a = 0) ∧ (¬ (a ∈ R ∧ ¬ Eo σ cd L p m (Int32.ofNat a) = x2) → s3 162 a = s 162 a)) := by
  have l1 : (1 : Int32).toInt = 1 := rfl
  intro R
  induction R with
  | nil =>
    intro n s t x3 x4 u σ1 τ1 h hX hS hM _ _ _ hx
    cases n with
    | zero => cases h
    | succ n =>
      have h : C_X11_findFits_68 N rec (H_X11_findFits_68 N rec n) s t x1 x2 x3 x4 = some (u, σ1, τ1) := h
      unfold C_X11_findFits_68 at h
      have hl : ([] : List Nat).length = 0 := rfl
      rw [hl] at hx
      rw [hX 3 8 (by omega), if_pos (by rw [fa_le]; omega)] at h
      obtain ⟨v, ev, h⟩ := nm_some h
      exact ⟨s, t, v, h, ev, hX, fun a => ⟨(fun z => by cases z), fun _ => rfl⟩⟩
  | cons e R ih =>
    intro n s t x3 x4 u σ1 τ1 h hX hS hM hC hD hb hx
    cases n with
    | zero => cases h
    | succ n =>
      have h : C_X11_findFits_68 N rec (H_X11_findFits_68 N rec n) s t x1 x2 x3 x4 = some (u, σ1, τ1) := h
      unfold C_X11_findFits_68 at h
      have hl : (e :: R).length = R.length + 1 := rfl
      rw [hl] at hx
      have r8 := i32_rng (σ 3 8)
      rw [hX 3 8 (by omega), if_neg (fun z => by rw [fa_le] at z; omega)] at h
      obtain ⟨he, hef⟩ := hb e (List.mem_cons_self ..)
      have hD : x3 = Int32.ofNat e := hD
      rw [hD] at h
      obtain ⟨r3, s3, t3, q3, h⟩ := bd_some h
      obtain ⟨w3, k3⟩ := x_fits he q3
      rw [← w3] at h
      have hb2 : ∀ e9, e9 ∈ R → e9 < 4096 ∧ e9 &&& f = e9 := fun e9 h9 => hb e9 (List.mem_cons_of_mem _ h9)
      by_cases c : s 162 e = 0
      · rw [if_pos c] at k3
        rw [if_pos k3] at h
        obtain ⟨r5, s5, t5, q5, h⟩ := bd_some h
        obtain ⟨w5, k5⟩ := x_nextSet (by rw [hX 3 7 (by omega)]; exact h37) q5
        rw [← w5] at h
        obtain ⟨v6, e6, h⟩ := nm_some h
        have u6 : v6.toInt = x4.toInt + 1 := by rw [e6, ti_add (by omega) (by omega), l1]
        obtain ⟨s9, t9, v9, y1, y2, y3, y4⟩ := ih n s t5 r5 v6 u σ1 τ1 h hX hS hM (ch_tl hC) (by rw [k5]; exact hd_next hf he hC) hb2 (by omega)
        refine ⟨s9, t9, v9, y1, y2, y3, fun a => ⟨fun ha hE => ?_, fun ha => ?_⟩⟩
        · by_cases d : a ∈ R
          · exact (y4 a).1 d hE
          · rw [(y4 a).2 (fun z => d z.1)]
            rcases List.mem_cons.mp ha with ha | ha
            · rw [ha]; exact c
            · exact absurd ha d
        · exact (y4 a).2 (fun z => ha ⟨List.mem_cons_of_mem _ z.1, z.2⟩)
      · rw [if_neg c] at k3
        rw [if_neg (show ¬ r3 = 0 by rw [k3]; decide)] at h
        obtain ⟨r7, s7, t7, q7, h⟩ := bd_some h
        obtain ⟨a1, a2, a3, a4, a5⟩ := x_out9 hF hX hS hp hm he hf hef h37 hM q7
        obtain ⟨r8', s8, t8, q8, h⟩ := bd_some h
        obtain ⟨w8, k8⟩ := x_kitOf q8
        rw [a3] at k8
        rw [← w8, k8] at h
        by_cases d : Eo σ cd L p m (Int32.ofNat e) = x2
        · rw [if_pos d] at h
          obtain ⟨r5, s5, t5, q5, h⟩ := bd_some h
          obtain ⟨w5, k5⟩ := x_nextSet (by rw [a1 3 7 (by omega)]; exact h37) q5
          rw [← w5] at h
          obtain ⟨v6, e6, h⟩ := nm_some h
          have u6 : v6.toInt = x4.toInt + 1 := by rw [e6, ti_add (by omega) (by omega), l1]
          obtain ⟨s9, t9, v9, y1, y2, y3, y4⟩ := ih n s7 t5 r5 v6 u σ1 τ1 h a1 a2 a4 (ch_tl hC) (by rw [k5]; exact hd_next hf he hC) hb2 (by omega)
          refine ⟨s9, t9, v9, y1, y2, y3, fun a => ⟨fun ha hE => ?_, fun ha => ?_⟩⟩
          · rcases List.mem_cons.mp ha with ha | ha
            · rw [ha] at hE; exact absurd d hE
            · exact (y4 a).1 ha hE
          · rw [(y4 a).2 (fun z => ha ⟨List.mem_cons_of_mem _ z.1, z.2⟩)]
            exact a5 162 a (Or.inl rfl)
        · rw [if_neg d] at h
          obtain ⟨u2, s2, t2, q2, h⟩ := bd_some h
          have w2 := x_setf he q2
          have X2 : XF σ s2 := fun c k hh => by rw [w2, up2_ne (by omega)]; exact a1 c k hh
          have S2 : SD s2 p m (if σ 4 (ix p) = 6 then 1 else 0) := sd_fr a2 (fun c k hh => by rw [w2, up2_ne (by omega)])
          have M2 : MM s2 f (Eo σ cd L p m) := fun a h1 h2 => by
            rw [w2, up2_ne (by omega)]; exact a4 a h1 h2
          obtain ⟨r5, s5, t5, q5, h⟩ := bd_some h
          obtain ⟨w5, k5⟩ := x_nextSet (by rw [X2 3 7 (by omega)]; exact h37) q5
          rw [← w5] at h
          obtain ⟨v6, e6, h⟩ := nm_some h
          have u6 : v6.toInt = x4.toInt + 1 := by rw [e6, ti_add (by omega) (by omega), l1]
          obtain ⟨s9, t9, v9, y1, y2, y3, y4⟩ := ih n s2 t5 r5 v6 u σ1 τ1 h X2 S2 M2 (ch_tl hC) (by rw [k5]; exact hd_next hf he hC) hb2 (by omega)
          refine ⟨s9, t9, v9, y1, y2, y3, fun a => ⟨fun ha hE => ?_, fun ha => ?_⟩⟩
          · by_cases g : a ∈ R
            · exact (y4 a).1 g hE
            · rw [(y4 a).2 (fun z => g z.1)]
              rcases List.mem_cons.mp ha with ha | ha
              · rw [ha, w2, up_eq]
              · exact absurd ha g
          · rw [(y4 a).2 (fun z => ha ⟨List.mem_cons_of_mem _ z.1, z.2⟩)]
            have ne : a ≠ e := fun z => ha (by rw [z]; exact ⟨List.mem_cons_self .., d⟩)
            rw [w2, up2_ne (by omega)]
            exact a5 162 a (Or.inl rfl)
/-- the i-th cork did so with the set a -/
def FT (σ : gI) (cd : Nat → Int32) (L : Int) (i a : Nat) : Prop := Eo σ cd L (σ 153 i) (σ 154 i) (Int32.ofNat a) = σ 155 i
def CKc (σ : gI) : Prop := (0 ≤ (σ 152 3).toInt ∧ (σ 152 3).toInt ≤ 10) ∧ ∀ k : Nat, (k : Int) < (σ 152 3).toInt → (0 ≤ (σ 153 k).toInt ∧ (σ 153 k).toInt < (σ 3 6).toInt) ∧ (0 ≤ (σ 154 k).toInt ∧ (σ 154 k).toInt ≤ 999)
theorem x_has0 {x1 : Int32} (h0 : 0 ≤ x1.toInt ∧ x1.toInt < (σ 152 3).toInt ∧ (σ 152 3).toInt ≤ 10) (h : B_X0_has_0 N σ τ x1 = some (r, σ1, τ1)) : σ = σ1 ∧ r = 1 := by
  have l0 : (0 : Int32).toInt = 0 := rfl
  have l10 : (10 : Int32).toInt = 10 := rfl
  unfold B_X0_has_0 at h
  rw [if_neg (fun z => by rw [fa_lt] at z; omega), if_neg (fun z => by rw [fa_le] at z; omega), if_neg (fun z => by rw [fa_le] at z; omega)] at h
  obtain ⟨a, b, -⟩ := sm_inj h
  exact ⟨b, a.symm⟩
theorem x_end0 {x1 : Int32} (h0 : 0 ≤ x1.toInt ∧ x1.toInt < (σ 152 3).toInt ∧ (σ 152 3).toInt ≤ 10) (h : B_X0_endOf_0 N σ τ x1 = some (r, σ1, τ1)) : σ = σ1 ∧ r = σ 155 x1.toInt.toNat := by
  have nn := nat_of_toInt (i := x1) h0.1
  unfold B_X0_endOf_0 at h
  obtain ⟨r1, s1, t1, q1, h⟩ := bd_some h
  obtain ⟨w1, k1⟩ := x_has0 h0 q1
  rw [← w1, if_neg (show ¬ r1 = 0 by rw [k1]; decide)] at h
  obtain ⟨j, ej, -, h⟩ := ck_some h
  rw [show j = x1.toInt.toNat by omega] at h
  obtain ⟨a, b, -⟩ := sm_inj h
  exact ⟨b, a.symm⟩
theorem x_spot0 {x1 : Int32} (h0 : 0 ≤ x1.toInt ∧ x1.toInt < (σ 152 3).toInt ∧ (σ 152 3).toInt ≤ 10) (h : B_X0_spotOf_0 N σ τ x1 = some (r, σ1, τ1)) : σ = σ1 ∧ r = σ 153 x1.toInt.toNat := by
  have nn := nat_of_toInt (i := x1) h0.1
  unfold B_X0_spotOf_0 at h
  obtain ⟨r1, s1, t1, q1, h⟩ := bd_some h
  obtain ⟨w1, k1⟩ := x_has0 h0 q1
  rw [← w1, if_neg (show ¬ r1 = 0 by rw [k1]; decide)] at h
  obtain ⟨j, ej, -, h⟩ := ck_some h
  rw [show j = x1.toInt.toNat by omega] at h
  obtain ⟨a, b, -⟩ := sm_inj h
  exact ⟨b, a.symm⟩
theorem x_min0 {x1 : Int32} (h0 : 0 ≤ x1.toInt ∧ x1.toInt < (σ 152 3).toInt ∧ (σ 152 3).toInt ≤ 10) (h : B_X0_minuteOf_0 N σ τ x1 = some (r, σ1, τ1)) : σ = σ1 ∧ r = σ 154 x1.toInt.toNat := by
  have nn := nat_of_toInt (i := x1) h0.1
  unfold B_X0_minuteOf_0 at h
  obtain ⟨r1, s1, t1, q1, h⟩ := bd_some h
  obtain ⟨w1, k1⟩ := x_has0 h0 q1
  rw [← w1, if_neg (show ¬ r1 = 0 by rw [k1]; decide)] at h
  obtain ⟨j, ej, -, h⟩ := ck_some h
  rw [show j = x1.toInt.toNat by omega] at h
  obtain ⟨a, b, -⟩ := sm_inj h
  exact ⟨b, a.symm⟩
theorem mm_fresh {s : gI} {f : Nat} {Ls : List Nat} {E : Int32 → Int32} (hmem : ∀ e, e ∈ Ls ↔ e &&& f = e) (h : ∀ e, e ∈ Ls → s 161 e = -2) : MM s f E := fun a _ h2 => Or.inl (h a ((hmem a).mpr h2))
theorem x_ff9 {cd : Nat → Int32} {L : Int} {f : Nat} {Ls : List Nat} (hF : BF σ cd L) (hW : TWN σ f Ls) (hK : CKc σ) : ∀ (n : Nat) (s : gI) (t : gJ) (x1 : Int32) (u : Unit) (σ1 : gI) (τ1 : gJ), H_X11_findFits_9 N n s t x1 = some (u, σ1, τ1) → XF σ s → (0 ≤ x1.toInt ∧ x1.toInt ≤ (σ 152 3).toInt) → (∀ a, a ∈ Ls → (¬ s 162 a = 0 ↔ ∀ i : Nat, (i : Int) < x1.toInt → FT σ cd L i a)) → XF σ σ1 ∧ ∀ a, a ∈ Ls → (¬ σ1 162 a = 0 ↔ ∀ i : Nat, (i : Int) < (σ 152 3).toInt → FT σ cd L i a) := by
  have l1 : (1 : Int32).toInt = 1 := rfl
  have l0 : (0 : Int32).toInt = 0 := rfl
  obtain ⟨hW1, hW2, ⟨q, hW3⟩, hW4, hW5, hW6, hW7⟩ := id hW
  intro n
  induction n with
  | zero => intro s t x1 u σ1 τ1 h; cases h
  | succ n ih =>
    intro s t x1 u σ1 τ1 h hX hx hs
    have h : C_X11_findFits_9 N (H_X11_findFits_9 N n) s t x1 = some (u, σ1, τ1) := h
    unfold C_X11_findFits_9 at h
    have e3 : s 152 3 = σ 152 3 := hX 152 3 (by omega)
    rw [e3] at h
    by_cases c : σ 152 3 ≤ x1
    · rw [if_pos c] at h
      rw [fa_le] at c
      obtain ⟨-, w, -⟩ := sm_inj h
      rw [← w]
      refine ⟨hX, fun a ha => ?_⟩
      rw [hs a ha, show x1.toInt = (σ 152 3).toInt by omega]
    · rw [if_neg c] at h
      rw [fa_le] at c
      have h0 : 0 ≤ x1.toInt ∧ x1.toInt < (s 152 3).toInt ∧ (s 152 3).toInt ≤ 10 := by rw [e3]; have := hK.1; omega
      obtain ⟨r2, s2, t2, q2, h⟩ := bd_some h
      obtain ⟨w2, k2⟩ := x_end0 h0 q2
      rw [← w2] at h
      obtain ⟨r3, s3, t3, q3, h⟩ := bd_some h
      obtain ⟨w3, k3⟩ := x_spot0 h0 q3
      rw [← w3] at h
      obtain ⟨r4, s4, t4, q4, h⟩ := bd_some h
      obtain ⟨w4, k4⟩ := x_min0 h0 q4
      rw [← w4] at h
      rw [hX 155 _ (by omega)] at k2
      rw [hX 153 _ (by omega)] at k3
      rw [hX 154 _ (by omega)] at k4
      have hv := hK.2 x1.toInt.toNat (by omega)
      rw [← k3, ← k4] at hv
      obtain ⟨u5, s5, t5, q5, h⟩ := bd_some h
      have F1 := bf_fr hF hX
      obtain ⟨S5, f5⟩ := x_think F1.2.2.2.2.1 (by rw [hX 3 6 (by omega)]; exact hv.1) q5
      rw [hX 4 _ (by omega)] at S5
      have X5 : XF σ s5 := fun c k hh => (f5 c k (by omega)).trans (hX c k hh)
      obtain ⟨u6, s6, t6, q6, h⟩ := bd_some h
      unfold B_X9_forgetSets_0 at q6
      obtain ⟨g1, g2, g3⟩ := x_forg4 hW1.2 Ls N s5 t5 0 0 u6 s6 t6 q6 (by rw [X5 3 7 (by omega)]; exact hW1.1) hW2 (by rw [hW3]; exact hd_0 q) (fun e he => (twn_lt hW he).1) (by rw [X5 3 8 (by omega), hW4, l0]; omega)
      have X6 : XF σ s6 := fun c k hh => (g1 c k (by omega)).trans (X5 c k hh)
      have S6 := sd_fr S5 (fun c k hh => g1 c k (by omega))
      obtain ⟨s9, t9, v9, y1, y2, y3, y4⟩ := x_ff68 hF hv.1 hv.2 hW1.2 hW1.1 Ls N s6 t6 0 0 u σ1 τ1 h X6 S6 (mm_fresh hW5 g3) hW2 (by rw [hW3]; exact hd_0 q) (fun e he => twn_lt hW he) (by rw [hW4, l0]; omega)
      have u9 : v9.toInt = x1.toInt + 1 := by
        have := i32_rng (σ 152 3)
        rw [y2, ti_add (by omega) (by omega), l1]
      refine ih s9 t9 v9 u σ1 τ1 y1 y3 (by omega) (fun a ha => ?_)
      have e62 : s6 162 a = s 162 a := (g1 162 a (by omega)).trans (f5 162 a (by omega))
      have hi : FT σ cd L x1.toInt.toNat a ↔ Eo σ cd L r3 r4 (Int32.ofNat a) = r2 := by
        unfold FT
        rw [k2, k3, k4]
      constructor
      · intro hn i hi9
        by_cases d : Eo σ cd L r3 r4 (Int32.ofNat a) = r2
        · rw [(y4 a).2 (fun z => z.2 d), e62] at hn
          by_cases d2 : (i : Int) < x1.toInt
          · exact (hs a ha).mp hn i d2
          · rw [show i = x1.toInt.toNat by omega]
            exact hi.mpr d
        · exact absurd ((y4 a).1 ha d) hn
      · intro hh
        have d := hi.mp (hh x1.toInt.toNat (by omega))
        rw [(y4 a).2 (fun z => z.2 d), e62]
        exact (hs a ha).mpr (fun i hi9 => hh i (by omega))
def gB (σ : gI) (cd : Nat → Int32) (L : Int) (a : Nat) : Bool := (List.range (σ 152 3).toInt.toNat).all (fun i => decide (Eo σ cd L (σ 153 i) (σ 154 i) (Int32.ofNat a) = σ 155 i))
theorem gB_iff {cd : Nat → Int32} {L : Int} {a : Nat} : gB σ cd L a = true ↔ ∀ i : Nat, (i : Int) < (σ 152 3).toInt → FT σ cd L i a := by
  unfold gB
  rw [List.all_eq_true]
  constructor
  · intro h i hi
    show Eo σ cd L (σ 153 i) (σ 154 i) (Int32.ofNat a) = σ 155 i
    exact of_decide_eq_true (h i (List.mem_range.mpr (by omega)))
  · intro h i hi
    have := List.mem_range.mp hi
    exact decide_eq_true (h i (by omega))
theorem x_findFits {cd : Nat → Int32} {L : Int} {f : Nat} {Ls : List Nat} {u : Unit} (hF : BF σ cd L) (hW : TWN σ f Ls) (hK : CKc σ) (h : B_X11_findFits_0 N σ τ = some (u, σ1, τ1)) : XF σ σ1 ∧ ∀ a, a ∈ Ls → (!decide (σ1 162 a = 0)) = gB σ cd L a := by
  have l0 : (0 : Int32).toInt = 0 := rfl
  obtain ⟨hW1, hW2, ⟨q, hW3⟩, hW4, hW5, hW6, hW7⟩ := id hW
  unfold B_X11_findFits_0 at h
  obtain ⟨u1, s1, t1, q1, h⟩ := bd_some h
  unfold B_X9_fitAll_0 at q1
  obtain ⟨g1, -, g3⟩ := x_fitAll4 hW1.2 Ls N σ τ 0 0 u1 s1 t1 q1 hW1.1 hW2 (by rw [hW3]; exact hd_0 q) (fun e he => (twn_lt hW he).1) (by rw [hW4, l0]; omega)
  obtain ⟨z1, z2⟩ := x_ff9 hF hW hK N s1 t1 0 u σ1 τ1 h (fun c k hh => g1 c k (by omega)) (by rw [l0]; have := hK.1; omega) (fun a ha => by
    rw [g3 a ha]
    exact ⟨fun _ i hi => by rw [l0] at hi; omega, fun _ => by decide⟩)
  refine ⟨z1, fun a ha => ?_⟩
  have z := (z2 a ha).trans gB_iff.symm
  by_cases c : σ1 162 a = 0
  · rw [decide_eq_true c]
    cases hg : gB σ cd L a with
    | false => rfl
    | true => exact absurd c (z.mpr hg)
  · rw [decide_eq_false c, z.mp c]
    rfl
theorem x_maps31 {f : Nat} (hf : f < 4096) : ∀ (R : List Nat) (n : Nat) (s : gI) (t : gJ) (x1 x2 x3 x4 x5 x6 r : Int32) (σ1 : gI) (τ1 : gJ), H_X11_maps_31 N n s t x1 x2 x3 x4 x5 x6 = some (r, σ1, τ1) → s 3 7 = Int32.ofNat f → Ch f 0 R → HDx x5 R → (∀ e, e ∈ R → e < 4096) → (x6.toInt + R.length = (s 3 8).toInt ∧ 0 ≤ x6.toInt) → (0 ≤ x1.toInt ∧ x1.toInt + R.length ≤ 4096) → r.toInt = x1.toInt + cf (fun a => !decide (s 162 a = 0)) R := by
  have l1 : (1 : Int32).toInt = 1 := rfl
  intro R
  induction R with
  | nil =>
    intro n s t x1 x2 x3 x4 x5 x6 r σ1 τ1 h _ _ _ _ hx _
    cases n with
    | zero => cases h
    | succ n =>
      have h : C_X11_maps_31 N (H_X11_maps_31 N n) s t x1 x2 x3 x4 x5 x6 = some (r, σ1, τ1) := h
      unfold C_X11_maps_31 at h
      have hl : ([] : List Nat).length = 0 := rfl
      rw [hl] at hx
      rw [if_pos (by rw [fa_le]; omega)] at h
      obtain ⟨u2, s2, t2, -, h⟩ := bd_some h
      obtain ⟨w, -, -⟩ := sm_inj h
      rw [← w]
      show x1.toInt = x1.toInt + ((0 : Nat) : Int)
      omega
  | cons e R ih =>
    intro n s t x1 x2 x3 x4 x5 x6 r σ1 τ1 h h37 hC hD hb hx h1
    cases n with
    | zero => cases h
    | succ n =>
      have h : C_X11_maps_31 N (H_X11_maps_31 N n) s t x1 x2 x3 x4 x5 x6 = some (r, σ1, τ1) := h
      unfold C_X11_maps_31 at h
      have hl : (e :: R).length = R.length + 1 := rfl
      rw [hl] at hx h1
      have r8 := i32_rng (s 3 8)
      rw [if_neg (fun z => by rw [fa_le] at z; omega)] at h
      have he := hb e (List.mem_cons_self ..)
      have hD : x5 = Int32.ofNat e := hD
      rw [hD] at h
      obtain ⟨r3, s3, t3, q3, h⟩ := bd_some h
      obtain ⟨w3, k3⟩ := x_fits he q3
      rw [← w3] at h
      have hb2 : ∀ e9, e9 ∈ R → e9 < 4096 := fun e9 h9 => hb e9 (List.mem_cons_of_mem _ h9)
      show r.toInt = x1.toInt + (((if (!decide (s 162 e = 0)) = true then 1 else 0) + cf (fun a => !decide (s 162 a = 0)) R : Nat) : Int)
      by_cases c : s 162 e = 0
      · rw [if_pos c] at k3
        rw [if_pos k3] at h
        obtain ⟨r5, s5, t5, q5, h⟩ := bd_some h
        obtain ⟨w5, k5⟩ := x_nextSet h37 q5
        rw [← w5] at h
        obtain ⟨v6, e6, h⟩ := nm_some h
        have u6 : v6.toInt = x6.toInt + 1 := by rw [e6, ti_add (by omega) (by omega), l1]
        have z := ih n s t5 x1 x2 x3 x4 r5 v6 r σ1 τ1 h h37 (ch_tl hC) (by rw [k5]; exact hd_next hf he hC) hb2 (by omega) (by omega)
        rw [decide_eq_true c, if_neg (by decide)]
        omega
      · rw [if_neg c] at k3
        rw [if_neg (show ¬ r3 = 0 by rw [k3]; decide)] at h
        obtain ⟨v7, e7, h⟩ := nm_some h
        have u7 : v7.toInt = x1.toInt + 1 := by rw [e7, ti_add (by omega) (by omega), l1]
        have fin : ∀ y0 : Int32, B_X11_maps_69 N (H_X11_maps_31 N n) s t3 v7 x3 x4 (Int32.ofNat e) x6 y0 = some (r, σ1, τ1) → r.toInt = v7.toInt + cf (fun a => !decide (s 162 a = 0)) R := by
          intro y0 h
          unfold B_X11_maps_69 at h
          obtain ⟨v1, e1, h⟩ := nm_some h
          obtain ⟨v2, e2, h⟩ := nm_some h
          obtain ⟨r5, s5, t5, q5, h⟩ := bd_some h
          obtain ⟨w5, k5⟩ := x_nextSet h37 q5
          rw [← w5] at h
          obtain ⟨v6, e6, h⟩ := nm_some h
          have u6 : v6.toInt = x6.toInt + 1 := by rw [e6, ti_add (by omega) (by omega), l1]
          exact ih n s t5 v7 y0 v1 v2 r5 v6 r σ1 τ1 h h37 (ch_tl hC) (by rw [k5]; exact hd_next hf he hC) hb2 (by omega) (by omega)
        rw [decide_eq_false c, if_pos (by decide)]
        by_cases d : x2 = -1
        · rw [if_pos d] at h
          have := fin _ h
          omega
        · rw [if_neg d] at h
          have := fin _ h
          omega
theorem x_maps11 {cd : Nat → Int32} {L : Int} {f : Nat} {Ls : List Nat} (hF : BF σ cd L) (hW : TWN σ f Ls) (hK : CKc σ) (h : B_X11_maps_0 N σ τ = some (r, σ1, τ1)) : r.toInt = cf (gB σ cd L) Ls := by
  have l0 : (0 : Int32).toInt = 0 := rfl
  obtain ⟨hW1, hW2, ⟨q, hW3⟩, hW4, hW5, hW6, hW7⟩ := id hW
  unfold B_X11_maps_0 at h
  obtain ⟨u1, s1, t1, q1, h⟩ := bd_some h
  obtain ⟨X1, z2⟩ := x_findFits hF hW hK q1
  obtain ⟨v2, e2, h⟩ := nm_some h
  obtain ⟨v3, e3, h⟩ := nm_some h
  have w := x_maps31 hW1.2 Ls N s1 t1 0 (-1) v2 v3 0 0 r σ1 τ1 h (by rw [X1 3 7 (by omega)]; exact hW1.1) hW2 (by rw [hW3]; exact hd_0 q) (fun e he => (twn_lt hW he).1) (by rw [X1 3 8 (by omega), hW4, l0]; omega) (by rw [l0]; omega)
  rw [cf_cg Ls z2, l0] at w
  omega
end SIM34K
