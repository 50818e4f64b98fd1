/-! THE CLASS'S SETS: spread, outcome -/
section SIM34J
variable {N : Nat} {σ σ1 : gI} {τ τ1 : gJ} {r : Int32}
theorem x_rem {a : Nat} {x2 : Int32} {u : Unit} (ha : a < 4096) (h : B_X9_remember_0 N σ τ (Int32.ofNat a) x2 = some (u, σ1, τ1)) : σ1 = up2 σ 161 a x2 ∧ τ1 = τ := by
  have l0 : (0 : Int32).toInt = 0 := rfl
  have l4 : (4096 : Int32).toInt = 4096 := rfl
  obtain ⟨e1, e2⟩ := ofn_cl ha
  unfold B_X9_remember_0 at h
  rw [if_neg (fun z => by rw [fa_lt] at z; omega), if_neg (fun z => by rw [fa_le] at z; omega)] at h
  obtain ⟨j, ej, -, h⟩ := ck_some h
  obtain ⟨s4, e4, h⟩ := nm_some h
  obtain ⟨-, w, w2⟩ := sm_inj h
  exact ⟨by rw [← w, e4, ← ej, e1], w2.symm⟩
/-- where a set with its free forks set anew lies -/
def idx (x1 x3 : Int32) (e : Nat) : Int32 := (x1 &&& (x3 ^^^ (-1))) ||| Int32.ofNat e
theorem idx_bt {a F e i : Nat} (hi : i < 32) : bt (idx (Int32.ofNat a) (Int32.ofNat F) e) i = ((a.testBit i && !F.testBit i) || e.testBit i) := by
  unfold idx
  rw [b_or, b_and, b_xor, b_m1 i hi, bt_ofn hi, bt_ofn hi, bt_ofn hi]
  cases F.testBit i <;> rfl
theorem tb_big {a i : Nat} (ha : a < 4096) (hi : 12 ≤ i) : a.testBit i = false := by
  refine Nat.testBit_lt_two_pow ?_
  have : 2 ^ 12 ≤ 2 ^ i := Nat.pow_le_pow_right (by omega) hi
  omega
theorem idx_n {a F e : Nat} (ha : a < 4096) (he : e < 4096) : ∃ k : Nat, k < 4096 ∧ idx (Int32.ofNat a) (Int32.ofNat F) e = Int32.ofNat k ∧ ∀ i : Nat, i < 32 → k.testBit i = ((a.testBit i && !F.testBit i) || e.testBit i) := by
  obtain ⟨k, k1, k2, -, k4⟩ := lo12 (v := idx (Int32.ofNat a) (Int32.ofNat F) e) (fun i h1 h2 => by
    rw [idx_bt h2, tb_big ha h1, tb_big he h1]; rfl)
  exact ⟨k, k1, k2, fun i hi => by rw [k4 i hi, idx_bt hi]⟩
theorem x_spr {x2 x4 : Int32} {a F : Nat} (ha : a < 4096) (hF : F < 4096) : ∀ (R : List Nat) (n : Nat) (s : gI) (t : gJ) (x5 x6 : Int32) (u : Unit) (σ1 : gI) (τ1 : gJ), H_X9_spread_32 N n s t (Int32.ofNat a) x2 (Int32.ofNat F) x4 x5 x6 = some (u, σ1, τ1) → Ch F 0 R → HDx x5 R → (∀ e, e ∈ R → e < 4096) → (x6.toInt + R.length = x4.toInt ∧ 0 ≤ x6.toInt) → (∀ c k : Nat, ¬ (c = 161) → σ1 c k = s c k) ∧ (∀ k : Nat, σ1 161 k = s 161 k ∨ (σ1 161 k = x2 ∧ k < 4096 ∧ ∃ e, e ∈ R ∧ idx (Int32.ofNat a) (Int32.ofNat F) e = Int32.ofNat k)) ∧ ∀ (k e : Nat), k < 4096 → e ∈ R → idx (Int32.ofNat a) (Int32.ofNat F) e = Int32.ofNat k → σ1 161 k = x2 := by
  have l1 : (1 : Int32).toInt = 1 := rfl
  intro R
  induction R with
  | nil =>
    intro n s t x5 x6 u σ1 τ1 h _ _ _ hx
    cases n with
    | zero => cases h
    | succ n =>
      have h : C_X9_spread_32 N (H_X9_spread_32 N n) s t (Int32.ofNat a) x2 (Int32.ofNat F) x4 x5 x6 = some (u, σ1, τ1) := h
      unfold C_X9_spread_32 at h
      have hl : ([] : List Nat).length = 0 := rfl
      rw [hl] at hx
      rw [if_pos (by rw [fa_le]; omega)] at h
      obtain ⟨-, w, -⟩ := sm_inj h
      rw [← w]
      exact ⟨fun _ _ _ => rfl, fun _ => Or.inl rfl, fun k e _ he => by cases he⟩
  | cons e R ih =>
    intro n s t x5 x6 u σ1 τ1 h hC hD hb hx
    cases n with
    | zero => cases h
    | succ n =>
      have h : C_X9_spread_32 N (H_X9_spread_32 N n) s t (Int32.ofNat a) x2 (Int32.ofNat F) x4 x5 x6 = some (u, σ1, τ1) := h
      unfold C_X9_spread_32 at h
      have hl : (e :: R).length = R.length + 1 := rfl
      rw [hl] at hx
      rw [if_neg (fun z => by rw [fa_le] at z; omega)] at h
      have he := hb e (List.mem_cons_self ..)
      have hD : x5 = Int32.ofNat e := hD
      rw [hD] at h
      obtain ⟨u2, s2, t2, q2, h⟩ := bd_some h
      obtain ⟨v3, e3, h⟩ := nm_some h
      obtain ⟨v4, e4, h⟩ := nm_some h
      have r4 := i32_rng x4
      have u4 : v4.toInt = x6.toInt + 1 := by rw [e4, ti_add (by omega) (by omega), l1]
      obtain ⟨k0, k1, k2, -⟩ := idx_n (F := F) ha he
      have k2' : (Int32.ofNat a &&& (Int32.ofNat F ^^^ (-1))) ||| Int32.ofNat e = Int32.ofNat k0 := k2
      rw [k2'] at q2
      obtain ⟨w2, -⟩ := x_rem k1 q2
      obtain ⟨z1, z2, z3⟩ := ih n s2 t2 v3 v4 u σ1 τ1 h (ch_tl hC) (by rw [e3]; exact hd_next hF he hC) (fun e9 h9 => hb e9 (List.mem_cons_of_mem _ h9)) (by omega)
      have g2 : ∀ k : Nat, k ≠ k0 → s2 161 k = s 161 k := fun k hk => by rw [w2]; exact up2_ne (by omega)
      refine ⟨fun c k hc => by rw [z1 c k hc, w2]; exact up2_ne (by omega), fun k => ?_, fun k e9 hk h9 hi => ?_⟩
      · by_cases c : k = k0
        · right
          refine ⟨?_, by omega, ?_⟩
          · rcases z2 k with y | y
            · rw [y, c, w2, up_eq]
            · exact y.1
          · exact ⟨e, List.mem_cons_self .., by rw [c]; exact k2⟩
        · rcases z2 k with y | ⟨y1, y2, e9, y3, y4⟩
          · left; rw [y]; exact g2 k c
          · exact Or.inr ⟨y1, y2, e9, List.mem_cons_of_mem _ y3, y4⟩
      · rcases List.mem_cons.mp h9 with h9 | h9
        · rw [h9, k2] at hi
          have : k0 = k := by
            have z := congrArg Int32.toInt hi
            rw [(ofn_cl k1).2, (ofn_cl hk).2] at z
            omega
          rcases z2 k with y | y
          · rw [y, ← this, w2, up_eq]
          · exact y.1
        · exact z3 k e9 hk h9 hi
theorem x_spread {x2 : Int32} {a f : Nat} {u : Unit} (ha : a < 4096) (hf : f < 4096) (haf : a &&& f = a) (h37 : σ 3 7 = Int32.ofNat f) (h : B_X9_spread_0 N σ τ (Int32.ofNat a) x2 = some (u, σ1, τ1)) : (∀ c k : Nat, ¬ (c = 161) → σ1 c k = σ c k) ∧ (∀ k : Nat, σ1 161 k = σ 161 k ∨ (σ1 161 k = x2 ∧ k < 4096 ∧ k &&& f = k ∧ ∀ i : Nat, i < 32 → bt (σ 158 4) i = true → bt (Int32.ofNat a) i = bt (Int32.ofNat k) i)) ∧ σ1 161 a = x2 := by
  have l0 : (0 : Int32).toInt = 0 := rfl
  unfold B_X9_spread_0 at h
  obtain ⟨v1, e1, h⟩ := nm_some h
  rw [h37] at e1
  obtain ⟨F, hF, k2, -, k4⟩ := lo12 (v := v1) (fun i h1 h2 => by
    rw [e1, b_and, bt_ofn h2, tb_big hf h1]; rfl)
  have k5 : ∀ i : Nat, i < 32 → F.testBit i = (f.testBit i && !bt (σ 158 4) i) := fun i hi => by
    rw [k4 i hi, e1, b_and, b_xor, b_m1 i hi, bt_ofn hi]
    cases bt (σ 158 4) i <;> rfl
  rw [k2] at h
  obtain ⟨r2, s2, t2, q2, h⟩ := bd_some h
  rw [bc_val] at q2
  obtain ⟨w1, w2, -⟩ := sm_inj q2
  obtain ⟨v3, e3, h⟩ := nm_some h
  rw [← w1] at e3
  rw [← w2] at h
  have ec := el_ch (fun k => F.testBit k) 12 (by omega)
  rw [eb_self hF] at ec
  obtain ⟨ec1, ⟨rr, ec2⟩, ec3, -⟩ := ec
  have hd : HDx 0 (el (fun k => F.testBit k) 12) := by
    rw [ec2]; exact hd_0 rr
  obtain ⟨z1, z2, z3⟩ := x_spr ha hF (el (fun k => F.testBit k) 12) N σ t2 0 0 u σ1 τ1 h ec1 hd (fun e he => by have := ec3 e he; omega) (by
    rw [e3, bc_pw hF, pw_len, l0]; omega)
  have mem : ∀ e : Nat, e ∈ el (fun k => F.testBit k) 12 ↔ e &&& F = e := fun e => by
    rw [el_mem, eb_self hF]
  have tbn : ∀ {x y : Nat}, x < 4096 → y < 4096 → (∀ i : Nat, i < 32 → x.testBit i = y.testBit i) → x = y := fun hx hy hh => Nat.eq_of_testBit_eq (fun i => by
    by_cases c : i < 32
    · exact hh i c
    · rw [tb_big hx (by omega), tb_big hy (by omega)])
  refine ⟨z1, fun k => ?_, ?_⟩
  · rcases z2 k with y | ⟨y1, y2, e, y3, y4⟩
    · exact Or.inl y
    · right
      have he := (mem e).mp y3
      have hel : e < 4096 := by have := ec3 e y3; omega
      obtain ⟨k0, k1, k6, k7⟩ := idx_n (F := F) ha hel
      have e0 : k0 = k := by
        rw [k6] at y4
        have z := congrArg Int32.toInt y4
        rw [(ofn_cl k1).2, (ofn_cl y2).2] at z
        omega
      rw [e0] at k7
      have hei : ∀ i : Nat, e.testBit i = (e.testBit i && F.testBit i) := fun i => by
        conv => lhs; rw [← he]
        rw [Nat.testBit_and]
      have hai : ∀ i : Nat, a.testBit i = (a.testBit i && f.testBit i) := fun i => by
        conv => lhs; rw [← haf]
        rw [Nat.testBit_and]
      refine ⟨y1, y2, tbn (Nat.lt_of_le_of_lt Nat.and_le_right hf) y2 (fun i hi => ?_), fun i hi hx => ?_⟩
      · rw [Nat.testBit_and, k7 i hi, hei i, hai i, k5 i hi]
        cases a.testBit i <;> cases f.testBit i <;> cases e.testBit i <;> cases bt (σ 158 4) i <;> rfl
      · rw [bt_ofn hi, bt_ofn hi, k7 i hi, hei i, k5 i hi, hx]
        cases a.testBit i <;> cases f.testBit i <;> cases e.testBit i <;> rfl
  · have hm : (a &&& F) ∈ el (fun k => F.testBit k) 12 := by
      rw [mem, Nat.and_assoc, Nat.and_self]
    refine z3 a (a &&& F) ha hm ?_
    obtain ⟨k0, k1, k6, k7⟩ := idx_n (F := F) (e := a &&& F) ha (Nat.lt_of_le_of_lt Nat.and_le_right hF)
    rw [k6]
    refine congrArg Int32.ofNat (tbn k1 ha (fun i hi => ?_))
    rw [k7 i hi, Nat.testBit_and]
    cases a.testBit i <;> cases F.testBit i <;> rfl
/-- what is remembered is right -/
def MM (σ : gI) (f : Nat) (E : Int32 → Int32) : Prop := ∀ a : Nat, a < 4096 → a &&& f = a → σ 161 a = -2 ∨ (-1 ≤ (σ 161 a).toInt ∧ ko (σ 161 a) = E (Int32.ofNat a))
theorem x_outcome {p m : Int32} {cd : Nat → Int32} {L : Int} {a f : Nat} (hF : BF σ cd L) (hS : SD σ p m (if σ 4 (ix p) = 6 then 1 else 0)) (hp : 0 ≤ p.toInt ∧ p.toInt < (σ 3 6).toInt) (hm : 0 ≤ m.toInt ∧ m.toInt ≤ 999) (ha : a < 4096) (hf : f < 4096) (haf : a &&& f = a) (h37 : σ 3 7 = Int32.ofNat f) (hM : MM σ f (Eo σ cd L p m)) (h : B_X9_outcome_0 N σ τ (Int32.ofNat a) = some (r, σ1, τ1)) : (∀ c k : Nat, ¬ (c = 19 ∨ c = 159 ∨ c = 161 ∨ (c = 158 ∧ (k = 4 ∨ k = 5 ∨ k = 6)) ∨ (171 ≤ c ∧ c ≤ 177)) → σ1 c k = σ c k) ∧ -1 ≤ r.toInt ∧ ko r = Eo σ cd L p m (Int32.ofNat a) ∧ MM σ1 f (Eo σ cd L p m) := by
  have l0 : (0 : Int32).toInt = 0 := rfl
  have l4 : (4096 : Int32).toInt = 4096 := rfl
  obtain ⟨e1, e2⟩ := ofn_cl ha
  unfold B_X9_outcome_0 at h
  rw [if_neg (fun z => by rw [fa_lt] at z; omega), if_pos (by rw [fa_lt]; omega)] at h
  obtain ⟨j, ej, -, h⟩ := ck_some h
  have hj : j = a := by omega
  rw [hj] at h
  by_cases c : σ 161 a = -2
  · rw [if_pos c] at h
    obtain ⟨r5, s5, t5, q5, h⟩ := bd_some h
    obtain ⟨y1, y2, y3, y4⟩ := x_go hF hS hp hm q5
    obtain ⟨u6, s6, t6, q6, h⟩ := bd_some h
    obtain ⟨z1, z2, z3⟩ := x_spread ha hf haf (by rw [y1 3 7 (by omega)]; exact h37) q6
    obtain ⟨w1, w2, -⟩ := sm_inj h
    rw [z3] at w1
    rw [← w1, ← w2]
    refine ⟨fun c k hh => (z1 c k (by omega)).trans (y1 c k (by omega)), y2, y3, fun a9 h9 h8 => ?_⟩
    rcases z2 a9 with x | ⟨x1, x2, x3, x4⟩
    · rw [x, y1 161 a9 (by omega)]; exact hM a9 h9 h8
    · right
      rw [x1]
      refine ⟨y2, ?_⟩
      rw [y3]
      exact (eo_two hF.2.2.2.2.2.2.2 y4 x4).symm
  · rw [if_neg c] at h
    obtain ⟨w1, w2, -⟩ := sm_inj h
    rcases hM a ha haf with x | x
    · exact absurd x c
    · rw [← w1, ← w2]
      exact ⟨fun _ _ _ => rfl, x.1, x.2, hM⟩
/-! the loops over all sets -/
theorem x_nextSet {x1 : Int32} {f : Nat} (h37 : σ 3 7 = Int32.ofNat f) (h : B_X8_nextSet_0 N σ τ x1 = some (r, σ1, τ1)) : σ = σ1 ∧ r = (x1 - Int32.ofNat f) &&& Int32.ofNat f := by
  unfold B_X8_nextSet_0 at h
  obtain ⟨a, b, -⟩ := sm_inj h
  exact ⟨b, by rw [← a, h37]⟩
theorem x_forg4 {f : Nat} (hf : f < 4096) : ∀ (R : List Nat) (n : Nat) (s : gI) (t : gJ) (x1 x2 : Int32) (u : Unit) (σ1 : gI) (τ1 : gJ), H_X9_forgetSets_4 N n s t x1 x2 = some (u, σ1, τ1) → s 3 7 = Int32.ofNat f → Ch f 0 R → HDx x1 R → (∀ e, e ∈ R → e < 4096) → (x2.toInt + R.length = (s 3 8).toInt ∧ 0 ≤ x2.toInt) → (∀ c k : Nat, ¬ (c = 161) → σ1 c k = s c k) ∧ (∀ k : Nat, σ1 161 k = s 161 k ∨ σ1 161 k = -2) ∧ ∀ e, e ∈ R → σ1 161 e = -2 := by
  have l1 : (1 : Int32).toInt = 1 := rfl
  intro R
  induction R with
  | nil =>
    intro n s t x1 x2 u σ1 τ1 h _ _ _ _ hx
    cases n with
    | zero => cases h
    | succ n =>
      have h : C_X9_forgetSets_4 N (H_X9_forgetSets_4 N n) s t x1 x2 = some (u, σ1, τ1) := h
      unfold C_X9_forgetSets_4 at h
      have hl : ([] : List Nat).length = 0 := rfl
      rw [hl] at hx
      rw [if_pos (by rw [fa_le]; omega)] at h
      obtain ⟨-, w, -⟩ := sm_inj h
      rw [← w]
      exact ⟨fun _ _ _ => rfl, fun _ => Or.inl rfl, fun e he => by cases he⟩
  | cons e R ih =>
    intro n s t x1 x2 u σ1 τ1 h h37 hC hD hb hx
    cases n with
    | zero => cases h
    | succ n =>
      have h : C_X9_forgetSets_4 N (H_X9_forgetSets_4 N n) s t x1 x2 = some (u, σ1, τ1) := h
      unfold C_X9_forgetSets_4 at h
      have hl : (e :: R).length = R.length + 1 := rfl
      rw [hl] at hx
      rw [if_neg (fun z => by rw [fa_le] at z; omega)] at h
      have he := hb e (List.mem_cons_self ..)
      have hD : x1 = Int32.ofNat e := hD
      rw [hD] at h
      obtain ⟨u2, s2, t2, q2, h⟩ := bd_some h
      obtain ⟨w2, -⟩ := x_rem he q2
      have f2 : ∀ c k : Nat, ¬ (c = 161) → s2 c k = s c k := fun c k hc => by rw [w2]; exact up2_ne (by omega)
      obtain ⟨r3, s3, t3, q3, h⟩ := bd_some h
      obtain ⟨w3, k3⟩ := x_nextSet (by rw [f2 3 7 (by omega)]; exact h37) q3
      rw [← w3] at h
      obtain ⟨v4, e4, h⟩ := nm_some h
      have r4 := i32_rng (s 3 8)
      have u4 : v4.toInt = x2.toInt + 1 := by rw [e4, ti_add (by omega) (by omega), l1]
      obtain ⟨z1, z2, z3⟩ := ih n s2 t3 r3 v4 u σ1 τ1 h (by rw [f2 3 7 (by omega)]; exact h37) (ch_tl hC) (by rw [k3]; exact hd_next hf he hC) (fun e9 h9 => hb e9 (List.mem_cons_of_mem _ h9)) (by rw [f2 3 8 (by omega)]; omega)
      refine ⟨fun c k hc => (z1 c k hc).trans (f2 c k hc), fun k => ?_, fun e9 h9 => ?_⟩
      · by_cases c : k = e
        · right
          rcases z2 k with y | y
          · rw [y, c, w2, up_eq]
          · exact y
        · rcases z2 k with y | y
          · left; rw [y, w2]; exact up2_ne (by omega)
          · exact Or.inr y
      · rcases List.mem_cons.mp h9 with h9 | h9
        · rcases z2 e9 with y | y
          · rw [y, h9, w2, up_eq]
          · exact y
        · exact z3 e9 h9
theorem x_fitAll4 {f : Nat} (hf : f < 4096) : ∀ (R : List Nat) (n : Nat) (s : gI) (t : gJ) (x1 x2 : Int32) (u : Unit) (σ1 : gI) (τ1 : gJ), H_X9_fitAll_4 N n s t x1 x2 = some (u, σ1, τ1) → s 3 7 = Int32.ofNat f → Ch f 0 R → HDx x1 R → (∀ e, e ∈ R → e < 4096) → (x2.toInt + R.length = (s 3 8).toInt ∧ 0 ≤ x2.toInt) → (∀ c k : Nat, ¬ (c = 162) → σ1 c k = s c k) ∧ (∀ k : Nat, σ1 162 k = s 162 k ∨ σ1 162 k = 1) ∧ ∀ e, e ∈ R → σ1 162 e = 1 := by
  have l1 : (1 : Int32).toInt = 1 := rfl
  have l0 : (0 : Int32).toInt = 0 := rfl
  have l4 : (4096 : Int32).toInt = 4096 := rfl
  intro R
  induction R with
  | nil =>
    intro n s t x1 x2 u σ1 τ1 h _ _ _ _ hx
    cases n with
    | zero => cases h
    | succ n =>
      have h : C_X9_fitAll_4 N (H_X9_fitAll_4 N n) s t x1 x2 = some (u, σ1, τ1) := h
      unfold C_X9_fitAll_4 at h
      have hl : ([] : List Nat).length = 0 := rfl
      rw [hl] at hx
      rw [if_pos (by rw [fa_le]; omega)] at h
      obtain ⟨-, w, -⟩ := sm_inj h
      rw [← w]
      exact ⟨fun _ _ _ => rfl, fun _ => Or.inl rfl, fun e he => by cases he⟩
  | cons e R ih =>
    intro n s t x1 x2 u σ1 τ1 h h37 hC hD hb hx
    cases n with
    | zero => cases h
    | succ n =>
      have h : C_X9_fitAll_4 N (H_X9_fitAll_4 N n) s t x1 x2 = some (u, σ1, τ1) := h
      unfold C_X9_fitAll_4 at h
      have hl : (e :: R).length = R.length + 1 := rfl
      rw [hl] at hx
      rw [if_neg (fun z => by rw [fa_le] at z; omega)] at h
      have he := hb e (List.mem_cons_self ..)
      have hD : x1 = Int32.ofNat e := hD
      rw [hD] at h
      obtain ⟨u2, s2, t2, q2, h⟩ := bd_some h
      have w2 : s2 = up2 s 162 e 1 := by
        obtain ⟨i1, i2⟩ := ofn_cl he
        unfold B_X9_setFitting_0 at q2
        rw [if_neg (fun z => by rw [fa_lt] at z; omega), if_neg (fun z => by rw [fa_le] at z; omega)] at q2
        obtain ⟨j, ej, -, q2⟩ := ck_some q2
        obtain ⟨-, q2⟩ := cb_some q2
        obtain ⟨s4, e4, q2⟩ := nm_some q2
        obtain ⟨-, w, -⟩ := sm_inj q2
        rw [← w, e4, ← ej, i1]
      have f2 : ∀ c k : Nat, ¬ (c = 162) → s2 c k = s c k := fun c k hc => by rw [w2]; exact up2_ne (by omega)
      obtain ⟨r3, s3, t3, q3, h⟩ := bd_some h
      obtain ⟨w3, k3⟩ := x_nextSet (by rw [f2 3 7 (by omega)]; exact h37) q3
      rw [← w3] at h
      obtain ⟨v4, e4, h⟩ := nm_some h
      have r4 := i32_rng (s 3 8)
      have u4 : v4.toInt = x2.toInt + 1 := by rw [e4, ti_add (by omega) (by omega), l1]
      obtain ⟨z1, z2, z3⟩ := ih n s2 t3 r3 v4 u σ1 τ1 h (by rw [f2 3 7 (by omega)]; exact h37) (ch_tl hC) (by rw [k3]; exact hd_next hf he hC) (fun e9 h9 => hb e9 (List.mem_cons_of_mem _ h9)) (by rw [f2 3 8 (by omega)]; omega)
      refine ⟨fun c k hc => (z1 c k hc).trans (f2 c k hc), fun k => ?_, fun e9 h9 => ?_⟩
      · by_cases c : k = e
        · right
          rcases z2 k with y | y
          · rw [y, c, w2, up_eq]
          · exact y
        · rcases z2 k with y | y
          · left; rw [y, w2]; exact up2_ne (by omega)
          · exact Or.inr y
      · rcases List.mem_cons.mp h9 with h9 | h9
        · rcases z2 e9 with y | y
          · rw [y, h9, w2, up_eq]
          · exact y
        · exact z3 e9 h9
end SIM34J
