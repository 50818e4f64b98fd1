/-! THE CLASS'S TRIAL: begun, gone through -/
section SIM34H
variable {N : Nat} {σ σ1 : gI} {τ τ1 : gJ} {r : Int32}
def SD (σ : gI) (p m k9 : Int32) : Prop := σ 164 6 = 1 ∧ σ 164 8 = m ∧ σ 164 9 = k9 ∧ σ 164 10 = 0 ∧ σ 165 0 = p ∧ σ 166 0 = 99 ∧ σ 167 0 = 0 ∧ σ 169 0 = m ∧ σ 160 5 = 1 ∧ σ 160 6 = 0
theorem sd_fr {s : gI} {p m k9 : Int32} (h : SD σ p m k9) (f : ∀ c k : Nat, (164 ≤ c ∧ c ≤ 169) ∨ (c = 160 ∧ (k = 5 ∨ k = 6)) → s c k = σ c k) : SD s p m k9 := by
  obtain ⟨a1, a2, a3, a4, a5, a6, a7, a8, a9, a10⟩ := h
  exact ⟨(f 164 6 (by omega)).trans a1, (f 164 8 (by omega)).trans a2, (f 164 9 (by omega)).trans a3, (f 164 10 (by omega)).trans a4, (f 165 0 (by omega)).trans a5, (f 166 0 (by omega)).trans a6, (f 167 0 (by omega)).trans a7, (f 169 0 (by omega)).trans a8, (f 160 5 (by omega)).trans a9, (f 160 6 (by omega)).trans a10⟩
theorem x_homeG {c : Nat} {u : Unit} (h : B_X6_comeHome_0 N c σ τ 0 = some (u, σ1, τ1)) : σ1 c 9 = σ c 9 ||| 1 ∧ ∀ c9 k : Nat, ¬ ((c9 = c ∧ k = 9) ∨ c9 = c + 6) → σ1 c9 k = σ c9 k := by
  unfold B_X6_comeHome_0 at h
  rw [if_neg (by decide), if_neg (by decide)] at h
  obtain ⟨s3, e3, h⟩ := nm_some h
  rw [one_sh] at e3
  obtain ⟨j, ej, -, h⟩ := ck_some h
  obtain ⟨s5, e5, h⟩ := nm_some h
  obtain ⟨-, rfl, -⟩ := sm_inj h
  exact ⟨by rw [e5, up2_ne (by omega), e3, up_eq], fun c9 k hh => by rw [e5, up2_ne (by omega), e3, up2_ne (by omega)]⟩
theorem x_think {p m : Int32} {u : Unit} (hT : T4 σ) (hp : 0 ≤ p.toInt ∧ p.toInt < (σ 3 6).toInt) (h : B_X9_thinkOf_0 N σ τ p 99 0 0 m = some (u, σ1, τ1)) : SD σ1 p m (if σ 4 (ix p) = 6 then 1 else 0) ∧ ∀ c k : Nat, ¬ ((164 ≤ c ∧ c ≤ 170) ∨ (c = 160 ∧ (k = 5 ∨ k = 6))) → σ1 c k = σ c k := by
  unfold B_X9_thinkOf_0 at h
  obtain ⟨u1, s1, t1, q1, h⟩ := bd_some h
  unfold B_X6_clear_0 at q1
  obtain ⟨a1, b1, q1⟩ := nm_some q1
  obtain ⟨a2, b2, q1⟩ := nm_some q1
  obtain ⟨a3, b3, q1⟩ := nm_some q1
  obtain ⟨a4, b4, q1⟩ := nm_some q1
  obtain ⟨a5, b5, q1⟩ := nm_some q1
  obtain ⟨-, w1, -⟩ := sm_inj q1
  obtain ⟨s2, e2, h⟩ := nm_some h
  have f2 : ∀ c k : Nat, ¬ (c = 164) → s2 c k = σ c k := fun c k hh => by rw [e2, up2_ne (by omega), ← w1, b5, up2_ne (by omega), b4, up2_ne (by omega), b3, up2_ne (by omega), b2, up2_ne (by omega), b1, up2_ne (by omega)]
  have g6 : s2 164 6 = 0 := by rw [e2, up2_ne (by omega), ← w1, b5, up2_ne (by omega), b4, up2_ne (by omega), b3, up2_ne (by omega), b2, up2_ne (by omega), b1, up_eq]
  have g8 : s2 164 8 = m := by rw [e2, up_eq]
  have g9 : s2 164 9 = 0 := by rw [e2, up2_ne (by omega), ← w1, b5, up2_ne (by omega), b4, up_eq]
  have g10 : s2 164 10 = 0 := by rw [e2, up2_ne (by omega), ← w1, b5, up_eq]
  obtain ⟨r3, s3, t3, q3, h⟩ := bd_some h
  obtain ⟨e3, k3⟩ := x_isKitchen11 (t4_fr hT (fun c k hh => f2 c k (by omega))) q3
  rw [← e3] at h
  rw [f2 3 6 (by omega), f2 4 _ (by omega)] at k3
  obtain ⟨r4, s4, ta, q4, h⟩ := bd_some h
  obtain ⟨s5, e5, h⟩ := nm_some h
  obtain ⟨s6, e6, h⟩ := nm_some h
  obtain ⟨-, w6, -⟩ := sm_inj h
  unfold B_X6_add_0 at q4
  obtain ⟨v1, ev, q4⟩ := nm_some q4
  rw [g6] at ev
  rw [ev, if_neg (by decide), if_pos (by decide)] at q4
  obtain ⟨j, ej, -, q4⟩ := ck_some q4
  have hj : j = 0 := by rw [← ej]; rfl
  rw [hj] at q4
  obtain ⟨m1, n1, q4⟩ := nm_some q4
  obtain ⟨m2, n2, q4⟩ := nm_some q4
  obtain ⟨m3, n3, q4⟩ := nm_some q4
  obtain ⟨m4, n4, q4⟩ := nm_some q4
  obtain ⟨m5, n5, q4⟩ := nm_some q4
  obtain ⟨m6, n6, q4⟩ := nm_some q4
  obtain ⟨m7, n7, q4⟩ := nm_some q4
  have f6 : ∀ c k : Nat, ¬ (165 ≤ c ∧ c ≤ 170) → m6 c k = s2 c k := fun c k hh => by rw [n6, up2_ne (by omega), n5, up2_ne (by omega), n4, up2_ne (by omega), n3, up2_ne (by omega), n2, up2_ne (by omega), n1, up2_ne (by omega)]
  have f7 : ∀ c k : Nat, ¬ (165 ≤ c ∧ c ≤ 170) → ¬ (c = 164 ∧ k = 6) → m7 c k = s2 c k := fun c k hh h2 => by rw [n7, up2_ne (by omega)]; exact f6 c k hh
  have h6 : m7 164 6 = 1 := by rw [n7, up_eq, f6 164 6 (by omega), g6]; rfl
  have h165 : m7 165 0 = p := by rw [n7, up2_ne (by omega), n6, up2_ne (by omega), n5, up2_ne (by omega), n4, up2_ne (by omega), n3, up2_ne (by omega), n2, up2_ne (by omega), n1, up_eq]
  have h166 : m7 166 0 = 99 := by rw [n7, up2_ne (by omega), n6, up2_ne (by omega), n5, up2_ne (by omega), n4, up2_ne (by omega), n3, up2_ne (by omega), n2, up_eq]
  have h167 : m7 167 0 = 0 := by rw [n7, up2_ne (by omega), n6, up2_ne (by omega), n5, up2_ne (by omega), n4, up2_ne (by omega), n3, up_eq]
  have h169 : m7 169 0 = m := by
    have e8 : m4 164 8 = m := by rw [n4, up2_ne (by omega), n3, up2_ne (by omega), n2, up2_ne (by omega), n1, up2_ne (by omega)]; exact g8
    rw [n7, up2_ne (by omega), n6, up2_ne (by omega), n5, up_eq, e8]
    exact Int32.add_zero m
  have fin : ∀ k9 : Int32, s4 164 9 = k9 → (∀ c k : Nat, ¬ ((c = 164 ∧ k = 9) ∨ c = 170) → s4 c k = m7 c k) → SD σ1 p m k9 ∧ ∀ c k : Nat, ¬ ((164 ≤ c ∧ c ≤ 170) ∨ (c = 160 ∧ (k = 5 ∨ k = 6))) → σ1 c k = σ c k := by
    intro k9 hk f
    have f1 : ∀ c k : Nat, ¬ (c = 160 ∧ (k = 5 ∨ k = 6)) → σ1 c k = s4 c k := fun c k hh => by rw [← w6, e6, up2_ne (by omega), e5, up2_ne (by omega)]
    refine ⟨⟨?_, ?_, ?_, ?_, ?_, ?_, ?_, ?_, ?_, ?_⟩, fun c k hh => ?_⟩
    · rw [f1 164 6 (by omega), f 164 6 (by omega)]; exact h6
    · rw [f1 164 8 (by omega), f 164 8 (by omega), f7 164 8 (by omega) (by omega)]; exact g8
    · rw [f1 164 9 (by omega)]; exact hk
    · rw [f1 164 10 (by omega), f 164 10 (by omega), f7 164 10 (by omega) (by omega)]; exact g10
    · rw [f1 165 0 (by omega), f 165 0 (by omega)]; exact h165
    · rw [f1 166 0 (by omega), f 166 0 (by omega)]; exact h166
    · rw [f1 167 0 (by omega), f 167 0 (by omega)]; exact h167
    · rw [f1 169 0 (by omega), f 169 0 (by omega)]; exact h169
    · rw [← w6, e6, up2_ne (by omega), e5, up_eq]
    · rw [← w6, e6, up_eq]
    · rw [f1 c k (by omega), f c k (by omega), f7 c k (by omega) (by omega)]; exact f2 c k (by omega)
  rcases k3 with ⟨k3, k5⟩ | ⟨k3, k5⟩
  · rw [if_neg (show ¬ r3 = 0 by rw [k3]; decide)] at q4
    obtain ⟨u8, s8, t8, q8, q4⟩ := bd_some q4
    obtain ⟨-, w4, -⟩ := sm_inj q4
    obtain ⟨y1, y2⟩ := x_homeG q8
    have e4 : σ 4 (ix p) = 6 := k5.2.2
    rw [if_pos e4]
    refine fin 1 ?_ (fun c k hh => by rw [← w4]; exact y2 c k (by omega))
    rw [← w4, y1, f7 164 9 (by omega) (by omega), g9]
    rfl
  · rw [if_pos k3] at q4
    obtain ⟨-, w4, -⟩ := sm_inj q4
    have e4 : ¬ σ 4 (ix p) = 6 := fun z => k5 ⟨hp.1, hp.2, z⟩
    rw [if_neg e4]
    refine fin 0 ?_ (fun c k hh => by rw [← w4])
    rw [← w4, f7 164 9 (by omega) (by omega), g9]
def CPY (s : gI) : Prop := s 172 0 = s 165 0 ∧ s 173 0 = s 166 0 ∧ s 174 0 = s 167 0 ∧ s 176 0 = s 169 0
theorem x_cp42 : ∀ (n : Nat) (s : gI) (t : gJ) (x2 : Int32) (u : Unit) (σ1 : gI) (τ1 : gJ), H_X6_copy_42 N 171 164 n s t x2 = some (u, σ1, τ1) → s 171 6 = 1 → (x2 = 0 ∨ (x2 = 1 ∧ CPY s)) → CPY σ1 ∧ ∀ c k : Nat, ¬ (172 ≤ c ∧ c ≤ 177) → σ1 c k = s c k := by
  intro n
  induction n with
  | zero => intro s t x2 u σ1 τ1 h; cases h
  | succ n ih =>
    intro s t x2 u σ1 τ1 h h6 hx
    have h : C_X6_copy_42 N 171 164 (H_X6_copy_42 N 171 164 n) s t x2 = some (u, σ1, τ1) := h
    unfold C_X6_copy_42 at h
    rw [h6] at h
    rcases hx with rfl | ⟨rfl, hc⟩
    · rw [if_neg (by decide), if_neg (by decide)] at h
      obtain ⟨j, ej, -, h⟩ := ck_some h
      have hj : j = 0 := by rw [← ej]; rfl
      rw [hj] at h
      obtain ⟨m1, n1, h⟩ := nm_some h
      obtain ⟨m2, n2, h⟩ := nm_some h
      obtain ⟨m3, n3, h⟩ := nm_some h
      obtain ⟨m4, n4, h⟩ := nm_some h
      obtain ⟨m5, n5, h⟩ := nm_some h
      obtain ⟨m6, n6, h⟩ := nm_some h
      obtain ⟨v, ev, h⟩ := nm_some h
      have f : ∀ c k : Nat, ¬ (172 ≤ c ∧ c ≤ 177) → m6 c k = s c k := fun c k hh => by rw [n6, up2_ne (by omega), n5, up2_ne (by omega), n4, up2_ne (by omega), n3, up2_ne (by omega), n2, up2_ne (by omega), n1, up2_ne (by omega)]
      have z := ih m6 t v u σ1 τ1 h (by rw [f 171 6 (by omega)]; exact h6) (Or.inr ⟨by rw [ev]; rfl, ?_, ?_, ?_, ?_⟩)
      · exact ⟨z.1, fun c k hh => (z.2 c k hh).trans (f c k hh)⟩
      · rw [f 165 0 (by omega), n6, up2_ne (by omega), n5, up2_ne (by omega), n4, up2_ne (by omega), n3, up2_ne (by omega), n2, up2_ne (by omega), n1, up_eq]
      · rw [f 166 0 (by omega), n6, up2_ne (by omega), n5, up2_ne (by omega), n4, up2_ne (by omega), n3, up2_ne (by omega), n2, up_eq, n1, up2_ne (by omega)]
      · rw [f 167 0 (by omega), n6, up2_ne (by omega), n5, up2_ne (by omega), n4, up2_ne (by omega), n3, up_eq, n2, up2_ne (by omega), n1, up2_ne (by omega)]
      · rw [f 169 0 (by omega), n6, up2_ne (by omega), n5, up_eq, n4, up2_ne (by omega), n3, up2_ne (by omega), n2, up2_ne (by omega), n1, up2_ne (by omega)]
    · rw [if_pos (by decide)] at h
      obtain ⟨-, w, -⟩ := sm_inj h
      rw [← w]
      exact ⟨hc, fun _ _ _ => rfl⟩
theorem x_begin6 {p m pl k9 : Int32} {u : Unit} (hS : SD σ p m k9) (h9 : k9 = 0 ∨ k9 = 1) (h : B_X9_begin_0 N σ τ pl = some (u, σ1, τ1)) : BC σ1 pl m k9 (p, 99, 0) ∧ σ1 176 0 = m ∧ σ1 158 4 = 0 ∧ σ1 158 5 = 0 ∧ ∀ c k : Nat, ¬ ((171 ≤ c ∧ c ≤ 177) ∨ (c = 158 ∧ (k = 4 ∨ k = 5))) → σ1 c k = σ c k := by
  obtain ⟨a1, a2, a3, a4, a5, a6, a7, a8, a9, a10⟩ := hS
  unfold B_X9_begin_0 at h
  obtain ⟨u1, s1, t1, q1, h⟩ := bd_some h
  unfold B_X6_copy_0 at q1
  obtain ⟨m1, n1, q1⟩ := nm_some q1
  obtain ⟨m2, n2, q1⟩ := nm_some q1
  obtain ⟨m3, n3, q1⟩ := nm_some q1
  obtain ⟨m4, n4, q1⟩ := nm_some q1
  obtain ⟨m5, n5, q1⟩ := nm_some q1
  have f5 : ∀ c k : Nat, ¬ (c = 171) → m5 c k = σ c k := fun c k hh => by rw [n5, up2_ne (by omega), n4, up2_ne (by omega), n3, up2_ne (by omega), n2, up2_ne (by omega), n1, up2_ne (by omega)]
  have g6 : m5 171 6 = 1 := by rw [n5, up2_ne (by omega), n4, up2_ne (by omega), n3, up2_ne (by omega), n2, up2_ne (by omega), n1, up_eq]; exact a1
  have g8 : m5 171 8 = m := by rw [n5, up2_ne (by omega), n4, up2_ne (by omega), n3, up_eq, n2, up2_ne (by omega), n1, up2_ne (by omega)]; exact a2
  have g9 : m5 171 9 = k9 := by rw [n5, up2_ne (by omega), n4, up_eq, n3, up2_ne (by omega), n2, up2_ne (by omega), n1, up2_ne (by omega)]; exact a3
  have g10 : m5 171 10 = 0 := by rw [n5, up_eq, n4, up2_ne (by omega), n3, up2_ne (by omega), n2, up2_ne (by omega), n1, up2_ne (by omega)]; exact a4
  obtain ⟨⟨c1, c2, c3, c4⟩, fz⟩ := x_cp42 N m5 _ 0 u1 s1 t1 q1 g6 (Or.inl rfl)
  obtain ⟨s2, e2, h⟩ := nm_some h
  obtain ⟨s3, e3, h⟩ := nm_some h
  obtain ⟨s4, e4, h⟩ := nm_some h
  obtain ⟨-, w, -⟩ := sm_inj h
  have f1 : ∀ c k : Nat, ¬ ((c = 171 ∧ k = 7) ∨ (c = 158 ∧ (k = 4 ∨ k = 5))) → σ1 c k = s1 c k := fun c k hh => by rw [← w, e4, up2_ne (by omega), e3, up2_ne (by omega), e2, up2_ne (by omega)]
  refine ⟨⟨?_, ?_, ?_, ?_, ?_, ?_, ?_, ?_⟩, ?_, ?_, ?_, fun c k hh => ?_⟩
  · show σ1 172 0 = p
    rw [f1 172 0 (by omega), c1, fz 165 0 (by omega), f5 165 0 (by omega)]; exact a5
  · show σ1 173 0 = 99
    rw [f1 173 0 (by omega), c2, fz 166 0 (by omega), f5 166 0 (by omega)]; exact a6
  · show σ1 174 0 = 0
    rw [f1 174 0 (by omega), c3, fz 167 0 (by omega), f5 167 0 (by omega)]; exact a7
  · rw [f1 171 9 (by omega), fz 171 9 (by omega), g9]
    rcases h9 with rfl | rfl
    · rfl
    · rfl
  · rw [f1 171 10 (by omega), fz 171 10 (by omega), g10]
    rcases h9 with rfl | rfl
    · rfl
    · rfl
  · rw [← w, e4, up2_ne (by omega), e3, up2_ne (by omega), e2, up_eq]
  · rw [f1 171 8 (by omega), fz 171 8 (by omega)]; exact g8
  · rw [f1 171 6 (by omega), fz 171 6 (by omega)]; exact g6
  · rw [f1 176 0 (by omega), c4, fz 169 0 (by omega), f5 169 0 (by omega)]; exact a8
  · rw [← w, e4, up2_ne (by omega), e3, up_eq]
  · rw [← w, e4, up_eq]
  · rw [f1 c k (by omega), fz c k (by omega)]; exact f5 c k (by omega)
/-- the kitchen in what a trial tells -/
def ko (r : Int32) : Int32 := if r.toInt < 0 then -1 else r - r / 16 * 16
def wtc (σ : gI) : Int32 → Int32 := wtr (σ 15 1) (σ 16)
def rvc (σ : gI) (cd : Nat → Int32) (L : Int) (pl t : Int32) : SB → Int32 := RC cd L pl t (wtr (σ 15 1) (σ 16) t)
theorem ras_stuck {T : Nat → Nat → Int32} {rv : Int32 → SB → Int32} {wt : Int32 → Int32} {ap : Int32} {s : SB} (h : SK T s) : ∀ (n : Nat) (t a : Int32), ras T rv wt (abit T ap) n t s a = a := by
  have e1 : ∀ t : Int32, stp T (rv t) t s = (0, false, s) := by
    intro t
    unfold stp
    rw [if_neg (fun z => by have := z.1; rw [h.1] at this; exact absurd this (by decide)), if_pos (show T 0 (ix s.1) = 3 ∧ ¬ T 3 (ix s.1) ≤ s.2.2 from h)]
  have e2 : ∀ (t : Int32) (k : Nat), mst (stp T (rv t) t) k s = (0, s) := by
    intro t k
    cases k with
    | zero => rfl
    | succ k =>
      show (if (stp T (rv t) t s).2.1 = true then _ else _) = _
      rw [e1]
      rfl
  have e3 : abit T ap s = 0 := by
    unfold abit
    rw [if_neg (fun z => by have := z.1; rw [h.1] at this; exact absurd this (by decide))]
  have or0 : ∀ v : Int32, v ||| 0 = v := fun v => by
    refine b_ext (fun i _ => ?_)
    rw [b_or, b_0, Bool.or_false]
  have e4 : ∀ (t : Int32) (k : Nat) (a : Int32), mas (stp T (rv t) t) (abit T ap) k s a = a := by
    intro t k a
    cases k with
    | zero => rfl
    | succ k =>
      show (if (stp T (rv t) t s).2.1 = true then _ else a ||| abit T ap s) = _
      rw [e1, e3, or0]
      rfl
  intro n
  induction n with
  | zero => intro t a; rfl
  | succ n ih =>
    intro t a
    show (if (mst (stp T (rv t) t) (wt t).toInt.toNat s).1 = 1 then mas (stp T (rv t) t) (abit T ap) (wt t).toInt.toNat s a else if (mst (stp T (rv t) t) (wt t).toInt.toNat s).1 = 2 then mas (stp T (rv t) t) (abit T ap) (wt t).toInt.toNat s a else ras T rv wt (abit T ap) n (t + 1) (mst (stp T (rv t) t) (wt t).toInt.toNat s).2 (mas (stp T (rv t) t) (abit T ap) (wt t).toInt.toNat s a)) = a
    rw [e2, e4, if_neg (show ¬ (0 : Int32) = 1 by decide), if_neg (show ¬ (0 : Int32) = 2 by decide)]
    exact ih (t + 1) a
theorem x_go7 {pl : Int32} {cd : Nat → Int32} {L : Int} (h160 : σ 160 5 = 1 ∧ σ 160 6 = 0) : ∀ (n : Nat) (s : gI) (t2 : gJ) (x2 r : Int32) (σ1 : gI) (τ1 : gJ) (t how : Int32) (x : SB), H_X9_go_7 N n s t2 x2 = some (r, σ1, τ1) → EC σ s cd L → BC s pl t how x → H3 how → (how = 0 → IN6 (TC σ) (σ 3 6).toInt x) → (how = 1 → 0 ≤ x.1.toInt ∧ x.1.toInt < 12) → (s 158 5 = 0 ∨ (s 158 5 = 1 ∧ how = 0 ∧ SK (TC σ) x)) → (0 ≤ x2.toInt ∧ x2.toInt ≤ 300) → ((s 176 0).toInt ≤ t.toInt ∧ 0 ≤ t.toInt ∧ t.toInt ≤ 1000000 + x2.toInt) → EC σ σ1 cd L ∧ -1 ≤ r.toInt ∧ ko r = (if how = 1 then x.1 else if how = 2 then -1 else rnn (TC σ) (rvc σ cd L pl) (wtc σ) (300 - x2.toInt).toNat t x) ∧ σ1 158 4 = (if how = 0 then ras (TC σ) (rvc σ cd L pl) (wtc σ) (abit (TC σ) (σ 17 9)) (300 - x2.toInt).toNat t x (s 158 4) else s 158 4) := by
  have l300 : (300 : Int32).toInt = 300 := rfl
  have l1 : (1 : Int32).toInt = 1 := rfl
  have l0 : (0 : Int32).toInt = 0 := rfl
  have l16 : (16 : Int32).toInt = 16 := rfl
  have lm : (-1 : Int32).toInt = -1 := rfl
  have km : ko (-1) = -1 := rfl
  have n01 : ¬ (0 : Int32) = 1 := by decide
  have n02 : ¬ (0 : Int32) = 2 := by decide
  intro n
  induction n with
  | zero => intro s t2 x2 r σ1 τ1 t how x h; cases h
  | succ n ih =>
    intro s t2 x2 r σ1 τ1 t how x h hE hB h3 hi0 hi1 h5 hx ht
    have h : C_X9_go_7 N (H_X9_go_7 N n) s t2 x2 = some (r, σ1, τ1) := h
    unfold C_X9_go_7 at h
    rw [if_neg (show ¬ (300 : Int32) < x2 from fun z => by rw [fa_lt, l300] at z; omega)] at h
    obtain ⟨b0, b1, b2, b9, b10, b7, b8, b6⟩ := id hB
    have e5 : s 160 5 = 1 := (hE.1 160 5 (by omega)).trans h160.1
    have e6 : s 160 6 = 0 := (hE.1 160 6 (by omega)).trans h160.2
    rw [e5, e6, b9, b10] at h
    rcases h3 with h3 | h3 | h3
    · rw [h3, if_neg n01, if_neg n02] at h
      rw [h3, if_neg n01, if_neg n02, if_pos (show (0 : Int32) = 0 from rfl)]
      rcases h5 with h5 | ⟨h5, -, hk⟩
      · rw [h5, if_pos (show (((0 : Int32) ||| 0) &&& 1) = 0 by decide), if_neg (show ¬ ((0 : Int32) &&& 1) = 1 by decide)] at h
        by_cases c : (300 : Int32) ≤ x2
        · rw [if_pos c] at h
          rw [fa_le, l300] at c
          obtain ⟨v, ev, h⟩ := nm_some h
          have uv : v.toInt = x2.toInt + 1 := by rw [ev, ti_add (by omega) (by omega), l1]
          rw [show (300 - x2.toInt).toNat = 0 by omega]
          cases n with
          | zero => cases h
          | succ n =>
            have h : C_X9_go_7 N (H_X9_go_7 N n) s t2 v = some (r, σ1, τ1) := h
            unfold C_X9_go_7 at h
            rw [if_pos (show (300 : Int32) < v by rw [fa_lt, l300]; omega)] at h
            obtain ⟨w1, w2, -⟩ := sm_inj h
            rw [← w1, ← w2]
            exact ⟨hE, by omega, km, rfl⟩
        · rw [if_neg c] at h
          rw [fa_le, l300] at c
          obtain ⟨u6, s6, t6, q6, h⟩ := bd_some h
          obtain ⟨v, ev, h⟩ := nm_some h
          have uv : v.toInt = x2.toInt + 1 := by rw [ev, ti_add (by omega) (by omega), l1]
          have ut : (t + 1).toInt = t.toInt + 1 := by rw [ti_add (by omega) (by omega), l1]
          have hB0 : BC s pl t 0 x := by rw [← h3]; exact hB
          have z := x_cpass hE (hi0 h3) hB0 ht.2.1 (fun z => by rw [fa_lt] at z; omega) q6
          have n12 := hE.2.2.2.2.2.1.2.1.2
          have hm := mst_in (rv := rvc σ cd L pl t) (t := t) n12 hE.2.2.2.2.2.2.1 (wtc σ t).toInt.toNat x (hi0 h3)
          have hh := mst_h (T := TC σ) (rv := rvc σ cd L pl t) (t := t) (wtc σ t).toInt.toNat x
          obtain ⟨y1, y2, y3, y4, y5⟩ := z
          have y2 : BC s6 pl (t + 1) (mst (stp (TC σ) (rvc σ cd L pl t) t) (wtc σ t).toInt.toNat x).1 (mst (stp (TC σ) (rvc σ cd L pl t) t) (wtc σ t).toInt.toNat x).2 := y2
          have y4 : s6 158 4 = mas (stp (TC σ) (rvc σ cd L pl t) t) (abit (TC σ) (σ 17 9)) (wtc σ t).toInt.toNat x (s 158 4) := y4
          have y5 : s6 158 5 = s 158 5 ∨ (s6 158 5 = s 158 5 ||| 1 ∧ (mst (stp (TC σ) (rvc σ cd L pl t) t) (wtc σ t).toInt.toNat x).1 = 0 ∧ SK (TC σ) (mst (stp (TC σ) (rvc σ cd L pl t) t) (wtc σ t).toInt.toNat x).2) := y5
          rw [show (300 - x2.toInt).toNat = (300 - v.toInt).toNat + 1 by omega]
          have er : rnn (TC σ) (rvc σ cd L pl) (wtc σ) ((300 - v.toInt).toNat + 1) t x = if (mst (stp (TC σ) (rvc σ cd L pl t) t) (wtc σ t).toInt.toNat x).1 = 1 then (mst (stp (TC σ) (rvc σ cd L pl t) t) (wtc σ t).toInt.toNat x).2.1 else if (mst (stp (TC σ) (rvc σ cd L pl t) t) (wtc σ t).toInt.toNat x).1 = 2 then -1 else rnn (TC σ) (rvc σ cd L pl) (wtc σ) (300 - v.toInt).toNat (t + 1) (mst (stp (TC σ) (rvc σ cd L pl t) t) (wtc σ t).toInt.toNat x).2 := rfl
          have ea : ras (TC σ) (rvc σ cd L pl) (wtc σ) (abit (TC σ) (σ 17 9)) ((300 - v.toInt).toNat + 1) t x (s 158 4) = if (mst (stp (TC σ) (rvc σ cd L pl t) t) (wtc σ t).toInt.toNat x).1 = 1 then mas (stp (TC σ) (rvc σ cd L pl t) t) (abit (TC σ) (σ 17 9)) (wtc σ t).toInt.toNat x (s 158 4) else if (mst (stp (TC σ) (rvc σ cd L pl t) t) (wtc σ t).toInt.toNat x).1 = 2 then mas (stp (TC σ) (rvc σ cd L pl t) t) (abit (TC σ) (σ 17 9)) (wtc σ t).toInt.toNat x (s 158 4) else ras (TC σ) (rvc σ cd L pl) (wtc σ) (abit (TC σ) (σ 17 9)) (300 - v.toInt).toNat (t + 1) (mst (stp (TC σ) (rvc σ cd L pl t) t) (wtc σ t).toInt.toNat x).2 (mas (stp (TC σ) (rvc σ cd L pl t) t) (abit (TC σ) (σ 17 9)) (wtc σ t).toInt.toNat x (s 158 4)) := rfl
          rw [er, ea, ← y4]
          generalize mst (stp (TC σ) (rvc σ cd L pl t) t) (wtc σ t).toInt.toNat x = q at hm hh y2 y5 ⊢
          have w := ih s6 t6 v r σ1 τ1 (t + 1) q.1 q.2 h y1 y2 hh hm.2 (fun _ => ⟨hm.1.1, by have := hm.1.2; omega⟩) (by
            rcases y5 with y5 | ⟨y5, y6, y7⟩
            · exact Or.inl (y5.trans h5)
            · exact Or.inr ⟨by rw [y5, h5]; rfl, y6, y7⟩) (by omega) (by rw [y3]; omega)
          refine ⟨w.1, w.2.1, w.2.2.1, ?_⟩
          rw [w.2.2.2]
          rcases hh with hh | hh | hh
          · rw [hh, if_pos rfl, if_neg n01, if_neg n02]
          · rw [hh, if_neg (show ¬ (1 : Int32) = 0 by decide), if_pos rfl]
          · rw [hh, if_neg (show ¬ (2 : Int32) = 0 by decide), if_neg (show ¬ (2 : Int32) = 1 by decide), if_pos rfl]
      · rw [h5, if_neg (show ¬ (((0 : Int32) ||| 1) &&& 1) = 0 by decide)] at h
        obtain ⟨w1, w2, -⟩ := sm_inj h
        rw [← w1, ← w2, rnn_stuck hk, ras_stuck hk]
        exact ⟨hE, by omega, km, rfl⟩
    · have h5 : s 158 5 = 0 := by
        rcases h5 with h5 | ⟨-, z, -⟩
        · exact h5
        · rw [h3] at z; exact absurd z (by decide)
      rw [h3, h5, if_pos (show (1 : Int32) = 1 from rfl), if_neg (show ¬ (1 : Int32) = 2 by decide), if_pos (show (((0 : Int32) ||| 0) &&& 1) = 0 by decide), if_pos (show ((1 : Int32) &&& 1) = 1 by decide)] at h
      rw [h3, if_pos (show (1 : Int32) = 1 from rfl), if_neg (show ¬ (1 : Int32) = 0 by decide)]
      obtain ⟨r8, s8, t8, q8, h⟩ := bd_some h
      obtain ⟨w8, k8⟩ := x_spot6 q8
      rw [b0] at k8
      obtain ⟨w1, w2, -⟩ := sm_inj h
      have hi := hi1 h3
      have im := imax_c 0 r8
      have h8 : (imax 0 r8).toInt = x.1.toInt := by rw [k8] at im ⊢; omega
      have hr : r.toInt = x2.toInt * 16 + x.1.toInt := by
        have m16 : (x2 * 16).toInt = x2.toInt * 16 := by rw [ti_mul (by rw [l16]; omega) (by rw [l16]; omega), l16]
        rw [← w1, ti_add (by rw [m16, h8]; omega) (by rw [m16, h8]; omega), m16, h8]
      rw [← w2, ← w8]
      refine ⟨hE, by omega, ?_, rfl⟩
      unfold ko
      rw [if_neg (by omega), fa_eq, ti_rem (by omega) (by rw [l16]; omega), l16]
      omega
    · have h5 : s 158 5 = 0 := by
        rcases h5 with h5 | ⟨-, z, -⟩
        · exact h5
        · rw [h3] at z; exact absurd z (by decide)
      rw [h3, h5, if_neg (show ¬ (2 : Int32) = 1 by decide), if_pos (show (2 : Int32) = 2 from rfl), if_neg (show ¬ (((1 : Int32) ||| 0) &&& 1) = 0 by decide)] at h
      rw [h3, if_neg (show ¬ (2 : Int32) = 1 by decide), if_pos (show (2 : Int32) = 2 from rfl), if_neg (show ¬ (2 : Int32) = 0 by decide)]
      obtain ⟨w1, w2, -⟩ := sm_inj h
      rw [← w1, ← w2]
      exact ⟨hE, by omega, km, rfl⟩
/-- the base facts of a state -/
def BF (σ : gI) (cd : Nat → Int32) (L : Int) : Prop := (σ 17 10 = 0 ∨ σ 17 10 = 1) ∧ σ 158 7 = 0 ∧ σ 158 8 = 0 ∧ (0 ≤ (σ 15 1).toInt ∧ (σ 15 1).toInt ≤ 40) ∧ T4 σ ∧ TK (TC σ) (σ 3 6).toInt ∧ (∀ p : Nat, (p : Int) < (σ 3 6).toInt → σ 4 p = 5 → 0 < (σ 7 p).toInt) ∧ CC σ cd L
def Eo (σ : gI) (cd : Nat → Int32) (L : Int) (p m pl : Int32) : Int32 := flo (TC σ) (rvc σ cd L pl) (wtc σ) p m
theorem x_go {p m pl : Int32} {cd : Nat → Int32} {L : Int} (hF : BF σ cd L) (hS : SD σ p m (if σ 4 (ix p) = 6 then 1 else 0)) (hp : 0 ≤ p.toInt ∧ p.toInt < (σ 3 6).toInt) (hm : 0 ≤ m.toInt ∧ m.toInt ≤ 999) (h : B_X9_go_0 N σ τ pl = some (r, σ1, τ1)) : (∀ c k : Nat, ¬ (c = 19 ∨ c = 159 ∨ (c = 158 ∧ (k = 4 ∨ k = 5 ∨ k = 6)) ∨ (171 ≤ c ∧ c ≤ 177)) → σ1 c k = σ c k) ∧ -1 ≤ r.toInt ∧ ko r = Eo σ cd L p m pl ∧ σ1 158 4 = (if σ 4 (ix p) = 6 then 0 else ras (TC σ) (rvc σ cd L pl) (wtc σ) (abit (TC σ) (σ 17 9)) 300 m (p, 99, 0) 0) := by
  unfold B_X9_go_0 at h
  obtain ⟨u1, s1, t1, q1, h⟩ := bd_some h
  obtain ⟨y1, y2, y3, y4, y5⟩ := x_begin6 hS (by
    by_cases c : σ 4 (ix p) = 6
    · rw [if_pos c]; exact Or.inr rfl
    · rw [if_neg c]; exact Or.inl rfl) q1
  have n12 := hF.2.2.2.2.1.2.1.2
  have hE : EC σ s1 cd L := ⟨fun c k hh => y5 c k (by omega), hF⟩
  have hix : TC σ 0 (ix p) = σ 4 (ix p) := rfl
  have z := x_go7 (σ := σ) ⟨hS.2.2.2.2.2.2.2.2.1, hS.2.2.2.2.2.2.2.2.2⟩ N s1 t1 0 r σ1 τ1 m _ (p, 99, 0) h hE y1 (by
    by_cases c : σ 4 (ix p) = 6
    · rw [if_pos c]; exact Or.inr (Or.inl rfl)
    · rw [if_neg c]; exact Or.inl rfl) (fun q => ⟨hp, fun w => by
      rw [hix] at w
      rw [if_pos w] at q
      exact absurd q (by decide)⟩) (fun _ => ⟨hp.1, by show p.toInt < 12; omega⟩) (Or.inl y4) (by decide) (by
      have l0 : (0 : Int32).toInt = 0 := rfl
      rw [y2, l0]; omega)
  refine ⟨z.1.1, z.2.1, ?_, ?_⟩
  · rw [z.2.2.1]
    unfold Eo flo
    rw [hix]
    by_cases c : σ 4 (ix p) = 6
    · rw [if_pos c, if_pos c, if_pos rfl]
    · rw [if_neg c, if_neg c, if_neg (show ¬ (0 : Int32) = 1 by decide), if_neg (show ¬ (0 : Int32) = 2 by decide)]
      rfl
  · rw [z.2.2.2, y3]
    by_cases c : σ 4 (ix p) = 6
    · rw [if_pos c, if_pos c, if_neg (show ¬ (1 : Int32) = 0 by decide)]
    · rw [if_neg c, if_neg c, if_pos rfl]
      rfl
end SIM34H
