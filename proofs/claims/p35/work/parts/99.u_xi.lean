/-! THE CLASS'S BOAT (scene 171, thing 0) -/
section SIM34C
variable {N : Nat} {σ σ1 : gI} {τ τ1 : gJ} {r : Int32}
def TC (σ : gI) (i p : Nat) : Int32 := if i ≤ 3 then σ (4 + i) p else 0
theorem tc_fr {σ σ1 : gI} (f : ∀ c k : Nat, 4 ≤ c → c ≤ 7 → σ1 c k = σ c k) : TC σ1 = TC σ := funext fun i => funext fun p => by
  unfold TC
  by_cases hi : i ≤ 3
  · rw [if_pos hi, if_pos hi]; exact f (4 + i) p (by omega) (by omega)
  · rw [if_neg hi, if_neg hi]
/-- the boat: how 0 on its way, 1 home, 2 lost -/
def BC (σ : gI) (pl t how : Int32) (s : SB) : Prop := σ 172 0 = s.1 ∧ σ 173 0 = s.2.1 ∧ σ 174 0 = s.2.2 ∧ (σ 171 9 = if how = 1 then 1 else 0) ∧ (σ 171 10 = if how = 2 then 1 else 0) ∧ σ 171 7 = pl ∧ σ 171 8 = t ∧ σ 171 6 = 1
theorem bc_fr {s : gI} {pl t how : Int32} {x : SB} (h : BC σ pl t how x) (f : ∀ c k : Nat, (171 ≤ c ∧ c ≤ 174) → s c k = σ c k) : BC s pl t how x := by
  obtain ⟨b0, b1, b2, b9, b10, b7, b8, b6⟩ := h
  exact ⟨by rw [f 172 0 (by omega)]; exact b0, by rw [f 173 0 (by omega)]; exact b1, by rw [f 174 0 (by omega)]; exact b2, by rw [f 171 9 (by omega)]; exact b9, by rw [f 171 10 (by omega)]; exact b10, by rw [f 171 7 (by omega)]; exact b7, by rw [f 171 8 (by omega)]; exact b8, by rw [f 171 6 (by omega)]; exact b6⟩
theorem x_spot6 (h : B_X6_spotOf_0 N 171 σ τ 0 = some (r, σ1, τ1)) : σ = σ1 ∧ r = σ 172 0 := by
  unfold B_X6_spotOf_0 at h
  rw [if_neg (by decide), if_neg (by decide)] at h
  obtain ⟨j, ej, -, h⟩ := ck_some h
  have hj : j = 0 := by rw [← ej]; rfl
  rw [hj] at h
  obtain ⟨a, b, -⟩ := sm_inj h
  exact ⟨b, a.symm⟩
theorem x_paper6 (h : B_X6_paperOf_0 N 171 σ τ 0 = some (r, σ1, τ1)) : σ = σ1 ∧ r = σ 173 0 := by
  unfold B_X6_paperOf_0 at h
  rw [if_neg (by decide), if_neg (by decide)] at h
  obtain ⟨j, ej, -, h⟩ := ck_some h
  have hj : j = 0 := by rw [← ej]; rfl
  rw [hj] at h
  obtain ⟨a, b, -⟩ := sm_inj h
  exact ⟨b, a.symm⟩
theorem x_purse6 (h : B_X6_purseOf_0 N 171 σ τ 0 = some (r, σ1, τ1)) : σ = σ1 ∧ r = σ 174 0 := by
  unfold B_X6_purseOf_0 at h
  rw [if_neg (by decide), if_neg (by decide)] at h
  obtain ⟨j, ej, -, h⟩ := ck_some h
  have hj : j = 0 := by rw [← ej]; rfl
  rw [hj] at h
  obtain ⟨a, b, -⟩ := sm_inj h
  exact ⟨b, a.symm⟩
theorem x_kind6 {p : Int32} (hp : 0 ≤ p.toInt ∧ p.toInt < 12) (h : B_X8_kindOf_0 N σ τ p = some (r, σ1, τ1)) : σ = σ1 ∧ r = σ 4 (ix p) := by
  have l0 : (0 : Int32).toInt = 0 := rfl
  have l12 : (12 : Int32).toInt = 12 := rfl
  have nn := nat_of_toInt (i := p) hp.1
  unfold B_X8_kindOf_0 at h
  rw [if_neg (fun z => by rw [fa_lt] at z; omega), if_neg (fun z => by rw [fa_le] at z; omega)] at h
  obtain ⟨j, ej, -, h⟩ := ck_some h
  have hj : j = ix p := by unfold ix; omega
  rw [hj] at h
  obtain ⟨a, b, -⟩ := sm_inj h
  exact ⟨b, a.symm⟩
theorem x_next6 {p : Int32} (hp : 0 ≤ p.toInt ∧ p.toInt < 12) (h : B_X8_nextOf_0 N σ τ p = some (r, σ1, τ1)) : σ = σ1 ∧ r = σ 5 (ix p) := by
  have l0 : (0 : Int32).toInt = 0 := rfl
  have l12 : (12 : Int32).toInt = 12 := rfl
  have nn := nat_of_toInt (i := p) hp.1
  unfold B_X8_nextOf_0 at h
  rw [if_neg (fun z => by rw [fa_lt] at z; omega), if_neg (fun z => by rw [fa_le] at z; omega)] at h
  obtain ⟨j, ej, -, h⟩ := ck_some h
  have hj : j = ix p := by unfold ix; omega
  rw [hj] at h
  obtain ⟨a, b, -⟩ := sm_inj h
  exact ⟨b, a.symm⟩
theorem x_second6 {p : Int32} (hp : 0 ≤ p.toInt ∧ p.toInt < 12) (h : B_X8_secondOf_0 N σ τ p = some (r, σ1, τ1)) : σ = σ1 ∧ r = σ 6 (ix p) := by
  have l0 : (0 : Int32).toInt = 0 := rfl
  have l12 : (12 : Int32).toInt = 12 := rfl
  have nn := nat_of_toInt (i := p) hp.1
  unfold B_X8_secondOf_0 at h
  rw [if_neg (fun z => by rw [fa_lt] at z; omega), if_neg (fun z => by rw [fa_le] at z; omega)] at h
  obtain ⟨j, ej, -, h⟩ := ck_some h
  have hj : j = ix p := by unfold ix; omega
  rw [hj] at h
  obtain ⟨a, b, -⟩ := sm_inj h
  exact ⟨b, a.symm⟩
theorem x_figure6 {p : Int32} (hp : 0 ≤ p.toInt ∧ p.toInt < 12) (h : B_X8_figureOf_0 N σ τ p = some (r, σ1, τ1)) : σ = σ1 ∧ r = σ 7 (ix p) := by
  have l0 : (0 : Int32).toInt = 0 := rfl
  have l12 : (12 : Int32).toInt = 12 := rfl
  have nn := nat_of_toInt (i := p) hp.1
  unfold B_X8_figureOf_0 at h
  rw [if_neg (fun z => by rw [fa_lt] at z; omega), if_neg (fun z => by rw [fa_le] at z; omega)] at h
  obtain ⟨j, ej, -, h⟩ := ck_some h
  have hj : j = ix p := by unfold ix; omega
  rw [hj] at h
  obtain ⟨a, b, -⟩ := sm_inj h
  exact ⟨b, a.symm⟩
theorem one_sh : (1 : Int32) <<< ((0 : Int32) &&& 31) = 1 := by decide
theorem x_lose6 {u : Unit} (h : B_X6_lose_0 N 171 σ τ 0 = some (u, σ1, τ1)) : σ1 171 10 = σ 171 10 ||| 1 ∧ ∀ c k : Nat, ¬ ((c = 171 ∧ k = 10) ∨ c = 177) → σ1 c k = σ c k := by
  unfold B_X6_lose_0 at h
  rw [if_neg (by decide), if_neg (by decide)] at h
  obtain ⟨s3, e3, h⟩ := nm_some h
  rw [one_sh] at e3
  obtain ⟨j, ej, -, h⟩ := ck_some h
  obtain ⟨s5, e5, h⟩ := nm_some h
  obtain ⟨-, rfl, -⟩ := sm_inj h
  exact ⟨by rw [e5, up2_ne (by omega), e3, up_eq], fun c k hh => by rw [e5, up2_ne (by omega), e3, up2_ne (by omega)]⟩
theorem x_home6 {u : Unit} (h : B_X6_comeHome_0 N 171 σ τ 0 = some (u, σ1, τ1)) : σ1 171 9 = σ 171 9 ||| 1 ∧ ∀ c k : Nat, ¬ ((c = 171 ∧ k = 9) ∨ c = 177) → σ1 c k = σ c k := by
  unfold B_X6_comeHome_0 at h
  rw [if_neg (by decide), if_neg (by decide)] at h
  obtain ⟨s3, e3, h⟩ := nm_some h
  rw [one_sh] at e3
  obtain ⟨j, ej, -, h⟩ := ck_some h
  obtain ⟨s5, e5, h⟩ := nm_some h
  obtain ⟨-, rfl, -⟩ := sm_inj h
  exact ⟨by rw [e5, up2_ne (by omega), e3, up_eq], fun c k hh => by rw [e5, up2_ne (by omega), e3, up2_ne (by omega)]⟩
/-- a step told -/
def SC6 (σ σ1 : gI) (pl t : Int32) (x : Int32 × Bool × SB) (r : Int32) : Prop := (r = if x.2.1 = true then 1 else 0) ∧ BC σ1 pl t x.1 x.2.2 ∧ ∀ c k : Nat, ¬ (c = 19 ∨ c = 159 ∨ (c = 158 ∧ (k = 4 ∨ k = 5 ∨ k = 6)) ∨ (c = 171 ∧ (k = 9 ∨ k = 10)) ∨ c = 172 ∨ c = 173 ∨ c = 174 ∨ c = 175 ∨ c = 177) → σ1 c k = σ c k
theorem x_arr6 {pl t p y0 b c p0 : Int32} (hT : T4 σ) (hp : 0 ≤ p.toInt ∧ p.toInt < (σ 3 6).toInt) (hB : BC σ pl t 0 (p0, b, c)) (h : B_X1_arrives_23 N 171 σ τ 0 p y0 = some (r, σ1, τ1)) : (r = if (arr6 (TC σ) p y0 c).2.1 = true then 1 else 0) ∧ BC σ1 pl t (arr6 (TC σ) p y0 c).1 (arr6 (TC σ) p y0 c).2.2 ∧ ∀ c k : Nat, ¬ ((c = 171 ∧ (k = 9 ∨ k = 10)) ∨ c = 172 ∨ c = 173 ∨ c = 175 ∨ c = 177) → σ1 c k = σ c k := by
  have l0 : (0 : Int32).toInt = 0 := rfl
  obtain ⟨b0, b1, b2, b9, b10, b7, b8, b6⟩ := hB
  have b9 : σ 171 9 = 0 := b9
  have b10 : σ 171 10 = 0 := b10
  unfold B_X1_arrives_23 at h
  obtain ⟨u1, s1, t1, q1, h⟩ := bd_some h
  unfold B_X6_setPaper_0 at q1
  rw [if_neg (by decide), if_neg (by decide)] at q1
  obtain ⟨j1, ej1, -, q1⟩ := ck_some q1
  have h1 : j1 = 0 := by rw [← ej1]; rfl
  obtain ⟨s4, e4, q1⟩ := nm_some q1
  obtain ⟨-, w1, -⟩ := sm_inj q1
  rw [h1] at e4
  have f1 : ∀ c k : Nat, ¬ (c = 173 ∧ k = 0) → s1 c k = σ c k := fun c k hh => by rw [← w1, e4]; exact up2_ne hh
  have g1 : s1 173 0 = imax 0 y0 := by rw [← w1, e4, up_eq]
  obtain ⟨u2, s2, t2, q2, h⟩ := bd_some h
  unfold B_X6_move_0 at q2
  rw [if_neg (by decide), if_neg (by decide)] at q2
  obtain ⟨j2, ej2, -, q2⟩ := ck_some q2
  have h2 : j2 = 0 := by rw [← ej2]; rfl
  obtain ⟨s5, e5, q2⟩ := nm_some q2
  obtain ⟨s6, e6, q2⟩ := nm_some q2
  obtain ⟨-, w2, -⟩ := sm_inj q2
  rw [h2] at e5 e6
  have f2 : ∀ c k : Nat, ¬ (c = 172 ∨ c = 173 ∨ c = 175) → s2 c k = σ c k := fun c k hh => by rw [← w2, e6, up2_ne (by omega), e5, up2_ne (by omega)]; exact f1 c k (by omega)
  have g172 : s2 172 0 = p := by rw [← w2, e6, up2_ne (by omega), e5, up_eq]
  have g173 : s2 173 0 = imax 0 y0 := by rw [← w2, e6, up2_ne (by omega), e5, up2_ne (by omega)]; exact g1
  have T2 : T4 s2 := t4_fr hT (fun c k hh => f2 c k (by omega))
  have im := imax_c 0 y0
  have eT0 : TC σ 0 (ix p) = σ 4 (ix p) := rfl
  unfold arr6
  by_cases c1 : 0 ≤ y0
  · rw [if_pos c1] at h
    rw [fa_le, l0] at c1
    rw [if_neg (show ¬ y0.toInt < 0 by omega), eT0]
    have gy : s2 173 0 = y0 := by rw [g173, fa_eq]; omega
    obtain ⟨r4, s7, t7, q4, h⟩ := bd_some h
    obtain ⟨e7, k4⟩ := x_isKitchen11 T2 q4
    rw [f2 3 6 (by omega), f2 4 _ (by omega)] at k4
    rw [← e7] at h
    rcases k4 with ⟨k4, k5⟩ | ⟨k4, k5⟩
    · rw [if_neg (show ¬ r4 = 0 by rw [k4]; decide)] at h
      rw [if_pos (show σ 4 (ix p) = 6 from k5.2.2)]
      obtain ⟨u8, s8, t8, q8, h⟩ := bd_some h
      obtain ⟨y1, y2⟩ := x_home6 q8
      obtain ⟨rfl, rfl, -⟩ := sm_inj h
      exact ⟨rfl, ⟨by rw [y2 172 0 (by omega)]; exact g172, by rw [y2 173 0 (by omega)]; exact gy, by rw [y2 174 0 (by omega), f2 174 0 (by omega)]; exact b2, by rw [y1, f2 171 9 (by omega), b9]; rfl, by rw [y2 171 10 (by omega), f2 171 10 (by omega), b10]; rfl, by rw [y2 171 7 (by omega), f2 171 7 (by omega)]; exact b7, by rw [y2 171 8 (by omega), f2 171 8 (by omega)]; exact b8, by rw [y2 171 6 (by omega), f2 171 6 (by omega)]; exact b6⟩, fun c k hh => (y2 c k (by omega)).trans (f2 c k (by omega))⟩
    · rw [if_pos k4] at h
      rw [if_neg (show ¬ σ 4 (ix p) = 6 from fun z => k5 ⟨hp.1, hp.2, z⟩)]
      obtain ⟨rfl, rfl, -⟩ := sm_inj h
      exact ⟨rfl, ⟨g172, gy, by rw [f2 174 0 (by omega)]; exact b2, by rw [f2 171 9 (by omega), b9]; rfl, by rw [f2 171 10 (by omega), b10]; rfl, by rw [f2 171 7 (by omega)]; exact b7, by rw [f2 171 8 (by omega)]; exact b8, by rw [f2 171 6 (by omega)]; exact b6⟩, fun c k hh => f2 c k (by omega)⟩
  · rw [if_neg c1] at h
    rw [fa_le, l0] at c1
    rw [if_pos (show y0.toInt < 0 by omega)]
    have gy : s2 173 0 = 0 := by rw [g173, fa_eq]; omega
    obtain ⟨u8, s8, t8, q8, h⟩ := bd_some h
    obtain ⟨y1, y2⟩ := x_lose6 q8
    obtain ⟨rfl, rfl, -⟩ := sm_inj h
    exact ⟨rfl, ⟨by rw [y2 172 0 (by omega)]; exact g172, by rw [y2 173 0 (by omega)]; exact gy, by rw [y2 174 0 (by omega), f2 174 0 (by omega)]; exact b2, by rw [y2 171 9 (by omega), f2 171 9 (by omega), b9]; rfl, by rw [y1, f2 171 10 (by omega), b10]; rfl, by rw [y2 171 7 (by omega), f2 171 7 (by omega)]; exact b7, by rw [y2 171 8 (by omega), f2 171 8 (by omega)]; exact b8, by rw [y2 171 6 (by omega), f2 171 6 (by omega)]; exact b6⟩, fun c k hh => (y2 c k (by omega)).trans (f2 c k (by omega))⟩
theorem x_step172 {pl t p x7 b c p0 : Int32} (h7 : σ 158 7 = 0) (hT : T4 σ) (hp : 0 ≤ p.toInt ∧ p.toInt < (σ 3 6).toInt) (hB : BC σ pl t 0 (p0, b, c)) (h : B_X1_step_172 N 171 σ τ 0 p x7 = some (r, σ1, τ1)) : (r = if (arr6 (TC σ) p (b - x7) c).2.1 = true then 1 else 0) ∧ BC σ1 pl t (arr6 (TC σ) p (b - x7) c).1 (arr6 (TC σ) p (b - x7) c).2.2 ∧ ∀ c k : Nat, ¬ ((c = 158 ∧ k = 6) ∨ (c = 171 ∧ (k = 9 ∨ k = 10)) ∨ c = 172 ∨ c = 173 ∨ c = 175 ∨ c = 177) → σ1 c k = σ c k := by
  unfold B_X1_step_172 at h
  obtain ⟨s1, e1, h⟩ := nm_some h
  have f1 : ∀ c k : Nat, ¬ (c = 158 ∧ k = 6) → s1 c k = σ c k := fun c k hh => by rw [e1]; exact up2_ne hh
  obtain ⟨r2, s2, t2, q2, h⟩ := bd_some h
  obtain ⟨-, h⟩ := cb_some h
  obtain ⟨rfl, rfl, -⟩ := sm_inj h
  unfold B_X1_arrives_0 at q2
  rw [f1 158 7 (by omega), if_pos h7] at q2
  obtain ⟨r3, s3, t3, q3, q2⟩ := bd_some q2
  obtain ⟨e3, k3⟩ := x_paper6 q3
  rw [← e3, k3, f1 173 0 (by omega), hB.2.1] at q2
  have eT : TC s1 = TC σ := tc_fr (fun c k a1 a2 => f1 c k (by omega))
  have w := x_arr6 (t4_fr hT (fun c k hh => f1 c k (by omega))) (by rw [f1 3 6 (by omega)]; exact hp) (bc_fr hB (fun c k hh => f1 c k (by omega))) q2
  rw [eT] at w
  exact ⟨w.1, w.2.1, fun c k hh => (w.2.2 c k (by omega)).trans (f1 c k (by omega))⟩
end SIM34C
