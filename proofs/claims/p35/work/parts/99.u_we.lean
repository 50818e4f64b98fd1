/-! THE RULE'S READER OF THE CLASS -/
def en (x : Int) : Int := if x = 3000 then 8 else if 2003 ≤ x then x - 1994 else if 2000 ≤ x then x - 1987 else if 1000 ≤ x then x - 1000 else 32 + x
def op6 (x : Int) : Prop := x = 3000 ∨ (2000 ≤ x ∧ x ≤ 2006)
def HV (σ : gI) (b : Nat) : List Int → Prop
  | [] => True
  | x :: o => (σ b o.length).toInt = x ∧ HV σ b o
theorem hv_fr {σ σ1 : gI} {b : Nat} : ∀ {o : List Int}, HV σ b o → (∀ k : Nat, k < o.length → σ1 b k = σ b k) → HV σ1 b o := by
  intro o
  induction o with
  | nil => intro _ _; trivial
  | cons x o ih =>
    intro h f
    have hl : o.length < (x :: o).length := Nat.lt_succ_self _
    exact ⟨by rw [f o.length hl]; exact h.1, ih h.2 (fun k hk => f k (Nat.lt_trans hk hl))⟩
/-- what is held, the last first: frames with ( between -/
def hs : List (Bool × List Int) → List Int
  | [] => []
  | [x] => x.2.map en
  | x :: y :: S => x.2.map en ++ 16 :: hs (y :: S)
def hb (S : List (Bool × List Int)) : List Int := if S = [] then [] else 16 :: hs S
theorem hs_cons (c : Bool) (H : List Int) (S : List (Bool × List Int)) : hs ((c, H) :: S) = H.map en ++ hb S := by
  cases S with
  | nil => show H.map en = H.map en ++ []; rw [List.append_nil]
  | cons y S => rfl
theorem hb_or (S : List (Bool × List Int)) : hb S = [] ∨ ∃ B, hb S = 16 :: B := by
  unfold hb
  by_cases h : S = []
  · rw [if_pos h]; exact Or.inl rfl
  · rw [if_neg h]; exact Or.inr ⟨_, rfl⟩
def CB (σ : gI) : List (Bool × List Int) → Prop
  | [] => True
  | x :: S => bt (σ 21 6) S.length = x.1 ∧ CB σ S
theorem cb_fr {σ σ1 : gI} : ∀ {F : List (Bool × List Int)}, CB σ F → (∀ i : Nat, i < F.length → bt (σ1 21 6) i = bt (σ 21 6) i) → CB σ1 F := by
  intro F
  induction F with
  | nil => intro _ _; trivial
  | cons x F ih =>
    intro h f
    have hl : F.length < (x :: F).length := Nat.lt_succ_self _
    exact ⟨by rw [f F.length hl]; exact h.1, ih h.2 (fun k hk => f k (Nat.lt_trans hk hl))⟩
theorem rel_len {q : Int} : ∀ H o : List Int, (rel q H o).1.length + (rel q H o).2.length = H.length + o.length := by
  intro H
  induction H with
  | nil => intro o; rfl
  | cons x H ih =>
    intro o
    show (if q ≤ rk x then rel q H (x :: o) else (x :: H, o)).1.length + (if q ≤ rk x then rel q H (x :: o) else (x :: H, o)).2.length = _
    by_cases c : q ≤ rk x
    · rw [if_pos c, ih]
      show H.length + (o.length + 1) = H.length + 1 + o.length
      omega
    · rw [if_neg c]
theorem rel_op {q : Int} : ∀ H o : List Int, (∀ x, x ∈ H → op6 x) → ∀ x, x ∈ (rel q H o).1 → op6 x := by
  intro H
  induction H with
  | nil => intro o _ x hx; exact absurd hx (List.not_mem_nil)
  | cons y H ih =>
    intro o h x hx
    have e : rel q (y :: H) o = if q ≤ rk y then rel q H (y :: o) else (y :: H, o) := rfl
    rw [e] at hx
    by_cases c : q ≤ rk y
    · rw [if_pos c] at hx
      exact ih (y :: o) (fun z hz => h z (List.mem_cons_of_mem _ hz)) x hx
    · rw [if_neg c] at hx
      exact h x hx
section RU6C
variable {N : Nat} {σ σ1 : gI} {τ τ1 : gJ} {r : Int32}
theorem x_addStep {x1 : Int32} {u : Unit} {o : List Int} (hV : HV σ 22 o) (hl : (σ 21 3).toInt = o.length) (h40 : o.length < 40) (h : B_X5_addStep_0 N σ τ x1 = some (u, σ1, τ1)) : HV σ1 22 (x1.toInt :: o) ∧ (σ1 21 3).toInt = o.length + 1 ∧ ∀ c k : Nat, ¬ (c = 22 ∨ (c = 21 ∧ k = 3)) → σ1 c k = σ c k := by
  have l0 : (0 : Int32).toInt = 0 := rfl
  have l1 : (1 : Int32).toInt = 1 := rfl
  have l40 : (40 : Int32).toInt = 40 := rfl
  unfold B_X5_addStep_0 at h
  rw [if_neg (show ¬ σ 21 3 < 0 from fun z => by rw [fa_lt] at z; omega), if_neg (show ¬ (40 : Int32) ≤ σ 21 3 from fun z => by rw [fa_le] at z; omega)] at h
  have nn := nat_of_toInt (i := σ 21 3) (by omega)
  obtain ⟨j, ej, -, h⟩ := ck_some h
  obtain ⟨s4, e4, h⟩ := nm_some h
  obtain ⟨s5, e5, h⟩ := nm_some h
  obtain ⟨-, rfl, -⟩ := sm_inj h
  have hj : j = o.length := by omega
  rw [hj] at e4
  have f : ∀ c k : Nat, ¬ ((c = 22 ∧ k = o.length) ∨ (c = 21 ∧ k = 3)) → s5 c k = σ c k := fun c k hh => by rw [e5, up2_ne (by omega), e4, up2_ne (by omega)]
  refine ⟨⟨by rw [e5, up2_ne (by omega), e4, up_eq], hv_fr hV (fun k hk => f 22 k (by omega))⟩, ?_, fun c k hh => f c k (by omega)⟩
  rw [e5, up_eq, e4, up2_ne (by omega), ti_add (by omega) (by omega), l1, hl]
theorem x_hold {x1 : Int32} {u : Unit} {o : List Int} (hV : HV σ 24 o) (hl : (σ 21 4).toInt = o.length) (h40 : o.length < 40) (h : B_X5_hold_0 N σ τ x1 = some (u, σ1, τ1)) : HV σ1 24 (x1.toInt :: o) ∧ (σ1 21 4).toInt = o.length + 1 ∧ ∀ c k : Nat, ¬ (c = 24 ∨ (c = 21 ∧ k = 4)) → σ1 c k = σ c k := by
  have l0 : (0 : Int32).toInt = 0 := rfl
  have l1 : (1 : Int32).toInt = 1 := rfl
  have l40 : (40 : Int32).toInt = 40 := rfl
  unfold B_X5_hold_0 at h
  rw [if_neg (show ¬ σ 21 4 < 0 from fun z => by rw [fa_lt] at z; omega), if_neg (show ¬ (40 : Int32) ≤ σ 21 4 from fun z => by rw [fa_le] at z; omega)] at h
  have nn := nat_of_toInt (i := σ 21 4) (by omega)
  obtain ⟨j, ej, -, h⟩ := ck_some h
  obtain ⟨s4, e4, h⟩ := nm_some h
  obtain ⟨s5, e5, h⟩ := nm_some h
  obtain ⟨-, rfl, -⟩ := sm_inj h
  have hj : j = o.length := by omega
  rw [hj] at e4
  have f : ∀ c k : Nat, ¬ ((c = 24 ∧ k = o.length) ∨ (c = 21 ∧ k = 4)) → s5 c k = σ c k := fun c k hh => by rw [e5, up2_ne (by omega), e4, up2_ne (by omega)]
  refine ⟨⟨by rw [e5, up2_ne (by omega), e4, up_eq], hv_fr hV (fun k hk => f 24 k (by omega))⟩, ?_, fun c k hh => f c k (by omega)⟩
  rw [e5, up_eq, e4, up2_ne (by omega), ti_add (by omega) (by omega), l1, hl]
theorem x_rankOf {x : Int} {x0 : Int32} (hx : op6 x) (e : x0.toInt = en x) (h : B_X5_rankOf_0 N σ τ x0 = some (r, σ1, τ1)) : (σ = σ1 ∧ τ = τ1) ∧ r.toInt = rk x ∧ ¬ x0 = 16 := by
  have l8 : (8 : Int32).toInt = 8 := rfl
  have l9 : (9 : Int32).toInt = 9 := rfl
  have l10 : (10 : Int32).toInt = 10 := rfl
  have l11 : (11 : Int32).toInt = 11 := rfl
  have l12 : (12 : Int32).toInt = 12 := rfl
  have l16 : (16 : Int32).toInt = 16 := rfl
  have cs : (x = 3000 ∧ en x = 8 ∧ rk x = 4) ∨ (x = 2000 ∧ en x = 13 ∧ rk x = 1) ∨ (x = 2001 ∧ en x = 14 ∧ rk x = 1) ∨ (x = 2002 ∧ en x = 15 ∧ rk x = 1) ∨ (x = 2003 ∧ en x = 9 ∧ rk x = 2) ∨ (x = 2004 ∧ en x = 10 ∧ rk x = 2) ∨ (x = 2005 ∧ en x = 11 ∧ rk x = 3) ∨ (x = 2006 ∧ en x = 12 ∧ rk x = 3) := by
    unfold op6 at hx
    unfold en rk
    rcases (show x = 3000 ∨ x = 2000 ∨ x = 2001 ∨ x = 2002 ∨ x = 2003 ∨ x = 2004 ∨ x = 2005 ∨ x = 2006 by omega) with rfl | rfl | rfl | rfl | rfl | rfl | rfl | rfl <;> simp
  unfold B_X5_rankOf_0 at h
  have n16 : ¬ x0 = 16 := fun z => by rw [fa_eq] at z; omega
  by_cases c8 : x0 = 8
  · rw [if_pos c8] at h
    rw [fa_eq] at c8
    obtain ⟨rfl, rfl, rfl⟩ := sm_inj h
    exact ⟨⟨rfl, rfl⟩, by show (4 : Int) = rk x; omega, n16⟩
  · rw [if_neg c8] at h
    rw [fa_eq] at c8
    by_cases c11 : x0 = 11
    · rw [if_pos c11] at h
      rw [fa_eq] at c11
      obtain ⟨rfl, rfl, rfl⟩ := sm_inj h
      exact ⟨⟨rfl, rfl⟩, by show (3 : Int) = rk x; omega, n16⟩
    · rw [if_neg c11] at h
      rw [fa_eq] at c11
      by_cases c12 : x0 = 12
      · rw [if_pos c12] at h
        rw [fa_eq] at c12
        obtain ⟨rfl, rfl, rfl⟩ := sm_inj h
        exact ⟨⟨rfl, rfl⟩, by show (3 : Int) = rk x; omega, n16⟩
      · rw [if_neg c12] at h
        rw [fa_eq] at c12
        by_cases c9 : x0 = 9
        · rw [if_pos c9] at h
          rw [fa_eq] at c9
          obtain ⟨rfl, rfl, rfl⟩ := sm_inj h
          exact ⟨⟨rfl, rfl⟩, by show (2 : Int) = rk x; omega, n16⟩
        · rw [if_neg c9] at h
          rw [fa_eq] at c9
          by_cases c10 : x0 = 10
          · rw [if_pos c10] at h
            rw [fa_eq] at c10
            obtain ⟨rfl, rfl, rfl⟩ := sm_inj h
            exact ⟨⟨rfl, rfl⟩, by show (2 : Int) = rk x; omega, n16⟩
          · rw [if_neg c10] at h
            rw [fa_eq] at c10
            obtain ⟨rfl, rfl, rfl⟩ := sm_inj h
            exact ⟨⟨rfl, rfl⟩, by show (1 : Int) = rk x; omega, n16⟩
theorem x_rel {q : Int} {B : List Int} (hB : B = [] ∨ ∃ B', B = 16 :: B') : ∀ (n : Nat) (s : gI) (t : gJ) (x1 x2 : Int32) (u : Unit) (σ1 : gI) (τ1 : gJ) (H o : List Int), H_X5_release_2 N n s t x1 x2 = some (u, σ1, τ1) → x1.toInt = q → HV s 24 (H.map en ++ B) → (s 21 4).toInt = (H.map en ++ B).length → HV s 22 (o.map en) → (s 21 3).toInt = o.length → o.length + (H.map en ++ B).length ≤ 40 → (0 ≤ x2.toInt ∧ x2.toInt + H.length ≤ 40) → (∀ x, x ∈ H → op6 x) → HV σ1 24 ((rel q H o).1.map en ++ B) ∧ (σ1 21 4).toInt = ((rel q H o).1.map en ++ B).length ∧ HV σ1 22 ((rel q H o).2.map en) ∧ (σ1 21 3).toInt = (rel q H o).2.length ∧ ∀ c k : Nat, ¬ (c = 22 ∨ (c = 21 ∧ (k = 3 ∨ k = 4))) → σ1 c k = s c k := by
  have l0 : (0 : Int32).toInt = 0 := rfl
  have l1 : (1 : Int32).toInt = 1 := rfl
  have l16 : (16 : Int32).toInt = 16 := rfl
  have l40 : (40 : Int32).toInt = 40 := rfl
  intro n
  induction n with
  | zero => intro s t x1 x2 u σ1 τ1 H o h; cases h
  | succ n ih =>
    intro s t x1 x2 u σ1 τ1 H o h hq hV hl hS hsl h40 hx2 hop
    have h : C_X5_release_2 N (H_X5_release_2 N n) s t x1 x2 = some (u, σ1, τ1) := h
    unfold C_X5_release_2 at h
    cases H with
    | nil =>
      have fin : s = σ1 := by
        by_cases c1 : 40 ≤ x2
        · rw [if_pos c1] at h; exact (sm_inj h).2.1
        · rw [if_neg c1] at h
          by_cases c2 : s 21 4 ≤ 0
          · rw [if_pos c2] at h; exact (sm_inj h).2.1
          · rw [if_neg c2] at h
            rw [fa_le] at c2
            by_cases c3 : 40 < s 21 4
            · rw [if_pos c3] at h; exact (sm_inj h).2.1
            · rw [if_neg c3] at h
              rcases hB with rfl | ⟨B', rfl⟩
              · have : (s 21 4).toInt = 0 := hl
                omega
              · have hl' : (s 21 4).toInt = ((B'.length + 1 : Nat) : Int) := hl
                have e1 : (s 21 4 - 1).toInt = B'.length := by rw [ti_sub (by omega) (by omega), l1]; omega
                have nn := nat_of_toInt (i := s 21 4 - 1) (by omega)
                obtain ⟨j, ej, -, h⟩ := ck_some h
                obtain ⟨v5, e5, h⟩ := nm_some h
                have hj : j = B'.length := by omega
                have hv : v5 = 16 := by
                  rw [e5, hj, fa_eq]
                  exact hV.1
                rw [if_pos hv] at h
                exact (sm_inj h).2.1
      rw [← fin]
      exact ⟨hV, hl, hS, hsl, fun _ _ _ => rfl⟩
    | cons y H =>
      have hl' : (s 21 4).toInt = (((H.map en ++ B).length + 1 : Nat) : Int) := hl
      have h40' : o.length + ((H.map en ++ B).length + 1) ≤ 40 := h40
      have hx2' : x2.toInt + ((H.length + 1 : Nat) : Int) ≤ 40 := hx2.2
      rw [if_neg (show ¬ (40 : Int32) ≤ x2 from fun z => by rw [fa_le] at z; omega), if_neg (show ¬ s 21 4 ≤ 0 from fun z => by rw [fa_le] at z; omega), if_neg (show ¬ (40 : Int32) < s 21 4 from fun z => by rw [fa_lt] at z; omega)] at h
      have e1 : (s 21 4 - 1).toInt = (H.map en ++ B).length := by rw [ti_sub (by omega) (by omega), l1]; omega
      have nn := nat_of_toInt (i := s 21 4 - 1) (by omega)
      obtain ⟨j, ej, -, h⟩ := ck_some h
      obtain ⟨v5, e5, h⟩ := nm_some h
      have hj : j = (H.map en ++ B).length := by omega
      have hv : v5.toInt = en y := by
        rw [e5, hj]
        exact hV.1
      have hy := hop y (List.mem_cons_self ..)
      have n16 : ¬ v5 = 16 := by
        intro z
        rw [fa_eq, l16, hv] at z
        unfold op6 at hy
        unfold en at z
        rcases (show y = 3000 ∨ y = 2000 ∨ y = 2001 ∨ y = 2002 ∨ y = 2003 ∨ y = 2004 ∨ y = 2005 ∨ y = 2006 by omega) with rfl | rfl | rfl | rfl | rfl | rfl | rfl | rfl <;> simp at z
      rw [if_neg n16] at h
      obtain ⟨r7, s7, t7, q7, h⟩ := bd_some h
      obtain ⟨⟨z1, z2⟩, k7, -⟩ := x_rankOf hy hv q7
      have er : rel q (y :: H) o = if q ≤ rk y then rel q H (y :: o) else (y :: H, o) := rfl
      rw [er]
      by_cases c : x1 ≤ r7
      · rw [if_pos c] at h
        rw [fa_le] at c
        rw [if_pos (by omega)]
        obtain ⟨s9, e9, h⟩ := nm_some h
        rw [← z1] at e9
        have f9 : ∀ c k : Nat, ¬ (c = 21 ∧ k = 4) → s9 c k = s c k := fun c k hh => by rw [e9]; exact up2_ne hh
        have g9 : (s9 21 4).toInt = (H.map en ++ B).length := by rw [e9, up_eq]; exact e1
        obtain ⟨u10, s10, t10, q10, h⟩ := bd_some h
        have ol : (o.map en).length = o.length := List.length_map ..
        obtain ⟨a1, a2, a3⟩ := x_addStep (o := o.map en) (hv_fr hS (fun k _ => f9 22 k (by omega))) (by rw [f9 21 3 (by omega), ol]; exact hsl) (by omega) q10
        obtain ⟨v11, e11, h⟩ := nm_some h
        have u11 : v11.toInt = x2.toInt + 1 := by rw [e11, ti_add (by omega) (by omega), l1]
        rw [hv] at a1
        have V10 : HV s10 24 (H.map en ++ B) := hv_fr hV.2 (fun k _ => (a3 24 k (by omega)).trans (f9 24 k (by omega)))
        have w := ih s10 t10 x1 v11 u σ1 τ1 H (y :: o) h hq V10 (by rw [a3 21 4 (by omega)]; exact g9) a1 (by rw [a2, ol]; rfl) (by show o.length + 1 + _ ≤ 40; omega) (by omega) (fun x hx => hop x (List.mem_cons_of_mem _ hx))
        exact ⟨w.1, w.2.1, w.2.2.1, w.2.2.2.1, fun c k hh => (w.2.2.2.2 c k hh).trans ((a3 c k (by omega)).trans (f9 c k (by omega)))⟩
      · rw [if_neg c] at h
        rw [fa_le] at c
        rw [if_neg (by omega)]
        obtain ⟨-, w, -⟩ := sm_inj h
        have e : σ1 = s := w.symm.trans z1.symm
        rw [e]
        exact ⟨hV, hl, hS, hsl, fun _ _ _ => rfl⟩
end RU6C
