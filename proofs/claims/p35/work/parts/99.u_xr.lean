/-! THE CLASS'S NEXT -/
/-- the greatest of n counts -/
def mxc (c : Nat → Nat) : Nat → Nat
  | 0 => 0
  | n + 1 => max (mxc c n) (c n)
def IsM (c : Nat → Nat) (M : Int) : Prop := (∀ j : Nat, j < 13 → (c j : Int) ≤ M) ∧ (M = 0 ∨ ∃ j : Nat, j < 13 ∧ (c j : Int) = M)
theorem mxc_le (c : Nat → Nat) : ∀ n : Nat, (∀ j : Nat, j < n → c j ≤ mxc c n) ∧ (mxc c n = 0 ∨ ∃ j : Nat, j < n ∧ c j = mxc c n) := by
  intro n
  induction n with
  | zero => exact ⟨fun j h => by omega, Or.inl rfl⟩
  | succ n ih =>
    have e : mxc c (n + 1) = max (mxc c n) (c n) := rfl
    rw [e]
    refine ⟨fun j hj => ?_, ?_⟩
    · by_cases d : j = n
      · rw [d]; omega
      · have := ih.1 j (by omega); omega
    · by_cases d : mxc c n ≤ c n
      · exact Or.inr ⟨n, by omega, by omega⟩
      · rcases ih.2 with z | ⟨j, z1, z2⟩
        · omega
        · exact Or.inr ⟨j, by omega, by omega⟩
theorem ism_mxc {c : Nat → Nat} {M : Int} (h : IsM c M) : M = mxc c 13 := by
  obtain ⟨h1, h2⟩ := h
  obtain ⟨z1, z2⟩ := mxc_le c 13
  have h0 := h1 0 (by omega)
  rcases h2 with h2 | ⟨j, h3, h4⟩
  · rcases z2 with z2 | ⟨i, z3, z4⟩
    · omega
    · have := h1 i z3; omega
  · have := z1 j h3
    rcases z2 with z2 | ⟨i, z3, z4⟩
    · omega
    · have := h1 i z3; omega
/-- the place of a kitchen among the counts -/
def tx (v : Int32) : Nat := if 0 ≤ v.toInt ∧ v.toInt < 12 then v.toInt.toNat else 12
theorem tx_lt (v : Int32) : tx v < 13 := by
  unfold tx
  split <;> omega
section SIM34L
variable {N : Nat} {σ σ1 : gI} {τ τ1 : gJ} {r : Int32}
theorem x_tally {x1 : Int32} (h : B_X9_tally_0 N σ τ x1 = some (r, σ1, τ1)) : r = σ 163 (tx x1) + 1 ∧ σ1 = up2 σ 163 (tx x1) (σ 163 (tx x1) + 1) := by
  have l0 : (0 : Int32).toInt = 0 := rfl
  have l12 : (12 : Int32).toInt = 12 := rfl
  unfold B_X9_tally_0 at h
  have fin : B_X9_tally_14 N σ τ = some (r, σ1, τ1) → r = σ 163 12 + 1 ∧ σ1 = up2 σ 163 12 (σ 163 12 + 1) := by
    intro h
    unfold B_X9_tally_14 at h
    obtain ⟨s, e, h⟩ := nm_some h
    obtain ⟨a, b, -⟩ := sm_inj h
    exact ⟨by rw [← a, e, up_eq], by rw [← b, e]⟩
  by_cases c1 : x1 < 0
  · rw [if_pos c1] at h
    rw [fa_lt, l0] at c1
    have e : tx x1 = 12 := by unfold tx; rw [if_neg (by omega)]
    rw [e]; exact fin h
  · rw [if_neg c1] at h
    rw [fa_lt, l0] at c1
    by_cases c2 : 12 ≤ x1
    · rw [if_pos c2] at h
      rw [fa_le, l12] at c2
      have e : tx x1 = 12 := by unfold tx; rw [if_neg (by omega)]
      rw [e]; exact fin h
    · rw [if_neg c2] at h
      rw [fa_le, l12] at c2
      have nn := nat_of_toInt (i := x1) (by omega)
      obtain ⟨j, ej, -, h⟩ := ck_some h
      have e : tx x1 = j := by unfold tx; rw [if_pos (by omega)]; omega
      rw [e]
      obtain ⟨s, e, h⟩ := nm_some h
      obtain ⟨a, b, -⟩ := sm_inj h
      exact ⟨by rw [← a, e, up_eq], by rw [← b, e]⟩
/-- sets that fit, ending so -/
def gT (σ s : gI) (cd : Nat → Int32) (L : Int) (p m : Int32) (j a : Nat) : Bool := (!decide (s 162 a = 0)) && decide (tx (Eo σ cd L p m (Int32.ofNat a)) = j)
theorem x_ml31 {p m : Int32} {cd : Nat → Int32} {L : Int} {f : Nat} (hF : BF σ cd L) (hp : 0 ≤ p.toInt ∧ p.toInt < (σ 3 6).toInt) (hm : 0 ≤ m.toInt ∧ m.toInt ≤ 999) (hf : f < 4096) (h37 : σ 3 7 = Int32.ofNat f) : ∀ (R : List Nat) (n : Nat) (s : gI) (t : gJ) (x1 x2 x3 r : Int32) (σ1 : gI) (τ1 : gJ), H_X9_mostLeft_31 N n s t x1 x2 x3 = some (r, σ1, τ1) → XF σ s → SD s p m (if σ 4 (ix p) = 6 then 1 else 0) → MM s f (Eo σ cd L p m) → Ch f 0 R → HDx x2 R → (∀ e, e ∈ R → e < 4096 ∧ e &&& f = e) → (x3.toInt + R.length = (σ 3 8).toInt ∧ 0 ≤ x3.toInt) → (∀ j : Nat, j < 13 → 0 ≤ (s 163 j).toInt ∧ (s 163 j).toInt + R.length ≤ 4096) → (∀ j : Nat, j < 13 → (s 163 j).toInt ≤ x1.toInt) → (x1.toInt = 0 ∨ ∃ j : Nat, j < 13 ∧ (s 163 j).toInt = x1.toInt) → XF σ σ1 ∧ (∀ k : Nat, σ1 162 k = s 162 k) ∧ (∀ j : Nat, j < 13 → (σ1 163 j).toInt = (s 163 j).toInt + cf (gT σ s cd L p m j) R) ∧ (∀ j : Nat, j < 13 → (σ1 163 j).toInt ≤ r.toInt) ∧ (r.toInt = 0 ∨ ∃ j : Nat, j < 13 ∧ (σ1 163 j).toInt = r.toInt) := by
  have l1 : (1 : Int32).toInt = 1 := rfl
  intro R
  induction R with
  | nil =>
    intro n s t x1 x2 x3 r σ1 τ1 h hX hS hM _ _ _ hx hc hi1 hi2
    cases n with
    | zero => cases h
    | succ n =>
      have h : C_X9_mostLeft_31 N (H_X9_mostLeft_31 N n) s t x1 x2 x3 = some (r, σ1, τ1) := h
      unfold C_X9_mostLeft_31 at h
      have hl : ([] : List Nat).length = 0 := rfl
      rw [hl] at hx
      rw [hX 3 8 (by omega), if_pos (by rw [fa_le]; omega)] at h
      obtain ⟨w1, w2, -⟩ := sm_inj h
      rw [← w1, ← w2]
      exact ⟨hX, fun _ => rfl, fun j _ => by
        show (s 163 j).toInt = (s 163 j).toInt + ((0 : Nat) : Int)
        omega, hi1, hi2⟩
  | cons e R ih =>
    intro n s t x1 x2 x3 r σ1 τ1 h hX hS hM hC hD hb hx hc hi1 hi2
    cases n with
    | zero => cases h
    | succ n =>
      have h : C_X9_mostLeft_31 N (H_X9_mostLeft_31 N n) s t x1 x2 x3 = some (r, σ1, τ1) := h
      unfold C_X9_mostLeft_31 at h
      have hl : (e :: R).length = R.length + 1 := rfl
      rw [hl] at hx hc
      have r8 := i32_rng (σ 3 8)
      rw [hX 3 8 (by omega), if_neg (fun z => by rw [fa_le] at z; omega)] at h
      obtain ⟨he, hef⟩ := hb e (List.mem_cons_self ..)
      have hD : x2 = Int32.ofNat e := hD
      rw [hD] at h
      obtain ⟨r2, s2, t2, q2, h⟩ := bd_some h
      obtain ⟨w2, k2⟩ := x_fits he q2
      rw [← w2] at h
      have hb2 : ∀ e9, e9 ∈ R → e9 < 4096 ∧ e9 &&& f = e9 := fun e9 h9 => hb e9 (List.mem_cons_of_mem _ h9)
      have ec : ∀ j : Nat, cf (gT σ s cd L p m j) (e :: R) = (if gT σ s cd L p m j e = true then 1 else 0) + cf (gT σ s cd L p m j) R := fun _ => rfl
      by_cases c : s 162 e = 0
      · rw [if_pos c] at k2
        rw [if_pos k2] at h
        obtain ⟨r5, s5, t5, q5, h⟩ := bd_some h
        obtain ⟨w5, k5⟩ := x_nextSet (by rw [hX 3 7 (by omega)]; exact h37) q5
        rw [← w5] at h
        obtain ⟨v6, e6, h⟩ := nm_some h
        have u6 : v6.toInt = x3.toInt + 1 := by rw [e6, ti_add (by omega) (by omega), l1]
        obtain ⟨y1, y2, y3, y4⟩ := ih n s t5 x1 r5 v6 r σ1 τ1 h hX hS hM (ch_tl hC) (by rw [k5]; exact hd_next hf he hC) hb2 (by omega) (fun j hj => by have := hc j hj; omega) hi1 hi2
        refine ⟨y1, y2, fun j hj => ?_, y4⟩
        have g0 : gT σ s cd L p m j e = false := by
          unfold gT
          rw [decide_eq_true c]
          rfl
        rw [y3 j hj, ec, g0, if_neg (by decide)]
        omega
      · rw [if_neg c] at k2
        rw [if_neg (show ¬ r2 = 0 by rw [k2]; decide)] at h
        obtain ⟨r6, s6, t6, q6, h⟩ := bd_some h
        obtain ⟨a1, a2, a3, a4, a5⟩ := x_out9 hF hX hS hp hm he hf hef h37 hM q6
        obtain ⟨r7, s7, t7, q7, h⟩ := bd_some h
        obtain ⟨w7, k7⟩ := x_kitOf q7
        rw [a3] at k7
        rw [← w7, k7] at h
        obtain ⟨r8', s8, t8, q8, h⟩ := bd_some h
        obtain ⟨k8, w8⟩ := x_tally q8
        rw [a5 163 _ (Or.inr rfl)] at k8 w8
        obtain ⟨v9, e9, h⟩ := nm_some h
        generalize hj0 : tx (Eo σ cd L p m (Int32.ofNat e)) = j0 at k8 w8
        have j13 : j0 < 13 := by rw [← hj0]; exact tx_lt _
        have hc0 := hc j0 j13
        have u8 : (s 163 j0 + 1).toInt = (s 163 j0).toInt + 1 := by rw [ti_add (by omega) (by omega), l1]
        have f8 : ∀ c k : Nat, ¬ (c = 163) → s8 c k = s6 c k := fun c k hh => by rw [w8]; exact up2_ne (by omega)
        have n8 : ∀ j : Nat, (s8 163 j).toInt = (s 163 j).toInt + (if j = j0 then 1 else 0) := fun j => by
          by_cases d : j = j0
          · rw [d, w8, up_eq, if_pos rfl, u8]
          · rw [w8, up2_ne (by omega), if_neg d, a5 163 j (Or.inr rfl)]; omega
        have X8 : XF σ s8 := fun c k hh => (f8 c k (by omega)).trans (a1 c k hh)
        obtain ⟨r5, s5, t5, q5, h⟩ := bd_some h
        obtain ⟨w5, k5⟩ := x_nextSet (by rw [X8 3 7 (by omega)]; exact h37) q5
        rw [← w5] at h
        obtain ⟨v6, e6, h⟩ := nm_some h
        have u6 : v6.toInt = x3.toInt + 1 := by rw [e6, ti_add (by omega) (by omega), l1]
        have im := imax_c x1 r8'
        rw [← e9, k8, u8] at im
        have b1 := hi1 j0 j13
        obtain ⟨y1, y2, y3, y4⟩ := ih n s8 t5 v9 r5 v6 r σ1 τ1 h X8 (sd_fr a2 (fun c k hh => f8 c k (by omega))) (fun a h1 h2 => by rw [f8 161 a (by omega)]; exact a4 a h1 h2) (ch_tl hC) (by rw [k5]; exact hd_next hf he hC) hb2 (by omega) (fun j hj => by
          have := hc j hj
          rw [n8 j]
          split <;> omega) (fun j hj => by
          have := hi1 j hj
          rw [n8 j]
          by_cases d : j = j0
          · rw [if_pos d, d]; omega
          · rw [if_neg d]; omega) (by
          by_cases d : v9.toInt = x1.toInt
          · rcases hi2 with z | ⟨j, z1, z2⟩
            · exact Or.inl (by omega)
            · right
              refine ⟨j, z1, ?_⟩
              have : j ≠ j0 := fun z => by rw [z] at z2; omega
              rw [n8 j, if_neg this]; omega
          · right
            refine ⟨j0, j13, ?_⟩
            rw [n8 j0, if_pos rfl]; omega)
        refine ⟨y1, fun k => (y2 k).trans ((f8 162 k (by omega)).trans (a5 162 k (Or.inl rfl))), fun j hj => ?_, y4⟩
        have eg : gT σ s8 cd L p m j = gT σ s cd L p m j := funext fun a => by
          unfold gT
          rw [f8 162 a (by omega), a5 162 a (Or.inl rfl)]
        have g0 : gT σ s cd L p m j e = decide (j0 = j) := by
          unfold gT
          rw [decide_eq_false c, hj0]
          rfl
        rw [y3 j hj, eg, n8 j, ec, g0]
        by_cases d : j0 = j
        · rw [if_pos d.symm, decide_eq_true d, if_pos rfl]; omega
        · rw [if_neg (fun z => d z.symm), decide_eq_false d, if_neg (by decide)]; omega
theorem x_ml6 : ∀ (n : Nat) (s : gI) (t : gJ) (x1 r : Int32) (σ1 : gI) (τ1 : gJ), H_X9_mostLeft_6 N n s t x1 = some (r, σ1, τ1) → (0 ≤ x1.toInt ∧ x1.toInt ≤ 13) → (∀ j : Nat, (j : Int) < x1.toInt → s 163 j = 0) → ∃ (s3 : gI) (t3 : gJ), H_X9_mostLeft_31 N N s3 t3 0 0 0 = some (r, σ1, τ1) ∧ (∀ j : Nat, j < 13 → s3 163 j = 0) ∧ ∀ c k : Nat, ¬ (c = 163) → s3 c k = s c k := by
  have l1 : (1 : Int32).toInt = 1 := rfl
  have l12 : (12 : Int32).toInt = 12 := rfl
  intro n
  induction n with
  | zero => intro s t x1 r σ1 τ1 h; cases h
  | succ n ih =>
    intro s t x1 r σ1 τ1 h hx h0
    have h : C_X9_mostLeft_6 N (H_X9_mostLeft_6 N n) s t x1 = some (r, σ1, τ1) := h
    unfold C_X9_mostLeft_6 at h
    by_cases c : 12 < x1
    · rw [if_pos c] at h
      rw [fa_lt, l12] at c
      exact ⟨s, t, h, fun j hj => h0 j (by omega), fun _ _ _ => rfl⟩
    · rw [if_neg c] at h
      rw [fa_lt, l12] at c
      have nn := nat_of_toInt (i := x1) hx.1
      obtain ⟨j, ej, -, h⟩ := ck_some h
      obtain ⟨s3, e3, h⟩ := nm_some h
      obtain ⟨v4, e4, h⟩ := nm_some h
      have u4 : v4.toInt = x1.toInt + 1 := by rw [e4, ti_add (by omega) (by omega), l1]
      obtain ⟨s9, t9, y1, y2, y3⟩ := ih s3 t v4 r σ1 τ1 h (by omega) (fun i hi => by
        by_cases d : i = j
        · rw [d, e3, up_eq]
        · rw [e3, up2_ne (by omega)]; exact h0 i (by omega))
      exact ⟨s9, t9, y1, y2, fun c k hh => (y3 c k hh).trans (by rw [e3]; exact up2_ne (by omega))⟩
/-- the counts of a trial -/
def gC (σ : gI) (cd : Nat → Int32) (L : Int) (Ls : List Nat) (p m : Int32) (j : Nat) : Nat := cf (fun a => gB σ cd L a && decide (tx (Eo σ cd L p m (Int32.ofNat a)) = j)) Ls
theorem x_mostLeft {p m : Int32} {cd : Nat → Int32} {L : Int} {f : Nat} {Ls : List Nat} {s : gI} {t : gJ} (hF : BF σ cd L) (hW : TWN σ f Ls) (hp : 0 ≤ p.toInt ∧ p.toInt < (σ 3 6).toInt) (hm : 0 ≤ m.toInt ∧ m.toInt ≤ 999) (hX : XF σ s) (hS : SD s p m (if σ 4 (ix p) = 6 then 1 else 0)) (hg : ∀ a, a ∈ Ls → (!decide (s 162 a = 0)) = gB σ cd L a) (h : B_X9_mostLeft_0 N s t = some (r, σ1, τ1)) : XF σ σ1 ∧ (∀ k : Nat, σ1 162 k = s 162 k) ∧ r.toInt = mxc (gC σ cd L Ls p m) 13 := by
  have l0 : (0 : Int32).toInt = 0 := rfl
  obtain ⟨hW1, hW2, ⟨q, hW3⟩, hW4, hW5, hW6, hW7⟩ := id hW
  unfold B_X9_mostLeft_0 at h
  obtain ⟨u1, s1, t1, q1, h⟩ := bd_some h
  unfold B_X9_forgetSets_0 at q1
  obtain ⟨g1, g2, g3⟩ := x_forg4 hW1.2 Ls N s t 0 0 u1 s1 t1 q1 (by rw [hX 3 7 (by omega)]; exact hW1.1) hW2 (by rw [hW3]; exact hd_0 q) (fun e he => (twn_lt hW he).1) (by rw [hX 3 8 (by omega), hW4, l0]; omega)
  obtain ⟨s3, t3, y1, y2, y3⟩ := x_ml6 N s1 t1 0 r σ1 τ1 h (by decide) (fun j hj => by rw [l0] at hj; omega)
  have f3 : ∀ c k : Nat, ¬ (c = 161 ∨ c = 163) → s3 c k = s c k := fun c k hh => (y3 c k (by omega)).trans (g1 c k (by omega))
  have z0 : ∀ j : Nat, j < 13 → (s3 163 j).toInt = 0 := fun j hj => by rw [y2 j hj]; rfl
  obtain ⟨w1, w2, w3, w4, w5⟩ := x_ml31 hF hp hm hW1.2 hW1.1 Ls N s3 t3 0 0 0 r σ1 τ1 y1 (fun c k hh => (f3 c k (by omega)).trans (hX c k hh)) (sd_fr hS (fun c k hh => f3 c k (by omega))) (mm_fresh hW5 (fun e he => (y3 161 e (by omega)).trans (g3 e he))) hW2 (by rw [hW3]; exact hd_0 q) (fun e he => twn_lt hW he) (by rw [hW4, l0]; omega) (fun j hj => by rw [z0 j hj]; omega) (fun j hj => by rw [z0 j hj, l0]; omega) (Or.inl l0)
  refine ⟨w1, fun k => (w2 k).trans (f3 162 k (by omega)), ism_mxc ?_⟩
  have ec : ∀ j : Nat, j < 13 → (σ1 163 j).toInt = gC σ cd L Ls p m j := fun j hj => by
    rw [w3 j hj, z0 j hj]
    have : cf (gT σ s3 cd L p m j) Ls = gC σ cd L Ls p m j := cf_cg Ls (fun a ha => by
      unfold gT
      rw [f3 162 a (by omega), hg a ha])
    rw [this]; omega
  refine ⟨fun j hj => by rw [← ec j hj]; exact w4 j hj, ?_⟩
  rcases w5 with z | ⟨j, z1, z2⟩
  · exact Or.inl z
  · exact Or.inr ⟨j, z1, by rw [← ec j z1]; exact z2⟩
/-- the best of the places, from p on -/
def nxf (M : Nat → Nat) : Nat → Nat → Int → Int → Int × Int
  | 0, _, b, w => (b, w)
  | k + 1, p, b, w => if w ≤ (M p : Int) then nxf M k (p + 1) b w else nxf M k (p + 1) p (M p)
theorem x_next32 {m : Int32} {cd : Nat → Int32} {L : Int} {f : Nat} {Ls : List Nat} (hF : BF σ cd L) (hW : TWN σ f Ls) (hm : 0 ≤ m.toInt ∧ m.toInt ≤ 999) : ∀ (n : Nat) (s : gI) (t : gJ) (x2 x3 x4 r : Int32) (σ1 : gI) (τ1 : gJ), H_X11_next_32 N n s t m x2 x3 x4 = some (r, σ1, τ1) → XF σ s → (∀ a, a ∈ Ls → (!decide (s 162 a = 0)) = gB σ cd L a) → (0 ≤ x4.toInt ∧ x4.toInt ≤ (σ 3 6).toInt) → r.toInt = (if (nxf (fun p => mxc (gC σ cd L Ls (Int32.ofNat p) m) 13) ((σ 3 6).toInt - x4.toInt).toNat x4.toInt.toNat x2.toInt x3.toInt).2 = 0 then -2 else (nxf (fun p => mxc (gC σ cd L Ls (Int32.ofNat p) m) 13) ((σ 3 6).toInt - x4.toInt).toNat x4.toInt.toNat x2.toInt x3.toInt).1) := by
  have l1 : (1 : Int32).toInt = 1 := rfl
  have l0 : (0 : Int32).toInt = 0 := rfl
  have h12 := hF.2.2.2.2.1.2.1
  generalize hMM : (fun p : Nat => mxc (gC σ cd L Ls (Int32.ofNat p) m) 13) = M
  intro n
  induction n with
  | zero => intro s t x2 x3 x4 r σ1 τ1 h; cases h
  | succ n ih =>
    intro s t x2 x3 x4 r σ1 τ1 h hX hg hx
    have h : C_X11_next_32 N (H_X11_next_32 N n) s t m x2 x3 x4 = some (r, σ1, τ1) := h
    unfold C_X11_next_32 at h
    rw [hX 3 6 (by omega)] at h
    by_cases c : σ 3 6 ≤ x4
    · rw [if_pos c] at h
      rw [fa_le] at c
      rw [show ((σ 3 6).toInt - x4.toInt).toNat = 0 by omega]
      show r.toInt = if x3.toInt = 0 then -2 else x2.toInt
      by_cases d : x3 = 0
      · rw [if_pos d] at h
        obtain ⟨w, -, -⟩ := sm_inj h
        rw [← w, d, if_pos l0]
        rfl
      · rw [if_neg d] at h
        obtain ⟨u3, s3, t3, -, h⟩ := bd_some h
        obtain ⟨w, -, -⟩ := sm_inj h
        rw [fa_eq, l0] at d
        rw [← w, if_neg d]
    · rw [if_neg c] at h
      rw [fa_le] at c
      obtain ⟨u4, s4, t4, q4, h⟩ := bd_some h
      obtain ⟨S4, f4⟩ := x_think (bf_fr hF hX).2.2.2.2.1 (by rw [hX 3 6 (by omega)]; omega) q4
      rw [hX 4 _ (by omega)] at S4
      have X4 : XF σ s4 := fun c k hh => (f4 c k (by omega)).trans (hX c k hh)
      obtain ⟨r5, s5, t5, q5, h⟩ := bd_some h
      obtain ⟨y1, y2, y3⟩ := x_mostLeft hF hW (p := x4) (m := m) (by omega) hm X4 S4 (fun a ha => by rw [f4 162 a (by omega)]; exact hg a ha) q5
      have eM : M x4.toInt.toNat = mxc (gC σ cd L Ls x4 m) 13 := by
        rw [← hMM]
        show mxc (gC σ cd L Ls (Int32.ofNat x4.toInt.toNat) m) 13 = _
        rw [← ofn_of hx.1]
      rw [← eM] at y3
      have g5 : ∀ a, a ∈ Ls → (!decide (s5 162 a = 0)) = gB σ cd L a := fun a ha => by
        rw [y2 a, f4 162 a (by omega)]; exact hg a ha
      rw [show ((σ 3 6).toInt - x4.toInt).toNat = ((σ 3 6).toInt - (x4.toInt + 1)).toNat + 1 by omega]
      have en : nxf M (((σ 3 6).toInt - (x4.toInt + 1)).toNat + 1) x4.toInt.toNat x2.toInt x3.toInt = if x3.toInt ≤ (M x4.toInt.toNat : Int) then nxf M ((σ 3 6).toInt - (x4.toInt + 1)).toNat (x4.toInt.toNat + 1) x2.toInt x3.toInt else nxf M ((σ 3 6).toInt - (x4.toInt + 1)).toNat (x4.toInt.toNat + 1) x4.toInt.toNat (M x4.toInt.toNat) := rfl
      rw [en]
      by_cases d : x3 ≤ r5
      · rw [if_pos d] at h
        rw [fa_le, y3] at d
        rw [if_pos d]
        obtain ⟨v7, e7, h⟩ := nm_some h
        have u7 : v7.toInt = x4.toInt + 1 := by rw [e7, ti_add (by omega) (by omega), l1]
        have z := ih s5 t5 x2 x3 v7 r σ1 τ1 h y1 g5 (by omega)
        rw [u7, show (x4.toInt + 1).toNat = x4.toInt.toNat + 1 by omega] at z
        exact z
      · rw [if_neg d] at h
        rw [fa_le, y3] at d
        rw [if_neg d]
        obtain ⟨v7, e7, h⟩ := nm_some h
        have u7 : v7.toInt = x4.toInt + 1 := by rw [e7, ti_add (by omega) (by omega), l1]
        have z := ih s5 t5 x4 r5 v7 r σ1 τ1 h y1 g5 (by omega)
        rw [u7, show (x4.toInt + 1).toNat = x4.toInt.toNat + 1 by omega, y3] at z
        rw [show ((x4.toInt.toNat : Nat) : Int) = x4.toInt by omega]
        exact z
theorem x_next11 {m : Int32} {cd : Nat → Int32} {L : Int} {f : Nat} {Ls : List Nat} (hF : BF σ cd L) (hW : TWN σ f Ls) (hK : CKc σ) (h : B_X11_next_0 N σ τ m = some (r, σ1, τ1)) : r.toInt = (if (σ 3 6).toInt = 0 ∨ ¬ (0 ≤ m.toInt ∧ m.toInt ≤ 999) then -1 else if (nxf (fun p => mxc (gC σ cd L Ls (Int32.ofNat p) m) 13) (σ 3 6).toInt.toNat 0 (-1) 4097).2 = 0 then -2 else (nxf (fun p => mxc (gC σ cd L Ls (Int32.ofNat p) m) 13) (σ 3 6).toInt.toNat 0 (-1) 4097).1) := by
  have l0 : (0 : Int32).toInt = 0 := rfl
  have l9 : (999 : Int32).toInt = 999 := rfl
  have h12 := hF.2.2.2.2.1.2.1
  unfold B_X11_next_0 at h
  by_cases c : σ 3 6 = 0
  · rw [if_pos c] at h
    obtain ⟨w, -, -⟩ := sm_inj h
    rw [fa_eq, l0] at c
    rw [if_pos (Or.inl c), ← w]
    rfl
  · rw [if_neg c] at h
    rw [fa_eq, l0] at c
    obtain ⟨r2, s2, t2, q2, h⟩ := bd_some h
    have k2 : s2 = σ ∧ (r2 = 0 ↔ ¬ (0 ≤ m.toInt ∧ m.toInt ≤ 999)) := by
      unfold B_X11_isCorkMinute_0 at q2
      by_cases d1 : m < 0
      · rw [if_pos d1] at q2
        rw [fa_lt, l0] at d1
        obtain ⟨a, b, -⟩ := sm_inj q2
        exact ⟨b.symm, fun _ z => by omega, fun _ => a.symm⟩
      · rw [if_neg d1] at q2
        rw [fa_lt, l0] at d1
        by_cases d2 : 999 < m
        · rw [if_pos d2] at q2
          rw [fa_lt, l9] at d2
          obtain ⟨a, b, -⟩ := sm_inj q2
          exact ⟨b.symm, fun _ z => by omega, fun _ => a.symm⟩
        · rw [if_neg d2] at q2
          rw [fa_lt, l9] at d2
          obtain ⟨a, b, -⟩ := sm_inj q2
          exact ⟨b.symm, fun z => by rw [← a] at z; exact absurd z (by decide), fun z => absurd ⟨by omega, by omega⟩ z⟩
    by_cases d : r2 = 0
    · rw [if_pos d] at h
      obtain ⟨w, -, -⟩ := sm_inj h
      rw [if_pos (Or.inr (k2.2.mp d)), ← w]
      rfl
    · rw [if_neg d] at h
      have hm : 0 ≤ m.toInt ∧ m.toInt ≤ 999 := by
        by_cases e : 0 ≤ m.toInt ∧ m.toInt ≤ 999
        · exact e
        · exact absurd (k2.2.mpr e) d
      rw [if_neg (fun z => by rcases z with z | z; exact c z; exact z hm)]
      obtain ⟨u4, s4, t4, q4, h⟩ := bd_some h
      rw [k2.1] at q4
      obtain ⟨X4, g4⟩ := x_findFits hF hW hK q4
      have z := x_next32 hF hW hm N s4 t4 (-1) 4097 0 r σ1 τ1 h X4 g4 (by rw [l0]; omega)
      have lm : (-1 : Int32).toInt = -1 := rfl
      have l7 : (4097 : Int32).toInt = 4097 := rfl
      rw [l0, lm, l7, show ((σ 3 6).toInt - 0).toNat = (σ 3 6).toInt.toNat by omega] at z
      exact z
end SIM34L
