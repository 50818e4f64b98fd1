/-! THE REFERENCE'S FITS, MAPS, NEXT -/
def cr (g : Nat → Bool) : Nat → Nat → Nat
  | _, 0 => 0
  | lo, c + 1 => (if g lo = true then 1 else 0) + cr g (lo + 1) c
theorem cr_cf (p g : Nat → Bool) : ∀ c lo : Nat, cr (fun k => p k && g k) lo c = cf g (ff p lo c) := by
  intro c
  induction c with
  | zero => intro lo; rfl
  | succ c ih =>
    intro lo
    show (if (p lo && g lo) = true then 1 else 0) + cr (fun k => p k && g k) (lo + 1) c = cf g (if p lo = true then lo :: ff p (lo + 1) c else ff p (lo + 1) c)
    rw [ih]
    by_cases d : p lo = true
    · rw [if_pos d, d, Bool.true_and]
      rfl
    · rw [if_neg d]
      have : p lo = false := Bool.eq_false_iff.mpr d
      rw [this, Bool.false_and, if_neg (by decide), Nat.zero_add]
theorem cr_cg {g h : Nat → Bool} : ∀ c lo : Nat, (∀ a, lo ≤ a → a < lo + c → g a = h a) → cr g lo c = cr h lo c := by
  intro c
  induction c with
  | zero => intro lo _; rfl
  | succ c ih =>
    intro lo hh
    show (if g lo = true then 1 else 0) + cr g (lo + 1) c = (if h lo = true then 1 else 0) + cr h (lo + 1) c
    rw [hh lo (by omega) (by omega), ih (lo + 1) (fun a h1 h2 => hh a (by omega) (by omega))]
theorem cr_le (g : Nat → Bool) : ∀ c lo : Nat, cr g lo c ≤ c := by
  intro c
  induction c with
  | zero => intro lo; exact Nat.le_refl 0
  | succ c ih =>
    intro lo
    have := ih (lo + 1)
    show (if g lo = true then 1 else 0) + cr g (lo + 1) c ≤ c + 1
    split <;> omega
theorem sub_iff {k f : Nat} (hk : k < 4096) (hf : f < 4096) : Int32.ofNat k &&& (Int32.ofNat f ^^^ (-1)) = 0 ↔ k &&& f = k := by
  constructor
  · intro h
    refine Nat.eq_of_testBit_eq (fun i => ?_)
    rw [Nat.testBit_and]
    by_cases c : i < 32
    · have z := congrArg (fun v => bt v i) h
      have z : bt (Int32.ofNat k &&& (Int32.ofNat f ^^^ (-1))) i = bt 0 i := z
      rw [b_and, b_xor, b_m1 i c, b_0, bt_ofn c, bt_ofn c] at z
      cases h1 : k.testBit i <;> cases h2 : f.testBit i <;> first | rfl | (rw [h1, h2] at z; exact absurd z (by decide))
    · rw [tb_big hk (by omega)]; rfl
  · intro h
    refine b_ext (fun i hi => ?_)
    rw [b_and, b_xor, b_m1 i hi, b_0, bt_ofn hi, bt_ofn hi]
    have z := congrArg (fun v => Nat.testBit v i) h
    have z : (k &&& f).testBit i = k.testBit i := z
    rw [Nat.testBit_and] at z
    cases h1 : k.testBit i <;> cases h2 : f.testBit i <;> first | rfl | (rw [h1, h2] at z; exact absurd z (by decide))
section SIM34M
variable {N : Nat} {σ σ1 : gI} {τ τ1 : gJ} {r : Int32}
def BV (σ : gI) (cd : Nat → Int32) (L : Int) : Prop := σ 199 31 = 0 ∧ σ 199 33 = 0 ∧ (0 ≤ (σ 199 3).toInt ∧ (σ 199 3).toInt ≤ 12) ∧ TK (TT σ) (σ 199 3).toInt ∧ (0 ≤ L ∧ L ≤ 80) ∧ CW cd L ∧ (σ 199 28).toInt = L ∧ ∀ k : Nat, (k : Int) < L → σ 216 k = cd k
def wtv (σ : gI) : Int32 → Int32 := wtr (σ 199 4) (σ 205)
def rvr (σ : gI) (cd : Nat → Int32) (L : Int) (pl t : Int32) : SB → Int32 := RVL cd L pl t (wtr (σ 199 4) (σ 205) t)
def Er (σ : gI) (cd : Nat → Int32) (L : Int) (p m pl : Int32) : Int32 := flo (TT σ) (rvr σ cd L pl) (wtv σ) p m
def YF (σ s : gI) : Prop := ∀ c k : Nat, ¬ (c = 218 ∨ c = 224 ∨ c = 229 ∨ c = 230 ∨ (c = 199 ∧ (k = 0 ∨ k = 1 ∨ k = 34 ∨ k = 45 ∨ k = 46))) → s c k = σ c k
theorem x_float {s : gI} {t : gJ} {p m pl : Int32} {cd : Nat → Int32} {L : Int} (hV : BV σ cd L) (hY : YF σ s) (hp : 0 ≤ p.toInt ∧ p.toInt < (σ 199 3).toInt) (hm : 0 ≤ m.toInt ∧ m.toInt ≤ 999) (h : B_X12_floatsTo_0 N s t p m pl = some (r, σ1, τ1)) : r = Er σ cd L p m pl ∧ YF σ σ1 ∧ ∀ c k : Nat, c = 229 ∨ c = 230 → σ1 c k = s c k := by
  obtain ⟨a1, a2, a3, a4, a5, a6, a7, a8⟩ := hV
  have eT : TT s = TT σ := tt_fr (fun c k h1 h2 => hY c k (by omega))
  have e4 : s 199 4 = σ 199 4 := hY 199 4 (by omega)
  have e5 : s 205 = σ 205 := funext fun k => hY 205 k (by omega)
  have z := x_floats (n0 := (σ 199 3).toInt) (cd := cd) (L := L) (by rw [hY 199 31 (by omega)]; exact a1) (by rw [hY 199 33 (by omega)]; exact a2) a3.2 (by rw [eT]; exact a4) a5 a6 (by rw [hY 199 28 (by omega)]; exact a7) (fun k hk => by rw [hY 216 k (by omega)]; exact a8 k hk) hp hm h
  rw [eT, e4, e5] at z
  exact ⟨z.1, fun c k hh => (z.2 c k (by omega)).trans (hY c k hh), fun c k hh => z.2 c k (by omega)⟩
theorem x_forks4 {s : gI} (hn : 0 ≤ (s 199 3).toInt ∧ (s 199 3).toInt ≤ 12) : ∀ (n : Nat) (t : gJ) (x1 x2 r : Int32) (σ1 : gI) (τ1 : gJ), H_X12_forks_4 N n s t x1 x2 = some (r, σ1, τ1) → (0 ≤ x2.toInt ∧ x2.toInt ≤ (s 199 3).toInt) → x1 = fk 1 (s 201) x2.toInt.toNat → s = σ1 ∧ r = fk 1 (s 201) (s 199 3).toInt.toNat := by
  have l1 : (1 : Int32).toInt = 1 := rfl
  intro n
  induction n with
  | zero => intro t x1 x2 r σ1 τ1 h; cases h
  | succ n ih =>
    intro t x1 x2 r σ1 τ1 h hx h1
    have h : C_X12_forks_4 N (H_X12_forks_4 N n) s t x1 x2 = some (r, σ1, τ1) := h
    unfold C_X12_forks_4 at h
    by_cases c : s 199 3 ≤ x2
    · rw [if_pos c] at h
      rw [fa_le] at c
      obtain ⟨a, b, -⟩ := sm_inj h
      exact ⟨b, by rw [← a, h1, show x2.toInt = (s 199 3).toInt by omega]⟩
    · rw [if_neg c] at h
      rw [fa_le] at c
      have nn := nat_of_toInt (i := x2) hx.1
      obtain ⟨j, ej, -, h⟩ := ck_some h
      have hj : j = x2.toInt.toNat := by omega
      rw [hj] at h
      have ex : x2 = Int32.ofNat x2.toInt.toNat := ofn_of hx.1
      have ef : fk 1 (s 201) (x2.toInt.toNat + 1) = if s 201 x2.toInt.toNat = 1 then fk 1 (s 201) x2.toInt.toNat ||| (1 <<< (Int32.ofNat x2.toInt.toNat &&& 31)) else fk 1 (s 201) x2.toInt.toNat := rfl
      rw [← ex, ← h1] at ef
      by_cases d : s 201 x2.toInt.toNat = 1
      · rw [if_pos d] at h ef
        obtain ⟨v6, e6, h⟩ := nm_some h
        obtain ⟨v7, e7, h⟩ := nm_some h
        have u7 : v7.toInt = x2.toInt + 1 := by rw [e7, ti_add (by omega) (by omega), l1]
        exact ih t v6 v7 r σ1 τ1 h (by omega) (by rw [e6, u7, show (x2.toInt + 1).toNat = x2.toInt.toNat + 1 by omega, ef])
      · rw [if_neg d] at h ef
        obtain ⟨v6, e6, h⟩ := nm_some h
        obtain ⟨v7, e7, h⟩ := nm_some h
        have u7 : v7.toInt = x2.toInt + 1 := by rw [e7, ti_add (by omega) (by omega), l1]
        have o0 : x1 ||| 0 = x1 := b_ext (fun i _ => by rw [b_or, b_0, Bool.or_false])
        exact ih t v6 v7 r σ1 τ1 h (by omega) (by rw [e6, o0, u7, show (x2.toInt + 1).toNat = x2.toInt.toNat + 1 by omega, ef])
theorem x_forks {s : gI} {t : gJ} {f : Nat} (hn : 0 ≤ (σ 199 3).toInt ∧ (σ 199 3).toInt ≤ 12) (hf : fk 1 (σ 201) (σ 199 3).toInt.toNat = Int32.ofNat f) (hY : YF σ s) (h : B_X12_forks_0 N s t = some (r, σ1, τ1)) : s = σ1 ∧ r = Int32.ofNat f := by
  have e3 : s 199 3 = σ 199 3 := hY 199 3 (by omega)
  have e1 : s 201 = σ 201 := funext fun k => hY 201 k (by omega)
  unfold B_X12_forks_0 at h
  have z := x_forks4 (by rw [e3]; exact hn) N t 0 0 r σ1 τ1 h (by have l0 : (0 : Int32).toInt = 0 := rfl; rw [l0, e3]; omega) rfl
  rw [e1, e3, hf] at z
  exact z
def FR (σ : gI) (cd : Nat → Int32) (L : Int) (i a : Nat) : Prop := Er σ cd L (σ 226 i) (σ 227 i) (Int32.ofNat a) = σ 228 i
theorem x_lf32 {cd : Nat → Int32} {L : Int} {k : Nat} {b0 : Bool} {x1 x2 : Int32} {rec : gI → gJ → Int32 → Int32 → Int32 → Option (Int32 × gI × gJ)} (hV : BV σ cd L) (hK : CK σ) (hk : k < 4096) : ∀ (n : Nat) (s : gI) (t : gJ) (x4 x5 r : Int32) (σ1 : gI) (τ1 : gJ), H_X12_laysFits_32 N rec n s t x1 x2 (Int32.ofNat k) x4 x5 = some (r, σ1, τ1) → YF σ s → (0 ≤ x5.toInt ∧ x5.toInt ≤ (σ 199 52).toInt) → ((x4 = 1 ∧ b0 = true ∧ ∀ i : Nat, (i : Int) < x5.toInt → FR σ cd L i k) ∨ (x4 = 0 ∧ ¬ (b0 = true ∧ ∀ i : Nat, (i : Int) < (σ 199 52).toInt → FR σ cd L i k))) → ∃ (s3 : gI) (t3 : gJ) (v w : Int32), rec s3 t3 x1 v w = some (r, σ1, τ1) ∧ YF σ s3 ∧ (∀ j : Nat, j ≠ k → s3 229 j = s 229 j) ∧ w = Int32.ofNat k + 1 ∧ ((s3 229 k = 1 ∧ v = x2 + 1 ∧ b0 = true ∧ ∀ i : Nat, (i : Int) < (σ 199 52).toInt → FR σ cd L i k) ∨ (s3 229 k = 0 ∧ v = x2 + 0 ∧ ¬ (b0 = true ∧ ∀ i : Nat, (i : Int) < (σ 199 52).toInt → FR σ cd L i k))) := by
  have l1 : (1 : Int32).toInt = 1 := rfl
  obtain ⟨i1, i2⟩ := ofn_cl hk
  have h88 : ∀ (s : gI) (t : gJ) (x4 r : Int32) (σ1 : gI) (τ1 : gJ), B_X12_laysFits_88 N rec s t x1 x2 (Int32.ofNat k) x4 = some (r, σ1, τ1) → YF σ s → (x4 = 0 ∨ x4 = 1) → ∃ (s3 : gI) (t3 : gJ) (v w : Int32), rec s3 t3 x1 v w = some (r, σ1, τ1) ∧ YF σ s3 ∧ (∀ j : Nat, j ≠ k → s3 229 j = s 229 j) ∧ w = Int32.ofNat k + 1 ∧ s3 229 k = x4 ∧ v = x2 + x4 := by
    intro s t x4 r σ1 τ1 h hY h4
    unfold B_X12_laysFits_88 at h
    obtain ⟨j, ej, -, h⟩ := ck_some h
    have hj : j = k := by omega
    rw [hj] at h
    obtain ⟨-, h⟩ := cb_some h
    obtain ⟨s3, e3, h⟩ := nm_some h
    obtain ⟨r4, s4, t4, q4, h⟩ := bd_some h
    have k4 : s4 = s3 ∧ r4 = x4 := by
      unfold B_X12_flag_0 at q4
      rcases h4 with h4 | h4
      · rw [if_pos h4] at q4
        obtain ⟨a, b, -⟩ := sm_inj q4
        exact ⟨b.symm, by rw [← a, h4]⟩
      · rw [if_neg (by rw [h4]; decide)] at q4
        obtain ⟨a, b, -⟩ := sm_inj q4
        exact ⟨b.symm, by rw [← a, h4]⟩
    obtain ⟨v5, e5, h⟩ := nm_some h
    obtain ⟨v6, e6, h⟩ := nm_some h
    rw [k4.1] at h
    rw [k4.2] at e5
    exact ⟨s3, t4, v5, v6, h, fun c k hh => by rw [e3, up2_ne (by omega)]; exact hY c k hh, fun j hj => by rw [e3]; exact up2_ne (by omega), e6, by rw [e3, up_eq], e5⟩
  intro n
  induction n with
  | zero => intro s t x4 x5 r σ1 τ1 h; cases h
  | succ n ih =>
    intro s t x4 x5 r σ1 τ1 h hY hx h4
    have h : C_X12_laysFits_32 N rec (H_X12_laysFits_32 N rec n) s t x1 x2 (Int32.ofNat k) x4 x5 = some (r, σ1, τ1) := h
    unfold C_X12_laysFits_32 at h
    rw [hY 199 52 (by omega)] at h
    by_cases c : σ 199 52 ≤ x5
    · rw [if_pos c] at h
      rw [fa_le] at c
      rcases h4 with ⟨g1, g2, g3⟩ | ⟨g1, g2⟩
      · obtain ⟨s3, t3, v, w, y1, y2, y3, y4, y5, y6⟩ := h88 s t x4 r σ1 τ1 h hY (Or.inr g1)
        exact ⟨s3, t3, v, w, y1, y2, y3, y4, Or.inl ⟨y5.trans g1, by rw [y6, g1], g2, fun i hi => g3 i (by omega)⟩⟩
      · obtain ⟨s3, t3, v, w, y1, y2, y3, y4, y5, y6⟩ := h88 s t x4 r σ1 τ1 h hY (Or.inl g1)
        exact ⟨s3, t3, v, w, y1, y2, y3, y4, Or.inr ⟨y5.trans g1, by rw [y6, g1], g2⟩⟩
    · rw [if_neg c] at h
      rw [fa_le] at c
      rcases h4 with ⟨g1, g2, g3⟩ | ⟨g1, g2⟩
      · rw [if_neg (show ¬ x4 = 0 by rw [g1]; decide)] at h
        have nn := nat_of_toInt (i := x5) hx.1
        obtain ⟨j, ej, -, h⟩ := ck_some h
        have hj : j = x5.toInt.toNat := by omega
        rw [hj, hY 226 _ (by omega), hY 227 _ (by omega)] at h
        obtain ⟨r4, s4, t4, q4, h⟩ := bd_some h
        have hv := hK.2 x5.toInt.toNat (by omega)
        obtain ⟨z1, z2, z3⟩ := x_float hV hY hv.1 hv.2 q4
        rw [z2 228 _ (by omega), z1] at h
        have h10 := hK.1
        by_cases d : Er σ cd L (σ 226 x5.toInt.toNat) (σ 227 x5.toInt.toNat) (Int32.ofNat k) = σ 228 x5.toInt.toNat
        · rw [if_pos d] at h
          obtain ⟨v7, e7, h⟩ := nm_some h
          have u7 : v7.toInt = x5.toInt + 1 := by rw [e7, ti_add (by omega) (by omega), l1]
          obtain ⟨s3, t3, v, w, y1, y2, y3, y4⟩ := ih s4 t4 1 v7 r σ1 τ1 h z2 (by omega) (Or.inl ⟨rfl, g2, fun i hi => by
            by_cases e : (i : Int) < x5.toInt
            · exact g3 i e
            · rw [show i = x5.toInt.toNat by omega]; exact d⟩)
          exact ⟨s3, t3, v, w, y1, y2, fun j hj => (y3 j hj).trans (z3 229 j (Or.inl rfl)), y4⟩
        · rw [if_neg d] at h
          obtain ⟨v7, e7, h⟩ := nm_some h
          have u7 : v7.toInt = x5.toInt + 1 := by rw [e7, ti_add (by omega) (by omega), l1]
          obtain ⟨s3, t3, v, w, y1, y2, y3, y4⟩ := ih s4 t4 0 v7 r σ1 τ1 h z2 (by omega) (Or.inr ⟨rfl, fun z => d (z.2 x5.toInt.toNat (by omega))⟩)
          exact ⟨s3, t3, v, w, y1, y2, fun j hj => (y3 j hj).trans (z3 229 j (Or.inl rfl)), y4⟩
      · rw [if_pos g1] at h
        obtain ⟨s3, t3, v, w, y1, y2, y3, y4, y5, y6⟩ := h88 s t x4 r σ1 τ1 h hY (Or.inl g1)
        exact ⟨s3, t3, v, w, y1, y2, y3, y4, Or.inr ⟨y5.trans g1, by rw [y6, g1], g2⟩⟩
def gR (σ : gI) (cd : Nat → Int32) (L : Int) (a : Nat) : Bool := (List.range (σ 199 52).toInt.toNat).all (fun i => decide (Er σ cd L (σ 226 i) (σ 227 i) (Int32.ofNat a) = σ 228 i))
theorem gR_iff {cd : Nat → Int32} {L : Int} {a : Nat} : gR σ cd L a = true ↔ ∀ i : Nat, (i : Int) < (σ 199 52).toInt → FR σ cd L i a := by
  unfold gR
  rw [List.all_eq_true]
  constructor
  · intro h i hi
    show Er σ cd L (σ 226 i) (σ 227 i) (Int32.ofNat a) = σ 228 i
    exact of_decide_eq_true (h i (List.mem_range.mpr (by omega)))
  · intro h i hi
    have := List.mem_range.mp hi
    exact decide_eq_true (h i (by omega))
def hR (σ : gI) (cd : Nat → Int32) (L : Int) (f a : Nat) : Bool := decide (a &&& f = a) && gR σ cd L a
theorem x_lf9 {cd : Nat → Int32} {L : Int} {f : Nat} (hV : BV σ cd L) (hK : CK σ) (hf : f < 4096) : ∀ (c n k : Nat) (s : gI) (t : gJ) (x2 r : Int32) (σ1 : gI) (τ1 : gJ), H_X12_laysFits_9 N n s t (Int32.ofNat f) x2 (Int32.ofNat k) = some (r, σ1, τ1) → YF σ s → k + c = f + 1 → (0 ≤ x2.toInt ∧ x2.toInt + c ≤ 4096) → r.toInt = x2.toInt + cr (hR σ cd L f) k c ∧ YF σ σ1 ∧ (∀ j : Nat, j < k → σ1 229 j = s 229 j) ∧ ∀ j : Nat, k ≤ j → j ≤ f → (!decide (σ1 229 j = 0)) = hR σ cd L f j := by
  have l1 : (1 : Int32).toInt = 1 := rfl
  have l0 : (0 : Int32).toInt = 0 := rfl
  intro c
  induction c with
  | zero =>
    intro n k s t x2 r σ1 τ1 h hY hk hx
    cases n with
    | zero => cases h
    | succ n =>
      have h : C_X12_laysFits_9 N (H_X12_laysFits_9 N n) s t (Int32.ofNat f) x2 (Int32.ofNat k) = some (r, σ1, τ1) := h
      unfold C_X12_laysFits_9 at h
      rw [if_pos (by rw [fa_lt, ofn_ti (by omega), ofn_ti (by omega)]; omega)] at h
      obtain ⟨a, b, -⟩ := sm_inj h
      rw [← a, ← b]
      exact ⟨by show x2.toInt = x2.toInt + ((0 : Nat) : Int); omega, hY, fun _ _ => rfl, fun j h1 h2 => by omega⟩
  | succ c ih =>
    intro n k s t x2 r σ1 τ1 h hY hk hx
    cases n with
    | zero => cases h
    | succ n =>
      have h : C_X12_laysFits_9 N (H_X12_laysFits_9 N n) s t (Int32.ofNat f) x2 (Int32.ofNat k) = some (r, σ1, τ1) := h
      unfold C_X12_laysFits_9 at h
      have hk4 : k < 4096 := by omega
      rw [if_neg (fun z => by rw [fa_lt, ofn_ti (by omega), ofn_ti (by omega)] at z; omega)] at h
      have hK0 := hK.1
      have go : ∀ x4 : Int32, H_X12_laysFits_32 N (H_X12_laysFits_9 N n) N s t (Int32.ofNat f) x2 (Int32.ofNat k) x4 0 = some (r, σ1, τ1) → ((x4 = 1 ∧ decide (k &&& f = k) = true ∧ ∀ i : Nat, (i : Int) < (0 : Int32).toInt → FR σ cd L i k) ∨ (x4 = 0 ∧ ¬ (decide (k &&& f = k) = true ∧ ∀ i : Nat, (i : Int) < (σ 199 52).toInt → FR σ cd L i k))) → r.toInt = x2.toInt + cr (hR σ cd L f) k (c + 1) ∧ YF σ σ1 ∧ (∀ j : Nat, j < k → σ1 229 j = s 229 j) ∧ ∀ j : Nat, k ≤ j → j ≤ f → (!decide (σ1 229 j = 0)) = hR σ cd L f j := by
        intro x4 h h4
        obtain ⟨s3, t3, v, w, y1, y2, y3, y4, y5⟩ := x_lf32 hV hK hk4 N s t x4 0 r σ1 τ1 h hY (by rw [l0]; omega) h4
        have ew : w = Int32.ofNat (k + 1) := by
          rw [y4]
          refine (fa_eq _ _).mpr ?_
          rw [ti_add (by rw [ofn_ti (by omega)]; omega) (by rw [ofn_ti (by omega)]; omega), ofn_ti (by omega), ofn_ti (by omega), l1]
          omega
        rw [ew] at y1
        have ec : cr (hR σ cd L f) k (c + 1) = (if hR σ cd L f k = true then 1 else 0) + cr (hR σ cd L f) (k + 1) c := rfl
        have hv : v.toInt = x2.toInt + (if hR σ cd L f k = true then 1 else 0) ∧ (!decide (s3 229 k = 0)) = hR σ cd L f k := by
          rcases y5 with ⟨g1, g2, g3, g4⟩ | ⟨g1, g2, g3⟩
          · have : hR σ cd L f k = true := by unfold hR; rw [g3, gR_iff.mpr g4]; rfl
            rw [this, if_pos rfl, g1, g2, ti_add (by omega) (by omega), l1]
            exact ⟨rfl, rfl⟩
          · have : hR σ cd L f k = false := by
              cases q : hR σ cd L f k with
              | false => rfl
              | true =>
                unfold hR at q
                rw [Bool.and_eq_true] at q
                exact absurd ⟨q.1, gR_iff.mp q.2⟩ g3
            rw [this, if_neg (by decide), g1, g2, ti_add (by omega) (by omega), l0]
            exact ⟨rfl, rfl⟩
        obtain ⟨z1, z2, z3, z4⟩ := ih n (k + 1) s3 t3 v r σ1 τ1 y1 y2 (by omega) (by rw [hv.1]; split <;> omega)
        refine ⟨?_, z2, fun j hj => (z3 j (by omega)).trans (y3 j (by omega)), fun j h1 h2 => ?_⟩
        · rw [z1, ec, hv.1]
          split <;> omega
        · by_cases d : j = k
          · rw [d, z3 k (by omega)]; exact hv.2
          · exact z4 j (by omega) h2
      by_cases d : Int32.ofNat k &&& (Int32.ofNat f ^^^ (-1)) = 0
      · rw [if_pos d] at h
        exact go 1 h (Or.inl ⟨rfl, decide_eq_true ((sub_iff hk4 hf).mp d), fun i hi => by rw [l0] at hi; omega⟩)
      · rw [if_neg d] at h
        exact go 0 h (Or.inr ⟨rfl, fun z => d ((sub_iff hk4 hf).mpr (of_decide_eq_true z.1))⟩)
theorem x_laysFits {cd : Nat → Int32} {L : Int} {f : Nat} {s : gI} {t : gJ} (hV : BV σ cd L) (hK : CK σ) (hf : f < 4096) (ef : fk 1 (σ 201) (σ 199 3).toInt.toNat = Int32.ofNat f) (hY : YF σ s) (h : B_X12_laysFits_0 N s t = some (r, σ1, τ1)) : r.toInt = cr (hR σ cd L f) 0 (f + 1) ∧ YF σ σ1 ∧ ∀ j : Nat, j ≤ f → (!decide (σ1 229 j = 0)) = hR σ cd L f j := by
  have l0 : (0 : Int32).toInt = 0 := rfl
  unfold B_X12_laysFits_0 at h
  obtain ⟨r1, s1, t1, q1, h⟩ := bd_some h
  obtain ⟨w1, k1⟩ := x_forks hV.2.2.1 ef hY q1
  rw [← w1, k1] at h
  obtain ⟨z1, z2, -, z4⟩ := x_lf9 hV hK hf (f + 1) N 0 s t1 0 r σ1 τ1 h hY (by omega) (by rw [l0]; omega)
  exact ⟨by rw [z1, l0]; omega, z2, fun j hj => z4 j (by omega) hj⟩
theorem x_maps34 : ∀ (n : Nat) (s : gI) (t : gJ) (x1 x2 x3 x4 x5 x6 r : Int32) (σ1 : gI) (τ1 : gJ), H_X12_maps_34 N n s t x1 x2 x3 x4 x5 x6 = some (r, σ1, τ1) → r = x1 := by
  intro n
  induction n with
  | zero => intro s t x1 x2 x3 x4 x5 x6 r σ1 τ1 h; cases h
  | succ n ih =>
    intro s t x1 x2 x3 x4 x5 x6 r σ1 τ1 h
    have h : C_X12_maps_34 N (H_X12_maps_34 N n) s t x1 x2 x3 x4 x5 x6 = some (r, σ1, τ1) := h
    unfold C_X12_maps_34 at h
    by_cases c : x2 < x6
    · rw [if_pos c] at h
      obtain ⟨s2, e2, h⟩ := nm_some h
      obtain ⟨u3, s3, t3, -, h⟩ := bd_some h
      obtain ⟨u4, s4, t4, -, h⟩ := bd_some h
      by_cases d : x1 ≤ 0
      · rw [if_pos d] at h
        obtain ⟨u5, s5, t5, -, h⟩ := bd_some h
        obtain ⟨w, -, -⟩ := sm_inj h
        exact w.symm
      · rw [if_neg d] at h
        obtain ⟨u5, s5, t5, -, h⟩ := bd_some h
        obtain ⟨w, -, -⟩ := sm_inj h
        exact w.symm
    · rw [if_neg c] at h
      obtain ⟨j, ej, -, h⟩ := ck_some h
      by_cases d : s 229 j = 0
      · rw [if_pos d] at h
        obtain ⟨v, e, h⟩ := nm_some h
        exact ih _ _ _ _ _ _ _ _ _ _ _ h
      · rw [if_neg d] at h
        by_cases g : 0 ≤ x3
        · rw [if_pos g] at h
          obtain ⟨v1, e1, h⟩ := nm_some h
          obtain ⟨v2, e2, h⟩ := nm_some h
          obtain ⟨v3, e3, h⟩ := nm_some h
          exact ih _ _ _ _ _ _ _ _ _ _ _ h
        · rw [if_neg g] at h
          obtain ⟨v1, e1, h⟩ := nm_some h
          obtain ⟨v2, e2, h⟩ := nm_some h
          obtain ⟨v3, e3, h⟩ := nm_some h
          exact ih _ _ _ _ _ _ _ _ _ _ _ h
theorem x_maps12 {cd : Nat → Int32} {L : Int} {f : Nat} (hV : BV σ cd L) (hK : CK σ) (hf : f < 4096) (ef : fk 1 (σ 201) (σ 199 3).toInt.toNat = Int32.ofNat f) (h : B_X12_maps_0 N σ τ = some (r, σ1, τ1)) : r.toInt = cr (hR σ cd L f) 0 (f + 1) := by
  unfold B_X12_maps_0 at h
  obtain ⟨s1, e1, h⟩ := nm_some h
  have Y1 : YF σ s1 := fun c k hh => by rw [e1]; exact up2_ne (by omega)
  obtain ⟨r2, s2, t2, q2, h⟩ := bd_some h
  obtain ⟨z1, -, -⟩ := x_laysFits hV hK hf ef Y1 q2
  obtain ⟨r3, s3, t3, -, h⟩ := bd_some h
  by_cases c : r2 ≤ 0
  · rw [if_pos c] at h
    rw [x_maps34 _ _ _ _ _ _ _ _ _ _ _ _ h]; exact z1
  · rw [if_neg c] at h
    rw [x_maps34 _ _ _ _ _ _ _ _ _ _ _ _ h]; exact z1
theorem x_nx61 {rec : gI → gJ → Int32 → Int32 → Int32 → Int32 → Int32 → Option (Int32 × gI × gJ)} {x1 x2 x3 x4 x5 : Int32} : ∀ (n : Nat) (s : gI) (t : gJ) (x6 r : Int32) (σ1 : gI) (τ1 : gJ), H_X12_next_61 N rec n s t x1 x2 x3 x4 x5 x6 = some (r, σ1, τ1) → (0 ≤ x6.toInt ∧ x6.toInt ≤ 13) → (∀ j : Nat, (j : Int) < x6.toInt → s 230 j = 0) → ∃ (s3 : gI) (t3 : gJ), H_X12_next_85 N rec N s3 t3 x1 x2 x3 x4 x5 0 = some (r, σ1, τ1) ∧ (∀ j : Nat, j < 13 → s3 230 j = 0) ∧ ∀ c k : Nat, ¬ (c = 230) → s3 c k = s c k := by
  have l1 : (1 : Int32).toInt = 1 := rfl
  have l12 : (12 : Int32).toInt = 12 := rfl
  intro n
  induction n with
  | zero => intro s t x6 r σ1 τ1 h; cases h
  | succ n ih =>
    intro s t x6 r σ1 τ1 h hx h0
    have h : C_X12_next_61 N rec (H_X12_next_61 N rec n) s t x1 x2 x3 x4 x5 x6 = some (r, σ1, τ1) := h
    unfold C_X12_next_61 at h
    by_cases c : 12 < x6
    · rw [if_pos c] at h
      rw [fa_lt, l12] at c
      exact ⟨s, t, h, fun j hj => h0 j (by omega), fun _ _ _ => rfl⟩
    · rw [if_neg c] at h
      rw [fa_lt, l12] at c
      have nn := nat_of_toInt (i := x6) hx.1
      obtain ⟨j, ej, -, h⟩ := ck_some h
      obtain ⟨s3, e3, h⟩ := nm_some h
      obtain ⟨v4, e4, h⟩ := nm_some h
      have u4 : v4.toInt = x6.toInt + 1 := by rw [e4, ti_add (by omega) (by omega), l1]
      obtain ⟨s9, t9, y1, y2, y3⟩ := ih s3 t v4 r σ1 τ1 h (by omega) (fun i hi => by
        by_cases d : i = j
        · rw [d, e3, up_eq]
        · rw [e3, up2_ne (by omega)]; exact h0 i (by omega))
      exact ⟨s9, t9, y1, y2, fun c k hh => (y3 c k hh).trans (by rw [e3]; exact up2_ne (by omega))⟩
/-- sets that fit, ending so -/
def gU (σ s : gI) (cd : Nat → Int32) (L : Int) (p m : Int32) (j a : Nat) : Bool := (!decide (s 229 a = 0)) && decide ((1 + Er σ cd L p m (Int32.ofNat a)).toNatClampNeg = j)
theorem x_nx85 {cd : Nat → Int32} {L : Int} {f : Nat} {m x3 x4 x5 : Int32} {rec : gI → gJ → Int32 → Int32 → Int32 → Int32 → Int32 → Option (Int32 × gI × gJ)} (hV : BV σ cd L) (hf : f < 4096) (hp : 0 ≤ x5.toInt ∧ x5.toInt < (σ 199 3).toInt) (hm : 0 ≤ m.toInt ∧ m.toInt ≤ 999) : ∀ (c n k : Nat) (s : gI) (t : gJ) (r : Int32) (σ1 : gI) (τ1 : gJ), H_X12_next_85 N rec n s t m (Int32.ofNat f) x3 x4 x5 (Int32.ofNat k) = some (r, σ1, τ1) → YF σ s → k + c = f + 1 → (∀ j : Nat, j < 13 → 0 ≤ (s 230 j).toInt ∧ (s 230 j).toInt + c ≤ 4096) → ∃ (s3 : gI) (t3 : gJ), H_X12_next_133 N rec N s3 t3 m (Int32.ofNat f) x3 x4 x5 0 0 = some (r, σ1, τ1) ∧ YF σ s3 ∧ (∀ a : Nat, s3 229 a = s 229 a) ∧ ∀ j : Nat, j < 13 → (s3 230 j).toInt = (s 230 j).toInt + cr (gU σ s cd L x5 m j) k c := by
  have l1 : (1 : Int32).toInt = 1 := rfl
  intro c
  induction c with
  | zero =>
    intro n k s t r σ1 τ1 h hY hk hx
    cases n with
    | zero => cases h
    | succ n =>
      have h : C_X12_next_85 N rec (H_X12_next_85 N rec n) s t m (Int32.ofNat f) x3 x4 x5 (Int32.ofNat k) = some (r, σ1, τ1) := h
      unfold C_X12_next_85 at h
      rw [if_pos (by rw [fa_lt, ofn_ti (by omega), ofn_ti (by omega)]; omega)] at h
      exact ⟨s, t, h, hY, fun _ => rfl, fun j _ => by show (s 230 j).toInt = (s 230 j).toInt + ((0 : Nat) : Int); omega⟩
  | succ c ih =>
    intro n k s t r σ1 τ1 h hY hk hx
    cases n with
    | zero => cases h
    | succ n =>
      have h : C_X12_next_85 N rec (H_X12_next_85 N rec n) s t m (Int32.ofNat f) x3 x4 x5 (Int32.ofNat k) = some (r, σ1, τ1) := h
      unfold C_X12_next_85 at h
      have hk4 : k < 4096 := by omega
      obtain ⟨i1, i2⟩ := ofn_cl hk4
      rw [if_neg (fun z => by rw [fa_lt, ofn_ti (by omega), ofn_ti (by omega)] at z; omega)] at h
      obtain ⟨j2, ej2, -, h⟩ := ck_some h
      have hj2 : j2 = k := by omega
      rw [hj2] at h
      have ew : Int32.ofNat k + 1 = Int32.ofNat (k + 1) := by
        refine (fa_eq _ _).mpr ?_
        rw [ti_add (by rw [ofn_ti (by omega)]; omega) (by rw [ofn_ti (by omega)]; omega), ofn_ti (by omega), ofn_ti (by omega), l1]
        omega
      have ec : ∀ j : Nat, cr (gU σ s cd L x5 m j) k (c + 1) = (if gU σ s cd L x5 m j k = true then 1 else 0) + cr (gU σ s cd L x5 m j) (k + 1) c := fun _ => rfl
      by_cases d : s 229 k = 0
      · rw [if_pos d] at h
        obtain ⟨v4, e4, h⟩ := nm_some h
        rw [e4, ew] at h
        obtain ⟨s9, t9, y1, y2, y3, y4⟩ := ih n (k + 1) s t r σ1 τ1 h hY (by omega) (fun j hj => by have := hx j hj; omega)
        refine ⟨s9, t9, y1, y2, y3, fun j hj => ?_⟩
        have g0 : gU σ s cd L x5 m j k = false := by unfold gU; rw [decide_eq_true d]; rfl
        rw [y4 j hj, ec, g0, if_neg (by decide)]
        omega
      · rw [if_neg d] at h
        obtain ⟨r5, s5, t5, q5, h⟩ := bd_some h
        obtain ⟨z1, z2, z3⟩ := x_float hV hY hp hm q5
        rw [z1] at h
        obtain ⟨j6, ej6, hv6, h⟩ := ck_some h
        have j13 : j6 < 13 := by
          rcases Nat.lt_or_ge j6 13 with z | z
          · exact z
          · exact absurd (Or.inr (by rw [ej6]; exact z)) hv6
        obtain ⟨s7, e7, h⟩ := nm_some h
        obtain ⟨v8, e8, h⟩ := nm_some h
        rw [e8, ew] at h
        have hc0 := hx j6 j13
        have u7 : (s 230 j6 + 1).toInt = (s 230 j6).toInt + 1 := by rw [ti_add (by omega) (by omega), l1]
        have n7 : ∀ j : Nat, (s7 230 j).toInt = (s 230 j).toInt + (if j = j6 then 1 else 0) := fun j => by
          by_cases g : j = j6
          · rw [g, e7, up_eq, if_pos rfl, z3 230 j6 (Or.inr rfl), u7]
          · rw [e7, up2_ne (by omega), if_neg g, z3 230 j (Or.inr rfl)]; omega
        have f7 : ∀ a : Nat, s7 229 a = s 229 a := fun a => by rw [e7, up2_ne (by omega)]; exact z3 229 a (Or.inl rfl)
        obtain ⟨s9, t9, y1, y2, y3, y4⟩ := ih n (k + 1) s7 t5 r σ1 τ1 h (fun c k hh => by rw [e7, up2_ne (by omega)]; exact z2 c k hh) (by omega) (fun j hj => by
          have := hx j hj
          rw [n7 j]
          split <;> omega)
        refine ⟨s9, t9, y1, y2, fun a => (y3 a).trans (f7 a), fun j hj => ?_⟩
        have eg : gU σ s7 cd L x5 m j = gU σ s cd L x5 m j := funext fun a => by unfold gU; rw [f7 a]
        have g0 : gU σ s cd L x5 m j k = decide (j6 = j) := by
          unfold gU
          rw [decide_eq_false d, ej6]
          rfl
        rw [y4 j hj, eg, n7 j, ec, g0]
        by_cases g : j6 = j
        · rw [if_pos g.symm, decide_eq_true g, if_pos rfl]; omega
        · rw [if_neg (fun z => g z.symm), decide_eq_false g, if_neg (by decide)]; omega
theorem x_nx133 {rec : gI → gJ → Int32 → Int32 → Int32 → Int32 → Int32 → Option (Int32 × gI × gJ)} {m x2 x3 x4 x5 : Int32} {s : gI} (hx : ∀ j : Nat, j < 13 → 0 ≤ (s 230 j).toInt) : ∀ (n : Nat) (t : gJ) (x6 x7 r : Int32) (σ1 : gI) (τ1 : gJ), H_X12_next_133 N rec n s t m x2 x3 x4 x5 x6 x7 = some (r, σ1, τ1) → (0 ≤ x7.toInt ∧ x7.toInt ≤ 13) → x6.toInt = mxc (fun j => (s 230 j).toInt.toNat) x7.toInt.toNat → ∃ (t3 : gJ) (v6 : Int32), v6.toInt = mxc (fun j => (s 230 j).toInt.toNat) 13 ∧ (if x3 < 0 ∨ ¬ x4 ≤ v6 then rec s t3 m x2 x5 v6 (x5 + 1) = some (r, σ1, τ1) else rec s t3 m x2 x3 x4 (x5 + 1) = some (r, σ1, τ1)) := by
  have l1 : (1 : Int32).toInt = 1 := rfl
  have l12 : (12 : Int32).toInt = 12 := rfl
  intro n
  induction n with
  | zero => intro t x6 x7 r σ1 τ1 h; cases h
  | succ n ih =>
    intro t x6 x7 r σ1 τ1 h h7 h6
    have h : C_X12_next_133 N rec (H_X12_next_133 N rec n) s t m x2 x3 x4 x5 x6 x7 = some (r, σ1, τ1) := h
    unfold C_X12_next_133 at h
    by_cases c : 12 < x7
    · rw [if_pos c] at h
      rw [fa_lt, l12] at c
      refine ⟨t, x6, by rw [h6, show x7.toInt.toNat = 13 by omega], ?_⟩
      by_cases d : x3 < 0
      · rw [if_pos d] at h
        rw [if_pos (Or.inl d)]
        obtain ⟨v, e, h⟩ := nm_some h
        rw [← e]; exact h
      · rw [if_neg d] at h
        by_cases g : x4 ≤ x6
        · rw [if_pos g] at h
          rw [if_neg (fun z => by rcases z with z | z; exact d z; exact z g)]
          obtain ⟨v, e, h⟩ := nm_some h
          rw [← e]; exact h
        · rw [if_neg g] at h
          rw [if_pos (Or.inr g)]
          obtain ⟨v, e, h⟩ := nm_some h
          rw [← e]; exact h
    · rw [if_neg c] at h
      rw [fa_lt, l12] at c
      have nn := nat_of_toInt (i := x7) h7.1
      obtain ⟨j, ej, -, h⟩ := ck_some h
      have hj : j = x7.toInt.toNat := by omega
      obtain ⟨v8, e8, h⟩ := nm_some h
      obtain ⟨v9, e9, h⟩ := nm_some h
      have u9 : v9.toInt = x7.toInt + 1 := by rw [e9, ti_add (by omega) (by omega), l1]
      have im := imax_c x6 (s 230 j)
      have := hx j (by omega)
      refine ih t v8 v9 r σ1 τ1 h (by omega) ?_
      rw [u9, show (x7.toInt + 1).toNat = x7.toInt.toNat + 1 by omega]
      have em : mxc (fun j => (s 230 j).toInt.toNat) (x7.toInt.toNat + 1) = max (mxc (fun j => (s 230 j).toInt.toNat) x7.toInt.toNat) (s 230 x7.toInt.toNat).toInt.toNat := rfl
      rw [em, ← hj, e8]
      rw [← hj] at h6
      omega
def gK (σ : gI) (cd : Nat → Int32) (L : Int) (f : Nat) (p m : Int32) (j : Nat) : Nat := cr (fun a => hR σ cd L f a && decide ((1 + Er σ cd L p m (Int32.ofNat a)).toNatClampNeg = j)) 0 (f + 1)
/-- a place of next -/
theorem x_nxp {cd : Nat → Int32} {L : Int} {f : Nat} {m x3 x4 x5 : Int32} {rec : gI → gJ → Int32 → Int32 → Int32 → Int32 → Int32 → Option (Int32 × gI × gJ)} {s : gI} {t : gJ} (hV : BV σ cd L) (hf : f < 4096) (hp : 0 ≤ x5.toInt ∧ x5.toInt < (σ 199 3).toInt) (hm : 0 ≤ m.toInt ∧ m.toInt ≤ 999) (hY : YF σ s) (hg : ∀ j : Nat, j ≤ f → (!decide (s 229 j = 0)) = hR σ cd L f j) (h : H_X12_next_61 N rec N s t m (Int32.ofNat f) x3 x4 x5 0 = some (r, σ1, τ1)) : ∃ (s3 : gI) (t3 : gJ) (v6 : Int32), v6.toInt = mxc (gK σ cd L f x5 m) 13 ∧ YF σ s3 ∧ (∀ j : Nat, j ≤ f → (!decide (s3 229 j = 0)) = hR σ cd L f j) ∧ (if x3 < 0 ∨ ¬ x4 ≤ v6 then rec s3 t3 m (Int32.ofNat f) x5 v6 (x5 + 1) = some (r, σ1, τ1) else rec s3 t3 m (Int32.ofNat f) x3 x4 (x5 + 1) = some (r, σ1, τ1)) := by
  have l0 : (0 : Int32).toInt = 0 := rfl
  obtain ⟨s1, t1, y1, y2, y3⟩ := x_nx61 N s t 0 r σ1 τ1 h (by decide) (fun j hj => by rw [l0] at hj; omega)
  have z0 : ∀ j : Nat, j < 13 → (s1 230 j).toInt = 0 := fun j hj => by rw [y2 j hj]; rfl
  obtain ⟨s2, t2, w1, w2, w3, w4⟩ := x_nx85 hV hf hp hm (f + 1) N 0 s1 t1 r σ1 τ1 y1 (fun c k hh => (y3 c k (by omega)).trans (hY c k hh)) (by omega) (fun j hj => by rw [z0 j hj]; omega)
  have ec : ∀ j : Nat, j < 13 → (s2 230 j).toInt = gK σ cd L f x5 m j := fun j hj => by
    rw [w4 j hj, z0 j hj]
    have : cr (gU σ s1 cd L x5 m j) 0 (f + 1) = gK σ cd L f x5 m j := cr_cg _ _ (fun a _ ha => by
      unfold gU
      rw [y3 229 a (by omega), hg a (by omega)])
    rw [this]; omega
  obtain ⟨t3, v6, z1, z2⟩ := x_nx133 (s := s2) (fun j hj => by rw [ec j hj]; omega) N t2 0 0 r σ1 τ1 w1 (by decide) rfl
  refine ⟨s2, t3, v6, ?_, w2, fun j hj => by rw [w3 j, y3 229 j (by omega)]; exact hg j hj, z2⟩
  rw [z1]
  have mx : ∀ n : Nat, n ≤ 13 → mxc (fun j => (s2 230 j).toInt.toNat) n = mxc (gK σ cd L f x5 m) n := by
    intro n
    induction n with
    | zero => intro _; rfl
    | succ n ih =>
      intro hn
      show max (mxc (fun j => (s2 230 j).toInt.toNat) n) (s2 230 n).toInt.toNat = max (mxc (gK σ cd L f x5 m) n) (gK σ cd L f x5 m n)
      rw [ih (by omega), ec n (by omega)]
      rfl
  rw [mx 13 (Nat.le_refl 13)]
theorem x_nx49 {cd : Nat → Int32} {L : Int} {f : Nat} {m : Int32} (hV : BV σ cd L) (hf : f < 4096) (hm : 0 ≤ m.toInt ∧ m.toInt ≤ 999) : ∀ (n : Nat) (s : gI) (t : gJ) (x3 x4 x5 r : Int32) (σ1 : gI) (τ1 : gJ), H_X12_next_49 N n s t m (Int32.ofNat f) x3 x4 x5 = some (r, σ1, τ1) → YF σ s → (∀ j : Nat, j ≤ f → (!decide (s 229 j = 0)) = hR σ cd L f j) → 0 ≤ x3.toInt → (0 ≤ x5.toInt ∧ x5.toInt ≤ (σ 199 3).toInt) → r.toInt = (nxf (fun p => mxc (gK σ cd L f (Int32.ofNat p) m) 13) ((σ 199 3).toInt - x5.toInt).toNat x5.toInt.toNat x3.toInt x4.toInt).1 := by
  have l1 : (1 : Int32).toInt = 1 := rfl
  have l0 : (0 : Int32).toInt = 0 := rfl
  have h12 := hV.2.2.1
  generalize hMM : (fun p : Nat => mxc (gK σ cd L f (Int32.ofNat p) m) 13) = M
  intro n
  induction n with
  | zero => intro s t x3 x4 x5 r σ1 τ1 h; cases h
  | succ n ih =>
    intro s t x3 x4 x5 r σ1 τ1 h hY hg h3 hx
    have h : C_X12_next_49 N (H_X12_next_49 N n) s t m (Int32.ofNat f) x3 x4 x5 = some (r, σ1, τ1) := h
    unfold C_X12_next_49 at h
    rw [hY 199 3 (by omega)] at h
    by_cases c : σ 199 3 ≤ x5
    · rw [if_pos c] at h
      rw [fa_le] at c
      obtain ⟨s2, e2, h⟩ := nm_some h
      obtain ⟨u3, s3, t3, -, h⟩ := bd_some h
      obtain ⟨w, -, -⟩ := sm_inj h
      rw [← w, show ((σ 199 3).toInt - x5.toInt).toNat = 0 by omega]
      rfl
    · rw [if_neg c] at h
      rw [fa_le] at c
      obtain ⟨s3, t3, v6, y1, y2, y3, y4⟩ := x_nxp hV hf (by omega) hm hY hg h
      have eM : M x5.toInt.toNat = mxc (gK σ cd L f x5 m) 13 := by
        rw [← hMM]
        show mxc (gK σ cd L f (Int32.ofNat x5.toInt.toNat) m) 13 = _
        rw [← ofn_of hx.1]
      rw [← eM] at y1
      have u5 : (x5 + 1).toInt = x5.toInt + 1 := by rw [ti_add (by omega) (by omega), l1]
      rw [show ((σ 199 3).toInt - x5.toInt).toNat = ((σ 199 3).toInt - (x5 + 1).toInt).toNat + 1 by omega]
      have en : nxf M (((σ 199 3).toInt - (x5 + 1).toInt).toNat + 1) x5.toInt.toNat x3.toInt x4.toInt = if x4.toInt ≤ (M x5.toInt.toNat : Int) then nxf M ((σ 199 3).toInt - (x5 + 1).toInt).toNat (x5.toInt.toNat + 1) x3.toInt x4.toInt else nxf M ((σ 199 3).toInt - (x5 + 1).toInt).toNat (x5.toInt.toNat + 1) x5.toInt.toNat (M x5.toInt.toNat) := rfl
      rw [en]
      by_cases d : x4 ≤ v6
      · rw [if_neg (fun z => by rcases z with z | z; rw [fa_lt, l0] at z; omega; exact z d)] at y4
        rw [fa_le, y1] at d
        rw [if_pos d]
        have z := ih s3 t3 x3 x4 (x5 + 1) r σ1 τ1 y4 y2 y3 h3 (by omega)
        rw [show (x5 + 1).toInt.toNat = x5.toInt.toNat + 1 by omega] at z
        exact z
      · rw [if_pos (Or.inr d)] at y4
        rw [fa_le, y1] at d
        rw [if_neg d]
        have z := ih s3 t3 x5 v6 (x5 + 1) r σ1 τ1 y4 y2 y3 hx.1 (by omega)
        rw [show (x5 + 1).toInt.toNat = x5.toInt.toNat + 1 by omega, y1] at z
        rw [show ((x5.toInt.toNat : Nat) : Int) = x5.toInt by omega]
        exact z
end SIM34M
