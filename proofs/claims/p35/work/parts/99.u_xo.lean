/-! SETS AS INTS -/
theorem bt_ofn {a i : Nat} (hi : i < 32) : bt (Int32.ofNat a) i = a.testBit i := by
  show (BitVec.ofNat 32 a).getLsbD i = _
  rw [BitVec.getLsbD_ofNat, decide_eq_true hi, Bool.true_and]
theorem ofn_self (v : Int32) : v = Int32.ofNat v.toBitVec.toNat := by
  apply Int32.toBitVec_inj.mp
  show v.toBitVec = BitVec.ofNat 32 v.toBitVec.toNat
  exact BitVec.eq_of_toNat_eq (by rw [BitVec.toNat_ofNat]; exact (Nat.mod_eq_of_lt v.toBitVec.isLt).symm)
theorem sh_k (x : Int32) : ∃ k : Nat, k < 32 ∧ x &&& 31 = Int32.ofNat k &&& 31 := by
  refine ⟨(x &&& 31).toBitVec.toNat, ?_, ?_⟩
  · rw [Int32.toBitVec_and, BitVec.toNat_and]
    have h : (Int32.toBitVec 31).toNat = 31 := rfl
    rw [h]
    exact Nat.lt_of_le_of_lt Nat.and_le_right (by omega)
  · rw [← ofn_self]
    refine b_ext (fun i _ => ?_)
    rw [b_and, b_and, b_and]
    cases bt x i <;> cases bt 31 i <;> rfl
theorem lo12 {v : Int32} (h : ∀ i, 12 ≤ i → i < 32 → bt v i = false) : ∃ a : Nat, a < 4096 ∧ v = Int32.ofNat a ∧ v.toNatClampNeg = a ∧ ∀ i, i < 32 → a.testBit i = bt v i := by
  have h1 : v.toBitVec.toNat < 2 ^ 12 := by
    apply Nat.lt_pow_two_of_testBit
    intro i hi
    rw [BitVec.testBit_toNat]
    by_cases c : i < 32
    · exact h i hi c
    · exact BitVec.getLsbD_of_ge _ _ (by omega)
  have h2 := ofn_self v
  have h3 : v.toInt = v.toBitVec.toNat := by
    rw [h2, ofn_ti (by omega), ← h2]
  refine ⟨v.toBitVec.toNat, by omega, h2, ?_, fun i _ => BitVec.testBit_toNat _⟩
  have := nat_of_toInt (i := v) (by omega)
  omega
theorem ofn_cl {a : Nat} (h : a < 4096) : (Int32.ofNat a).toNatClampNeg = a ∧ (Int32.ofNat a).toInt = a := by
  have e := ofn_ti (n := a) (by omega)
  have := nat_of_toInt (i := Int32.ofNat a) (by omega)
  exact ⟨by omega, e⟩
theorem ns_i {f s : Nat} (hf : f < 4096) (hs : s < 4096) : (Int32.ofNat s - Int32.ofNat f) &&& Int32.ofNat f = Int32.ofNat (ns f s) := by
  apply Int32.toBitVec_inj.mp
  rw [Int32.toBitVec_and, Int32.toBitVec_sub]
  show (BitVec.ofNat 32 s - BitVec.ofNat 32 f) &&& BitVec.ofNat 32 f = BitVec.ofNat 32 (ns f s)
  apply BitVec.eq_of_toNat_eq
  have h1 : ns f s ≤ f := Nat.and_le_right
  rw [BitVec.toNat_and, BitVec.toNat_sub, BitVec.toNat_ofNat, BitVec.toNat_ofNat, BitVec.toNat_ofNat, Nat.mod_eq_of_lt (show f < 2 ^ 32 by omega), Nat.mod_eq_of_lt (show s < 2 ^ 32 by omega), Nat.mod_eq_of_lt (show ns f s < 2 ^ 32 by omega)]
  unfold ns
  refine land_low (n := 12) (by omega) ?_
  show (2 ^ 32 - f + s) % 2 ^ 32 % 4096 = (s + 4096 - f) % 4096 % 4096
  omega
/-- the head of what is left -/
def HDx (x : Int32) : List Nat → Prop
  | [] => True
  | e :: _ => x = Int32.ofNat e
theorem hd_0 (q : List Nat) : HDx 0 (0 :: q) := show (0 : Int32) = Int32.ofNat 0 from rfl
theorem ch_tl {f z e : Nat} {R : List Nat} (h : Ch f z (e :: R)) : Ch f z R := by
  cases R with
  | nil => trivial
  | cons t r => exact h.2
theorem hd_next {f e : Nat} {R : List Nat} (hf : f < 4096) (he : e < 4096) (h : Ch f 0 (e :: R)) : HDx ((Int32.ofNat e - Int32.ofNat f) &&& Int32.ofNat f) R := by
  cases R with
  | nil => trivial
  | cons t r =>
    show _ = Int32.ofNat t
    rw [ns_i hf he, h.1]
theorem eb_tb (b : Nat → Bool) : ∀ n i : Nat, (eb b n).testBit i = (decide (i < n) && b i) := by
  intro n
  induction n with
  | zero =>
    intro i
    show (0 : Nat).testBit i = _
    rw [Nat.zero_testBit, decide_eq_false (by omega), Bool.false_and]
  | succ n ih =>
    intro i
    have hl := eb_lt b n
    show (if b n = true then eb b n + 2 ^ n else eb b n).testBit i = _
    by_cases c : b n = true
    · rw [if_pos c, Nat.add_comm]
      rcases Nat.lt_trichotomy i n with d | d | d
      · rw [Nat.testBit_two_pow_add_gt d, ih, decide_eq_true d, decide_eq_true (show i < n + 1 by omega)]
      · rw [d, Nat.testBit_two_pow_add_eq, ih, decide_eq_false (by omega), decide_eq_true (show n < n + 1 by omega), c]
        rfl
      · rw [decide_eq_false (show ¬ i < n + 1 by omega), Bool.false_and]
        refine Nat.testBit_lt_two_pow ?_
        have : 2 ^ (n + 1) ≤ 2 ^ i := Nat.pow_le_pow_right (by omega) (by omega)
        have : 2 ^ (n + 1) = 2 * 2 ^ n := by rw [Nat.pow_succ, Nat.mul_comm]
        omega
    · rw [if_neg c, ih]
      by_cases d : i = n
      · rw [d, decide_eq_false (by omega)]
        have : b n = false := Bool.eq_false_iff.mpr c
        rw [this, Bool.and_false, Bool.and_false]
      · by_cases d2 : i < n
        · rw [decide_eq_true d2, decide_eq_true (show i < n + 1 by omega)]
        · rw [decide_eq_false d2, decide_eq_false (show ¬ i < n + 1 by omega)]
theorem fk_eb {f : Nat → Int32} {n : Nat} (hn : n ≤ 12) : fk 1 f n = Int32.ofNat (eb (fun k => decide (f k = 1)) n) := by
  refine b_ext (fun i hi => ?_)
  rw [bt_ofn hi, eb_tb]
  have h := bt_fk (v := 1) (f := f) hi n (by omega)
  by_cases c : i < n ∧ f i = 1
  · rw [h.mpr c, decide_eq_true c.1, decide_eq_true c.2]; rfl
  · have : bt (fk 1 f n) i = false := by
      cases q : bt (fk 1 f n) i with
      | false => rfl
      | true => exact absurd (h.mp q) c
    rw [this]
    by_cases d : i < n
    · rw [decide_eq_false (show ¬ f i = 1 from fun z => c ⟨d, z⟩), Bool.and_false]
    · rw [decide_eq_false d, Bool.false_and]
theorem len_sk {f : Nat → Int32} : ∀ n : Nat, n ≤ 12 → (sk f n).toInt = (el (fun k => decide (f k = 1)) n).length ∧ (el (fun k => decide (f k = 1)) n).length ≤ 2 ^ n := by
  intro n
  induction n with
  | zero => intro _; exact ⟨rfl, Nat.le_refl 1⟩
  | succ n ih =>
    intro hn
    obtain ⟨h1, h2⟩ := ih (by omega)
    have l2 : (2 : Int32).toInt = 2 := rfl
    have h4 : 2 ^ n ≤ 2 ^ 11 := Nat.pow_le_pow_right (by omega) (by omega)
    have h5 : 2 ^ (n + 1) = 2 * 2 ^ n := by rw [Nat.pow_succ, Nat.mul_comm]
    show (if f n = 1 then sk f n * 2 else sk f n).toInt = ((if decide (f n = 1) = true then el (fun k => decide (f k = 1)) n ++ (el (fun k => decide (f k = 1)) n).map (· + 2 ^ n) else el (fun k => decide (f k = 1)) n).length : Nat) ∧ (if decide (f n = 1) = true then el (fun k => decide (f k = 1)) n ++ (el (fun k => decide (f k = 1)) n).map (· + 2 ^ n) else el (fun k => decide (f k = 1)) n).length ≤ 2 ^ (n + 1)
    by_cases c : f n = 1
    · rw [if_pos c, if_pos (decide_eq_true c), List.length_append, List.length_map, ti_mul (by rw [l2]; omega) (by rw [l2]; omega), l2]
      omega
    · rw [if_neg c, if_neg (by rw [decide_eq_false c]; decide)]
      omega
theorem ff_mem {p : Nat → Bool} {s : Nat} : ∀ (c lo : Nat), s ∈ ff p lo c ↔ (lo ≤ s ∧ s < lo + c ∧ p s = true) := by
  intro c
  induction c with
  | zero =>
    intro lo
    show s ∈ [] ↔ _
    constructor
    · intro h; cases h
    · intro h; omega
  | succ c ih =>
    intro lo
    show s ∈ (if p lo = true then lo :: ff p (lo + 1) c else ff p (lo + 1) c) ↔ _
    by_cases d : p lo = true
    · rw [if_pos d, List.mem_cons, ih]
      constructor
      · rintro (h | h)
        · rw [h]; exact ⟨by omega, by omega, d⟩
        · exact ⟨by omega, by omega, h.2.2⟩
      · intro h
        by_cases e : s = lo
        · exact Or.inl e
        · exact Or.inr ⟨by omega, by omega, h.2.2⟩
    · rw [if_neg d, ih]
      constructor
      · intro h; exact ⟨by omega, by omega, h.2.2⟩
      · intro h
        have : s ≠ lo := fun e => d (by rw [← e]; exact h.2.2)
        exact ⟨by omega, by omega, h.2.2⟩
theorem el_mem {b : Nat → Bool} {n s : Nat} : s ∈ el b n ↔ s &&& eb b n = s := by
  rw [← el_up, ff_mem]
  constructor
  · intro h; exact of_decide_eq_true h.2.2
  · intro h
    have : s &&& eb b n ≤ eb b n := Nat.and_le_right
    exact ⟨by omega, by omega, decide_eq_true h⟩
theorem eb_self {f : Nat} (hf : f < 4096) : eb (fun k => f.testBit k) 12 = f := by
  refine Nat.eq_of_testBit_eq (fun i => ?_)
  rw [eb_tb]
  by_cases c : i < 12
  · rw [decide_eq_true c, Bool.true_and]
  · rw [decide_eq_false c, Bool.false_and]
    refine (Nat.testBit_lt_two_pow ?_).symm
    have : 2 ^ 12 ≤ 2 ^ i := Nat.pow_le_pow_right (by omega) (by omega)
    omega
/-- how many sets -/
def pw (f : Nat) : Nat → Nat
  | 0 => 1
  | n + 1 => if f.testBit n = true then 2 * pw f n else pw f n
theorem pw_len {f : Nat} : ∀ n : Nat, (el (fun k => f.testBit k) n).length = pw f n := by
  intro n
  induction n with
  | zero => rfl
  | succ n ih =>
    show (if f.testBit n = true then el (fun k => f.testBit k) n ++ (el (fun k => f.testBit k) n).map (· + 2 ^ n) else el (fun k => f.testBit k) n).length = if f.testBit n = true then 2 * pw f n else pw f n
    by_cases c : f.testBit n = true
    · rw [if_pos c, if_pos c, List.length_append, List.length_map, ih]; omega
    · rw [if_neg c, if_neg c, ih]
theorem bc_all : ∀ x y : Fin 64, ((1 : Int32) <<< (bcp (Int32.ofNat (64 * x.val + y.val)) &&& 31)).toInt = (pw (64 * x.val + y.val) 12 : Nat) := by decide +kernel
theorem bc_pw {f : Nat} (hf : f < 4096) : ((1 : Int32) <<< (bcp (Int32.ofNat f) &&& 31)).toInt = (pw f 12 : Nat) := by
  have h := bc_all ⟨f / 64, by omega⟩ ⟨f % 64, by omega⟩
  have e : 64 * (f / 64) + f % 64 = f := by omega
  rw [show 64 * ((⟨f / 64, by omega⟩ : Fin 64).val) + ((⟨f % 64, by omega⟩ : Fin 64).val) = f from e] at h
  exact h
/-! THE PLANK that wasn't asked changes nothing -/
theorem sa_cg {F G : Int32 → Int32} {c : Nat → Int32} {n : Nat} (h : ∀ k : Nat, k < n → ¬ (c k).toInt < 1000 → (c k).toInt < 2000 → F (c k - 1000) = G (c k - 1000)) : ∀ k : Nat, k ≤ n → ∀ j : Nat, sa F c k j = sa G c k j := by
  intro k
  induction k with
  | zero => intro _ j; rfl
  | succ k ih =>
    intro hk j
    have ih := ih (by omega)
    show (if c k = 3000 then (if j = (dep c k).toNat - 1 then -(sa F c k ((dep c k).toNat - 1)) else sa F c k j) else if (c k).toInt < 2000 then (if j = (dep c k).toNat then (if (c k).toInt < 1000 then c k else F (c k - 1000)) else sa F c k j) else (if j = (dep c k).toNat - 2 then wk (c k - 2000) (sa F c k ((dep c k).toNat - 2)) (sa F c k ((dep c k).toNat - 1)) else sa F c k j)) = (if c k = 3000 then (if j = (dep c k).toNat - 1 then -(sa G c k ((dep c k).toNat - 1)) else sa G c k j) else if (c k).toInt < 2000 then (if j = (dep c k).toNat then (if (c k).toInt < 1000 then c k else G (c k - 1000)) else sa G c k j) else (if j = (dep c k).toNat - 2 then wk (c k - 2000) (sa G c k ((dep c k).toNat - 2)) (sa G c k ((dep c k).toNat - 1)) else sa G c k j))
    rw [ih j, ih ((dep c k).toNat - 1), ih ((dep c k).toNat - 2)]
    by_cases c1 : c k = 3000
    · rw [if_pos c1, if_pos c1]
    · rw [if_neg c1, if_neg c1]
      by_cases c2 : (c k).toInt < 2000
      · rw [if_pos c2, if_pos c2]
        by_cases c3 : (c k).toInt < 1000
        · rw [if_pos c3, if_pos c3]
        · rw [if_neg c3, if_neg c3, h k (by omega) c3 c2]
      · rw [if_neg c2, if_neg c2]
theorem rc_cg {cd : Nat → Int32} {L : Int} {pl pl2 t fl : Int32} {s : SB} (h : (pl >>> (s.1 &&& 31)) &&& 1 = (pl2 >>> (s.1 &&& 31)) &&& 1 ∨ ∀ k : Nat, (k : Int) < L → (cd k).toInt ≠ 1000) : RC cd L pl t fl s = RC cd L pl2 t fl s := by
  unfold RC
  refine sa_cg (n := L.toNat) (fun k hk _ _ => ?_) _ (Nat.le_refl _) 0
  by_cases c : cd k - 1000 = 0
  · rcases h with h | h
    · unfold Fq
      rw [h]
    · exfalso
      have e : cd k = 1000 := by
        have z := congrArg (· + (1000 : Int32)) c
        have z : cd k - 1000 + 1000 = 0 + 1000 := z
        rw [Int32.sub_add_cancel] at z
        exact z
      have := h k (by omega)
      rw [e] at this
      exact this rfl
  · unfold Fq
    rw [if_neg c, if_neg c]
theorem sh_eq {pl pl2 x : Int32} (h : ∀ k : Nat, k < 32 → bt (1 <<< (x &&& 31)) k = true → bt pl k = bt pl2 k) : (pl >>> (x &&& 31)) &&& 1 = (pl2 >>> (x &&& 31)) &&& 1 := by
  obtain ⟨k, hk, e⟩ := sh_k x
  rw [e] at h ⊢
  have hb := h k hk (by rw [bt_1sh hk hk, decide_eq_true rfl])
  have e1 := tb_iff (x := pl) hk
  have e2 := tb_iff (x := pl2) hk
  refine b_ext (fun i hi => ?_)
  rw [b_and, b_and, b_1 i hi]
  by_cases c : i = 0
  · rw [c, show (Int32.ofNat k) = nI k from rfl, b_sshr k hk pl (by omega), b_sshr k hk pl2 (by omega), if_pos (by omega), if_pos (by omega), Nat.add_zero, hb]
  · rw [decide_eq_false c, Bool.and_false, Bool.and_false]
theorem stp_pl {T : Nat → Nat → Int32} {ap X pl pl2 : Int32} {cd : Nat → Int32} {L : Int} (hap : ap = 0 → ∀ k : Nat, (k : Int) < L → (cd k).toInt ≠ 1000) (hX : ∀ i, i < 32 → bt X i = true → bt pl i = bt pl2 i) (t fl : Int32) (s : SB) (h : ∀ i, i < 32 → bt (abit T ap s) i = true → bt X i = true) : stp T (RC cd L pl t fl) t s = stp T (RC cd L pl2 t fl) t s := by
  by_cases q : T 0 (ix s.1) = 1 ∧ ¬ T 1 (ix s.1) = T 2 (ix s.1)
  · have e : RC cd L pl t fl s = RC cd L pl2 t fl s := by
      apply rc_cg
      by_cases c : ap = 0
      · exact Or.inr (hap c)
      · left
        unfold abit at h
        rw [if_pos ⟨q.1, q.2, c⟩] at h
        exact sh_eq (fun k hk hb => hX k hk (h k hk hb))
    unfold stp
    rw [e]
  · have e : ∀ v : Int32, (if T 0 (ix s.1) = 1 ∧ ¬ v = 0 then T 2 (ix s.1) else T 1 (ix s.1)) = T 1 (ix s.1) := by
      intro v
      by_cases c : T 0 (ix s.1) = 1 ∧ ¬ v = 0
      · rw [if_pos c]
        by_cases d : T 1 (ix s.1) = T 2 (ix s.1)
        · exact d.symm
        · exact absurd ⟨c.1, d⟩ q
      · rw [if_neg c]
    unfold stp
    rw [e, e]
theorem eo_two {σ : gI} {cd : Nat → Int32} {L : Int} {p m pl pl2 X : Int32} (hC : CC σ cd L) (hr : X = if σ 4 (ix p) = 6 then 0 else ras (TC σ) (rvc σ cd L pl) (wtc σ) (abit (TC σ) (σ 17 9)) 300 m (p, 99, 0) 0) (hX : ∀ i, i < 32 → bt X i = true → bt pl i = bt pl2 i) : Eo σ cd L p m pl2 = Eo σ cd L p m pl := by
  unfold Eo flo
  have hix : TC σ 0 (ix p) = σ 4 (ix p) := rfl
  rw [hix]
  by_cases c : σ 4 (ix p) = 6
  · rw [if_pos c, if_pos c]
  · rw [if_neg c, if_neg c]
    rw [if_neg c] at hr
    refine rnn_two (X := X) (ab := abit (TC σ) (σ 17 9)) (fun t s hs => stp_pl (ap := σ 17 9) (fun z => hC.2.2.2.2 z) hX t _ s hs) 300 m (p, 99, 0) 0 (fun i _ hb => by rw [hr]; exact hb)
