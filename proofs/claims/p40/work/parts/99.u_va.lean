def bt (x : Int32) (i : Nat) : Bool := x.toBitVec.getLsbD i
theorem b_ext {x y : Int32} (h : ∀ i, i < 32 → bt x i = bt y i) : x = y := Int32.toBitVec_inj.mp (BitVec.eq_of_getLsbD_eq (fun i hi => h i hi))
theorem b_or (x y : Int32) (i : Nat) : bt (x ||| y) i = (bt x i || bt y i) := by unfold bt; rw [Int32.toBitVec_or, BitVec.getLsbD_or]
theorem b_and (x y : Int32) (i : Nat) : bt (x &&& y) i = (bt x i && bt y i) := by unfold bt; rw [Int32.toBitVec_and, BitVec.getLsbD_and]
theorem b_xor (x y : Int32) (i : Nat) : bt (x ^^^ y) i = (bt x i ^^ bt y i) := by unfold bt; rw [Int32.toBitVec_xor, BitVec.getLsbD_xor]
theorem b_big {x : Int32} {i : Nat} (h : 32 ≤ i) : bt x i = false := BitVec.getLsbD_of_ge _ _ h
theorem b_255 (i : Nat) : bt 255 i = decide (i < 8) := by
  rcases Nat.lt_or_ge i 32 with h | h
  · exact (by decide +kernel : ∀ i, i < 32 → bt 255 i = decide (i < 8)) i h
  · rw [b_big h, decide_eq_false (by omega)]
theorem b_65535 (i : Nat) : bt 65535 i = decide (i < 16) := by
  rcases Nat.lt_or_ge i 32 with h | h
  · exact (by decide +kernel : ∀ i, i < 32 → bt 65535 i = decide (i < 16)) i h
  · rw [b_big h, decide_eq_false (by omega)]
theorem b_m1 : ∀ i, i < 32 → bt (-1) i = true := by decide +kernel
theorem b_0 (i : Nat) : bt 0 i = false := BitVec.getLsbD_zero
theorem s_l : ∀ n, n < 32 → ((nI n &&& 31).toBitVec.smod 32).toNat = n := by decide +kernel
theorem s_u : ∀ n, n < 32 → (((nI n).toUInt32 &&& Int32.toUInt32 31).toBitVec % 32).toNat = n := by decide +kernel
theorem b_shl (n : Nat) (hn : n < 32) (x : Int32) {i : Nat} (hi : i < 32) : bt (x <<< (nI n &&& 31)) i = (decide (n ≤ i) && bt x (i - n)) := by
  unfold bt
  rw [Int32.toBitVec_shiftLeft]
  show (x.toBitVec <<< ((nI n &&& 31).toBitVec.smod 32).toNat).getLsbD i = _
  rw [s_l n hn, BitVec.getLsbD_shiftLeft]
  rcases Nat.lt_or_ge i n with h | h
  · simp [h, Nat.not_le.mpr h]
  · simp [hi, h, Nat.not_lt.mpr h]
theorem b_ushr (n : Nat) (hn : n < 32) (x : Int32) (i : Nat) : bt ((x.toUInt32 >>> ((nI n).toUInt32 &&& Int32.toUInt32 31)).toInt32) i = bt x (n + i) := by
  show (x.toUInt32 >>> ((nI n).toUInt32 &&& Int32.toUInt32 31)).toBitVec.getLsbD i = x.toUInt32.toBitVec.getLsbD (n + i)
  rw [UInt32.toBitVec_shiftRight]
  show (x.toUInt32.toBitVec >>> (((nI n).toUInt32 &&& Int32.toUInt32 31).toBitVec % 32).toNat).getLsbD i = _
  rw [s_u n hn, BitVec.getLsbD_ushiftRight]
theorem b_sshr (n : Nat) (hn : n < 32) (x : Int32) {i : Nat} (hi : i < 32) : bt (x >>> (nI n &&& 31)) i = if n + i < 32 then bt x (n + i) else bt x 31 := by
  unfold bt
  rw [Int32.toBitVec_shiftRight]
  show (x.toBitVec.sshiftRight ((nI n &&& 31).toBitVec.smod 32).toNat).getLsbD i = _
  rw [s_l n hn, BitVec.getLsbD_sshiftRight, BitVec.msb_eq_getLsbD_last]
  simp [hi]
theorem b_1 : ∀ i, i < 32 → bt 1 i = decide (i = 0) := by decide +kernel
theorem tb_iff {x : Int32} {p : Nat} (hp : p < 32) : (x >>> (Int32.ofNat p &&& 31)) &&& 1 = 0 ↔ bt x p = false := by
  have e : ∀ i, i < 32 → bt ((x >>> (Int32.ofNat p &&& 31)) &&& 1) i = (if i = 0 then bt x p else false) := fun i hi => by
    rw [b_and, b_1 i hi, show bt (x >>> (Int32.ofNat p &&& 31)) i = (if p + i < 32 then bt x (p + i) else bt x 31) from b_sshr p hp x hi]
    by_cases c : i = 0
    · rw [c, if_pos rfl, if_pos (by omega), decide_eq_true rfl, Bool.and_true]
      rfl
    · rw [if_neg c, decide_eq_false c, Bool.and_false]
  constructor
  · intro h
    have q := e 0 (by omega)
    rw [h, b_0, if_pos rfl] at q
    exact q.symm
  · intro h
    refine b_ext (fun i hi => ?_)
    rw [e i hi, b_0]
    by_cases c : i = 0
    · rw [if_pos c]; exact h
    · rw [if_neg c]
theorem bt_1sh {i p : Nat} (hi : i < 32) (hp : p < 32) : bt (1 <<< (Int32.ofNat i &&& 31)) p = decide (i = p) := by
  rw [show bt (1 <<< (Int32.ofNat i &&& 31)) p = (decide (i ≤ p) && bt 1 (p - i)) from b_shl i hi 1 hp, b_1 (p - i) (by omega)]
  by_cases c : i = p
  · rw [decide_eq_true c, decide_eq_true (show i ≤ p by omega), decide_eq_true (show p - i = 0 by omega)]; rfl
  · rw [decide_eq_false c]
    by_cases d : i ≤ p
    · rw [decide_eq_false (show ¬ p - i = 0 by omega), Bool.and_false]
    · rw [decide_eq_false d, Bool.false_and]
theorem bt_fk {v : Int32} {f : Nat → Int32} {p : Nat} (hp : p < 32) : ∀ n : Nat, n ≤ 32 → (bt (fk v f n) p = true ↔ p < n ∧ f p = v) := by
  intro n
  induction n with
  | zero => intro _; exact ⟨fun h => by rw [show fk v f 0 = 0 from rfl, b_0] at h; exact absurd h (by decide), fun h => absurd h.1 (Nat.not_lt_zero _)⟩
  | succ n ih =>
    intro hn
    have q := ih (by omega)
    have e : fk v f (n + 1) = if f n = v then fk v f n ||| (1 <<< (Int32.ofNat n &&& 31)) else fk v f n := rfl
    rw [e]
    by_cases c : f n = v
    · rw [if_pos c, b_or, bt_1sh (by omega) hp, Bool.or_eq_true, q, decide_eq_true_iff]
      constructor
      · rintro (h | h)
        · exact ⟨by omega, h.2⟩
        · exact ⟨by omega, by rw [← h]; exact c⟩
      · intro h
        by_cases d : n = p
        · exact Or.inr d
        · exact Or.inl ⟨by omega, h.2⟩
    · rw [if_neg c, q]
      constructor
      · intro h; exact ⟨by omega, h.2⟩
      · intro h
        refine ⟨?_, h.2⟩
        by_cases d : n = p
        · rw [d] at c; exact absurd h.2 c
        · omega
theorem ofn_of {x : Int32} (h : 0 ≤ x.toInt) : x = Int32.ofNat x.toInt.toNat := (fa_eq _ _).mpr (by have := i32_rng x; rw [ofn_ti (by omega)]; omega)
/-- the bit of a place among those of a kind -/
theorem fk_bit {v x : Int32} {f : Nat → Int32} {n : Nat} (hn : n ≤ 12) (hx : 0 ≤ x.toInt ∧ x.toInt < 12) : ((fk v f n) >>> (x &&& 31)) &&& 1 = 0 ↔ ¬ (x.toInt < n ∧ f x.toInt.toNat = v) := by
  have e := ofn_of hx.1
  generalize hp : x.toInt.toNat = p at e ⊢
  rw [e, tb_iff (by omega)]
  have q := bt_fk (v := v) (f := f) (p := p) (by omega) n (by omega)
  have e2 : x.toInt = p := by omega
  rw [← e, e2]
  constructor
  · intro h z
    have w := q.mpr ⟨by omega, z.2⟩
    rw [h] at w
    exact absurd w (by decide)
  · intro h
    cases hb : bt (fk v f n) p with
    | false => rfl
    | true => exact absurd ⟨by have := (q.mp hb).1; omega, (q.mp hb).2⟩ h
