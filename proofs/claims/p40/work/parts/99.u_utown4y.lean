theorem sg_rng (x i : Int32) : (sg x i).toInt ≤ 255 := by
  unfold sg
  generalize x >>> ((24 - (8 * i)) &&& 31) = y
  have h1 : (y &&& 255).toBitVec.toNat ≤ 255 := by
    rw [Int32.toBitVec_and, BitVec.toNat_and]
    exact Nat.and_le_right
  have h2 : (y &&& 255).toInt = ((y &&& 255).toBitVec.toNat : Int) := by
    show (y &&& 255).toBitVec.toInt = _
    exact BitVec.toInt_eq_toNat_of_lt (by omega)
  omega
theorem lk_two {t t1 : Nat → Int32} {L : Int32} (h0 : 0 ≤ L.toInt) (h : ∀ k : Nat, (k : Int) < L.toInt → t k = t1 k) : lk t (imin 76 L).toInt = lk t1 (imin L 76).toInt := by
  have a := imin_c 76 L
  have b := imin_c L 76
  have l76 : (76 : Int32).toInt = 76 := rfl
  have e : (imin 76 L).toInt = (imin L 76).toInt := by omega
  funext i
  unfold lk
  rw [e]
  by_cases c : 0 ≤ i ∧ i < (imin L 76).toInt
  · rw [if_pos c, if_pos c, h i.toNat (by omega)]
  · rw [if_neg c, if_neg c]
