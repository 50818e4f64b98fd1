def SP (q : Nat) (M4 N4 P4 x : Int32) : Int32 → gI → gJ → Prop := fun a σ1 _ => RJ σ1 q M4 N4 P4 ∧ SI σ1 ∧ RK σ1 q M4 (-1) ∧ (a = 0 ∨ (a = 1 ∧ σ1 q (7 * x.toInt.toNat + 4) = 0))
section STEPS
variable {q : Nat} {M4 N4 P4 x2 : Int32} {σ : gI}
theorem st_done {x3 : Int32} (τ : gJ) (h : ST q M4 N4 P4 σ x2) (hM : M4.toInt ≤ 6) (hx : 0 ≤ x2.toInt ∧ x2.toInt < M4.toInt) (h3 : x3.toInt = 7 * x2.toInt) (hk : σ q (7 * x2.toInt.toNat + 4) = 0 → σ 201 (σ q (7 * x2.toInt.toNat)).toInt.toNat ≠ 6) : okp (SP q M4 N4 P4 x2) (ck (x3 + 4) 45 fun j => if σ q j = 0 then some (1, σ, τ) else some (0, σ, τ)) := by
  have o4 : (4 : Int32).toInt = 4 := rfl
  have e4 : (x3 + 4).toInt = 7 * x2.toInt + 4 := by rw [ti_add (by omega) (by omega), h3, o4]
  have hK : RK σ q M4 (-1) := rk_whole h.2.2 (fun t ht => by rw [show t = x2.toInt.toNat by omega]; exact hk)
  refine ok_ck ⟨by omega, by show _ < (45 : Int); omega⟩ (fun j hj lj => ?_)
  rw [show j = 7 * x2.toInt.toNat + 4 by omega]
  exact ok_ite (fun c => ok_r ⟨h.1, h.2.1, hK, Or.inr ⟨rfl, c⟩⟩) (fun _ => ok_r ⟨h.1, h.2.1, hK, Or.inl rfl⟩)
theorem m_B_X12_steps_274 (N : Nat) (τ : gJ) (x3 x5 y0 y1 y2 : Int32) (h : ST q M4 N4 P4 σ x2) (hq : q = 206 ∨ q = 207 ∨ q = 224) (hM : M4.toInt ≤ 6) (hx : 0 ≤ x2.toInt ∧ x2.toInt < M4.toInt) (h3 : x3.toInt = 7 * x2.toInt) (hy : y2.toInt = 7 * x2.toInt + 1) (h5 : 0 ≤ x5.toInt ∧ x5.toInt < (σ 199 3).toInt) (hat : σ q (7 * x2.toInt.toNat) = x5) : okp (SP q M4 N4 P4 x2) (B_X12_steps_274 N q σ τ x2 x3 x5 y0 y1 y2) := by
  unfold B_X12_steps_274
  have hp := h.2.1.1.1
  have o1 : (1 : Int32).toInt = 1 := rfl
  have e1 : (x3 + 1).toInt = 7 * x2.toInt + 1 := by rw [ti_add (by omega) (by omega), h3, o1]
  refine ok_ck ⟨by omega, by show _ < (45 : Int); omega⟩ (fun j1 hj1 lj1 => ok_nm (fun σ2 es2 => ok_ck ⟨by omega, by show _ < (45 : Int); omega⟩ (fun j3 hj3 lj3 => ?_)))
  have h2 := st_own h es2 hq hM hx (by omega) (by omega)
  have at2 : σ2 q (7 * x2.toInt.toNat) = x5 := by rw [es2, up2_ne (by omega)]; exact hat
  refine ok_ite (fun _ => ok_ck ⟨by omega, by show _ < (12 : Int); omega⟩ (fun j5 hj5 lj5 => ok_ite (fun c => ?_) (fun c => ?_))) (fun _ => ok_nm (fun σ12 es12 => ?_))
  · refine ok_bd (st_ends N τ 1 h2 hq hM hx) (fun _ σ9 τ9 h9 => st_done τ9 h9.1 hM hx h3 (fun z => ?_))
    rw [h9.2.1] at z
    exact absurd z (by decide)
  · refine st_done τ h2 hM hx h3 (fun _ => ?_)
    rw [at2, show x5.toInt.toNat = j5 by omega]
    exact c
  · have h12 := st_own h2 es12 hq hM hx (by omega) (by omega)
    refine ok_bd (st_ends N τ 2 h12 hq hM hx) (fun _ σ9 τ9 h9 => st_done τ9 h9.1 hM hx h3 (fun z => ?_))
    rw [h9.2.1] at z
    exact absurd z (by decide)
theorem m_B_X12_steps_211 (N : Nat) (τ : gJ) (x3 x4 x5 y0 : Int32) (h : ST q M4 N4 P4 σ x2) (hq : q = 206 ∨ q = 207 ∨ q = 224) (hM : M4.toInt ≤ 6) (hx : 0 ≤ x2.toInt ∧ x2.toInt < M4.toInt) (h3 : x3.toInt = 7 * x2.toInt) (h4 : 0 ≤ x4.toInt ∧ x4.toInt < (σ 199 3).toInt) (h5 : 0 ≤ x5.toInt ∧ x5.toInt < (σ 199 3).toInt) (hy : y0 = 0 ∨ y0 = 1) : okp (SP q M4 N4 P4 x2) (B_X12_steps_211 N q σ τ x2 x3 x4 x5 y0) := by
  unfold B_X12_steps_211
  have hp := h.2.1.1.1
  have o0 : (0 : Int32).toInt = 0 := rfl
  have o1 : (1 : Int32).toInt = 1 := rfl
  have o3 : (3 : Int32).toInt = 3 := rfl
  have e0 : (x3 + 0).toInt = 7 * x2.toInt := by rw [ti_add (by omega) (by omega), h3, o0]; omega
  have e1 : (x3 + 1).toInt = 7 * x2.toInt + 1 := by rw [ti_add (by omega) (by omega), h3, o1]
  have e3 : (x3 + 3).toInt = 7 * x2.toInt + 3 := by rw [ti_add (by omega) (by omega), h3, o3]
  refine ok_cb hy (ok_nm (fun σ2 es2 => ok_ck ⟨by omega, by show _ < (45 : Int); omega⟩ (fun j3 hj3 lj3 => ok_nm (fun σ4 es4 => ok_ck ⟨by omega, by show _ < (45 : Int); omega⟩ (fun j5 hj5 lj5 => ok_nm (fun σ6 es6 => ok_ck ⟨by omega, by show _ < (45 : Int); omega⟩ (fun j7 hj7 lj7 => ?_)))))))
  have h2 := st_up h es2 hq (by omega)
  have p2 : σ2 199 3 = σ 199 3 := by rw [es2]; exact up2_ne (by omega)
  have hA := st_own h2 es4 hq hM hx (by omega) (fun _ => by rw [p2]; exact h5)
  have p4 : σ4 199 3 = σ 199 3 := by rw [es4, up2_ne (by omega)]; exact p2
  have hB := st_own hA es6 hq hM hx (by omega) (by omega)
  have p6 : σ6 199 3 = σ 199 3 := by rw [es6, up2_ne (by omega)]; exact p4
  have at6 : σ6 q (7 * x2.toInt.toNat) = x5 := by
    rw [es6, up2_ne (by omega), es4, show 7 * x2.toInt.toNat = j3 by omega]
    unfold up2
    rw [if_pos ⟨rfl, rfl⟩]
  have h56 : 0 ≤ x5.toInt ∧ x5.toInt < (σ6 199 3).toInt := by rw [p6]; exact h5
  refine ok_ite (fun _ => ok_ck ⟨by omega, by show _ < (12 : Int); omega⟩ (fun j9 hj9 lj9 => ok_ite (fun _ => ?_) (fun _ => ?_))) (fun _ => ?_)
  · exact m_B_X12_steps_274 N τ x3 x5 _ _ _ hB hq hM hx h3 e1 h56 at6
  · exact m_B_X12_steps_274 N τ x3 x5 _ _ _ hB hq hM hx h3 e1 h56 at6
  · exact m_B_X12_steps_274 N τ x3 x5 _ _ _ hB hq hM hx h3 e1 h56 at6
end STEPS
