section STEPS4
variable {q : Nat} {M4 N4 P4 x2 : Int32} {σ : gI}
theorem m_B_X12_steps_94 (N : Nat) (hN : 4294967296 ≤ N) (τ : gJ) (x3 x4 : Int32) (h : ST q M4 N4 P4 σ x2) (hq : q = 206 ∨ q = 207 ∨ q = 224) (hM : 0 ≤ M4.toInt ∧ M4.toInt ≤ 6) (hN4 : 0 ≤ N4.toInt) (hx : 0 ≤ x2.toInt ∧ x2.toInt < M4.toInt) (h3 : x3.toInt = 7 * x2.toInt) (h4 : 0 ≤ x4.toInt ∧ x4.toInt < (σ 199 3).toInt) (hk : σ 201 x4.toInt.toNat ≠ 6) : okp (SP q M4 N4 P4 x2) (B_X12_steps_94 N q σ τ x2 x3 x4) := by
  unfold B_X12_steps_94
  have hp := h.2.1.1.1
  refine ok_ck ⟨by omega, by show _ < (12 : Int); omega⟩ (fun j hj lj => ok_ite (fun _ => ?_) (fun _ => m_B_X12_steps_150 N hN τ x3 x4 h hq hM hN4 hx h3 h4 hk))
  refine ok_bd2 (m_B_X12_in_0 N hN σ τ _ _ _) (fun r σ3 τ3 q3 _ => ?_)
  have g3 : ∀ c k : Nat, σ3 c k = σ c k := fun c k => (fr_B_X12_in_0 N σ τ _ _ _ q3).1 c k id
  have h33 := st_fr h g3
  refine ok_ite (fun _ => m_B_X12_steps_150 N hN τ3 x3 x4 h33 hq hM hN4 hx h3 (by rw [g3]; exact h4) (by rw [g3]; exact hk)) (fun _ => ?_)
  refine ok_bd (st_ends N τ3 2 h33 hq hM.2 hx) (fun _ σ9 τ9 h9 => ok_r ⟨h9.1.1, h9.1.2.1, rk_whole h9.1.2.2 (fun t ht z => ?_), Or.inl rfl⟩)
  rw [show t = x2.toInt.toNat by omega, h9.2.1] at z
  exact absurd z (by decide)
theorem m_B_X12_steps_40 (N : Nat) (hN : 4294967296 ≤ N) (τ : gJ) (x3 x4 : Int32) (h : ST q M4 N4 P4 σ x2) (hK : RK σ q M4 (-1)) (hq : q = 206 ∨ q = 207 ∨ q = 224) (hM : 0 ≤ M4.toInt ∧ M4.toInt ≤ 6) (hN4 : 0 ≤ N4.toInt) (hx : 0 ≤ x2.toInt ∧ x2.toInt < M4.toInt) (h3 : x3.toInt = 7 * x2.toInt) (h4 : 0 ≤ x4.toInt ∧ x4.toInt < (σ 199 3).toInt) (hk : σ 201 x4.toInt.toNat ≠ 6) : okp (SP q M4 N4 P4 x2) (B_X12_steps_40 N q σ τ x2 x3 x4) := by
  unfold B_X12_steps_40
  have hp := h.2.1.1.1
  have o2 : (2 : Int32).toInt = 2 := rfl
  have e2 : (x3 + 2).toInt = 7 * x2.toInt + 2 := by rw [ti_add (by omega) (by omega), h3, o2]
  refine ok_ck ⟨by omega, by show _ < (12 : Int); omega⟩ (fun j hj lj => ok_ite (fun _ => ?_) (fun _ => m_B_X12_steps_94 N hN τ x3 x4 h hq hM hN4 hx h3 h4 hk))
  refine ok_ck ⟨by omega, by show _ < (45 : Int); omega⟩ (fun j3 hj3 lj3 => ok_ite (fun _ => ok_ite (fun _ => ok_nm (fun σ6 es6 => ?_)) (fun _ => ok_nm (fun σ6 es6 => ?_))) (fun _ => ok_r ⟨h.1, h.2.1, hK, Or.inl rfl⟩))
  · exact m_B_X12_steps_94 N hN τ x3 x4 (st_own h es6 hq hM.2 hx (by omega) (by omega)) hq hM hN4 hx h3 (by rw [es6, up2_ne (by omega)]; exact h4) (by rw [es6, up2_ne (by omega)]; exact hk)
  · exact m_B_X12_steps_94 N hN τ x3 x4 (st_own h es6 hq hM.2 hx (by omega) (by omega)) hq hM hN4 hx h3 (by rw [es6, up2_ne (by omega)]; exact h4) (by rw [es6, up2_ne (by omega)]; exact hk)
theorem m_B_X12_steps_0 (N : Nat) (hN : 4294967296 ≤ N) (τ : gJ) (hR : RJ σ q M4 N4 P4) (hS : SI σ) (hK : RK σ q M4 (-1)) (hq : q = 206 ∨ q = 207 ∨ q = 224) (hM : 0 ≤ M4.toInt ∧ M4.toInt ≤ 6) (hN4 : 0 ≤ N4.toInt) (hx : 0 ≤ x2.toInt ∧ x2.toInt < M4.toInt) (hw : σ q (7 * x2.toInt.toNat + 4) = 0) : okp (SP q M4 N4 P4 x2) (B_X12_steps_0 N q σ τ x2) := by
  unfold B_X12_steps_0
  have hp := hS.1.1
  have o0 : (0 : Int32).toInt = 0 := rfl
  have o7 := ti_mul7 (x := x2) (by omega)
  refine ok_nm (fun v1 ev1 => ?_)
  have e1 : v1.toInt = 7 * x2.toInt := by rw [ev1, o7]
  have e0 : (v1 + 0).toInt = 7 * x2.toInt := by rw [ti_add (by omega) (by omega), e1, o0]; omega
  refine ok_ck ⟨by omega, by show _ < (45 : Int); omega⟩ (fun j2 hj2 lj2 => ok_nm (fun v3 ev3 => ?_))
  have ha := rj_at hR hx (j := j2) (by omega)
  rw [← ev3] at ha
  have hk : σ 201 v3.toInt.toNat ≠ 6 := by
    rw [ev3, show j2 = 7 * x2.toInt.toNat by omega]
    exact hK x2.toInt.toNat (by omega) (by omega) hw
  have h : ST q M4 N4 P4 σ x2 := ⟨hR, hS, rk_weak _ hK⟩
  refine ok_ck ⟨by omega, by show _ < (12 : Int); omega⟩ (fun j4 hj4 lj4 => ok_ite (fun c => ?_) (fun _ => m_B_X12_steps_40 N hN τ v1 v3 h hK hq hM hN4 hx e1 ha hk))
  refine ok_dz ((hS.1.2 j4 (by omega)).2.2 c) (ok_ite (fun _ => m_B_X12_steps_40 N hN τ v1 v3 h hK hq hM hN4 hx e1 ha hk) (fun _ => ok_r ⟨hR, hS, hK, Or.inl rfl⟩))
end STEPS4
