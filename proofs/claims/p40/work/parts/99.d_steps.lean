section STEPS3
variable {q : Nat} {M4 N4 P4 x2 : Int32} {σ : gI}
theorem m_B_X12_steps_180 (N : Nat) (τ : gJ) (x3 x4 : Int32) (h : ST q M4 N4 P4 σ x2) (hq : q = 206 ∨ q = 207 ∨ q = 224) (hM : M4.toInt ≤ 6) (hx : 0 ≤ x2.toInt ∧ x2.toInt < M4.toInt) (h3 : x3.toInt = 7 * x2.toInt) (h4 : 0 ≤ x4.toInt ∧ x4.toInt < (σ 199 3).toInt) (hk : σ 201 x4.toInt.toNat ≠ 6) : okp (SP q M4 N4 P4 x2) (B_X12_steps_180 N q σ τ x2 x3 x4) := by
  unfold B_X12_steps_180
  have hp := h.2.1.1.1
  refine ok_ck ⟨by omega, by show _ < (12 : Int); omega⟩ (fun j hj lj => ok_nm (fun v ev => ?_))
  have ht := (h.2.1.1.2 j (by omega)).1 (by rw [show j = x4.toInt.toNat by omega]; exact hk)
  rw [← ev] at ht
  refine ok_ite (fun _ => ok_ite (fun _ => ?_) (fun _ => ?_)) (fun _ => ?_)
  · exact m_B_X12_steps_211 N τ x3 x4 v 1 h hq hM hx h3 h4 ht (Or.inr rfl)
  · exact m_B_X12_steps_211 N τ x3 x4 v 0 h hq hM hx h3 h4 ht (Or.inl rfl)
  · exact m_B_X12_steps_211 N τ x3 x4 v 1 h hq hM hx h3 h4 ht (Or.inr rfl)
theorem m_B_X12_steps_150 (N : Nat) (hN : 4294967296 ≤ N) (τ : gJ) (x3 x4 : Int32) (h : ST q M4 N4 P4 σ x2) (hq : q = 206 ∨ q = 207 ∨ q = 224) (hM : 0 ≤ M4.toInt ∧ M4.toInt ≤ 6) (hN4 : 0 ≤ N4.toInt) (hx : 0 ≤ x2.toInt ∧ x2.toInt < M4.toInt) (h3 : x3.toInt = 7 * x2.toInt) (h4 : 0 ≤ x4.toInt ∧ x4.toInt < (σ 199 3).toInt) (hk : σ 201 x4.toInt.toNat ≠ 6) : okp (SP q M4 N4 P4 x2) (B_X12_steps_150 N q σ τ x2 x3 x4) := by
  unfold B_X12_steps_150
  have hp := h.2.1.1.1
  refine ok_ck ⟨by omega, by show _ < (12 : Int); omega⟩ (fun j hj lj => ok_ite (fun c => ?_) (fun _ => m_B_X12_steps_180 N τ x3 x4 h hq hM.2 hx h3 h4 hk))
  refine ok_bd2 (m_B_X12_ruled_0 N hN q M4 N4 P4 σ τ x2 h.1 hM hq h.2.1 hx hN4) (fun r σ3 τ3 q3 _ => ?_)
  have f3 := (fr_B_X12_ruled_0 N q σ τ x2 q3).1
  have g3 : ∀ c k : Nat, c ≠ 218 → σ3 c k = σ c k := fun c k hh => f3 c k (by omega)
  have hS3 : ST q M4 N4 P4 σ3 x2 := ⟨rj_fr h.1 (fun c k hh => g3 c k (by omega)), si_fr h.2.1 (fun c k hh => g3 c k (by omega)), rk_fr h.2.2 (fun c k hh => g3 c k (by omega))⟩
  have p3 : σ3 199 3 = σ 199 3 := g3 199 3 (by omega)
  have h43 : 0 ≤ x4.toInt ∧ x4.toInt < (σ3 199 3).toInt := by rw [p3]; exact h4
  refine ok_ite (fun _ => m_B_X12_steps_180 N τ3 x3 x4 hS3 hq hM.2 hx h3 h43 (by rw [g3 201 _ (by omega)]; exact hk)) (fun _ => ok_nm (fun v ev => ?_))
  have ht := (hS3.2.1.1.2 j (by omega)).2.1 (by rw [g3 201 _ (by omega)]; exact c)
  rw [← ev] at ht
  refine ok_ite (fun _ => ok_ite (fun _ => ?_) (fun _ => ?_)) (fun _ => ?_)
  · exact m_B_X12_steps_211 N τ3 x3 x4 v 1 hS3 hq hM.2 hx h3 h43 ht (Or.inr rfl)
  · exact m_B_X12_steps_211 N τ3 x3 x4 v 0 hS3 hq hM.2 hx h3 h43 ht (Or.inl rfl)
  · exact m_B_X12_steps_211 N τ3 x3 x4 v 1 hS3 hq hM.2 hx h3 h43 ht (Or.inr rfl)
end STEPS3
