theorem m_len (N : Nat) (bs : List Int32) (hb : bs.length ≤ 20) (σ : gI) (τ : gJ) : okp (fun (a : Int32) _ _ => a.toInt = bs.length) (B_J0_length_8abf5_0 N bs σ τ) := by
  unfold B_J0_length_8abf5_0 B_J0_coder_7d493_0
  refine ok_bd (Q := fun a _ _ => a = 0) (ok_r rfl) (fun r σ1 τ1 h => ok_r ?_)
  subst h
  rw [show ((0 : Int32) &&& 31) = 0 from rfl, Int32.shiftRight_zero]
  exact nI_toInt (by omega)
theorem cc9 (x : Int32) : (((x.toUInt32 % 65536).toInt32).toUInt32 % 65536).toInt32 = (x.toUInt32 % 65536).toInt32 := by
  simp only [UInt32.toUInt32_toInt32]
  congr 1
  apply UInt32.toNat_inj.mp
  rw [UInt32.toNat_mod, UInt32.toNat_mod, Nat.mod_mod]
theorem m_chr (N : Nat) (bs : List Int32) (hb : bs.length ≤ 20) (σ : gI) (τ : gJ) (x1 : Int32) (h : 0 ≤ x1.toInt ∧ x1.toInt < bs.length) : okp (fun (a : Int32) _ _ => True) (B_J0_charAt_5068e_0 N bs σ τ x1) := by
  have hlen : (Int32.ofNat bs.length).toInt = bs.length := nI_toInt (by omega)
  have o : (0 : Int32).toInt = 0 := rfl
  unfold B_J0_charAt_5068e_0 B_J0_isLatin1_aae02_0
  refine ok_bd (Q := fun a _ _ => a = 1) (ok_r rfl) (fun r σ1 τ1 hr => ok_ite (fun c => ?_) (fun _ => ?_))
  · subst hr
    exact absurd c (by decide)
  · refine ok_bd (Q := fun a _ _ => (a.toUInt32 % 65536).toInt32 = a) ?_ (fun r3 σ3 τ3 h3 => ok_cch h3 (ok_r trivial))
    unfold B_J1_charAt_3b067_0
    refine ok_bd (Q := fun _ _ _ => True) ?_ (fun _ σ1 τ1 _ => ok_ck h (fun j hj lj => ok_cch (cc9 _) (ok_r (cc9 _))))
    unfold B_J0_checkIndex_df160_0 B_J3_checkIndex_8e157_0
    refine ok_bd (Q := fun _ _ _ => True) (ok_ite (fun c => absurd ((fa_lt _ _).mp c) (by omega)) (fun _ => ok_ite (fun _ => ok_r trivial) (fun c => absurd ((fa_lt _ _).mpr (by omega)) c))) (fun _ _ _ _ => ok_r trivial)
theorem m_C_X12_among_2 (N : Nat) (bs : List Int32) (hb : bs.length ≤ 20) (rec_2 : gI → gJ → Int32 → Option (Int32 × gI × gJ)) (n_2 : Nat) (A4 T4 : Int32) (hA : 0 ≤ A4.toInt ∧ A4.toInt ≤ 80 ∧ T4.toInt ≤ 80)
    (hrec : ∀ (σ : gI) (τ : gJ) (x2 : Int32), σ 199 14 = A4 → σ 199 15 = T4 → 0 ≤ x2.toInt → x2.toInt ≤ bs.length → (21 - x2.toInt).toNat < n_2 → okp (fun (a : Int32) _ _ => (-1 ≤ a.toInt ∧ a.toInt < bs.length) ∧ (0 ≤ a.toInt → A4.toInt < T4.toInt)) (rec_2 σ τ x2))
    (σ : gI) (τ : gJ) (x2 : Int32) (e1 : σ 199 14 = A4) (e2 : σ 199 15 = T4) (h0 : 0 ≤ x2.toInt) (h1 : x2.toInt ≤ bs.length) (hm : (21 - x2.toInt).toNat < n_2 + 1) : okp (fun (a : Int32) _ _ => (-1 ≤ a.toInt ∧ a.toInt < bs.length) ∧ (0 ≤ a.toInt → A4.toInt < T4.toInt)) (C_X12_among_2 N bs rec_2 σ τ x2) := by
  unfold C_X12_among_2
  have o : (1 : Int32).toInt = 1 := rfl
  have om : (-1 : Int32).toInt = -1 := rfl
  refine ok_bd2 (m_len N bs hb σ τ) (fun r σ1 τ1 q1 hr => ?_)
  have f1 := (fr_B_J0_length_8abf5_0 N bs σ τ q1).1
  have g1 := (f1 199 14 id).trans e1
  have g2 := (f1 199 15 id).trans e2
  refine ok_ite (fun _ => ok_r ⟨by rw [om]; omega, by rw [om]; omega⟩) (fun c1 => ok_ite (fun _ => ok_r ⟨by rw [om]; omega, by rw [om]; omega⟩) (fun c2 => ?_))
  rw [fa_le] at c1 c2
  rw [g1, g2] at c2
  refine ok_bd2 (m_chr N bs hb σ1 τ1 x2 ⟨h0, by omega⟩) (fun r4 σ4 τ4 q4 _ => ?_)
  have f4 := (fr_B_J0_charAt_5068e_0 N bs σ1 τ1 x2 q4).1
  have g3 := (f4 199 14 id).trans g1
  have g4 := (f4 199 15 id).trans g2
  refine ok_ck ⟨by rw [g3]; omega, by rw [g3]; show _ < (80 : Int); omega⟩ (fun j hj lj => ok_ite (fun _ => ok_r ⟨by omega, by omega⟩) (fun _ => ok_nm (fun v ev => ?_)))
  have ev2 : v.toInt = x2.toInt + 1 := by rw [ev, ti_add (by omega) (by omega), o]
  exact hrec σ4 τ4 v g3 g4 (by omega) (by omega) (by omega)
theorem m_B_X12_among_0 (N : Nat) (hN : 4294967296 ≤ N) (bs : List Int32) (σ : gI) (τ : gJ) (hb : bs.length ≤ 20) (hA : 0 ≤ (σ 199 14).toInt ∧ (σ 199 14).toInt ≤ 80 ∧ (σ 199 15).toInt ≤ 80) : okp (fun (a : Int32) _ _ => (-1 ≤ a.toInt ∧ a.toInt < bs.length) ∧ (0 ≤ a.toInt → (σ 199 14).toInt < (σ 199 15).toInt)) (B_X12_among_0 N bs σ τ) := by
  unfold B_X12_among_0
  have o : (0 : Int32).toInt = 0 := rfl
  suffices H : ∀ (n : Nat) (σ1 : gI) (τ1 : gJ) (x2 : Int32), σ1 199 14 = σ 199 14 → σ1 199 15 = σ 199 15 → 0 ≤ x2.toInt → x2.toInt ≤ bs.length → (21 - x2.toInt).toNat < n → okp (fun (a : Int32) _ _ => (-1 ≤ a.toInt ∧ a.toInt < bs.length) ∧ (0 ≤ a.toInt → (σ 199 14).toInt < (σ 199 15).toInt)) (H_X12_among_2 N bs n σ1 τ1 x2) from H N σ τ 0 rfl rfl (by omega) (by omega) (by omega)
  intro n
  induction n with
  | zero => intro σ1 τ1 x2 _ _ _ _ hm; exact absurd hm (Nat.not_lt_zero _)
  | succ n ih =>
    intro σ1 τ1 x2 a1 a2 a3 a4 hm
    exact m_C_X12_among_2 N bs hb (H_X12_among_2 N bs n) n _ _ hA ih σ1 τ1 x2 a1 a2 a3 a4 hm
theorem m_B_X12_takesOf_0 (N : Nat) (hN : 4294967296 ≤ N) (bs : List Int32) (σ : gI) (τ : gJ) (hb : bs.length ≤ 20) (hA : 0 ≤ (σ 199 14).toInt ∧ (σ 199 14).toInt ≤ 80 ∧ (σ 199 15).toInt ≤ 80) : okp (fun (a : Int32) σ1 τ1 => (-1 ≤ a.toInt ∧ a.toInt < bs.length) ∧ ((a.toInt < 0 ∧ (σ1 199 14).toInt = (σ 199 14).toInt) ∨ (0 ≤ a.toInt ∧ (σ1 199 14).toInt = (σ 199 14).toInt + 1 ∧ (σ 199 14).toInt < (σ 199 15).toInt))) (B_X12_takesOf_0 N bs σ τ) := by
  unfold B_X12_takesOf_0
  have o : (0 : Int32).toInt = 0 := rfl
  have o1 : (1 : Int32).toInt = 1 := rfl
  refine ok_bd2 (m_B_X12_among_0 N hN bs σ τ hb hA) (fun r σ1 τ1 q1 hr => ?_)
  have f1 := congrArg Int32.toInt ((fr_B_X12_among_0 N bs σ τ q1).1 199 14 id)
  refine ok_ite (fun c => ?_) (fun c => ?_)
  · rw [fa_lt] at c
    refine ok_bd2 (m_B_X12_flag_0 N hN σ1 τ1 0) (fun r3 σ3 τ3 q3 h3 => ok_nm (fun σ4 e4 => ok_r ⟨hr.1, ?_⟩))
    have h5 := h3.2.1 rfl
    have e5 : (σ4 199 14).toInt = (σ1 199 14).toInt + r3.toInt := by
      rw [e4]
      unfold up2
      rw [if_pos ⟨rfl, rfl⟩, ti_add (by omega) (by omega)]
    omega
  · rw [fa_lt] at c
    refine ok_bd2 (m_B_X12_flag_0 N hN σ1 τ1 1) (fun r3 σ3 τ3 q3 h3 => ok_nm (fun σ4 e4 => ok_r ⟨hr.1, ?_⟩))
    have h5 := h3.2.2 (by rw [o1]; omega)
    have h6 := hr.2 (by omega)
    have e5 : (σ4 199 14).toInt = (σ1 199 14).toInt + r3.toInt := by
      rw [e4]
      unfold up2
      rw [if_pos ⟨rfl, rfl⟩, ti_add (by omega) (by omega)]
    omega
