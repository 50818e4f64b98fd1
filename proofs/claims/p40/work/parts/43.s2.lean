set_option maxHeartbeats 2000000 in
theorem s_B_X6_setStart_0 (N : Nat) (hN : 4294967296 ≤ N) (c : Nat) (tc : gx_isS c) (σ : gI) (τ : gJ) (x1 : Int32) (x2 : Int32) (hI : IC σ) : okp (Kq σ τ (fun _ => True)) (B_X6_setStart_0 N c σ τ x1 x2) := by
  unfold B_X6_setStart_0
  have hc := isS_rng tc
  refine ok_ite (fun c_1 => ?_) (fun c_1 => ?_)
  · simp only [fa_lt, fa_le, fa_eq] at c_1
    exact ok_r ⟨trivial, (ks_rf σ), (kj_rf τ)⟩
  · simp only [fa_lt, fa_le, fa_eq] at c_1
    refine ok_ite (fun c_2 => ?_) (fun c_2 => ?_)
    · simp only [fa_lt, fa_le, fa_eq] at c_2
      exact ok_r ⟨trivial, (ks_rf σ), (kj_rf τ)⟩
    · simp only [fa_lt, fa_le, fa_eq] at c_2
      refine ok_ck (by have : (0 : Int32).toInt = 0 := rfl; have : (6 : Int32).toInt = 6 := rfl; have := i32_rng x1; omega) (fun j_3 hj_3 lj_3 => ?_)
      refine ok_nm (fun σ_4 e_4 => ?_)
      have k_4 : KS σ σ_4 := ks_up (ks_rf σ) e_4 (by omega) (by omega) (by omega)
      exact ok_r ⟨trivial, k_4, (kj_rf τ)⟩
set_option maxHeartbeats 2000000 in
theorem s_C_X11_order_72 (N : Nat) (hN : 4294967296 ≤ N) (rec_50 : gI → gJ → Int32 → Int32 → Int32 → Option (Int32 × gI × gJ)) (n_50 : Nat) (hrec_50 : ∀ (σ : gI) (τ : gJ) (x1 : Int32) (x2 : Int32) (x3 : Int32), IC σ → (0 ≤ x3.toInt) → (2147483647 - x3.toInt).toNat < n_50 → okp (Kq σ τ (fun _ => True)) (rec_50 σ τ x1 x2 x3)) (rec_72 : gI → gJ → Int32 → Int32 → Int32 → Int32 → Int32 → Int32 → Option (Int32 × gI × gJ)) (n_72 : Nat) (hrec_72 : ∀ (σ : gI) (τ : gJ) (x1 : Int32) (x2 : Int32) (x3 : Int32) (x4 : Int32) (x5 : Int32) (x6 : Int32), IC σ → (0 ≤ x3.toInt) → ((2147483647 - x3.toInt).toNat < n_50 + 1) → (x3.toInt < 2147483647) → (0 ≤ x6.toInt) → (2147483647 - x6.toInt).toNat < n_72 → okp (Kq σ τ (fun _ => True)) (rec_72 σ τ x1 x2 x3 x4 x5 x6)) (σ : gI) (τ : gJ) (x1 : Int32) (x2 : Int32) (x3 : Int32) (x4 : Int32) (x5 : Int32) (x6 : Int32) (hI : IC σ) (h0_50 : 0 ≤ x3.toInt) (hm_50 : (2147483647 - x3.toInt).toNat < n_50 + 1) (hlt_50 : x3.toInt < 2147483647) (h0_72 : 0 ≤ x6.toInt) (hm_72 : (2147483647 - x6.toInt).toNat < n_72 + 1) : okp (Kq σ τ (fun _ => True)) (C_X11_order_72 N rec_50 rec_72 σ τ x1 x2 x3 x4 x5 x6) := by
  unfold C_X11_order_72
  refine ok_ite (fun c_1 => ?_) (fun c_1 => ?_)
  · simp only [fa_lt, fa_le, fa_eq] at c_1
    refine ok_ite (fun c_2 => ?_) (fun c_2 => ?_)
    · simp only [fa_lt, fa_le, fa_eq] at c_2
      refine ok_nm (fun v_3 e_3 => ?_)
      exact ok_mono (fun _ _ _ h9 => ⟨h9.1, ks_tr (ks_rf σ) h9.2.1, kj_tr (kj_rf τ) h9.2.2⟩) (hrec_50 σ τ x1 x2 v_3 ((ks_rf σ).1.2 hI) (by have : (0 : Int32).toInt = 0 := rfl; have : (1 : Int32).toInt = 1 := rfl; have : (9 : Int32).toInt = 9 := rfl; have := imin_c 9 x3; have := i32_rng v_3; have := i32_rng x3; have := i32_rng x4; have := i32_rng x6; have u_v_3 : v_3.toInt = (x3).toInt + 1 := (by rw [e_3]; have q := ti_add (a := x3) (b := 1) (by rw [show (1 : Int32).toInt = 1 from rfl]; omega) (by rw [show (1 : Int32).toInt = 1 from rfl]; omega); rw [q, show (1 : Int32).toInt = 1 from rfl]); omega) (by have : (0 : Int32).toInt = 0 := rfl; have : (1 : Int32).toInt = 1 := rfl; have : (9 : Int32).toInt = 9 := rfl; have := imin_c 9 x3; have := i32_rng v_3; have := i32_rng x3; have := i32_rng x4; have := i32_rng x6; have u_v_3 : v_3.toInt = (x3).toInt + 1 := (by rw [e_3]; have q := ti_add (a := x3) (b := 1) (by rw [show (1 : Int32).toInt = 1 from rfl]; omega) (by rw [show (1 : Int32).toInt = 1 from rfl]; omega); rw [q, show (1 : Int32).toInt = 1 from rfl]); omega))
    · simp only [fa_lt, fa_le, fa_eq] at c_2
      refine ok_bd (s_B_X4_tell___0 N hN σ τ x5.toInt64 ((x3 - x5).toInt64) x4.toInt64 ((ks_rf σ).1.2 hI)) (fun _ σ_4 τ_4 hp_4 => ?_)
      have k_4 : KS σ σ_4 := ks_tr (ks_rf σ) hp_4.2.1
      have kj_4 : KJ τ τ_4 := kj_tr (kj_rf τ) hp_4.2.2
      exact ok_r ⟨trivial, k_4, kj_4⟩
  · simp only [fa_lt, fa_le, fa_eq] at c_1
    refine ok_bd (s_B_X6_setStart_0 N hN 164 is_164 σ τ x1 ((σ 30 8) + x6) ((ks_rf σ).1.2 hI)) (fun _ σ_5 τ_5 hp_5 => ?_)
    have k_5 : KS σ σ_5 := ks_tr (ks_rf σ) hp_5.2.1
    have kj_5 : KJ τ τ_5 := kj_tr (kj_rf τ) hp_5.2.2
    refine ok_bd (s_B_X6_setStart_0 N hN 164 is_164 σ_5 τ_5 x2 (((σ_5 30 8) + x3) - x6) (k_5.1.2 hI)) (fun _ σ_6 τ_6 hp_6 => ?_)
    have k_6 : KS σ σ_6 := ks_tr k_5 hp_6.2.1
    have kj_6 : KJ τ τ_6 := kj_tr kj_5 hp_6.2.2
    refine ok_bd (s_B_X9_go_0 N hN σ_6 τ_6 (σ_6 30 7) (k_6.1.2 hI)) (fun r_7 σ_7 τ_7 hp_7 => ?_)
    have k_7 : KS σ σ_7 := ks_tr k_6 hp_7.2.1
    have kj_7 : KJ τ τ_7 := kj_tr kj_6 hp_7.2.2
    refine ok_ite (fun c_3 => ?_) (fun c_3 => ?_)
    · simp only [fa_lt, fa_le, fa_eq] at c_3
      refine ok_nm (fun v_9 e_9 => ?_)
      exact ok_mono (fun _ _ _ h9 => ⟨h9.1, ks_tr k_7 h9.2.1, kj_tr kj_7 h9.2.2⟩) (hrec_72 σ_7 τ_7 x1 x2 x3 x4 x5 v_9 (k_7.1.2 hI) (by have : (-1 : Int32).toInt = -1 := rfl; have : (0 : Int32).toInt = 0 := rfl; have : (9 : Int32).toInt = 9 := rfl; have := imin_c 9 x3; have := i32_rng r_7; have := i32_rng x3; have := i32_rng x6; omega) (by have : (-1 : Int32).toInt = -1 := rfl; have : (1 : Int32).toInt = 1 := rfl; have : (9 : Int32).toInt = 9 := rfl; have := imin_c 9 x3; have := i32_rng r_7; have := i32_rng x3; have := i32_rng x6; omega) (by have : (-1 : Int32).toInt = -1 := rfl; have : (9 : Int32).toInt = 9 := rfl; have := imin_c 9 x3; have := i32_rng r_7; have := i32_rng x3; have := i32_rng x6; omega) (by have : (-1 : Int32).toInt = -1 := rfl; have : (0 : Int32).toInt = 0 := rfl; have : (1 : Int32).toInt = 1 := rfl; have : (9 : Int32).toInt = 9 := rfl; have := imin_c 9 x3; have := i32_rng r_7; have := i32_rng v_9; have := i32_rng x3; have := i32_rng x6; have u_v_9 : v_9.toInt = (x6).toInt + 1 := (by rw [e_9]; have q := ti_add (a := x6) (b := 1) (by rw [show (1 : Int32).toInt = 1 from rfl]; omega) (by rw [show (1 : Int32).toInt = 1 from rfl]; omega); rw [q, show (1 : Int32).toInt = 1 from rfl]); omega) (by have : (-1 : Int32).toInt = -1 := rfl; have : (1 : Int32).toInt = 1 := rfl; have : (9 : Int32).toInt = 9 := rfl; have := imin_c 9 x3; have := i32_rng r_7; have := i32_rng v_9; have := i32_rng x3; have := i32_rng x6; have u_v_9 : v_9.toInt = (x6).toInt + 1 := (by rw [e_9]; have q := ti_add (a := x6) (b := 1) (by rw [show (1 : Int32).toInt = 1 from rfl]; omega) (by rw [show (1 : Int32).toInt = 1 from rfl]; omega); rw [q, show (1 : Int32).toInt = 1 from rfl]); omega))
    · simp only [fa_lt, fa_le, fa_eq] at c_3
      refine ok_ite (fun c_4 => ?_) (fun c_4 => ?_)
      · simp only [fa_lt, fa_le, fa_eq] at c_4
        refine ok_nm (fun v_13 e_13 => ?_)
        refine ok_nm (fun v_14 e_14 => ?_)
        exact ok_mono (fun _ _ _ h9 => ⟨h9.1, ks_tr k_7 h9.2.1, kj_tr kj_7 h9.2.2⟩) (hrec_72 σ_7 τ_7 x1 x2 x3 v_13 x6 v_14 (k_7.1.2 hI) (by have : (-1 : Int32).toInt = -1 := rfl; have : (0 : Int32).toInt = 0 := rfl; have : (9 : Int32).toInt = 9 := rfl; have := imin_c 9 x3; have := i32_rng r_7; have := i32_rng x3; have := i32_rng x4; have := i32_rng x6; omega) (by have : (-1 : Int32).toInt = -1 := rfl; have : (0 : Int32).toInt = 0 := rfl; have : (1 : Int32).toInt = 1 := rfl; have : (9 : Int32).toInt = 9 := rfl; have := imin_c 9 x3; have := i32_rng r_7; have := i32_rng x3; have := i32_rng x4; have := i32_rng x6; omega) (by have : (-1 : Int32).toInt = -1 := rfl; have : (0 : Int32).toInt = 0 := rfl; have : (9 : Int32).toInt = 9 := rfl; have := imin_c 9 x3; have := i32_rng r_7; have := i32_rng x3; have := i32_rng x4; have := i32_rng x6; omega) (by have : (-1 : Int32).toInt = -1 := rfl; have : (0 : Int32).toInt = 0 := rfl; have : (1 : Int32).toInt = 1 := rfl; have : (9 : Int32).toInt = 9 := rfl; have := imin_c 9 x3; have := i32_rng r_7; have := i32_rng v_14; have := i32_rng x3; have := i32_rng x4; have := i32_rng x6; have u_v_14 : v_14.toInt = (x6).toInt + 1 := (by rw [e_14]; have q := ti_add (a := x6) (b := 1) (by rw [show (1 : Int32).toInt = 1 from rfl]; omega) (by rw [show (1 : Int32).toInt = 1 from rfl]; omega); rw [q, show (1 : Int32).toInt = 1 from rfl]); omega) (by have : (-1 : Int32).toInt = -1 := rfl; have : (0 : Int32).toInt = 0 := rfl; have : (1 : Int32).toInt = 1 := rfl; have : (9 : Int32).toInt = 9 := rfl; have := imin_c 9 x3; have := i32_rng r_7; have := i32_rng v_14; have := i32_rng x3; have := i32_rng x4; have := i32_rng x6; have u_v_14 : v_14.toInt = (x6).toInt + 1 := (by rw [e_14]; have q := ti_add (a := x6) (b := 1) (by rw [show (1 : Int32).toInt = 1 from rfl]; omega) (by rw [show (1 : Int32).toInt = 1 from rfl]; omega); rw [q, show (1 : Int32).toInt = 1 from rfl]); omega))
      · simp only [fa_lt, fa_le, fa_eq] at c_4
        refine ok_nm (fun v_11 e_11 => ?_)
        refine ok_nm (fun v_12 e_12 => ?_)
        exact ok_mono (fun _ _ _ h9 => ⟨h9.1, ks_tr k_7 h9.2.1, kj_tr kj_7 h9.2.2⟩) (hrec_72 σ_7 τ_7 x1 x2 x3 v_11 x5 v_12 (k_7.1.2 hI) (by have : (-1 : Int32).toInt = -1 := rfl; have : (0 : Int32).toInt = 0 := rfl; have : (9 : Int32).toInt = 9 := rfl; have := imin_c 9 x3; have := i32_rng r_7; have := i32_rng x3; have := i32_rng x4; have := i32_rng x6; omega) (by have : (-1 : Int32).toInt = -1 := rfl; have : (0 : Int32).toInt = 0 := rfl; have : (1 : Int32).toInt = 1 := rfl; have : (9 : Int32).toInt = 9 := rfl; have := imin_c 9 x3; have := i32_rng r_7; have := i32_rng x3; have := i32_rng x4; have := i32_rng x6; omega) (by have : (-1 : Int32).toInt = -1 := rfl; have : (0 : Int32).toInt = 0 := rfl; have : (9 : Int32).toInt = 9 := rfl; have := imin_c 9 x3; have := i32_rng r_7; have := i32_rng x3; have := i32_rng x4; have := i32_rng x6; omega) (by have : (-1 : Int32).toInt = -1 := rfl; have : (0 : Int32).toInt = 0 := rfl; have : (1 : Int32).toInt = 1 := rfl; have : (9 : Int32).toInt = 9 := rfl; have := imin_c 9 x3; have := i32_rng r_7; have := i32_rng v_12; have := i32_rng x3; have := i32_rng x4; have := i32_rng x6; have u_v_12 : v_12.toInt = (x6).toInt + 1 := (by rw [e_12]; have q := ti_add (a := x6) (b := 1) (by rw [show (1 : Int32).toInt = 1 from rfl]; omega) (by rw [show (1 : Int32).toInt = 1 from rfl]; omega); rw [q, show (1 : Int32).toInt = 1 from rfl]); omega) (by have : (-1 : Int32).toInt = -1 := rfl; have : (0 : Int32).toInt = 0 := rfl; have : (1 : Int32).toInt = 1 := rfl; have : (9 : Int32).toInt = 9 := rfl; have := imin_c 9 x3; have := i32_rng r_7; have := i32_rng v_12; have := i32_rng x3; have := i32_rng x4; have := i32_rng x6; have u_v_12 : v_12.toInt = (x6).toInt + 1 := (by rw [e_12]; have q := ti_add (a := x6) (b := 1) (by rw [show (1 : Int32).toInt = 1 from rfl]; omega) (by rw [show (1 : Int32).toInt = 1 from rfl]; omega); rw [q, show (1 : Int32).toInt = 1 from rfl]); omega))
theorem s_H_X11_order_72 (N : Nat) (hN : 4294967296 ≤ N) (rec_50 : gI → gJ → Int32 → Int32 → Int32 → Option (Int32 × gI × gJ)) (n_50 : Nat) (hrec_50 : ∀ (σ : gI) (τ : gJ) (x1 : Int32) (x2 : Int32) (x3 : Int32), IC σ → (0 ≤ x3.toInt) → (2147483647 - x3.toInt).toNat < n_50 → okp (Kq σ τ (fun _ => True)) (rec_50 σ τ x1 x2 x3)) : ∀ (n : Nat) (σ : gI) (τ : gJ) (x1 : Int32) (x2 : Int32) (x3 : Int32) (x4 : Int32) (x5 : Int32) (x6 : Int32), IC σ → (0 ≤ x3.toInt) → ((2147483647 - x3.toInt).toNat < n_50 + 1) → (x3.toInt < 2147483647) → (0 ≤ x6.toInt) → (2147483647 - x6.toInt).toNat < n → okp (Kq σ τ (fun _ => True)) (H_X11_order_72 N rec_50 n σ τ x1 x2 x3 x4 x5 x6) := by
  intro n
  induction n with
  | zero => intro σ τ x1 x2 x3 x4 x5 x6 _ _ _ _ _ hm; exact absurd hm (Nat.not_lt_zero _)
  | succ n ih =>
    intro σ τ x1 x2 x3 x4 x5 x6 hI h0_50 hm_50 hlt_50 h0_72 hm
    exact s_C_X11_order_72 N hN rec_50 n_50 hrec_50 (H_X11_order_72 N rec_50 n) n ih σ τ x1 x2 x3 x4 x5 x6 hI h0_50 hm_50 hlt_50 h0_72 hm
set_option maxHeartbeats 2000000 in
theorem s_C_X11_order_50 (N : Nat) (hN : 4294967296 ≤ N) (rec_50 : gI → gJ → Int32 → Int32 → Int32 → Option (Int32 × gI × gJ)) (n_50 : Nat) (hrec_50 : ∀ (σ : gI) (τ : gJ) (x1 : Int32) (x2 : Int32) (x3 : Int32), IC σ → (0 ≤ x3.toInt) → (2147483647 - x3.toInt).toNat < n_50 → okp (Kq σ τ (fun _ => True)) (rec_50 σ τ x1 x2 x3)) (σ : gI) (τ : gJ) (x1 : Int32) (x2 : Int32) (x3 : Int32) (hI : IC σ) (h0_50 : 0 ≤ x3.toInt) (hm_50 : (2147483647 - x3.toInt).toNat < n_50 + 1) : okp (Kq σ τ (fun _ => True)) (C_X11_order_50 N rec_50 σ τ x1 x2 x3) := by
  unfold C_X11_order_50
  refine ok_ite (fun c_1 => ?_) (fun c_1 => ?_)
  · simp only [fa_lt, fa_le, fa_eq] at c_1
    exact ok_r ⟨trivial, (ks_rf σ), (kj_rf τ)⟩
  · simp only [fa_lt, fa_le, fa_eq] at c_1
    refine ok_nm (fun v_2 e_2 => ?_)
    exact ok_mono (fun _ _ _ h9 => ⟨h9.1, ks_tr (ks_rf σ) h9.2.1, kj_tr (kj_rf τ) h9.2.2⟩) (s_H_X11_order_72 N hN rec_50 n_50 hrec_50 N σ τ x1 x2 x3 0 (-1) v_2 ((ks_rf σ).1.2 hI) (by have : (0 : Int32).toInt = 0 := rfl; have : (18 : Int32).toInt = 18 := rfl; have := i32_rng x3; omega) (by have : (1 : Int32).toInt = 1 := rfl; have : (18 : Int32).toInt = 18 := rfl; have := i32_rng x3; omega) (by have : (18 : Int32).toInt = 18 := rfl; have := i32_rng x3; omega) (by have : (0 : Int32).toInt = 0 := rfl; have : (9 : Int32).toInt = 9 := rfl; have : (18 : Int32).toInt = 18 := rfl; have := imax_c 0 (x3 - 9); have := i32_rng v_2; have := i32_rng x3; have u_v_2 : v_2.toInt = (imax 0 (x3 - 9)).toInt := (by rw [e_2]); omega) (by have : (0 : Int32).toInt = 0 := rfl; have : (9 : Int32).toInt = 9 := rfl; have : (18 : Int32).toInt = 18 := rfl; have := imax_c 0 (x3 - 9); have := i32_rng v_2; have := i32_rng x3; have u_v_2 : v_2.toInt = (imax 0 (x3 - 9)).toInt := (by rw [e_2]); omega))
theorem s_H_X11_order_50 (N : Nat) (hN : 4294967296 ≤ N) : ∀ (n : Nat) (σ : gI) (τ : gJ) (x1 : Int32) (x2 : Int32) (x3 : Int32), IC σ → (0 ≤ x3.toInt) → (2147483647 - x3.toInt).toNat < n → okp (Kq σ τ (fun _ => True)) (H_X11_order_50 N n σ τ x1 x2 x3) := by
  intro n
  induction n with
  | zero => intro σ τ x1 x2 x3 _ _ hm; exact absurd hm (Nat.not_lt_zero _)
  | succ n ih =>
    intro σ τ x1 x2 x3 hI h0_50 hm
    exact s_C_X11_order_50 N hN (H_X11_order_50 N n) n ih σ τ x1 x2 x3 hI h0_50 hm
set_option maxHeartbeats 2000000 in
theorem s_B_X11_order_0 (N : Nat) (hN : 4294967296 ≤ N) (σ : gI) (τ : gJ) (x1 : Int32) (x2 : Int32) (hI : IC σ) : okp (Kq σ τ (fun _ => True)) (B_X11_order_0 N σ τ x1 x2) := by
  unfold B_X11_order_0
  refine ok_ite (fun c_1 => ?_) (fun c_1 => ?_)
  · simp only [fa_lt, fa_le, fa_eq] at c_1
    exact ok_r ⟨trivial, (ks_rf σ), (kj_rf τ)⟩
  · simp only [fa_lt, fa_le, fa_eq] at c_1
    refine ok_bd (s_B_X6_isOnWay_0 N hN 30 is_30 σ τ x1 ((ks_rf σ).1.2 hI)) (fun r_2 σ_2 τ_2 hp_2 => ?_)
    have k_2 : KS σ σ_2 := ks_eq (ks_rf σ) hp_2.2.1
    have kj_2 : KJ τ τ_2 := kj_eq (kj_rf τ) hp_2.2.2
    refine ok_ite (fun c_2 => ?_) (fun c_2 => ?_)
    · simp only [fa_lt, fa_le, fa_eq] at c_2
      exact ok_r ⟨trivial, k_2, kj_2⟩
    · simp only [fa_lt, fa_le, fa_eq] at c_2
      refine ok_bd (s_B_X6_isOnWay_0 N hN 30 is_30 σ_2 τ_2 x2 (k_2.1.2 hI)) (fun r_4 σ_4 τ_4 hp_4 => ?_)
      have k_4 : KS σ σ_4 := ks_eq k_2 hp_4.2.1
      have kj_4 : KJ τ τ_4 := kj_eq kj_2 hp_4.2.2
      refine ok_ite (fun c_3 => ?_) (fun c_3 => ?_)
      · simp only [fa_lt, fa_le, fa_eq] at c_3
        exact ok_r ⟨trivial, k_4, kj_4⟩
      · simp only [fa_lt, fa_le, fa_eq] at c_3
        refine ok_bd (s_B_X9_startFrom_0 N hN σ_4 τ_4 ((1 <<< (x1 &&& 31)) ||| (1 <<< (x2 &&& 31))) x1 (k_4.1.2 hI)) (fun _ σ_6 τ_6 hp_6 => ?_)
        have k_6 : KS σ σ_6 := ks_tr k_4 hp_6.2.1
        have kj_6 : KJ τ τ_6 := kj_tr kj_4 hp_6.2.2
        exact ok_mono (fun _ _ _ h9 => ⟨h9.1, ks_tr k_6 h9.2.1, kj_tr kj_6 h9.2.2⟩) (s_H_X11_order_50 N hN N σ_6 τ_6 x1 x2 0 (k_6.1.2 hI) (by have : (0 : Int32).toInt = 0 := rfl; have := i32_rng r_2; have := i32_rng r_4; have := i32_rng x1; have := i32_rng x2; omega) (by have : (0 : Int32).toInt = 0 := rfl; have := i32_rng r_2; have := i32_rng r_4; have := i32_rng x1; have := i32_rng x2; omega))
set_option maxHeartbeats 2000000 in
theorem s_B_X11_plank_0 (N : Nat) (hN : 4294967296 ≤ N) (σ : gI) (τ : gJ) (x1 : Int32) (x2 : Int32) (hI : IC σ) : okp (Kq σ τ (fun a => a = 0 ∨ a = 1)) (B_X11_plank_0 N σ τ x1 x2) := by
  unfold B_X11_plank_0
  refine ok_bd (s_B_X8_isFork_0 N hN σ τ x1 ((ks_rf σ).1.2 hI)) (fun r_1 σ_1 τ_1 hp_1 => ?_)
  have k_1 : KS σ σ_1 := ks_eq (ks_rf σ) hp_1.2.1
  have kj_1 : KJ τ τ_1 := kj_eq (kj_rf τ) hp_1.2.2
  refine ok_ite (fun c_1 => ?_) (fun c_1 => ?_)
  · simp only [fa_lt, fa_le, fa_eq] at c_1
    exact ok_r ⟨(Or.inl rfl), k_1, kj_1⟩
  · simp only [fa_lt, fa_le, fa_eq] at c_1
    refine ok_ite (fun c_2 => ?_) (fun c_2 => ?_)
    · simp only [fa_lt, fa_le, fa_eq] at c_2
      exact ok_r ⟨(Or.inl rfl), k_1, kj_1⟩
    · simp only [fa_lt, fa_le, fa_eq] at c_2
      refine ok_ite (fun c_3 => ?_) (fun c_3 => ?_)
      · simp only [fa_lt, fa_le, fa_eq] at c_3
        refine ok_bd (s_B_X3_push_0 N hN 30 is_30 σ_1 τ_1 (k_1.1.2 hI)) (fun _ σ_5 τ_5 hp_5 => ?_)
        have k_5 : KS σ σ_5 := ks_tr k_1 hp_5.2.1
        have kj_5 : KJ τ τ_5 := kj_tr kj_1 hp_5.2.2
        refine ok_nm (fun σ_6 e_6 => ?_)
        have k_6 : KS σ σ_6 := ks_up k_5 e_6 (by omega) (by omega) (by omega)
        exact ok_r ⟨(Or.inr rfl), k_6, kj_5⟩
      · simp only [fa_lt, fa_le, fa_eq] at c_3
        exact ok_r ⟨(Or.inl rfl), k_1, kj_1⟩
set_option maxHeartbeats 2000000 in
theorem s_B_X11_put_0 (N : Nat) (hN : 4294967296 ≤ N) (σ : gI) (τ : gJ) (x1 : Int32) (x2 : Int32) (x3 : Int32) (x4 : Int32) (hI : IC σ) : okp (Kq σ τ (fun _ => True)) (B_X11_put_0 N σ τ x1 x2 x3 x4) := by
  unfold B_X11_put_0
  refine ok_bd (s_B_X8_has_0 N hN σ τ x1 ((ks_rf σ).1.2 hI)) (fun r_1 σ_1 τ_1 hp_1 => ?_)
  have k_1 : KS σ σ_1 := ks_eq (ks_rf σ) hp_1.2.1
  have kj_1 : KJ τ τ_1 := kj_eq (kj_rf τ) hp_1.2.2
  refine ok_ite (fun c_1 => ?_) (fun c_1 => ?_)
  · simp only [fa_lt, fa_le, fa_eq] at c_1
    exact ok_r ⟨trivial, k_1, kj_1⟩
  · simp only [fa_lt, fa_le, fa_eq] at c_1
    refine ok_bd (s_B_X11_isLoad_0 N hN σ_1 τ_1 x2 x3 (k_1.1.2 hI)) (fun r_3 σ_3 τ_3 hp_3 => ?_)
    have k_3 : KS σ σ_3 := ks_eq k_1 hp_3.2.1
    have kj_3 : KJ τ τ_3 := kj_eq kj_1 hp_3.2.2
    refine ok_ite (fun c_2 => ?_) (fun c_2 => ?_)
    · simp only [fa_lt, fa_le, fa_eq] at c_2
      exact ok_r ⟨trivial, k_3, kj_3⟩
    · simp only [fa_lt, fa_le, fa_eq] at c_2
      refine ok_bd (s_B_X11_isWait_0 N hN σ_3 τ_3 x4 (k_3.1.2 hI)) (fun r_5 σ_5 τ_5 hp_5 => ?_)
      have k_5 : KS σ σ_5 := ks_eq k_3 hp_5.2.1
      have kj_5 : KJ τ τ_5 := kj_eq kj_3 hp_5.2.2
      refine ok_ite (fun c_3 => ?_) (fun c_3 => ?_)
      · simp only [fa_lt, fa_le, fa_eq] at c_3
        exact ok_r ⟨trivial, k_5, kj_5⟩
      · simp only [fa_lt, fa_le, fa_eq] at c_3
        refine ok_ite (fun c_4 => ?_) (fun c_4 => ?_)
        · simp only [fa_lt, fa_le, fa_eq] at c_4
          refine ok_bd (s_B_X3_push_0 N hN 30 is_30 σ_5 τ_5 (k_5.1.2 hI)) (fun _ σ_8 τ_8 hp_8 => ?_)
          have k_8 : KS σ σ_8 := ks_tr k_5 hp_8.2.1
          have kj_8 : KJ τ τ_8 := kj_tr kj_5 hp_8.2.2
          refine ok_bd (s_B_X8_isKitchen_0 N hN σ_8 τ_8 x1 (k_8.1.2 hI)) (fun r_9 σ_9 τ_9 hp_9 => ?_)
          have k_9 : KS σ σ_9 := ks_eq k_8 hp_9.2.1
          have kj_9 : KJ τ τ_9 := kj_eq kj_8 hp_9.2.2
          refine ok_bd (s_B_X6_add_0 N hN 30 is_30 σ_9 τ_9 x1 x2 x3 x4 r_9 (k_9.1.2 hI)) (fun r_10 σ_10 τ_10 hp_10 => ?_)
          have k_10 : KS σ σ_10 := ks_tr k_9 hp_10.2.1
          have kj_10 : KJ τ τ_10 := kj_tr kj_9 hp_10.2.2
          exact ok_r ⟨trivial, k_10, kj_10⟩
        · simp only [fa_lt, fa_le, fa_eq] at c_4
          exact ok_r ⟨trivial, k_5, kj_5⟩
set_option maxHeartbeats 2000000 in
theorem s_C_X9_circle_10 (N : Nat) (hN : 4294967296 ≤ N) (rec_10 : gI → gJ → Int32 → Int32 → Int32 → Option (Int32 × gI × gJ)) (n_10 : Nat) (hrec_10 : ∀ (σ : gI) (τ : gJ) (x1 : Int32) (x2 : Int32) (x3 : Int32), IC σ → (0 ≤ x3.toInt) → (x2.toInt ≤ 300) → (1 ≤ x3.toInt) → (2147483647 - x3.toInt).toNat < n_10 → okp (Kq σ τ (fun a => a.toInt = -1 ∨ (1 ≤ a.toInt ∧ a.toInt ≤ 300))) (rec_10 σ τ x1 x2 x3)) (σ : gI) (τ : gJ) (x1 : Int32) (x2 : Int32) (x3 : Int32) (hI : IC σ) (h0_10 : 0 ≤ x3.toInt) (hm_10 : (2147483647 - x3.toInt).toNat < n_10 + 1) (h2 : x2.toInt ≤ 300) (h3 : 1 ≤ x3.toInt) : okp (Kq σ τ (fun a => a.toInt = -1 ∨ (1 ≤ a.toInt ∧ a.toInt ≤ 300))) (C_X9_circle_10 N rec_10 σ τ x1 x2 x3) := by
  unfold C_X9_circle_10
  refine ok_ite (fun c_1 => ?_) (fun c_1 => ?_)
  · simp only [fa_lt, fa_le, fa_eq] at c_1
    exact ok_r ⟨(by have : (-1 : Int32).toInt = -1 := rfl; have : (1 : Int32).toInt = 1 := rfl; have : (300 : Int32).toInt = 300 := rfl; have := i32_rng x2; have := i32_rng x3; omega), (ks_rf σ), (kj_rf τ)⟩
  · simp only [fa_lt, fa_le, fa_eq] at c_1
    refine ok_bd (s_B_X1_pass_0 N hN 171 is_171 σ τ ((ks_rf σ).1.2 hI)) (fun _ σ_2 τ_2 hp_2 => ?_)
    have k_2 : KS σ σ_2 := ks_tr (ks_rf σ) hp_2.2.1
    have kj_2 : KJ τ τ_2 := kj_tr (kj_rf τ) hp_2.2.2
    refine ok_bd (s_B_X6_isOnWay_0 N hN 171 is_171 σ_2 τ_2 0 (k_2.1.2 hI)) (fun r_3 σ_3 τ_3 hp_3 => ?_)
    have k_3 : KS σ σ_3 := ks_eq k_2 hp_3.2.1
    have kj_3 : KJ τ τ_3 := kj_eq kj_2 hp_3.2.2
    refine ok_ite (fun c_2 => ?_) (fun c_2 => ?_)
    · simp only [fa_lt, fa_le, fa_eq] at c_2
      exact ok_r ⟨(by have : (-1 : Int32).toInt = -1 := rfl; have : (0 : Int32).toInt = 0 := rfl; have : (1 : Int32).toInt = 1 := rfl; have : (300 : Int32).toInt = 300 := rfl; have := i32_rng r_3; have := i32_rng x2; have := i32_rng x3; omega), k_3, kj_3⟩
    · simp only [fa_lt, fa_le, fa_eq] at c_2
      refine ok_ite (fun c_3 => ?_) (fun c_3 => ?_)
      · simp only [fa_lt, fa_le, fa_eq] at c_3
        refine ok_nm (fun v_6 e_6 => ?_)
        exact ok_mono (fun _ _ _ h9 => ⟨h9.1, ks_tr k_3 h9.2.1, kj_tr kj_3 h9.2.2⟩) (hrec_10 σ_3 τ_3 x1 x2 v_6 (k_3.1.2 hI) (by have : (0 : Int32).toInt = 0 := rfl; have : (1 : Int32).toInt = 1 := rfl; have : (6 : Int32).toInt = 6 := rfl; have : (158 : Int32).toInt = 158 := rfl; have := i32_rng (σ_3 158 6); have := i32_rng (σ_2 158 6); have := i32_rng r_3; have := i32_rng v_6; have := i32_rng x2; have := i32_rng x3; have : (σ_3 158 6).toInt = (σ_2 158 6).toInt := (by simp [up2, hp_3.2.1]); have u_v_6 : v_6.toInt = (x3).toInt + 1 := (by rw [e_6]; have q := ti_add (a := x3) (b := 1) (by rw [show (1 : Int32).toInt = 1 from rfl]; omega) (by rw [show (1 : Int32).toInt = 1 from rfl]; omega); rw [q, show (1 : Int32).toInt = 1 from rfl]); omega) (by have : (0 : Int32).toInt = 0 := rfl; have : (6 : Int32).toInt = 6 := rfl; have : (158 : Int32).toInt = 158 := rfl; have : (300 : Int32).toInt = 300 := rfl; have := i32_rng (σ_3 158 6); have := i32_rng (σ_2 158 6); have := i32_rng r_3; have := i32_rng x2; have := i32_rng x3; have : (σ_3 158 6).toInt = (σ_2 158 6).toInt := (by simp [up2, hp_3.2.1]); omega) (by have : (0 : Int32).toInt = 0 := rfl; have : (1 : Int32).toInt = 1 := rfl; have : (6 : Int32).toInt = 6 := rfl; have : (158 : Int32).toInt = 158 := rfl; have := i32_rng (σ_3 158 6); have := i32_rng (σ_2 158 6); have := i32_rng r_3; have := i32_rng v_6; have := i32_rng x2; have := i32_rng x3; have : (σ_3 158 6).toInt = (σ_2 158 6).toInt := (by simp [up2, hp_3.2.1]); have u_v_6 : v_6.toInt = (x3).toInt + 1 := (by rw [e_6]; have q := ti_add (a := x3) (b := 1) (by rw [show (1 : Int32).toInt = 1 from rfl]; omega) (by rw [show (1 : Int32).toInt = 1 from rfl]; omega); rw [q, show (1 : Int32).toInt = 1 from rfl]); omega) (by have : (0 : Int32).toInt = 0 := rfl; have : (1 : Int32).toInt = 1 := rfl; have : (6 : Int32).toInt = 6 := rfl; have : (158 : Int32).toInt = 158 := rfl; have := i32_rng (σ_3 158 6); have := i32_rng (σ_2 158 6); have := i32_rng r_3; have := i32_rng v_6; have := i32_rng x2; have := i32_rng x3; have : (σ_3 158 6).toInt = (σ_2 158 6).toInt := (by simp [up2, hp_3.2.1]); have u_v_6 : v_6.toInt = (x3).toInt + 1 := (by rw [e_6]; have q := ti_add (a := x3) (b := 1) (by rw [show (1 : Int32).toInt = 1 from rfl]; omega) (by rw [show (1 : Int32).toInt = 1 from rfl]; omega); rw [q, show (1 : Int32).toInt = 1 from rfl]); omega))
      · simp only [fa_lt, fa_le, fa_eq] at c_3
        refine ok_bd (s_B_X6_spotOf_0 N hN 171 is_171 σ_3 τ_3 0 (k_3.1.2 hI)) (fun r_7 σ_7 τ_7 hp_7 => ?_)
        have k_7 : KS σ σ_7 := ks_eq k_3 hp_7.2.1
        have kj_7 : KJ τ τ_7 := kj_eq kj_3 hp_7.2.2
        refine ok_ite (fun c_4 => ?_) (fun c_4 => ?_)
        · simp only [fa_lt, fa_le, fa_eq] at c_4
          exact ok_r ⟨(by have : (-1 : Int32).toInt = -1 := rfl; have : (0 : Int32).toInt = 0 := rfl; have : (1 : Int32).toInt = 1 := rfl; have : (6 : Int32).toInt = 6 := rfl; have : (158 : Int32).toInt = 158 := rfl; have : (300 : Int32).toInt = 300 := rfl; have := i32_rng (σ_3 158 6); have := i32_rng (σ_2 158 6); have := i32_rng r_3; have := i32_rng r_7; have := i32_rng x1; have := i32_rng x2; have := i32_rng x3; have : (σ_3 158 6).toInt = (σ_2 158 6).toInt := (by simp [up2, hp_3.2.1]); omega), k_7, kj_7⟩
        · simp only [fa_lt, fa_le, fa_eq] at c_4
          refine ok_nm (fun v_9 e_9 => ?_)
          exact ok_mono (fun _ _ _ h9 => ⟨h9.1, ks_tr k_7 h9.2.1, kj_tr kj_7 h9.2.2⟩) (hrec_10 σ_7 τ_7 x1 x2 v_9 (k_7.1.2 hI) (by have : (0 : Int32).toInt = 0 := rfl; have : (1 : Int32).toInt = 1 := rfl; have : (6 : Int32).toInt = 6 := rfl; have : (158 : Int32).toInt = 158 := rfl; have := i32_rng (σ_3 158 6); have := i32_rng (σ_2 158 6); have := i32_rng r_3; have := i32_rng r_7; have := i32_rng v_9; have := i32_rng x1; have := i32_rng x2; have := i32_rng x3; have : (σ_3 158 6).toInt = (σ_2 158 6).toInt := (by simp [up2, hp_3.2.1]); have u_v_9 : v_9.toInt = (x3).toInt + 1 := (by rw [e_9]; have q := ti_add (a := x3) (b := 1) (by rw [show (1 : Int32).toInt = 1 from rfl]; omega) (by rw [show (1 : Int32).toInt = 1 from rfl]; omega); rw [q, show (1 : Int32).toInt = 1 from rfl]); omega) (by have : (0 : Int32).toInt = 0 := rfl; have : (6 : Int32).toInt = 6 := rfl; have : (158 : Int32).toInt = 158 := rfl; have : (300 : Int32).toInt = 300 := rfl; have := i32_rng (σ_3 158 6); have := i32_rng (σ_2 158 6); have := i32_rng r_3; have := i32_rng r_7; have := i32_rng x1; have := i32_rng x2; have := i32_rng x3; have : (σ_3 158 6).toInt = (σ_2 158 6).toInt := (by simp [up2, hp_3.2.1]); omega) (by have : (0 : Int32).toInt = 0 := rfl; have : (1 : Int32).toInt = 1 := rfl; have : (6 : Int32).toInt = 6 := rfl; have : (158 : Int32).toInt = 158 := rfl; have := i32_rng (σ_3 158 6); have := i32_rng (σ_2 158 6); have := i32_rng r_3; have := i32_rng r_7; have := i32_rng v_9; have := i32_rng x1; have := i32_rng x2; have := i32_rng x3; have : (σ_3 158 6).toInt = (σ_2 158 6).toInt := (by simp [up2, hp_3.2.1]); have u_v_9 : v_9.toInt = (x3).toInt + 1 := (by rw [e_9]; have q := ti_add (a := x3) (b := 1) (by rw [show (1 : Int32).toInt = 1 from rfl]; omega) (by rw [show (1 : Int32).toInt = 1 from rfl]; omega); rw [q, show (1 : Int32).toInt = 1 from rfl]); omega) (by have : (0 : Int32).toInt = 0 := rfl; have : (1 : Int32).toInt = 1 := rfl; have : (6 : Int32).toInt = 6 := rfl; have : (158 : Int32).toInt = 158 := rfl; have := i32_rng (σ_3 158 6); have := i32_rng (σ_2 158 6); have := i32_rng r_3; have := i32_rng r_7; have := i32_rng v_9; have := i32_rng x1; have := i32_rng x2; have := i32_rng x3; have : (σ_3 158 6).toInt = (σ_2 158 6).toInt := (by simp [up2, hp_3.2.1]); have u_v_9 : v_9.toInt = (x3).toInt + 1 := (by rw [e_9]; have q := ti_add (a := x3) (b := 1) (by rw [show (1 : Int32).toInt = 1 from rfl]; omega) (by rw [show (1 : Int32).toInt = 1 from rfl]; omega); rw [q, show (1 : Int32).toInt = 1 from rfl]); omega))
theorem s_H_X9_circle_10 (N : Nat) (hN : 4294967296 ≤ N) : ∀ (n : Nat) (σ : gI) (τ : gJ) (x1 : Int32) (x2 : Int32) (x3 : Int32), IC σ → (0 ≤ x3.toInt) → (x2.toInt ≤ 300) → (1 ≤ x3.toInt) → (2147483647 - x3.toInt).toNat < n → okp (Kq σ τ (fun a => a.toInt = -1 ∨ (1 ≤ a.toInt ∧ a.toInt ≤ 300))) (H_X9_circle_10 N n σ τ x1 x2 x3) := by
  intro n
  induction n with
  | zero => intro σ τ x1 x2 x3 _ _ _ _ hm; exact absurd hm (Nat.not_lt_zero _)
  | succ n ih =>
    intro σ τ x1 x2 x3 hI h0_10 h2 h3 hm
    exact s_C_X9_circle_10 N hN (H_X9_circle_10 N n) n ih σ τ x1 x2 x3 hI h0_10 hm h2 h3
set_option maxHeartbeats 2000000 in
theorem s_B_X9_circle_0 (N : Nat) (hN : 4294967296 ≤ N) (σ : gI) (τ : gJ) (x1 : Int32) (x2 : Int32) (hI : IC σ) (hm2 : x2.toInt ≤ 300) : okp (Kq σ τ (fun a => a.toInt = -1 ∨ (1 ≤ a.toInt ∧ a.toInt ≤ 300))) (B_X9_circle_0 N σ τ x1 x2) := by
  unfold B_X9_circle_0
  refine ok_nm (fun σ_1 e_1 => ?_)
  have k_1 : KS σ σ_1 := ks_up (ks_rf σ) e_1 (by omega) (by omega) (by omega)
  exact ok_mono (fun _ _ _ h9 => ⟨h9.1, ks_tr k_1 h9.2.1, kj_tr (kj_rf τ) h9.2.2⟩) (s_H_X9_circle_10 N hN N σ_1 τ x1 x2 1 (k_1.1.2 hI) (by have : (0 : Int32).toInt = 0 := rfl; have : (1 : Int32).toInt = 1 := rfl; have := i32_rng x2; omega) (by have : (300 : Int32).toInt = 300 := rfl; have := i32_rng x2; omega) (by have : (1 : Int32).toInt = 1 := rfl; have := i32_rng x2; omega) (by have : (1 : Int32).toInt = 1 := rfl; have := i32_rng x2; omega))
set_option maxHeartbeats 2000000 in
theorem s_B_X11_round_89 (N : Nat) (hN : 4294967296 ≤ N) (σ : gI) (τ : gJ) (x2 : Int32) (y0 : Int32) (hI : IC σ) : okp (Kq σ τ (fun _ => True)) (B_X11_round_89 N σ τ x2 y0) := by
  unfold B_X11_round_89
  refine ok_nm (fun σ_1 e_1 => ?_)
  have k_1 : KS σ σ_1 := ks_up (ks_rf σ) e_1 (by omega) (by omega) (by omega)
  refine ok_ite (fun c_1 => ?_) (fun c_1 => ?_)
  · simp only [fa_lt, fa_le, fa_eq] at c_1
    exact ok_r ⟨trivial, k_1, (kj_rf τ)⟩
  · simp only [fa_lt, fa_le, fa_eq] at c_1
    refine ok_ite (fun c_2 => ?_) (fun c_2 => ?_)
    · simp only [fa_lt, fa_le, fa_eq] at c_2
      refine ok_bd (s_B_X4_tell_0 N hN σ_1 τ (-1) (k_1.1.2 hI)) (fun _ σ_5 τ_5 hp_5 => ?_)
      have k_5 : KS σ σ_5 := ks_tr k_1 hp_5.2.1
      have kj_5 : KJ τ τ_5 := kj_tr (kj_rf τ) hp_5.2.2
      exact ok_r ⟨trivial, k_5, kj_5⟩
    · simp only [fa_lt, fa_le, fa_eq] at c_2
      refine ok_bd (s_B_X4_tell_0 N hN σ_1 τ y0.toInt64 (k_1.1.2 hI)) (fun _ σ_4 τ_4 hp_4 => ?_)
      have k_4 : KS σ σ_4 := ks_tr k_1 hp_4.2.1
      have kj_4 : KJ τ τ_4 := kj_tr (kj_rf τ) hp_4.2.2
      exact ok_r ⟨trivial, k_4, kj_4⟩
set_option maxHeartbeats 2000000 in
theorem s_B_X11_round_0 (N : Nat) (hN : 4294967296 ≤ N) (σ : gI) (τ : gJ) (x1 : Int32) (hI : IC σ) : okp (Kq σ τ (fun _ => True)) (B_X11_round_0 N σ τ x1) := by
  unfold B_X11_round_0
  refine ok_bd (s_B_X8_has_0 N hN σ τ x1 ((ks_rf σ).1.2 hI)) (fun r_1 σ_1 τ_1 hp_1 => ?_)
  have k_1 : KS σ σ_1 := ks_eq (ks_rf σ) hp_1.2.1
  have kj_1 : KJ τ τ_1 := kj_eq (kj_rf τ) hp_1.2.2
  refine ok_ite (fun c_1 => ?_) (fun c_1 => ?_)
  · simp only [fa_lt, fa_le, fa_eq] at c_1
    exact ok_r ⟨trivial, k_1, kj_1⟩
  · simp only [fa_lt, fa_le, fa_eq] at c_1
    refine ok_bd (s_B_X9_thinkOf_0 N hN σ_1 τ_1 x1 99 9 0 (σ_1 30 8) (k_1.1.2 hI)) (fun _ σ_3 τ_3 hp_3 => ?_)
    have k_3 : KS σ σ_3 := ks_tr k_1 hp_3.2.1
    have kj_3 : KJ τ τ_3 := kj_tr kj_1 hp_3.2.2
    refine ok_bd (s_B_X9_begin_0 N hN σ_3 τ_3 (σ_3 30 7) (k_3.1.2 hI)) (fun _ σ_4 τ_4 hp_4 => ?_)
    have k_4 : KS σ σ_4 := ks_tr k_3 hp_4.2.1
    have kj_4 : KJ τ τ_4 := kj_tr kj_3 hp_4.2.2
    refine ok_nm (fun σ_5 e_5 => ?_)
    have k_5 : KS σ σ_5 := ks_up k_4 e_5 (by omega) (by omega) (by omega)
    refine ok_bd (s_B_X9_circle_0 N hN σ_5 τ_4 x1 300 (k_5.1.2 hI) (by have : (0 : Int32).toInt = 0 := rfl; have : (300 : Int32).toInt = 300 := rfl; have := i32_rng r_1; omega)) (fun r_6 σ_6 τ_6 hp_6 => ?_)
    have k_6 : KS σ σ_6 := ks_tr k_5 hp_6.2.1
    have kj_6 : KJ τ τ_6 := kj_tr kj_4 hp_6.2.2
    have hb_6 :  r_6.toInt = -1 ∨ (1 ≤ r_6.toInt ∧ r_6.toInt ≤ 300) := hp_6.1
    refine ok_ite (fun c_2 => ?_) (fun c_2 => ?_)
    · simp only [fa_lt, fa_le, fa_eq] at c_2
      exact ok_mono (fun _ _ _ h9 => ⟨h9.1, ks_tr k_6 h9.2.1, kj_tr kj_6 h9.2.2⟩) (s_B_X11_round_89 N hN σ_6 τ_6 r_6 (-1) (k_6.1.2 hI))
    · simp only [fa_lt, fa_le, fa_eq] at c_2
      refine ok_bd (s_B_X9_circle_0 N hN σ_6 τ_6 x1 (300 - r_6) (k_6.1.2 hI) (by have : (-1 : Int32).toInt = -1 := rfl; have : (0 : Int32).toInt = 0 := rfl; have : (300 : Int32).toInt = 300 := rfl; have := i32_rng r_1; have := i32_rng r_6; have : ((300 : Int32) - r_6).toInt = (300 : Int32).toInt - r_6.toInt := (ti_sub (by omega) (by omega)); omega)) (fun r_8 σ_8 τ_8 hp_8 => ?_)
      have k_8 : KS σ σ_8 := ks_tr k_6 hp_8.2.1
      have kj_8 : KJ τ τ_8 := kj_tr kj_6 hp_8.2.2
      have hb_8 :  r_8.toInt = -1 ∨ (1 ≤ r_8.toInt ∧ r_8.toInt ≤ 300) := hp_8.1
      exact ok_mono (fun _ _ _ h9 => ⟨h9.1, ks_tr k_8 h9.2.1, kj_tr kj_8 h9.2.2⟩) (s_B_X11_round_89 N hN σ_8 τ_8 r_6 r_8 (k_8.1.2 hI))
set_option maxHeartbeats 2000000 in
theorem s_B_X5_clear_0 (N : Nat) (hN : 4294967296 ≤ N) (σ : gI) (τ : gJ) (hI : IC σ) : okp (Kq σ τ (fun _ => True)) (B_X5_clear_0 N σ τ) := by
  unfold B_X5_clear_0
  refine ok_nm (fun σ_1 e_1 => ?_)
  have k_1 : KS σ σ_1 := ks_up (ks_rf σ) e_1 (by omega) (by omega) (by omega)
  refine ok_nm (fun σ_2 e_2 => ?_)
  have k_2 : KS σ σ_2 := ks_up k_1 e_2 (by omega) (by omega) (by omega)
  refine ok_nm (fun σ_3 e_3 => ?_)
  have k_3 : KS σ σ_3 := ks_up k_2 e_3 (by omega) (by omega) (by omega)
  refine ok_nm (fun σ_4 e_4 => ?_)
  have k_4 : KS σ σ_4 := ks_up k_3 e_4 (by omega) (by omega) (by omega)
  refine ok_nm (fun σ_5 e_5 => ?_)
  have k_5 : KS σ σ_5 := ks_up k_4 e_5 (by omega) (by omega) (by omega)
  refine ok_nm (fun σ_6 e_6 => ?_)
  have k_6 : KS σ σ_6 := ks_up k_5 e_6 (by omega) (by omega) (by omega)
  refine ok_nm (fun σ_7 e_7 => ?_)
  have k_7 : KS σ σ_7 := ks_upb k_6 e_7 (by omega) (by omega) (Or.inl rfl)
  refine ok_nm (fun σ_8 e_8 => ?_)
  have k_8 : KS σ σ_8 := ks_upb k_7 e_8 (by omega) (by omega) (Or.inl rfl)
  exact ok_r ⟨trivial, k_8, (kj_rf τ)⟩
set_option maxHeartbeats 2000000 in
theorem s_B_X5_addStep_0 (N : Nat) (hN : 4294967296 ≤ N) (σ : gI) (τ : gJ) (x1 : Int32) (hI : IC σ) : okp (Kq σ τ (fun _ => True)) (B_X5_addStep_0 N σ τ x1) := by
  unfold B_X5_addStep_0
  refine ok_ite (fun c_1 => ?_) (fun c_1 => ?_)
  · simp only [fa_lt, fa_le, fa_eq] at c_1
    exact ok_r ⟨trivial, (ks_rf σ), (kj_rf τ)⟩
  · simp only [fa_lt, fa_le, fa_eq] at c_1
    refine ok_ite (fun c_2 => ?_) (fun c_2 => ?_)
    · simp only [fa_lt, fa_le, fa_eq] at c_2
      exact ok_r ⟨trivial, (ks_rf σ), (kj_rf τ)⟩
    · simp only [fa_lt, fa_le, fa_eq] at c_2
      refine ok_ck (by have : (0 : Int32).toInt = 0 := rfl; have : (3 : Int32).toInt = 3 := rfl; have : (21 : Int32).toInt = 21 := rfl; have : (40 : Int32).toInt = 40 := rfl; have := i32_rng (σ 21 3); omega) (fun j_3 hj_3 lj_3 => ?_)
      refine ok_nm (fun σ_4 e_4 => ?_)
      have k_4 : KS σ σ_4 := ks_up (ks_rf σ) e_4 (by omega) (by omega) (by omega)
      refine ok_nm (fun σ_5 e_5 => ?_)
      have k_5 : KS σ σ_5 := ks_up k_4 e_5 (by omega) (by omega) (by omega)
      exact ok_r ⟨trivial, k_5, (kj_rf τ)⟩
set_option maxHeartbeats 2000000 in
theorem s_B_X5_addFact_34 (N : Nat) (hN : 4294967296 ≤ N) (σ : gI) (τ : gJ) (x1 : Int32) (y0 : Int32) (y1 : Int32) (hI : IC σ) (hb0 : y0 = 0 ∨ y0 = 1) (hb1 : y1 = 0 ∨ y1 = 1) : okp (Kq σ τ (fun _ => True)) (B_X5_addFact_34 N σ τ x1 y0 y1) := by
  unfold B_X5_addFact_34
  have b_1 : (y1 ||| y0) = 0 ∨ (y1 ||| y0) = 1 := (or_b hb1 hb0)
  refine ok_cb b_1 ?_
  refine ok_nm (fun σ_2 e_2 => ?_)
  have k_2 : KS σ σ_2 := ks_upb (ks_rf σ) e_2 (by omega) (by omega) b_1
  refine ok_bd (s_B_X5_addStep_0 N hN σ_2 τ x1 (k_2.1.2 hI)) (fun _ σ_3 τ_3 hp_3 => ?_)
  have k_3 : KS σ σ_3 := ks_tr k_2 hp_3.2.1
  have kj_3 : KJ τ τ_3 := kj_tr (kj_rf τ) hp_3.2.2
  refine ok_nm (fun σ_4 e_4 => ?_)
  have k_4 : KS σ σ_4 := ks_up k_3 e_4 (by omega) (by omega) (by omega)
  refine ok_nm (fun σ_5 e_5 => ?_)
  have k_5 : KS σ σ_5 := ks_up k_4 e_5 (by omega) (by omega) (by omega)
  exact ok_r ⟨trivial, k_5, kj_3⟩
set_option maxHeartbeats 2000000 in
theorem s_B_X5_addFact_0 (N : Nat) (hN : 4294967296 ≤ N) (σ : gI) (τ : gJ) (x1 : Int32) (hI : IC σ) : okp (Kq σ τ (fun _ => True)) (B_X5_addFact_0 N σ τ x1) := by
  unfold B_X5_addFact_0
  refine ok_ite (fun c_1 => ?_) (fun c_1 => ?_)
  · simp only [fa_lt, fa_le, fa_eq] at c_1
    have b_2 : ((σ 21 9) ||| 1) = 0 ∨ ((σ 21 9) ||| 1) = 1 := (or_b ((ks_rf σ).1.2 hI).2.2.2.1 (Or.inr rfl))
    refine ok_cb b_2 ?_
    refine ok_nm (fun σ_6 e_6 => ?_)
    have k_6 : KS σ σ_6 := ks_upb (ks_rf σ) e_6 (by omega) (by omega) b_2
    refine ok_ite (fun c_3 => ?_) (fun c_3 => ?_)
    · simp only [fa_lt, fa_le, fa_eq] at c_3
      exact ok_mono (fun _ _ _ h9 => ⟨h9.1, ks_tr k_6 h9.2.1, kj_tr (kj_rf τ) h9.2.2⟩) (s_B_X5_addFact_34 N hN σ_6 τ x1 1 (σ_6 21 10) (k_6.1.2 hI) (Or.inr rfl) (k_6.1.2 hI).2.2.2.2)
    · simp only [fa_lt, fa_le, fa_eq] at c_3
      exact ok_mono (fun _ _ _ h9 => ⟨h9.1, ks_tr k_6 h9.2.1, kj_tr (kj_rf τ) h9.2.2⟩) (s_B_X5_addFact_34 N hN σ_6 τ x1 0 (σ_6 21 10) (k_6.1.2 hI) (Or.inl rfl) (k_6.1.2 hI).2.2.2.2)
  · simp only [fa_lt, fa_le, fa_eq] at c_1
    have b_4 : ((σ 21 9) ||| 0) = 0 ∨ ((σ 21 9) ||| 0) = 1 := (or_b ((ks_rf σ).1.2 hI).2.2.2.1 (Or.inl rfl))
    refine ok_cb b_4 ?_
    refine ok_nm (fun σ_3 e_3 => ?_)
    have k_3 : KS σ σ_3 := ks_upb (ks_rf σ) e_3 (by omega) (by omega) b_4
    refine ok_ite (fun c_5 => ?_) (fun c_5 => ?_)
    · simp only [fa_lt, fa_le, fa_eq] at c_5
      exact ok_mono (fun _ _ _ h9 => ⟨h9.1, ks_tr k_3 h9.2.1, kj_tr (kj_rf τ) h9.2.2⟩) (s_B_X5_addFact_34 N hN σ_3 τ x1 1 (σ_3 21 10) (k_3.1.2 hI) (Or.inr rfl) (k_3.1.2 hI).2.2.2.2)
    · simp only [fa_lt, fa_le, fa_eq] at c_5
      exact ok_mono (fun _ _ _ h9 => ⟨h9.1, ks_tr k_3 h9.2.1, kj_tr (kj_rf τ) h9.2.2⟩) (s_B_X5_addFact_34 N hN σ_3 τ x1 0 (σ_3 21 10) (k_3.1.2 hI) (Or.inl rfl) (k_3.1.2 hI).2.2.2.2)
set_option maxHeartbeats 2000000 in
theorem s_B_X5_rankOf_0 (N : Nat) (hN : 4294967296 ≤ N) (σ : gI) (τ : gJ) (x0 : Int32) (hI : IC σ) : okp (Kqe σ τ (fun _ => True)) (B_X5_rankOf_0 N σ τ x0) := by
  unfold B_X5_rankOf_0
  refine ok_ite (fun c_1 => ?_) (fun c_1 => ?_)
  · simp only [fa_lt, fa_le, fa_eq] at c_1
    exact ok_r ⟨trivial, (Eq.refl σ), (Eq.refl τ)⟩
  · simp only [fa_lt, fa_le, fa_eq] at c_1
    refine ok_ite (fun c_2 => ?_) (fun c_2 => ?_)
    · simp only [fa_lt, fa_le, fa_eq] at c_2
      exact ok_r ⟨trivial, (Eq.refl σ), (Eq.refl τ)⟩
    · simp only [fa_lt, fa_le, fa_eq] at c_2
      refine ok_ite (fun c_3 => ?_) (fun c_3 => ?_)
      · simp only [fa_lt, fa_le, fa_eq] at c_3
        exact ok_r ⟨trivial, (Eq.refl σ), (Eq.refl τ)⟩
      · simp only [fa_lt, fa_le, fa_eq] at c_3
        refine ok_ite (fun c_4 => ?_) (fun c_4 => ?_)
        · simp only [fa_lt, fa_le, fa_eq] at c_4
          exact ok_r ⟨trivial, (Eq.refl σ), (Eq.refl τ)⟩
        · simp only [fa_lt, fa_le, fa_eq] at c_4
          refine ok_ite (fun c_5 => ?_) (fun c_5 => ?_)
          · simp only [fa_lt, fa_le, fa_eq] at c_5
            exact ok_r ⟨trivial, (Eq.refl σ), (Eq.refl τ)⟩
          · simp only [fa_lt, fa_le, fa_eq] at c_5
            exact ok_r ⟨trivial, (Eq.refl σ), (Eq.refl τ)⟩
set_option maxHeartbeats 2000000 in
theorem s_C_X5_release_2 (N : Nat) (hN : 4294967296 ≤ N) (rec_2 : gI → gJ → Int32 → Int32 → Option (Unit × gI × gJ)) (n_2 : Nat) (hrec_2 : ∀ (σ : gI) (τ : gJ) (x1 : Int32) (x2 : Int32), IC σ → (0 ≤ x2.toInt) → (2147483647 - x2.toInt).toNat < n_2 → okp (Kq σ τ (fun _ => True)) (rec_2 σ τ x1 x2)) (σ : gI) (τ : gJ) (x1 : Int32) (x2 : Int32) (hI : IC σ) (h0_2 : 0 ≤ x2.toInt) (hm_2 : (2147483647 - x2.toInt).toNat < n_2 + 1) : okp (Kq σ τ (fun _ => True)) (C_X5_release_2 N rec_2 σ τ x1 x2) := by
  unfold C_X5_release_2
  refine ok_ite (fun c_1 => ?_) (fun c_1 => ?_)
  · simp only [fa_lt, fa_le, fa_eq] at c_1
    exact ok_r ⟨trivial, (ks_rf σ), (kj_rf τ)⟩
  · simp only [fa_lt, fa_le, fa_eq] at c_1
    refine ok_ite (fun c_2 => ?_) (fun c_2 => ?_)
    · simp only [fa_lt, fa_le, fa_eq] at c_2
      exact ok_r ⟨trivial, (ks_rf σ), (kj_rf τ)⟩
    · simp only [fa_lt, fa_le, fa_eq] at c_2
      refine ok_ite (fun c_3 => ?_) (fun c_3 => ?_)
      · simp only [fa_lt, fa_le, fa_eq] at c_3
        exact ok_r ⟨trivial, (ks_rf σ), (kj_rf τ)⟩
      · simp only [fa_lt, fa_le, fa_eq] at c_3
        refine ok_ck (by have : (0 : Int32).toInt = 0 := rfl; have : (1 : Int32).toInt = 1 := rfl; have : (4 : Int32).toInt = 4 := rfl; have : (21 : Int32).toInt = 21 := rfl; have : (40 : Int32).toInt = 40 := rfl; have := i32_rng (σ 21 4); have := i32_rng x2; have : ((σ 21 4) - (1 : Int32)).toInt = (σ 21 4).toInt - (1 : Int32).toInt := (ti_sub (by omega) (by omega)); have q9 := ti_sub (a := σ 21 4) (b := 1) (by rw [show (1 : Int32).toInt = 1 from rfl]; omega) (by rw [show (1 : Int32).toInt = 1 from rfl]; omega); rw [q9, show (1 : Int32).toInt = 1 from rfl]; omega) (fun j_4 hj_4 lj_4 => ?_)
        refine ok_nm (fun v_5 e_5 => ?_)
        refine ok_ite (fun c_4 => ?_) (fun c_4 => ?_)
        · simp only [fa_lt, fa_le, fa_eq] at c_4
          exact ok_r ⟨trivial, (ks_rf σ), (kj_rf τ)⟩
        · simp only [fa_lt, fa_le, fa_eq] at c_4
          refine ok_bd (s_B_X5_rankOf_0 N hN σ τ v_5 ((ks_rf σ).1.2 hI)) (fun r_7 σ_7 τ_7 hp_7 => ?_)
          have k_7 : KS σ σ_7 := ks_eq (ks_rf σ) hp_7.2.1
          have kj_7 : KJ τ τ_7 := kj_eq (kj_rf τ) hp_7.2.2
          refine ok_ite (fun c_5 => ?_) (fun c_5 => ?_)
          · simp only [fa_lt, fa_le, fa_eq] at c_5
            refine ok_nm (fun σ_9 e_9 => ?_)
            have k_9 : KS σ σ_9 := ks_up k_7 e_9 (by omega) (by omega) (by omega)
            refine ok_bd (s_B_X5_addStep_0 N hN σ_9 τ_7 v_5 (k_9.1.2 hI)) (fun _ σ_10 τ_10 hp_10 => ?_)
            have k_10 : KS σ σ_10 := ks_tr k_9 hp_10.2.1
            have kj_10 : KJ τ τ_10 := kj_tr kj_7 hp_10.2.2
            refine ok_nm (fun v_11 e_11 => ?_)
            exact ok_mono (fun _ _ _ h9 => ⟨h9.1, ks_tr k_10 h9.2.1, kj_tr kj_10 h9.2.2⟩) (hrec_2 σ_10 τ_10 x1 v_11 (k_10.1.2 hI) (by have : (0 : Int32).toInt = 0 := rfl; have : (1 : Int32).toInt = 1 := rfl; have : (4 : Int32).toInt = 4 := rfl; have : (16 : Int32).toInt = 16 := rfl; have : (21 : Int32).toInt = 21 := rfl; have : (24 : Int32).toInt = 24 := rfl; have : (40 : Int32).toInt = 40 := rfl; have := i32_rng (σ 24 j_4); have := i32_rng (σ 21 4); have := i32_rng r_7; have := i32_rng v_11; have := i32_rng v_5; have := i32_rng x1; have := i32_rng x2; have u_v_11 : v_11.toInt = (x2).toInt + 1 := (by rw [e_11]; have q := ti_add (a := x2) (b := 1) (by rw [show (1 : Int32).toInt = 1 from rfl]; omega) (by rw [show (1 : Int32).toInt = 1 from rfl]; omega); rw [q, show (1 : Int32).toInt = 1 from rfl]); have u_v_5 : v_5.toInt = (σ 24 j_4).toInt := (by rw [e_5]); omega) (by have : (0 : Int32).toInt = 0 := rfl; have : (1 : Int32).toInt = 1 := rfl; have : (4 : Int32).toInt = 4 := rfl; have : (16 : Int32).toInt = 16 := rfl; have : (21 : Int32).toInt = 21 := rfl; have : (24 : Int32).toInt = 24 := rfl; have : (40 : Int32).toInt = 40 := rfl; have := i32_rng (σ 24 j_4); have := i32_rng (σ 21 4); have := i32_rng r_7; have := i32_rng v_11; have := i32_rng v_5; have := i32_rng x1; have := i32_rng x2; have u_v_11 : v_11.toInt = (x2).toInt + 1 := (by rw [e_11]; have q := ti_add (a := x2) (b := 1) (by rw [show (1 : Int32).toInt = 1 from rfl]; omega) (by rw [show (1 : Int32).toInt = 1 from rfl]; omega); rw [q, show (1 : Int32).toInt = 1 from rfl]); have u_v_5 : v_5.toInt = (σ 24 j_4).toInt := (by rw [e_5]); omega))
          · simp only [fa_lt, fa_le, fa_eq] at c_5
            exact ok_r ⟨trivial, k_7, kj_7⟩
theorem s_H_X5_release_2 (N : Nat) (hN : 4294967296 ≤ N) : ∀ (n : Nat) (σ : gI) (τ : gJ) (x1 : Int32) (x2 : Int32), IC σ → (0 ≤ x2.toInt) → (2147483647 - x2.toInt).toNat < n → okp (Kq σ τ (fun _ => True)) (H_X5_release_2 N n σ τ x1 x2) := by
  intro n
  induction n with
  | zero => intro σ τ x1 x2 _ _ hm; exact absurd hm (Nat.not_lt_zero _)
  | succ n ih =>
    intro σ τ x1 x2 hI h0_2 hm
    exact s_C_X5_release_2 N hN (H_X5_release_2 N n) n ih σ τ x1 x2 hI h0_2 hm
set_option maxHeartbeats 2000000 in
theorem s_B_X5_release_0 (N : Nat) (hN : 4294967296 ≤ N) (σ : gI) (τ : gJ) (x1 : Int32) (hI : IC σ) : okp (Kq σ τ (fun _ => True)) (B_X5_release_0 N σ τ x1) := by
  unfold B_X5_release_0
  exact ok_mono (fun _ _ _ h9 => ⟨h9.1, ks_tr (ks_rf σ) h9.2.1, kj_tr (kj_rf τ) h9.2.2⟩) (s_H_X5_release_2 N hN N σ τ x1 0 ((ks_rf σ).1.2 hI) (by have : (0 : Int32).toInt = 0 := rfl; omega) (by have : (0 : Int32).toInt = 0 := rfl; omega))
set_option maxHeartbeats 2000000 in
theorem s_B_X5_finish_0 (N : Nat) (hN : 4294967296 ≤ N) (σ : gI) (τ : gJ) (x1 : Int32) (hI : IC σ) : okp (Kq σ τ (fun _ => True)) (B_X5_finish_0 N σ τ x1) := by
  unfold B_X5_finish_0
  refine ok_ite (fun c_1 => ?_) (fun c_1 => ?_)
  · simp only [fa_lt, fa_le, fa_eq] at c_1
    refine ok_ite (fun c_2 => ?_) (fun c_2 => ?_)
    · simp only [fa_lt, fa_le, fa_eq] at c_2
      refine ok_bd (s_B_X5_release_0 N hN σ τ 0 ((ks_rf σ).1.2 hI)) (fun _ σ_3 τ_3 hp_3 => ?_)
      have k_3 : KS σ σ_3 := ks_tr (ks_rf σ) hp_3.2.1
      have kj_3 : KJ τ τ_3 := kj_tr (kj_rf τ) hp_3.2.2
      exact ok_r ⟨trivial, k_3, kj_3⟩
    · simp only [fa_lt, fa_le, fa_eq] at c_2
      exact ok_r ⟨trivial, (ks_rf σ), (kj_rf τ)⟩
  · simp only [fa_lt, fa_le, fa_eq] at c_1
    exact ok_r ⟨trivial, (ks_rf σ), (kj_rf τ)⟩
set_option maxHeartbeats 2000000 in
theorem s_B_X5_hold_0 (N : Nat) (hN : 4294967296 ≤ N) (σ : gI) (τ : gJ) (x1 : Int32) (hI : IC σ) : okp (Kq σ τ (fun _ => True)) (B_X5_hold_0 N σ τ x1) := by
  unfold B_X5_hold_0
  refine ok_ite (fun c_1 => ?_) (fun c_1 => ?_)
  · simp only [fa_lt, fa_le, fa_eq] at c_1
    exact ok_r ⟨trivial, (ks_rf σ), (kj_rf τ)⟩
  · simp only [fa_lt, fa_le, fa_eq] at c_1
    refine ok_ite (fun c_2 => ?_) (fun c_2 => ?_)
    · simp only [fa_lt, fa_le, fa_eq] at c_2
      exact ok_r ⟨trivial, (ks_rf σ), (kj_rf τ)⟩
    · simp only [fa_lt, fa_le, fa_eq] at c_2
      refine ok_ck (by have : (0 : Int32).toInt = 0 := rfl; have : (4 : Int32).toInt = 4 := rfl; have : (21 : Int32).toInt = 21 := rfl; have : (40 : Int32).toInt = 40 := rfl; have := i32_rng (σ 21 4); omega) (fun j_3 hj_3 lj_3 => ?_)
      refine ok_nm (fun σ_4 e_4 => ?_)
      have k_4 : KS σ σ_4 := ks_up (ks_rf σ) e_4 (by omega) (by omega) (by omega)
      refine ok_nm (fun σ_5 e_5 => ?_)
      have k_5 : KS σ σ_5 := ks_up k_4 e_5 (by omega) (by omega) (by omega)
      exact ok_r ⟨trivial, k_5, (kj_rf τ)⟩
set_option maxHeartbeats 2000000 in
theorem s_B_X5_takeThing_0 (N : Nat) (hN : 4294967296 ≤ N) (σ : gI) (τ : gJ) (x2 : Int32) (hI : IC σ) : okp (Kq σ τ (fun a => a = 0 ∨ a = 1)) (B_X5_takeThing_0 N σ τ x2) := by
  unfold B_X5_takeThing_0
  refine ok_bd (s_B_X7_oneOf_0 N hN sb_1 (by decide) σ τ x2 ((ks_rf σ).1.2 hI)) (fun r_1 σ_1 τ_1 hp_1 => ?_)
  have k_1 : KS σ σ_1 := ks_eq (ks_rf σ) hp_1.2.1
  have kj_1 : KJ τ τ_1 := kj_eq (kj_rf τ) hp_1.2.2
  refine ok_bd (s_B_X7_digit_0 N hN σ_1 τ_1 x2 (k_1.1.2 hI)) (fun r_2 σ_2 τ_2 hp_2 => ?_)
  have k_2 : KS σ σ_2 := ks_eq k_1 hp_2.2.1
  have kj_2 : KJ τ τ_2 := kj_eq kj_1 hp_2.2.2
  refine ok_ite (fun c_1 => ?_) (fun c_1 => ?_)
  · simp only [fa_lt, fa_le, fa_eq] at c_1
    refine ok_ite (fun c_2 => ?_) (fun c_2 => ?_)
    · simp only [fa_lt, fa_le, fa_eq] at c_2
      refine ok_bd (s_B_X7_hasSign_0 N hN σ_2 τ_2 x2 45 (k_2.1.2 hI)) (fun r_5 σ_5 τ_5 hp_5 => ?_)
      have k_5 : KS σ σ_5 := ks_eq k_2 hp_5.2.1
      have kj_5 : KJ τ τ_5 := kj_eq kj_2 hp_5.2.2
      refine ok_ite (fun c_3 => ?_) (fun c_3 => ?_)
      · simp only [fa_lt, fa_le, fa_eq] at c_3
        refine ok_bd (s_B_X7_hasSign_0 N hN σ_5 τ_5 x2 40 (k_5.1.2 hI)) (fun r_7 σ_7 τ_7 hp_7 => ?_)
        have k_7 : KS σ σ_7 := ks_eq k_5 hp_7.2.1
        have kj_7 : KJ τ τ_7 := kj_eq kj_5 hp_7.2.2
        refine ok_ite (fun c_4 => ?_) (fun c_4 => ?_)
        · simp only [fa_lt, fa_le, fa_eq] at c_4
          exact ok_r ⟨(Or.inl rfl), k_7, kj_7⟩
        · simp only [fa_lt, fa_le, fa_eq] at c_4
          refine ok_ite (fun c_5 => ?_) (fun c_5 => ?_)
          · simp only [fa_lt, fa_le, fa_eq] at c_5
            exact ok_r ⟨(Or.inl rfl), k_7, kj_7⟩
          · simp only [fa_lt, fa_le, fa_eq] at c_5
            refine ok_nm (fun σ_10 e_10 => ?_)
            have k_10 : KS σ σ_10 := ks_up k_7 e_10 (by omega) (by omega) (by omega)
            refine ok_nm (fun σ_11 e_11 => ?_)
            have k_11 : KS σ σ_11 := ks_up k_10 e_11 (by omega) (by omega) (by omega)
            refine ok_bd (s_B_X5_hold_0 N hN σ_11 τ_7 16 (k_11.1.2 hI)) (fun _ σ_12 τ_12 hp_12 => ?_)
            have k_12 : KS σ σ_12 := ks_tr k_11 hp_12.2.1
            have kj_12 : KJ τ τ_12 := kj_tr kj_7 hp_12.2.2
            exact ok_r ⟨(Or.inr rfl), k_12, kj_12⟩
      · simp only [fa_lt, fa_le, fa_eq] at c_3
        refine ok_bd (s_B_X5_hold_0 N hN σ_5 τ_5 8 (k_5.1.2 hI)) (fun _ σ_13 τ_13 hp_13 => ?_)
        have k_13 : KS σ σ_13 := ks_tr k_5 hp_13.2.1
        have kj_13 : KJ τ τ_13 := kj_tr kj_5 hp_13.2.2
        exact ok_r ⟨(Or.inr rfl), k_13, kj_13⟩
    · simp only [fa_lt, fa_le, fa_eq] at c_2
      refine ok_bd (s_B_X5_addStep_0 N hN σ_2 τ_2 (32 + r_2) (k_2.1.2 hI)) (fun _ σ_14 τ_14 hp_14 => ?_)
      have k_14 : KS σ σ_14 := ks_tr k_2 hp_14.2.1
      have kj_14 : KJ τ τ_14 := kj_tr kj_2 hp_14.2.2
      refine ok_nm (fun σ_15 e_15 => ?_)
      have k_15 : KS σ σ_15 := ks_up k_14 e_15 (by omega) (by omega) (by omega)
      refine ok_nm (fun σ_16 e_16 => ?_)
      have k_16 : KS σ σ_16 := ks_up k_15 e_16 (by omega) (by omega) (by omega)
      exact ok_r ⟨(Or.inr rfl), k_16, kj_14⟩
  · simp only [fa_lt, fa_le, fa_eq] at c_1
    refine ok_bd (s_B_X5_addFact_0 N hN σ_2 τ_2 r_1 (k_2.1.2 hI)) (fun _ σ_17 τ_17 hp_17 => ?_)
    have k_17 : KS σ σ_17 := ks_tr k_2 hp_17.2.1
    have kj_17 : KJ τ τ_17 := kj_tr kj_2 hp_17.2.2
    exact ok_r ⟨(Or.inr rfl), k_17, kj_17⟩
set_option maxHeartbeats 2000000 in
theorem s_B_X5_lengthenNumber_0 (N : Nat) (hN : 4294967296 ≤ N) (σ : gI) (τ : gJ) (x1 : Int32) (hI : IC σ) : okp (Kq σ τ (fun a => a = 0 ∨ a = 1)) (B_X5_lengthenNumber_0 N σ τ x1) := by
  unfold B_X5_lengthenNumber_0
  refine ok_ite (fun c_1 => ?_) (fun c_1 => ?_)
  · simp only [fa_lt, fa_le, fa_eq] at c_1
    exact ok_r ⟨(Or.inl rfl), (ks_rf σ), (kj_rf τ)⟩
  · simp only [fa_lt, fa_le, fa_eq] at c_1
    refine ok_ite (fun c_2 => ?_) (fun c_2 => ?_)
    · simp only [fa_lt, fa_le, fa_eq] at c_2
      exact ok_r ⟨(Or.inl rfl), (ks_rf σ), (kj_rf τ)⟩
    · simp only [fa_lt, fa_le, fa_eq] at c_2
      refine ok_ite (fun c_3 => ?_) (fun c_3 => ?_)
      · simp only [fa_lt, fa_le, fa_eq] at c_3
        refine ok_ck (by have : (0 : Int32).toInt = 0 := rfl; have : (1 : Int32).toInt = 1 := rfl; have : (3 : Int32).toInt = 3 := rfl; have : (7 : Int32).toInt = 7 := rfl; have : (21 : Int32).toInt = 21 := rfl; have : (40 : Int32).toInt = 40 := rfl; have := i32_rng (σ 21 3); have := i32_rng (σ 21 7); have : ((σ 21 3) - (1 : Int32)).toInt = (σ 21 3).toInt - (1 : Int32).toInt := (ti_sub (by omega) (by omega)); have q9 := ti_sub (a := σ 21 3) (b := 1) (by rw [show (1 : Int32).toInt = 1 from rfl]; omega) (by rw [show (1 : Int32).toInt = 1 from rfl]; omega); rw [q9, show (1 : Int32).toInt = 1 from rfl]; omega) (fun j_4 hj_4 lj_4 => ?_)
        refine ok_nm (fun v_5 e_5 => ?_)
        refine ok_nm (fun σ_6 e_6 => ?_)
        have k_6 : KS σ σ_6 := ks_up (ks_rf σ) e_6 (by omega) (by omega) (by omega)
        refine ok_nm (fun σ_7 e_7 => ?_)
        have k_7 : KS σ σ_7 := ks_up k_6 e_7 (by omega) (by omega) (by omega)
        exact ok_r ⟨(Or.inr rfl), k_7, (kj_rf τ)⟩
      · simp only [fa_lt, fa_le, fa_eq] at c_3
        exact ok_r ⟨(Or.inl rfl), (ks_rf σ), (kj_rf τ)⟩
set_option maxHeartbeats 2000000 in
theorem s_B_X5_close_0 (N : Nat) (hN : 4294967296 ≤ N) (σ : gI) (τ : gJ) (hI : IC σ) : okp (Kq σ τ (fun a => a = 0 ∨ a = 1)) (B_X5_close_0 N σ τ) := by
  unfold B_X5_close_0
  refine ok_ite (fun c_1 => ?_) (fun c_1 => ?_)
  · simp only [fa_lt, fa_le, fa_eq] at c_1
    refine ok_bd (s_B_X5_release_0 N hN σ τ 0 ((ks_rf σ).1.2 hI)) (fun _ σ_2 τ_2 hp_2 => ?_)
    have k_2 : KS σ σ_2 := ks_tr (ks_rf σ) hp_2.2.1
    have kj_2 : KJ τ τ_2 := kj_tr (kj_rf τ) hp_2.2.2
    refine ok_nm (fun σ_3 e_3 => ?_)
    have k_3 : KS σ σ_3 := ks_up k_2 e_3 (by omega) (by omega) (by omega)
    refine ok_nm (fun σ_4 e_4 => ?_)
    have k_4 : KS σ σ_4 := ks_up k_3 e_4 (by omega) (by omega) (by omega)
    refine ok_nm (fun σ_5 e_5 => ?_)
    have k_5 : KS σ σ_5 := ks_up k_4 e_5 (by omega) (by omega) (by omega)
    exact ok_r ⟨(Or.inr rfl), k_5, kj_2⟩
  · simp only [fa_lt, fa_le, fa_eq] at c_1
    exact ok_r ⟨(Or.inl rfl), (ks_rf σ), (kj_rf τ)⟩
set_option maxHeartbeats 2000000 in
theorem s_B_X5_takeBehindThing_92 (N : Nat) (hN : 4294967296 ≤ N) (σ : gI) (τ : gJ) (x5 : Int32) (hI : IC σ) : okp (Kq σ τ (fun a => a = 0 ∨ a = 1)) (B_X5_takeBehindThing_92 N σ τ x5) := by
  unfold B_X5_takeBehindThing_92
  refine ok_bd (s_B_X5_rankOf_0 N hN σ τ x5 ((ks_rf σ).1.2 hI)) (fun r_1 σ_1 τ_1 hp_1 => ?_)
  have k_1 : KS σ σ_1 := ks_eq (ks_rf σ) hp_1.2.1
  have kj_1 : KJ τ τ_1 := kj_eq (kj_rf τ) hp_1.2.2
  refine ok_bd (s_B_X5_release_0 N hN σ_1 τ_1 r_1 (k_1.1.2 hI)) (fun _ σ_2 τ_2 hp_2 => ?_)
  have k_2 : KS σ σ_2 := ks_tr k_1 hp_2.2.1
  have kj_2 : KJ τ τ_2 := kj_tr kj_1 hp_2.2.2
  refine ok_bd (s_B_X5_hold_0 N hN σ_2 τ_2 x5 (k_2.1.2 hI)) (fun _ σ_3 τ_3 hp_3 => ?_)
  have k_3 : KS σ σ_3 := ks_tr k_2 hp_3.2.1
  have kj_3 : KJ τ τ_3 := kj_tr kj_2 hp_3.2.2
  refine ok_nm (fun σ_4 e_4 => ?_)
  have k_4 : KS σ σ_4 := ks_up k_3 e_4 (by omega) (by omega) (by omega)
  exact ok_r ⟨(Or.inr rfl), k_4, kj_3⟩
set_option maxHeartbeats 2000000 in
theorem s_B_X5_takeBehindThing_0 (N : Nat) (hN : 4294967296 ≤ N) (σ : gI) (τ : gJ) (x2 : Int32) (hI : IC σ) : okp (Kq σ τ (fun a => a = 0 ∨ a = 1)) (B_X5_takeBehindThing_0 N σ τ x2) := by
  unfold B_X5_takeBehindThing_0
  refine ok_bd (s_B_X7_digit_0 N hN σ τ x2 ((ks_rf σ).1.2 hI)) (fun r_1 σ_1 τ_1 hp_1 => ?_)
  have k_1 : KS σ σ_1 := ks_eq (ks_rf σ) hp_1.2.1
  have kj_1 : KJ τ τ_1 := kj_eq (kj_rf τ) hp_1.2.2
  refine ok_ite (fun c_1 => ?_) (fun c_1 => ?_)
  · simp only [fa_lt, fa_le, fa_eq] at c_1
    refine ok_bd (s_B_X7_hasSign_0 N hN σ_1 τ_1 x2 41 (k_1.1.2 hI)) (fun r_3 σ_3 τ_3 hp_3 => ?_)
    have k_3 : KS σ σ_3 := ks_eq k_1 hp_3.2.1
    have kj_3 : KJ τ τ_3 := kj_eq kj_1 hp_3.2.2
    refine ok_ite (fun c_2 => ?_) (fun c_2 => ?_)
    · simp only [fa_lt, fa_le, fa_eq] at c_2
      refine ok_bd (s_B_X7_oneOf_0 N hN sb_2 (by decide) σ_3 τ_3 x2 (k_3.1.2 hI)) (fun r_5 σ_5 τ_5 hp_5 => ?_)
      have k_5 : KS σ σ_5 := ks_eq k_3 hp_5.2.1
      have kj_5 : KJ τ τ_5 := kj_eq kj_3 hp_5.2.2
      refine ok_ite (fun c_3 => ?_) (fun c_3 => ?_)
      · simp only [fa_lt, fa_le, fa_eq] at c_3
        refine ok_nm (fun v_7 e_7 => ?_)
        refine ok_ite (fun c_4 => ?_) (fun c_4 => ?_)
        · simp only [fa_lt, fa_le, fa_eq] at c_4
          exact ok_mono (fun _ _ _ h9 => ⟨h9.1, ks_tr k_5 h9.2.1, kj_tr kj_5 h9.2.2⟩) (s_B_X5_takeBehindThing_92 N hN σ_5 τ_5 v_7 (k_5.1.2 hI))
        · simp only [fa_lt, fa_le, fa_eq] at c_4
          refine ok_ite (fun c_5 => ?_) (fun c_5 => ?_)
          · simp only [fa_lt, fa_le, fa_eq] at c_5
            refine ok_nm (fun σ_10 e_10 => ?_)
            have k_10 : KS σ σ_10 := ks_up k_5 e_10 (by omega) (by omega) (by omega)
            exact ok_mono (fun _ _ _ h9 => ⟨h9.1, ks_tr k_10 h9.2.1, kj_tr kj_5 h9.2.2⟩) (s_B_X5_takeBehindThing_92 N hN σ_10 τ_5 v_7 (k_10.1.2 hI))
          · simp only [fa_lt, fa_le, fa_eq] at c_5
            exact ok_r ⟨(Or.inl rfl), k_5, kj_5⟩
      · simp only [fa_lt, fa_le, fa_eq] at c_3
        exact ok_r ⟨(Or.inl rfl), k_5, kj_5⟩
    · simp only [fa_lt, fa_le, fa_eq] at c_2
      refine ok_bd (s_B_X5_close_0 N hN σ_3 τ_3 (k_3.1.2 hI)) (fun r_11 σ_11 τ_11 hp_11 => ?_)
      have k_11 : KS σ σ_11 := ks_tr k_3 hp_11.2.1
      have kj_11 : KJ τ τ_11 := kj_tr kj_3 hp_11.2.2
      have b_6 : r_11 = 0 ∨ r_11 = 1 := hp_11.1
      refine ok_cb b_6 ?_
      exact ok_r ⟨b_6, k_11, kj_11⟩
  · simp only [fa_lt, fa_le, fa_eq] at c_1
    refine ok_bd (s_B_X5_lengthenNumber_0 N hN σ_1 τ_1 r_1 (k_1.1.2 hI)) (fun r_13 σ_13 τ_13 hp_13 => ?_)
    have k_13 : KS σ σ_13 := ks_tr k_1 hp_13.2.1
    have kj_13 : KJ τ τ_13 := kj_tr kj_1 hp_13.2.2
    have b_7 : r_13 = 0 ∨ r_13 = 1 := hp_13.1
    refine ok_cb b_7 ?_
    exact ok_r ⟨b_7, k_13, kj_13⟩
set_option maxHeartbeats 2000000 in
theorem s_C_X5_read_27 (N : Nat) (hN : 4294967296 ≤ N) (rec_27 : gI → gJ → Int32 → Option (Int32 × gI × gJ)) (n_27 : Nat) (hrec_27 : ∀ (σ : gI) (τ : gJ) (x2 : Int32), IC σ → (0 ≤ x2.toInt) → (2147483647 - x2.toInt).toNat < n_27 → okp (Kq σ τ (fun _ => True)) (rec_27 σ τ x2)) (σ : gI) (τ : gJ) (x2 : Int32) (hI : IC σ) (h0_27 : 0 ≤ x2.toInt) (hm_27 : (2147483647 - x2.toInt).toNat < n_27 + 1) : okp (Kq σ τ (fun _ => True)) (C_X5_read_27 N rec_27 σ τ x2) := by
  unfold C_X5_read_27
  refine ok_ite (fun c_1 => ?_) (fun c_1 => ?_)
  · simp only [fa_lt, fa_le, fa_eq] at c_1
    exact ok_r ⟨trivial, (ks_rf σ), (kj_rf τ)⟩
  · simp only [fa_lt, fa_le, fa_eq] at c_1
    refine ok_bd (s_B_X7_isOver_0 N hN σ τ x2 ((ks_rf σ).1.2 hI)) (fun r_2 σ_2 τ_2 hp_2 => ?_)
    have k_2 : KS σ σ_2 := ks_eq (ks_rf σ) hp_2.2.1
    have kj_2 : KJ τ τ_2 := kj_eq (kj_rf τ) hp_2.2.2
    refine ok_ite (fun c_2 => ?_) (fun c_2 => ?_)
    · simp only [fa_lt, fa_le, fa_eq] at c_2
      refine ok_ite (fun c_3 => ?_) (fun c_3 => ?_)
      · simp only [fa_lt, fa_le, fa_eq] at c_3
        refine ok_bd (s_B_X5_takeBehindThing_0 N hN σ_2 τ_2 x2 (k_2.1.2 hI)) (fun r_5 σ_5 τ_5 hp_5 => ?_)
        have k_5 : KS σ σ_5 := ks_tr k_2 hp_5.2.1
        have kj_5 : KJ τ τ_5 := kj_tr kj_2 hp_5.2.2
        refine ok_ite (fun c_4 => ?_) (fun c_4 => ?_)
        · simp only [fa_lt, fa_le, fa_eq] at c_4
          exact ok_r ⟨trivial, k_5, kj_5⟩
        · simp only [fa_lt, fa_le, fa_eq] at c_4
          refine ok_nm (fun v_7 e_7 => ?_)
          exact ok_mono (fun _ _ _ h9 => ⟨h9.1, ks_tr k_5 h9.2.1, kj_tr kj_5 h9.2.2⟩) (hrec_27 σ_5 τ_5 v_7 (k_5.1.2 hI) (by have : (0 : Int32).toInt = 0 := rfl; have : (1 : Int32).toInt = 1 := rfl; have : (8 : Int32).toInt = 8 := rfl; have : (21 : Int32).toInt = 21 := rfl; have : (40 : Int32).toInt = 40 := rfl; have := i32_rng (σ_2 21 8); have := i32_rng (σ 21 8); have := i32_rng r_2; have := i32_rng r_5; have := i32_rng v_7; have := i32_rng x2; have : (σ_2 21 8).toInt = (σ 21 8).toInt := (by simp [up2, hp_2.2.1]); have u_v_7 : v_7.toInt = (x2).toInt + 1 := (by rw [e_7]; have q := ti_add (a := x2) (b := 1) (by rw [show (1 : Int32).toInt = 1 from rfl]; omega) (by rw [show (1 : Int32).toInt = 1 from rfl]; omega); rw [q, show (1 : Int32).toInt = 1 from rfl]); omega) (by have : (0 : Int32).toInt = 0 := rfl; have : (1 : Int32).toInt = 1 := rfl; have : (8 : Int32).toInt = 8 := rfl; have : (21 : Int32).toInt = 21 := rfl; have : (40 : Int32).toInt = 40 := rfl; have := i32_rng (σ_2 21 8); have := i32_rng (σ 21 8); have := i32_rng r_2; have := i32_rng r_5; have := i32_rng v_7; have := i32_rng x2; have : (σ_2 21 8).toInt = (σ 21 8).toInt := (by simp [up2, hp_2.2.1]); have u_v_7 : v_7.toInt = (x2).toInt + 1 := (by rw [e_7]; have q := ti_add (a := x2) (b := 1) (by rw [show (1 : Int32).toInt = 1 from rfl]; omega) (by rw [show (1 : Int32).toInt = 1 from rfl]; omega); rw [q, show (1 : Int32).toInt = 1 from rfl]); omega))
      · simp only [fa_lt, fa_le, fa_eq] at c_3
        refine ok_bd (s_B_X5_takeThing_0 N hN σ_2 τ_2 x2 (k_2.1.2 hI)) (fun r_8 σ_8 τ_8 hp_8 => ?_)
        have k_8 : KS σ σ_8 := ks_tr k_2 hp_8.2.1
        have kj_8 : KJ τ τ_8 := kj_tr kj_2 hp_8.2.2
        refine ok_ite (fun c_5 => ?_) (fun c_5 => ?_)
        · simp only [fa_lt, fa_le, fa_eq] at c_5
          exact ok_r ⟨trivial, k_8, kj_8⟩
        · simp only [fa_lt, fa_le, fa_eq] at c_5
          refine ok_nm (fun v_10 e_10 => ?_)
          exact ok_mono (fun _ _ _ h9 => ⟨h9.1, ks_tr k_8 h9.2.1, kj_tr kj_8 h9.2.2⟩) (hrec_27 σ_8 τ_8 v_10 (k_8.1.2 hI) (by have : (0 : Int32).toInt = 0 := rfl; have : (1 : Int32).toInt = 1 := rfl; have : (8 : Int32).toInt = 8 := rfl; have : (21 : Int32).toInt = 21 := rfl; have : (40 : Int32).toInt = 40 := rfl; have := i32_rng (σ_2 21 8); have := i32_rng (σ 21 8); have := i32_rng r_2; have := i32_rng r_8; have := i32_rng v_10; have := i32_rng x2; have : (σ_2 21 8).toInt = (σ 21 8).toInt := (by simp [up2, hp_2.2.1]); have u_v_10 : v_10.toInt = (x2).toInt + 1 := (by rw [e_10]; have q := ti_add (a := x2) (b := 1) (by rw [show (1 : Int32).toInt = 1 from rfl]; omega) (by rw [show (1 : Int32).toInt = 1 from rfl]; omega); rw [q, show (1 : Int32).toInt = 1 from rfl]); omega) (by have : (0 : Int32).toInt = 0 := rfl; have : (1 : Int32).toInt = 1 := rfl; have : (8 : Int32).toInt = 8 := rfl; have : (21 : Int32).toInt = 21 := rfl; have : (40 : Int32).toInt = 40 := rfl; have := i32_rng (σ_2 21 8); have := i32_rng (σ 21 8); have := i32_rng r_2; have := i32_rng r_8; have := i32_rng v_10; have := i32_rng x2; have : (σ_2 21 8).toInt = (σ 21 8).toInt := (by simp [up2, hp_2.2.1]); have u_v_10 : v_10.toInt = (x2).toInt + 1 := (by rw [e_10]; have q := ti_add (a := x2) (b := 1) (by rw [show (1 : Int32).toInt = 1 from rfl]; omega) (by rw [show (1 : Int32).toInt = 1 from rfl]; omega); rw [q, show (1 : Int32).toInt = 1 from rfl]); omega))
    · simp only [fa_lt, fa_le, fa_eq] at c_2
      refine ok_bd (s_B_X5_finish_0 N hN σ_2 τ_2 x2 (k_2.1.2 hI)) (fun r_11 σ_11 τ_11 hp_11 => ?_)
      have k_11 : KS σ σ_11 := ks_tr k_2 hp_11.2.1
      have kj_11 : KJ τ τ_11 := kj_tr kj_2 hp_11.2.2
      exact ok_r ⟨trivial, k_11, kj_11⟩
theorem s_H_X5_read_27 (N : Nat) (hN : 4294967296 ≤ N) : ∀ (n : Nat) (σ : gI) (τ : gJ) (x2 : Int32), IC σ → (0 ≤ x2.toInt) → (2147483647 - x2.toInt).toNat < n → okp (Kq σ τ (fun _ => True)) (H_X5_read_27 N n σ τ x2) := by
  intro n
  induction n with
  | zero => intro σ τ x2 _ _ hm; exact absurd hm (Nat.not_lt_zero _)
  | succ n ih =>
    intro σ τ x2 hI h0_27 hm
    exact s_C_X5_read_27 N hN (H_X5_read_27 N n) n ih σ τ x2 hI h0_27 hm
set_option maxHeartbeats 2000000 in
theorem s_B_X5_read_0 (N : Nat) (hN : 4294967296 ≤ N) (σ : gI) (τ : gJ) (hI : IC σ) : okp (Kq σ τ (fun _ => True)) (B_X5_read_0 N σ τ) := by
  unfold B_X5_read_0
  refine ok_bd (s_B_X5_clear_0 N hN σ τ ((ks_rf σ).1.2 hI)) (fun _ σ_1 τ_1 hp_1 => ?_)
  have k_1 : KS σ σ_1 := ks_tr (ks_rf σ) hp_1.2.1
  have kj_1 : KJ τ τ_1 := kj_tr (kj_rf τ) hp_1.2.2
  refine ok_bd (s_B_X7_showAtMost_0 N hN σ_1 τ_1 40 (k_1.1.2 hI)) (fun _ σ_2 τ_2 hp_2 => ?_)
  have k_2 : KS σ σ_2 := ks_tr k_1 hp_2.2.1
  have kj_2 : KJ τ τ_2 := kj_tr kj_1 hp_2.2.2
  refine ok_bd (s_B_X7_isOver_0 N hN σ_2 τ_2 0 (k_2.1.2 hI)) (fun r_3 σ_3 τ_3 hp_3 => ?_)
  have k_3 : KS σ σ_3 := ks_eq k_2 hp_3.2.1
  have kj_3 : KJ τ τ_3 := kj_eq kj_2 hp_3.2.2
  refine ok_ite (fun c_1 => ?_) (fun c_1 => ?_)
  · simp only [fa_lt, fa_le, fa_eq] at c_1
    exact ok_mono (fun _ _ _ h9 => ⟨h9.1, ks_tr k_3 h9.2.1, kj_tr kj_3 h9.2.2⟩) (s_H_X5_read_27 N hN N σ_3 τ_3 0 (k_3.1.2 hI) (by have : (0 : Int32).toInt = 0 := rfl; have := i32_rng r_3; omega) (by have : (0 : Int32).toInt = 0 := rfl; have := i32_rng r_3; omega))
  · simp only [fa_lt, fa_le, fa_eq] at c_1
    refine ok_bd (s_B_X5_addFact_0 N hN σ_3 τ_3 0 (k_3.1.2 hI)) (fun _ σ_5 τ_5 hp_5 => ?_)
    have k_5 : KS σ σ_5 := ks_tr k_3 hp_5.2.1
    have kj_5 : KJ τ τ_5 := kj_tr kj_3 hp_5.2.2
    exact ok_r ⟨trivial, k_5, kj_5⟩
set_option maxHeartbeats 2000000 in
theorem s_C_X5_copy_26 (N : Nat) (hN : 4294967296 ≤ N) (rec_26 : gI → gJ → Int32 → Option (Unit × gI × gJ)) (n_26 : Nat) (hrec_26 : ∀ (σ : gI) (τ : gJ) (x2 : Int32), IC σ → (0 ≤ x2.toInt) → (2147483647 - x2.toInt).toNat < n_26 → okp (Kq σ τ (fun _ => True)) (rec_26 σ τ x2)) (σ : gI) (τ : gJ) (x2 : Int32) (hI : IC σ) (h0_26 : 0 ≤ x2.toInt) (hm_26 : (2147483647 - x2.toInt).toNat < n_26 + 1) : okp (Kq σ τ (fun _ => True)) (C_X5_copy_26 N rec_26 σ τ x2) := by
  unfold C_X5_copy_26
  refine ok_ite (fun c_1 => ?_) (fun c_1 => ?_)
  · simp only [fa_lt, fa_le, fa_eq] at c_1
    exact ok_r ⟨trivial, (ks_rf σ), (kj_rf τ)⟩
  · simp only [fa_lt, fa_le, fa_eq] at c_1
    refine ok_ck (by have : (0 : Int32).toInt = 0 := rfl; have : (40 : Int32).toInt = 40 := rfl; have := i32_rng x2; omega) (fun j_2 hj_2 lj_2 => ?_)
    refine ok_nm (fun σ_3 e_3 => ?_)
    have k_3 : KS σ σ_3 := ks_up (ks_rf σ) e_3 (by omega) (by omega) (by omega)
    refine ok_nm (fun v_4 e_4 => ?_)
    exact ok_mono (fun _ _ _ h9 => ⟨h9.1, ks_tr k_3 h9.2.1, kj_tr (kj_rf τ) h9.2.2⟩) (hrec_26 σ_3 τ v_4 (k_3.1.2 hI) (by have : (0 : Int32).toInt = 0 := rfl; have : (1 : Int32).toInt = 1 := rfl; have : (40 : Int32).toInt = 40 := rfl; have := i32_rng v_4; have := i32_rng x2; have u_v_4 : v_4.toInt = (x2).toInt + 1 := (by rw [e_4]; have q := ti_add (a := x2) (b := 1) (by rw [show (1 : Int32).toInt = 1 from rfl]; omega) (by rw [show (1 : Int32).toInt = 1 from rfl]; omega); rw [q, show (1 : Int32).toInt = 1 from rfl]); omega) (by have : (1 : Int32).toInt = 1 := rfl; have : (40 : Int32).toInt = 40 := rfl; have := i32_rng v_4; have := i32_rng x2; have u_v_4 : v_4.toInt = (x2).toInt + 1 := (by rw [e_4]; have q := ti_add (a := x2) (b := 1) (by rw [show (1 : Int32).toInt = 1 from rfl]; omega) (by rw [show (1 : Int32).toInt = 1 from rfl]; omega); rw [q, show (1 : Int32).toInt = 1 from rfl]); omega))
theorem s_H_X5_copy_26 (N : Nat) (hN : 4294967296 ≤ N) : ∀ (n : Nat) (σ : gI) (τ : gJ) (x2 : Int32), IC σ → (0 ≤ x2.toInt) → (2147483647 - x2.toInt).toNat < n → okp (Kq σ τ (fun _ => True)) (H_X5_copy_26 N n σ τ x2) := by
  intro n
  induction n with
  | zero => intro σ τ x2 _ _ hm; exact absurd hm (Nat.not_lt_zero _)
  | succ n ih =>
    intro σ τ x2 hI h0_26 hm
    exact s_C_X5_copy_26 N hN (H_X5_copy_26 N n) n ih σ τ x2 hI h0_26 hm
set_option maxHeartbeats 2000000 in
theorem s_B_X5_copy_0 (N : Nat) (hN : 4294967296 ≤ N) (σ : gI) (τ : gJ) (hI : IC σ) : okp (Kq σ τ (fun _ => True)) (B_X5_copy_0 N σ τ) := by
  unfold B_X5_copy_0
  refine ok_nm (fun σ_1 e_1 => ?_)
  have k_1 : KS σ σ_1 := ks_up (ks_rf σ) e_1 (by omega) (by omega) (by omega)
  have b_1 : (σ_1 21 9) = 0 ∨ (σ_1 21 9) = 1 := (k_1.1.2 hI).2.2.2.1
  refine ok_cb b_1 ?_
  refine ok_nm (fun σ_3 e_3 => ?_)
  have k_3 : KS σ σ_3 := ks_upb k_1 e_3 (by omega) (by omega) b_1
  have b_2 : (σ_3 21 10) = 0 ∨ (σ_3 21 10) = 1 := (k_3.1.2 hI).2.2.2.2
  refine ok_cb b_2 ?_
  refine ok_nm (fun σ_5 e_5 => ?_)
  have k_5 : KS σ σ_5 := ks_upb k_3 e_5 (by omega) (by omega) b_2
  exact ok_mono (fun _ _ _ h9 => ⟨h9.1, ks_tr k_5 h9.2.1, kj_tr (kj_rf τ) h9.2.2⟩) (s_H_X5_copy_26 N hN N σ_5 τ 0 (k_5.1.2 hI) (by have : (0 : Int32).toInt = 0 := rfl; omega) (by have : (0 : Int32).toInt = 0 := rfl; omega))
set_option maxHeartbeats 2000000 in
theorem s_B_X11_rule_0 (N : Nat) (hN : 4294967296 ≤ N) (σ : gI) (τ : gJ) (hI : IC σ) : okp (Kq0 σ τ (fun _ => True)) (B_X11_rule_0 N σ τ) := by
  unfold B_X11_rule_0
  refine ok_bd (s_B_X5_read_0 N hN σ τ ((k0_rf σ).2 hI)) (fun r_1 σ_1 τ_1 hp_1 => ?_)
  have k_1 : K0 σ σ_1 := k0_tr (k0_rf σ) (ks_0 hp_1.2.1)
  have kj_1 : KJ τ τ_1 := kj_tr (kj_rf τ) hp_1.2.2
  refine ok_bd (s_B_X7_cut_0 N hN σ_1 τ_1 0 (k_1.2 hI)) (fun r_2 σ_2 τ_2 hp_2 => ?_)
  have k_2 : K0 σ σ_2 := k0_tr k_1 hp_2.2.1
  have kj_2 : KJ τ τ_2 := kj_tr kj_1 hp_2.2.2
  refine ok_ite (fun c_1 => ?_) (fun c_1 => ?_)
  · simp only [fa_lt, fa_le, fa_eq] at c_1
    exact ok_r ⟨trivial, k_2, kj_2⟩
  · simp only [fa_lt, fa_le, fa_eq] at c_1
    refine ok_bd (s_B_X5_copy_0 N hN σ_2 τ_2 (k_2.2 hI)) (fun _ σ_4 τ_4 hp_4 => ?_)
    have k_4 : K0 σ σ_4 := k0_tr k_2 (ks_0 hp_4.2.1)
    have kj_4 : KJ τ τ_4 := kj_tr kj_2 hp_4.2.2
    exact ok_r ⟨trivial, k_4, kj_4⟩
set_option maxHeartbeats 2000000 in
theorem s_B_X11_run_27 (N : Nat) (hN : 4294967296 ≤ N) (σ : gI) (τ : gJ) (x1 : Int32) (hI : IC σ) : okp (Kq σ τ (fun _ => True)) (B_X11_run_27 N σ τ x1) := by
  unfold B_X11_run_27
  refine ok_nm (fun v_1 e_1 => ?_)
  refine ok_nm (fun v_2 e_2 => ?_)
  refine ok_bd (s_B_X11_passMinutes_0 N hN σ τ x1 ((ks_rf σ).1.2 hI)) (fun _ σ_3 τ_3 hp_3 => ?_)
  have k_3 : KS σ σ_3 := ks_tr (ks_rf σ) hp_3.2.1
  have kj_3 : KJ τ τ_3 := kj_tr (kj_rf τ) hp_3.2.2
  refine ok_nm (fun v_4 e_4 => ?_)
  refine ok_bd (s_B_X4_tell__0 N hN σ_3 τ_3 v_4.toInt64 (((σ_3 30 10) &&& (v_2 ^^^ (-1))).toInt64) (k_3.1.2 hI)) (fun _ σ_5 τ_5 hp_5 => ?_)
  have k_5 : KS σ σ_5 := ks_tr k_3 hp_5.2.1
  have kj_5 : KJ τ τ_5 := kj_tr kj_3 hp_5.2.2
  refine ok_bd (s_B_J6_bitCount_0f7a4_0 N hN σ_5 τ_5 v_4 (k_5.1.2 hI)) (fun r_6 σ_6 τ_6 hp_6 => ?_)
  have k_6 : KS σ σ_6 := ks_eq k_5 hp_6.2.1
  have kj_6 : KJ τ τ_6 := kj_eq kj_5 hp_6.2.2
  exact ok_r ⟨trivial, k_6, kj_6⟩
set_option maxHeartbeats 2000000 in
theorem s_B_X11_run_0 (N : Nat) (hN : 4294967296 ≤ N) (σ : gI) (τ : gJ) (x1 : Int32) (hI : IC σ) : okp (Kq σ τ (fun _ => True)) (B_X11_run_0 N σ τ x1) := by
  unfold B_X11_run_0
  refine ok_ite (fun c_1 => ?_) (fun c_1 => ?_)
  · simp only [fa_lt, fa_le, fa_eq] at c_1
    exact ok_r ⟨trivial, (ks_rf σ), (kj_rf τ)⟩
  · simp only [fa_lt, fa_le, fa_eq] at c_1
    refine ok_ite (fun c_2 => ?_) (fun c_2 => ?_)
    · simp only [fa_lt, fa_le, fa_eq] at c_2
      refine ok_ite (fun c_3 => ?_) (fun c_3 => ?_)
      · simp only [fa_lt, fa_le, fa_eq] at c_3
        exact ok_mono (fun _ _ _ h9 => ⟨h9.1, ks_tr (ks_rf σ) h9.2.1, kj_tr (kj_rf τ) h9.2.2⟩) (s_B_X11_run_27 N hN σ τ x1 ((ks_rf σ).1.2 hI))
      · simp only [fa_lt, fa_le, fa_eq] at c_3
        refine ok_bd (s_B_X3_push_0 N hN 30 is_30 σ τ ((ks_rf σ).1.2 hI)) (fun _ σ_4 τ_4 hp_4 => ?_)
        have k_4 : KS σ σ_4 := ks_tr (ks_rf σ) hp_4.2.1
        have kj_4 : KJ τ τ_4 := kj_tr (kj_rf τ) hp_4.2.2
        exact ok_mono (fun _ _ _ h9 => ⟨h9.1, ks_tr k_4 h9.2.1, kj_tr kj_4 h9.2.2⟩) (s_B_X11_run_27 N hN σ_4 τ_4 x1 (k_4.1.2 hI))
    · simp only [fa_lt, fa_le, fa_eq] at c_2
      exact ok_r ⟨trivial, (ks_rf σ), (kj_rf τ)⟩
set_option maxHeartbeats 2000000 in
theorem s_B_X11_sail_0 (N : Nat) (hN : 4294967296 ≤ N) (σ : gI) (τ : gJ) (x1 : Int32) (x2 : Int32) (x3 : Int32) (x4 : Int32) (x5 : Int32) (hI : IC σ) : okp (Kq σ τ (fun _ => True)) (B_X11_sail_0 N σ τ x1 x2 x3 x4 x5) := by
  unfold B_X11_sail_0
  refine ok_bd (s_B_X8_has_0 N hN σ τ x1 ((ks_rf σ).1.2 hI)) (fun r_1 σ_1 τ_1 hp_1 => ?_)
  have k_1 : KS σ σ_1 := ks_eq (ks_rf σ) hp_1.2.1
  have kj_1 : KJ τ τ_1 := kj_eq (kj_rf τ) hp_1.2.2
  refine ok_ite (fun c_1 => ?_) (fun c_1 => ?_)
  · simp only [fa_lt, fa_le, fa_eq] at c_1
    exact ok_r ⟨trivial, k_1, kj_1⟩
  · simp only [fa_lt, fa_le, fa_eq] at c_1
    refine ok_bd (s_B_X11_isLoad_0 N hN σ_1 τ_1 x2 x3 (k_1.1.2 hI)) (fun r_3 σ_3 τ_3 hp_3 => ?_)
    have k_3 : KS σ σ_3 := ks_eq k_1 hp_3.2.1
    have kj_3 : KJ τ τ_3 := kj_eq kj_1 hp_3.2.2
    refine ok_ite (fun c_2 => ?_) (fun c_2 => ?_)
    · simp only [fa_lt, fa_le, fa_eq] at c_2
      exact ok_r ⟨trivial, k_3, kj_3⟩
    · simp only [fa_lt, fa_le, fa_eq] at c_2
      refine ok_bd (s_B_X11_isWait_0 N hN σ_3 τ_3 x4 (k_3.1.2 hI)) (fun r_5 σ_5 τ_5 hp_5 => ?_)
      have k_5 : KS σ σ_5 := ks_eq k_3 hp_5.2.1
      have kj_5 : KJ τ τ_5 := kj_eq kj_3 hp_5.2.2
      refine ok_ite (fun c_3 => ?_) (fun c_3 => ?_)
      · simp only [fa_lt, fa_le, fa_eq] at c_3
        exact ok_r ⟨trivial, k_5, kj_5⟩
      · simp only [fa_lt, fa_le, fa_eq] at c_3
        refine ok_bd (s_B_X8_isKitchen_0 N hN σ_5 τ_5 x5 (k_5.1.2 hI)) (fun r_7 σ_7 τ_7 hp_7 => ?_)
        have k_7 : KS σ σ_7 := ks_eq k_5 hp_7.2.1
        have kj_7 : KJ τ τ_7 := kj_eq kj_5 hp_7.2.2
        refine ok_ite (fun c_4 => ?_) (fun c_4 => ?_)
        · simp only [fa_lt, fa_le, fa_eq] at c_4
          exact ok_r ⟨trivial, k_7, kj_7⟩
        · simp only [fa_lt, fa_le, fa_eq] at c_4
          refine ok_bd (s_B_X11_sailed_0 N hN σ_7 τ_7 x1 x2 x3 x4 (k_7.1.2 hI)) (fun r_9 σ_9 τ_9 hp_9 => ?_)
          have k_9 : KS σ σ_9 := ks_tr k_7 hp_9.2.1
          have kj_9 : KJ τ τ_9 := kj_tr kj_7 hp_9.2.2
          refine ok_bd (s_B_X11_isIn_0 N hN σ_9 τ_9 r_9 x5 (k_9.1.2 hI)) (fun r_10 σ_10 τ_10 hp_10 => ?_)
          have k_10 : KS σ σ_10 := ks_eq k_9 hp_10.2.1
          have kj_10 : KJ τ τ_10 := kj_eq kj_9 hp_10.2.2
          refine ok_ite (fun c_5 => ?_) (fun c_5 => ?_)
          · simp only [fa_lt, fa_le, fa_eq] at c_5
            exact ok_r ⟨trivial, k_10, kj_10⟩
          · simp only [fa_lt, fa_le, fa_eq] at c_5
            refine ok_bd (s_B_X11_minutesOf_0 N hN σ_10 τ_10 r_9 (k_10.1.2 hI)) (fun r_12 σ_12 τ_12 hp_12 => ?_)
            have k_12 : KS σ σ_12 := ks_eq k_10 hp_12.2.1
            have kj_12 : KJ τ τ_12 := kj_eq kj_10 hp_12.2.2
            exact ok_r ⟨trivial, k_12, kj_12⟩
set_option maxHeartbeats 2000000 in
theorem s_B_X11_save_0 (N : Nat) (hN : 4294967296 ≤ N) (σ : gI) (τ : gJ) (x1 : Int32) (hI : IC σ) : okp (Kq σ τ (fun _ => True)) (B_X11_save_0 N σ τ x1) := by
  unfold B_X11_save_0
  refine ok_ite (fun c_1 => ?_) (fun c_1 => ?_)
  · simp only [fa_lt, fa_le, fa_eq] at c_1
    exact ok_r ⟨trivial, (ks_rf σ), (kj_rf τ)⟩
  · simp only [fa_lt, fa_le, fa_eq] at c_1
    refine ok_ite (fun c_2 => ?_) (fun c_2 => ?_)
    · simp only [fa_lt, fa_le, fa_eq] at c_2
      refine ok_bd (s_B_X9_startFrom_0 N hN σ τ x1 0 ((ks_rf σ).1.2 hI)) (fun _ σ_3 τ_3 hp_3 => ?_)
      have k_3 : KS σ σ_3 := ks_tr (ks_rf σ) hp_3.2.1
      have kj_3 : KJ τ τ_3 := kj_tr (kj_rf τ) hp_3.2.2
      refine ok_bd (s_B_X11_fewestTurns_0 N hN σ_3 τ_3 (-1) (k_3.1.2 hI)) (fun r_4 σ_4 τ_4 hp_4 => ?_)
      have k_4 : KS σ σ_4 := ks_tr k_3 hp_4.2.1
      have kj_4 : KJ τ τ_4 := kj_tr kj_3 hp_4.2.2
      exact ok_r ⟨trivial, k_4, kj_4⟩
    · simp only [fa_lt, fa_le, fa_eq] at c_2
      exact ok_r ⟨trivial, (ks_rf σ), (kj_rf τ)⟩
set_option maxHeartbeats 2000000 in
theorem s_B_X11_sheet_85 (N : Nat) (hN : 4294967296 ≤ N) (rec_47 : gI → gJ → Int32 → Int32 → Int32 → Int32 → Int32 → Int32 → Int32 → Option (Int32 × gI × gJ)) (n_47 : Nat) (hrec_47 : ∀ (σ : gI) (τ : gJ) (x1 : Int32) (x2 : Int32) (x3 : Int32) (x4 : Int32) (x5 : Int32) (x6 : Int32) (x7 : Int32), IC σ → (0 ≤ x7.toInt) → (2147483647 - x7.toInt).toNat < n_47 → okp (Kq σ τ (fun _ => True)) (rec_47 σ τ x1 x2 x3 x4 x5 x6 x7)) (σ : gI) (τ : gJ) (x1 : Int32) (x2 : Int32) (x3 : Int32) (x4 : Int32) (x5 : Int32) (x6 : Int32) (x7 : Int32) (y0 : Int32) (hI : IC σ) (h0_47 : 0 ≤ x7.toInt) (hm_47 : (2147483647 - x7.toInt).toNat < n_47 + 1) (hlt_47 : x7.toInt < 2147483647) : okp (Kq σ τ (fun _ => True)) (B_X11_sheet_85 N rec_47 σ τ x1 x2 x3 x4 x5 x6 x7 y0) := by
  unfold B_X11_sheet_85
  refine ok_bd (s_B_X6_setPaper_0 N hN 30 is_30 σ τ x7 y0 ((ks_rf σ).1.2 hI)) (fun _ σ_1 τ_1 hp_1 => ?_)
  have k_1 : KS σ σ_1 := ks_tr (ks_rf σ) hp_1.2.1
  have kj_1 : KJ τ τ_1 := kj_tr (kj_rf τ) hp_1.2.2
  refine ok_nm (fun v_2 e_2 => ?_)
  refine ok_nm (fun v_3 e_3 => ?_)
  exact ok_mono (fun _ _ _ h9 => ⟨h9.1, ks_tr k_1 h9.2.1, kj_tr kj_1 h9.2.2⟩) (hrec_47 σ_1 τ_1 x1 x2 x3 x4 x5 v_2 v_3 (k_1.1.2 hI) (by have : (0 : Int32).toInt = 0 := rfl; have : (1 : Int32).toInt = 1 := rfl; have := i32_rng v_3; have := i32_rng x7; have u_v_3 : v_3.toInt = (x7).toInt + 1 := (by rw [e_3]; have q := ti_add (a := x7) (b := 1) (by rw [show (1 : Int32).toInt = 1 from rfl]; omega) (by rw [show (1 : Int32).toInt = 1 from rfl]; omega); rw [q, show (1 : Int32).toInt = 1 from rfl]); omega) (by have : (1 : Int32).toInt = 1 := rfl; have := i32_rng v_3; have := i32_rng x7; have u_v_3 : v_3.toInt = (x7).toInt + 1 := (by rw [e_3]; have q := ti_add (a := x7) (b := 1) (by rw [show (1 : Int32).toInt = 1 from rfl]; omega) (by rw [show (1 : Int32).toInt = 1 from rfl]; omega); rw [q, show (1 : Int32).toInt = 1 from rfl]); omega))
set_option maxHeartbeats 2000000 in
theorem s_C_X11_sheet_47 (N : Nat) (hN : 4294967296 ≤ N) (rec_47 : gI → gJ → Int32 → Int32 → Int32 → Int32 → Int32 → Int32 → Int32 → Option (Int32 × gI × gJ)) (n_47 : Nat) (hrec_47 : ∀ (σ : gI) (τ : gJ) (x1 : Int32) (x2 : Int32) (x3 : Int32) (x4 : Int32) (x5 : Int32) (x6 : Int32) (x7 : Int32), IC σ → (0 ≤ x7.toInt) → (2147483647 - x7.toInt).toNat < n_47 → okp (Kq σ τ (fun _ => True)) (rec_47 σ τ x1 x2 x3 x4 x5 x6 x7)) (σ : gI) (τ : gJ) (x1 : Int32) (x2 : Int32) (x3 : Int32) (x4 : Int32) (x5 : Int32) (x6 : Int32) (x7 : Int32) (hI : IC σ) (h0_47 : 0 ≤ x7.toInt) (hm_47 : (2147483647 - x7.toInt).toNat < n_47 + 1) : okp (Kq σ τ (fun _ => True)) (C_X11_sheet_47 N rec_47 σ τ x1 x2 x3 x4 x5 x6 x7) := by
  unfold C_X11_sheet_47
  refine ok_ite (fun c_1 => ?_) (fun c_1 => ?_)
  · simp only [fa_lt, fa_le, fa_eq] at c_1
    refine ok_ite (fun c_2 => ?_) (fun c_2 => ?_)
    · simp only [fa_lt, fa_le, fa_eq] at c_2
      exact ok_r ⟨trivial, (ks_rf σ), (kj_rf τ)⟩
    · simp only [fa_lt, fa_le, fa_eq] at c_2
      exact ok_r ⟨trivial, (ks_rf σ), (kj_rf τ)⟩
  · simp only [fa_lt, fa_le, fa_eq] at c_1
    refine ok_ite (fun c_3 => ?_) (fun c_3 => ?_)
    · simp only [fa_lt, fa_le, fa_eq] at c_3
      refine ok_ite (fun c_4 => ?_) (fun c_4 => ?_)
      · simp only [fa_lt, fa_le, fa_eq] at c_4
        refine ok_bd (s_B_X11_entry_0 N hN σ τ x1 (x3 + (x7 * x4)) ((ks_rf σ).1.2 hI)) (fun r_5 σ_5 τ_5 hp_5 => ?_)
        have k_5 : KS σ σ_5 := ks_eq (ks_rf σ) hp_5.2.1
        have kj_5 : KJ τ τ_5 := kj_eq (kj_rf τ) hp_5.2.2
        exact ok_mono (fun _ _ _ h9 => ⟨h9.1, ks_tr k_5 h9.2.1, kj_tr kj_5 h9.2.2⟩) (s_B_X11_sheet_85 N hN rec_47 n_47 hrec_47 σ_5 τ_5 x1 x2 x3 x4 x5 x6 x7 r_5 (k_5.1.2 hI) (by have : (0 : Int32).toInt = 0 := rfl; have : (6 : Int32).toInt = 6 := rfl; have : (30 : Int32).toInt = 30 := rfl; have := i32_rng (σ 30 6); have := i32_rng x2; have := i32_rng x5; have := i32_rng x7; omega) (by have : (0 : Int32).toInt = 0 := rfl; have : (1 : Int32).toInt = 1 := rfl; have : (6 : Int32).toInt = 6 := rfl; have : (30 : Int32).toInt = 30 := rfl; have := i32_rng (σ 30 6); have := i32_rng x2; have := i32_rng x5; have := i32_rng x7; omega) (by have : (0 : Int32).toInt = 0 := rfl; have : (6 : Int32).toInt = 6 := rfl; have : (30 : Int32).toInt = 30 := rfl; have := i32_rng (σ 30 6); have := i32_rng x2; have := i32_rng x5; have := i32_rng x7; omega))
      · simp only [fa_lt, fa_le, fa_eq] at c_4
        exact ok_mono (fun _ _ _ h9 => ⟨h9.1, ks_tr (ks_rf σ) h9.2.1, kj_tr (kj_rf τ) h9.2.2⟩) (s_B_X11_sheet_85 N hN rec_47 n_47 hrec_47 σ τ x1 x2 x3 x4 x5 x6 x7 0 ((ks_rf σ).1.2 hI) (by have : (0 : Int32).toInt = 0 := rfl; have : (6 : Int32).toInt = 6 := rfl; have : (30 : Int32).toInt = 30 := rfl; have := i32_rng (σ 30 6); have := i32_rng x2; have := i32_rng x5; have := i32_rng x7; omega) (by have : (0 : Int32).toInt = 0 := rfl; have : (1 : Int32).toInt = 1 := rfl; have : (6 : Int32).toInt = 6 := rfl; have : (30 : Int32).toInt = 30 := rfl; have := i32_rng (σ 30 6); have := i32_rng x2; have := i32_rng x5; have := i32_rng x7; omega) (by have : (0 : Int32).toInt = 0 := rfl; have : (6 : Int32).toInt = 6 := rfl; have : (30 : Int32).toInt = 30 := rfl; have := i32_rng (σ 30 6); have := i32_rng x2; have := i32_rng x5; have := i32_rng x7; omega))
    · simp only [fa_lt, fa_le, fa_eq] at c_3
      exact ok_mono (fun _ _ _ h9 => ⟨h9.1, ks_tr (ks_rf σ) h9.2.1, kj_tr (kj_rf τ) h9.2.2⟩) (s_B_X11_sheet_85 N hN rec_47 n_47 hrec_47 σ τ x1 x2 x3 x4 x5 x6 x7 0 ((ks_rf σ).1.2 hI) (by have : (0 : Int32).toInt = 0 := rfl; have : (6 : Int32).toInt = 6 := rfl; have : (30 : Int32).toInt = 30 := rfl; have := i32_rng (σ 30 6); have := i32_rng x5; have := i32_rng x7; omega) (by have : (0 : Int32).toInt = 0 := rfl; have : (1 : Int32).toInt = 1 := rfl; have : (6 : Int32).toInt = 6 := rfl; have : (30 : Int32).toInt = 30 := rfl; have := i32_rng (σ 30 6); have := i32_rng x5; have := i32_rng x7; omega) (by have : (0 : Int32).toInt = 0 := rfl; have : (6 : Int32).toInt = 6 := rfl; have : (30 : Int32).toInt = 30 := rfl; have := i32_rng (σ 30 6); have := i32_rng x5; have := i32_rng x7; omega))
theorem s_H_X11_sheet_47 (N : Nat) (hN : 4294967296 ≤ N) : ∀ (n : Nat) (σ : gI) (τ : gJ) (x1 : Int32) (x2 : Int32) (x3 : Int32) (x4 : Int32) (x5 : Int32) (x6 : Int32) (x7 : Int32), IC σ → (0 ≤ x7.toInt) → (2147483647 - x7.toInt).toNat < n → okp (Kq σ τ (fun _ => True)) (H_X11_sheet_47 N n σ τ x1 x2 x3 x4 x5 x6 x7) := by
  intro n
  induction n with
  | zero => intro σ τ x1 x2 x3 x4 x5 x6 x7 _ _ hm; exact absurd hm (Nat.not_lt_zero _)
  | succ n ih =>
    intro σ τ x1 x2 x3 x4 x5 x6 x7 hI h0_47 hm
    exact s_C_X11_sheet_47 N hN (H_X11_sheet_47 N n) n ih σ τ x1 x2 x3 x4 x5 x6 x7 hI h0_47 hm
set_option maxHeartbeats 2000000 in
theorem s_B_X11_sheet_0 (N : Nat) (hN : 4294967296 ≤ N) (σ : gI) (τ : gJ) (x1 : Int32) (x2 : Int32) (x3 : Int32) (x4 : Int32) (hI : IC σ) : okp (Kq σ τ (fun _ => True)) (B_X11_sheet_0 N σ τ x1 x2 x3 x4) := by
  unfold B_X11_sheet_0
  refine ok_ite (fun c_1 => ?_) (fun c_1 => ?_)
  · simp only [fa_lt, fa_le, fa_eq] at c_1
    exact ok_r ⟨trivial, (ks_rf σ), (kj_rf τ)⟩
  · simp only [fa_lt, fa_le, fa_eq] at c_1
    refine ok_ite (fun c_2 => ?_) (fun c_2 => ?_)
    · simp only [fa_lt, fa_le, fa_eq] at c_2
      exact ok_r ⟨trivial, (ks_rf σ), (kj_rf τ)⟩
    · simp only [fa_lt, fa_le, fa_eq] at c_2
      refine ok_ite (fun c_3 => ?_) (fun c_3 => ?_)
      · simp only [fa_lt, fa_le, fa_eq] at c_3
        refine ok_ite (fun c_4 => ?_) (fun c_4 => ?_)
        · simp only [fa_lt, fa_le, fa_eq] at c_4
          exact ok_mono (fun _ _ _ h9 => ⟨h9.1, ks_tr (ks_rf σ) h9.2.1, kj_tr (kj_rf τ) h9.2.2⟩) (s_H_X11_sheet_47 N hN N σ τ x1 x2 x3 x4 1 0 0 ((ks_rf σ).1.2 hI) (by have : (0 : Int32).toInt = 0 := rfl; have : (3 : Int32).toInt = 3 := rfl; have : (6 : Int32).toInt = 6 := rfl; have := i32_rng x1; have := i32_rng x2; omega) (by have : (0 : Int32).toInt = 0 := rfl; have : (3 : Int32).toInt = 3 := rfl; have : (6 : Int32).toInt = 6 := rfl; have := i32_rng x1; have := i32_rng x2; omega))
        · simp only [fa_lt, fa_le, fa_eq] at c_4
          refine ok_ite (fun c_5 => ?_) (fun c_5 => ?_)
          · simp only [fa_lt, fa_le, fa_eq] at c_5
            exact ok_mono (fun _ _ _ h9 => ⟨h9.1, ks_tr (ks_rf σ) h9.2.1, kj_tr (kj_rf τ) h9.2.2⟩) (s_H_X11_sheet_47 N hN N σ τ x1 x2 x3 x4 0 0 0 ((ks_rf σ).1.2 hI) (by have : (0 : Int32).toInt = 0 := rfl; have : (3 : Int32).toInt = 3 := rfl; have : (6 : Int32).toInt = 6 := rfl; have := i32_rng x1; have := i32_rng x2; omega) (by have : (0 : Int32).toInt = 0 := rfl; have : (3 : Int32).toInt = 3 := rfl; have : (6 : Int32).toInt = 6 := rfl; have := i32_rng x1; have := i32_rng x2; omega))
          · simp only [fa_lt, fa_le, fa_eq] at c_5
            exact ok_r ⟨trivial, (ks_rf σ), (kj_rf τ)⟩
      · simp only [fa_lt, fa_le, fa_eq] at c_3
        exact ok_r ⟨trivial, (ks_rf σ), (kj_rf τ)⟩
set_option maxHeartbeats 2000000 in
theorem s_C_X11_soonest_50 (N : Nat) (hN : 4294967296 ≤ N) (rec_35 : gI → gJ → Int32 → Int32 → Int32 → Int32 → Int32 → Int32 → Int32 → Option (Int32 × gI × gJ)) (n_35 : Nat) (hrec_35 : ∀ (σ : gI) (τ : gJ) (x1 : Int32) (x2 : Int32) (x3 : Int32) (x4 : Int32) (x5 : Int32) (x6 : Int32) (x7 : Int32), IC σ → (0 ≤ x7.toInt) → (2147483647 - x7.toInt).toNat < n_35 → okp (Kq σ τ (fun _ => True)) (rec_35 σ τ x1 x2 x3 x4 x5 x6 x7)) (rec_50 : gI → gJ → Int32 → Int32 → Int32 → Int32 → Int32 → Int32 → Int32 → Int32 → Option (Int32 × gI × gJ)) (n_50 : Nat) (hrec_50 : ∀ (σ : gI) (τ : gJ) (x1 : Int32) (x2 : Int32) (x3 : Int32) (x4 : Int32) (x5 : Int32) (x6 : Int32) (x7 : Int32) (x8 : Int32), IC σ → (0 ≤ x7.toInt) → ((2147483647 - x7.toInt).toNat < n_35 + 1) → (x7.toInt < 2147483647) → (0 ≤ x8.toInt) → (2147483647 - x8.toInt).toNat < n_50 → okp (Kq σ τ (fun _ => True)) (rec_50 σ τ x1 x2 x3 x4 x5 x6 x7 x8)) (σ : gI) (τ : gJ) (x1 : Int32) (x2 : Int32) (x3 : Int32) (x4 : Int32) (x5 : Int32) (x6 : Int32) (x7 : Int32) (x8 : Int32) (hI : IC σ) (h0_35 : 0 ≤ x7.toInt) (hm_35 : (2147483647 - x7.toInt).toNat < n_35 + 1) (hlt_35 : x7.toInt < 2147483647) (h0_50 : 0 ≤ x8.toInt) (hm_50 : (2147483647 - x8.toInt).toNat < n_50 + 1) : okp (Kq σ τ (fun _ => True)) (C_X11_soonest_50 N rec_35 rec_50 σ τ x1 x2 x3 x4 x5 x6 x7 x8) := by
  unfold C_X11_soonest_50
  refine ok_ite (fun c_1 => ?_) (fun c_1 => ?_)
  · simp only [fa_lt, fa_le, fa_eq] at c_1
    refine ok_nm (fun v_2 e_2 => ?_)
    exact ok_mono (fun _ _ _ h9 => ⟨h9.1, ks_tr (ks_rf σ) h9.2.1, kj_tr (kj_rf τ) h9.2.2⟩) (hrec_35 σ τ x1 x2 x3 x4 x5 x6 v_2 ((ks_rf σ).1.2 hI) (by have : (0 : Int32).toInt = 0 := rfl; have : (1 : Int32).toInt = 1 := rfl; have : (30 : Int32).toInt = 30 := rfl; have := i32_rng v_2; have := i32_rng x7; have := i32_rng x8; have u_v_2 : v_2.toInt = (x7).toInt + 1 := (by rw [e_2]; have q := ti_add (a := x7) (b := 1) (by rw [show (1 : Int32).toInt = 1 from rfl]; omega) (by rw [show (1 : Int32).toInt = 1 from rfl]; omega); rw [q, show (1 : Int32).toInt = 1 from rfl]); omega) (by have : (1 : Int32).toInt = 1 := rfl; have : (30 : Int32).toInt = 30 := rfl; have := i32_rng v_2; have := i32_rng x7; have := i32_rng x8; have u_v_2 : v_2.toInt = (x7).toInt + 1 := (by rw [e_2]; have q := ti_add (a := x7) (b := 1) (by rw [show (1 : Int32).toInt = 1 from rfl]; omega) (by rw [show (1 : Int32).toInt = 1 from rfl]; omega); rw [q, show (1 : Int32).toInt = 1 from rfl]); omega))
  · simp only [fa_lt, fa_le, fa_eq] at c_1
    refine ok_ite (fun c_2 => ?_) (fun c_2 => ?_)
    · simp only [fa_lt, fa_le, fa_eq] at c_2
      refine ok_nm (fun v_4 e_4 => ?_)
      exact ok_mono (fun _ _ _ h9 => ⟨h9.1, ks_tr (ks_rf σ) h9.2.1, kj_tr (kj_rf τ) h9.2.2⟩) (hrec_35 σ τ x1 x2 x3 x4 x5 x6 v_4 ((ks_rf σ).1.2 hI) (by have : (0 : Int32).toInt = 0 := rfl; have : (1 : Int32).toInt = 1 := rfl; have : (30 : Int32).toInt = 30 := rfl; have := i32_rng v_4; have := i32_rng x4; have := i32_rng x7; have := i32_rng x8; have u_v_4 : v_4.toInt = (x7).toInt + 1 := (by rw [e_4]; have q := ti_add (a := x7) (b := 1) (by rw [show (1 : Int32).toInt = 1 from rfl]; omega) (by rw [show (1 : Int32).toInt = 1 from rfl]; omega); rw [q, show (1 : Int32).toInt = 1 from rfl]); omega) (by have : (1 : Int32).toInt = 1 := rfl; have : (30 : Int32).toInt = 30 := rfl; have := i32_rng v_4; have := i32_rng x4; have := i32_rng x7; have := i32_rng x8; have u_v_4 : v_4.toInt = (x7).toInt + 1 := (by rw [e_4]; have q := ti_add (a := x7) (b := 1) (by rw [show (1 : Int32).toInt = 1 from rfl]; omega) (by rw [show (1 : Int32).toInt = 1 from rfl]; omega); rw [q, show (1 : Int32).toInt = 1 from rfl]); omega))
    · simp only [fa_lt, fa_le, fa_eq] at c_2
      refine ok_ite (fun c_3 => ?_) (fun c_3 => ?_)
      · simp only [fa_lt, fa_le, fa_eq] at c_3
        refine ok_nm (fun v_6 e_6 => ?_)
        exact ok_mono (fun _ _ _ h9 => ⟨h9.1, ks_tr (ks_rf σ) h9.2.1, kj_tr (kj_rf τ) h9.2.2⟩) (hrec_35 σ τ x1 x2 x3 x4 x5 x6 v_6 ((ks_rf σ).1.2 hI) (by have : (0 : Int32).toInt = 0 := rfl; have : (1 : Int32).toInt = 1 := rfl; have : (30 : Int32).toInt = 30 := rfl; have := i32_rng v_6; have := i32_rng x3; have := i32_rng x4; have := i32_rng x7; have := i32_rng x8; have u_v_6 : v_6.toInt = (x7).toInt + 1 := (by rw [e_6]; have q := ti_add (a := x7) (b := 1) (by rw [show (1 : Int32).toInt = 1 from rfl]; omega) (by rw [show (1 : Int32).toInt = 1 from rfl]; omega); rw [q, show (1 : Int32).toInt = 1 from rfl]); omega) (by have : (1 : Int32).toInt = 1 := rfl; have : (30 : Int32).toInt = 30 := rfl; have := i32_rng v_6; have := i32_rng x3; have := i32_rng x4; have := i32_rng x7; have := i32_rng x8; have u_v_6 : v_6.toInt = (x7).toInt + 1 := (by rw [e_6]; have q := ti_add (a := x7) (b := 1) (by rw [show (1 : Int32).toInt = 1 from rfl]; omega) (by rw [show (1 : Int32).toInt = 1 from rfl]; omega); rw [q, show (1 : Int32).toInt = 1 from rfl]); omega))
      · simp only [fa_lt, fa_le, fa_eq] at c_3
        refine ok_bd (s_B_X11_sailed_0 N hN σ τ x7 x1 x2 x8 ((ks_rf σ).1.2 hI)) (fun r_7 σ_7 τ_7 hp_7 => ?_)
        have k_7 : KS σ σ_7 := ks_tr (ks_rf σ) hp_7.2.1
        have kj_7 : KJ τ τ_7 := kj_tr (kj_rf τ) hp_7.2.2
        refine ok_bd (s_B_X11_isIn_0 N hN σ_7 τ_7 r_7 x3 (k_7.1.2 hI)) (fun r_8 σ_8 τ_8 hp_8 => ?_)
        have k_8 : KS σ σ_8 := ks_eq k_7 hp_8.2.1
        have kj_8 : KJ τ τ_8 := kj_eq kj_7 hp_8.2.2
        refine ok_ite (fun c_4 => ?_) (fun c_4 => ?_)
        · simp only [fa_lt, fa_le, fa_eq] at c_4
          refine ok_nm (fun v_10 e_10 => ?_)
          exact ok_mono (fun _ _ _ h9 => ⟨h9.1, ks_tr k_8 h9.2.1, kj_tr kj_8 h9.2.2⟩) (hrec_50 σ_8 τ_8 x1 x2 x3 x4 x5 x6 x7 v_10 (k_8.1.2 hI) (by have : (0 : Int32).toInt = 0 := rfl; have : (30 : Int32).toInt = 30 := rfl; have := i32_rng r_8; have := i32_rng x3; have := i32_rng x4; have := i32_rng x7; have := i32_rng x8; omega) (by have : (0 : Int32).toInt = 0 := rfl; have : (1 : Int32).toInt = 1 := rfl; have : (30 : Int32).toInt = 30 := rfl; have := i32_rng r_8; have := i32_rng x3; have := i32_rng x4; have := i32_rng x7; have := i32_rng x8; omega) (by have : (0 : Int32).toInt = 0 := rfl; have : (30 : Int32).toInt = 30 := rfl; have := i32_rng r_8; have := i32_rng x3; have := i32_rng x4; have := i32_rng x7; have := i32_rng x8; omega) (by have : (0 : Int32).toInt = 0 := rfl; have : (1 : Int32).toInt = 1 := rfl; have : (30 : Int32).toInt = 30 := rfl; have := i32_rng r_8; have := i32_rng v_10; have := i32_rng x3; have := i32_rng x4; have := i32_rng x7; have := i32_rng x8; have u_v_10 : v_10.toInt = (x8).toInt + 1 := (by rw [e_10]; have q := ti_add (a := x8) (b := 1) (by rw [show (1 : Int32).toInt = 1 from rfl]; omega) (by rw [show (1 : Int32).toInt = 1 from rfl]; omega); rw [q, show (1 : Int32).toInt = 1 from rfl]); omega) (by have : (0 : Int32).toInt = 0 := rfl; have : (1 : Int32).toInt = 1 := rfl; have : (30 : Int32).toInt = 30 := rfl; have := i32_rng r_8; have := i32_rng v_10; have := i32_rng x3; have := i32_rng x4; have := i32_rng x7; have := i32_rng x8; have u_v_10 : v_10.toInt = (x8).toInt + 1 := (by rw [e_10]; have q := ti_add (a := x8) (b := 1) (by rw [show (1 : Int32).toInt = 1 from rfl]; omega) (by rw [show (1 : Int32).toInt = 1 from rfl]; omega); rw [q, show (1 : Int32).toInt = 1 from rfl]); omega))
        · simp only [fa_lt, fa_le, fa_eq] at c_4
          refine ok_bd (s_B_X11_minutesOf_0 N hN σ_8 τ_8 r_7 (k_8.1.2 hI)) (fun r_11 σ_11 τ_11 hp_11 => ?_)
          have k_11 : KS σ σ_11 := ks_eq k_8 hp_11.2.1
          have kj_11 : KJ τ τ_11 := kj_eq kj_8 hp_11.2.2
          refine ok_ite (fun c_5 => ?_) (fun c_5 => ?_)
          · simp only [fa_lt, fa_le, fa_eq] at c_5
            refine ok_nm (fun v_13 e_13 => ?_)
            exact ok_mono (fun _ _ _ h9 => ⟨h9.1, ks_tr k_11 h9.2.1, kj_tr kj_11 h9.2.2⟩) (hrec_50 σ_11 τ_11 x1 x2 x3 x4 x5 x6 x7 v_13 (k_11.1.2 hI) (by have : (0 : Int32).toInt = 0 := rfl; have : (30 : Int32).toInt = 30 := rfl; have := i32_rng r_11; have := i32_rng r_8; have := i32_rng x3; have := i32_rng x4; have := i32_rng x7; have := i32_rng x8; omega) (by have : (0 : Int32).toInt = 0 := rfl; have : (1 : Int32).toInt = 1 := rfl; have : (30 : Int32).toInt = 30 := rfl; have := i32_rng r_11; have := i32_rng r_8; have := i32_rng x3; have := i32_rng x4; have := i32_rng x7; have := i32_rng x8; omega) (by have : (0 : Int32).toInt = 0 := rfl; have : (30 : Int32).toInt = 30 := rfl; have := i32_rng r_11; have := i32_rng r_8; have := i32_rng x3; have := i32_rng x4; have := i32_rng x7; have := i32_rng x8; omega) (by have : (0 : Int32).toInt = 0 := rfl; have : (1 : Int32).toInt = 1 := rfl; have : (30 : Int32).toInt = 30 := rfl; have := i32_rng r_11; have := i32_rng r_8; have := i32_rng v_13; have := i32_rng x3; have := i32_rng x4; have := i32_rng x7; have := i32_rng x8; have u_v_13 : v_13.toInt = (x8).toInt + 1 := (by rw [e_13]; have q := ti_add (a := x8) (b := 1) (by rw [show (1 : Int32).toInt = 1 from rfl]; omega) (by rw [show (1 : Int32).toInt = 1 from rfl]; omega); rw [q, show (1 : Int32).toInt = 1 from rfl]); omega) (by have : (0 : Int32).toInt = 0 := rfl; have : (1 : Int32).toInt = 1 := rfl; have : (30 : Int32).toInt = 30 := rfl; have := i32_rng r_11; have := i32_rng r_8; have := i32_rng v_13; have := i32_rng x3; have := i32_rng x4; have := i32_rng x7; have := i32_rng x8; have u_v_13 : v_13.toInt = (x8).toInt + 1 := (by rw [e_13]; have q := ti_add (a := x8) (b := 1) (by rw [show (1 : Int32).toInt = 1 from rfl]; omega) (by rw [show (1 : Int32).toInt = 1 from rfl]; omega); rw [q, show (1 : Int32).toInt = 1 from rfl]); omega))
          · simp only [fa_lt, fa_le, fa_eq] at c_5
            refine ok_bd (s_B_X11_minutesOf_0 N hN σ_11 τ_11 r_7 (k_11.1.2 hI)) (fun r_14 σ_14 τ_14 hp_14 => ?_)
            have k_14 : KS σ σ_14 := ks_eq k_11 hp_14.2.1
            have kj_14 : KJ τ τ_14 := kj_eq kj_11 hp_14.2.2
            refine ok_nm (fun v_15 e_15 => ?_)
            exact ok_mono (fun _ _ _ h9 => ⟨h9.1, ks_tr k_14 h9.2.1, kj_tr kj_14 h9.2.2⟩) (hrec_50 σ_14 τ_14 x1 x2 x3 r_14 x7 x8 x7 v_15 (k_14.1.2 hI) (by have : (0 : Int32).toInt = 0 := rfl; have : (30 : Int32).toInt = 30 := rfl; have := i32_rng r_11; have := i32_rng r_8; have := i32_rng x3; have := i32_rng x4; have := i32_rng x7; have := i32_rng x8; omega) (by have : (0 : Int32).toInt = 0 := rfl; have : (1 : Int32).toInt = 1 := rfl; have : (30 : Int32).toInt = 30 := rfl; have := i32_rng r_11; have := i32_rng r_8; have := i32_rng x3; have := i32_rng x4; have := i32_rng x7; have := i32_rng x8; omega) (by have : (0 : Int32).toInt = 0 := rfl; have : (30 : Int32).toInt = 30 := rfl; have := i32_rng r_11; have := i32_rng r_8; have := i32_rng x3; have := i32_rng x4; have := i32_rng x7; have := i32_rng x8; omega) (by have : (0 : Int32).toInt = 0 := rfl; have : (1 : Int32).toInt = 1 := rfl; have : (30 : Int32).toInt = 30 := rfl; have := i32_rng r_11; have := i32_rng r_8; have := i32_rng v_15; have := i32_rng x3; have := i32_rng x4; have := i32_rng x7; have := i32_rng x8; have u_v_15 : v_15.toInt = (x8).toInt + 1 := (by rw [e_15]; have q := ti_add (a := x8) (b := 1) (by rw [show (1 : Int32).toInt = 1 from rfl]; omega) (by rw [show (1 : Int32).toInt = 1 from rfl]; omega); rw [q, show (1 : Int32).toInt = 1 from rfl]); omega) (by have : (0 : Int32).toInt = 0 := rfl; have : (1 : Int32).toInt = 1 := rfl; have : (30 : Int32).toInt = 30 := rfl; have := i32_rng r_11; have := i32_rng r_8; have := i32_rng v_15; have := i32_rng x3; have := i32_rng x4; have := i32_rng x7; have := i32_rng x8; have u_v_15 : v_15.toInt = (x8).toInt + 1 := (by rw [e_15]; have q := ti_add (a := x8) (b := 1) (by rw [show (1 : Int32).toInt = 1 from rfl]; omega) (by rw [show (1 : Int32).toInt = 1 from rfl]; omega); rw [q, show (1 : Int32).toInt = 1 from rfl]); omega))
theorem s_H_X11_soonest_50 (N : Nat) (hN : 4294967296 ≤ N) (rec_35 : gI → gJ → Int32 → Int32 → Int32 → Int32 → Int32 → Int32 → Int32 → Option (Int32 × gI × gJ)) (n_35 : Nat) (hrec_35 : ∀ (σ : gI) (τ : gJ) (x1 : Int32) (x2 : Int32) (x3 : Int32) (x4 : Int32) (x5 : Int32) (x6 : Int32) (x7 : Int32), IC σ → (0 ≤ x7.toInt) → (2147483647 - x7.toInt).toNat < n_35 → okp (Kq σ τ (fun _ => True)) (rec_35 σ τ x1 x2 x3 x4 x5 x6 x7)) : ∀ (n : Nat) (σ : gI) (τ : gJ) (x1 : Int32) (x2 : Int32) (x3 : Int32) (x4 : Int32) (x5 : Int32) (x6 : Int32) (x7 : Int32) (x8 : Int32), IC σ → (0 ≤ x7.toInt) → ((2147483647 - x7.toInt).toNat < n_35 + 1) → (x7.toInt < 2147483647) → (0 ≤ x8.toInt) → (2147483647 - x8.toInt).toNat < n → okp (Kq σ τ (fun _ => True)) (H_X11_soonest_50 N rec_35 n σ τ x1 x2 x3 x4 x5 x6 x7 x8) := by
  intro n
  induction n with
  | zero => intro σ τ x1 x2 x3 x4 x5 x6 x7 x8 _ _ _ _ _ hm; exact absurd hm (Nat.not_lt_zero _)
  | succ n ih =>
    intro σ τ x1 x2 x3 x4 x5 x6 x7 x8 hI h0_35 hm_35 hlt_35 h0_50 hm
    exact s_C_X11_soonest_50 N hN rec_35 n_35 hrec_35 (H_X11_soonest_50 N rec_35 n) n ih σ τ x1 x2 x3 x4 x5 x6 x7 x8 hI h0_35 hm_35 hlt_35 h0_50 hm
set_option maxHeartbeats 2000000 in
theorem s_C_X11_soonest_35 (N : Nat) (hN : 4294967296 ≤ N) (rec_35 : gI → gJ → Int32 → Int32 → Int32 → Int32 → Int32 → Int32 → Int32 → Option (Int32 × gI × gJ)) (n_35 : Nat) (hrec_35 : ∀ (σ : gI) (τ : gJ) (x1 : Int32) (x2 : Int32) (x3 : Int32) (x4 : Int32) (x5 : Int32) (x6 : Int32) (x7 : Int32), IC σ → (0 ≤ x7.toInt) → (2147483647 - x7.toInt).toNat < n_35 → okp (Kq σ τ (fun _ => True)) (rec_35 σ τ x1 x2 x3 x4 x5 x6 x7)) (σ : gI) (τ : gJ) (x1 : Int32) (x2 : Int32) (x3 : Int32) (x4 : Int32) (x5 : Int32) (x6 : Int32) (x7 : Int32) (hI : IC σ) (h0_35 : 0 ≤ x7.toInt) (hm_35 : (2147483647 - x7.toInt).toNat < n_35 + 1) : okp (Kq σ τ (fun _ => True)) (C_X11_soonest_35 N rec_35 σ τ x1 x2 x3 x4 x5 x6 x7) := by
  unfold C_X11_soonest_35
  refine ok_ite (fun c_1 => ?_) (fun c_1 => ?_)
  · simp only [fa_lt, fa_le, fa_eq] at c_1
    refine ok_ite (fun c_2 => ?_) (fun c_2 => ?_)
    · simp only [fa_lt, fa_le, fa_eq] at c_2
      exact ok_r ⟨trivial, (ks_rf σ), (kj_rf τ)⟩
    · simp only [fa_lt, fa_le, fa_eq] at c_2
      refine ok_bd (s_B_X4_tell__0 N hN σ τ x5.toInt64 x6.toInt64 ((ks_rf σ).1.2 hI)) (fun _ σ_3 τ_3 hp_3 => ?_)
      have k_3 : KS σ σ_3 := ks_tr (ks_rf σ) hp_3.2.1
      have kj_3 : KJ τ τ_3 := kj_tr (kj_rf τ) hp_3.2.2
      exact ok_r ⟨trivial, k_3, kj_3⟩
  · simp only [fa_lt, fa_le, fa_eq] at c_1
    exact ok_mono (fun _ _ _ h9 => ⟨h9.1, ks_tr (ks_rf σ) h9.2.1, kj_tr (kj_rf τ) h9.2.2⟩) (s_H_X11_soonest_50 N hN rec_35 n_35 hrec_35 N σ τ x1 x2 x3 x4 x5 x6 x7 0 ((ks_rf σ).1.2 hI) (by have : (0 : Int32).toInt = 0 := rfl; have : (3 : Int32).toInt = 3 := rfl; have : (6 : Int32).toInt = 6 := rfl; have := i32_rng (σ 3 6); have := i32_rng x7; omega) (by have : (1 : Int32).toInt = 1 := rfl; have : (3 : Int32).toInt = 3 := rfl; have : (6 : Int32).toInt = 6 := rfl; have := i32_rng (σ 3 6); have := i32_rng x7; omega) (by have : (3 : Int32).toInt = 3 := rfl; have : (6 : Int32).toInt = 6 := rfl; have := i32_rng (σ 3 6); have := i32_rng x7; omega) (by have : (0 : Int32).toInt = 0 := rfl; have : (3 : Int32).toInt = 3 := rfl; have : (6 : Int32).toInt = 6 := rfl; have := i32_rng (σ 3 6); have := i32_rng x7; omega) (by have : (0 : Int32).toInt = 0 := rfl; have : (3 : Int32).toInt = 3 := rfl; have : (6 : Int32).toInt = 6 := rfl; have := i32_rng (σ 3 6); have := i32_rng x7; omega))
theorem s_H_X11_soonest_35 (N : Nat) (hN : 4294967296 ≤ N) : ∀ (n : Nat) (σ : gI) (τ : gJ) (x1 : Int32) (x2 : Int32) (x3 : Int32) (x4 : Int32) (x5 : Int32) (x6 : Int32) (x7 : Int32), IC σ → (0 ≤ x7.toInt) → (2147483647 - x7.toInt).toNat < n → okp (Kq σ τ (fun _ => True)) (H_X11_soonest_35 N n σ τ x1 x2 x3 x4 x5 x6 x7) := by
  intro n
  induction n with
  | zero => intro σ τ x1 x2 x3 x4 x5 x6 x7 _ _ hm; exact absurd hm (Nat.not_lt_zero _)
  | succ n ih =>
    intro σ τ x1 x2 x3 x4 x5 x6 x7 hI h0_35 hm
    exact s_C_X11_soonest_35 N hN (H_X11_soonest_35 N n) n ih σ τ x1 x2 x3 x4 x5 x6 x7 hI h0_35 hm
set_option maxHeartbeats 2000000 in
theorem s_B_X11_soonest_0 (N : Nat) (hN : 4294967296 ≤ N) (σ : gI) (τ : gJ) (x1 : Int32) (x2 : Int32) (x3 : Int32) (hI : IC σ) : okp (Kq σ τ (fun _ => True)) (B_X11_soonest_0 N σ τ x1 x2 x3) := by
  unfold B_X11_soonest_0
  refine ok_bd (s_B_X11_isLoad_0 N hN σ τ x1 x2 ((ks_rf σ).1.2 hI)) (fun r_1 σ_1 τ_1 hp_1 => ?_)
  have k_1 : KS σ σ_1 := ks_eq (ks_rf σ) hp_1.2.1
  have kj_1 : KJ τ τ_1 := kj_eq (kj_rf τ) hp_1.2.2
  refine ok_ite (fun c_1 => ?_) (fun c_1 => ?_)
  · simp only [fa_lt, fa_le, fa_eq] at c_1
    exact ok_r ⟨trivial, k_1, kj_1⟩
  · simp only [fa_lt, fa_le, fa_eq] at c_1
    refine ok_bd (s_B_X8_isKitchen_0 N hN σ_1 τ_1 x3 (k_1.1.2 hI)) (fun r_3 σ_3 τ_3 hp_3 => ?_)
    have k_3 : KS σ σ_3 := ks_eq k_1 hp_3.2.1
    have kj_3 : KJ τ τ_3 := kj_eq kj_1 hp_3.2.2
    refine ok_ite (fun c_2 => ?_) (fun c_2 => ?_)
    · simp only [fa_lt, fa_le, fa_eq] at c_2
      exact ok_r ⟨trivial, k_3, kj_3⟩
    · simp only [fa_lt, fa_le, fa_eq] at c_2
      exact ok_mono (fun _ _ _ h9 => ⟨h9.1, ks_tr k_3 h9.2.1, kj_tr kj_3 h9.2.2⟩) (s_H_X11_soonest_35 N hN N σ_3 τ_3 x1 x2 x3 301 (-1) (-1) 0 (k_3.1.2 hI) (by have : (0 : Int32).toInt = 0 := rfl; have := i32_rng r_1; have := i32_rng r_3; omega) (by have : (0 : Int32).toInt = 0 := rfl; have := i32_rng r_1; have := i32_rng r_3; omega))
set_option maxHeartbeats 2000000 in
theorem s_B_X11_steer_0 (N : Nat) (hN : 4294967296 ≤ N) (σ : gI) (τ : gJ) (x1 : Int32) (x2 : Int32) (hI : IC σ) : okp (Kq σ τ (fun _ => True)) (B_X11_steer_0 N σ τ x1 x2) := by
  unfold B_X11_steer_0
  refine ok_bd (s_B_X6_has_0 N hN 30 is_30 σ τ x1 ((ks_rf σ).1.2 hI)) (fun r_1 σ_1 τ_1 hp_1 => ?_)
  have k_1 : KS σ σ_1 := ks_eq (ks_rf σ) hp_1.2.1
  have kj_1 : KJ τ τ_1 := kj_eq (kj_rf τ) hp_1.2.2
  refine ok_ite (fun c_1 => ?_) (fun c_1 => ?_)
  · simp only [fa_lt, fa_le, fa_eq] at c_1
    exact ok_r ⟨trivial, k_1, kj_1⟩
  · simp only [fa_lt, fa_le, fa_eq] at c_1
    refine ok_bd (s_B_X8_isKitchen_0 N hN σ_1 τ_1 x2 (k_1.1.2 hI)) (fun r_3 σ_3 τ_3 hp_3 => ?_)
    have k_3 : KS σ σ_3 := ks_eq k_1 hp_3.2.1
    have kj_3 : KJ τ τ_3 := kj_eq kj_1 hp_3.2.2
    refine ok_ite (fun c_2 => ?_) (fun c_2 => ?_)
    · simp only [fa_lt, fa_le, fa_eq] at c_2
      exact ok_r ⟨trivial, k_3, kj_3⟩
    · simp only [fa_lt, fa_le, fa_eq] at c_2
      refine ok_bd (s_B_X9_startFrom_0 N hN σ_3 τ_3 (1 <<< (x1 &&& 31)) x1 (k_3.1.2 hI)) (fun _ σ_5 τ_5 hp_5 => ?_)
      have k_5 : KS σ σ_5 := ks_tr k_3 hp_5.2.1
      have kj_5 : KJ τ τ_5 := kj_tr kj_3 hp_5.2.2
      refine ok_bd (s_B_X11_fewestTurns_0 N hN σ_5 τ_5 x2 (k_5.1.2 hI)) (fun r_6 σ_6 τ_6 hp_6 => ?_)
      have k_6 : KS σ σ_6 := ks_tr k_5 hp_6.2.1
      have kj_6 : KJ τ τ_6 := kj_tr kj_5 hp_6.2.2
      exact ok_r ⟨trivial, k_6, kj_6⟩
set_option maxHeartbeats 2000000 in
theorem s_C_X8_clear_22 (N : Nat) (hN : 4294967296 ≤ N) (rec_22 : gI → gJ → Int32 → Option (Unit × gI × gJ)) (n_22 : Nat) (hrec_22 : ∀ (σ : gI) (τ : gJ) (x1 : Int32), IC σ → (0 ≤ x1.toInt) → (2147483647 - x1.toInt).toNat < n_22 → okp (Kq σ τ (fun _ => True)) (rec_22 σ τ x1)) (σ : gI) (τ : gJ) (x1 : Int32) (hI : IC σ) (h0_22 : 0 ≤ x1.toInt) (hm_22 : (2147483647 - x1.toInt).toNat < n_22 + 1) : okp (Kq σ τ (fun _ => True)) (C_X8_clear_22 N rec_22 σ τ x1) := by
  unfold C_X8_clear_22
  refine ok_ite (fun c_1 => ?_) (fun c_1 => ?_)
  · simp only [fa_lt, fa_le, fa_eq] at c_1
    exact ok_r ⟨trivial, (ks_rf σ), (kj_rf τ)⟩
  · simp only [fa_lt, fa_le, fa_eq] at c_1
    refine ok_ck (by have : (0 : Int32).toInt = 0 := rfl; have : (12 : Int32).toInt = 12 := rfl; have := i32_rng x1; omega) (fun j_2 hj_2 lj_2 => ?_)
    refine ok_nm (fun σ_3 e_3 => ?_)
    have k_3 : KS σ σ_3 := ks_up (ks_rf σ) e_3 (by omega) (by omega) (by omega)
    refine ok_nm (fun v_4 e_4 => ?_)
    exact ok_mono (fun _ _ _ h9 => ⟨h9.1, ks_tr k_3 h9.2.1, kj_tr (kj_rf τ) h9.2.2⟩) (hrec_22 σ_3 τ v_4 (k_3.1.2 hI) (by have : (0 : Int32).toInt = 0 := rfl; have : (1 : Int32).toInt = 1 := rfl; have : (12 : Int32).toInt = 12 := rfl; have := i32_rng v_4; have := i32_rng x1; have u_v_4 : v_4.toInt = (x1).toInt + 1 := (by rw [e_4]; have q := ti_add (a := x1) (b := 1) (by rw [show (1 : Int32).toInt = 1 from rfl]; omega) (by rw [show (1 : Int32).toInt = 1 from rfl]; omega); rw [q, show (1 : Int32).toInt = 1 from rfl]); omega) (by have : (1 : Int32).toInt = 1 := rfl; have : (12 : Int32).toInt = 12 := rfl; have := i32_rng v_4; have := i32_rng x1; have u_v_4 : v_4.toInt = (x1).toInt + 1 := (by rw [e_4]; have q := ti_add (a := x1) (b := 1) (by rw [show (1 : Int32).toInt = 1 from rfl]; omega) (by rw [show (1 : Int32).toInt = 1 from rfl]; omega); rw [q, show (1 : Int32).toInt = 1 from rfl]); omega))
theorem s_H_X8_clear_22 (N : Nat) (hN : 4294967296 ≤ N) : ∀ (n : Nat) (σ : gI) (τ : gJ) (x1 : Int32), IC σ → (0 ≤ x1.toInt) → (2147483647 - x1.toInt).toNat < n → okp (Kq σ τ (fun _ => True)) (H_X8_clear_22 N n σ τ x1) := by
  intro n
  induction n with
  | zero => intro σ τ x1 _ _ hm; exact absurd hm (Nat.not_lt_zero _)
  | succ n ih =>
    intro σ τ x1 hI h0_22 hm
    exact s_C_X8_clear_22 N hN (H_X8_clear_22 N n) n ih σ τ x1 hI h0_22 hm
set_option maxHeartbeats 2000000 in
theorem s_B_X8_clear_0 (N : Nat) (hN : 4294967296 ≤ N) (σ : gI) (τ : gJ) (hI : IC σ) : okp (Kq σ τ (fun _ => True)) (B_X8_clear_0 N σ τ) := by
  unfold B_X8_clear_0
  refine ok_nm (fun σ_1 e_1 => ?_)
  have k_1 : KS σ σ_1 := ks_up96 (ks_rf σ) e_1 (by have : (0 : Int32).toInt = 0 := rfl; show 0 ≤ (0 : Int32).toInt; omega)
  refine ok_nm (fun σ_2 e_2 => ?_)
  have k_2 : KS σ σ_2 := ks_up k_1 e_2 (by omega) (by omega) (by omega)
  refine ok_nm (fun σ_3 e_3 => ?_)
  have k_3 : KS σ σ_3 := ks_up k_2 e_3 (by omega) (by omega) (by omega)
  refine ok_nm (fun σ_4 e_4 => ?_)
  have k_4 : KS σ σ_4 := ks_up k_3 e_4 (by omega) (by omega) (by omega)
  exact ok_mono (fun _ _ _ h9 => ⟨h9.1, ks_tr k_4 h9.2.1, kj_tr (kj_rf τ) h9.2.2⟩) (s_H_X8_clear_22 N hN N σ_4 τ 0 (k_4.1.2 hI) (by have : (0 : Int32).toInt = 0 := rfl; omega) (by have : (0 : Int32).toInt = 0 := rfl; omega))
set_option maxHeartbeats 2000000 in
theorem s_B_X8_addPlace_88 (N : Nat) (hN : 4294967296 ≤ N) (σ : gI) (τ : gJ) (x1 : Int32) (hI : IC σ) (h6 : 0 ≤ (σ 9 6).toInt ∧ (σ 9 6).toInt < 12) : okp (Kq σ τ (fun _ => True)) (B_X8_addPlace_88 N σ τ x1) := by
  unfold B_X8_addPlace_88
  refine ok_ite (fun c_1 => ?_) (fun c_1 => ?_)
  · simp only [fa_lt, fa_le, fa_eq] at c_1
    refine ok_nm (fun σ_3 e_3 => ?_)
    have k_3 : KS σ σ_3 := ks_up (ks_rf σ) e_3 (by omega) (by omega) (by omega)
    refine ok_nm (fun σ_4 e_4 => ?_)
    have k_4 : KS σ σ_4 := ks_up96 k_3 e_4 (by have : (0 : Int32).toInt = 0 := rfl; have : (1 : Int32).toInt = 1 := rfl; have : (6 : Int32).toInt = 6 := rfl; have : (9 : Int32).toInt = 9 := rfl; have := hI.1; have := i32_rng (σ 9 6); have := i32_rng (σ_3 9 6); have := i32_rng x1; have : (σ_3 9 6).toInt = (σ 9 6).toInt := (by simp [up2, e_3]); have : ((σ_3 9 6) + (1 : Int32)).toInt = (σ_3 9 6).toInt + (1 : Int32).toInt := (ti_add (by omega) (by omega)); have q9 := ti_add (a := σ_3 9 6) (b := 1) (by rw [show (1 : Int32).toInt = 1 from rfl]; omega) (by rw [show (1 : Int32).toInt = 1 from rfl]; omega); rw [q9, show (1 : Int32).toInt = 1 from rfl]; omega)
    exact ok_r ⟨trivial, k_4, (kj_rf τ)⟩
  · simp only [fa_lt, fa_le, fa_eq] at c_1
    refine ok_nm (fun σ_2 e_2 => ?_)
    have k_2 : KS σ σ_2 := ks_up96 (ks_rf σ) e_2 (by have : (0 : Int32).toInt = 0 := rfl; have : (1 : Int32).toInt = 1 := rfl; have : (6 : Int32).toInt = 6 := rfl; have : (9 : Int32).toInt = 9 := rfl; have := hI.1; have := i32_rng (σ 9 6); have := i32_rng x1; have : ((σ 9 6) + (1 : Int32)).toInt = (σ 9 6).toInt + (1 : Int32).toInt := (ti_add (by omega) (by omega)); have q9 := ti_add (a := σ 9 6) (b := 1) (by rw [show (1 : Int32).toInt = 1 from rfl]; omega) (by rw [show (1 : Int32).toInt = 1 from rfl]; omega); rw [q9, show (1 : Int32).toInt = 1 from rfl]; omega)
    exact ok_r ⟨trivial, k_2, (kj_rf τ)⟩
set_option maxHeartbeats 2000000 in
theorem s_B_X8_addPlace_0 (N : Nat) (hN : 4294967296 ≤ N) (σ : gI) (τ : gJ) (x1 : Int32) (x2 : Int32) (x3 : Int32) (x4 : Int32) (hI : IC σ) : okp (Kq σ τ (fun _ => True)) (B_X8_addPlace_0 N σ τ x1 x2 x3 x4) := by
  unfold B_X8_addPlace_0
  refine ok_ite (fun c_1 => ?_) (fun c_1 => ?_)
  · simp only [fa_lt, fa_le, fa_eq] at c_1
    exact ok_r ⟨trivial, (ks_rf σ), (kj_rf τ)⟩
  · simp only [fa_lt, fa_le, fa_eq] at c_1
    refine ok_ite (fun c_2 => ?_) (fun c_2 => ?_)
    · simp only [fa_lt, fa_le, fa_eq] at c_2
      refine ok_ck (by have : (0 : Int32).toInt = 0 := rfl; have : (6 : Int32).toInt = 6 := rfl; have : (9 : Int32).toInt = 9 := rfl; have : (12 : Int32).toInt = 12 := rfl; have := hI.1; have := i32_rng (σ 9 6); omega) (fun j_3 hj_3 lj_3 => ?_)
      refine ok_nm (fun σ_4 e_4 => ?_)
      have k_4 : KS σ σ_4 := ks_up (ks_rf σ) e_4 (by omega) (by omega) (by omega)
      refine ok_ck (by have : (0 : Int32).toInt = 0 := rfl; have : (6 : Int32).toInt = 6 := rfl; have : (9 : Int32).toInt = 9 := rfl; have : (12 : Int32).toInt = 12 := rfl; have := hI.1; have := i32_rng (σ 9 6); have := i32_rng (σ_4 9 6); have : (σ_4 9 6).toInt = (σ 9 6).toInt := (by simp [up2, e_4]); omega) (fun j_5 hj_5 lj_5 => ?_)
      refine ok_nm (fun σ_6 e_6 => ?_)
      have k_6 : KS σ σ_6 := ks_up k_4 e_6 (by omega) (by omega) (by omega)
      refine ok_ck (by have : (0 : Int32).toInt = 0 := rfl; have : (6 : Int32).toInt = 6 := rfl; have : (9 : Int32).toInt = 9 := rfl; have : (12 : Int32).toInt = 12 := rfl; have := hI.1; have := i32_rng (σ 9 6); have := i32_rng (σ_6 9 6); have : (σ_6 9 6).toInt = (σ 9 6).toInt := (by simp [up2, e_6, e_4]); omega) (fun j_7 hj_7 lj_7 => ?_)
      refine ok_nm (fun σ_8 e_8 => ?_)
      have k_8 : KS σ σ_8 := ks_up k_6 e_8 (by omega) (by omega) (by omega)
      refine ok_ck (by have : (0 : Int32).toInt = 0 := rfl; have : (6 : Int32).toInt = 6 := rfl; have : (9 : Int32).toInt = 9 := rfl; have : (12 : Int32).toInt = 12 := rfl; have := hI.1; have := i32_rng (σ 9 6); have := i32_rng (σ_8 9 6); have : (σ_8 9 6).toInt = (σ 9 6).toInt := (by simp [up2, e_8, e_6, e_4]); omega) (fun j_9 hj_9 lj_9 => ?_)
      refine ok_nm (fun σ_10 e_10 => ?_)
      have k_10 : KS σ σ_10 := ks_up k_8 e_10 (by omega) (by omega) (by omega)
      refine ok_ite (fun c_3 => ?_) (fun c_3 => ?_)
      · simp only [fa_lt, fa_le, fa_eq] at c_3
        refine ok_nm (fun σ_12 e_12 => ?_)
        have k_12 : KS σ σ_12 := ks_up k_10 e_12 (by omega) (by omega) (by omega)
        refine ok_nm (fun σ_13 e_13 => ?_)
        have k_13 : KS σ σ_13 := ks_up k_12 e_13 (by omega) (by omega) (by omega)
        exact ok_mono (fun _ _ _ h9 => ⟨h9.1, ks_tr k_13 h9.2.1, kj_tr (kj_rf τ) h9.2.2⟩) (s_B_X8_addPlace_88 N hN σ_13 τ x1 (k_13.1.2 hI) (by have : (0 : Int32).toInt = 0 := rfl; have : (1 : Int32).toInt = 1 := rfl; have : (6 : Int32).toInt = 6 := rfl; have : (9 : Int32).toInt = 9 := rfl; have : (12 : Int32).toInt = 12 := rfl; have := hI.1; have := i32_rng (σ 9 6); have := i32_rng (σ_13 9 6); have := i32_rng x1; have : (σ_13 9 6).toInt = (σ 9 6).toInt := (by simp [up2, e_13, e_12, e_10, e_8, e_6, e_4]); omega))
      · simp only [fa_lt, fa_le, fa_eq] at c_3
        exact ok_mono (fun _ _ _ h9 => ⟨h9.1, ks_tr k_10 h9.2.1, kj_tr (kj_rf τ) h9.2.2⟩) (s_B_X8_addPlace_88 N hN σ_10 τ x1 (k_10.1.2 hI) (by have : (0 : Int32).toInt = 0 := rfl; have : (1 : Int32).toInt = 1 := rfl; have : (6 : Int32).toInt = 6 := rfl; have : (9 : Int32).toInt = 9 := rfl; have : (12 : Int32).toInt = 12 := rfl; have := hI.1; have := i32_rng (σ 9 6); have := i32_rng (σ_10 9 6); have := i32_rng x1; have : (σ_10 9 6).toInt = (σ 9 6).toInt := (by simp [up2, e_10, e_8, e_6, e_4]); omega))
    · simp only [fa_lt, fa_le, fa_eq] at c_2
      exact ok_r ⟨trivial, (ks_rf σ), (kj_rf τ)⟩
set_option maxHeartbeats 2000000 in
theorem s_B_X8_use_0 (N : Nat) (hN : 4294967296 ≤ N) (σ : gI) (τ : gJ) (x1 : Int32) (x2 : Int32) (hI : IC σ) : okp (Kq σ τ (fun _ => True)) (B_X8_use_0 N σ τ x1 x2) := by
  unfold B_X8_use_0
  refine ok_ite (fun c_1 => ?_) (fun c_1 => ?_)
  · simp only [fa_lt, fa_le, fa_eq] at c_1
    exact ok_r ⟨trivial, (ks_rf σ), (kj_rf τ)⟩
  · simp only [fa_lt, fa_le, fa_eq] at c_1
    refine ok_ite (fun c_2 => ?_) (fun c_2 => ?_)
    · simp only [fa_lt, fa_le, fa_eq] at c_2
      exact ok_r ⟨trivial, (ks_rf σ), (kj_rf τ)⟩
    · simp only [fa_lt, fa_le, fa_eq] at c_2
      refine ok_ck (by have : (0 : Int32).toInt = 0 := rfl; have : (12 : Int32).toInt = 12 := rfl; have := i32_rng x1; omega) (fun j_3 hj_3 lj_3 => ?_)
      refine ok_ite (fun c_3 => ?_) (fun c_3 => ?_)
      · simp only [fa_lt, fa_le, fa_eq] at c_3
        refine ok_nm (fun σ_5 e_5 => ?_)
        have k_5 : KS σ σ_5 := ks_up (ks_rf σ) e_5 (by omega) (by omega) (by omega)
        exact ok_r ⟨trivial, k_5, (kj_rf τ)⟩
      · simp only [fa_lt, fa_le, fa_eq] at c_3
        exact ok_r ⟨trivial, (ks_rf σ), (kj_rf τ)⟩
set_option maxHeartbeats 2000000 in
theorem s_B_X8_readFork_0 (N : Nat) (hN : 4294967296 ≤ N) (σ : gI) (τ : gJ) (x2 : Int32) (x3 : Int32) (hI : IC σ) : okp (Kq σ τ (fun _ => True)) (B_X8_readFork_0 N σ τ x2 x3) := by
  unfold B_X8_readFork_0
  refine ok_bd (s_B_X7_letter_0 N hN σ τ x3 ((ks_rf σ).1.2 hI)) (fun r_1 σ_1 τ_1 hp_1 => ?_)
  have k_1 : KS σ σ_1 := ks_eq (ks_rf σ) hp_1.2.1
  have kj_1 : KJ τ τ_1 := kj_eq (kj_rf τ) hp_1.2.2
  refine ok_ite (fun c_1 => ?_) (fun c_1 => ?_)
  · simp only [fa_lt, fa_le, fa_eq] at c_1
    refine ok_bd (s_B_X8_use_0 N hN σ_1 τ_1 r_1 x3 (k_1.1.2 hI)) (fun _ σ_3 τ_3 hp_3 => ?_)
    have k_3 : KS σ σ_3 := ks_tr k_1 hp_3.2.1
    have kj_3 : KJ τ τ_3 := kj_tr kj_1 hp_3.2.2
    refine ok_bd (s_B_X8_addPlace_0 N hN σ_3 τ_3 1 x2 r_1 0 (k_3.1.2 hI)) (fun _ σ_4 τ_4 hp_4 => ?_)
    have k_4 : KS σ σ_4 := ks_tr k_3 hp_4.2.1
    have kj_4 : KJ τ τ_4 := kj_tr kj_3 hp_4.2.2
    exact ok_r ⟨trivial, k_4, kj_4⟩
  · simp only [fa_lt, fa_le, fa_eq] at c_1
    exact ok_r ⟨trivial, k_1, kj_1⟩
set_option maxHeartbeats 2000000 in
theorem s_B_X8_readMill_0 (N : Nat) (hN : 4294967296 ≤ N) (σ : gI) (τ : gJ) (x2 : Int32) (x3 : Int32) (hI : IC σ) : okp (Kq σ τ (fun _ => True)) (B_X8_readMill_0 N σ τ x2 x3) := by
  unfold B_X8_readMill_0
  refine ok_bd (s_B_X7_digit_0 N hN σ τ x3 ((ks_rf σ).1.2 hI)) (fun r_1 σ_1 τ_1 hp_1 => ?_)
  have k_1 : KS σ σ_1 := ks_eq (ks_rf σ) hp_1.2.1
  have kj_1 : KJ τ τ_1 := kj_eq (kj_rf τ) hp_1.2.2
  refine ok_ite (fun c_1 => ?_) (fun c_1 => ?_)
  · simp only [fa_lt, fa_le, fa_eq] at c_1
    refine ok_bd (s_B_X7_digit_0 N hN σ_1 τ_1 (x3 + 1) (k_1.1.2 hI)) (fun r_3 σ_3 τ_3 hp_3 => ?_)
    have k_3 : KS σ σ_3 := ks_eq k_1 hp_3.2.1
    have kj_3 : KJ τ τ_3 := kj_eq kj_1 hp_3.2.2
    refine ok_ite (fun c_2 => ?_) (fun c_2 => ?_)
    · simp only [fa_lt, fa_le, fa_eq] at c_2
      refine ok_bd (s_B_X8_addPlace_0 N hN σ_3 τ_3 4 x2 (-1) ((10 * r_1) + r_3) (k_3.1.2 hI)) (fun _ σ_5 τ_5 hp_5 => ?_)
      have k_5 : KS σ σ_5 := ks_tr k_3 hp_5.2.1
      have kj_5 : KJ τ τ_5 := kj_tr kj_3 hp_5.2.2
      exact ok_r ⟨trivial, k_5, kj_5⟩
    · simp only [fa_lt, fa_le, fa_eq] at c_2
      exact ok_r ⟨trivial, k_3, kj_3⟩
  · simp only [fa_lt, fa_le, fa_eq] at c_1
    exact ok_r ⟨trivial, k_1, kj_1⟩
set_option maxHeartbeats 2000000 in
theorem s_B_X8_readFigure_20 (N : Nat) (hN : 4294967296 ≤ N) (σ : gI) (τ : gJ) (x2 : Int32) (x3 : Int32) (x4 : Int32) (x5 : Int32) (y0 : Int32) (y1 : Int32) (hI : IC σ) : okp (Kq σ τ (fun _ => True)) (B_X8_readFigure_20 N σ τ x2 x3 x4 x5 y0 y1) := by
  unfold B_X8_readFigure_20
  refine ok_ite (fun c_1 => ?_) (fun c_1 => ?_)
  · simp only [fa_lt, fa_le, fa_eq] at c_1
    refine ok_bd (s_B_X8_addPlace_0 N hN σ τ x2 x3 (-1) x5 ((ks_rf σ).1.2 hI)) (fun _ σ_2 τ_2 hp_2 => ?_)
    have k_2 : KS σ σ_2 := ks_tr (ks_rf σ) hp_2.2.1
    have kj_2 : KJ τ τ_2 := kj_tr (kj_rf τ) hp_2.2.2
    exact ok_r ⟨trivial, k_2, kj_2⟩
  · simp only [fa_lt, fa_le, fa_eq] at c_1
    exact ok_r ⟨trivial, (ks_rf σ), (kj_rf τ)⟩
set_option maxHeartbeats 2000000 in
theorem s_B_X8_readFigure_0 (N : Nat) (hN : 4294967296 ≤ N) (σ : gI) (τ : gJ) (x2 : Int32) (x3 : Int32) (x4 : Int32) (hI : IC σ) : okp (Kq σ τ (fun _ => True)) (B_X8_readFigure_0 N σ τ x2 x3 x4) := by
  unfold B_X8_readFigure_0
  refine ok_bd (s_B_X7_digit_0 N hN σ τ x4 ((ks_rf σ).1.2 hI)) (fun r_1 σ_1 τ_1 hp_1 => ?_)
  have k_1 : KS σ σ_1 := ks_eq (ks_rf σ) hp_1.2.1
  have kj_1 : KJ τ τ_1 := kj_eq (kj_rf τ) hp_1.2.2
  refine ok_ite (fun c_1 => ?_) (fun c_1 => ?_)
  · simp only [fa_lt, fa_le, fa_eq] at c_1
    exact ok_mono (fun _ _ _ h9 => ⟨h9.1, ks_tr k_1 h9.2.1, kj_tr kj_1 h9.2.2⟩) (s_B_X8_readFigure_20 N hN σ_1 τ_1 x2 x3 x4 r_1 2 r_1 (k_1.1.2 hI))
  · simp only [fa_lt, fa_le, fa_eq] at c_1
    exact ok_mono (fun _ _ _ h9 => ⟨h9.1, ks_tr k_1 h9.2.1, kj_tr kj_1 h9.2.2⟩) (s_B_X8_readFigure_20 N hN σ_1 τ_1 x2 x3 x4 r_1 1 r_1 (k_1.1.2 hI))
set_option maxHeartbeats 2000000 in
theorem s_B_X8_readLine_0 (N : Nat) (hN : 4294967296 ≤ N) (σ : gI) (τ : gJ) (x2 : Int32) (hI : IC σ) : okp (Kq σ τ (fun _ => True)) (B_X8_readLine_0 N σ τ x2) := by
  unfold B_X8_readLine_0
  refine ok_bd (s_B_X7_oneOf_0 N hN sb_0 (by decide) σ τ x2 ((ks_rf σ).1.2 hI)) (fun r_1 σ_1 τ_1 hp_1 => ?_)
  have k_1 : KS σ σ_1 := ks_eq (ks_rf σ) hp_1.2.1
  have kj_1 : KJ τ τ_1 := kj_eq (kj_rf τ) hp_1.2.2
  refine ok_ite (fun c_1 => ?_) (fun c_1 => ?_)
  · simp only [fa_lt, fa_le, fa_eq] at c_1
    refine ok_ite (fun c_2 => ?_) (fun c_2 => ?_)
    · simp only [fa_lt, fa_le, fa_eq] at c_2
      refine ok_bd (s_B_X8_addPlace_0 N hN σ_1 τ_1 r_1 (-1) (-1) 0 (k_1.1.2 hI)) (fun _ σ_14 τ_14 hp_14 => ?_)
      have k_14 : KS σ σ_14 := ks_tr k_1 hp_14.2.1
      have kj_14 : KJ τ τ_14 := kj_tr kj_1 hp_14.2.2
      exact ok_r ⟨trivial, k_14, kj_14⟩
    · simp only [fa_lt, fa_le, fa_eq] at c_2
      refine ok_bd (s_B_X7_letter_0 N hN σ_1 τ_1 (x2 + 1) (k_1.1.2 hI)) (fun r_4 σ_4 τ_4 hp_4 => ?_)
      have k_4 : KS σ σ_4 := ks_eq k_1 hp_4.2.1
      have kj_4 : KJ τ τ_4 := kj_eq kj_1 hp_4.2.2
      refine ok_ite (fun c_3 => ?_) (fun c_3 => ?_)
      · simp only [fa_lt, fa_le, fa_eq] at c_3
        refine ok_bd (s_B_X8_use_0 N hN σ_4 τ_4 r_4 (x2 + 1) (k_4.1.2 hI)) (fun _ σ_6 τ_6 hp_6 => ?_)
        have k_6 : KS σ σ_6 := ks_tr k_4 hp_6.2.1
        have kj_6 : KJ τ τ_6 := kj_tr kj_4 hp_6.2.2
        refine ok_ite (fun c_4 => ?_) (fun c_4 => ?_)
        · simp only [fa_lt, fa_le, fa_eq] at c_4
          refine ok_bd (s_B_X8_addPlace_0 N hN σ_6 τ_6 r_1 r_4 (-1) 0 (k_6.1.2 hI)) (fun _ σ_13 τ_13 hp_13 => ?_)
          have k_13 : KS σ σ_13 := ks_tr k_6 hp_13.2.1
          have kj_13 : KJ τ τ_13 := kj_tr kj_6 hp_13.2.2
          exact ok_r ⟨trivial, k_13, kj_13⟩
        · simp only [fa_lt, fa_le, fa_eq] at c_4
          refine ok_ite (fun c_5 => ?_) (fun c_5 => ?_)
          · simp only [fa_lt, fa_le, fa_eq] at c_5
            refine ok_bd (s_B_X8_readFork_0 N hN σ_6 τ_6 r_4 (x2 + 2) (k_6.1.2 hI)) (fun r_12 σ_12 τ_12 hp_12 => ?_)
            have k_12 : KS σ σ_12 := ks_tr k_6 hp_12.2.1
            have kj_12 : KJ τ τ_12 := kj_tr kj_6 hp_12.2.2
            exact ok_r ⟨trivial, k_12, kj_12⟩
          · simp only [fa_lt, fa_le, fa_eq] at c_5
            refine ok_ite (fun c_6 => ?_) (fun c_6 => ?_)
            · simp only [fa_lt, fa_le, fa_eq] at c_6
              refine ok_bd (s_B_X8_readMill_0 N hN σ_6 τ_6 r_4 (x2 + 2) (k_6.1.2 hI)) (fun r_11 σ_11 τ_11 hp_11 => ?_)
              have k_11 : KS σ σ_11 := ks_tr k_6 hp_11.2.1
              have kj_11 : KJ τ τ_11 := kj_tr kj_6 hp_11.2.2
              exact ok_r ⟨trivial, k_11, kj_11⟩
            · simp only [fa_lt, fa_le, fa_eq] at c_6
              refine ok_bd (s_B_X8_readFigure_0 N hN σ_6 τ_6 r_1 r_4 (x2 + 2) (k_6.1.2 hI)) (fun r_10 σ_10 τ_10 hp_10 => ?_)
              have k_10 : KS σ σ_10 := ks_tr k_6 hp_10.2.1
              have kj_10 : KJ τ τ_10 := kj_tr kj_6 hp_10.2.2
              exact ok_r ⟨trivial, k_10, kj_10⟩
      · simp only [fa_lt, fa_le, fa_eq] at c_3
        exact ok_r ⟨trivial, k_4, kj_4⟩
  · simp only [fa_lt, fa_le, fa_eq] at c_1
    exact ok_r ⟨trivial, k_1, kj_1⟩
set_option maxHeartbeats 2000000 in
theorem s_C_X8_judgeLetters_7 (N : Nat) (hN : 4294967296 ≤ N) (rec_7 : gI → gJ → Int32 → Int32 → Option (Int32 × gI × gJ)) (n_7 : Nat) (hrec_7 : ∀ (σ : gI) (τ : gJ) (x1 : Int32) (x2 : Int32), IC σ → (0 ≤ x2.toInt) → (2147483647 - x2.toInt).toNat < n_7 → okp (Kqe σ τ (fun _ => True)) (rec_7 σ τ x1 x2)) (σ : gI) (τ : gJ) (x1 : Int32) (x2 : Int32) (hI : IC σ) (h0_7 : 0 ≤ x2.toInt) (hm_7 : (2147483647 - x2.toInt).toNat < n_7 + 1) : okp (Kqe σ τ (fun _ => True)) (C_X8_judgeLetters_7 N rec_7 σ τ x1 x2) := by
  unfold C_X8_judgeLetters_7
  refine ok_ite (fun c_1 => ?_) (fun c_1 => ?_)
  · simp only [fa_lt, fa_le, fa_eq] at c_1
    refine ok_ite (fun c_2 => ?_) (fun c_2 => ?_)
    · simp only [fa_lt, fa_le, fa_eq] at c_2
      exact ok_r ⟨trivial, (Eq.refl σ), (Eq.refl τ)⟩
    · simp only [fa_lt, fa_le, fa_eq] at c_2
      exact ok_r ⟨trivial, (Eq.refl σ), (Eq.refl τ)⟩
  · simp only [fa_lt, fa_le, fa_eq] at c_1
    refine ok_ck (by have : (0 : Int32).toInt = 0 := rfl; have : (12 : Int32).toInt = 12 := rfl; have := i32_rng x2; omega) (fun j_3 hj_3 lj_3 => ?_)
    refine ok_nm (fun v_4 e_4 => ?_)
    refine ok_ite (fun c_3 => ?_) (fun c_3 => ?_)
    · simp only [fa_lt, fa_le, fa_eq] at c_3
      refine ok_nm (fun v_6 e_6 => ?_)
      exact ok_mono (fun _ _ _ h9 => ⟨h9.1, h9.2.1.trans (Eq.refl σ), h9.2.2.trans (Eq.refl τ)⟩) (hrec_7 σ τ x1 v_6 ((ic_eq (Eq.refl σ)) hI) (by have : (-1 : Int32).toInt = -1 := rfl; have : (0 : Int32).toInt = 0 := rfl; have : (1 : Int32).toInt = 1 := rfl; have : (12 : Int32).toInt = 12 := rfl; have : (14 : Int32).toInt = 14 := rfl; have := i32_rng (σ 14 j_3); have := i32_rng v_4; have := i32_rng v_6; have := i32_rng x2; have u_v_6 : v_6.toInt = (x2).toInt + 1 := (by rw [e_6]; have q := ti_add (a := x2) (b := 1) (by rw [show (1 : Int32).toInt = 1 from rfl]; omega) (by rw [show (1 : Int32).toInt = 1 from rfl]; omega); rw [q, show (1 : Int32).toInt = 1 from rfl]); have u_v_4 : v_4.toInt = (σ 14 j_3).toInt := (by rw [e_4]); omega) (by have : (-1 : Int32).toInt = -1 := rfl; have : (1 : Int32).toInt = 1 := rfl; have : (12 : Int32).toInt = 12 := rfl; have : (14 : Int32).toInt = 14 := rfl; have := i32_rng (σ 14 j_3); have := i32_rng v_4; have := i32_rng v_6; have := i32_rng x2; have u_v_6 : v_6.toInt = (x2).toInt + 1 := (by rw [e_6]; have q := ti_add (a := x2) (b := 1) (by rw [show (1 : Int32).toInt = 1 from rfl]; omega) (by rw [show (1 : Int32).toInt = 1 from rfl]; omega); rw [q, show (1 : Int32).toInt = 1 from rfl]); have u_v_4 : v_4.toInt = (σ 14 j_3).toInt := (by rw [e_4]); omega))
    · simp only [fa_lt, fa_le, fa_eq] at c_3
      refine ok_ite (fun c_4 => ?_) (fun c_4 => ?_)
      · simp only [fa_lt, fa_le, fa_eq] at c_4
        refine ok_nm (fun v_8 e_8 => ?_)
        exact ok_mono (fun _ _ _ h9 => ⟨h9.1, h9.2.1.trans (Eq.refl σ), h9.2.2.trans (Eq.refl τ)⟩) (hrec_7 σ τ v_4 v_8 ((ic_eq (Eq.refl σ)) hI) (by have : (-1 : Int32).toInt = -1 := rfl; have : (0 : Int32).toInt = 0 := rfl; have : (1 : Int32).toInt = 1 := rfl; have : (12 : Int32).toInt = 12 := rfl; have : (14 : Int32).toInt = 14 := rfl; have := i32_rng (σ 14 j_3); have := i32_rng v_4; have := i32_rng v_8; have := i32_rng x1; have := i32_rng x2; have u_v_8 : v_8.toInt = (x2).toInt + 1 := (by rw [e_8]; have q := ti_add (a := x2) (b := 1) (by rw [show (1 : Int32).toInt = 1 from rfl]; omega) (by rw [show (1 : Int32).toInt = 1 from rfl]; omega); rw [q, show (1 : Int32).toInt = 1 from rfl]); have u_v_4 : v_4.toInt = (σ 14 j_3).toInt := (by rw [e_4]); omega) (by have : (-1 : Int32).toInt = -1 := rfl; have : (1 : Int32).toInt = 1 := rfl; have : (12 : Int32).toInt = 12 := rfl; have : (14 : Int32).toInt = 14 := rfl; have := i32_rng (σ 14 j_3); have := i32_rng v_4; have := i32_rng v_8; have := i32_rng x1; have := i32_rng x2; have u_v_8 : v_8.toInt = (x2).toInt + 1 := (by rw [e_8]; have q := ti_add (a := x2) (b := 1) (by rw [show (1 : Int32).toInt = 1 from rfl]; omega) (by rw [show (1 : Int32).toInt = 1 from rfl]; omega); rw [q, show (1 : Int32).toInt = 1 from rfl]); have u_v_4 : v_4.toInt = (σ 14 j_3).toInt := (by rw [e_4]); omega))
      · simp only [fa_lt, fa_le, fa_eq] at c_4
        refine ok_ite (fun c_5 => ?_) (fun c_5 => ?_)
        · simp only [fa_lt, fa_le, fa_eq] at c_5
          refine ok_nm (fun v_10 e_10 => ?_)
          exact ok_mono (fun _ _ _ h9 => ⟨h9.1, h9.2.1.trans (Eq.refl σ), h9.2.2.trans (Eq.refl τ)⟩) (hrec_7 σ τ x1 v_10 ((ic_eq (Eq.refl σ)) hI) (by have : (-1 : Int32).toInt = -1 := rfl; have : (0 : Int32).toInt = 0 := rfl; have : (1 : Int32).toInt = 1 := rfl; have : (12 : Int32).toInt = 12 := rfl; have : (14 : Int32).toInt = 14 := rfl; have := i32_rng (σ 14 j_3); have := i32_rng v_10; have := i32_rng v_4; have := i32_rng x1; have := i32_rng x2; have u_v_10 : v_10.toInt = (x2).toInt + 1 := (by rw [e_10]; have q := ti_add (a := x2) (b := 1) (by rw [show (1 : Int32).toInt = 1 from rfl]; omega) (by rw [show (1 : Int32).toInt = 1 from rfl]; omega); rw [q, show (1 : Int32).toInt = 1 from rfl]); have u_v_4 : v_4.toInt = (σ 14 j_3).toInt := (by rw [e_4]); omega) (by have : (-1 : Int32).toInt = -1 := rfl; have : (1 : Int32).toInt = 1 := rfl; have : (12 : Int32).toInt = 12 := rfl; have : (14 : Int32).toInt = 14 := rfl; have := i32_rng (σ 14 j_3); have := i32_rng v_10; have := i32_rng v_4; have := i32_rng x1; have := i32_rng x2; have u_v_10 : v_10.toInt = (x2).toInt + 1 := (by rw [e_10]; have q := ti_add (a := x2) (b := 1) (by rw [show (1 : Int32).toInt = 1 from rfl]; omega) (by rw [show (1 : Int32).toInt = 1 from rfl]; omega); rw [q, show (1 : Int32).toInt = 1 from rfl]); have u_v_4 : v_4.toInt = (σ 14 j_3).toInt := (by rw [e_4]); omega))
        · simp only [fa_lt, fa_le, fa_eq] at c_5
          refine ok_nm (fun v_11 e_11 => ?_)
          exact ok_mono (fun _ _ _ h9 => ⟨h9.1, h9.2.1.trans (Eq.refl σ), h9.2.2.trans (Eq.refl τ)⟩) (hrec_7 σ τ v_4 v_11 ((ic_eq (Eq.refl σ)) hI) (by have : (-1 : Int32).toInt = -1 := rfl; have : (0 : Int32).toInt = 0 := rfl; have : (1 : Int32).toInt = 1 := rfl; have : (12 : Int32).toInt = 12 := rfl; have : (14 : Int32).toInt = 14 := rfl; have := i32_rng (σ 14 j_3); have := i32_rng v_11; have := i32_rng v_4; have := i32_rng x1; have := i32_rng x2; have u_v_11 : v_11.toInt = (x2).toInt + 1 := (by rw [e_11]; have q := ti_add (a := x2) (b := 1) (by rw [show (1 : Int32).toInt = 1 from rfl]; omega) (by rw [show (1 : Int32).toInt = 1 from rfl]; omega); rw [q, show (1 : Int32).toInt = 1 from rfl]); have u_v_4 : v_4.toInt = (σ 14 j_3).toInt := (by rw [e_4]); omega) (by have : (-1 : Int32).toInt = -1 := rfl; have : (1 : Int32).toInt = 1 := rfl; have : (12 : Int32).toInt = 12 := rfl; have : (14 : Int32).toInt = 14 := rfl; have := i32_rng (σ 14 j_3); have := i32_rng v_11; have := i32_rng v_4; have := i32_rng x1; have := i32_rng x2; have u_v_11 : v_11.toInt = (x2).toInt + 1 := (by rw [e_11]; have q := ti_add (a := x2) (b := 1) (by rw [show (1 : Int32).toInt = 1 from rfl]; omega) (by rw [show (1 : Int32).toInt = 1 from rfl]; omega); rw [q, show (1 : Int32).toInt = 1 from rfl]); have u_v_4 : v_4.toInt = (σ 14 j_3).toInt := (by rw [e_4]); omega))
theorem s_H_X8_judgeLetters_7 (N : Nat) (hN : 4294967296 ≤ N) : ∀ (n : Nat) (σ : gI) (τ : gJ) (x1 : Int32) (x2 : Int32), IC σ → (0 ≤ x2.toInt) → (2147483647 - x2.toInt).toNat < n → okp (Kqe σ τ (fun _ => True)) (H_X8_judgeLetters_7 N n σ τ x1 x2) := by
  intro n
  induction n with
  | zero => intro σ τ x1 x2 _ _ hm; exact absurd hm (Nat.not_lt_zero _)
  | succ n ih =>
    intro σ τ x1 x2 hI h0_7 hm
    exact s_C_X8_judgeLetters_7 N hN (H_X8_judgeLetters_7 N n) n ih σ τ x1 x2 hI h0_7 hm
set_option maxHeartbeats 2000000 in
theorem s_B_X8_judgeLetters_0 (N : Nat) (hN : 4294967296 ≤ N) (σ : gI) (τ : gJ) (hI : IC σ) : okp (Kqe σ τ (fun _ => True)) (B_X8_judgeLetters_0 N σ τ) := by
  unfold B_X8_judgeLetters_0
  refine ok_nm (fun v_1 e_1 => ?_)
  exact ok_mono (fun _ _ _ h9 => ⟨h9.1, h9.2.1.trans (Eq.refl σ), h9.2.2.trans (Eq.refl τ)⟩) (s_H_X8_judgeLetters_7 N hN N σ τ (-1) v_1 ((ic_eq (Eq.refl σ)) hI) (by have : (0 : Int32).toInt = 0 := rfl; have : (6 : Int32).toInt = 6 := rfl; have : (9 : Int32).toInt = 9 := rfl; have := hI.1; have := i32_rng (σ 9 6); have := i32_rng v_1; have u_v_1 : v_1.toInt = (σ 9 6).toInt := (by rw [e_1]); omega) (by have : (6 : Int32).toInt = 6 := rfl; have : (9 : Int32).toInt = 9 := rfl; have := hI.1; have := i32_rng (σ 9 6); have := i32_rng v_1; have u_v_1 : v_1.toInt = (σ 9 6).toInt := (by rw [e_1]); omega))
set_option maxHeartbeats 2000000 in
theorem s_C_X8_read_24 (N : Nat) (hN : 4294967296 ≤ N) (rec_24 : gI → gJ → Int32 → Int32 → Option (Int32 × gI × gJ)) (n_24 : Nat) (hrec_24 : ∀ (σ : gI) (τ : gJ) (x2 : Int32) (x3 : Int32), IC σ → (0 ≤ x3.toInt) → (2147483647 - x3.toInt).toNat < n_24 → okp (Kq σ τ (fun _ => True)) (rec_24 σ τ x2 x3)) (σ : gI) (τ : gJ) (x2 : Int32) (x3 : Int32) (hI : IC σ) (h0_24 : 0 ≤ x3.toInt) (hm_24 : (2147483647 - x3.toInt).toNat < n_24 + 1) : okp (Kq σ τ (fun _ => True)) (C_X8_read_24 N rec_24 σ τ x2 x3) := by
  unfold C_X8_read_24
  refine ok_ite (fun c_1 => ?_) (fun c_1 => ?_)
  · simp only [fa_lt, fa_le, fa_eq] at c_1
    exact ok_r ⟨trivial, (ks_rf σ), (kj_rf τ)⟩
  · simp only [fa_lt, fa_le, fa_eq] at c_1
    refine ok_bd (s_B_X8_readLine_0 N hN σ τ x2 ((ks_rf σ).1.2 hI)) (fun r_2 σ_2 τ_2 hp_2 => ?_)
    have k_2 : KS σ σ_2 := ks_tr (ks_rf σ) hp_2.2.1
    have kj_2 : KJ τ τ_2 := kj_tr (kj_rf τ) hp_2.2.2
    refine ok_ite (fun c_2 => ?_) (fun c_2 => ?_)
    · simp only [fa_lt, fa_le, fa_eq] at c_2
      refine ok_bd (s_B_X7_isOver_0 N hN σ_2 τ_2 r_2 (k_2.1.2 hI)) (fun r_4 σ_4 τ_4 hp_4 => ?_)
      have k_4 : KS σ σ_4 := ks_eq k_2 hp_4.2.1
      have kj_4 : KJ τ τ_4 := kj_eq kj_2 hp_4.2.2
      refine ok_ite (fun c_3 => ?_) (fun c_3 => ?_)
      · simp only [fa_lt, fa_le, fa_eq] at c_3
        refine ok_bd (s_B_X7_hasSign_0 N hN σ_4 τ_4 r_2 59 (k_4.1.2 hI)) (fun r_6 σ_6 τ_6 hp_6 => ?_)
        have k_6 : KS σ σ_6 := ks_eq k_4 hp_6.2.1
        have kj_6 : KJ τ τ_6 := kj_eq kj_4 hp_6.2.2
        refine ok_ite (fun c_4 => ?_) (fun c_4 => ?_)
        · simp only [fa_lt, fa_le, fa_eq] at c_4
          exact ok_r ⟨trivial, k_6, kj_6⟩
        · simp only [fa_lt, fa_le, fa_eq] at c_4
          refine ok_nm (fun v_8 e_8 => ?_)
          refine ok_nm (fun v_9 e_9 => ?_)
          exact ok_mono (fun _ _ _ h9 => ⟨h9.1, ks_tr k_6 h9.2.1, kj_tr kj_6 h9.2.2⟩) (hrec_24 σ_6 τ_6 v_8 v_9 (k_6.1.2 hI) (by have : (0 : Int32).toInt = 0 := rfl; have : (1 : Int32).toInt = 1 := rfl; have : (12 : Int32).toInt = 12 := rfl; have := i32_rng r_2; have := i32_rng r_4; have := i32_rng r_6; have := i32_rng v_9; have := i32_rng x3; have u_v_9 : v_9.toInt = (x3).toInt + 1 := (by rw [e_9]; have q := ti_add (a := x3) (b := 1) (by rw [show (1 : Int32).toInt = 1 from rfl]; omega) (by rw [show (1 : Int32).toInt = 1 from rfl]; omega); rw [q, show (1 : Int32).toInt = 1 from rfl]); omega) (by have : (0 : Int32).toInt = 0 := rfl; have : (1 : Int32).toInt = 1 := rfl; have : (12 : Int32).toInt = 12 := rfl; have := i32_rng r_2; have := i32_rng r_4; have := i32_rng r_6; have := i32_rng v_9; have := i32_rng x3; have u_v_9 : v_9.toInt = (x3).toInt + 1 := (by rw [e_9]; have q := ti_add (a := x3) (b := 1) (by rw [show (1 : Int32).toInt = 1 from rfl]; omega) (by rw [show (1 : Int32).toInt = 1 from rfl]; omega); rw [q, show (1 : Int32).toInt = 1 from rfl]); omega))
      · simp only [fa_lt, fa_le, fa_eq] at c_3
        refine ok_bd (s_B_X8_judgeLetters_0 N hN σ_4 τ_4 (k_4.1.2 hI)) (fun r_10 σ_10 τ_10 hp_10 => ?_)
        have k_10 : KS σ σ_10 := ks_eq k_4 hp_10.2.1
        have kj_10 : KJ τ τ_10 := kj_eq kj_4 hp_10.2.2
        exact ok_r ⟨trivial, k_10, kj_10⟩
    · simp only [fa_lt, fa_le, fa_eq] at c_2
      exact ok_r ⟨trivial, k_2, kj_2⟩
theorem s_H_X8_read_24 (N : Nat) (hN : 4294967296 ≤ N) : ∀ (n : Nat) (σ : gI) (τ : gJ) (x2 : Int32) (x3 : Int32), IC σ → (0 ≤ x3.toInt) → (2147483647 - x3.toInt).toNat < n → okp (Kq σ τ (fun _ => True)) (H_X8_read_24 N n σ τ x2 x3) := by
  intro n
  induction n with
  | zero => intro σ τ x2 x3 _ _ hm; exact absurd hm (Nat.not_lt_zero _)
  | succ n ih =>
    intro σ τ x2 x3 hI h0_24 hm
    exact s_C_X8_read_24 N hN (H_X8_read_24 N n) n ih σ τ x2 x3 hI h0_24 hm
set_option maxHeartbeats 2000000 in
theorem s_B_X8_read_0 (N : Nat) (hN : 4294967296 ≤ N) (σ : gI) (τ : gJ) (hI : IC σ) : okp (Kq σ τ (fun _ => True)) (B_X8_read_0 N σ τ) := by
  unfold B_X8_read_0
  refine ok_bd (s_B_X8_clear_0 N hN σ τ ((ks_rf σ).1.2 hI)) (fun _ σ_1 τ_1 hp_1 => ?_)
  have k_1 : KS σ σ_1 := ks_tr (ks_rf σ) hp_1.2.1
  have kj_1 : KJ τ τ_1 := kj_tr (kj_rf τ) hp_1.2.2
  refine ok_bd (s_B_X7_showAtMost_0 N hN σ_1 τ_1 76 (k_1.1.2 hI)) (fun _ σ_2 τ_2 hp_2 => ?_)
  have k_2 : KS σ σ_2 := ks_tr k_1 hp_2.2.1
  have kj_2 : KJ τ τ_2 := kj_tr kj_1 hp_2.2.2
  refine ok_bd (s_B_X7_isOver_0 N hN σ_2 τ_2 0 (k_2.1.2 hI)) (fun r_3 σ_3 τ_3 hp_3 => ?_)
  have k_3 : KS σ σ_3 := ks_eq k_2 hp_3.2.1
  have kj_3 : KJ τ τ_3 := kj_eq kj_2 hp_3.2.2
  refine ok_ite (fun c_1 => ?_) (fun c_1 => ?_)
  · simp only [fa_lt, fa_le, fa_eq] at c_1
    exact ok_mono (fun _ _ _ h9 => ⟨h9.1, ks_tr k_3 h9.2.1, kj_tr kj_3 h9.2.2⟩) (s_H_X8_read_24 N hN N σ_3 τ_3 0 0 (k_3.1.2 hI) (by have : (0 : Int32).toInt = 0 := rfl; have := i32_rng r_3; omega) (by have : (0 : Int32).toInt = 0 := rfl; have := i32_rng r_3; omega))
  · simp only [fa_lt, fa_le, fa_eq] at c_1
    exact ok_r ⟨trivial, k_3, kj_3⟩
set_option maxHeartbeats 2000000 in
theorem s_C_X8_copy_34 (N : Nat) (hN : 4294967296 ≤ N) (rec_34 : gI → gJ → Int32 → Option (Unit × gI × gJ)) (n_34 : Nat) (hrec_34 : ∀ (σ : gI) (τ : gJ) (x2 : Int32), IC σ → (0 ≤ x2.toInt) → (2147483647 - x2.toInt).toNat < n_34 → okp (Uq σ τ (fun _ => True)) (rec_34 σ τ x2)) (σ : gI) (τ : gJ) (x2 : Int32) (hI : IC σ) (h0_34 : 0 ≤ x2.toInt) (hm_34 : (2147483647 - x2.toInt).toNat < n_34 + 1) : okp (Uq σ τ (fun _ => True)) (C_X8_copy_34 N rec_34 σ τ x2) := by
  unfold C_X8_copy_34
  refine ok_ite (fun c_1 => ?_) (fun c_1 => ?_)
  · simp only [fa_lt, fa_le, fa_eq] at c_1
    exact ok_r ⟨trivial, (us_rf σ), (kj_rf τ)⟩
  · simp only [fa_lt, fa_le, fa_eq] at c_1
    refine ok_ck (by have : (0 : Int32).toInt = 0 := rfl; have : (12 : Int32).toInt = 12 := rfl; have := i32_rng x2; omega) (fun j_2 hj_2 lj_2 => ?_)
    refine ok_nm (fun σ_3 e_3 => ?_)
    have k_3 : US σ σ_3 := us_up (us_rf σ) e_3 (by omega) (by omega) (by omega)
    refine ok_nm (fun σ_4 e_4 => ?_)
    have k_4 : US σ σ_4 := us_up k_3 e_4 (by omega) (by omega) (by omega)
    refine ok_nm (fun σ_5 e_5 => ?_)
    have k_5 : US σ σ_5 := us_up k_4 e_5 (by omega) (by omega) (by omega)
    refine ok_nm (fun σ_6 e_6 => ?_)
    have k_6 : US σ σ_6 := us_up k_5 e_6 (by omega) (by omega) (by omega)
    refine ok_nm (fun v_7 e_7 => ?_)
    exact ok_mono (fun _ _ _ h9 => ⟨h9.1, us_tr k_6 h9.2.1, kj_tr (kj_rf τ) h9.2.2⟩) (hrec_34 σ_6 τ v_7 (k_6.1.2 hI) (by have : (0 : Int32).toInt = 0 := rfl; have : (1 : Int32).toInt = 1 := rfl; have : (12 : Int32).toInt = 12 := rfl; have := i32_rng v_7; have := i32_rng x2; have u_v_7 : v_7.toInt = (x2).toInt + 1 := (by rw [e_7]; have q := ti_add (a := x2) (b := 1) (by rw [show (1 : Int32).toInt = 1 from rfl]; omega) (by rw [show (1 : Int32).toInt = 1 from rfl]; omega); rw [q, show (1 : Int32).toInt = 1 from rfl]); omega) (by have : (1 : Int32).toInt = 1 := rfl; have : (12 : Int32).toInt = 12 := rfl; have := i32_rng v_7; have := i32_rng x2; have u_v_7 : v_7.toInt = (x2).toInt + 1 := (by rw [e_7]; have q := ti_add (a := x2) (b := 1) (by rw [show (1 : Int32).toInt = 1 from rfl]; omega) (by rw [show (1 : Int32).toInt = 1 from rfl]; omega); rw [q, show (1 : Int32).toInt = 1 from rfl]); omega))
theorem s_H_X8_copy_34 (N : Nat) (hN : 4294967296 ≤ N) : ∀ (n : Nat) (σ : gI) (τ : gJ) (x2 : Int32), IC σ → (0 ≤ x2.toInt) → (2147483647 - x2.toInt).toNat < n → okp (Uq σ τ (fun _ => True)) (H_X8_copy_34 N n σ τ x2) := by
  intro n
  induction n with
  | zero => intro σ τ x2 _ _ hm; exact absurd hm (Nat.not_lt_zero _)
  | succ n ih =>
    intro σ τ x2 hI h0_34 hm
    exact s_C_X8_copy_34 N hN (H_X8_copy_34 N n) n ih σ τ x2 hI h0_34 hm
set_option maxHeartbeats 2000000 in
theorem s_B_X8_copy_0 (N : Nat) (hN : 4294967296 ≤ N) (σ : gI) (τ : gJ) (hI : IC σ) : okp (Uq σ τ (fun _ => True)) (B_X8_copy_0 N σ τ) := by
  unfold B_X8_copy_0
  refine ok_nm (fun σ_1 e_1 => ?_)
  have k_1 : US σ σ_1 := us_up (us_rf σ) e_1 (by omega) (by omega) (by omega)
  refine ok_nm (fun σ_2 e_2 => ?_)
  have k_2 : US σ σ_2 := us_up k_1 e_2 (by omega) (by omega) (by omega)
  refine ok_nm (fun σ_3 e_3 => ?_)
  have k_3 : US σ σ_3 := us_up k_2 e_3 (by omega) (by omega) (by omega)
  refine ok_nm (fun σ_4 e_4 => ?_)
  have k_4 : US σ σ_4 := us_up k_3 e_4 (by omega) (by omega) (by omega)
  exact ok_mono (fun _ _ _ h9 => ⟨h9.1, us_tr k_4 h9.2.1, kj_tr (kj_rf τ) h9.2.2⟩) (s_H_X8_copy_34 N hN N σ_4 τ 0 (k_4.1.2 hI) (by have : (0 : Int32).toInt = 0 := rfl; omega) (by have : (0 : Int32).toInt = 0 := rfl; omega))
set_option maxHeartbeats 2000000 in
theorem s_B_X11_town_0 (N : Nat) (hN : 4294967296 ≤ N) (σ : gI) (τ : gJ) (hI : IC σ) : okp (Uq0 σ τ (fun _ => True)) (B_X11_town_0 N σ τ) := by
  unfold B_X11_town_0
  refine ok_bd (s_B_X8_read_0 N hN σ τ ((u0_rf σ).2 hI)) (fun r_1 σ_1 τ_1 hp_1 => ?_)
  have k_1 : U0 σ σ_1 := u0_tr (u0_rf σ) (ku_s0 hp_1.2.1)
  have kj_1 : KJ τ τ_1 := kj_tr (kj_rf τ) hp_1.2.2
  refine ok_bd (s_B_X7_cut_0 N hN σ_1 τ_1 0 (k_1.2 hI)) (fun r_2 σ_2 τ_2 hp_2 => ?_)
  have k_2 : U0 σ σ_2 := u0_tr k_1 (ku_00 hp_2.2.1)
  have kj_2 : KJ τ τ_2 := kj_tr kj_1 hp_2.2.2
  refine ok_ite (fun c_1 => ?_) (fun c_1 => ?_)
  · simp only [fa_lt, fa_le, fa_eq] at c_1
    refine ok_bd (s_B_X8_copy_0 N hN σ_2 τ_2 (k_2.2 hI)) (fun _ σ_4 τ_4 hp_4 => ?_)
    have k_4 : U0 σ σ_4 := u0_tr k_2 (us_0 hp_4.2.1)
    have kj_4 : KJ τ τ_4 := kj_tr kj_2 hp_4.2.2
    refine ok_bd (s_B_X6_clear_0 N hN 30 is_30 σ_4 τ_4 (k_4.2 hI)) (fun _ σ_5 τ_5 hp_5 => ?_)
    have k_5 : U0 σ σ_5 := u0_tr k_4 (ku_s0 hp_5.2.1)
    have kj_5 : KJ τ τ_5 := kj_tr kj_4 hp_5.2.2
    refine ok_bd (s_B_X3_clear_0 N hN σ_5 τ_5 (k_5.2 hI)) (fun _ σ_6 τ_6 hp_6 => ?_)
    have k_6 : U0 σ σ_6 := u0_tr k_5 (ku_s0 hp_6.2.1)
    have kj_6 : KJ τ τ_6 := kj_tr kj_5 hp_6.2.2
    refine ok_nm (fun σ_7 e_7 => ?_)
    have k_7 : U0 σ σ_7 := u0_up k_6 e_7 (by omega) (by omega)
    refine ok_nm (fun σ_8 e_8 => ?_)
    have k_8 : U0 σ σ_8 := u0_up k_7 e_8 (by omega) (by omega)
    exact ok_r ⟨trivial, k_8, kj_6⟩
  · simp only [fa_lt, fa_le, fa_eq] at c_1
    exact ok_r ⟨trivial, k_2, kj_2⟩
set_option maxHeartbeats 2000000 in
theorem s_B_X3_pop_18 (N : Nat) (hN : 4294967296 ≤ N) (d : Nat) (td : gx_isS d) (σ : gI) (τ : gJ) (y0 : Int32) (hI : IC σ) (h0 : 0 ≤ y0.toInt) : okp (Kq σ τ (fun a => a = 0 ∨ a = 1)) (B_X3_pop_18 N d σ τ y0) := by
  unfold B_X3_pop_18
  have hd := isS_rng td
  refine ok_ite (fun c_1 => ?_) (fun c_1 => ?_)
  · simp only [fa_lt, fa_le, fa_eq] at c_1
    exact ok_r ⟨(Or.inl rfl), (ks_rf σ), (kj_rf τ)⟩
  · simp only [fa_lt, fa_le, fa_eq] at c_1
    refine ok_ite (fun c_2 => ?_) (fun c_2 => ?_)
    · simp only [fa_lt, fa_le, fa_eq] at c_2
      refine ok_ck (by have : (0 : Int32).toInt = 0 := rfl; have : (2 : Int32).toInt = 2 := rfl; have : (15 : Int32).toInt = 15 := rfl; have : (44 : Int32).toInt = 44 := rfl; have := i32_rng (σ 44 2); have := i32_rng y0; omega) (fun j_3 hj_3 lj_3 => ?_)
      refine ok_bd (s_B_X6_copy_0 N hN d td (46 + 7 * j_3) (tb_past lj_3) σ τ ((ks_rf σ).1.2 hI)) (fun _ σ_4 τ_4 hp_4 => ?_)
      have k_4 : KS σ σ_4 := ks_tr (ks_rf σ) hp_4.2.1
      have kj_4 : KJ τ τ_4 := kj_tr (kj_rf τ) hp_4.2.2
      refine ok_nm (fun σ_5 e_5 => ?_)
      have k_5 : KS σ σ_5 := ks_up k_4 e_5 (by omega) (by omega) (by omega)
      refine ok_nm (fun σ_6 e_6 => ?_)
      have k_6 : KS σ σ_6 := ks_up k_5 e_6 (by omega) (by omega) (by omega)
      exact ok_r ⟨(Or.inr rfl), k_6, kj_4⟩
    · simp only [fa_lt, fa_le, fa_eq] at c_2
      exact ok_r ⟨(Or.inl rfl), (ks_rf σ), (kj_rf τ)⟩
set_option maxHeartbeats 2000000 in
theorem s_B_X3_pop_0 (N : Nat) (hN : 4294967296 ≤ N) (d : Nat) (td : gx_isS d) (σ : gI) (τ : gJ) (hI : IC σ) : okp (Kq σ τ (fun a => a = 0 ∨ a = 1)) (B_X3_pop_0 N d σ τ) := by
  unfold B_X3_pop_0
  have hd := isS_rng td
  refine ok_ite (fun c_1 => ?_) (fun c_1 => ?_)
  · simp only [fa_lt, fa_le, fa_eq] at c_1
    exact ok_mono (fun _ _ _ h9 => ⟨h9.1, ks_tr (ks_rf σ) h9.2.1, kj_tr (kj_rf τ) h9.2.2⟩) (s_B_X3_pop_18 N hN d td σ τ 14 ((ks_rf σ).1.2 hI) (by have : (0 : Int32).toInt = 0 := rfl; have : (1 : Int32).toInt = 1 := rfl; have : (14 : Int32).toInt = 14 := rfl; have : (44 : Int32).toInt = 44 := rfl; have := i32_rng (σ 44 1); omega))
  · simp only [fa_lt, fa_le, fa_eq] at c_1
    exact ok_mono (fun _ _ _ h9 => ⟨h9.1, ks_tr (ks_rf σ) h9.2.1, kj_tr (kj_rf τ) h9.2.2⟩) (s_B_X3_pop_18 N hN d td σ τ ((σ 44 1) - 1) ((ks_rf σ).1.2 hI) (by have : (0 : Int32).toInt = 0 := rfl; have : (1 : Int32).toInt = 1 := rfl; have : (44 : Int32).toInt = 44 := rfl; have := i32_rng (σ 44 1); have : ((σ 44 1) - (1 : Int32)).toInt = (σ 44 1).toInt - (1 : Int32).toInt := (ti_sub (by omega) (by omega)); omega))
set_option maxHeartbeats 2000000 in
theorem s_B_X11_undo_0 (N : Nat) (hN : 4294967296 ≤ N) (σ : gI) (τ : gJ) (hI : IC σ) : okp (Kq σ τ (fun _ => True)) (B_X11_undo_0 N σ τ) := by
  unfold B_X11_undo_0
  refine ok_bd (s_B_X3_pop_0 N hN 30 is_30 σ τ ((ks_rf σ).1.2 hI)) (fun r_1 σ_1 τ_1 hp_1 => ?_)
  have k_1 : KS σ σ_1 := ks_tr (ks_rf σ) hp_1.2.1
  have kj_1 : KJ τ τ_1 := kj_tr (kj_rf τ) hp_1.2.2
  refine ok_ite (fun c_1 => ?_) (fun c_1 => ?_)
  · simp only [fa_lt, fa_le, fa_eq] at c_1
    exact ok_r ⟨trivial, k_1, kj_1⟩
  · simp only [fa_lt, fa_le, fa_eq] at c_1
    exact ok_r ⟨trivial, k_1, kj_1⟩
set_option maxHeartbeats 2000000 in
theorem s_C_X11_waits_45 (N : Nat) (hN : 4294967296 ≤ N) (rec_45 : gI → gJ → Int32 → Int32 → Int32 → Int32 → Int32 → Int32 → Int32 → Int32 → Option (Int32 × gI × gJ)) (n_45 : Nat) (hrec_45 : ∀ (σ : gI) (τ : gJ) (x1 : Int32) (x2 : Int32) (x3 : Int32) (x4 : Int32) (x5 : Int32) (x6 : Int32) (x7 : Int32) (x8 : Int32), IC σ → (0 ≤ x8.toInt) → (2147483647 - x8.toInt).toNat < n_45 → okp (Kq σ τ (fun _ => True)) (rec_45 σ τ x1 x2 x3 x4 x5 x6 x7 x8)) (σ : gI) (τ : gJ) (x1 : Int32) (x2 : Int32) (x3 : Int32) (x4 : Int32) (x5 : Int32) (x6 : Int32) (x7 : Int32) (x8 : Int32) (hI : IC σ) (h0_45 : 0 ≤ x8.toInt) (hm_45 : (2147483647 - x8.toInt).toNat < n_45 + 1) : okp (Kq σ τ (fun _ => True)) (C_X11_waits_45 N rec_45 σ τ x1 x2 x3 x4 x5 x6 x7 x8) := by
  unfold C_X11_waits_45
  refine ok_ite (fun c_1 => ?_) (fun c_1 => ?_)
  · simp only [fa_lt, fa_le, fa_eq] at c_1
    refine ok_bd (s_B_X4_tell__0 N hN σ τ x6.toInt64 x7.toInt64 ((ks_rf σ).1.2 hI)) (fun _ σ_2 τ_2 hp_2 => ?_)
    have k_2 : KS σ σ_2 := ks_tr (ks_rf σ) hp_2.2.1
    have kj_2 : KJ τ τ_2 := kj_tr (kj_rf τ) hp_2.2.2
    exact ok_r ⟨trivial, k_2, kj_2⟩
  · simp only [fa_lt, fa_le, fa_eq] at c_1
    refine ok_bd (s_B_X11_sailed_0 N hN σ τ x1 x2 x3 x8 ((ks_rf σ).1.2 hI)) (fun r_3 σ_3 τ_3 hp_3 => ?_)
    have k_3 : KS σ σ_3 := ks_tr (ks_rf σ) hp_3.2.1
    have kj_3 : KJ τ τ_3 := kj_tr (kj_rf τ) hp_3.2.2
    refine ok_bd (s_B_X11_isIn_0 N hN σ_3 τ_3 r_3 x4 (k_3.1.2 hI)) (fun r_4 σ_4 τ_4 hp_4 => ?_)
    have k_4 : KS σ σ_4 := ks_eq k_3 hp_4.2.1
    have kj_4 : KJ τ τ_4 := kj_eq kj_3 hp_4.2.2
    refine ok_ite (fun c_2 => ?_) (fun c_2 => ?_)
    · simp only [fa_lt, fa_le, fa_eq] at c_2
      refine ok_nm (fun v_14 e_14 => ?_)
      exact ok_mono (fun _ _ _ h9 => ⟨h9.1, ks_tr k_4 h9.2.1, kj_tr kj_4 h9.2.2⟩) (hrec_45 σ_4 τ_4 x1 x2 x3 x4 x5 x6 x7 v_14 (k_4.1.2 hI) (by have : (0 : Int32).toInt = 0 := rfl; have : (1 : Int32).toInt = 1 := rfl; have : (30 : Int32).toInt = 30 := rfl; have := i32_rng r_4; have := i32_rng v_14; have := i32_rng x8; have u_v_14 : v_14.toInt = (x8).toInt + 1 := (by rw [e_14]; have q := ti_add (a := x8) (b := 1) (by rw [show (1 : Int32).toInt = 1 from rfl]; omega) (by rw [show (1 : Int32).toInt = 1 from rfl]; omega); rw [q, show (1 : Int32).toInt = 1 from rfl]); omega) (by have : (0 : Int32).toInt = 0 := rfl; have : (1 : Int32).toInt = 1 := rfl; have : (30 : Int32).toInt = 30 := rfl; have := i32_rng r_4; have := i32_rng v_14; have := i32_rng x8; have u_v_14 : v_14.toInt = (x8).toInt + 1 := (by rw [e_14]; have q := ti_add (a := x8) (b := 1) (by rw [show (1 : Int32).toInt = 1 from rfl]; omega) (by rw [show (1 : Int32).toInt = 1 from rfl]; omega); rw [q, show (1 : Int32).toInt = 1 from rfl]); omega))
    · simp only [fa_lt, fa_le, fa_eq] at c_2
      refine ok_nm (fun v_6 e_6 => ?_)
      refine ok_bd (s_B_X11_minutesOf_0 N hN σ_4 τ_4 r_3 (k_4.1.2 hI)) (fun r_7 σ_7 τ_7 hp_7 => ?_)
      have k_7 : KS σ σ_7 := ks_eq k_4 hp_7.2.1
      have kj_7 : KJ τ τ_7 := kj_eq kj_4 hp_7.2.2
      refine ok_nm (fun v_8 e_8 => ?_)
      refine ok_ite (fun c_3 => ?_) (fun c_3 => ?_)
      · simp only [fa_lt, fa_le, fa_eq] at c_3
        refine ok_nm (fun v_10 e_10 => ?_)
        exact ok_mono (fun _ _ _ h9 => ⟨h9.1, ks_tr k_7 h9.2.1, kj_tr kj_7 h9.2.2⟩) (hrec_45 σ_7 τ_7 x1 x2 x3 x4 v_6 x8 v_8 v_10 (k_7.1.2 hI) (by have : (-1 : Int32).toInt = -1 := rfl; have : (0 : Int32).toInt = 0 := rfl; have : (1 : Int32).toInt = 1 := rfl; have : (30 : Int32).toInt = 30 := rfl; have := i32_rng r_4; have := i32_rng v_10; have := i32_rng x6; have := i32_rng x8; have u_v_10 : v_10.toInt = (x8).toInt + 1 := (by rw [e_10]; have q := ti_add (a := x8) (b := 1) (by rw [show (1 : Int32).toInt = 1 from rfl]; omega) (by rw [show (1 : Int32).toInt = 1 from rfl]; omega); rw [q, show (1 : Int32).toInt = 1 from rfl]); omega) (by have : (-1 : Int32).toInt = -1 := rfl; have : (0 : Int32).toInt = 0 := rfl; have : (1 : Int32).toInt = 1 := rfl; have : (30 : Int32).toInt = 30 := rfl; have := i32_rng r_4; have := i32_rng v_10; have := i32_rng x6; have := i32_rng x8; have u_v_10 : v_10.toInt = (x8).toInt + 1 := (by rw [e_10]; have q := ti_add (a := x8) (b := 1) (by rw [show (1 : Int32).toInt = 1 from rfl]; omega) (by rw [show (1 : Int32).toInt = 1 from rfl]; omega); rw [q, show (1 : Int32).toInt = 1 from rfl]); omega))
      · simp only [fa_lt, fa_le, fa_eq] at c_3
        refine ok_ite (fun c_4 => ?_) (fun c_4 => ?_)
        · simp only [fa_lt, fa_le, fa_eq] at c_4
          refine ok_nm (fun v_12 e_12 => ?_)
          exact ok_mono (fun _ _ _ h9 => ⟨h9.1, ks_tr k_7 h9.2.1, kj_tr kj_7 h9.2.2⟩) (hrec_45 σ_7 τ_7 x1 x2 x3 x4 v_6 x6 x7 v_12 (k_7.1.2 hI) (by have : (-1 : Int32).toInt = -1 := rfl; have : (0 : Int32).toInt = 0 := rfl; have : (1 : Int32).toInt = 1 := rfl; have : (30 : Int32).toInt = 30 := rfl; have := imax_c 0 (r_7 - x8); have := i32_rng r_4; have := i32_rng r_7; have := i32_rng v_12; have := i32_rng v_8; have := i32_rng x6; have := i32_rng x7; have := i32_rng x8; have u_v_12 : v_12.toInt = (x8).toInt + 1 := (by rw [e_12]; have q := ti_add (a := x8) (b := 1) (by rw [show (1 : Int32).toInt = 1 from rfl]; omega) (by rw [show (1 : Int32).toInt = 1 from rfl]; omega); rw [q, show (1 : Int32).toInt = 1 from rfl]); have u_v_8 : v_8.toInt = (imax 0 (r_7 - x8)).toInt := (by rw [e_8]); omega) (by have : (-1 : Int32).toInt = -1 := rfl; have : (0 : Int32).toInt = 0 := rfl; have : (1 : Int32).toInt = 1 := rfl; have : (30 : Int32).toInt = 30 := rfl; have := imax_c 0 (r_7 - x8); have := i32_rng r_4; have := i32_rng r_7; have := i32_rng v_12; have := i32_rng v_8; have := i32_rng x6; have := i32_rng x7; have := i32_rng x8; have u_v_12 : v_12.toInt = (x8).toInt + 1 := (by rw [e_12]; have q := ti_add (a := x8) (b := 1) (by rw [show (1 : Int32).toInt = 1 from rfl]; omega) (by rw [show (1 : Int32).toInt = 1 from rfl]; omega); rw [q, show (1 : Int32).toInt = 1 from rfl]); have u_v_8 : v_8.toInt = (imax 0 (r_7 - x8)).toInt := (by rw [e_8]); omega))
        · simp only [fa_lt, fa_le, fa_eq] at c_4
          refine ok_nm (fun v_13 e_13 => ?_)
          exact ok_mono (fun _ _ _ h9 => ⟨h9.1, ks_tr k_7 h9.2.1, kj_tr kj_7 h9.2.2⟩) (hrec_45 σ_7 τ_7 x1 x2 x3 x4 v_6 x8 v_8 v_13 (k_7.1.2 hI) (by have : (-1 : Int32).toInt = -1 := rfl; have : (0 : Int32).toInt = 0 := rfl; have : (1 : Int32).toInt = 1 := rfl; have : (30 : Int32).toInt = 30 := rfl; have := imax_c 0 (r_7 - x8); have := i32_rng r_4; have := i32_rng r_7; have := i32_rng v_13; have := i32_rng v_8; have := i32_rng x6; have := i32_rng x7; have := i32_rng x8; have u_v_13 : v_13.toInt = (x8).toInt + 1 := (by rw [e_13]; have q := ti_add (a := x8) (b := 1) (by rw [show (1 : Int32).toInt = 1 from rfl]; omega) (by rw [show (1 : Int32).toInt = 1 from rfl]; omega); rw [q, show (1 : Int32).toInt = 1 from rfl]); have u_v_8 : v_8.toInt = (imax 0 (r_7 - x8)).toInt := (by rw [e_8]); omega) (by have : (-1 : Int32).toInt = -1 := rfl; have : (0 : Int32).toInt = 0 := rfl; have : (1 : Int32).toInt = 1 := rfl; have : (30 : Int32).toInt = 30 := rfl; have := imax_c 0 (r_7 - x8); have := i32_rng r_4; have := i32_rng r_7; have := i32_rng v_13; have := i32_rng v_8; have := i32_rng x6; have := i32_rng x7; have := i32_rng x8; have u_v_13 : v_13.toInt = (x8).toInt + 1 := (by rw [e_13]; have q := ti_add (a := x8) (b := 1) (by rw [show (1 : Int32).toInt = 1 from rfl]; omega) (by rw [show (1 : Int32).toInt = 1 from rfl]; omega); rw [q, show (1 : Int32).toInt = 1 from rfl]); have u_v_8 : v_8.toInt = (imax 0 (r_7 - x8)).toInt := (by rw [e_8]); omega))
theorem s_H_X11_waits_45 (N : Nat) (hN : 4294967296 ≤ N) : ∀ (n : Nat) (σ : gI) (τ : gJ) (x1 : Int32) (x2 : Int32) (x3 : Int32) (x4 : Int32) (x5 : Int32) (x6 : Int32) (x7 : Int32) (x8 : Int32), IC σ → (0 ≤ x8.toInt) → (2147483647 - x8.toInt).toNat < n → okp (Kq σ τ (fun _ => True)) (H_X11_waits_45 N n σ τ x1 x2 x3 x4 x5 x6 x7 x8) := by
  intro n
  induction n with
  | zero => intro σ τ x1 x2 x3 x4 x5 x6 x7 x8 _ _ hm; exact absurd hm (Nat.not_lt_zero _)
  | succ n ih =>
    intro σ τ x1 x2 x3 x4 x5 x6 x7 x8 hI h0_45 hm
    exact s_C_X11_waits_45 N hN (H_X11_waits_45 N n) n ih σ τ x1 x2 x3 x4 x5 x6 x7 x8 hI h0_45 hm
set_option maxHeartbeats 2000000 in
theorem s_B_X11_waits_0 (N : Nat) (hN : 4294967296 ≤ N) (σ : gI) (τ : gJ) (x1 : Int32) (x2 : Int32) (x3 : Int32) (x4 : Int32) (hI : IC σ) : okp (Kq σ τ (fun _ => True)) (B_X11_waits_0 N σ τ x1 x2 x3 x4) := by
  unfold B_X11_waits_0
  refine ok_bd (s_B_X8_has_0 N hN σ τ x1 ((ks_rf σ).1.2 hI)) (fun r_1 σ_1 τ_1 hp_1 => ?_)
  have k_1 : KS σ σ_1 := ks_eq (ks_rf σ) hp_1.2.1
  have kj_1 : KJ τ τ_1 := kj_eq (kj_rf τ) hp_1.2.2
  refine ok_ite (fun c_1 => ?_) (fun c_1 => ?_)
  · simp only [fa_lt, fa_le, fa_eq] at c_1
    exact ok_r ⟨trivial, k_1, kj_1⟩
  · simp only [fa_lt, fa_le, fa_eq] at c_1
    refine ok_bd (s_B_X11_isLoad_0 N hN σ_1 τ_1 x2 x3 (k_1.1.2 hI)) (fun r_3 σ_3 τ_3 hp_3 => ?_)
    have k_3 : KS σ σ_3 := ks_eq k_1 hp_3.2.1
    have kj_3 : KJ τ τ_3 := kj_eq kj_1 hp_3.2.2
    refine ok_ite (fun c_2 => ?_) (fun c_2 => ?_)
    · simp only [fa_lt, fa_le, fa_eq] at c_2
      exact ok_r ⟨trivial, k_3, kj_3⟩
    · simp only [fa_lt, fa_le, fa_eq] at c_2
      refine ok_bd (s_B_X8_isKitchen_0 N hN σ_3 τ_3 x4 (k_3.1.2 hI)) (fun r_5 σ_5 τ_5 hp_5 => ?_)
      have k_5 : KS σ σ_5 := ks_eq k_3 hp_5.2.1
      have kj_5 : KJ τ τ_5 := kj_eq kj_3 hp_5.2.2
      refine ok_ite (fun c_3 => ?_) (fun c_3 => ?_)
      · simp only [fa_lt, fa_le, fa_eq] at c_3
        exact ok_r ⟨trivial, k_5, kj_5⟩
      · simp only [fa_lt, fa_le, fa_eq] at c_3
        exact ok_mono (fun _ _ _ h9 => ⟨h9.1, ks_tr k_5 h9.2.1, kj_tr kj_5 h9.2.2⟩) (s_H_X11_waits_45 N hN N σ_5 τ_5 x1 x2 x3 x4 0 (-1) (-1) 0 (k_5.1.2 hI) (by have : (0 : Int32).toInt = 0 := rfl; have := i32_rng r_1; have := i32_rng r_3; have := i32_rng r_5; omega) (by have : (0 : Int32).toInt = 0 := rfl; have := i32_rng r_1; have := i32_rng r_3; have := i32_rng r_5; omega))
set_option maxHeartbeats 2000000 in
theorem s_B_X11_water_0 (N : Nat) (hN : 4294967296 ≤ N) (σ : gI) (τ : gJ) (hI : IC σ) : okp (Vq0 σ τ (fun _ => True)) (B_X11_water_0 N σ τ) := by
  unfold B_X11_water_0
  refine ok_bd (s_B_X10_read_0 N hN σ τ ((v0_rf σ).2 hI)) (fun r_1 σ_1 τ_1 hp_1 => ?_)
  have k_1 : V0 σ σ_1 := v0_tr (v0_rf σ) (vs_0 hp_1.2.1)
  have kj_1 : KJ τ τ_1 := kj_tr (kj_rf τ) hp_1.2.2
  refine ok_bd (s_B_X7_cut_0 N hN σ_1 τ_1 0 (k_1.2 hI)) (fun r_2 σ_2 τ_2 hp_2 => ?_)
  have k_2 : V0 σ σ_2 := v0_tr k_1 (kv_00 hp_2.2.1)
  have kj_2 : KJ τ τ_2 := kj_tr kj_1 hp_2.2.2
  exact ok_r ⟨trivial, k_2, kj_2⟩
set_option maxHeartbeats 2000000 in
theorem s_B_X11_ways_118 (N : Nat) (hN : 4294967296 ≤ N) (rec_73 : gI → gJ → Int32 → Int32 → Int32 → Int32 → Int32 → Int32 → Option (Int32 × gI × gJ)) (n_73 : Nat) (hrec_73 : ∀ (σ : gI) (τ : gJ) (x4 : Int32) (x5 : Int32) (x6 : Int32) (x7 : Int32) (x8 : Int32) (x9 : Int32), IC σ → (0 ≤ x9.toInt) → (2147483647 - x9.toInt).toNat < n_73 → okp (Kq σ τ (fun _ => True)) (rec_73 σ τ x4 x5 x6 x7 x8 x9)) (σ : gI) (τ : gJ) (x4 : Int32) (x5 : Int32) (x8 : Int32) (x9 : Int32) (y0 : Int32) (hI : IC σ) (h0_73 : 0 ≤ x9.toInt) (hm_73 : (2147483647 - x9.toInt).toNat < n_73 + 1) (hlt_73 : x9.toInt < 2147483647) : okp (Kq σ τ (fun _ => True)) (B_X11_ways_118 N rec_73 σ τ x4 x5 x8 x9 y0) := by
  unfold B_X11_ways_118
  refine ok_bd (s_B_X8_nextSet_0 N hN σ τ x8 ((ks_rf σ).1.2 hI)) (fun r_1 σ_1 τ_1 hp_1 => ?_)
  have k_1 : KS σ σ_1 := ks_eq (ks_rf σ) hp_1.2.1
  have kj_1 : KJ τ τ_1 := kj_eq (kj_rf τ) hp_1.2.2
  refine ok_nm (fun v_2 e_2 => ?_)
  exact ok_mono (fun _ _ _ h9 => ⟨h9.1, ks_tr k_1 h9.2.1, kj_tr kj_1 h9.2.2⟩) (hrec_73 σ_1 τ_1 x4 x5 y0 x8 r_1 v_2 (k_1.1.2 hI) (by have : (0 : Int32).toInt = 0 := rfl; have : (1 : Int32).toInt = 1 := rfl; have := i32_rng v_2; have := i32_rng x9; have u_v_2 : v_2.toInt = (x9).toInt + 1 := (by rw [e_2]; have q := ti_add (a := x9) (b := 1) (by rw [show (1 : Int32).toInt = 1 from rfl]; omega) (by rw [show (1 : Int32).toInt = 1 from rfl]; omega); rw [q, show (1 : Int32).toInt = 1 from rfl]); omega) (by have : (1 : Int32).toInt = 1 := rfl; have := i32_rng v_2; have := i32_rng x9; have u_v_2 : v_2.toInt = (x9).toInt + 1 := (by rw [e_2]; have q := ti_add (a := x9) (b := 1) (by rw [show (1 : Int32).toInt = 1 from rfl]; omega) (by rw [show (1 : Int32).toInt = 1 from rfl]; omega); rw [q, show (1 : Int32).toInt = 1 from rfl]); omega))
set_option maxHeartbeats 2000000 in
theorem s_C_X11_ways_73 (N : Nat) (hN : 4294967296 ≤ N) (rec_73 : gI → gJ → Int32 → Int32 → Int32 → Int32 → Int32 → Int32 → Option (Int32 × gI × gJ)) (n_73 : Nat) (hrec_73 : ∀ (σ : gI) (τ : gJ) (x4 : Int32) (x5 : Int32) (x6 : Int32) (x7 : Int32) (x8 : Int32) (x9 : Int32), IC σ → (0 ≤ x9.toInt) → (2147483647 - x9.toInt).toNat < n_73 → okp (Kq σ τ (fun _ => True)) (rec_73 σ τ x4 x5 x6 x7 x8 x9)) (σ : gI) (τ : gJ) (x4 : Int32) (x5 : Int32) (x6 : Int32) (x7 : Int32) (x8 : Int32) (x9 : Int32) (hI : IC σ) (h0_73 : 0 ≤ x9.toInt) (hm_73 : (2147483647 - x9.toInt).toNat < n_73 + 1) : okp (Kq σ τ (fun _ => True)) (C_X11_ways_73 N rec_73 σ τ x4 x5 x6 x7 x8 x9) := by
  unfold C_X11_ways_73
  refine ok_ite (fun c_1 => ?_) (fun c_1 => ?_)
  · simp only [fa_lt, fa_le, fa_eq] at c_1
    refine ok_bd (s_B_X4_tell__0 N hN σ τ x6.toInt64 x7.toInt64 ((ks_rf σ).1.2 hI)) (fun _ σ_2 τ_2 hp_2 => ?_)
    have k_2 : KS σ σ_2 := ks_tr (ks_rf σ) hp_2.2.1
    have kj_2 : KJ τ τ_2 := kj_tr (kj_rf τ) hp_2.2.2
    exact ok_r ⟨trivial, k_2, kj_2⟩
  · simp only [fa_lt, fa_le, fa_eq] at c_1
    refine ok_bd (s_B_X9_outcome_0 N hN σ τ x8 ((ks_rf σ).1.2 hI)) (fun r_3 σ_3 τ_3 hp_3 => ?_)
    have k_3 : KS σ σ_3 := ks_tr (ks_rf σ) hp_3.2.1
    have kj_3 : KJ τ τ_3 := kj_tr (kj_rf τ) hp_3.2.2
    refine ok_bd (s_B_X11_isIn_0 N hN σ_3 τ_3 r_3 x4 (k_3.1.2 hI)) (fun r_4 σ_4 τ_4 hp_4 => ?_)
    have k_4 : KS σ σ_4 := ks_eq k_3 hp_4.2.1
    have kj_4 : KJ τ τ_4 := kj_eq kj_3 hp_4.2.2
    refine ok_ite (fun c_2 => ?_) (fun c_2 => ?_)
    · simp only [fa_lt, fa_le, fa_eq] at c_2
      refine ok_bd (s_B_X8_nextSet_0 N hN σ_4 τ_4 x8 (k_4.1.2 hI)) (fun r_6 σ_6 τ_6 hp_6 => ?_)
      have k_6 : KS σ σ_6 := ks_eq k_4 hp_6.2.1
      have kj_6 : KJ τ τ_6 := kj_eq kj_4 hp_6.2.2
      refine ok_nm (fun v_7 e_7 => ?_)
      exact ok_mono (fun _ _ _ h9 => ⟨h9.1, ks_tr k_6 h9.2.1, kj_tr kj_6 h9.2.2⟩) (hrec_73 σ_6 τ_6 x4 x5 x6 x7 r_6 v_7 (k_6.1.2 hI) (by have : (0 : Int32).toInt = 0 := rfl; have : (1 : Int32).toInt = 1 := rfl; have : (3 : Int32).toInt = 3 := rfl; have : (8 : Int32).toInt = 8 := rfl; have := i32_rng (σ 3 8); have := i32_rng r_4; have := i32_rng v_7; have := i32_rng x9; have u_v_7 : v_7.toInt = (x9).toInt + 1 := (by rw [e_7]; have q := ti_add (a := x9) (b := 1) (by rw [show (1 : Int32).toInt = 1 from rfl]; omega) (by rw [show (1 : Int32).toInt = 1 from rfl]; omega); rw [q, show (1 : Int32).toInt = 1 from rfl]); omega) (by have : (0 : Int32).toInt = 0 := rfl; have : (1 : Int32).toInt = 1 := rfl; have : (3 : Int32).toInt = 3 := rfl; have : (8 : Int32).toInt = 8 := rfl; have := i32_rng (σ 3 8); have := i32_rng r_4; have := i32_rng v_7; have := i32_rng x9; have u_v_7 : v_7.toInt = (x9).toInt + 1 := (by rw [e_7]; have q := ti_add (a := x9) (b := 1) (by rw [show (1 : Int32).toInt = 1 from rfl]; omega) (by rw [show (1 : Int32).toInt = 1 from rfl]; omega); rw [q, show (1 : Int32).toInt = 1 from rfl]); omega))
    · simp only [fa_lt, fa_le, fa_eq] at c_2
      refine ok_nm (fun v_8 e_8 => ?_)
      refine ok_ite (fun c_3 => ?_) (fun c_3 => ?_)
      · simp only [fa_lt, fa_le, fa_eq] at c_3
        exact ok_mono (fun _ _ _ h9 => ⟨h9.1, ks_tr k_4 h9.2.1, kj_tr kj_4 h9.2.2⟩) (s_B_X11_ways_118 N hN rec_73 n_73 hrec_73 σ_4 τ_4 x4 v_8 x8 x9 x8 (k_4.1.2 hI) (by have : (-1 : Int32).toInt = -1 := rfl; have : (0 : Int32).toInt = 0 := rfl; have : (3 : Int32).toInt = 3 := rfl; have : (8 : Int32).toInt = 8 := rfl; have := i32_rng (σ 3 8); have := i32_rng r_4; have := i32_rng x6; have := i32_rng x9; omega) (by have : (-1 : Int32).toInt = -1 := rfl; have : (0 : Int32).toInt = 0 := rfl; have : (1 : Int32).toInt = 1 := rfl; have : (3 : Int32).toInt = 3 := rfl; have : (8 : Int32).toInt = 8 := rfl; have := i32_rng (σ 3 8); have := i32_rng r_4; have := i32_rng x6; have := i32_rng x9; omega) (by have : (-1 : Int32).toInt = -1 := rfl; have : (0 : Int32).toInt = 0 := rfl; have : (3 : Int32).toInt = 3 := rfl; have : (8 : Int32).toInt = 8 := rfl; have := i32_rng (σ 3 8); have := i32_rng r_4; have := i32_rng x6; have := i32_rng x9; omega))
      · simp only [fa_lt, fa_le, fa_eq] at c_3
        exact ok_mono (fun _ _ _ h9 => ⟨h9.1, ks_tr k_4 h9.2.1, kj_tr kj_4 h9.2.2⟩) (s_B_X11_ways_118 N hN rec_73 n_73 hrec_73 σ_4 τ_4 x4 v_8 x8 x9 x6 (k_4.1.2 hI) (by have : (-1 : Int32).toInt = -1 := rfl; have : (0 : Int32).toInt = 0 := rfl; have : (3 : Int32).toInt = 3 := rfl; have : (8 : Int32).toInt = 8 := rfl; have := i32_rng (σ 3 8); have := i32_rng r_4; have := i32_rng x6; have := i32_rng x9; omega) (by have : (-1 : Int32).toInt = -1 := rfl; have : (0 : Int32).toInt = 0 := rfl; have : (1 : Int32).toInt = 1 := rfl; have : (3 : Int32).toInt = 3 := rfl; have : (8 : Int32).toInt = 8 := rfl; have := i32_rng (σ 3 8); have := i32_rng r_4; have := i32_rng x6; have := i32_rng x9; omega) (by have : (-1 : Int32).toInt = -1 := rfl; have : (0 : Int32).toInt = 0 := rfl; have : (3 : Int32).toInt = 3 := rfl; have : (8 : Int32).toInt = 8 := rfl; have := i32_rng (σ 3 8); have := i32_rng r_4; have := i32_rng x6; have := i32_rng x9; omega))
theorem s_H_X11_ways_73 (N : Nat) (hN : 4294967296 ≤ N) : ∀ (n : Nat) (σ : gI) (τ : gJ) (x4 : Int32) (x5 : Int32) (x6 : Int32) (x7 : Int32) (x8 : Int32) (x9 : Int32), IC σ → (0 ≤ x9.toInt) → (2147483647 - x9.toInt).toNat < n → okp (Kq σ τ (fun _ => True)) (H_X11_ways_73 N n σ τ x4 x5 x6 x7 x8 x9) := by
  intro n
  induction n with
  | zero => intro σ τ x4 x5 x6 x7 x8 x9 _ _ hm; exact absurd hm (Nat.not_lt_zero _)
  | succ n ih =>
    intro σ τ x4 x5 x6 x7 x8 x9 hI h0_73 hm
    exact s_C_X11_ways_73 N hN (H_X11_ways_73 N n) n ih σ τ x4 x5 x6 x7 x8 x9 hI h0_73 hm
set_option maxHeartbeats 2000000 in
theorem s_B_X11_ways_0 (N : Nat) (hN : 4294967296 ≤ N) (σ : gI) (τ : gJ) (x1 : Int32) (x2 : Int32) (x3 : Int32) (x4 : Int32) (hI : IC σ) : okp (Kq σ τ (fun _ => True)) (B_X11_ways_0 N σ τ x1 x2 x3 x4) := by
  unfold B_X11_ways_0
  refine ok_bd (s_B_X8_has_0 N hN σ τ x1 ((ks_rf σ).1.2 hI)) (fun r_1 σ_1 τ_1 hp_1 => ?_)
  have k_1 : KS σ σ_1 := ks_eq (ks_rf σ) hp_1.2.1
  have kj_1 : KJ τ τ_1 := kj_eq (kj_rf τ) hp_1.2.2
  refine ok_ite (fun c_1 => ?_) (fun c_1 => ?_)
  · simp only [fa_lt, fa_le, fa_eq] at c_1
    exact ok_r ⟨trivial, k_1, kj_1⟩
  · simp only [fa_lt, fa_le, fa_eq] at c_1
    refine ok_bd (s_B_X11_isLoad_0 N hN σ_1 τ_1 x2 x3 (k_1.1.2 hI)) (fun r_3 σ_3 τ_3 hp_3 => ?_)
    have k_3 : KS σ σ_3 := ks_eq k_1 hp_3.2.1
    have kj_3 : KJ τ τ_3 := kj_eq kj_1 hp_3.2.2
    refine ok_ite (fun c_2 => ?_) (fun c_2 => ?_)
    · simp only [fa_lt, fa_le, fa_eq] at c_2
      exact ok_r ⟨trivial, k_3, kj_3⟩
    · simp only [fa_lt, fa_le, fa_eq] at c_2
      refine ok_bd (s_B_X8_isKitchen_0 N hN σ_3 τ_3 x4 (k_3.1.2 hI)) (fun r_5 σ_5 τ_5 hp_5 => ?_)
      have k_5 : KS σ σ_5 := ks_eq k_3 hp_5.2.1
      have kj_5 : KJ τ τ_5 := kj_eq kj_3 hp_5.2.2
      refine ok_ite (fun c_3 => ?_) (fun c_3 => ?_)
      · simp only [fa_lt, fa_le, fa_eq] at c_3
        exact ok_r ⟨trivial, k_5, kj_5⟩
      · simp only [fa_lt, fa_le, fa_eq] at c_3
        refine ok_bd (s_B_X9_thinkOf_0 N hN σ_5 τ_5 x1 x2 x3 0 (σ_5 30 8) (k_5.1.2 hI)) (fun _ σ_7 τ_7 hp_7 => ?_)
        have k_7 : KS σ σ_7 := ks_tr k_5 hp_7.2.1
        have kj_7 : KJ τ τ_7 := kj_tr kj_5 hp_7.2.2
        refine ok_bd (s_B_X9_forgetSets_0 N hN σ_7 τ_7 (k_7.1.2 hI)) (fun _ σ_8 τ_8 hp_8 => ?_)
        have k_8 : KS σ σ_8 := ks_tr k_7 hp_8.2.1
        have kj_8 : KJ τ τ_8 := kj_tr kj_7 hp_8.2.2
        exact ok_mono (fun _ _ _ h9 => ⟨h9.1, ks_tr k_8 h9.2.1, kj_tr kj_8 h9.2.2⟩) (s_H_X11_ways_73 N hN N σ_8 τ_8 x4 0 (-1) (-1) 0 0 (k_8.1.2 hI) (by have : (0 : Int32).toInt = 0 := rfl; have := i32_rng r_1; have := i32_rng r_3; have := i32_rng r_5; omega) (by have : (0 : Int32).toInt = 0 := rfl; have := i32_rng r_1; have := i32_rng r_3; have := i32_rng r_5; omega))
set_option maxHeartbeats 2000000 in
theorem s_B_X11_where_0 (N : Nat) (hN : 4294967296 ≤ N) (σ : gI) (τ : gJ) (x1 : Int32) (x2 : Int32) (hI : IC σ) : okp (Kq σ τ (fun _ => True)) (B_X11_where_0 N σ τ x1 x2) := by
  unfold B_X11_where_0
  refine ok_bd (s_B_X6_has_0 N hN 30 is_30 σ τ x1 ((ks_rf σ).1.2 hI)) (fun r_1 σ_1 τ_1 hp_1 => ?_)
  have k_1 : KS σ σ_1 := ks_eq (ks_rf σ) hp_1.2.1
  have kj_1 : KJ τ τ_1 := kj_eq (kj_rf τ) hp_1.2.2
  refine ok_ite (fun c_1 => ?_) (fun c_1 => ?_)
  · simp only [fa_lt, fa_le, fa_eq] at c_1
    exact ok_r ⟨trivial, k_1, kj_1⟩
  · simp only [fa_lt, fa_le, fa_eq] at c_1
    refine ok_bd (s_B_X11_isAhead_0 N hN σ_1 τ_1 x2 (k_1.1.2 hI)) (fun r_3 σ_3 τ_3 hp_3 => ?_)
    have k_3 : KS σ σ_3 := ks_eq k_1 hp_3.2.1
    have kj_3 : KJ τ τ_3 := kj_eq kj_1 hp_3.2.2
    have hb_3 :  (r_3.toInt = 0 ∨ r_3.toInt = 1) ∧ (r_3.toInt = 1 → 0 ≤ x2.toInt ∧ x2.toInt ≤ 300) := hp_3.1
    refine ok_ite (fun c_2 => ?_) (fun c_2 => ?_)
    · simp only [fa_lt, fa_le, fa_eq] at c_2
      exact ok_r ⟨trivial, k_3, kj_3⟩
    · simp only [fa_lt, fa_le, fa_eq] at c_2
      refine ok_bd (s_B_X9_goOn_0 N hN σ_3 τ_3 x2 (k_3.1.2 hI)) (fun _ σ_5 τ_5 hp_5 => ?_)
      have k_5 : KS σ σ_5 := ks_tr k_3 hp_5.2.1
      have kj_5 : KJ τ τ_5 := kj_tr kj_3 hp_5.2.2
      refine ok_bd (s_B_X6_fateOf_0 N hN 171 is_171 σ_5 τ_5 x1 (k_5.1.2 hI)) (fun r_6 σ_6 τ_6 hp_6 => ?_)
      have k_6 : KS σ σ_6 := ks_eq k_5 hp_6.2.1
      have kj_6 : KJ τ τ_6 := kj_eq kj_5 hp_6.2.2
      refine ok_bd (s_B_X6_paperOf_0 N hN 171 is_171 σ_6 τ_6 x1 (k_6.1.2 hI)) (fun r_7 σ_7 τ_7 hp_7 => ?_)
      have k_7 : KS σ σ_7 := ks_eq k_6 hp_7.2.1
      have kj_7 : KJ τ τ_7 := kj_eq kj_6 hp_7.2.2
      refine ok_bd (s_B_X6_purseOf_0 N hN 171 is_171 σ_7 τ_7 x1 (k_7.1.2 hI)) (fun r_8 σ_8 τ_8 hp_8 => ?_)
      have k_8 : KS σ σ_8 := ks_eq k_7 hp_8.2.1
      have kj_8 : KJ τ τ_8 := kj_eq kj_7 hp_8.2.2
      refine ok_bd (s_B_X4_tell___0 N hN σ_8 τ_8 r_6.toInt64 r_7.toInt64 r_8.toInt64 (k_8.1.2 hI)) (fun _ σ_9 τ_9 hp_9 => ?_)
      have k_9 : KS σ σ_9 := ks_tr k_8 hp_9.2.1
      have kj_9 : KJ τ τ_9 := kj_tr kj_8 hp_9.2.2
      refine ok_bd (s_B_X6_spotOf_0 N hN 171 is_171 σ_9 τ_9 x1 (k_9.1.2 hI)) (fun r_10 σ_10 τ_10 hp_10 => ?_)
      have k_10 : KS σ σ_10 := ks_eq k_9 hp_10.2.1
      have kj_10 : KJ τ τ_10 := kj_eq kj_9 hp_10.2.2
      exact ok_r ⟨trivial, k_10, kj_10⟩
set_option maxHeartbeats 2000000 in
theorem s_B_X4_numberAt_0 (N : Nat) (hN : 4294967296 ≤ N) (σ : gI) (τ : gJ) (x1 : Int32) (hI : IC σ) : okp (Kqe σ τ (fun _ => True)) (B_X4_numberAt_0 N σ τ x1) := by
  unfold B_X4_numberAt_0
  refine ok_ite (fun c_1 => ?_) (fun c_1 => ?_)
  · simp only [fa_lt, fa_le, fa_eq] at c_1
    exact ok_r ⟨trivial, (Eq.refl σ), (Eq.refl τ)⟩
  · simp only [fa_lt, fa_le, fa_eq] at c_1
    refine ok_ite (fun c_2 => ?_) (fun c_2 => ?_)
    · simp only [fa_lt, fa_le, fa_eq] at c_2
      exact ok_r ⟨trivial, (Eq.refl σ), (Eq.refl τ)⟩
    · simp only [fa_lt, fa_le, fa_eq] at c_2
      refine ok_ite (fun c_3 => ?_) (fun c_3 => ?_)
      · simp only [fa_lt, fa_le, fa_eq] at c_3
        exact ok_r ⟨trivial, (Eq.refl σ), (Eq.refl τ)⟩
      · simp only [fa_lt, fa_le, fa_eq] at c_3
        refine ok_ck (by have : (0 : Int32).toInt = 0 := rfl; have : (1 : Int32).toInt = 1 := rfl; have : (3 : Int32).toInt = 3 := rfl; have : (156 : Int32).toInt = 156 := rfl; have := i32_rng (σ 156 1); have := i32_rng x1; omega) (fun j_4 hj_4 lj_4 => ?_)
        exact ok_r ⟨trivial, (Eq.refl σ), (Eq.refl τ)⟩
set_option maxHeartbeats 2000000 in
theorem s_B_X6_endedIn_0 (N : Nat) (hN : 4294967296 ≤ N) (c : Nat) (tc : gx_isS c) (σ : gI) (τ : gJ) (x1 : Int32) (hI : IC σ) : okp (Kqe σ τ (fun _ => True)) (B_X6_endedIn_0 N c σ τ x1) := by
  unfold B_X6_endedIn_0
  have hc := isS_rng tc
  refine ok_ite (fun c_1 => ?_) (fun c_1 => ?_)
  · simp only [fa_lt, fa_le, fa_eq] at c_1
    exact ok_r ⟨trivial, (Eq.refl σ), (Eq.refl τ)⟩
  · simp only [fa_lt, fa_le, fa_eq] at c_1
    refine ok_ite (fun c_2 => ?_) (fun c_2 => ?_)
    · simp only [fa_lt, fa_le, fa_eq] at c_2
      exact ok_r ⟨trivial, (Eq.refl σ), (Eq.refl τ)⟩
    · simp only [fa_lt, fa_le, fa_eq] at c_2
      refine ok_ck (by have : (0 : Int32).toInt = 0 := rfl; have : (6 : Int32).toInt = 6 := rfl; have := i32_rng x1; omega) (fun j_3 hj_3 lj_3 => ?_)
      exact ok_r ⟨trivial, (Eq.refl σ), (Eq.refl τ)⟩
set_option maxHeartbeats 2000000 in
theorem s_B_X6_startsIn_0 (N : Nat) (hN : 4294967296 ≤ N) (c : Nat) (tc : gx_isS c) (σ : gI) (τ : gJ) (x1 : Int32) (hI : IC σ) : okp (Kqe σ τ (fun _ => True)) (B_X6_startsIn_0 N c σ τ x1) := by
  unfold B_X6_startsIn_0
  have hc := isS_rng tc
  refine ok_ite (fun c_1 => ?_) (fun c_1 => ?_)
  · simp only [fa_lt, fa_le, fa_eq] at c_1
    exact ok_r ⟨trivial, (Eq.refl σ), (Eq.refl τ)⟩
  · simp only [fa_lt, fa_le, fa_eq] at c_1
    refine ok_ite (fun c_2 => ?_) (fun c_2 => ?_)
    · simp only [fa_lt, fa_le, fa_eq] at c_2
      exact ok_r ⟨trivial, (Eq.refl σ), (Eq.refl τ)⟩
    · simp only [fa_lt, fa_le, fa_eq] at c_2
      refine ok_ck (by have : (0 : Int32).toInt = 0 := rfl; have : (6 : Int32).toInt = 6 := rfl; have := i32_rng x1; omega) (fun j_3 hj_3 lj_3 => ?_)
      exact ok_r ⟨trivial, (Eq.refl σ), (Eq.refl τ)⟩
