set_option maxHeartbeats 4000000 in
set_option maxRecDepth 100000 in
theorem c_in (l : Launch) {E : gE} (σ : gI) (τ : gJ) (v : Int32) (a b : Int64) (lo hi : Int) (ha : a.toInt = lo) (hb9 : b.toInt = hi) : gx_Mi l yX12_in cX12_in 6 (some .boolean) 0 gx_tb E (σ) (τ) [.long v.toInt64, .long a, .long b] (fun r σ1 τ1 => r = (if lo ≤ v.toInt ∧ v.toInt ≤ hi then 1 else 0) ∧ σ1 = σ ∧ τ1 = τ) := by
  refine gx_bi (by decide +kernel) (Nat.le_of_ble_eq_true rfl) ?_
  intro P9 e9 s m9 below meth C9 S hr hlk hK hw ls hl
  have S : CallFix P9 m9 C9 cX12_in 6 s _ gx_G RX12 := S
  have hx := S.1
  have hb := S.2.1
  have hl : lv_has ls 6 [(0, .long v.toInt64), (2, .long a), (4, .long b)] := hl
  refine lv_lload_n hx hb dX12_in_0 rfl (lv_at hl 0 rfl) ?_
  refine lv_lload_n hx hb dX12_in_1 rfl (lv_at hl 1 rfl) ?_
  refine W.lcmp hx hb dX12_in_2 ?_
  refine lv_if_lt (tgt := 17) hx hb dX12_in_3 (by decide) (fun c_1 => ?_) (fun c_1 => ?_)
  · refine lv_iconst (v := 0) hx hb dX12_in_17 (by decide) ?_
    exact gx_ri (post := fun r σ1 τ1 => r = (if lo ≤ v.toInt ∧ v.toInt ≤ hi then 1 else 0) ∧ σ1 = σ ∧ τ1 = τ) (v := 0) S hr hlk hw rfl dX12_in_18 ⟨(by simp only [gx_cl, gx_cg] at c_1; rw [Int32.toInt_toInt64] at c_1; exact (if_neg (by omega)).symm), rfl, rfl⟩
  · refine lv_lload_n hx hb dX12_in_6 rfl (lv_at hl 0 rfl) ?_
    refine lv_lload hx hb dX12_in_7 (lv_at hl 2 rfl) ?_
    refine W.lcmp hx hb dX12_in_9 ?_
    refine lv_if_gt (tgt := 17) hx hb dX12_in_10 (by decide) (fun c_2 => ?_) (fun c_2 => ?_)
    · refine lv_iconst (v := 0) hx hb dX12_in_17 (by decide) ?_
      exact gx_ri (post := fun r σ1 τ1 => r = (if lo ≤ v.toInt ∧ v.toInt ≤ hi then 1 else 0) ∧ σ1 = σ ∧ τ1 = τ) (v := 0) S hr hlk hw rfl dX12_in_18 ⟨(by simp only [gx_cl, gx_cg] at c_1 c_2; rw [Int32.toInt_toInt64] at c_1 c_2; exact (if_neg (by omega)).symm), rfl, rfl⟩
    · refine lv_iconst (v := 1) hx hb dX12_in_13 (by decide) ?_
      refine lv_goto (tgt := 18) hx hb dX12_in_14 (by decide) ?_
      exact gx_ri (post := fun r σ1 τ1 => r = (if lo ≤ v.toInt ∧ v.toInt ≤ hi then 1 else 0) ∧ σ1 = σ ∧ τ1 = τ) (v := 1) S hr hlk hw rfl dX12_in_18 ⟨(by simp only [gx_cl, gx_cg] at c_1 c_2; rw [Int32.toInt_toInt64] at c_1 c_2; exact (if_pos (by omega)).symm), rfl, rfl⟩
set_option maxHeartbeats 4000000 in
set_option maxRecDepth 100000 in
theorem c_flag0 (l : Launch) {E : gE} (σ : gI) (τ : gJ)   : gx_Mi l yX12_flag cX12_flag 1 (some .int) 0 gx_tb E (σ) (τ) [.int 0] (fun r σ1 τ1 => r = 0 ∧ σ1 = σ ∧ τ1 = τ) := by
  refine gx_bi (by decide +kernel) (Nat.le_of_ble_eq_true rfl) ?_
  intro P9 e9 s m9 below meth C9 S hr hlk hK hw ls hl
  have S : CallFix P9 m9 C9 cX12_flag 1 s _ gx_G RX12 := S
  have hx := S.1
  have hb := S.2.1
  have hl : lv_has ls 1 [(0, .int 0)] := hl
  refine lv_iload_n hx hb dX12_flag_0 rfl (lv_at hl 0 rfl) ?_
  refine lv_if_eq (tgt := 8) hx hb dX12_flag_1 (by decide) (fun _ => ?_) (fun h => absurd (by decide) h)
  refine lv_iconst (v := 0) hx hb dX12_flag_8 (by decide) ?_
  exact gx_ri (post := fun r σ1 τ1 => r = 0 ∧ σ1 = σ ∧ τ1 = τ) (v := 0) S hr hlk hw rfl dX12_flag_9 ⟨rfl, rfl, rfl⟩
set_option maxHeartbeats 4000000 in
set_option maxRecDepth 100000 in
theorem c_flag1 (l : Launch) {E : gE} (σ : gI) (τ : gJ)   : gx_Mi l yX12_flag cX12_flag 1 (some .int) 0 gx_tb E (σ) (τ) [.int 1] (fun r σ1 τ1 => r = 1 ∧ σ1 = σ ∧ τ1 = τ) := by
  refine gx_bi (by decide +kernel) (Nat.le_of_ble_eq_true rfl) ?_
  intro P9 e9 s m9 below meth C9 S hr hlk hK hw ls hl
  have S : CallFix P9 m9 C9 cX12_flag 1 s _ gx_G RX12 := S
  have hx := S.1
  have hb := S.2.1
  have hl : lv_has ls 1 [(0, .int 1)] := hl
  refine lv_iload_n hx hb dX12_flag_0 rfl (lv_at hl 0 rfl) ?_
  refine lv_if_eq (tgt := 8) hx hb dX12_flag_1 (by decide) (fun h => absurd h (by decide)) (fun _ => ?_)
  refine lv_iconst (v := 1) hx hb dX12_flag_4 (by decide) ?_
  refine lv_goto (tgt := 9) hx hb dX12_flag_5 (by decide) ?_
  exact gx_ri (post := fun r σ1 τ1 => r = 1 ∧ σ1 = σ ∧ τ1 = τ) (v := 1) S hr hlk hw rfl dX12_flag_9 ⟨rfl, rfl, rfl⟩
set_option maxHeartbeats 4000000 in
set_option maxRecDepth 100000 in
theorem c_has0 (l : Launch) {E : gE} (σ : gI) (τ : gJ) (k : Int32)  : gx_Mi l yX12_has cX12_has 2 (some .boolean) 0 gx_tb E (σ) (τ) [.int 0, .int k] (fun r σ1 τ1 => r = 0 ∧ σ1 = σ ∧ τ1 = τ) := by
  refine gx_bi (by decide +kernel) (Nat.le_of_ble_eq_true rfl) ?_
  intro P9 e9 s m9 below meth C9 S hr hlk hK hw ls hl
  have S : CallFix P9 m9 C9 cX12_has 2 s _ gx_G RX12 := S
  have hx := S.1
  have hb := S.2.1
  have hl : lv_has ls 2 [(0, .int 0), (1, .int k)] := hl
  refine lv_iload_n hx hb dX12_has_0 rfl (lv_at hl 0 rfl) ?_
  refine lv_iload_n hx hb dX12_has_1 rfl (lv_at hl 1 rfl) ?_
  refine lv_ishr hx hb dX12_has_2 ?_
  refine gx_top (v := 0) (by exact gx_0shr _) ?_
  refine lv_iconst (v := 1) hx hb dX12_has_3 (by decide) ?_
  refine lv_iand hx hb dX12_has_4 ?_
  refine gx_top (v := 0) (by decide) ?_
  refine lv_iconst (v := 1) hx hb dX12_has_5 (by decide) ?_
  refine lv_icmp_ne (tgt := 13) hx hb dX12_has_6 (by decide) (fun _ => ?_) (fun h => absurd h (by decide))
  refine lv_iconst (v := 0) hx hb dX12_has_13 (by decide) ?_
  exact gx_ri (post := fun r σ1 τ1 => r = 0 ∧ σ1 = σ ∧ τ1 = τ) (v := 0) S hr hlk hw rfl dX12_has_14 ⟨rfl, rfl, rfl⟩
set_option maxHeartbeats 4000000 in
set_option maxRecDepth 100000 in
theorem c_isPlace (l : Launch) {E : gE} (σ : gI) (τ : gJ) (p : Int32) (h_199_3 : σ 199 3 = 0) : gx_Mi l yX12_isPlace cX12_isPlace 2 (some .boolean) 1 gx_tb E (σ) (τ) [.ref (E.2.2 + 199), .int p] (fun r σ1 τ1 => r = 0 ∧ σ1 = σ ∧ τ1 = τ) := by
  refine gx_bi (by decide +kernel) (Nat.le_of_ble_eq_true rfl) ?_
  intro P9 e9 s m9 below meth C9 S hr hlk hK hw ls hl
  have S : CallFix P9 m9 C9 cX12_isPlace 2 s _ gx_G RX12 := S
  have hx := S.1
  have hb := S.2.1
  have hl : lv_has ls 2 [(0, .ref (E.2.2 + 199)), (1, .int p)] := hl
  refine lv_iload_n hx hb dX12_isPlace_0 rfl (lv_at hl 1 rfl) ?_
  refine lv_i2l (v := p.toInt64) hx hb dX12_isPlace_1 rfl ?_
  refine lv_lconst (v := 0) hx hb dX12_isPlace_2 (by decide) ?_
  refine lv_aload_n hx hb dX12_isPlace_3 rfl (lv_at hl 0 rfl) ?_
  refine gx_get S hK hw t_199 cl_13 3 (by decide) rfl mw_1417 rfl dX12_isPlace_4 ?_
  refine gx_top (v := 0) (by first | rfl | decide | simp [up2, gs0, h_199_3]) ?_
  refine lv_iconst (v := 1) hx hb dX12_isPlace_7 (by decide) ?_
  refine lv_isub hx hb dX12_isPlace_8 ?_
  refine gx_top (v := (-1)) (by decide) ?_
  refine lv_i2l (v := (-1)) hx hb dX12_isPlace_9 (by decide) ?_
  refine gx_cSi (As := [.long p.toInt64, .long 0, .long (-1)]) (rest := []) S hK gx_ok hw (c_in l (E := E) (σ) (τ) p 0 (-1) 0 (-1) (by first | rfl | decide | simp [up2, gs0, h_199_3]) (by first | rfl | decide | simp [up2, gs0, h_199_3])) cw_X12_129 ⟨Nat.le_of_ble_eq_true rfl, Nat.le_of_ble_eq_true rfl⟩ rfl hl.1 rfl (Nat.le_of_ble_eq_true rfl) ⟨Nat.le_of_ble_eq_true rfl, Nat.le_of_ble_eq_true rfl⟩ dX12_isPlace_10 (fun r_1 σ_1 τ_1 H locs hp hw => ?_)
  obtain ⟨er_1, es_1, et_1⟩ := hp
  obtain rfl := er_1.symm
  obtain rfl := es_1.symm
  obtain rfl := et_1.symm
  by_cases c_2 : 0 ≤ p.toInt ∧ p.toInt ≤ (-1)
  · refine gx_top (v := 1) (if_pos c_2) ?_
    exact gx_ri (post := fun r σ1 τ1 => r = 0 ∧ σ1 = σ ∧ τ1 = τ) (v := 1) S hr hlk hw rfl dX12_isPlace_13 ⟨(by exfalso; omega), (by first | rfl | simp [up2, upJ]), (by first | rfl | simp [up2, upJ])⟩
  · refine gx_top (v := 0) ((if_neg c_2).trans (rfl)) ?_
    exact gx_ri (post := fun r σ1 τ1 => r = 0 ∧ σ1 = σ ∧ τ1 = τ) (v := 0) S hr hlk hw rfl dX12_isPlace_13 ⟨rfl, (by first | rfl | simp [up2, upJ]), (by first | rfl | simp [up2, upJ])⟩
set_option maxHeartbeats 4000000 in
set_option maxRecDepth 100000 in
theorem c_isFork (l : Launch) {E : gE} (σ : gI) (τ : gJ) (p : Int32) (h_199_3 : σ 199 3 = 0) : gx_Mi l yX12_isFork cX12_isFork 2 (some .boolean) 2 gx_tb E (σ) (τ) [.ref (E.2.2 + 199), .int p] (fun r σ1 τ1 => r = 0 ∧ σ1 = σ ∧ τ1 = τ) := by
  refine gx_bi (by decide +kernel) (Nat.le_of_ble_eq_true rfl) ?_
  intro P9 e9 s m9 below meth C9 S hr hlk hK hw ls hl
  have S : CallFix P9 m9 C9 cX12_isFork 2 s _ gx_G RX12 := S
  have hx := S.1
  have hb := S.2.1
  have hl : lv_has ls 2 [(0, .ref (E.2.2 + 199)), (1, .int p)] := hl
  refine lv_aload_n hx hb dX12_isFork_0 rfl (lv_at hl 0 rfl) ?_
  refine lv_iload_n hx hb dX12_isFork_1 rfl (lv_at hl 1 rfl) ?_
  refine gx_cVi (As := [.int p]) (rest := []) S hK gx_ok hw (c_isPlace l (E := E) (σ) (τ) p (by first | rfl | decide | simp [up2, gs0, h_199_3])) cw_X12_133 t_199 cl_13 ⟨Nat.le_of_ble_eq_true rfl, Nat.le_of_ble_eq_true rfl⟩ rfl hl.1 rfl (Nat.le_of_ble_eq_true rfl) ⟨Nat.le_of_ble_eq_true rfl, Nat.le_of_ble_eq_true rfl⟩ dX12_isFork_2 (fun r_1 σ_1 τ_1 H locs hp hw => ?_)
  obtain ⟨er_1, es_1, et_1⟩ := hp
  obtain rfl := er_1.symm
  obtain rfl := es_1.symm
  obtain rfl := et_1.symm
  refine lv_if_eq (tgt := 22) hx hb dX12_isFork_5 (by decide) (fun _ => ?_) (fun h => absurd (by decide) h)
  refine lv_iconst (v := 0) hx hb dX12_isFork_22 (by decide) ?_
  exact gx_ri (post := fun r σ1 τ1 => r = 0 ∧ σ1 = σ ∧ τ1 = τ) (v := 0) S hr hlk hw rfl dX12_isFork_23 ⟨rfl, (by first | rfl | simp [up2, upJ]), (by first | rfl | simp [up2, upJ])⟩
set_option maxHeartbeats 4000000 in
set_option maxRecDepth 100000 in
theorem c_isKitchen (l : Launch) {E : gE} (σ : gI) (τ : gJ) (p : Int32) (h_199_3 : σ 199 3 = 0) : gx_Mi l yX12_isKitchen cX12_isKitchen 2 (some .boolean) 2 gx_tb E (σ) (τ) [.ref (E.2.2 + 199), .int p] (fun r σ1 τ1 => r = 0 ∧ σ1 = σ ∧ τ1 = τ) := by
  refine gx_bi (by decide +kernel) (Nat.le_of_ble_eq_true rfl) ?_
  intro P9 e9 s m9 below meth C9 S hr hlk hK hw ls hl
  have S : CallFix P9 m9 C9 cX12_isKitchen 2 s _ gx_G RX12 := S
  have hx := S.1
  have hb := S.2.1
  have hl : lv_has ls 2 [(0, .ref (E.2.2 + 199)), (1, .int p)] := hl
  refine lv_aload_n hx hb dX12_isKitchen_0 rfl (lv_at hl 0 rfl) ?_
  refine lv_iload_n hx hb dX12_isKitchen_1 rfl (lv_at hl 1 rfl) ?_
  refine gx_cVi (As := [.int p]) (rest := []) S hK gx_ok hw (c_isPlace l (E := E) (σ) (τ) p (by first | rfl | decide | simp [up2, gs0, h_199_3])) cw_X12_133 t_199 cl_13 ⟨Nat.le_of_ble_eq_true rfl, Nat.le_of_ble_eq_true rfl⟩ rfl hl.1 rfl (Nat.le_of_ble_eq_true rfl) ⟨Nat.le_of_ble_eq_true rfl, Nat.le_of_ble_eq_true rfl⟩ dX12_isKitchen_2 (fun r_1 σ_1 τ_1 H locs hp hw => ?_)
  obtain ⟨er_1, es_1, et_1⟩ := hp
  obtain rfl := er_1.symm
  obtain rfl := es_1.symm
  obtain rfl := et_1.symm
  refine lv_if_eq (tgt := 23) hx hb dX12_isKitchen_5 (by decide) (fun _ => ?_) (fun h => absurd (by decide) h)
  refine lv_iconst (v := 0) hx hb dX12_isKitchen_23 (by decide) ?_
  exact gx_ri (post := fun r σ1 τ1 => r = 0 ∧ σ1 = σ ∧ τ1 = τ) (v := 0) S hr hlk hw rfl dX12_isKitchen_24 ⟨rfl, (by first | rfl | simp [up2, upJ]), (by first | rfl | simp [up2, upJ])⟩
set_option maxHeartbeats 4000000 in
set_option maxRecDepth 100000 in
theorem c_isThing (l : Launch) {E : gE} (σ : gI) (τ : gJ) (i : Int32) (h_206_44 : σ 206 44 = 0) : gx_Mi l yX12_isThing cX12_isThing 2 (some .boolean) 1 gx_tb E (σ) (τ) [.ref (E.2.2 + 199), .int i] (fun r σ1 τ1 => r = 0 ∧ σ1 = σ ∧ τ1 = τ) := by
  refine gx_bi (by decide +kernel) (Nat.le_of_ble_eq_true rfl) ?_
  intro P9 e9 s m9 below meth C9 S hr hlk hK hw ls hl
  have S : CallFix P9 m9 C9 cX12_isThing 2 s _ gx_G RX12 := S
  have hx := S.1
  have hb := S.2.1
  have hl : lv_has ls 2 [(0, .ref (E.2.2 + 199)), (1, .int i)] := hl
  refine lv_iload_n hx hb dX12_isThing_0 rfl (lv_at hl 1 rfl) ?_
  refine lv_i2l (v := i.toInt64) hx hb dX12_isThing_1 rfl ?_
  refine lv_lconst (v := 0) hx hb dX12_isThing_2 (by decide) ?_
  refine lv_aload_n hx hb dX12_isThing_3 rfl (lv_at hl 0 rfl) ?_
  refine gx_getr (j := 206) S hK hw t_199 cl_13 10 (by decide) rfl mw_1424 rfl dX12_isThing_4 ?_
  refine lv_bipush (v := 44) hx hb dX12_isThing_7 (by decide) ?_
  refine gx_iald S hK hw t_206 44 rfl (gx_in rfl (by decide) (by decide)) dX12_isThing_9 ?_
  refine gx_top (v := 0) (by first | rfl | decide | simp [up2, gs0, h_206_44]) ?_
  refine lv_iconst (v := 1) hx hb dX12_isThing_10 (by decide) ?_
  refine lv_isub hx hb dX12_isThing_11 ?_
  refine gx_top (v := (-1)) (by decide) ?_
  refine lv_i2l (v := (-1)) hx hb dX12_isThing_12 (by decide) ?_
  refine gx_cSi (As := [.long i.toInt64, .long 0, .long (-1)]) (rest := []) S hK gx_ok hw (c_in l (E := E) (σ) (τ) i 0 (-1) 0 (-1) (by first | rfl | decide | simp [up2, gs0, h_206_44]) (by first | rfl | decide | simp [up2, gs0, h_206_44])) cw_X12_129 ⟨Nat.le_of_ble_eq_true rfl, Nat.le_of_ble_eq_true rfl⟩ rfl hl.1 rfl (Nat.le_of_ble_eq_true rfl) ⟨Nat.le_of_ble_eq_true rfl, Nat.le_of_ble_eq_true rfl⟩ dX12_isThing_13 (fun r_1 σ_1 τ_1 H locs hp hw => ?_)
  obtain ⟨er_1, es_1, et_1⟩ := hp
  obtain rfl := er_1.symm
  obtain rfl := es_1.symm
  obtain rfl := et_1.symm
  by_cases c_2 : 0 ≤ i.toInt ∧ i.toInt ≤ (-1)
  · refine gx_top (v := 1) (if_pos c_2) ?_
    exact gx_ri (post := fun r σ1 τ1 => r = 0 ∧ σ1 = σ ∧ τ1 = τ) (v := 1) S hr hlk hw rfl dX12_isThing_16 ⟨(by exfalso; omega), (by first | rfl | simp [up2, upJ]), (by first | rfl | simp [up2, upJ])⟩
  · refine gx_top (v := 0) ((if_neg c_2).trans (rfl)) ?_
    exact gx_ri (post := fun r σ1 τ1 => r = 0 ∧ σ1 = σ ∧ τ1 = τ) (v := 0) S hr hlk hw rfl dX12_isThing_16 ⟨rfl, (by first | rfl | simp [up2, upJ]), (by first | rfl | simp [up2, upJ])⟩
set_option maxHeartbeats 4000000 in
set_option maxRecDepth 100000 in
theorem c_forks (l : Launch) {E : gE} (σ : gI) (τ : gJ)  (h_199_3 : σ 199 3 = 0) : gx_Mi l yX12_forks cX12_forks 3 (some .int) 0 gx_tb E (σ) (τ) [.ref (E.2.2 + 199)] (fun r σ1 τ1 => r = 0 ∧ σ1 = σ ∧ τ1 = τ) := by
  refine gx_bi (by decide +kernel) (Nat.le_of_ble_eq_true rfl) ?_
  intro P9 e9 s m9 below meth C9 S hr hlk hK hw ls hl
  have S : CallFix P9 m9 C9 cX12_forks 3 s _ gx_G RX12 := S
  have hx := S.1
  have hb := S.2.1
  have hl : lv_has ls 3 [(0, .ref (E.2.2 + 199))] := hl
  refine lv_iconst (v := 0) hx hb dX12_forks_0 (by decide) ?_
  refine lv_istore_n (lv' := [(1, .int 0), (0, .ref (E.2.2 + 199))]) hx hb dX12_forks_1 rfl hl (by decide) rfl (fun ls hl => ?_)
  refine lv_iconst (v := 0) hx hb dX12_forks_2 (by decide) ?_
  refine lv_istore_n (lv' := [(2, .int 0), (1, .int 0), (0, .ref (E.2.2 + 199))]) hx hb dX12_forks_3 rfl hl (by decide) rfl (fun ls hl => ?_)
  refine lv_iload_n hx hb dX12_forks_4 rfl (lv_at hl 0 rfl) ?_
  refine lv_aload_n hx hb dX12_forks_5 rfl (lv_at hl 2 rfl) ?_
  refine gx_get S hK hw t_199 cl_13 3 (by decide) rfl mw_1417 rfl dX12_forks_6 ?_
  refine gx_top (v := 0) (by first | rfl | decide | simp [up2, gs0, h_199_3]) ?_
  refine lv_icmp_ge (tgt := 38) hx hb dX12_forks_9 (by decide) (fun _ => ?_) (fun h => absurd (by decide) h)
  refine lv_iload_n hx hb dX12_forks_38 rfl (lv_at hl 1 rfl) ?_
  exact gx_ri (post := fun r σ1 τ1 => r = 0 ∧ σ1 = σ ∧ τ1 = τ) (v := 0) S hr hlk hw rfl dX12_forks_39 ⟨rfl, rfl, rfl⟩
set_option maxHeartbeats 4000000 in
set_option maxRecDepth 100000 in
theorem c_refuse (l : Launch) {E : gE} (σ : gI) (τ : gJ)   : gx_Mi l yX12_refuse cX12_refuse 1 (some .int) 0 gx_tb E (σ) (τ) [.ref (E.2.2 + 199)] (fun r σ1 τ1 => r = 0 ∧ σ1 = up2 σ 199 0 1 ∧ τ1 = τ) := by
  refine gx_bi (by decide +kernel) (Nat.le_of_ble_eq_true rfl) ?_
  intro P9 e9 s m9 below meth C9 S hr hlk hK hw ls hl
  have S : CallFix P9 m9 C9 cX12_refuse 1 s _ gx_G RX12 := S
  have hx := S.1
  have hb := S.2.1
  have hl : lv_has ls 1 [(0, .ref (E.2.2 + 199))] := hl
  refine lv_aload_n hx hb dX12_refuse_0 rfl (lv_at hl 0 rfl) ?_
  refine lv_iconst (v := 1) hx hb dX12_refuse_1 (by decide) ?_
  refine gx_put S hK gx_ok hw t_199 cl_13 0 (by decide) rfl mw_1414 rfl rfl (ty := .int) (v := 1) (by decide +kernel) rfl rfl dX12_refuse_2 (fun H locs hw => ?_)
  refine lv_iconst (v := 0) hx hb dX12_refuse_5 (by decide) ?_
  exact gx_ri (post := fun r σ1 τ1 => r = 0 ∧ σ1 = up2 σ 199 0 1 ∧ τ1 = τ) (v := 0) S hr hlk hw rfl dX12_refuse_6 ⟨rfl, (by first | rfl | simp [up2, upJ]), rfl⟩
set_option maxHeartbeats 4000000 in
set_option maxRecDepth 100000 in
theorem c_begins76 (l : Launch) {E : gE} (σ : gI) (τ : gJ)  (h_199_13 : σ 199 13 = 0) : gx_Mi l yX12_begins cX12_begins 3 (some .int) 1 gx_tb E (σ) (τ) [.ref (E.2.2 + 199), .int 76] (fun r σ1 τ1 => r = 0 ∧ σ1 = up2 (up2 (up2 (up2 (σ) 199 13 0) 199 14 0) 199 16 0) 199 15 0 ∧ τ1 = τ) := by
  refine gx_bi (by decide +kernel) (Nat.le_of_ble_eq_true rfl) ?_
  intro P9 e9 s m9 below meth C9 S hr hlk hK hw ls hl
  have S : CallFix P9 m9 C9 cX12_begins 3 s _ gx_G RX12 := S
  have hx := S.1
  have hb := S.2.1
  have hl : lv_has ls 3 [(0, .ref (E.2.2 + 199)), (1, .int 76)] := hl
  refine lv_aload_n hx hb dX12_begins_0 rfl (lv_at hl 0 rfl) ?_
  refine gx_get S hK hw t_199 cl_13 13 (by decide) rfl mw_1427 rfl dX12_begins_1 ?_
  refine gx_top (v := 0) (by first | rfl | decide | simp [up2, gs0, h_199_13]) ?_
  refine lv_istore_n (lv' := [(2, .int 0), (0, .ref (E.2.2 + 199)), (1, .int 76)]) hx hb dX12_begins_4 rfl hl (by decide) rfl (fun ls hl => ?_)
  refine lv_aload_n hx hb dX12_begins_5 rfl (lv_at hl 1 rfl) ?_
  refine lv_iconst (v := 0) hx hb dX12_begins_6 (by decide) ?_
  refine gx_put S hK gx_ok hw t_199 cl_13 13 (by decide) rfl mw_1427 rfl rfl (ty := .int) (v := 0) (by decide +kernel) rfl rfl dX12_begins_7 (fun H locs hw => ?_)
  refine lv_aload_n hx hb dX12_begins_10 rfl (lv_at hl 1 rfl) ?_
  refine lv_iconst (v := 0) hx hb dX12_begins_11 (by decide) ?_
  refine gx_put S hK gx_ok hw t_199 cl_13 14 (by decide) rfl mw_1428 rfl rfl (ty := .int) (v := 0) (by decide +kernel) rfl rfl dX12_begins_12 (fun H locs hw => ?_)
  refine lv_aload_n hx hb dX12_begins_15 rfl (lv_at hl 1 rfl) ?_
  refine lv_iconst (v := 0) hx hb dX12_begins_16 (by decide) ?_
  refine gx_put S hK gx_ok hw t_199 cl_13 16 (by decide) rfl mw_1430 rfl rfl (ty := .int) (v := 0) (by decide +kernel) rfl rfl dX12_begins_17 (fun H locs hw => ?_)
  refine lv_aload_n hx hb dX12_begins_20 rfl (lv_at hl 1 rfl) ?_
  refine lv_iload_n hx hb dX12_begins_21 rfl (lv_at hl 0 rfl) ?_
  refine lv_iload_n hx hb dX12_begins_22 rfl (lv_at hl 2 rfl) ?_
  refine gx_min (w := 0) S hl.1 mw_1618 mw_529 mw_102 mw_530 ⟨Nat.le_of_ble_eq_true rfl, Nat.le_of_ble_eq_true rfl⟩ ⟨Nat.le_of_ble_eq_true rfl, Nat.le_of_ble_eq_true rfl⟩ dX12_begins_23 (by decide) ?_
  refine gx_put S hK gx_ok hw t_199 cl_13 15 (by decide) rfl mw_1429 rfl rfl (ty := .int) (v := 0) (by decide +kernel) rfl rfl dX12_begins_26 (fun H locs hw => ?_)
  refine lv_iload_n hx hb dX12_begins_29 rfl (lv_at hl 0 rfl) ?_
  exact gx_ri (post := fun r σ1 τ1 => r = 0 ∧ σ1 = up2 (up2 (up2 (up2 (σ) 199 13 0) 199 14 0) 199 16 0) 199 15 0 ∧ τ1 = τ) (v := 0) S hr hlk hw rfl dX12_begins_30 ⟨rfl, rfl, rfl⟩
set_option maxHeartbeats 4000000 in
set_option maxRecDepth 100000 in
theorem c_faultOf76 (l : Launch) {E : gE} (σ : gI) (τ : gJ)  (h_199_14 : σ 199 14 = 0) (h_199_15 : σ 199 15 = 0) : gx_Mi l yX12_faultOf cX12_faultOf 5 (some .int) 0 gx_tb E (σ) (τ) [.ref (E.2.2 + 199), .int 0, .int 76, .int 1] (fun r σ1 τ1 => r = 0 ∧ σ1 = σ ∧ τ1 = τ) := by
  refine gx_bi (by decide +kernel) (Nat.le_of_ble_eq_true rfl) ?_
  intro P9 e9 s m9 below meth C9 S hr hlk hK hw ls hl
  have S : CallFix P9 m9 C9 cX12_faultOf 5 s _ gx_G RX12 := S
  have hx := S.1
  have hb := S.2.1
  have hl : lv_has ls 5 [(0, .ref (E.2.2 + 199)), (1, .int 0), (2, .int 76), (3, .int 1)] := hl
  refine lv_iload_n hx hb dX12_faultOf_0 rfl (lv_at hl 3 rfl) ?_
  refine lv_if_eq (tgt := 19) hx hb dX12_faultOf_1 (by decide) (fun h => absurd h (by decide)) (fun _ => ?_)
  refine lv_aload_n hx hb dX12_faultOf_4 rfl (lv_at hl 0 rfl) ?_
  refine gx_get S hK hw t_199 cl_13 14 (by decide) rfl mw_1428 rfl dX12_faultOf_5 ?_
  refine gx_top (v := 0) (by first | rfl | decide | simp [up2, gs0, h_199_14, h_199_15]) ?_
  refine lv_aload_n hx hb dX12_faultOf_8 rfl (lv_at hl 0 rfl) ?_
  refine gx_get S hK hw t_199 cl_13 15 (by decide) rfl mw_1429 rfl dX12_faultOf_9 ?_
  refine gx_top (v := 0) (by first | rfl | decide | simp [up2, gs0, h_199_14, h_199_15]) ?_
  refine lv_icmp_ne (tgt := 19) hx hb dX12_faultOf_12 (by decide) (fun h => absurd (by decide) h) (fun _ => ?_)
  refine lv_iconst (v := 1) hx hb dX12_faultOf_15 (by decide) ?_
  refine lv_goto (tgt := 20) hx hb dX12_faultOf_16 (by decide) ?_
  refine lv_istore (lv' := [(4, .int 1), (0, .ref (E.2.2 + 199)), (1, .int 0), (2, .int 76), (3, .int 1)]) hx hb dX12_faultOf_20 hl (by decide) rfl (fun ls hl => ?_)
  refine lv_iload_n hx hb dX12_faultOf_22 rfl (lv_at hl 2 rfl) ?_
  refine lv_iload_n hx hb dX12_faultOf_23 rfl (lv_at hl 3 rfl) ?_
  refine lv_icmp_le (tgt := 44) hx hb dX12_faultOf_24 (by decide) (fun _ => ?_) (fun h => absurd (by decide) h)
  refine lv_iload hx hb dX12_faultOf_44 (lv_at hl 0 rfl) ?_
  refine lv_if_eq (tgt := 53) hx hb dX12_faultOf_46 (by decide) (fun h => absurd h (by decide)) (fun _ => ?_)
  refine lv_iconst (v := 0) hx hb dX12_faultOf_49 (by decide) ?_
  refine lv_goto (tgt := 59) hx hb dX12_faultOf_50 (by decide) ?_
  exact gx_ri (post := fun r σ1 τ1 => r = 0 ∧ σ1 = σ ∧ τ1 = τ) (v := 0) S hr hlk hw rfl dX12_faultOf_59 ⟨rfl, rfl, rfl⟩
set_option maxHeartbeats 4000000 in
set_option maxRecDepth 100000 in
theorem c_begins40 (l : Launch) {E : gE} (σ : gI) (τ : gJ)  (h_199_13 : σ 199 13 = 0) : gx_Mi l yX12_begins cX12_begins 3 (some .int) 1 gx_tb E (σ) (τ) [.ref (E.2.2 + 199), .int 40] (fun r σ1 τ1 => r = 0 ∧ σ1 = up2 (up2 (up2 (up2 (σ) 199 13 0) 199 14 0) 199 16 0) 199 15 0 ∧ τ1 = τ) := by
  refine gx_bi (by decide +kernel) (Nat.le_of_ble_eq_true rfl) ?_
  intro P9 e9 s m9 below meth C9 S hr hlk hK hw ls hl
  have S : CallFix P9 m9 C9 cX12_begins 3 s _ gx_G RX12 := S
  have hx := S.1
  have hb := S.2.1
  have hl : lv_has ls 3 [(0, .ref (E.2.2 + 199)), (1, .int 40)] := hl
  refine lv_aload_n hx hb dX12_begins_0 rfl (lv_at hl 0 rfl) ?_
  refine gx_get S hK hw t_199 cl_13 13 (by decide) rfl mw_1427 rfl dX12_begins_1 ?_
  refine gx_top (v := 0) (by first | rfl | decide | simp [up2, gs0, h_199_13]) ?_
  refine lv_istore_n (lv' := [(2, .int 0), (0, .ref (E.2.2 + 199)), (1, .int 40)]) hx hb dX12_begins_4 rfl hl (by decide) rfl (fun ls hl => ?_)
  refine lv_aload_n hx hb dX12_begins_5 rfl (lv_at hl 1 rfl) ?_
  refine lv_iconst (v := 0) hx hb dX12_begins_6 (by decide) ?_
  refine gx_put S hK gx_ok hw t_199 cl_13 13 (by decide) rfl mw_1427 rfl rfl (ty := .int) (v := 0) (by decide +kernel) rfl rfl dX12_begins_7 (fun H locs hw => ?_)
  refine lv_aload_n hx hb dX12_begins_10 rfl (lv_at hl 1 rfl) ?_
  refine lv_iconst (v := 0) hx hb dX12_begins_11 (by decide) ?_
  refine gx_put S hK gx_ok hw t_199 cl_13 14 (by decide) rfl mw_1428 rfl rfl (ty := .int) (v := 0) (by decide +kernel) rfl rfl dX12_begins_12 (fun H locs hw => ?_)
  refine lv_aload_n hx hb dX12_begins_15 rfl (lv_at hl 1 rfl) ?_
  refine lv_iconst (v := 0) hx hb dX12_begins_16 (by decide) ?_
  refine gx_put S hK gx_ok hw t_199 cl_13 16 (by decide) rfl mw_1430 rfl rfl (ty := .int) (v := 0) (by decide +kernel) rfl rfl dX12_begins_17 (fun H locs hw => ?_)
  refine lv_aload_n hx hb dX12_begins_20 rfl (lv_at hl 1 rfl) ?_
  refine lv_iload_n hx hb dX12_begins_21 rfl (lv_at hl 0 rfl) ?_
  refine lv_iload_n hx hb dX12_begins_22 rfl (lv_at hl 2 rfl) ?_
  refine gx_min (w := 0) S hl.1 mw_1618 mw_529 mw_102 mw_530 ⟨Nat.le_of_ble_eq_true rfl, Nat.le_of_ble_eq_true rfl⟩ ⟨Nat.le_of_ble_eq_true rfl, Nat.le_of_ble_eq_true rfl⟩ dX12_begins_23 (by decide) ?_
  refine gx_put S hK gx_ok hw t_199 cl_13 15 (by decide) rfl mw_1429 rfl rfl (ty := .int) (v := 0) (by decide +kernel) rfl rfl dX12_begins_26 (fun H locs hw => ?_)
  refine lv_iload_n hx hb dX12_begins_29 rfl (lv_at hl 0 rfl) ?_
  exact gx_ri (post := fun r σ1 τ1 => r = 0 ∧ σ1 = up2 (up2 (up2 (up2 (σ) 199 13 0) 199 14 0) 199 16 0) 199 15 0 ∧ τ1 = τ) (v := 0) S hr hlk hw rfl dX12_begins_30 ⟨rfl, rfl, rfl⟩
set_option maxHeartbeats 4000000 in
set_option maxRecDepth 100000 in
theorem c_faultOf40 (l : Launch) {E : gE} (σ : gI) (τ : gJ)  (h_199_14 : σ 199 14 = 0) (h_199_15 : σ 199 15 = 0) : gx_Mi l yX12_faultOf cX12_faultOf 5 (some .int) 0 gx_tb E (σ) (τ) [.ref (E.2.2 + 199), .int 0, .int 40, .int 1] (fun r σ1 τ1 => r = 0 ∧ σ1 = σ ∧ τ1 = τ) := by
  refine gx_bi (by decide +kernel) (Nat.le_of_ble_eq_true rfl) ?_
  intro P9 e9 s m9 below meth C9 S hr hlk hK hw ls hl
  have S : CallFix P9 m9 C9 cX12_faultOf 5 s _ gx_G RX12 := S
  have hx := S.1
  have hb := S.2.1
  have hl : lv_has ls 5 [(0, .ref (E.2.2 + 199)), (1, .int 0), (2, .int 40), (3, .int 1)] := hl
  refine lv_iload_n hx hb dX12_faultOf_0 rfl (lv_at hl 3 rfl) ?_
  refine lv_if_eq (tgt := 19) hx hb dX12_faultOf_1 (by decide) (fun h => absurd h (by decide)) (fun _ => ?_)
  refine lv_aload_n hx hb dX12_faultOf_4 rfl (lv_at hl 0 rfl) ?_
  refine gx_get S hK hw t_199 cl_13 14 (by decide) rfl mw_1428 rfl dX12_faultOf_5 ?_
  refine gx_top (v := 0) (by first | rfl | decide | simp [up2, gs0, h_199_14, h_199_15]) ?_
  refine lv_aload_n hx hb dX12_faultOf_8 rfl (lv_at hl 0 rfl) ?_
  refine gx_get S hK hw t_199 cl_13 15 (by decide) rfl mw_1429 rfl dX12_faultOf_9 ?_
  refine gx_top (v := 0) (by first | rfl | decide | simp [up2, gs0, h_199_14, h_199_15]) ?_
  refine lv_icmp_ne (tgt := 19) hx hb dX12_faultOf_12 (by decide) (fun h => absurd (by decide) h) (fun _ => ?_)
  refine lv_iconst (v := 1) hx hb dX12_faultOf_15 (by decide) ?_
  refine lv_goto (tgt := 20) hx hb dX12_faultOf_16 (by decide) ?_
  refine lv_istore (lv' := [(4, .int 1), (0, .ref (E.2.2 + 199)), (1, .int 0), (2, .int 40), (3, .int 1)]) hx hb dX12_faultOf_20 hl (by decide) rfl (fun ls hl => ?_)
  refine lv_iload_n hx hb dX12_faultOf_22 rfl (lv_at hl 2 rfl) ?_
  refine lv_iload_n hx hb dX12_faultOf_23 rfl (lv_at hl 3 rfl) ?_
  refine lv_icmp_le (tgt := 44) hx hb dX12_faultOf_24 (by decide) (fun _ => ?_) (fun h => absurd (by decide) h)
  refine lv_iload hx hb dX12_faultOf_44 (lv_at hl 0 rfl) ?_
  refine lv_if_eq (tgt := 53) hx hb dX12_faultOf_46 (by decide) (fun h => absurd h (by decide)) (fun _ => ?_)
  refine lv_iconst (v := 0) hx hb dX12_faultOf_49 (by decide) ?_
  refine lv_goto (tgt := 59) hx hb dX12_faultOf_50 (by decide) ?_
  exact gx_ri (post := fun r σ1 τ1 => r = 0 ∧ σ1 = σ ∧ τ1 = τ) (v := 0) S hr hlk hw rfl dX12_faultOf_59 ⟨rfl, rfl, rfl⟩
set_option maxHeartbeats 4000000 in
set_option maxRecDepth 100000 in
theorem c_begins60 (l : Launch) {E : gE} (σ : gI) (τ : gJ)  (h_199_13 : σ 199 13 = 0) : gx_Mi l yX12_begins cX12_begins 3 (some .int) 1 gx_tb E (σ) (τ) [.ref (E.2.2 + 199), .int 60] (fun r σ1 τ1 => r = 0 ∧ σ1 = up2 (up2 (up2 (up2 (σ) 199 13 0) 199 14 0) 199 16 0) 199 15 0 ∧ τ1 = τ) := by
  refine gx_bi (by decide +kernel) (Nat.le_of_ble_eq_true rfl) ?_
  intro P9 e9 s m9 below meth C9 S hr hlk hK hw ls hl
  have S : CallFix P9 m9 C9 cX12_begins 3 s _ gx_G RX12 := S
  have hx := S.1
  have hb := S.2.1
  have hl : lv_has ls 3 [(0, .ref (E.2.2 + 199)), (1, .int 60)] := hl
  refine lv_aload_n hx hb dX12_begins_0 rfl (lv_at hl 0 rfl) ?_
  refine gx_get S hK hw t_199 cl_13 13 (by decide) rfl mw_1427 rfl dX12_begins_1 ?_
  refine gx_top (v := 0) (by first | rfl | decide | simp [up2, gs0, h_199_13]) ?_
  refine lv_istore_n (lv' := [(2, .int 0), (0, .ref (E.2.2 + 199)), (1, .int 60)]) hx hb dX12_begins_4 rfl hl (by decide) rfl (fun ls hl => ?_)
  refine lv_aload_n hx hb dX12_begins_5 rfl (lv_at hl 1 rfl) ?_
  refine lv_iconst (v := 0) hx hb dX12_begins_6 (by decide) ?_
  refine gx_put S hK gx_ok hw t_199 cl_13 13 (by decide) rfl mw_1427 rfl rfl (ty := .int) (v := 0) (by decide +kernel) rfl rfl dX12_begins_7 (fun H locs hw => ?_)
  refine lv_aload_n hx hb dX12_begins_10 rfl (lv_at hl 1 rfl) ?_
  refine lv_iconst (v := 0) hx hb dX12_begins_11 (by decide) ?_
  refine gx_put S hK gx_ok hw t_199 cl_13 14 (by decide) rfl mw_1428 rfl rfl (ty := .int) (v := 0) (by decide +kernel) rfl rfl dX12_begins_12 (fun H locs hw => ?_)
  refine lv_aload_n hx hb dX12_begins_15 rfl (lv_at hl 1 rfl) ?_
  refine lv_iconst (v := 0) hx hb dX12_begins_16 (by decide) ?_
  refine gx_put S hK gx_ok hw t_199 cl_13 16 (by decide) rfl mw_1430 rfl rfl (ty := .int) (v := 0) (by decide +kernel) rfl rfl dX12_begins_17 (fun H locs hw => ?_)
  refine lv_aload_n hx hb dX12_begins_20 rfl (lv_at hl 1 rfl) ?_
  refine lv_iload_n hx hb dX12_begins_21 rfl (lv_at hl 0 rfl) ?_
  refine lv_iload_n hx hb dX12_begins_22 rfl (lv_at hl 2 rfl) ?_
  refine gx_min (w := 0) S hl.1 mw_1618 mw_529 mw_102 mw_530 ⟨Nat.le_of_ble_eq_true rfl, Nat.le_of_ble_eq_true rfl⟩ ⟨Nat.le_of_ble_eq_true rfl, Nat.le_of_ble_eq_true rfl⟩ dX12_begins_23 (by decide) ?_
  refine gx_put S hK gx_ok hw t_199 cl_13 15 (by decide) rfl mw_1429 rfl rfl (ty := .int) (v := 0) (by decide +kernel) rfl rfl dX12_begins_26 (fun H locs hw => ?_)
  refine lv_iload_n hx hb dX12_begins_29 rfl (lv_at hl 0 rfl) ?_
  exact gx_ri (post := fun r σ1 τ1 => r = 0 ∧ σ1 = up2 (up2 (up2 (up2 (σ) 199 13 0) 199 14 0) 199 16 0) 199 15 0 ∧ τ1 = τ) (v := 0) S hr hlk hw rfl dX12_begins_30 ⟨rfl, rfl, rfl⟩
set_option maxHeartbeats 4000000 in
set_option maxRecDepth 100000 in
theorem c_faultOf60 (l : Launch) {E : gE} (σ : gI) (τ : gJ)  (h_199_14 : σ 199 14 = 0) (h_199_15 : σ 199 15 = 0) : gx_Mi l yX12_faultOf cX12_faultOf 5 (some .int) 0 gx_tb E (σ) (τ) [.ref (E.2.2 + 199), .int 0, .int 60, .int 1] (fun r σ1 τ1 => r = 0 ∧ σ1 = σ ∧ τ1 = τ) := by
  refine gx_bi (by decide +kernel) (Nat.le_of_ble_eq_true rfl) ?_
  intro P9 e9 s m9 below meth C9 S hr hlk hK hw ls hl
  have S : CallFix P9 m9 C9 cX12_faultOf 5 s _ gx_G RX12 := S
  have hx := S.1
  have hb := S.2.1
  have hl : lv_has ls 5 [(0, .ref (E.2.2 + 199)), (1, .int 0), (2, .int 60), (3, .int 1)] := hl
  refine lv_iload_n hx hb dX12_faultOf_0 rfl (lv_at hl 3 rfl) ?_
  refine lv_if_eq (tgt := 19) hx hb dX12_faultOf_1 (by decide) (fun h => absurd h (by decide)) (fun _ => ?_)
  refine lv_aload_n hx hb dX12_faultOf_4 rfl (lv_at hl 0 rfl) ?_
  refine gx_get S hK hw t_199 cl_13 14 (by decide) rfl mw_1428 rfl dX12_faultOf_5 ?_
  refine gx_top (v := 0) (by first | rfl | decide | simp [up2, gs0, h_199_14, h_199_15]) ?_
  refine lv_aload_n hx hb dX12_faultOf_8 rfl (lv_at hl 0 rfl) ?_
  refine gx_get S hK hw t_199 cl_13 15 (by decide) rfl mw_1429 rfl dX12_faultOf_9 ?_
  refine gx_top (v := 0) (by first | rfl | decide | simp [up2, gs0, h_199_14, h_199_15]) ?_
  refine lv_icmp_ne (tgt := 19) hx hb dX12_faultOf_12 (by decide) (fun h => absurd (by decide) h) (fun _ => ?_)
  refine lv_iconst (v := 1) hx hb dX12_faultOf_15 (by decide) ?_
  refine lv_goto (tgt := 20) hx hb dX12_faultOf_16 (by decide) ?_
  refine lv_istore (lv' := [(4, .int 1), (0, .ref (E.2.2 + 199)), (1, .int 0), (2, .int 60), (3, .int 1)]) hx hb dX12_faultOf_20 hl (by decide) rfl (fun ls hl => ?_)
  refine lv_iload_n hx hb dX12_faultOf_22 rfl (lv_at hl 2 rfl) ?_
  refine lv_iload_n hx hb dX12_faultOf_23 rfl (lv_at hl 3 rfl) ?_
  refine lv_icmp_le (tgt := 44) hx hb dX12_faultOf_24 (by decide) (fun _ => ?_) (fun h => absurd (by decide) h)
  refine lv_iload hx hb dX12_faultOf_44 (lv_at hl 0 rfl) ?_
  refine lv_if_eq (tgt := 53) hx hb dX12_faultOf_46 (by decide) (fun h => absurd h (by decide)) (fun _ => ?_)
  refine lv_iconst (v := 0) hx hb dX12_faultOf_49 (by decide) ?_
  refine lv_goto (tgt := 59) hx hb dX12_faultOf_50 (by decide) ?_
  exact gx_ri (post := fun r σ1 τ1 => r = 0 ∧ σ1 = σ ∧ τ1 = τ) (v := 0) S hr hlk hw rfl dX12_faultOf_59 ⟨rfl, rfl, rfl⟩
set_option maxHeartbeats 4000000 in
set_option maxRecDepth 100000 in
theorem c_str_coder (l : Launch) {E : gE} (σ : gI) (τ : gJ)   : gx_Mi l yJ0_coder_7d493 cJ0_coder_7d493 1 (some .byte) 0 gx_tb E (σ) (τ) [.ref (E.1.2.1 14)] (fun r σ1 τ1 => r = 0 ∧ σ1 = σ ∧ τ1 = τ) := by
  refine gx_bi (by decide +kernel) (Nat.le_of_ble_eq_true rfl) ?_
  intro P9 e9 s m9 below meth C9 S hr hlk hK hw ls hl
  have S : CallFix P9 m9 C9 cJ0_coder_7d493 1 s _ gx_G RJ0 := S
  have hx := S.1
  have hb := S.2.1
  have hl : lv_has ls 1 [(0, .ref (E.1.2.1 14))] := hl
  refine gx_cs S hK hw mw_560 dJ0_coder_7d493_0 ?_
  refine lv_if_eq (tgt := 13) hx hb dJ0_coder_7d493_3 (by decide) (fun h => absurd h (by decide)) (fun _ => ?_)
  refine lv_aload_n hx hb dJ0_coder_7d493_6 rfl (lv_at hl 0 rfl) ?_
  refine gx_scod S hK hw ss_14 mw_1702 dJ0_coder_7d493_7 ?_
  refine lv_goto (tgt := 14) hx hb dJ0_coder_7d493_10 (by decide) ?_
  exact gx_ri (post := fun r σ1 τ1 => r = 0 ∧ σ1 = σ ∧ τ1 = τ) (v := 0) S hr hlk hw rfl dJ0_coder_7d493_14 ⟨rfl, rfl, rfl⟩
set_option maxHeartbeats 4000000 in
set_option maxRecDepth 100000 in
theorem c_str_length (l : Launch) {E : gE} (σ : gI) (τ : gJ)   : gx_Mi l yJ0_length_8abf5 cJ0_length_8abf5 1 (some .int) 1 gx_tb E (σ) (τ) [.ref (E.1.2.1 14)] (fun r σ1 τ1 => r = 4 ∧ σ1 = σ ∧ τ1 = τ) := by
  refine gx_bi (by decide +kernel) (Nat.le_of_ble_eq_true rfl) ?_
  intro P9 e9 s m9 below meth C9 S hr hlk hK hw ls hl
  have S : CallFix P9 m9 C9 cJ0_length_8abf5 1 s _ gx_G RJ0 := S
  have hx := S.1
  have hb := S.2.1
  have hl : lv_has ls 1 [(0, .ref (E.1.2.1 14))] := hl
  refine lv_aload_n hx hb dJ0_length_8abf5_0 rfl (lv_at hl 0 rfl) ?_
  refine gx_sval S hK hw ss_14 mw_1701 dJ0_length_8abf5_1 ?_
  refine gx_slen (v := 4) S hK hw ss_14 rfl dJ0_length_8abf5_4 ?_
  refine lv_aload_n hx hb dJ0_length_8abf5_5 rfl (lv_at hl 0 rfl) ?_
  refine gx_cTi (As := []) (rest := [.int 4]) S hK gx_ok hw (c_str_coder l (E := E) (σ) (τ) ) cw_J0_335 ss_14 rfl ⟨Nat.le_of_ble_eq_true rfl, Nat.le_of_ble_eq_true rfl⟩ rfl hl.1 rfl (Nat.le_of_ble_eq_true rfl) ⟨Nat.le_of_ble_eq_true rfl, Nat.le_of_ble_eq_true rfl⟩ dJ0_length_8abf5_6 (fun r_1 σ_1 τ_1 H locs hp hw => ?_)
  obtain ⟨er_1, es_1, et_1⟩ := hp
  obtain rfl := er_1.symm
  obtain rfl := es_1.symm
  obtain rfl := et_1.symm
  refine lv_ishr hx hb dJ0_length_8abf5_9 ?_
  refine gx_top (v := 4) (by decide) ?_
  exact gx_ri (post := fun r σ1 τ1 => r = 4 ∧ σ1 = σ ∧ τ1 = τ) (v := 4) S hr hlk hw rfl dJ0_length_8abf5_10 ⟨rfl, (by first | rfl | simp [up2, upJ]), (by first | rfl | simp [up2, upJ])⟩
set_option maxHeartbeats 4000000 in
set_option maxRecDepth 100000 in
theorem c_among (l : Launch) {E : gE} (σ : gI) (τ : gJ)  (h_199_14 : σ 199 14 = 0) (h_199_15 : σ 199 15 = 0) : gx_Mi l yX12_among cX12_among 3 (some .int) 2 gx_tb E (σ) (τ) [.ref (E.2.2 + 199), .ref (E.1.2.1 14)] (fun r σ1 τ1 => r = (-1) ∧ σ1 = σ ∧ τ1 = τ) := by
  refine gx_bi (by decide +kernel) (Nat.le_of_ble_eq_true rfl) ?_
  intro P9 e9 s m9 below meth C9 S hr hlk hK hw ls hl
  have S : CallFix P9 m9 C9 cX12_among 3 s _ gx_G RX12 := S
  have hx := S.1
  have hb := S.2.1
  have hl : lv_has ls 3 [(0, .ref (E.2.2 + 199)), (1, .ref (E.1.2.1 14))] := hl
  refine lv_iconst (v := 0) hx hb dX12_among_0 (by decide) ?_
  refine lv_istore_n (lv' := [(2, .int 0), (0, .ref (E.2.2 + 199)), (1, .ref (E.1.2.1 14))]) hx hb dX12_among_1 rfl hl (by decide) rfl (fun ls hl => ?_)
  refine lv_iload_n hx hb dX12_among_2 rfl (lv_at hl 0 rfl) ?_
  refine lv_aload_n hx hb dX12_among_3 rfl (lv_at hl 2 rfl) ?_
  refine gx_cTi (As := []) (rest := [.int 0]) S hK gx_ok hw (c_str_length l (E := E) (σ) (τ) ) cw_X12_163 ss_14 rfl ⟨Nat.le_of_ble_eq_true rfl, Nat.le_of_ble_eq_true rfl⟩ rfl hl.1 rfl (Nat.le_of_ble_eq_true rfl) ⟨Nat.le_of_ble_eq_true rfl, Nat.le_of_ble_eq_true rfl⟩ dX12_among_4 (fun r_1 σ_1 τ_1 H locs hp hw => ?_)
  obtain ⟨er_1, es_1, et_1⟩ := hp
  obtain rfl := er_1.symm
  obtain rfl := es_1.symm
  obtain rfl := et_1.symm
  refine lv_icmp_ge (tgt := 46) hx hb dX12_among_7 (by decide) (fun h => absurd h (by decide)) (fun _ => ?_)
  refine lv_aload_n hx hb dX12_among_10 rfl (lv_at hl 1 rfl) ?_
  refine gx_get S hK hw t_199 cl_13 14 (by decide) rfl mw_1428 rfl dX12_among_11 ?_
  refine gx_top (v := 0) (by first | rfl | decide | simp [up2, gs0, h_199_14, h_199_15]) ?_
  refine lv_aload_n hx hb dX12_among_14 rfl (lv_at hl 1 rfl) ?_
  refine gx_get S hK hw t_199 cl_13 15 (by decide) rfl mw_1429 rfl dX12_among_15 ?_
  refine gx_top (v := 0) (by first | rfl | decide | simp [up2, gs0, h_199_14, h_199_15]) ?_
  refine lv_icmp_ge (tgt := 46) hx hb dX12_among_18 (by decide) (fun _ => ?_) (fun h => absurd (by decide) h)
  refine lv_iconst (v := (-1)) hx hb dX12_among_46 (by decide) ?_
  exact gx_ri (post := fun r σ1 τ1 => r = (-1) ∧ σ1 = σ ∧ τ1 = τ) (v := (-1)) S hr hlk hw rfl dX12_among_47 ⟨rfl, (by first | rfl | simp [up2, upJ]), (by first | rfl | simp [up2, upJ])⟩
set_option maxHeartbeats 4000000 in
set_option maxRecDepth 100000 in
theorem c_waterIn (l : Launch) {E : gE} (σ : gI) (τ : gJ) (n : Int32) (h_199_4 : σ 199 4 = 0) (h_199_31 : σ 199 31 = 0) (h_199_32 : σ 199 32 = 0) : gx_Mi l yX12_waterIn cX12_waterIn 5 (some .int) 1 gx_tb E (σ) (τ) [.ref (E.2.2 + 199), .int n] (fun r σ1 τ1 => r = 1 ∧ σ1 = σ ∧ τ1 = τ) := by
  refine gx_bi (by decide +kernel) (Nat.le_of_ble_eq_true rfl) ?_
  intro P9 e9 s m9 below meth C9 S hr hlk hK hw ls hl
  have S : CallFix P9 m9 C9 cX12_waterIn 5 s _ gx_G RX12 := S
  have hx := S.1
  have hb := S.2.1
  have hl : lv_has ls 5 [(0, .ref (E.2.2 + 199)), (1, .int n)] := hl
  refine lv_iload_n hx hb dX12_waterIn_0 rfl (lv_at hl 1 rfl) ?_
  refine lv_bipush (v := 10) hx hb dX12_waterIn_1 (by decide) ?_
  refine lv_idiv hx hb dX12_waterIn_3 (by decide) ?_
  refine lv_istore_n (lv' := [(2, .int (n / 10)), (0, .ref (E.2.2 + 199)), (1, .int n)]) hx hb dX12_waterIn_4 rfl hl (by decide) rfl (fun ls hl => ?_)
  refine lv_aload_n hx hb dX12_waterIn_5 rfl (lv_at hl 1 rfl) ?_
  refine gx_get S hK hw t_199 cl_13 4 (by decide) rfl mw_1418 rfl dX12_waterIn_6 ?_
  refine gx_top (v := 0) (by first | rfl | decide | simp [up2, gs0, h_199_4, h_199_31, h_199_32]) ?_
  refine lv_if_ne (tgt := 16) hx hb dX12_waterIn_9 (by decide) (fun h => absurd (by decide) h) (fun _ => ?_)
  refine lv_iconst (v := 1) hx hb dX12_waterIn_12 (by decide) ?_
  refine lv_goto (tgt := 27) hx hb dX12_waterIn_13 (by decide) ?_
  refine lv_istore_n (lv' := [(3, .int 1), (2, .int (n / 10)), (0, .ref (E.2.2 + 199)), (1, .int n)]) hx hb dX12_waterIn_27 rfl hl (by decide) rfl (fun ls hl => ?_)
  refine lv_iload_n hx hb dX12_waterIn_28 rfl (lv_at hl 1 rfl) ?_
  refine lv_aload_n hx hb dX12_waterIn_29 rfl (lv_at hl 2 rfl) ?_
  refine gx_get S hK hw t_199 cl_13 32 (by decide) rfl mw_1446 rfl dX12_waterIn_30 ?_
  refine gx_top (v := 0) (by first | rfl | decide | simp [up2, gs0, h_199_4, h_199_31, h_199_32]) ?_
  refine lv_icmp_lt (tgt := 71) hx hb dX12_waterIn_33 (by decide) (fun c_1 => ?_) (fun c_1 => ?_)
  · refine lv_iconst (v := 0) hx hb dX12_waterIn_71 (by decide) ?_
    refine lv_istore (lv' := [(4, .int 0), (3, .int 1), (2, .int (n / 10)), (0, .ref (E.2.2 + 199)), (1, .int n)]) hx hb dX12_waterIn_72 hl (by decide) rfl (fun ls hl => ?_)
    refine lv_iload hx hb dX12_waterIn_74 (lv_at hl 0 rfl) ?_
    refine lv_if_eq (tgt := 89) hx hb dX12_waterIn_76 (by decide) (fun _ => ?_) (fun h => absurd (by decide) h)
    refine lv_iload_n hx hb dX12_waterIn_89 rfl (lv_at hl 1 rfl) ?_
    exact gx_ri (post := fun r σ1 τ1 => r = 1 ∧ σ1 = σ ∧ τ1 = τ) (v := 1) S hr hlk hw rfl dX12_waterIn_90 ⟨rfl, rfl, rfl⟩
  · refine lv_iload_n hx hb dX12_waterIn_36 rfl (lv_at hl 1 rfl) ?_
    refine lv_aload_n hx hb dX12_waterIn_37 rfl (lv_at hl 2 rfl) ?_
    refine gx_get S hK hw t_199 cl_13 32 (by decide) rfl mw_1446 rfl dX12_waterIn_38 ?_
    refine gx_top (v := 0) (by first | rfl | decide | simp [up2, gs0, h_199_4, h_199_31, h_199_32]) ?_
    refine lv_isub hx hb dX12_waterIn_41 ?_
    refine lv_bipush (v := 8) hx hb dX12_waterIn_42 (by decide) ?_
    refine lv_icmp_ge (tgt := 71) hx hb dX12_waterIn_44 (by decide) (fun c_2 => ?_) (fun c_2 => ?_)
    · refine lv_iconst (v := 0) hx hb dX12_waterIn_71 (by decide) ?_
      refine lv_istore (lv' := [(4, .int 0), (3, .int 1), (2, .int (n / 10)), (0, .ref (E.2.2 + 199)), (1, .int n)]) hx hb dX12_waterIn_72 hl (by decide) rfl (fun ls hl => ?_)
      refine lv_iload hx hb dX12_waterIn_74 (lv_at hl 0 rfl) ?_
      refine lv_if_eq (tgt := 89) hx hb dX12_waterIn_76 (by decide) (fun _ => ?_) (fun h => absurd (by decide) h)
      refine lv_iload_n hx hb dX12_waterIn_89 rfl (lv_at hl 1 rfl) ?_
      exact gx_ri (post := fun r σ1 τ1 => r = 1 ∧ σ1 = σ ∧ τ1 = τ) (v := 1) S hr hlk hw rfl dX12_waterIn_90 ⟨rfl, rfl, rfl⟩
    · refine lv_aload_n hx hb dX12_waterIn_47 rfl (lv_at hl 2 rfl) ?_
      refine gx_get S hK hw t_199 cl_13 31 (by decide) rfl mw_1445 rfl dX12_waterIn_48 ?_
      refine gx_top (v := 0) (by first | rfl | decide | simp [up2, gs0, h_199_4, h_199_31, h_199_32]) ?_
      refine lv_iconst (v := 0) hx hb dX12_waterIn_51 (by decide) ?_
      refine lv_iload_n hx hb dX12_waterIn_52 rfl (lv_at hl 1 rfl) ?_
      refine lv_aload_n hx hb dX12_waterIn_53 rfl (lv_at hl 2 rfl) ?_
      refine gx_get S hK hw t_199 cl_13 32 (by decide) rfl mw_1446 rfl dX12_waterIn_54 ?_
      refine gx_top (v := 0) (by first | rfl | decide | simp [up2, gs0, h_199_4, h_199_31, h_199_32]) ?_
      refine lv_isub hx hb dX12_waterIn_57 ?_
      refine gx_max (w := if 0 < (n / 10) - 0 then (n / 10) - 0 else 0) S hl.1 mw_1807 mw_577 mw_102 mw_578 ⟨Nat.le_of_ble_eq_true rfl, Nat.le_of_ble_eq_true rfl⟩ ⟨Nat.le_of_ble_eq_true rfl, Nat.le_of_ble_eq_true rfl⟩ dX12_waterIn_58 rfl ?_
      refine gx_cSi (As := [.int 0, .int (if 0 < (n / 10) - 0 then (n / 10) - 0 else 0)]) (rest := []) S hK gx_ok hw (c_has0 l (E := E) (σ) (τ) (if 0 < (n / 10) - 0 then (n / 10) - 0 else 0) ) cw_X12_264 ⟨Nat.le_of_ble_eq_true rfl, Nat.le_of_ble_eq_true rfl⟩ rfl hl.1 rfl (Nat.le_of_ble_eq_true rfl) ⟨Nat.le_of_ble_eq_true rfl, Nat.le_of_ble_eq_true rfl⟩ dX12_waterIn_61 (fun r_3 σ_3 τ_3 H locs hp hw => ?_)
      obtain ⟨er_3, es_3, et_3⟩ := hp
      obtain rfl := er_3.symm
      obtain rfl := es_3.symm
      obtain rfl := et_3.symm
      refine lv_if_eq (tgt := 71) hx hb dX12_waterIn_64 (by decide) (fun _ => ?_) (fun h => absurd (by decide) h)
      refine lv_iconst (v := 0) hx hb dX12_waterIn_71 (by decide) ?_
      refine lv_istore (lv' := [(4, .int 0), (3, .int 1), (2, .int (n / 10)), (0, .ref (E.2.2 + 199)), (1, .int n)]) hx hb dX12_waterIn_72 hl (by decide) rfl (fun ls hl => ?_)
      refine lv_iload hx hb dX12_waterIn_74 (lv_at hl 0 rfl) ?_
      refine lv_if_eq (tgt := 89) hx hb dX12_waterIn_76 (by decide) (fun _ => ?_) (fun h => absurd (by decide) h)
      refine lv_iload_n hx hb dX12_waterIn_89 rfl (lv_at hl 1 rfl) ?_
      exact gx_ri (post := fun r σ1 τ1 => r = 1 ∧ σ1 = σ ∧ τ1 = τ) (v := 1) S hr hlk hw rfl dX12_waterIn_90 ⟨rfl, (by first | rfl | simp [up2, upJ]), (by first | rfl | simp [up2, upJ])⟩
set_option maxHeartbeats 4000000 in
set_option maxRecDepth 100000 in
theorem c_minuteGoes (l : Launch) {E : gE} (σ : gI) (τ : gJ) (q : Nat) (h_199_4 : σ 199 4 = 0) (h_199_31 : σ 199 31 = 0) (h_199_32 : σ 199 32 = 0) (h_q_44 : σ q 44 = 0) (tq : gx_tb[q]? = some (.inr (0, 45, []))) : gx_Mv l yX12_minuteGoes cX12_minuteGoes 6 none 2 gx_tb E (σ) (τ) [.ref (E.2.2 + 199), .ref (E.2.2 + q)] (fun σ1 τ1 => (∀ c k : Nat, ¬ (c = q ∧ k = 43) → σ1 c k = (σ) c k) ∧ τ1 = τ) := by
  refine gx_bv (by decide +kernel) (Nat.le_of_ble_eq_true rfl) ?_
  intro P9 e9 s m9 below meth C9 S hr hlk hK hw ls hl
  have S : CallFix P9 m9 C9 cX12_minuteGoes 6 s _ gx_G RX12 := S
  have hx := S.1
  have hb := S.2.1
  have hl : lv_has ls 6 [(0, .ref (E.2.2 + 199)), (1, .ref (E.2.2 + q))] := hl
  refine lv_aload_n hx hb dX12_minuteGoes_0 rfl (lv_at hl 0 rfl) ?_
  refine lv_aload_n hx hb dX12_minuteGoes_1 rfl (lv_at hl 1 rfl) ?_
  refine lv_bipush (v := 43) hx hb dX12_minuteGoes_2 (by decide) ?_
  refine gx_iald S hK hw tq 43 rfl (gx_in rfl (by decide) (by decide)) dX12_minuteGoes_4 ?_
  refine gx_cVi (As := [.int ((σ) q 43)]) (rest := []) S hK gx_ok hw (c_waterIn l (E := E) (σ) (τ) ((σ) q 43) (by first | rfl | decide | simp [up2, gs0, h_199_4, h_199_31, h_199_32, h_q_44, tq]) (by first | rfl | decide | simp [up2, gs0, h_199_4, h_199_31, h_199_32, h_q_44, tq]) (by first | rfl | decide | simp [up2, gs0, h_199_4, h_199_31, h_199_32, h_q_44, tq])) cw_X12_268 t_199 cl_13 ⟨Nat.le_of_ble_eq_true rfl, Nat.le_of_ble_eq_true rfl⟩ rfl hl.1 rfl (Nat.le_of_ble_eq_true rfl) ⟨Nat.le_of_ble_eq_true rfl, Nat.le_of_ble_eq_true rfl⟩ dX12_minuteGoes_5 (fun r_1 σ_1 τ_1 H locs hp hw => ?_)
  obtain ⟨er_1, es_1, et_1⟩ := hp
  obtain rfl := er_1.symm
  obtain rfl := es_1.symm
  obtain rfl := et_1.symm
  refine lv_istore_n (lv' := [(2, .int 1), (0, .ref (E.2.2 + 199)), (1, .ref (E.2.2 + q))]) hx hb dX12_minuteGoes_8 rfl hl (by decide) rfl (fun ls hl => ?_)
  refine lv_iconst (v := 0) hx hb dX12_minuteGoes_9 (by decide) ?_
  refine lv_istore_n (lv' := [(3, .int 0), (2, .int 1), (0, .ref (E.2.2 + 199)), (1, .ref (E.2.2 + q))]) hx hb dX12_minuteGoes_10 rfl hl (by decide) rfl (fun ls hl => ?_)
  refine lv_iload_n hx hb dX12_minuteGoes_11 rfl (lv_at hl 0 rfl) ?_
  refine lv_aload_n hx hb dX12_minuteGoes_12 rfl (lv_at hl 3 rfl) ?_
  refine lv_bipush (v := 44) hx hb dX12_minuteGoes_13 (by decide) ?_
  refine gx_iald S hK hw tq 44 rfl (gx_in rfl (by decide) (by decide)) dX12_minuteGoes_15 ?_
  refine gx_top (v := 0) (by first | rfl | decide | simp [up2, gs0, h_199_4, h_199_31, h_199_32, h_q_44, tq]) ?_
  refine lv_icmp_ge (tgt := 86) hx hb dX12_minuteGoes_16 (by decide) (fun _ => ?_) (fun h => absurd (by decide) h)
  refine lv_aload_n hx hb dX12_minuteGoes_86 rfl (lv_at hl 3 rfl) ?_
  refine lv_bipush (v := 43) hx hb dX12_minuteGoes_87 (by decide) ?_
  refine lv_dup2_11 hx hb dX12_minuteGoes_89 rfl rfl ?_
  refine gx_iald S hK hw tq 43 rfl (gx_in rfl (by decide) (by decide)) dX12_minuteGoes_90 ?_
  refine lv_iconst (v := 1) hx hb dX12_minuteGoes_91 (by decide) ?_
  refine lv_iadd hx hb dX12_minuteGoes_92 ?_
  refine gx_iast S hK gx_ok hw tq 43 rfl (gx_in rfl (by decide) (by decide)) dX12_minuteGoes_93 (fun H locs hw => ?_)
  exact gx_rv (post := fun σ1 τ1 => (∀ c k : Nat, ¬ (c = q ∧ k = 43) → σ1 c k = (σ) c k) ∧ τ1 = τ) S hr hlk hw dX12_minuteGoes_94 ⟨(fun c9 k9 h9_0 => by simp [up2, upJ, h9_0]), (by first | rfl | simp [up2, upJ])⟩
set_option maxHeartbeats 4000000 in
set_option maxRecDepth 100000 in
theorem c_thoseHow (l : Launch) {E : gE} (σ : gI) (τ : gJ) (q : Nat) (n : Int32) (h_q_44 : σ q 44 = 0) (tq : gx_tb[q]? = some (.inr (0, 45, []))) : gx_Mi l yX12_thoseHow cX12_thoseHow 4 (some .int) 0 gx_tb E (σ) (τ) [.ref (E.2.2 + q), .int n] (fun r σ1 τ1 => r = 0 ∧ σ1 = σ ∧ τ1 = τ) := by
  refine gx_bi (by decide +kernel) (Nat.le_of_ble_eq_true rfl) ?_
  intro P9 e9 s m9 below meth C9 S hr hlk hK hw ls hl
  have S : CallFix P9 m9 C9 cX12_thoseHow 4 s _ gx_G RX12 := S
  have hx := S.1
  have hb := S.2.1
  have hl : lv_has ls 4 [(0, .ref (E.2.2 + q)), (1, .int n)] := hl
  refine lv_iconst (v := 0) hx hb dX12_thoseHow_0 (by decide) ?_
  refine lv_istore_n (lv' := [(2, .int 0), (0, .ref (E.2.2 + q)), (1, .int n)]) hx hb dX12_thoseHow_1 rfl hl (by decide) rfl (fun ls hl => ?_)
  refine lv_iconst (v := 0) hx hb dX12_thoseHow_2 (by decide) ?_
  refine lv_istore_n (lv' := [(3, .int 0), (2, .int 0), (0, .ref (E.2.2 + q)), (1, .int n)]) hx hb dX12_thoseHow_3 rfl hl (by decide) rfl (fun ls hl => ?_)
  refine lv_iload_n hx hb dX12_thoseHow_4 rfl (lv_at hl 0 rfl) ?_
  refine lv_aload_n hx hb dX12_thoseHow_5 rfl (lv_at hl 2 rfl) ?_
  refine lv_bipush (v := 44) hx hb dX12_thoseHow_6 (by decide) ?_
  refine gx_iald S hK hw tq 44 rfl (gx_in rfl (by decide) (by decide)) dX12_thoseHow_8 ?_
  refine gx_top (v := 0) (by first | rfl | decide | simp [up2, gs0, h_q_44, tq]) ?_
  refine lv_icmp_ge (tgt := 40) hx hb dX12_thoseHow_9 (by decide) (fun _ => ?_) (fun h => absurd (by decide) h)
  refine lv_iload_n hx hb dX12_thoseHow_40 rfl (lv_at hl 1 rfl) ?_
  exact gx_ri (post := fun r σ1 τ1 => r = 0 ∧ σ1 = σ ∧ τ1 = τ) (v := 0) S hr hlk hw rfl dX12_thoseHow_41 ⟨rfl, rfl, rfl⟩
set_option maxHeartbeats 4000000 in
set_option maxRecDepth 100000 in
theorem c_puts (l : Launch) {E : gE} (σ : gI) (τ : gJ)  (hz : ∀ k : Nat, σ 207 k = σ 206 k) : gx_Mv l yX12_puts cX12_puts 3 none 0 gx_tb E (σ) (τ) [.ref (E.2.2 + 206), .ref (E.2.2 + 207)] (fun σ1 τ1 => σ1 = σ ∧ τ1 = τ) := by
  refine gx_bv (by decide +kernel) (Nat.le_of_ble_eq_true rfl) ?_
  intro P9 e9 s m9 below meth C9 S hr hlk hK hw ls hl
  have S : CallFix P9 m9 C9 cX12_puts 3 s _ gx_G RX12 := S
  have hx := S.1
  have hb := S.2.1
  have hl : lv_has ls 3 [(0, .ref (E.2.2 + 206)), (1, .ref (E.2.2 + 207))] := hl
  refine lv_iconst (v := 0) hx hb dX12_puts_0 (by decide) ?_
  refine lv_istore_n (lv' := [(2, .int 0), (0, .ref (E.2.2 + 206)), (1, .ref (E.2.2 + 207))]) hx hb dX12_puts_1 rfl hl (by decide) rfl (fun ls hl => ?_)
  have loop_1 : ∀ (n1 : Nat) (i : Nat) (H : Heap) (locs : List Loc) (ls : Array Slot), 45 - i < n1 → (i ≤ 45) → gx_W gx_tb (gx_tb).length E s (σ) (τ) H locs → lv_has ls 3 [(0, .ref (E.2.2 + 206)), (1, .ref (E.2.2 + 207)), (2, .int (nI i))] → W P9 l e9 (gx_rm 0) s m9 ([.ref (E.2.2 + 206), .ref (E.2.2 + 207)] : List Value).toArray below meth C9 H locs 0 0 (MQ below (va_Qv (fun (u : gI × gJ) => (fun σ1 τ1 => σ1 = σ ∧ τ1 = τ) u.1 u.2) (fun u t => gx_P gx_tb E u.1 u.2 t.heap) (gx_A (gx_tb).length E.2.2 s.heap.size)) ([.ref (E.2.2 + 206), .ref (E.2.2 + 207)] : List Value).toArray s 0 0 (gx_A (gx_tb).length E.2.2 s.heap.size)) (F0 m9 2 ls []) := by
    intro n1
    induction n1 with
    | zero => intro i H locs ls hmz; exact absurd hmz (Nat.not_lt_zero _)
    | succ n1 ih_1 =>
      intro i H locs ls hmz hi hw hl
      refine lv_iload_n hx hb dX12_puts_2 rfl (lv_at hl 2 rfl) ?_
      refine lv_bipush (v := 45) hx hb dX12_puts_3 (by decide) ?_
      refine lv_icmp_ge (tgt := 20) hx hb dX12_puts_5 (by decide) (fun c_2 => ?_) (fun c_2 => ?_)
      · exact gx_rv (post := fun σ1 τ1 => σ1 = σ ∧ τ1 = τ) S hr hlk hw dX12_puts_20 ⟨rfl, rfl⟩
      · have hlt : i < 45 := gx_ilt (k := 45) rfl (by omega) c_2
        refine lv_aload_n hx hb dX12_puts_8 rfl (lv_at hl 1 rfl) ?_
        refine lv_iload_n hx hb dX12_puts_9 rfl (lv_at hl 2 rfl) ?_
        refine lv_aload_n hx hb dX12_puts_10 rfl (lv_at hl 0 rfl) ?_
        refine lv_iload_n hx hb dX12_puts_11 rfl (lv_at hl 2 rfl) ?_
        refine gx_iald S hK hw t_206 i (nI_clamp (by omega)) (vp_in_nI (by omega) (by omega)) dX12_puts_12 ?_
        refine gx_iast S hK gx_ok hw t_207 i (nI_clamp (by omega)) (vp_in_nI (by omega) (by omega)) dX12_puts_13 (fun H locs hw => ?_)
        rw [up2_id (hz i)] at hw
        refine lv_iinc (v := nI (i + 1)) (lv' := [(2, .int (nI (i + 1))), (0, .ref (E.2.2 + 206)), (1, .ref (E.2.2 + 207))]) hx hb dX12_puts_14 hl (k := 2) rfl (nI_1 _) (by decide) rfl (fun ls hl => ?_)
        refine lv_goto (tgt := 2) hx hb dX12_puts_17 (by decide) ?_
        exact ih_1 (i + 1) _ _ _ (by omega) (by omega) hw (lv_sub hl [1, 2, 0] rfl)
  exact loop_1 (45 + 1) 0 _ _ _ (by omega) (by omega) hw (lv_sub hl [1, 2, 0] rfl)
set_option maxHeartbeats 4000000 in
set_option maxRecDepth 100000 in
theorem c_putsBy (l : Launch) {E : gE} (σ : gI) (τ : gJ)  (h_199_36 : σ 199 36 = 0) (hz : ∀ k : Nat, σ 219 k = σ 206 k) : gx_Mv l yX12_putsBy cX12_putsBy 2 none 0 gx_tb E (σ) (τ) [.ref (E.2.2 + 199)] (fun σ1 τ1 => σ1 = σ ∧ τ1 = τ) := by
  refine gx_bv (by decide +kernel) (Nat.le_of_ble_eq_true rfl) ?_
  intro P9 e9 s m9 below meth C9 S hr hlk hK hw ls hl
  have S : CallFix P9 m9 C9 cX12_putsBy 2 s _ gx_G RX12 := S
  have hx := S.1
  have hb := S.2.1
  have hl : lv_has ls 2 [(0, .ref (E.2.2 + 199))] := hl
  refine lv_iconst (v := 0) hx hb dX12_putsBy_0 (by decide) ?_
  refine lv_istore_n (lv' := [(1, .int 0), (0, .ref (E.2.2 + 199))]) hx hb dX12_putsBy_1 rfl hl (by decide) rfl (fun ls hl => ?_)
  have loop_1 : ∀ (n1 : Nat) (i : Nat) (H : Heap) (locs : List Loc) (ls : Array Slot), 45 - i < n1 → (i ≤ 45) → gx_W gx_tb (gx_tb).length E s (σ) (τ) H locs → lv_has ls 2 [(0, .ref (E.2.2 + 199)), (1, .int (nI i))] → W P9 l e9 (gx_rm 0) s m9 ([.ref (E.2.2 + 199)] : List Value).toArray below meth C9 H locs 0 0 (MQ below (va_Qv (fun (u : gI × gJ) => (fun σ1 τ1 => σ1 = σ ∧ τ1 = τ) u.1 u.2) (fun u t => gx_P gx_tb E u.1 u.2 t.heap) (gx_A (gx_tb).length E.2.2 s.heap.size)) ([.ref (E.2.2 + 199)] : List Value).toArray s 0 0 (gx_A (gx_tb).length E.2.2 s.heap.size)) (F0 m9 2 ls []) := by
    intro n1
    induction n1 with
    | zero => intro i H locs ls hmz; exact absurd hmz (Nat.not_lt_zero _)
    | succ n1 ih_1 =>
      intro i H locs ls hmz hi hw hl
      refine lv_iload_n hx hb dX12_putsBy_2 rfl (lv_at hl 1 rfl) ?_
      refine lv_bipush (v := 45) hx hb dX12_putsBy_3 (by decide) ?_
      refine lv_icmp_ge (tgt := 34) hx hb dX12_putsBy_5 (by decide) (fun c_2 => ?_) (fun c_2 => ?_)
      · exact gx_rv (post := fun σ1 τ1 => σ1 = σ ∧ τ1 = τ) S hr hlk hw dX12_putsBy_34 ⟨rfl, rfl⟩
      · have hlt : i < 45 := gx_ilt (k := 45) rfl (by omega) c_2
        refine lv_aload_n hx hb dX12_putsBy_8 rfl (lv_at hl 0 rfl) ?_
        refine gx_getr (j := 219) S hK hw t_199 cl_13 37 (by decide) rfl mw_1451 rfl dX12_putsBy_9 ?_
        refine lv_bipush (v := 45) hx hb dX12_putsBy_12 (by decide) ?_
        refine lv_aload_n hx hb dX12_putsBy_14 rfl (lv_at hl 0 rfl) ?_
        refine gx_get S hK hw t_199 cl_13 36 (by decide) rfl mw_1450 rfl dX12_putsBy_15 ?_
        refine gx_top (v := 0) (by first | rfl | decide | simp [up2, gs0, h_199_36, hz]) ?_
        refine lv_imul hx hb dX12_putsBy_18 ?_
        refine gx_top (v := 0) (by decide) ?_
        refine lv_iload_n hx hb dX12_putsBy_19 rfl (lv_at hl 1 rfl) ?_
        refine lv_iadd hx hb dX12_putsBy_20 ?_
        refine gx_top (v := nI i) (by simp) ?_
        refine lv_aload_n hx hb dX12_putsBy_21 rfl (lv_at hl 0 rfl) ?_
        refine gx_getr (j := 206) S hK hw t_199 cl_13 10 (by decide) rfl mw_1424 rfl dX12_putsBy_22 ?_
        refine lv_iload_n hx hb dX12_putsBy_25 rfl (lv_at hl 1 rfl) ?_
        refine gx_iald S hK hw t_206 i (nI_clamp (by omega)) (vp_in_nI (by omega) (by omega)) dX12_putsBy_26 ?_
        refine gx_iast S hK gx_ok hw t_219 i (nI_clamp (by omega)) (vp_in_nI (by omega) (by omega)) dX12_putsBy_27 (fun H locs hw => ?_)
        rw [up2_id (hz i)] at hw
        refine lv_iinc (v := nI (i + 1)) (lv' := [(1, .int (nI (i + 1))), (0, .ref (E.2.2 + 199))]) hx hb dX12_putsBy_28 hl (k := 1) rfl (nI_1 _) (by decide) rfl (fun ls hl => ?_)
        refine lv_goto (tgt := 2) hx hb dX12_putsBy_31 (by decide) ?_
        exact ih_1 (i + 1) _ _ _ (by omega) (by omega) hw (lv_sub hl [1, 0] rfl)
  exact loop_1 (45 + 1) 0 _ _ _ (by omega) (by omega) hw (lv_sub hl [1, 0] rfl)
set_option maxHeartbeats 4000000 in
set_option maxRecDepth 100000 in
theorem c_adds (l : Launch) {E : gE} (σ : gI) (τ : gJ) (a : Int32) (h_199_36 : σ 199 36 = 0) : gx_Mi l yX12_adds cX12_adds 3 (some .int) 0 gx_tb E (σ) (τ) [.ref (E.2.2 + 199), .int a] (fun r σ1 τ1 => r = a ∧ σ1 = up2 σ 199 36 1 ∧ τ1 = τ) := by
  refine gx_bi (by decide +kernel) (Nat.le_of_ble_eq_true rfl) ?_
  intro P9 e9 s m9 below meth C9 S hr hlk hK hw ls hl
  have S : CallFix P9 m9 C9 cX12_adds 3 s _ gx_G RX12 := S
  have hx := S.1
  have hb := S.2.1
  have hl : lv_has ls 3 [(0, .ref (E.2.2 + 199)), (1, .int a)] := hl
  refine lv_aload_n hx hb dX12_adds_0 rfl (lv_at hl 0 rfl) ?_
  refine lv_dup hx hb dX12_adds_1 rfl ?_
  refine gx_get S hK hw t_199 cl_13 36 (by decide) rfl mw_1450 rfl dX12_adds_2 ?_
  refine gx_top (v := 0) (by first | rfl | decide | simp [up2, gs0, h_199_36]) ?_
  refine lv_iconst (v := 1) hx hb dX12_adds_5 (by decide) ?_
  refine lv_iadd hx hb dX12_adds_6 ?_
  refine gx_top (v := 1) (by decide) ?_
  refine gx_put S hK gx_ok hw t_199 cl_13 36 (by decide) rfl mw_1450 rfl rfl (ty := .int) (v := 1) (by decide +kernel) rfl rfl dX12_adds_7 (fun H locs hw => ?_)
  refine lv_aload_n hx hb dX12_adds_10 rfl (lv_at hl 0 rfl) ?_
  refine gx_get S hK hw t_199 cl_13 36 (by decide) rfl mw_1450 rfl dX12_adds_11 ?_
  refine gx_top (v := 1) (by first | rfl | decide | simp [up2, gs0, h_199_36]) ?_
  refine lv_bipush (v := 15) hx hb dX12_adds_14 (by decide) ?_
  refine lv_icmp_le (tgt := 59) hx hb dX12_adds_16 (by decide) (fun _ => ?_) (fun h => absurd (by decide) h)
  refine lv_iload_n hx hb dX12_adds_59 rfl (lv_at hl 1 rfl) ?_
  exact gx_ri (post := fun r σ1 τ1 => r = a ∧ σ1 = up2 σ 199 36 1 ∧ τ1 = τ) (v := a) S hr hlk hw rfl dX12_adds_60 ⟨rfl, (by first | rfl | simp [up2, upJ]), rfl⟩
set_option maxHeartbeats 4000000 in
set_option maxRecDepth 100000 in
theorem c_enters0 (l : Launch) {E : gE} (σ : gI) (τ : gJ) (v : Int64) (h_199_1 : σ 199 1 = 0) : gx_Mv l yX12_enters cX12_enters 3 none 0 gx_tb E (σ) (τ) [.ref (E.2.2 + 199), .long v] (fun σ1 τ1 => σ1 = up2 σ 199 1 1 ∧ True) := by
  refine gx_bv (by decide +kernel) (Nat.le_of_ble_eq_true rfl) ?_
  intro P9 e9 s m9 below meth C9 S hr hlk hK hw ls hl
  have S : CallFix P9 m9 C9 cX12_enters 3 s _ gx_G RX12 := S
  have hx := S.1
  have hb := S.2.1
  have hl : lv_has ls 3 [(0, .ref (E.2.2 + 199)), (1, .long v)] := hl
  refine lv_aload_n hx hb dX12_enters_0 rfl (lv_at hl 0 rfl) ?_
  refine gx_getr (j := 200) S hK hw t_199 cl_13 2 (by decide) rfl mw_1416 rfl dX12_enters_1 ?_
  refine lv_aload_n hx hb dX12_enters_4 rfl (lv_at hl 0 rfl) ?_
  refine gx_get S hK hw t_199 cl_13 1 (by decide) rfl mw_1415 rfl dX12_enters_5 ?_
  refine gx_top (v := 0) (by first | rfl | decide | simp [up2, gs0, h_199_1]) ?_
  refine lv_lload_n hx hb dX12_enters_8 rfl (lv_at hl 1 rfl) ?_
  refine gx_last S hK gx_ok hw t_200 0 rfl (gx_in rfl (by decide) (by decide)) dX12_enters_9 (fun H locs hw => ?_)
  refine lv_aload_n hx hb dX12_enters_10 rfl (lv_at hl 0 rfl) ?_
  refine lv_dup hx hb dX12_enters_11 rfl ?_
  refine gx_get S hK hw t_199 cl_13 1 (by decide) rfl mw_1415 rfl dX12_enters_12 ?_
  refine gx_top (v := 0) (by first | rfl | decide | simp [up2, gs0, h_199_1]) ?_
  refine lv_iconst (v := 1) hx hb dX12_enters_15 (by decide) ?_
  refine lv_iadd hx hb dX12_enters_16 ?_
  refine gx_top (v := 1) (by decide) ?_
  refine gx_put S hK gx_ok hw t_199 cl_13 1 (by decide) rfl mw_1415 rfl rfl (ty := .int) (v := 1) (by decide +kernel) rfl rfl dX12_enters_17 (fun H locs hw => ?_)
  exact gx_rv (post := fun σ1 τ1 => σ1 = up2 σ 199 1 1 ∧ True) S hr hlk hw dX12_enters_20 ⟨(by first | rfl | simp [up2, upJ]), trivial⟩
set_option maxHeartbeats 4000000 in
set_option maxRecDepth 100000 in
theorem c_enters1 (l : Launch) {E : gE} (σ : gI) (τ : gJ) (v : Int64) (h_199_1 : σ 199 1 = 1) : gx_Mv l yX12_enters cX12_enters 3 none 0 gx_tb E (σ) (τ) [.ref (E.2.2 + 199), .long v] (fun σ1 τ1 => σ1 = up2 σ 199 1 2 ∧ True) := by
  refine gx_bv (by decide +kernel) (Nat.le_of_ble_eq_true rfl) ?_
  intro P9 e9 s m9 below meth C9 S hr hlk hK hw ls hl
  have S : CallFix P9 m9 C9 cX12_enters 3 s _ gx_G RX12 := S
  have hx := S.1
  have hb := S.2.1
  have hl : lv_has ls 3 [(0, .ref (E.2.2 + 199)), (1, .long v)] := hl
  refine lv_aload_n hx hb dX12_enters_0 rfl (lv_at hl 0 rfl) ?_
  refine gx_getr (j := 200) S hK hw t_199 cl_13 2 (by decide) rfl mw_1416 rfl dX12_enters_1 ?_
  refine lv_aload_n hx hb dX12_enters_4 rfl (lv_at hl 0 rfl) ?_
  refine gx_get S hK hw t_199 cl_13 1 (by decide) rfl mw_1415 rfl dX12_enters_5 ?_
  refine gx_top (v := 1) (by first | rfl | decide | simp [up2, gs0, h_199_1]) ?_
  refine lv_lload_n hx hb dX12_enters_8 rfl (lv_at hl 1 rfl) ?_
  refine gx_last S hK gx_ok hw t_200 1 rfl (gx_in rfl (by decide) (by decide)) dX12_enters_9 (fun H locs hw => ?_)
  refine lv_aload_n hx hb dX12_enters_10 rfl (lv_at hl 0 rfl) ?_
  refine lv_dup hx hb dX12_enters_11 rfl ?_
  refine gx_get S hK hw t_199 cl_13 1 (by decide) rfl mw_1415 rfl dX12_enters_12 ?_
  refine gx_top (v := 1) (by first | rfl | decide | simp [up2, gs0, h_199_1]) ?_
  refine lv_iconst (v := 1) hx hb dX12_enters_15 (by decide) ?_
  refine lv_iadd hx hb dX12_enters_16 ?_
  refine gx_top (v := 2) (by decide) ?_
  refine gx_put S hK gx_ok hw t_199 cl_13 1 (by decide) rfl mw_1415 rfl rfl (ty := .int) (v := 2) (by decide +kernel) rfl rfl dX12_enters_17 (fun H locs hw => ?_)
  exact gx_rv (post := fun σ1 τ1 => σ1 = up2 σ 199 1 2 ∧ True) S hr hlk hw dX12_enters_20 ⟨(by first | rfl | simp [up2, upJ]), trivial⟩
set_option maxHeartbeats 4000000 in
set_option maxRecDepth 100000 in
theorem c_enters2 (l : Launch) {E : gE} (σ : gI) (τ : gJ) (v : Int64) (h_199_1 : σ 199 1 = 2) : gx_Mv l yX12_enters cX12_enters 3 none 0 gx_tb E (σ) (τ) [.ref (E.2.2 + 199), .long v] (fun σ1 τ1 => σ1 = up2 σ 199 1 3 ∧ True) := by
  refine gx_bv (by decide +kernel) (Nat.le_of_ble_eq_true rfl) ?_
  intro P9 e9 s m9 below meth C9 S hr hlk hK hw ls hl
  have S : CallFix P9 m9 C9 cX12_enters 3 s _ gx_G RX12 := S
  have hx := S.1
  have hb := S.2.1
  have hl : lv_has ls 3 [(0, .ref (E.2.2 + 199)), (1, .long v)] := hl
  refine lv_aload_n hx hb dX12_enters_0 rfl (lv_at hl 0 rfl) ?_
  refine gx_getr (j := 200) S hK hw t_199 cl_13 2 (by decide) rfl mw_1416 rfl dX12_enters_1 ?_
  refine lv_aload_n hx hb dX12_enters_4 rfl (lv_at hl 0 rfl) ?_
  refine gx_get S hK hw t_199 cl_13 1 (by decide) rfl mw_1415 rfl dX12_enters_5 ?_
  refine gx_top (v := 2) (by first | rfl | decide | simp [up2, gs0, h_199_1]) ?_
  refine lv_lload_n hx hb dX12_enters_8 rfl (lv_at hl 1 rfl) ?_
  refine gx_last S hK gx_ok hw t_200 2 rfl (gx_in rfl (by decide) (by decide)) dX12_enters_9 (fun H locs hw => ?_)
  refine lv_aload_n hx hb dX12_enters_10 rfl (lv_at hl 0 rfl) ?_
  refine lv_dup hx hb dX12_enters_11 rfl ?_
  refine gx_get S hK hw t_199 cl_13 1 (by decide) rfl mw_1415 rfl dX12_enters_12 ?_
  refine gx_top (v := 2) (by first | rfl | decide | simp [up2, gs0, h_199_1]) ?_
  refine lv_iconst (v := 1) hx hb dX12_enters_15 (by decide) ?_
  refine lv_iadd hx hb dX12_enters_16 ?_
  refine gx_top (v := 3) (by decide) ?_
  refine gx_put S hK gx_ok hw t_199 cl_13 1 (by decide) rfl mw_1415 rfl rfl (ty := .int) (v := 3) (by decide +kernel) rfl rfl dX12_enters_17 (fun H locs hw => ?_)
  exact gx_rv (post := fun σ1 τ1 => σ1 = up2 σ 199 1 3 ∧ True) S hr hlk hw dX12_enters_20 ⟨(by first | rfl | simp [up2, upJ]), trivial⟩
set_option maxHeartbeats 4000000 in
set_option maxRecDepth 100000 in
theorem c_canPut (l : Launch) {E : gE} (σ : gI) (τ : gJ) (p b n : Int32) (h_199_3 : σ 199 3 = 0) : gx_Mi l yX12_canPut cX12_canPut 4 (some .boolean) 2 gx_tb E (σ) (τ) [.ref (E.2.2 + 199), .int p, .int b, .int n] (fun r σ1 τ1 => r = 0 ∧ σ1 = σ ∧ τ1 = τ) := by
  refine gx_bi (by decide +kernel) (Nat.le_of_ble_eq_true rfl) ?_
  intro P9 e9 s m9 below meth C9 S hr hlk hK hw ls hl
  have S : CallFix P9 m9 C9 cX12_canPut 4 s _ gx_G RX12 := S
  have hx := S.1
  have hb := S.2.1
  have hl : lv_has ls 4 [(0, .ref (E.2.2 + 199)), (1, .int p), (2, .int b), (3, .int n)] := hl
  refine lv_aload_n hx hb dX12_canPut_0 rfl (lv_at hl 0 rfl) ?_
  refine lv_iload_n hx hb dX12_canPut_1 rfl (lv_at hl 1 rfl) ?_
  refine gx_cVi (As := [.int p]) (rest := []) S hK gx_ok hw (c_isPlace l (E := E) (σ) (τ) p (by first | rfl | decide | simp [up2, gs0, h_199_3])) cw_X12_133 t_199 cl_13 ⟨Nat.le_of_ble_eq_true rfl, Nat.le_of_ble_eq_true rfl⟩ rfl hl.1 rfl (Nat.le_of_ble_eq_true rfl) ⟨Nat.le_of_ble_eq_true rfl, Nat.le_of_ble_eq_true rfl⟩ dX12_canPut_2 (fun r_1 σ_1 τ_1 H locs hp hw => ?_)
  obtain ⟨er_1, es_1, et_1⟩ := hp
  obtain rfl := er_1.symm
  obtain rfl := es_1.symm
  obtain rfl := et_1.symm
  refine lv_if_eq (tgt := 36) hx hb dX12_canPut_5 (by decide) (fun _ => ?_) (fun h => absurd (by decide) h)
  refine lv_iconst (v := 0) hx hb dX12_canPut_36 (by decide) ?_
  exact gx_ri (post := fun r σ1 τ1 => r = 0 ∧ σ1 = σ ∧ τ1 = τ) (v := 0) S hr hlk hw rfl dX12_canPut_37 ⟨rfl, (by first | rfl | simp [up2, upJ]), (by first | rfl | simp [up2, upJ])⟩
set_option maxHeartbeats 4000000 in
set_option maxRecDepth 100000 in
theorem c_canSail (l : Launch) {E : gE} (σ : gI) (τ : gJ) (p b n t : Int32) (h_199_3 : σ 199 3 = 0) : gx_Mi l yX12_canSail cX12_canSail 5 (some .boolean) 3 gx_tb E (σ) (τ) [.ref (E.2.2 + 199), .int p, .int b, .int n, .int t] (fun r σ1 τ1 => r = 0 ∧ σ1 = σ ∧ τ1 = τ) := by
  refine gx_bi (by decide +kernel) (Nat.le_of_ble_eq_true rfl) ?_
  intro P9 e9 s m9 below meth C9 S hr hlk hK hw ls hl
  have S : CallFix P9 m9 C9 cX12_canSail 5 s _ gx_G RX12 := S
  have hx := S.1
  have hb := S.2.1
  have hl : lv_has ls 5 [(0, .ref (E.2.2 + 199)), (1, .int p), (2, .int b), (3, .int n), (4, .int t)] := hl
  refine lv_aload_n hx hb dX12_canSail_0 rfl (lv_at hl 0 rfl) ?_
  refine lv_iload_n hx hb dX12_canSail_1 rfl (lv_at hl 1 rfl) ?_
  refine lv_iload_n hx hb dX12_canSail_2 rfl (lv_at hl 2 rfl) ?_
  refine lv_iload_n hx hb dX12_canSail_3 rfl (lv_at hl 3 rfl) ?_
  refine gx_cVi (As := [.int p, .int b, .int n]) (rest := []) S hK gx_ok hw (c_canPut l (E := E) (σ) (τ) p b n (by first | rfl | decide | simp [up2, gs0, h_199_3])) cw_X12_331 t_199 cl_13 ⟨Nat.le_of_ble_eq_true rfl, Nat.le_of_ble_eq_true rfl⟩ rfl hl.1 rfl (Nat.le_of_ble_eq_true rfl) ⟨Nat.le_of_ble_eq_true rfl, Nat.le_of_ble_eq_true rfl⟩ dX12_canSail_4 (fun r_1 σ_1 τ_1 H locs hp hw => ?_)
  obtain ⟨er_1, es_1, et_1⟩ := hp
  obtain rfl := er_1.symm
  obtain rfl := es_1.symm
  obtain rfl := et_1.symm
  refine lv_if_eq (tgt := 23) hx hb dX12_canSail_7 (by decide) (fun _ => ?_) (fun h => absurd (by decide) h)
  refine lv_iconst (v := 0) hx hb dX12_canSail_23 (by decide) ?_
  exact gx_ri (post := fun r σ1 τ1 => r = 0 ∧ σ1 = σ ∧ τ1 = τ) (v := 0) S hr hlk hw rfl dX12_canSail_24 ⟨rfl, (by first | rfl | simp [up2, upJ]), (by first | rfl | simp [up2, upJ])⟩
set_option maxHeartbeats 4000000 in
set_option maxRecDepth 100000 in
theorem c_comesNow (l : Launch) {E : gE} (σ : gI) (τ : gJ) (p b n w : Int32) (h_199_3 : σ 199 3 = 0) : gx_Mi l yX12_comesNow cX12_comesNow 5 (some .int) 3 gx_tb E (σ) (τ) [.ref (E.2.2 + 199), .int p, .int b, .int n, .int w] (fun r σ1 τ1 => r = (-1) ∧ σ1 = σ ∧ τ1 = τ) := by
  refine gx_bi (by decide +kernel) (Nat.le_of_ble_eq_true rfl) ?_
  intro P9 e9 s m9 below meth C9 S hr hlk hK hw ls hl
  have S : CallFix P9 m9 C9 cX12_comesNow 5 s _ gx_G RX12 := S
  have hx := S.1
  have hb := S.2.1
  have hl : lv_has ls 5 [(0, .ref (E.2.2 + 199)), (1, .int p), (2, .int b), (3, .int n), (4, .int w)] := hl
  refine lv_aload_n hx hb dX12_comesNow_0 rfl (lv_at hl 0 rfl) ?_
  refine lv_iload_n hx hb dX12_comesNow_1 rfl (lv_at hl 1 rfl) ?_
  refine lv_iload_n hx hb dX12_comesNow_2 rfl (lv_at hl 2 rfl) ?_
  refine lv_iload_n hx hb dX12_comesNow_3 rfl (lv_at hl 3 rfl) ?_
  refine gx_cVi (As := [.int p, .int b, .int n]) (rest := []) S hK gx_ok hw (c_canPut l (E := E) (σ) (τ) p b n (by first | rfl | decide | simp [up2, gs0, h_199_3])) cw_X12_331 t_199 cl_13 ⟨Nat.le_of_ble_eq_true rfl, Nat.le_of_ble_eq_true rfl⟩ rfl hl.1 rfl (Nat.le_of_ble_eq_true rfl) ⟨Nat.le_of_ble_eq_true rfl, Nat.le_of_ble_eq_true rfl⟩ dX12_comesNow_4 (fun r_1 σ_1 τ_1 H locs hp hw => ?_)
  obtain ⟨er_1, es_1, et_1⟩ := hp
  obtain rfl := er_1.symm
  obtain rfl := es_1.symm
  obtain rfl := et_1.symm
  refine lv_if_eq (tgt := 23) hx hb dX12_comesNow_7 (by decide) (fun _ => ?_) (fun h => absurd (by decide) h)
  refine lv_iconst (v := (-1)) hx hb dX12_comesNow_23 (by decide) ?_
  exact gx_ri (post := fun r σ1 τ1 => r = (-1) ∧ σ1 = σ ∧ τ1 = τ) (v := (-1)) S hr hlk hw rfl dX12_comesNow_24 ⟨rfl, (by first | rfl | simp [up2, upJ]), (by first | rfl | simp [up2, upJ])⟩
set_option maxHeartbeats 4000000 in
set_option maxRecDepth 100000 in
theorem c_gives (l : Launch) {E : gE} (σ : gI) (τ : gJ) (i n : Int32) (h_206_44 : σ 206 44 = 0) : gx_Mi l yX12_gives cX12_gives 3 (some .int) 2 gx_tb E (σ) (τ) [.ref (E.2.2 + 199), .int i, .int n] (fun r σ1 τ1 => r = (-1) ∧ σ1 = σ ∧ τ1 = τ) := by
  refine gx_bi (by decide +kernel) (Nat.le_of_ble_eq_true rfl) ?_
  intro P9 e9 s m9 below meth C9 S hr hlk hK hw ls hl
  have S : CallFix P9 m9 C9 cX12_gives 3 s _ gx_G RX12 := S
  have hx := S.1
  have hb := S.2.1
  have hl : lv_has ls 3 [(0, .ref (E.2.2 + 199)), (1, .int i), (2, .int n)] := hl
  refine lv_aload_n hx hb dX12_gives_0 rfl (lv_at hl 0 rfl) ?_
  refine lv_iload_n hx hb dX12_gives_1 rfl (lv_at hl 1 rfl) ?_
  refine gx_cVi (As := [.int i]) (rest := []) S hK gx_ok hw (c_isThing l (E := E) (σ) (τ) i (by first | rfl | decide | simp [up2, gs0, h_206_44])) cw_X12_309 t_199 cl_13 ⟨Nat.le_of_ble_eq_true rfl, Nat.le_of_ble_eq_true rfl⟩ rfl hl.1 rfl (Nat.le_of_ble_eq_true rfl) ⟨Nat.le_of_ble_eq_true rfl, Nat.le_of_ble_eq_true rfl⟩ dX12_gives_2 (fun r_1 σ_1 τ_1 H locs hp hw => ?_)
  obtain ⟨er_1, es_1, et_1⟩ := hp
  obtain rfl := er_1.symm
  obtain rfl := es_1.symm
  obtain rfl := et_1.symm
  refine lv_if_eq (tgt := 34) hx hb dX12_gives_5 (by decide) (fun _ => ?_) (fun h => absurd (by decide) h)
  refine lv_iconst (v := (-1)) hx hb dX12_gives_34 (by decide) ?_
  exact gx_ri (post := fun r σ1 τ1 => r = (-1) ∧ σ1 = σ ∧ τ1 = τ) (v := (-1)) S hr hlk hw rfl dX12_gives_35 ⟨rfl, (by first | rfl | simp [up2, upJ]), (by first | rfl | simp [up2, upJ])⟩
set_option maxHeartbeats 4000000 in
set_option maxRecDepth 100000 in
theorem c_goesOn (l : Launch) {E : gE} (σ : gI) (τ : gJ) (j : Nat) (h_199_4 : σ 199 4 = 0) (h_199_31 : σ 199 31 = 0) (h_199_32 : σ 199 32 = 0) (h_206_44 : σ 206 44 = 0) (h_207_44 : σ 207 44 = 0) (hj : j ≤ 300) (hz : ∀ k : Nat, σ 207 k = σ 206 k) : gx_Mv l yX12_goesOn cX12_goesOn 3 none 3 gx_tb E (σ) (τ) [.ref (E.2.2 + 199), .int (nI j)] (fun σ1 τ1 => (∀ c k : Nat, ¬ (c = 207 ∧ k = 43) → σ1 c k = (σ) c k) ∧ τ1 = τ) := by
  refine gx_bv (by decide +kernel) (Nat.le_of_ble_eq_true rfl) ?_
  intro P9 e9 s m9 below meth C9 S hr hlk hK hw ls hl
  have S : CallFix P9 m9 C9 cX12_goesOn 3 s _ gx_G RX12 := S
  have hx := S.1
  have hb := S.2.1
  have hl : lv_has ls 3 [(0, .ref (E.2.2 + 199)), (1, .int (nI j))] := hl
  refine lv_aload_n hx hb dX12_goesOn_0 rfl (lv_at hl 0 rfl) ?_
  refine gx_getr (j := 206) S hK hw t_199 cl_13 10 (by decide) rfl mw_1424 rfl dX12_goesOn_1 ?_
  refine lv_aload_n hx hb dX12_goesOn_4 rfl (lv_at hl 0 rfl) ?_
  refine gx_getr (j := 207) S hK hw t_199 cl_13 11 (by decide) rfl mw_1425 rfl dX12_goesOn_5 ?_
  refine gx_cSv (As := [.ref (E.2.2 + 206), .ref (E.2.2 + 207)]) (rest := []) S hK gx_ok hw (c_puts l (E := E) (σ) (τ) hz) cw_X12_374 ⟨Nat.le_of_ble_eq_true rfl, Nat.le_of_ble_eq_true rfl⟩ rfl hl.1 rfl (Nat.le_of_ble_eq_true rfl) ⟨Nat.le_of_ble_eq_true rfl, Nat.le_of_ble_eq_true rfl⟩ dX12_goesOn_8 (fun σ_1 τ_1 H locs hp hw => ?_)
  obtain ⟨es_1, et_1⟩ := hp
  obtain rfl := es_1.symm
  obtain rfl := et_1.symm
  refine lv_iconst (v := 0) hx hb dX12_goesOn_11 (by decide) ?_
  refine lv_istore_n (lv' := [(2, .int 0), (0, .ref (E.2.2 + 199)), (1, .int (nI j))]) hx hb dX12_goesOn_12 rfl hl (by decide) rfl (fun ls hl => ?_)
  have loop_2 : ∀ (n2 : Nat) (i : Nat) (σ2 : gI) (H : Heap) (locs : List Loc) (ls : Array Slot), j - i < n2 → (i ≤ j) → (∀ c k : Nat, ¬ (c = 207 ∧ k = 43) → σ2 c k = (σ) c k) → gx_W gx_tb (gx_tb).length E s (σ2) (τ) H locs → lv_has ls 3 [(0, .ref (E.2.2 + 199)), (1, .int (nI j)), (2, .int (nI i))] → W P9 l e9 (gx_rm 3) s m9 ([.ref (E.2.2 + 199), .int (nI j)] : List Value).toArray below meth C9 H locs 0 0 (MQ below (va_Qv (fun (u : gI × gJ) => (fun σ1 τ1 => (∀ c k : Nat, ¬ (c = 207 ∧ k = 43) → σ1 c k = (σ) c k) ∧ τ1 = τ) u.1 u.2) (fun u t => gx_P gx_tb E u.1 u.2 t.heap) (gx_A (gx_tb).length E.2.2 s.heap.size)) ([.ref (E.2.2 + 199), .int (nI j)] : List Value).toArray s 0 0 (gx_A (gx_tb).length E.2.2 s.heap.size)) (F0 m9 13 ls []) := by
    intro n2
    induction n2 with
    | zero => intro i σ2 H locs ls hmz; exact absurd hmz (Nat.not_lt_zero _)
    | succ n2 ih_2 =>
      intro i σ2 H locs ls hmz hi hs_2 hw hl
      refine lv_iload_n hx hb dX12_goesOn_13 rfl (lv_at hl 2 rfl) ?_
      refine lv_iload_n hx hb dX12_goesOn_14 rfl (lv_at hl 1 rfl) ?_
      refine lv_icmp_ge (tgt := 32) hx hb dX12_goesOn_15 (by decide) (fun c_3 => ?_) (fun c_3 => ?_)
      · exact gx_rv (post := fun σ1 τ1 => (∀ c k : Nat, ¬ (c = 207 ∧ k = 43) → σ1 c k = (σ) c k) ∧ τ1 = τ) S hr hlk hw dX12_goesOn_32 ⟨(fun c9 k9 h9_0 => by simp [up2, upJ, h9_0, hs_2]), (by first | rfl | simp [up2, upJ])⟩
      · have hlt : i < j := gx_ilt (k := j) rfl (by omega) c_3
        refine lv_aload_n hx hb dX12_goesOn_18 rfl (lv_at hl 0 rfl) ?_
        refine lv_aload_n hx hb dX12_goesOn_19 rfl (lv_at hl 0 rfl) ?_
        refine gx_getr (j := 207) S hK hw t_199 cl_13 11 (by decide) rfl mw_1425 rfl dX12_goesOn_20 ?_
        refine gx_cVv (As := [.ref (E.2.2 + 207)]) (rest := []) S hK gx_ok hw (c_minuteGoes l (E := E) (σ2) (τ) 207 (by first | rfl | decide | simp [up2, gs0, h_199_4, h_199_31, h_199_32, h_206_44, h_207_44, hz, hs_2]) (by first | rfl | decide | simp [up2, gs0, h_199_4, h_199_31, h_199_32, h_206_44, h_207_44, hz, hs_2]) (by first | rfl | decide | simp [up2, gs0, h_199_4, h_199_31, h_199_32, h_206_44, h_207_44, hz, hs_2]) (by first | rfl | decide | simp [up2, gs0, h_199_4, h_199_31, h_199_32, h_206_44, h_207_44, hz, hs_2]) (by first | rfl | decide | simp [up2, gs0, h_199_4, h_199_31, h_199_32, h_206_44, h_207_44, hz, hs_2])) cw_X12_349 t_199 cl_13 ⟨Nat.le_of_ble_eq_true rfl, Nat.le_of_ble_eq_true rfl⟩ rfl hl.1 rfl (Nat.le_of_ble_eq_true rfl) ⟨Nat.le_of_ble_eq_true rfl, Nat.le_of_ble_eq_true rfl⟩ dX12_goesOn_23 (fun σ_4 τ_4 H locs hp hw => ?_)
        obtain ⟨hs_4, et_4⟩ := hp
        obtain rfl := et_4.symm
        refine lv_iinc (v := nI (i + 1)) (lv' := [(2, .int (nI (i + 1))), (0, .ref (E.2.2 + 199)), (1, .int (nI j))]) hx hb dX12_goesOn_26 hl (k := 2) rfl (nI_1 _) (by decide) rfl (fun ls hl => ?_)
        refine lv_goto (tgt := 13) hx hb dX12_goesOn_29 (by decide) ?_
        exact ih_2 (i + 1) (σ_4) _ _ _ (by omega) (by omega) (fun c9 k9 h9_0 => by simp [up2, upJ, h9_0, hs_2, hs_4]) hw (lv_sub hl [1, 2, 0] rfl)
  exact loop_2 (j + 1) 0 ((σ)) _ _ _ (by omega) (by omega) (fun c9 k9 h9_0 => by simp [up2, upJ, h9_0]) hw (lv_sub hl [1, 2, 0] rfl)
set_option maxHeartbeats 4000000 in
set_option maxRecDepth 100000 in
theorem c_thinksNow (l : Launch) {E : gE} (σ : gI) (τ : gJ)  (h_206_42 : σ 206 42 = 0) (h_206_43 : σ 206 43 = 0) : gx_Mv l yX12_thinksNow cX12_thinksNow 1 none 0 gx_tb E (σ) (τ) [.ref (E.2.2 + 199)] (fun σ1 τ1 => (∀ c k : Nat, ¬ (c = 199 ∧ k = 45) → ¬ (c = 199 ∧ k = 46) → σ1 c k = (σ) c k) ∧ τ1 = τ) := by
  refine gx_bv (by decide +kernel) (Nat.le_of_ble_eq_true rfl) ?_
  intro P9 e9 s m9 below meth C9 S hr hlk hK hw ls hl
  have S : CallFix P9 m9 C9 cX12_thinksNow 1 s _ gx_G RX12 := S
  have hx := S.1
  have hb := S.2.1
  have hl : lv_has ls 1 [(0, .ref (E.2.2 + 199))] := hl
  refine lv_aload_n hx hb dX12_thinksNow_0 rfl (lv_at hl 0 rfl) ?_
  refine lv_aload_n hx hb dX12_thinksNow_1 rfl (lv_at hl 0 rfl) ?_
  refine gx_getr (j := 206) S hK hw t_199 cl_13 10 (by decide) rfl mw_1424 rfl dX12_thinksNow_2 ?_
  refine lv_bipush (v := 42) hx hb dX12_thinksNow_5 (by decide) ?_
  refine gx_iald S hK hw t_206 42 rfl (gx_in rfl (by decide) (by decide)) dX12_thinksNow_7 ?_
  refine gx_top (v := 0) (by first | rfl | decide | simp [up2, gs0, h_206_42, h_206_43]) ?_
  refine gx_put S hK gx_ok hw t_199 cl_13 45 (by decide) rfl mw_1459 rfl rfl (ty := .int) (v := 0) (by decide +kernel) rfl rfl dX12_thinksNow_8 (fun H locs hw => ?_)
  refine lv_aload_n hx hb dX12_thinksNow_11 rfl (lv_at hl 0 rfl) ?_
  refine lv_aload_n hx hb dX12_thinksNow_12 rfl (lv_at hl 0 rfl) ?_
  refine gx_getr (j := 206) S hK hw t_199 cl_13 10 (by decide) rfl mw_1424 rfl dX12_thinksNow_13 ?_
  refine lv_bipush (v := 43) hx hb dX12_thinksNow_16 (by decide) ?_
  refine gx_iald S hK hw t_206 43 rfl (gx_in rfl (by decide) (by decide)) dX12_thinksNow_18 ?_
  refine gx_top (v := 0) (by first | rfl | decide | simp [up2, gs0, h_206_42, h_206_43]) ?_
  refine gx_put S hK gx_ok hw t_199 cl_13 46 (by decide) rfl mw_1460 rfl rfl (ty := .int) (v := 0) (by decide +kernel) rfl rfl dX12_thinksNow_19 (fun H locs hw => ?_)
  exact gx_rv (post := fun σ1 τ1 => (∀ c k : Nat, ¬ (c = 199 ∧ k = 45) → ¬ (c = 199 ∧ k = 46) → σ1 c k = (σ) c k) ∧ τ1 = τ) S hr hlk hw dX12_thinksNow_22 ⟨(fun c9 k9 h9_0 h9_1 => by simp [up2, upJ, h9_0, h9_1]), rfl⟩
set_option maxHeartbeats 4000000 in
set_option maxRecDepth 100000 in
theorem c_savedAfter (l : Launch) {E : gE} (σ : gI) (τ : gJ)  (h_207_42 : σ 207 42 = 0) (h_207_44 : σ 207 44 = 0) (hz : ∀ k : Nat, σ 207 k = σ 206 k) : gx_Mi l yX12_savedAfter cX12_savedAfter 4 (some .int) 1 gx_tb E (σ) (τ) [.ref (E.2.2 + 199), .int 0, .int 0] (fun r σ1 τ1 => r = 0 ∧ (∀ c k : Nat, ¬ (c = 207 ∧ k = 42) → σ1 c k = (σ) c k) ∧ τ1 = τ) := by
  refine gx_bi (by decide +kernel) (Nat.le_of_ble_eq_true rfl) ?_
  intro P9 e9 s m9 below meth C9 S hr hlk hK hw ls hl
  have S : CallFix P9 m9 C9 cX12_savedAfter 4 s _ gx_G RX12 := S
  have hx := S.1
  have hb := S.2.1
  have hl : lv_has ls 4 [(0, .ref (E.2.2 + 199)), (1, .int 0), (2, .int 0)] := hl
  refine lv_aload_n hx hb dX12_savedAfter_0 rfl (lv_at hl 0 rfl) ?_
  refine gx_getr (j := 206) S hK hw t_199 cl_13 10 (by decide) rfl mw_1424 rfl dX12_savedAfter_1 ?_
  refine lv_aload_n hx hb dX12_savedAfter_4 rfl (lv_at hl 0 rfl) ?_
  refine gx_getr (j := 207) S hK hw t_199 cl_13 11 (by decide) rfl mw_1425 rfl dX12_savedAfter_5 ?_
  refine gx_cSv (As := [.ref (E.2.2 + 206), .ref (E.2.2 + 207)]) (rest := []) S hK gx_ok hw (c_puts l (E := E) (σ) (τ) hz) cw_X12_374 ⟨Nat.le_of_ble_eq_true rfl, Nat.le_of_ble_eq_true rfl⟩ rfl hl.1 rfl (Nat.le_of_ble_eq_true rfl) ⟨Nat.le_of_ble_eq_true rfl, Nat.le_of_ble_eq_true rfl⟩ dX12_savedAfter_8 (fun σ_1 τ_1 H locs hp hw => ?_)
  obtain ⟨es_1, et_1⟩ := hp
  obtain rfl := es_1.symm
  obtain rfl := et_1.symm
  refine lv_aload_n hx hb dX12_savedAfter_11 rfl (lv_at hl 0 rfl) ?_
  refine gx_getr (j := 207) S hK hw t_199 cl_13 11 (by decide) rfl mw_1425 rfl dX12_savedAfter_12 ?_
  refine lv_bipush (v := 42) hx hb dX12_savedAfter_15 (by decide) ?_
  refine lv_dup2_11 hx hb dX12_savedAfter_17 rfl rfl ?_
  refine gx_iald S hK hw t_207 42 rfl (gx_in rfl (by decide) (by decide)) dX12_savedAfter_18 ?_
  refine gx_top (v := 0) (by first | rfl | decide | simp [up2, gs0, h_207_42, h_207_44, hz]) ?_
  refine lv_iload_n hx hb dX12_savedAfter_19 rfl (lv_at hl 2 rfl) ?_
  refine lv_ixor hx hb dX12_savedAfter_20 ?_
  refine gx_top (v := 0) (by decide) ?_
  refine gx_iast S hK gx_ok hw t_207 42 rfl (gx_in rfl (by decide) (by decide)) dX12_savedAfter_21 (fun H locs hw => ?_)
  refine lv_iconst (v := 0) hx hb dX12_savedAfter_22 (by decide) ?_
  refine lv_istore_n (lv' := [(3, .int 0), (0, .ref (E.2.2 + 199)), (1, .int 0), (2, .int 0)]) hx hb dX12_savedAfter_23 rfl hl (by decide) rfl (fun ls hl => ?_)
  refine lv_iload_n hx hb dX12_savedAfter_24 rfl (lv_at hl 0 rfl) ?_
  refine lv_sipush (v := 300) hx hb dX12_savedAfter_25 (by decide) ?_
  refine lv_icmp_gt (tgt := 83) hx hb dX12_savedAfter_28 (by decide) (fun h => absurd h (by decide)) (fun _ => ?_)
  refine lv_aload_n hx hb dX12_savedAfter_31 rfl (lv_at hl 1 rfl) ?_
  refine gx_getr (j := 207) S hK hw t_199 cl_13 11 (by decide) rfl mw_1425 rfl dX12_savedAfter_32 ?_
  refine lv_iconst (v := 1) hx hb dX12_savedAfter_35 (by decide) ?_
  refine gx_cSi (As := [.ref (E.2.2 + 207), .int 1]) (rest := []) S hK gx_ok hw (c_thoseHow l (E := E) (up2 (σ) 207 42 0) (τ) 207 1 (by first | rfl | decide | simp [up2, gs0, h_207_42, h_207_44, hz]) (by first | rfl | decide | simp [up2, gs0, h_207_42, h_207_44, hz])) cw_X12_346 ⟨Nat.le_of_ble_eq_true rfl, Nat.le_of_ble_eq_true rfl⟩ rfl hl.1 rfl (Nat.le_of_ble_eq_true rfl) ⟨Nat.le_of_ble_eq_true rfl, Nat.le_of_ble_eq_true rfl⟩ dX12_savedAfter_36 (fun r_2 σ_2 τ_2 H locs hp hw => ?_)
  obtain ⟨er_2, es_2, et_2⟩ := hp
  obtain rfl := er_2.symm
  obtain rfl := es_2.symm
  obtain rfl := et_2.symm
  refine lv_iload_n hx hb dX12_savedAfter_39 rfl (lv_at hl 2 rfl) ?_
  refine lv_iand hx hb dX12_savedAfter_40 ?_
  refine gx_top (v := 0) (by decide) ?_
  refine lv_iload_n hx hb dX12_savedAfter_41 rfl (lv_at hl 2 rfl) ?_
  refine lv_icmp_ne (tgt := 47) hx hb dX12_savedAfter_42 (by decide) (fun h => absurd (by decide) h) (fun _ => ?_)
  refine lv_iload_n hx hb dX12_savedAfter_45 rfl (lv_at hl 0 rfl) ?_
  exact gx_ri (post := fun r σ1 τ1 => r = 0 ∧ (∀ c k : Nat, ¬ (c = 207 ∧ k = 42) → σ1 c k = (σ) c k) ∧ τ1 = τ) (v := 0) S hr hlk hw rfl dX12_savedAfter_46 ⟨rfl, (fun c9 k9 h9_0 => by simp [up2, upJ, h9_0]), (by first | rfl | simp [up2, upJ])⟩
set_option maxHeartbeats 4000000 in
set_option maxRecDepth 100000 in
theorem c_saves (l : Launch) {E : gE} (σ : gI) (τ : gJ)  (h_199_3 : σ 199 3 = 0) (h_207_42 : σ 207 42 = 0) (h_207_44 : σ 207 44 = 0) (hz : ∀ k : Nat, σ 207 k = σ 206 k) : gx_Mi l yX12_saves cX12_saves 9 (some .int) 2 gx_tb E (σ) (τ) [.ref (E.2.2 + 199), .int 0, .int (-1), .int 0] (fun r σ1 τ1 => r = 0 ∧ True ∧ True) := by
  refine gx_bi (by decide +kernel) (Nat.le_of_ble_eq_true rfl) ?_
  intro P9 e9 s m9 below meth C9 S hr hlk hK hw ls hl
  have S : CallFix P9 m9 C9 cX12_saves 9 s _ gx_G RX12 := S
  have hx := S.1
  have hb := S.2.1
  have hl : lv_has ls 9 [(0, .ref (E.2.2 + 199)), (1, .int 0), (2, .int (-1)), (3, .int 0)] := hl
  refine lv_aload_n hx hb dX12_saves_0 rfl (lv_at hl 0 rfl) ?_
  refine gx_cVi (As := []) (rest := []) S hK gx_ok hw (c_forks l (E := E) (σ) (τ) (by first | rfl | decide | simp [up2, gs0, h_199_3, h_207_42, h_207_44, hz])) cw_X12_416 t_199 cl_13 ⟨Nat.le_of_ble_eq_true rfl, Nat.le_of_ble_eq_true rfl⟩ rfl hl.1 rfl (Nat.le_of_ble_eq_true rfl) ⟨Nat.le_of_ble_eq_true rfl, Nat.le_of_ble_eq_true rfl⟩ dX12_saves_1 (fun r_1 σ_1 τ_1 H locs hp hw => ?_)
  obtain ⟨er_1, es_1, et_1⟩ := hp
  obtain rfl := er_1.symm
  obtain rfl := es_1.symm
  obtain rfl := et_1.symm
  refine lv_istore (lv' := [(4, .int 0), (0, .ref (E.2.2 + 199)), (1, .int 0), (2, .int (-1)), (3, .int 0)]) hx hb dX12_saves_4 hl (by decide) rfl (fun ls hl => ?_)
  refine lv_iconst (v := (-1)) hx hb dX12_saves_6 (by decide) ?_
  refine lv_istore (lv' := [(5, .int (-1)), (4, .int 0), (0, .ref (E.2.2 + 199)), (1, .int 0), (2, .int (-1)), (3, .int 0)]) hx hb dX12_saves_7 hl (by decide) rfl (fun ls hl => ?_)
  refine lv_iconst (v := 0) hx hb dX12_saves_9 (by decide) ?_
  refine lv_istore (lv' := [(6, .int 0), (5, .int (-1)), (4, .int 0), (0, .ref (E.2.2 + 199)), (1, .int 0), (2, .int (-1)), (3, .int 0)]) hx hb dX12_saves_10 hl (by decide) rfl (fun ls hl => ?_)
  refine lv_iconst (v := 0) hx hb dX12_saves_12 (by decide) ?_
  refine lv_istore (lv' := [(7, .int 0), (6, .int 0), (5, .int (-1)), (4, .int 0), (0, .ref (E.2.2 + 199)), (1, .int 0), (2, .int (-1)), (3, .int 0)]) hx hb dX12_saves_13 hl (by decide) rfl (fun ls hl => ?_)
  refine lv_iload hx hb dX12_saves_15 (lv_at hl 0 rfl) ?_
  refine lv_iload hx hb dX12_saves_17 (lv_at hl 3 rfl) ?_
  refine lv_icmp_gt (tgt := 97) hx hb dX12_saves_19 (by decide) (fun h => absurd h (by decide)) (fun _ => ?_)
  refine lv_iload hx hb dX12_saves_22 (lv_at hl 0 rfl) ?_
  refine lv_iload hx hb dX12_saves_24 (lv_at hl 3 rfl) ?_
  refine lv_iconst (v := (-1)) hx hb dX12_saves_26 (by decide) ?_
  refine lv_ixor hx hb dX12_saves_27 ?_
  refine gx_top (v := (-1)) (by decide) ?_
  refine lv_iand hx hb dX12_saves_28 ?_
  refine gx_top (v := 0) (by decide) ?_
  refine lv_if_ne (tgt := 91) hx hb dX12_saves_29 (by decide) (fun h => absurd (by decide) h) (fun _ => ?_)
  refine lv_iload hx hb dX12_saves_32 (lv_at hl 2 rfl) ?_
  refine lv_if_lt (tgt := 50) hx hb dX12_saves_34 (by decide) (fun _ => ?_) (fun h => absurd (by decide) h)
  refine lv_aload_n hx hb dX12_saves_50 rfl (lv_at hl 4 rfl) ?_
  refine lv_iload_n hx hb dX12_saves_51 rfl (lv_at hl 5 rfl) ?_
  refine lv_iload hx hb dX12_saves_52 (lv_at hl 0 rfl) ?_
  refine gx_cVi (As := [.int 0, .int 0]) (rest := []) S hK gx_ok hw (c_savedAfter l (E := E) (σ) (τ) (by first | rfl | decide | simp [up2, gs0, h_199_3, h_207_42, h_207_44, hz]) (by first | rfl | decide | simp [up2, gs0, h_199_3, h_207_42, h_207_44, hz]) hz) cw_X12_419 t_199 cl_13 ⟨Nat.le_of_ble_eq_true rfl, Nat.le_of_ble_eq_true rfl⟩ rfl hl.1 rfl (Nat.le_of_ble_eq_true rfl) ⟨Nat.le_of_ble_eq_true rfl, Nat.le_of_ble_eq_true rfl⟩ dX12_saves_54 (fun r_2 σ_2 τ_2 H locs hp hw => ?_)
  obtain ⟨er_2, hs_2, et_2⟩ := hp
  obtain rfl := er_2.symm
  obtain rfl := et_2.symm
  refine lv_istore (lv' := [(8, .int 0), (7, .int 0), (6, .int 0), (5, .int (-1)), (4, .int 0), (0, .ref (E.2.2 + 199)), (1, .int 0), (2, .int (-1)), (3, .int 0)]) hx hb dX12_saves_57 hl (by decide) rfl (fun ls hl => ?_)
  refine lv_iload hx hb dX12_saves_59 (lv_at hl 0 rfl) ?_
  refine lv_if_lt (tgt := 91) hx hb dX12_saves_61 (by decide) (fun h => absurd h (by decide)) (fun _ => ?_)
  refine lv_iload_n hx hb dX12_saves_64 rfl (lv_at hl 7 rfl) ?_
  refine lv_if_lt (tgt := 83) hx hb dX12_saves_65 (by decide) (fun _ => ?_) (fun h => absurd (by decide) h)
  refine lv_iload hx hb dX12_saves_83 (lv_at hl 1 rfl) ?_
  refine lv_istore (lv' := [(5, .int 0), (8, .int 0), (7, .int 0), (6, .int 0), (4, .int 0), (0, .ref (E.2.2 + 199)), (1, .int 0), (2, .int (-1)), (3, .int 0)]) hx hb dX12_saves_85 hl (by decide) rfl (fun ls hl => ?_)
  refine lv_iload hx hb dX12_saves_87 (lv_at hl 1 rfl) ?_
  refine lv_istore (lv' := [(6, .int 0), (5, .int 0), (8, .int 0), (7, .int 0), (4, .int 0), (0, .ref (E.2.2 + 199)), (1, .int 0), (2, .int (-1)), (3, .int 0)]) hx hb dX12_saves_89 hl (by decide) rfl (fun ls hl => ?_)
  refine lv_iinc (v := 1) (lv' := [(7, .int 1), (6, .int 0), (5, .int 0), (8, .int 0), (4, .int 0), (0, .ref (E.2.2 + 199)), (1, .int 0), (2, .int (-1)), (3, .int 0)]) hx hb dX12_saves_91 hl (k := 3) rfl (by decide) (by decide) rfl (fun ls hl => ?_)
  refine lv_goto (tgt := 15) hx hb dX12_saves_94 (by decide) ?_
  refine lv_iload hx hb dX12_saves_15 (lv_at hl 0 rfl) ?_
  refine lv_iload hx hb dX12_saves_17 (lv_at hl 4 rfl) ?_
  refine lv_icmp_gt (tgt := 97) hx hb dX12_saves_19 (by decide) (fun _ => ?_) (fun h => absurd (by decide) h)
  refine lv_iload hx hb dX12_saves_97 (lv_at hl 2 rfl) ?_
  refine lv_if_ge (tgt := 105) hx hb dX12_saves_99 (by decide) (fun _ => ?_) (fun h => absurd (by decide) h)
  refine lv_aload_n hx hb dX12_saves_105 rfl (lv_at hl 5 rfl) ?_
  refine lv_iconst (v := 0) hx hb dX12_saves_106 (by decide) ?_
  refine gx_put S hK gx_ok hw t_199 cl_13 1 (by decide) rfl mw_1415 rfl rfl (ty := .int) (v := 0) (by decide +kernel) rfl rfl dX12_saves_107 (fun H locs hw => ?_)
  refine lv_aload_n hx hb dX12_saves_110 rfl (lv_at hl 5 rfl) ?_
  refine lv_iload hx hb dX12_saves_111 (lv_at hl 2 rfl) ?_
  refine lv_i2l (v := 0) hx hb dX12_saves_113 (by decide) ?_
  refine gx_cVv (As := [.long 0]) (rest := []) S hK gx_ok hw (c_enters0 l (E := E) (up2 (σ_2) 199 1 0) (τ) 0 (by first | rfl | decide | simp [up2, gs0, h_199_3, h_207_42, h_207_44, hz, hs_2])) cw_X12_122 t_199 cl_13 ⟨Nat.le_of_ble_eq_true rfl, Nat.le_of_ble_eq_true rfl⟩ rfl hl.1 rfl (Nat.le_of_ble_eq_true rfl) ⟨Nat.le_of_ble_eq_true rfl, Nat.le_of_ble_eq_true rfl⟩ dX12_saves_114 (fun σ_3 τ_3 H locs hp hw => ?_)
  obtain ⟨es_3, -⟩ := hp
  obtain rfl := es_3.symm
  refine lv_aload_n hx hb dX12_saves_117 rfl (lv_at hl 5 rfl) ?_
  refine lv_iload hx hb dX12_saves_118 (lv_at hl 1 rfl) ?_
  refine lv_i2l (v := 0) hx hb dX12_saves_120 (by decide) ?_
  refine gx_cVv (As := [.long 0]) (rest := []) S hK gx_ok hw (c_enters1 l (E := E) (up2 (up2 (σ_2) 199 1 0) 199 1 1) (τ_3) 0 (by first | rfl | decide | simp [up2, gs0, h_199_3, h_207_42, h_207_44, hz, hs_2])) cw_X12_122 t_199 cl_13 ⟨Nat.le_of_ble_eq_true rfl, Nat.le_of_ble_eq_true rfl⟩ rfl hl.1 rfl (Nat.le_of_ble_eq_true rfl) ⟨Nat.le_of_ble_eq_true rfl, Nat.le_of_ble_eq_true rfl⟩ dX12_saves_121 (fun σ_4 τ_4 H locs hp hw => ?_)
  obtain ⟨es_4, -⟩ := hp
  obtain rfl := es_4.symm
  refine lv_iload hx hb dX12_saves_124 (lv_at hl 2 rfl) ?_
  refine gx_cSi (As := [.int 0]) (rest := []) S hK gx_ok hw (c_bitCount0 l (E := E) (up2 (up2 (up2 (σ_2) 199 1 0) 199 1 1) 199 1 2) (τ_4) ) cw_X12_353 ⟨Nat.le_of_ble_eq_true rfl, Nat.le_of_ble_eq_true rfl⟩ rfl hl.1 rfl (Nat.le_of_ble_eq_true rfl) ⟨Nat.le_of_ble_eq_true rfl, Nat.le_of_ble_eq_true rfl⟩ dX12_saves_126 (fun r_5 σ_5 τ_5 H locs hp hw => ?_)
  obtain ⟨er_5, es_5, et_5⟩ := hp
  obtain rfl := er_5.symm
  obtain rfl := es_5.symm
  obtain rfl := et_5.symm
  exact gx_ri (post := fun r σ1 τ1 => r = 0 ∧ True ∧ True) (v := 0) S hr hlk hw rfl dX12_saves_129 ⟨rfl, trivial, trivial⟩
set_option maxHeartbeats 4000000 in
set_option maxRecDepth 100000 in
theorem c_laysFits (l : Launch) {E : gE} (σ : gI) (τ : gJ)  (h_199_3 : σ 199 3 = 0) (h_199_52 : σ 199 52 = 0) : gx_Mi l yX12_laysFits cX12_laysFits 6 (some .int) 1 gx_tb E (σ) (τ) [.ref (E.2.2 + 199)] (fun r σ1 τ1 => r = 1 ∧ σ1 = up2 σ 229 0 1 ∧ τ1 = τ) := by
  refine gx_bi (by decide +kernel) (Nat.le_of_ble_eq_true rfl) ?_
  intro P9 e9 s m9 below meth C9 S hr hlk hK hw ls hl
  have S : CallFix P9 m9 C9 cX12_laysFits 6 s _ gx_G RX12 := S
  have hx := S.1
  have hb := S.2.1
  have hl : lv_has ls 6 [(0, .ref (E.2.2 + 199))] := hl
  refine lv_aload_n hx hb dX12_laysFits_0 rfl (lv_at hl 0 rfl) ?_
  refine gx_cVi (As := []) (rest := []) S hK gx_ok hw (c_forks l (E := E) (σ) (τ) (by first | rfl | decide | simp [up2, gs0, h_199_3, h_199_52])) cw_X12_416 t_199 cl_13 ⟨Nat.le_of_ble_eq_true rfl, Nat.le_of_ble_eq_true rfl⟩ rfl hl.1 rfl (Nat.le_of_ble_eq_true rfl) ⟨Nat.le_of_ble_eq_true rfl, Nat.le_of_ble_eq_true rfl⟩ dX12_laysFits_1 (fun r_1 σ_1 τ_1 H locs hp hw => ?_)
  obtain ⟨er_1, es_1, et_1⟩ := hp
  obtain rfl := er_1.symm
  obtain rfl := es_1.symm
  obtain rfl := et_1.symm
  refine lv_istore_n (lv' := [(1, .int 0), (0, .ref (E.2.2 + 199))]) hx hb dX12_laysFits_4 rfl hl (by decide) rfl (fun ls hl => ?_)
  refine lv_iconst (v := 0) hx hb dX12_laysFits_5 (by decide) ?_
  refine lv_istore_n (lv' := [(2, .int 0), (1, .int 0), (0, .ref (E.2.2 + 199))]) hx hb dX12_laysFits_6 rfl hl (by decide) rfl (fun ls hl => ?_)
  refine lv_iconst (v := 0) hx hb dX12_laysFits_7 (by decide) ?_
  refine lv_istore_n (lv' := [(3, .int 0), (2, .int 0), (1, .int 0), (0, .ref (E.2.2 + 199))]) hx hb dX12_laysFits_8 rfl hl (by decide) rfl (fun ls hl => ?_)
  refine lv_iload_n hx hb dX12_laysFits_9 rfl (lv_at hl 0 rfl) ?_
  refine lv_iload_n hx hb dX12_laysFits_10 rfl (lv_at hl 2 rfl) ?_
  refine lv_icmp_gt (tgt := 110) hx hb dX12_laysFits_11 (by decide) (fun h => absurd h (by decide)) (fun _ => ?_)
  refine lv_iload_n hx hb dX12_laysFits_14 rfl (lv_at hl 0 rfl) ?_
  refine lv_iload_n hx hb dX12_laysFits_15 rfl (lv_at hl 2 rfl) ?_
  refine lv_iconst (v := (-1)) hx hb dX12_laysFits_16 (by decide) ?_
  refine lv_ixor hx hb dX12_laysFits_17 ?_
  refine gx_top (v := (-1)) (by decide) ?_
  refine lv_iand hx hb dX12_laysFits_18 ?_
  refine gx_top (v := 0) (by decide) ?_
  refine lv_if_ne (tgt := 26) hx hb dX12_laysFits_19 (by decide) (fun h => absurd (by decide) h) (fun _ => ?_)
  refine lv_iconst (v := 1) hx hb dX12_laysFits_22 (by decide) ?_
  refine lv_goto (tgt := 27) hx hb dX12_laysFits_23 (by decide) ?_
  refine lv_istore (lv' := [(4, .int 1), (3, .int 0), (2, .int 0), (1, .int 0), (0, .ref (E.2.2 + 199))]) hx hb dX12_laysFits_27 hl (by decide) rfl (fun ls hl => ?_)
  refine lv_iconst (v := 0) hx hb dX12_laysFits_29 (by decide) ?_
  refine lv_istore (lv' := [(5, .int 0), (4, .int 1), (3, .int 0), (2, .int 0), (1, .int 0), (0, .ref (E.2.2 + 199))]) hx hb dX12_laysFits_30 hl (by decide) rfl (fun ls hl => ?_)
  refine lv_iload hx hb dX12_laysFits_32 (lv_at hl 0 rfl) ?_
  refine lv_aload_n hx hb dX12_laysFits_34 rfl (lv_at hl 5 rfl) ?_
  refine gx_get S hK hw t_199 cl_13 52 (by decide) rfl mw_1466 rfl dX12_laysFits_35 ?_
  refine gx_top (v := 0) (by first | rfl | decide | simp [up2, gs0, h_199_3, h_199_52]) ?_
  refine lv_icmp_ge (tgt := 88) hx hb dX12_laysFits_38 (by decide) (fun _ => ?_) (fun h => absurd (by decide) h)
  refine lv_aload_n hx hb dX12_laysFits_88 rfl (lv_at hl 5 rfl) ?_
  refine gx_getr (j := 229) S hK hw t_199 cl_13 56 (by decide) rfl mw_1470 rfl dX12_laysFits_89 ?_
  refine lv_iload_n hx hb dX12_laysFits_92 rfl (lv_at hl 2 rfl) ?_
  refine lv_iload hx hb dX12_laysFits_93 (lv_at hl 1 rfl) ?_
  refine gx_zast S hK gx_ok hw t_229 0 rfl (gx_in rfl (by decide) (by decide)) (by decide) dX12_laysFits_95 (fun H locs hw => ?_)
  refine lv_iload_n hx hb dX12_laysFits_96 rfl (lv_at hl 3 rfl) ?_
  refine lv_iload hx hb dX12_laysFits_97 (lv_at hl 1 rfl) ?_
  refine gx_cSi (As := [.int 1]) (rest := [.int 0]) S hK gx_ok hw (c_flag1 l (E := E) (up2 (σ) 229 0 1) (τ) ) cw_X12_155 ⟨Nat.le_of_ble_eq_true rfl, Nat.le_of_ble_eq_true rfl⟩ rfl hl.1 rfl (Nat.le_of_ble_eq_true rfl) ⟨Nat.le_of_ble_eq_true rfl, Nat.le_of_ble_eq_true rfl⟩ dX12_laysFits_99 (fun r_2 σ_2 τ_2 H locs hp hw => ?_)
  obtain ⟨er_2, es_2, et_2⟩ := hp
  obtain rfl := er_2.symm
  obtain rfl := es_2.symm
  obtain rfl := et_2.symm
  refine lv_iadd hx hb dX12_laysFits_102 ?_
  refine gx_top (v := 1) (by decide) ?_
  refine lv_istore_n (lv' := [(2, .int 1), (5, .int 0), (4, .int 1), (3, .int 0), (1, .int 0), (0, .ref (E.2.2 + 199))]) hx hb dX12_laysFits_103 rfl hl (by decide) rfl (fun ls hl => ?_)
  refine lv_iinc (v := 1) (lv' := [(3, .int 1), (2, .int 1), (5, .int 0), (4, .int 1), (1, .int 0), (0, .ref (E.2.2 + 199))]) hx hb dX12_laysFits_104 hl (k := 3) rfl (by decide) (by decide) rfl (fun ls hl => ?_)
  refine lv_goto (tgt := 9) hx hb dX12_laysFits_107 (by decide) ?_
  refine lv_iload_n hx hb dX12_laysFits_9 rfl (lv_at hl 0 rfl) ?_
  refine lv_iload_n hx hb dX12_laysFits_10 rfl (lv_at hl 4 rfl) ?_
  refine lv_icmp_gt (tgt := 110) hx hb dX12_laysFits_11 (by decide) (fun _ => ?_) (fun h => absurd (by decide) h)
  refine lv_iload_n hx hb dX12_laysFits_110 rfl (lv_at hl 1 rfl) ?_
  exact gx_ri (post := fun r σ1 τ1 => r = 1 ∧ σ1 = up2 σ 229 0 1 ∧ τ1 = τ) (v := 1) S hr hlk hw rfl dX12_laysFits_111 ⟨rfl, (by first | rfl | simp [up2, upJ]), (by first | rfl | simp [up2, upJ])⟩
set_option maxHeartbeats 4000000 in
set_option maxRecDepth 100000 in
theorem c_thrown1 (l : Launch) {E : gE} (σ : gI) (τ : gJ)  (h_199_0 : σ 199 0 = 1) : gx_Mi l yX12_thrown cX12_thrown 1 (some .int) 0 gx_tb E (σ) (τ) [.ref (E.2.2 + 199)] (fun r σ1 τ1 => r = 1 ∧ σ1 = σ ∧ τ1 = τ) := by
  refine gx_bi (by decide +kernel) (Nat.le_of_ble_eq_true rfl) ?_
  intro P9 e9 s m9 below meth C9 S hr hlk hK hw ls hl
  have S : CallFix P9 m9 C9 cX12_thrown 1 s _ gx_G RX12 := S
  have hx := S.1
  have hb := S.2.1
  have hl : lv_has ls 1 [(0, .ref (E.2.2 + 199))] := hl
  refine lv_aload_n hx hb dX12_thrown_0 rfl (lv_at hl 0 rfl) ?_
  refine gx_get S hK hw t_199 cl_13 0 (by decide) rfl mw_1414 rfl dX12_thrown_1 ?_
  refine gx_top (v := 1) (by first | rfl | decide | simp [up2, gs0, h_199_0]) ?_
  exact gx_ri (post := fun r σ1 τ1 => r = 1 ∧ σ1 = σ ∧ τ1 = τ) (v := 1) S hr hlk hw rfl dX12_thrown_4 ⟨rfl, rfl, rfl⟩
set_option maxHeartbeats 4000000 in
set_option maxRecDepth 100000 in
theorem c_m_sign (l : Launch) {E : gE} (σ : gI) (τ : gJ) (v : Int32) (hm : ∀ c k : Nat, 199 ≤ c → σ c k = 0) : gx_Mi l yX12_sign cX12_sign 3 (some .int) 0 gx_tb E (σ) (τ) [.ref (E.2.2 + 199), .int v] (fun r σ1 τ1 => r = 4 ∧ True ∧ True) := by
  refine gx_bi (by decide +kernel) (Nat.le_of_ble_eq_true rfl) ?_
  intro P9 e9 s m9 below meth C9 S hr hlk hK hw ls hl
  have S : CallFix P9 m9 C9 cX12_sign 3 s _ gx_G RX12 := S
  have hx := S.1
  have hb := S.2.1
  have hl : lv_has ls 3 [(0, .ref (E.2.2 + 199)), (1, .int v)] := hl
  refine lv_aload_n hx hb dX12_sign_0 rfl (lv_at hl 0 rfl) ?_
  refine lv_iconst (v := 0) hx hb dX12_sign_1 (by decide) ?_
  refine gx_put S hK gx_ok hw t_199 cl_13 0 (by decide) rfl mw_1414 rfl rfl (ty := .int) (v := 0) (by decide +kernel) rfl rfl dX12_sign_2 (fun H locs hw => ?_)
  refine lv_aload_n hx hb dX12_sign_5 rfl (lv_at hl 0 rfl) ?_
  refine gx_get S hK hw t_199 cl_13 13 (by decide) rfl mw_1427 rfl dX12_sign_6 ?_
  refine gx_top (v := 0) (by first | rfl | decide | simp [up2, gs0, hm]) ?_
  refine lv_bipush (v := 76) hx hb dX12_sign_9 (by decide) ?_
  refine lv_icmp_le (tgt := 16) hx hb dX12_sign_11 (by decide) (fun _ => ?_) (fun h => absurd (by decide) h)
  refine lv_iconst (v := 0) hx hb dX12_sign_16 (by decide) ?_
  refine lv_istore_n (lv' := [(2, .int 0), (0, .ref (E.2.2 + 199)), (1, .int v)]) hx hb dX12_sign_17 rfl hl (by decide) rfl (fun ls hl => ?_)
  refine lv_iload_n hx hb dX12_sign_18 rfl (lv_at hl 0 rfl) ?_
  refine lv_iconst (v := 4) hx hb dX12_sign_19 (by decide) ?_
  refine lv_icmp_ge (tgt := 53) hx hb dX12_sign_20 (by decide) (fun h => absurd h (by decide)) (fun _ => ?_)
  refine lv_aload_n hx hb dX12_sign_23 rfl (lv_at hl 1 rfl) ?_
  refine gx_getr (j := 208) S hK hw t_199 cl_13 12 (by decide) rfl mw_1426 rfl dX12_sign_24 ?_
  refine lv_aload_n hx hb dX12_sign_27 rfl (lv_at hl 1 rfl) ?_
  refine gx_get S hK hw t_199 cl_13 13 (by decide) rfl mw_1427 rfl dX12_sign_28 ?_
  refine gx_top (v := 0) (by first | rfl | decide | simp [up2, gs0, hm]) ?_
  refine lv_iload_n hx hb dX12_sign_31 rfl (lv_at hl 0 rfl) ?_
  refine lv_iadd hx hb dX12_sign_32 ?_
  refine gx_top (v := 0) (by decide) ?_
  refine lv_iload_n hx hb dX12_sign_33 rfl (lv_at hl 2 rfl) ?_
  refine lv_bipush (v := 24) hx hb dX12_sign_34 (by decide) ?_
  refine lv_bipush (v := 8) hx hb dX12_sign_36 (by decide) ?_
  refine lv_iload_n hx hb dX12_sign_38 rfl (lv_at hl 0 rfl) ?_
  refine lv_imul hx hb dX12_sign_39 ?_
  refine gx_top (v := 0) (by decide) ?_
  refine lv_isub hx hb dX12_sign_40 ?_
  refine gx_top (v := 24) (by decide) ?_
  refine lv_ishr hx hb dX12_sign_41 ?_
  refine lv_sipush (v := 255) hx hb dX12_sign_42 (by decide) ?_
  refine lv_iand hx hb dX12_sign_45 ?_
  refine gx_iast S hK gx_ok hw t_208 0 rfl (gx_in rfl (by decide) (by decide)) dX12_sign_46 (fun H locs hw => ?_)
  refine lv_iinc (v := 1) (lv' := [(2, .int 1), (0, .ref (E.2.2 + 199)), (1, .int v)]) hx hb dX12_sign_47 hl (k := 0) rfl (by decide) (by decide) rfl (fun ls hl => ?_)
  refine lv_goto (tgt := 18) hx hb dX12_sign_50 (by decide) ?_
  refine lv_iload_n hx hb dX12_sign_18 rfl (lv_at hl 0 rfl) ?_
  refine lv_iconst (v := 4) hx hb dX12_sign_19 (by decide) ?_
  refine lv_icmp_ge (tgt := 53) hx hb dX12_sign_20 (by decide) (fun h => absurd h (by decide)) (fun _ => ?_)
  refine lv_aload_n hx hb dX12_sign_23 rfl (lv_at hl 1 rfl) ?_
  refine gx_getr (j := 208) S hK hw t_199 cl_13 12 (by decide) rfl mw_1426 rfl dX12_sign_24 ?_
  refine lv_aload_n hx hb dX12_sign_27 rfl (lv_at hl 1 rfl) ?_
  refine gx_get S hK hw t_199 cl_13 13 (by decide) rfl mw_1427 rfl dX12_sign_28 ?_
  refine gx_top (v := 0) (by first | rfl | decide | simp [up2, gs0, hm]) ?_
  refine lv_iload_n hx hb dX12_sign_31 rfl (lv_at hl 0 rfl) ?_
  refine lv_iadd hx hb dX12_sign_32 ?_
  refine gx_top (v := 1) (by decide) ?_
  refine lv_iload_n hx hb dX12_sign_33 rfl (lv_at hl 2 rfl) ?_
  refine lv_bipush (v := 24) hx hb dX12_sign_34 (by decide) ?_
  refine lv_bipush (v := 8) hx hb dX12_sign_36 (by decide) ?_
  refine lv_iload_n hx hb dX12_sign_38 rfl (lv_at hl 0 rfl) ?_
  refine lv_imul hx hb dX12_sign_39 ?_
  refine gx_top (v := 8) (by decide) ?_
  refine lv_isub hx hb dX12_sign_40 ?_
  refine gx_top (v := 16) (by decide) ?_
  refine lv_ishr hx hb dX12_sign_41 ?_
  refine lv_sipush (v := 255) hx hb dX12_sign_42 (by decide) ?_
  refine lv_iand hx hb dX12_sign_45 ?_
  refine gx_iast S hK gx_ok hw t_208 1 rfl (gx_in rfl (by decide) (by decide)) dX12_sign_46 (fun H locs hw => ?_)
  refine lv_iinc (v := 2) (lv' := [(2, .int 2), (0, .ref (E.2.2 + 199)), (1, .int v)]) hx hb dX12_sign_47 hl (k := 0) rfl (by decide) (by decide) rfl (fun ls hl => ?_)
  refine lv_goto (tgt := 18) hx hb dX12_sign_50 (by decide) ?_
  refine lv_iload_n hx hb dX12_sign_18 rfl (lv_at hl 0 rfl) ?_
  refine lv_iconst (v := 4) hx hb dX12_sign_19 (by decide) ?_
  refine lv_icmp_ge (tgt := 53) hx hb dX12_sign_20 (by decide) (fun h => absurd h (by decide)) (fun _ => ?_)
  refine lv_aload_n hx hb dX12_sign_23 rfl (lv_at hl 1 rfl) ?_
  refine gx_getr (j := 208) S hK hw t_199 cl_13 12 (by decide) rfl mw_1426 rfl dX12_sign_24 ?_
  refine lv_aload_n hx hb dX12_sign_27 rfl (lv_at hl 1 rfl) ?_
  refine gx_get S hK hw t_199 cl_13 13 (by decide) rfl mw_1427 rfl dX12_sign_28 ?_
  refine gx_top (v := 0) (by first | rfl | decide | simp [up2, gs0, hm]) ?_
  refine lv_iload_n hx hb dX12_sign_31 rfl (lv_at hl 0 rfl) ?_
  refine lv_iadd hx hb dX12_sign_32 ?_
  refine gx_top (v := 2) (by decide) ?_
  refine lv_iload_n hx hb dX12_sign_33 rfl (lv_at hl 2 rfl) ?_
  refine lv_bipush (v := 24) hx hb dX12_sign_34 (by decide) ?_
  refine lv_bipush (v := 8) hx hb dX12_sign_36 (by decide) ?_
  refine lv_iload_n hx hb dX12_sign_38 rfl (lv_at hl 0 rfl) ?_
  refine lv_imul hx hb dX12_sign_39 ?_
  refine gx_top (v := 16) (by decide) ?_
  refine lv_isub hx hb dX12_sign_40 ?_
  refine gx_top (v := 8) (by decide) ?_
  refine lv_ishr hx hb dX12_sign_41 ?_
  refine lv_sipush (v := 255) hx hb dX12_sign_42 (by decide) ?_
  refine lv_iand hx hb dX12_sign_45 ?_
  refine gx_iast S hK gx_ok hw t_208 2 rfl (gx_in rfl (by decide) (by decide)) dX12_sign_46 (fun H locs hw => ?_)
  refine lv_iinc (v := 3) (lv' := [(2, .int 3), (0, .ref (E.2.2 + 199)), (1, .int v)]) hx hb dX12_sign_47 hl (k := 0) rfl (by decide) (by decide) rfl (fun ls hl => ?_)
  refine lv_goto (tgt := 18) hx hb dX12_sign_50 (by decide) ?_
  refine lv_iload_n hx hb dX12_sign_18 rfl (lv_at hl 0 rfl) ?_
  refine lv_iconst (v := 4) hx hb dX12_sign_19 (by decide) ?_
  refine lv_icmp_ge (tgt := 53) hx hb dX12_sign_20 (by decide) (fun h => absurd h (by decide)) (fun _ => ?_)
  refine lv_aload_n hx hb dX12_sign_23 rfl (lv_at hl 1 rfl) ?_
  refine gx_getr (j := 208) S hK hw t_199 cl_13 12 (by decide) rfl mw_1426 rfl dX12_sign_24 ?_
  refine lv_aload_n hx hb dX12_sign_27 rfl (lv_at hl 1 rfl) ?_
  refine gx_get S hK hw t_199 cl_13 13 (by decide) rfl mw_1427 rfl dX12_sign_28 ?_
  refine gx_top (v := 0) (by first | rfl | decide | simp [up2, gs0, hm]) ?_
  refine lv_iload_n hx hb dX12_sign_31 rfl (lv_at hl 0 rfl) ?_
  refine lv_iadd hx hb dX12_sign_32 ?_
  refine gx_top (v := 3) (by decide) ?_
  refine lv_iload_n hx hb dX12_sign_33 rfl (lv_at hl 2 rfl) ?_
  refine lv_bipush (v := 24) hx hb dX12_sign_34 (by decide) ?_
  refine lv_bipush (v := 8) hx hb dX12_sign_36 (by decide) ?_
  refine lv_iload_n hx hb dX12_sign_38 rfl (lv_at hl 0 rfl) ?_
  refine lv_imul hx hb dX12_sign_39 ?_
  refine gx_top (v := 24) (by decide) ?_
  refine lv_isub hx hb dX12_sign_40 ?_
  refine gx_top (v := 0) (by decide) ?_
  refine lv_ishr hx hb dX12_sign_41 ?_
  refine lv_sipush (v := 255) hx hb dX12_sign_42 (by decide) ?_
  refine lv_iand hx hb dX12_sign_45 ?_
  refine gx_iast S hK gx_ok hw t_208 3 rfl (gx_in rfl (by decide) (by decide)) dX12_sign_46 (fun H locs hw => ?_)
  refine lv_iinc (v := 4) (lv' := [(2, .int 4), (0, .ref (E.2.2 + 199)), (1, .int v)]) hx hb dX12_sign_47 hl (k := 0) rfl (by decide) (by decide) rfl (fun ls hl => ?_)
  refine lv_goto (tgt := 18) hx hb dX12_sign_50 (by decide) ?_
  refine lv_iload_n hx hb dX12_sign_18 rfl (lv_at hl 0 rfl) ?_
  refine lv_iconst (v := 4) hx hb dX12_sign_19 (by decide) ?_
  refine lv_icmp_ge (tgt := 53) hx hb dX12_sign_20 (by decide) (fun _ => ?_) (fun h => absurd (by decide) h)
  refine lv_aload_n hx hb dX12_sign_53 rfl (lv_at hl 1 rfl) ?_
  refine lv_dup hx hb dX12_sign_54 rfl ?_
  refine gx_get S hK hw t_199 cl_13 13 (by decide) rfl mw_1427 rfl dX12_sign_55 ?_
  refine gx_top (v := 0) (by first | rfl | decide | simp [up2, gs0, hm]) ?_
  refine lv_iconst (v := 4) hx hb dX12_sign_58 (by decide) ?_
  refine lv_iadd hx hb dX12_sign_59 ?_
  refine gx_top (v := 4) (by decide) ?_
  refine gx_put S hK gx_ok hw t_199 cl_13 13 (by decide) rfl mw_1427 rfl rfl (ty := .int) (v := 4) (by decide +kernel) rfl rfl dX12_sign_60 (fun H locs hw => ?_)
  refine lv_aload_n hx hb dX12_sign_63 rfl (lv_at hl 1 rfl) ?_
  refine gx_get S hK hw t_199 cl_13 13 (by decide) rfl mw_1427 rfl dX12_sign_64 ?_
  refine gx_top (v := 4) (by first | rfl | decide | simp [up2, gs0, hm]) ?_
  exact gx_ri (post := fun r σ1 τ1 => r = 4 ∧ True ∧ True) (v := 4) S hr hlk hw rfl dX12_sign_67 ⟨rfl, trivial, trivial⟩
set_option maxHeartbeats 4000000 in
set_option maxRecDepth 100000 in
theorem c_m_end (l : Launch) {E : gE} (σ : gI) (τ : gJ) (n : Int32) (hm : ∀ c k : Nat, 199 ≤ c → σ c k = 0) : gx_Mi l yX12_end cX12_end 2 (some .boolean) 1 gx_tb E (σ) (τ) [.ref (E.2.2 + 199), .int n] (fun r σ1 τ1 => r = (if n.toInt = 0 then 1 else 0) ∧ True ∧ True) := by
  refine gx_bi (by decide +kernel) (Nat.le_of_ble_eq_true rfl) ?_
  intro P9 e9 s m9 below meth C9 S hr hlk hK hw ls hl
  have S : CallFix P9 m9 C9 cX12_end 2 s _ gx_G RX12 := S
  have hx := S.1
  have hb := S.2.1
  have hl : lv_has ls 2 [(0, .ref (E.2.2 + 199)), (1, .int n)] := hl
  refine lv_aload_n hx hb dX12_end_0 rfl (lv_at hl 0 rfl) ?_
  refine lv_iconst (v := 0) hx hb dX12_end_1 (by decide) ?_
  refine gx_put S hK gx_ok hw t_199 cl_13 0 (by decide) rfl mw_1414 rfl rfl (ty := .int) (v := 0) (by decide +kernel) rfl rfl dX12_end_2 (fun H locs hw => ?_)
  refine lv_iload_n hx hb dX12_end_5 rfl (lv_at hl 1 rfl) ?_
  refine lv_i2l (v := n.toInt64) hx hb dX12_end_6 rfl ?_
  refine lv_lconst (v := 0) hx hb dX12_end_7 (by decide) ?_
  refine lv_aload_n hx hb dX12_end_8 rfl (lv_at hl 0 rfl) ?_
  refine gx_get S hK hw t_199 cl_13 13 (by decide) rfl mw_1427 rfl dX12_end_9 ?_
  refine gx_top (v := 0) (by first | rfl | decide | simp [up2, gs0, hm]) ?_
  refine lv_i2l (v := 0) hx hb dX12_end_12 (by decide) ?_
  refine gx_cSi (As := [.long n.toInt64, .long 0, .long 0]) (rest := []) S hK gx_ok hw (c_in l (E := E) (up2 (σ) 199 0 0) (τ) n 0 0 0 0 (by first | rfl | decide | simp [up2, gs0, hm]) (by first | rfl | decide | simp [up2, gs0, hm])) cw_X12_129 ⟨Nat.le_of_ble_eq_true rfl, Nat.le_of_ble_eq_true rfl⟩ rfl hl.1 rfl (Nat.le_of_ble_eq_true rfl) ⟨Nat.le_of_ble_eq_true rfl, Nat.le_of_ble_eq_true rfl⟩ dX12_end_13 (fun r_1 σ_1 τ_1 H locs hp hw => ?_)
  obtain ⟨er_1, es_1, et_1⟩ := hp
  obtain rfl := er_1.symm
  obtain rfl := es_1.symm
  obtain rfl := et_1.symm
  by_cases c_2 : 0 ≤ n.toInt ∧ n.toInt ≤ 0
  · refine gx_top (v := 1) (if_pos c_2) ?_
    refine lv_if_ne (tgt := 21) hx hb dX12_end_16 (by decide) (fun _ => ?_) (fun h => absurd h (by decide))
    refine lv_aload_n hx hb dX12_end_21 rfl (lv_at hl 0 rfl) ?_
    refine lv_iload_n hx hb dX12_end_22 rfl (lv_at hl 1 rfl) ?_
    refine gx_put S hK gx_ok hw t_199 cl_13 13 (by decide) rfl mw_1427 rfl rfl (ty := .int) (v := n) (by decide +kernel) rfl rfl dX12_end_23 (fun H locs hw => ?_)
    refine lv_iconst (v := 1) hx hb dX12_end_26 (by decide) ?_
    exact gx_ri (post := fun r σ1 τ1 => r = (if n.toInt = 0 then 1 else 0) ∧ True ∧ True) (v := 1) S hr hlk hw rfl dX12_end_27 ⟨(by exact (if_pos (by omega)).symm), trivial, trivial⟩
  · refine gx_top (v := 0) ((if_neg c_2).trans (rfl)) ?_
    refine lv_if_ne (tgt := 21) hx hb dX12_end_16 (by decide) (fun h => absurd (by decide) h) (fun _ => ?_)
    refine lv_iconst (v := 0) hx hb dX12_end_19 (by decide) ?_
    exact gx_ri (post := fun r σ1 τ1 => r = (if n.toInt = 0 then 1 else 0) ∧ True ∧ True) (v := 0) S hr hlk hw rfl dX12_end_20 ⟨(by exact ((if_neg (by omega)).trans (rfl)).symm), trivial, trivial⟩
set_option maxHeartbeats 4000000 in
set_option maxRecDepth 100000 in
theorem c_m_town (l : Launch) {E : gE} (σ : gI) (τ : gJ)  (hm : ∀ c k : Nat, 199 ≤ c → σ c k = 0) : gx_Mi l yX12_town cX12_town 6 (some .int) 2 gx_tb E (σ) (τ) [.ref (E.2.2 + 199)] (fun r σ1 τ1 => r = 0 ∧ True ∧ True) := by
  refine gx_bi (by decide +kernel) (Nat.le_of_ble_eq_true rfl) ?_
  intro P9 e9 s m9 below meth C9 S hr hlk hK hw ls hl
  have S : CallFix P9 m9 C9 cX12_town 6 s _ gx_G RX12 := S
  have hx := S.1
  have hb := S.2.1
  have hl : lv_has ls 6 [(0, .ref (E.2.2 + 199))] := hl
  refine lv_aload_n hx hb dX12_town_0 rfl (lv_at hl 0 rfl) ?_
  refine lv_iconst (v := 0) hx hb dX12_town_1 (by decide) ?_
  refine gx_put S hK gx_ok hw t_199 cl_13 0 (by decide) rfl mw_1414 rfl rfl (ty := .int) (v := 0) (by decide +kernel) rfl rfl dX12_town_2 (fun H locs hw => ?_)
  refine lv_aload_n hx hb dX12_town_5 rfl (lv_at hl 0 rfl) ?_
  refine lv_bipush (v := 76) hx hb dX12_town_6 (by decide) ?_
  refine gx_cVi (As := [.int 76]) (rest := []) S hK gx_ok hw (c_begins76 l (E := E) (up2 (σ) 199 0 0) (τ) (by first | rfl | decide | simp [up2, gs0, hm])) cw_X12_203 t_199 cl_13 ⟨Nat.le_of_ble_eq_true rfl, Nat.le_of_ble_eq_true rfl⟩ rfl hl.1 rfl (Nat.le_of_ble_eq_true rfl) ⟨Nat.le_of_ble_eq_true rfl, Nat.le_of_ble_eq_true rfl⟩ dX12_town_8 (fun r_1 σ_1 τ_1 H locs hp hw => ?_)
  obtain ⟨er_1, es_1, et_1⟩ := hp
  obtain rfl := er_1.symm
  obtain rfl := es_1.symm
  obtain rfl := et_1.symm
  refine lv_istore_n (lv' := [(1, .int 0), (0, .ref (E.2.2 + 199))]) hx hb dX12_town_11 rfl hl (by decide) rfl (fun ls hl => ?_)
  refine lv_aload_n hx hb dX12_town_12 rfl (lv_at hl 1 rfl) ?_
  refine lv_iconst (v := 0) hx hb dX12_town_13 (by decide) ?_
  refine gx_put S hK gx_ok hw t_199 cl_13 21 (by decide) rfl mw_1435 rfl rfl (ty := .int) (v := 0) (by decide +kernel) rfl rfl dX12_town_14 (fun H locs hw => ?_)
  refine lv_aload_n hx hb dX12_town_17 rfl (lv_at hl 1 rfl) ?_
  refine lv_iconst (v := 0) hx hb dX12_town_18 (by decide) ?_
  refine gx_put S hK gx_ok hw t_199 cl_13 24 (by decide) rfl mw_1438 rfl rfl (ty := .int) (v := 0) (by decide +kernel) rfl rfl dX12_town_19 (fun H locs hw => ?_)
  refine lv_iconst (v := 1) hx hb dX12_town_22 (by decide) ?_
  refine lv_istore_n (lv' := [(2, .int 1), (1, .int 0), (0, .ref (E.2.2 + 199))]) hx hb dX12_town_23 rfl hl (by decide) rfl (fun ls hl => ?_)
  refine lv_iload_n hx hb dX12_town_24 rfl (lv_at hl 1 rfl) ?_
  refine lv_if_le (tgt := 32) hx hb dX12_town_25 (by decide) (fun _ => ?_) (fun h => absurd (by decide) h)
  refine lv_iconst (v := 0) hx hb dX12_town_32 (by decide) ?_
  refine lv_istore_n (lv' := [(3, .int 0), (2, .int 1), (1, .int 0), (0, .ref (E.2.2 + 199))]) hx hb dX12_town_33 rfl hl (by decide) rfl (fun ls hl => ?_)
  refine lv_iload_n hx hb dX12_town_34 rfl (lv_at hl 0 rfl) ?_
  refine lv_if_eq (tgt := 65) hx hb dX12_town_35 (by decide) (fun _ => ?_) (fun h => absurd (by decide) h)
  refine lv_aload_n hx hb dX12_town_65 rfl (lv_at hl 3 rfl) ?_
  refine lv_iload_n hx hb dX12_town_66 rfl (lv_at hl 2 rfl) ?_
  refine lv_bipush (v := 76) hx hb dX12_town_67 (by decide) ?_
  refine lv_iload_n hx hb dX12_town_69 rfl (lv_at hl 1 rfl) ?_
  refine gx_cVi (As := [.int 0, .int 76, .int 1]) (rest := []) S hK gx_ok hw (c_faultOf76 l (E := E) (up2 (up2 (up2 (up2 (up2 (up2 ((up2 (σ) 199 0 0)) 199 13 0) 199 14 0) 199 16 0) 199 15 0) 199 21 0) 199 24 0) (τ) (by first | rfl | decide | simp [up2, gs0, hm]) (by first | rfl | decide | simp [up2, gs0, hm])) cw_X12_213 t_199 cl_13 ⟨Nat.le_of_ble_eq_true rfl, Nat.le_of_ble_eq_true rfl⟩ rfl hl.1 rfl (Nat.le_of_ble_eq_true rfl) ⟨Nat.le_of_ble_eq_true rfl, Nat.le_of_ble_eq_true rfl⟩ dX12_town_70 (fun r_2 σ_2 τ_2 H locs hp hw => ?_)
  obtain ⟨er_2, es_2, et_2⟩ := hp
  obtain rfl := er_2.symm
  obtain rfl := es_2.symm
  obtain rfl := et_2.symm
  refine lv_istore (lv' := [(4, .int 0), (3, .int 0), (2, .int 1), (1, .int 0), (0, .ref (E.2.2 + 199))]) hx hb dX12_town_73 hl (by decide) rfl (fun ls hl => ?_)
  refine lv_iload hx hb dX12_town_75 (lv_at hl 0 rfl) ?_
  refine lv_if_ge (tgt := 83) hx hb dX12_town_77 (by decide) (fun _ => ?_) (fun h => absurd (by decide) h)
  refine lv_iconst (v := 0) hx hb dX12_town_83 (by decide) ?_
  refine lv_istore (lv' := [(5, .int 0), (4, .int 0), (3, .int 0), (2, .int 1), (1, .int 0), (0, .ref (E.2.2 + 199))]) hx hb dX12_town_84 hl (by decide) rfl (fun ls hl => ?_)
  refine lv_iload hx hb dX12_town_86 (lv_at hl 0 rfl) ?_
  refine lv_aload_n hx hb dX12_town_88 rfl (lv_at hl 5 rfl) ?_
  refine gx_get S hK hw t_199 cl_13 24 (by decide) rfl mw_1438 rfl dX12_town_89 ?_
  refine gx_top (v := 0) (by first | rfl | decide | simp [up2, gs0, hm]) ?_
  refine lv_icmp_ge (tgt := 125) hx hb dX12_town_92 (by decide) (fun _ => ?_) (fun h => absurd (by decide) h)
  refine lv_aload_n hx hb dX12_town_125 rfl (lv_at hl 5 rfl) ?_
  refine lv_aload_n hx hb dX12_town_126 rfl (lv_at hl 5 rfl) ?_
  refine gx_get S hK hw t_199 cl_13 21 (by decide) rfl mw_1435 rfl dX12_town_127 ?_
  refine gx_top (v := 0) (by first | rfl | decide | simp [up2, gs0, hm]) ?_
  refine gx_put S hK gx_ok hw t_199 cl_13 3 (by decide) rfl mw_1417 rfl rfl (ty := .int) (v := 0) (by decide +kernel) rfl rfl dX12_town_130 (fun H locs hw => ?_)
  refine lv_iconst (v := 0) hx hb dX12_town_133 (by decide) ?_
  refine lv_istore (lv' := [(5, .int 0), (4, .int 0), (3, .int 0), (2, .int 1), (1, .int 0), (0, .ref (E.2.2 + 199))]) hx hb dX12_town_134 hl (by decide) rfl (fun ls hl => ?_)
  refine lv_iload hx hb dX12_town_136 (lv_at hl 0 rfl) ?_
  refine lv_aload_n hx hb dX12_town_138 rfl (lv_at hl 5 rfl) ?_
  refine gx_get S hK hw t_199 cl_13 3 (by decide) rfl mw_1417 rfl dX12_town_139 ?_
  refine gx_top (v := 0) (by first | rfl | decide | simp [up2, gs0, hm]) ?_
  refine lv_icmp_ge (tgt := 207) hx hb dX12_town_142 (by decide) (fun _ => ?_) (fun h => absurd (by decide) h)
  refine lv_iconst (v := 0) hx hb dX12_town_207 (by decide) ?_
  refine lv_istore (lv' := [(5, .int 0), (4, .int 0), (3, .int 0), (2, .int 1), (1, .int 0), (0, .ref (E.2.2 + 199))]) hx hb dX12_town_208 hl (by decide) rfl (fun ls hl => ?_)
  have loop_3 : ∀ (n3 : Nat) (i : Nat) (H : Heap) (locs : List Loc) (ls : Array Slot), 45 - i < n3 → (i ≤ 45) → gx_W gx_tb (gx_tb).length E s (up2 (up2 (up2 (up2 (up2 (up2 (up2 ((up2 (σ) 199 0 0)) 199 13 0) 199 14 0) 199 16 0) 199 15 0) 199 21 0) 199 24 0) 199 3 0) (τ) H locs → lv_has ls 6 [(0, .ref (E.2.2 + 199)), (1, .int 0), (2, .int 1), (3, .int 0), (4, .int 0), (5, .int (nI i))] → W P9 l e9 (gx_rm 2) s m9 ([.ref (E.2.2 + 199)] : List Value).toArray below meth C9 H locs 0 0 (MQ below (va_Qi (fun r (u : gI × gJ) => (fun r σ1 τ1 => r = 0 ∧ True ∧ True) r u.1 u.2) (fun u t => gx_P gx_tb E u.1 u.2 t.heap) (gx_A (gx_tb).length E.2.2 s.heap.size)) ([.ref (E.2.2 + 199)] : List Value).toArray s 0 0 (gx_A (gx_tb).length E.2.2 s.heap.size)) (F0 m9 210 ls []) := by
    intro n3
    induction n3 with
    | zero => intro i H locs ls hmz; exact absurd hmz (Nat.not_lt_zero _)
    | succ n3 ih_3 =>
      intro i H locs ls hmz hi hw hl
      refine lv_iload hx hb dX12_town_210 (lv_at hl 5 rfl) ?_
      refine lv_bipush (v := 45) hx hb dX12_town_212 (by decide) ?_
      refine lv_icmp_ge (tgt := 231) hx hb dX12_town_214 (by decide) (fun c_4 => ?_) (fun c_4 => ?_)
      · refine lv_aload_n hx hb dX12_town_231 rfl (lv_at hl 0 rfl) ?_
        refine lv_iconst (v := 0) hx hb dX12_town_232 (by decide) ?_
        refine gx_put S hK gx_ok hw t_199 cl_13 52 (by decide) rfl mw_1466 rfl rfl (ty := .int) (v := 0) (by decide +kernel) rfl rfl dX12_town_233 (fun H locs hw => ?_)
        refine lv_aload_n hx hb dX12_town_236 rfl (lv_at hl 0 rfl) ?_
        refine lv_iconst (v := 0) hx hb dX12_town_237 (by decide) ?_
        refine gx_put S hK gx_ok hw t_199 cl_13 36 (by decide) rfl mw_1450 rfl rfl (ty := .int) (v := 0) (by decide +kernel) rfl rfl dX12_town_238 (fun H locs hw => ?_)
        refine lv_iconst (v := 0) hx hb dX12_town_241 (by decide) ?_
        refine lv_istore (lv' := [(5, .int 0), (0, .ref (E.2.2 + 199)), (1, .int 0), (2, .int 1), (3, .int 0), (4, .int 0)]) hx hb dX12_town_242 hl (by decide) rfl (fun ls hl => ?_)
        have loop_5 : ∀ (n5 : Nat) (i : Nat) (H : Heap) (locs : List Loc) (ls : Array Slot), 3 - i < n5 → (i ≤ 3) → gx_W gx_tb (gx_tb).length E s (up2 (up2 (up2 (up2 (up2 (up2 (up2 (up2 (up2 ((up2 (σ) 199 0 0)) 199 13 0) 199 14 0) 199 16 0) 199 15 0) 199 21 0) 199 24 0) 199 3 0) 199 52 0) 199 36 0) (τ) H locs → lv_has ls 6 [(0, .ref (E.2.2 + 199)), (1, .int 0), (2, .int 1), (3, .int 0), (4, .int 0), (5, .int (nI i))] → W P9 l e9 (gx_rm 2) s m9 ([.ref (E.2.2 + 199)] : List Value).toArray below meth C9 H locs 0 0 (MQ below (va_Qi (fun r (u : gI × gJ) => (fun r σ1 τ1 => r = 0 ∧ True ∧ True) r u.1 u.2) (fun u t => gx_P gx_tb E u.1 u.2 t.heap) (gx_A (gx_tb).length E.2.2 s.heap.size)) ([.ref (E.2.2 + 199)] : List Value).toArray s 0 0 (gx_A (gx_tb).length E.2.2 s.heap.size)) (F0 m9 244 ls []) := by
          intro n5
          induction n5 with
          | zero => intro i H locs ls hmz; exact absurd hmz (Nat.not_lt_zero _)
          | succ n5 ih_5 =>
            intro i H locs ls hmz hi hw hl
            refine lv_iload hx hb dX12_town_244 (lv_at hl 5 rfl) ?_
            refine lv_iconst (v := 3) hx hb dX12_town_246 (by decide) ?_
            refine lv_icmp_ge (tgt := 264) hx hb dX12_town_247 (by decide) (fun c_6 => ?_) (fun c_6 => ?_)
            · refine lv_aload_n hx hb dX12_town_264 rfl (lv_at hl 0 rfl) ?_
              refine gx_get S hK hw t_199 cl_13 3 (by decide) rfl mw_1417 rfl dX12_town_265 ?_
              refine gx_top (v := 0) (by first | rfl | decide | simp [up2, gs0, hm]) ?_
              exact gx_ri (post := fun r σ1 τ1 => r = 0 ∧ True ∧ True) (v := 0) S hr hlk hw rfl dX12_town_268 ⟨rfl, trivial, trivial⟩
            · have hlt : i < 3 := gx_ilt (k := 3) rfl (by omega) c_6
              refine lv_aload_n hx hb dX12_town_250 rfl (lv_at hl 0 rfl) ?_
              refine gx_getr (j := 231) S hK hw t_199 cl_13 58 (by decide) rfl mw_1472 rfl dX12_town_251 ?_
              refine lv_iload hx hb dX12_town_254 (lv_at hl 5 rfl) ?_
              refine lv_iconst (v := 0) hx hb dX12_town_256 (by decide) ?_
              refine gx_zast S hK gx_ok hw t_231 i (nI_clamp (by omega)) (vp_in_nI (by omega) (by omega)) (by decide) dX12_town_257 (fun H locs hw => ?_)
              rw [up2_id (by simp [up2, hm])] at hw
              refine lv_iinc (v := nI (i + 1)) (lv' := [(5, .int (nI (i + 1))), (0, .ref (E.2.2 + 199)), (1, .int 0), (2, .int 1), (3, .int 0), (4, .int 0)]) hx hb dX12_town_258 hl (k := 5) rfl (nI_1 _) (by decide) rfl (fun ls hl => ?_)
              refine lv_goto (tgt := 244) hx hb dX12_town_261 (by decide) ?_
              exact ih_5 (i + 1) _ _ _ (by omega) (by omega) hw (lv_sub hl [1, 2, 3, 4, 5, 0] rfl)
        exact loop_5 (3 + 1) 0 _ _ _ (by omega) (by omega) hw (lv_sub hl [1, 2, 3, 4, 5, 0] rfl)
      · have hlt : i < 45 := gx_ilt (k := 45) rfl (by omega) c_4
        refine lv_aload_n hx hb dX12_town_217 rfl (lv_at hl 0 rfl) ?_
        refine gx_getr (j := 206) S hK hw t_199 cl_13 10 (by decide) rfl mw_1424 rfl dX12_town_218 ?_
        refine lv_iload hx hb dX12_town_221 (lv_at hl 5 rfl) ?_
        refine lv_iconst (v := 0) hx hb dX12_town_223 (by decide) ?_
        refine gx_iast S hK gx_ok hw t_206 i (nI_clamp (by omega)) (vp_in_nI (by omega) (by omega)) dX12_town_224 (fun H locs hw => ?_)
        rw [up2_id (by simp [up2, hm])] at hw
        refine lv_iinc (v := nI (i + 1)) (lv' := [(5, .int (nI (i + 1))), (0, .ref (E.2.2 + 199)), (1, .int 0), (2, .int 1), (3, .int 0), (4, .int 0)]) hx hb dX12_town_225 hl (k := 5) rfl (nI_1 _) (by decide) rfl (fun ls hl => ?_)
        refine lv_goto (tgt := 210) hx hb dX12_town_228 (by decide) ?_
        exact ih_3 (i + 1) _ _ _ (by omega) (by omega) hw (lv_sub hl [1, 2, 3, 4, 5, 0] rfl)
  exact loop_3 (45 + 1) 0 _ _ _ (by omega) (by omega) hw (lv_sub hl [5, 4, 3, 2, 1, 0] rfl)
set_option maxHeartbeats 4000000 in
set_option maxRecDepth 100000 in
theorem c_m_water (l : Launch) {E : gE} (σ : gI) (τ : gJ)  (hm : ∀ c k : Nat, 199 ≤ c → σ c k = 0) : gx_Mi l yX12_water cX12_water 5 (some .int) 3 gx_tb E (σ) (τ) [.ref (E.2.2 + 199)] (fun r σ1 τ1 => r = 0 ∧ True ∧ True) := by
  refine gx_bi (by decide +kernel) (Nat.le_of_ble_eq_true rfl) ?_
  intro P9 e9 s m9 below meth C9 S hr hlk hK hw ls hl
  have S : CallFix P9 m9 C9 cX12_water 5 s _ gx_G RX12 := S
  have hx := S.1
  have hb := S.2.1
  have hl : lv_has ls 5 [(0, .ref (E.2.2 + 199))] := hl
  refine lv_aload_n hx hb dX12_water_0 rfl (lv_at hl 0 rfl) ?_
  refine lv_iconst (v := 0) hx hb dX12_water_1 (by decide) ?_
  refine gx_put S hK gx_ok hw t_199 cl_13 0 (by decide) rfl mw_1414 rfl rfl (ty := .int) (v := 0) (by decide +kernel) rfl rfl dX12_water_2 (fun H locs hw => ?_)
  refine lv_aload_n hx hb dX12_water_5 rfl (lv_at hl 0 rfl) ?_
  refine lv_bipush (v := 40) hx hb dX12_water_6 (by decide) ?_
  refine gx_cVi (As := [.int 40]) (rest := []) S hK gx_ok hw (c_begins40 l (E := E) (up2 (σ) 199 0 0) (τ) (by first | rfl | decide | simp [up2, gs0, hm])) cw_X12_203 t_199 cl_13 ⟨Nat.le_of_ble_eq_true rfl, Nat.le_of_ble_eq_true rfl⟩ rfl hl.1 rfl (Nat.le_of_ble_eq_true rfl) ⟨Nat.le_of_ble_eq_true rfl, Nat.le_of_ble_eq_true rfl⟩ dX12_water_8 (fun r_1 σ_1 τ_1 H locs hp hw => ?_)
  obtain ⟨er_1, es_1, et_1⟩ := hp
  obtain rfl := er_1.symm
  obtain rfl := es_1.symm
  obtain rfl := et_1.symm
  refine lv_istore_n (lv' := [(1, .int 0), (0, .ref (E.2.2 + 199))]) hx hb dX12_water_11 rfl hl (by decide) rfl (fun ls hl => ?_)
  refine lv_iconst (v := 0) hx hb dX12_water_12 (by decide) ?_
  refine lv_istore_n (lv' := [(2, .int 0), (1, .int 0), (0, .ref (E.2.2 + 199))]) hx hb dX12_water_13 rfl hl (by decide) rfl (fun ls hl => ?_)
  refine lv_aload_n hx hb dX12_water_14 rfl (lv_at hl 2 rfl) ?_
  refine gx_lds S hK ss_14 rfl dX12_water_15 ?_
  refine gx_cVi (As := [.ref (E.1.2.1 14)]) (rest := []) S hK gx_ok hw (c_among l (E := E) (up2 (up2 (up2 (up2 ((up2 (σ) 199 0 0)) 199 13 0) 199 14 0) 199 16 0) 199 15 0) (τ) (by first | rfl | decide | simp [up2, gs0, hm]) (by first | rfl | decide | simp [up2, gs0, hm])) cw_X12_173 t_199 cl_13 ⟨Nat.le_of_ble_eq_true rfl, Nat.le_of_ble_eq_true rfl⟩ rfl hl.1 rfl (Nat.le_of_ble_eq_true rfl) ⟨Nat.le_of_ble_eq_true rfl, Nat.le_of_ble_eq_true rfl⟩ dX12_water_17 (fun r_2 σ_2 τ_2 H locs hp hw => ?_)
  obtain ⟨er_2, es_2, et_2⟩ := hp
  obtain rfl := er_2.symm
  obtain rfl := es_2.symm
  obtain rfl := et_2.symm
  refine lv_if_lt (tgt := 41) hx hb dX12_water_20 (by decide) (fun _ => ?_) (fun h => absurd (by decide) h)
  refine lv_aload_n hx hb dX12_water_41 rfl (lv_at hl 2 rfl) ?_
  refine lv_iload_n hx hb dX12_water_42 rfl (lv_at hl 1 rfl) ?_
  refine lv_bipush (v := 40) hx hb dX12_water_43 (by decide) ?_
  refine lv_iconst (v := 1) hx hb dX12_water_45 (by decide) ?_
  refine gx_cVi (As := [.int 0, .int 40, .int 1]) (rest := []) S hK gx_ok hw (c_faultOf40 l (E := E) (up2 (up2 (up2 (up2 ((up2 (σ) 199 0 0)) 199 13 0) 199 14 0) 199 16 0) 199 15 0) (τ) (by first | rfl | decide | simp [up2, gs0, hm]) (by first | rfl | decide | simp [up2, gs0, hm])) cw_X12_213 t_199 cl_13 ⟨Nat.le_of_ble_eq_true rfl, Nat.le_of_ble_eq_true rfl⟩ rfl hl.1 rfl (Nat.le_of_ble_eq_true rfl) ⟨Nat.le_of_ble_eq_true rfl, Nat.le_of_ble_eq_true rfl⟩ dX12_water_46 (fun r_3 σ_3 τ_3 H locs hp hw => ?_)
  obtain ⟨er_3, es_3, et_3⟩ := hp
  obtain rfl := er_3.symm
  obtain rfl := es_3.symm
  obtain rfl := et_3.symm
  refine lv_istore_n (lv' := [(3, .int 0), (2, .int 0), (1, .int 0), (0, .ref (E.2.2 + 199))]) hx hb dX12_water_49 rfl hl (by decide) rfl (fun ls hl => ?_)
  refine lv_iload_n hx hb dX12_water_50 rfl (lv_at hl 0 rfl) ?_
  refine lv_if_ge (tgt := 56) hx hb dX12_water_51 (by decide) (fun _ => ?_) (fun h => absurd (by decide) h)
  refine lv_aload_n hx hb dX12_water_56 rfl (lv_at hl 3 rfl) ?_
  refine lv_iload_n hx hb dX12_water_57 rfl (lv_at hl 1 rfl) ?_
  refine gx_put S hK gx_ok hw t_199 cl_13 4 (by decide) rfl mw_1418 rfl rfl (ty := .int) (v := 0) (by decide +kernel) rfl rfl dX12_water_58 (fun H locs hw => ?_)
  refine lv_iconst (v := 0) hx hb dX12_water_61 (by decide) ?_
  refine lv_istore (lv' := [(4, .int 0), (3, .int 0), (2, .int 0), (1, .int 0), (0, .ref (E.2.2 + 199))]) hx hb dX12_water_62 hl (by decide) rfl (fun ls hl => ?_)
  refine lv_iload hx hb dX12_water_64 (lv_at hl 0 rfl) ?_
  refine lv_iload_n hx hb dX12_water_66 rfl (lv_at hl 2 rfl) ?_
  refine lv_icmp_ge (tgt := 90) hx hb dX12_water_67 (by decide) (fun _ => ?_) (fun h => absurd (by decide) h)
  refine lv_iload_n hx hb dX12_water_90 rfl (lv_at hl 2 rfl) ?_
  exact gx_ri (post := fun r σ1 τ1 => r = 0 ∧ True ∧ True) (v := 0) S hr hlk hw rfl dX12_water_91 ⟨rfl, trivial, trivial⟩
set_option maxHeartbeats 4000000 in
set_option maxRecDepth 100000 in
theorem c_m_rule (l : Launch) {E : gE} (σ : gI) (τ : gJ)  (hm : ∀ c k : Nat, 199 ≤ c → σ c k = 0) : gx_Mi l yX12_rule cX12_rule 5 (some .int) 2 gx_tb E (σ) (τ) [.ref (E.2.2 + 199)] (fun r σ1 τ1 => r = 0 ∧ True ∧ True) := by
  refine gx_bi (by decide +kernel) (Nat.le_of_ble_eq_true rfl) ?_
  intro P9 e9 s m9 below meth C9 S hr hlk hK hw ls hl
  have S : CallFix P9 m9 C9 cX12_rule 5 s _ gx_G RX12 := S
  have hx := S.1
  have hb := S.2.1
  have hl : lv_has ls 5 [(0, .ref (E.2.2 + 199))] := hl
  refine lv_aload_n hx hb dX12_rule_0 rfl (lv_at hl 0 rfl) ?_
  refine lv_iconst (v := 0) hx hb dX12_rule_1 (by decide) ?_
  refine gx_put S hK gx_ok hw t_199 cl_13 0 (by decide) rfl mw_1414 rfl rfl (ty := .int) (v := 0) (by decide +kernel) rfl rfl dX12_rule_2 (fun H locs hw => ?_)
  refine lv_aload_n hx hb dX12_rule_5 rfl (lv_at hl 0 rfl) ?_
  refine lv_bipush (v := 40) hx hb dX12_rule_6 (by decide) ?_
  refine gx_cVi (As := [.int 40]) (rest := []) S hK gx_ok hw (c_begins40 l (E := E) (up2 (σ) 199 0 0) (τ) (by first | rfl | decide | simp [up2, gs0, hm])) cw_X12_203 t_199 cl_13 ⟨Nat.le_of_ble_eq_true rfl, Nat.le_of_ble_eq_true rfl⟩ rfl hl.1 rfl (Nat.le_of_ble_eq_true rfl) ⟨Nat.le_of_ble_eq_true rfl, Nat.le_of_ble_eq_true rfl⟩ dX12_rule_8 (fun r_1 σ_1 τ_1 H locs hp hw => ?_)
  obtain ⟨er_1, es_1, et_1⟩ := hp
  obtain rfl := er_1.symm
  obtain rfl := es_1.symm
  obtain rfl := et_1.symm
  refine lv_istore_n (lv' := [(1, .int 0), (0, .ref (E.2.2 + 199))]) hx hb dX12_rule_11 rfl hl (by decide) rfl (fun ls hl => ?_)
  refine lv_aload_n hx hb dX12_rule_12 rfl (lv_at hl 1 rfl) ?_
  refine lv_iconst (v := 0) hx hb dX12_rule_13 (by decide) ?_
  refine gx_put S hK gx_ok hw t_199 cl_13 29 (by decide) rfl mw_1443 rfl rfl (ty := .int) (v := 0) (by decide +kernel) rfl rfl dX12_rule_14 (fun H locs hw => ?_)
  refine lv_iload_n hx hb dX12_rule_17 rfl (lv_at hl 0 rfl) ?_
  refine lv_if_eq (tgt := 29) hx hb dX12_rule_18 (by decide) (fun _ => ?_) (fun h => absurd (by decide) h)
  refine lv_iconst (v := 1) hx hb dX12_rule_29 (by decide) ?_
  refine lv_goto (tgt := 34) hx hb dX12_rule_30 (by decide) ?_
  refine lv_istore_n (lv' := [(2, .int 1), (1, .int 0), (0, .ref (E.2.2 + 199))]) hx hb dX12_rule_34 rfl hl (by decide) rfl (fun ls hl => ?_)
  refine lv_aload_n hx hb dX12_rule_35 rfl (lv_at hl 2 rfl) ?_
  refine lv_iload_n hx hb dX12_rule_36 rfl (lv_at hl 1 rfl) ?_
  refine lv_bipush (v := 40) hx hb dX12_rule_37 (by decide) ?_
  refine lv_iload_n hx hb dX12_rule_39 rfl (lv_at hl 0 rfl) ?_
  refine gx_cVi (As := [.int 0, .int 40, .int 1]) (rest := []) S hK gx_ok hw (c_faultOf40 l (E := E) (up2 (up2 (up2 (up2 (up2 ((up2 (σ) 199 0 0)) 199 13 0) 199 14 0) 199 16 0) 199 15 0) 199 29 0) (τ) (by first | rfl | decide | simp [up2, gs0, hm]) (by first | rfl | decide | simp [up2, gs0, hm])) cw_X12_213 t_199 cl_13 ⟨Nat.le_of_ble_eq_true rfl, Nat.le_of_ble_eq_true rfl⟩ rfl hl.1 rfl (Nat.le_of_ble_eq_true rfl) ⟨Nat.le_of_ble_eq_true rfl, Nat.le_of_ble_eq_true rfl⟩ dX12_rule_40 (fun r_2 σ_2 τ_2 H locs hp hw => ?_)
  obtain ⟨er_2, es_2, et_2⟩ := hp
  obtain rfl := er_2.symm
  obtain rfl := es_2.symm
  obtain rfl := et_2.symm
  refine lv_istore_n (lv' := [(3, .int 0), (2, .int 1), (1, .int 0), (0, .ref (E.2.2 + 199))]) hx hb dX12_rule_43 rfl hl (by decide) rfl (fun ls hl => ?_)
  refine lv_iload_n hx hb dX12_rule_44 rfl (lv_at hl 0 rfl) ?_
  refine lv_if_ge (tgt := 50) hx hb dX12_rule_45 (by decide) (fun _ => ?_) (fun h => absurd (by decide) h)
  refine lv_aload_n hx hb dX12_rule_50 rfl (lv_at hl 3 rfl) ?_
  refine lv_aload_n hx hb dX12_rule_51 rfl (lv_at hl 3 rfl) ?_
  refine gx_get S hK hw t_199 cl_13 29 (by decide) rfl mw_1443 rfl dX12_rule_52 ?_
  refine gx_top (v := 0) (by first | rfl | decide | simp [up2, gs0, hm]) ?_
  refine gx_put S hK gx_ok hw t_199 cl_13 28 (by decide) rfl mw_1442 rfl rfl (ty := .int) (v := 0) (by decide +kernel) rfl rfl dX12_rule_55 (fun H locs hw => ?_)
  refine lv_iconst (v := 0) hx hb dX12_rule_58 (by decide) ?_
  refine lv_istore (lv' := [(4, .int 0), (3, .int 0), (2, .int 1), (1, .int 0), (0, .ref (E.2.2 + 199))]) hx hb dX12_rule_59 hl (by decide) rfl (fun ls hl => ?_)
  refine lv_iload hx hb dX12_rule_61 (lv_at hl 0 rfl) ?_
  refine lv_aload_n hx hb dX12_rule_63 rfl (lv_at hl 4 rfl) ?_
  refine gx_get S hK hw t_199 cl_13 29 (by decide) rfl mw_1443 rfl dX12_rule_64 ?_
  refine gx_top (v := 0) (by first | rfl | decide | simp [up2, gs0, hm]) ?_
  refine lv_icmp_ge (tgt := 90) hx hb dX12_rule_67 (by decide) (fun _ => ?_) (fun h => absurd (by decide) h)
  refine lv_iconst (v := 0) hx hb dX12_rule_90 (by decide) ?_
  exact gx_ri (post := fun r σ1 τ1 => r = 0 ∧ True ∧ True) (v := 0) S hr hlk hw rfl dX12_rule_91 ⟨rfl, trivial, trivial⟩
set_option maxHeartbeats 4000000 in
set_option maxRecDepth 100000 in
theorem c_m_place (l : Launch) {E : gE} (σ : gI) (τ : gJ) (p n : Int32) (hm : ∀ c k : Nat, 199 ≤ c → σ c k = 0) : gx_Mi l yX12_place cX12_place 5 (some .int) 2 gx_tb E (σ) (τ) [.ref (E.2.2 + 199), .int p, .int n] (fun r σ1 τ1 => r = 0 ∧ σ1 = up2 (up2 σ 199 0 0) 199 0 1 ∧ τ1 = τ) := by
  refine gx_bi (by decide +kernel) (Nat.le_of_ble_eq_true rfl) ?_
  intro P9 e9 s m9 below meth C9 S hr hlk hK hw ls hl
  have S : CallFix P9 m9 C9 cX12_place 5 s _ gx_G RX12 := S
  have hx := S.1
  have hb := S.2.1
  have hl : lv_has ls 5 [(0, .ref (E.2.2 + 199)), (1, .int p), (2, .int n)] := hl
  refine lv_aload_n hx hb dX12_place_0 rfl (lv_at hl 0 rfl) ?_
  refine lv_iconst (v := 0) hx hb dX12_place_1 (by decide) ?_
  refine gx_put S hK gx_ok hw t_199 cl_13 0 (by decide) rfl mw_1414 rfl rfl (ty := .int) (v := 0) (by decide +kernel) rfl rfl dX12_place_2 (fun H locs hw => ?_)
  refine lv_aload_n hx hb dX12_place_5 rfl (lv_at hl 0 rfl) ?_
  refine lv_iload_n hx hb dX12_place_6 rfl (lv_at hl 1 rfl) ?_
  refine gx_cVi (As := [.int p]) (rest := []) S hK gx_ok hw (c_isPlace l (E := E) (up2 (σ) 199 0 0) (τ) p (by first | rfl | decide | simp [up2, gs0, hm])) cw_X12_133 t_199 cl_13 ⟨Nat.le_of_ble_eq_true rfl, Nat.le_of_ble_eq_true rfl⟩ rfl hl.1 rfl (Nat.le_of_ble_eq_true rfl) ⟨Nat.le_of_ble_eq_true rfl, Nat.le_of_ble_eq_true rfl⟩ dX12_place_7 (fun r_1 σ_1 τ_1 H locs hp hw => ?_)
  obtain ⟨er_1, es_1, et_1⟩ := hp
  obtain rfl := er_1.symm
  obtain rfl := es_1.symm
  obtain rfl := et_1.symm
  refine lv_if_eq (tgt := 25) hx hb dX12_place_10 (by decide) (fun _ => ?_) (fun h => absurd (by decide) h)
  refine lv_aload_n hx hb dX12_place_25 rfl (lv_at hl 0 rfl) ?_
  refine gx_cVi (As := []) (rest := []) S hK gx_ok hw (c_refuse l (E := E) (up2 (σ) 199 0 0) (τ) ) cw_X12_306 t_199 cl_13 ⟨Nat.le_of_ble_eq_true rfl, Nat.le_of_ble_eq_true rfl⟩ rfl hl.1 rfl (Nat.le_of_ble_eq_true rfl) ⟨Nat.le_of_ble_eq_true rfl, Nat.le_of_ble_eq_true rfl⟩ dX12_place_26 (fun r_2 σ_2 τ_2 H locs hp hw => ?_)
  obtain ⟨er_2, es_2, et_2⟩ := hp
  obtain rfl := er_2.symm
  obtain rfl := es_2.symm
  obtain rfl := et_2.symm
  exact gx_ri (post := fun r σ1 τ1 => r = 0 ∧ σ1 = up2 (up2 σ 199 0 0) 199 0 1 ∧ τ1 = τ) (v := 0) S hr hlk hw rfl dX12_place_29 ⟨rfl, (by first | rfl | simp [up2, upJ]), (by first | rfl | simp [up2, upJ])⟩
set_option maxHeartbeats 4000000 in
set_option maxRecDepth 100000 in
theorem c_m_of (l : Launch) {E : gE} (σ : gI) (τ : gJ) (i n : Int32) (hm : ∀ c k : Nat, 199 ≤ c → σ c k = 0) : gx_Mi l yX12_of cX12_of 4 (some .int) 2 gx_tb E (σ) (τ) [.ref (E.2.2 + 199), .int i, .int n] (fun r σ1 τ1 => r = 0 ∧ σ1 = up2 (up2 σ 199 0 0) 199 0 1 ∧ τ1 = τ) := by
  refine gx_bi (by decide +kernel) (Nat.le_of_ble_eq_true rfl) ?_
  intro P9 e9 s m9 below meth C9 S hr hlk hK hw ls hl
  have S : CallFix P9 m9 C9 cX12_of 4 s _ gx_G RX12 := S
  have hx := S.1
  have hb := S.2.1
  have hl : lv_has ls 4 [(0, .ref (E.2.2 + 199)), (1, .int i), (2, .int n)] := hl
  refine lv_aload_n hx hb dX12_of_0 rfl (lv_at hl 0 rfl) ?_
  refine lv_iconst (v := 0) hx hb dX12_of_1 (by decide) ?_
  refine gx_put S hK gx_ok hw t_199 cl_13 0 (by decide) rfl mw_1414 rfl rfl (ty := .int) (v := 0) (by decide +kernel) rfl rfl dX12_of_2 (fun H locs hw => ?_)
  refine lv_aload_n hx hb dX12_of_5 rfl (lv_at hl 0 rfl) ?_
  refine lv_iload_n hx hb dX12_of_6 rfl (lv_at hl 1 rfl) ?_
  refine gx_cVi (As := [.int i]) (rest := []) S hK gx_ok hw (c_isThing l (E := E) (up2 (σ) 199 0 0) (τ) i (by first | rfl | decide | simp [up2, gs0, hm])) cw_X12_309 t_199 cl_13 ⟨Nat.le_of_ble_eq_true rfl, Nat.le_of_ble_eq_true rfl⟩ rfl hl.1 rfl (Nat.le_of_ble_eq_true rfl) ⟨Nat.le_of_ble_eq_true rfl, Nat.le_of_ble_eq_true rfl⟩ dX12_of_7 (fun r_1 σ_1 τ_1 H locs hp hw => ?_)
  obtain ⟨er_1, es_1, et_1⟩ := hp
  obtain rfl := er_1.symm
  obtain rfl := es_1.symm
  obtain rfl := et_1.symm
  refine lv_if_eq (tgt := 25) hx hb dX12_of_10 (by decide) (fun _ => ?_) (fun h => absurd (by decide) h)
  refine lv_aload_n hx hb dX12_of_25 rfl (lv_at hl 0 rfl) ?_
  refine gx_cVi (As := []) (rest := []) S hK gx_ok hw (c_refuse l (E := E) (up2 (σ) 199 0 0) (τ) ) cw_X12_306 t_199 cl_13 ⟨Nat.le_of_ble_eq_true rfl, Nat.le_of_ble_eq_true rfl⟩ rfl hl.1 rfl (Nat.le_of_ble_eq_true rfl) ⟨Nat.le_of_ble_eq_true rfl, Nat.le_of_ble_eq_true rfl⟩ dX12_of_26 (fun r_2 σ_2 τ_2 H locs hp hw => ?_)
  obtain ⟨er_2, es_2, et_2⟩ := hp
  obtain rfl := er_2.symm
  obtain rfl := es_2.symm
  obtain rfl := et_2.symm
  exact gx_ri (post := fun r σ1 τ1 => r = 0 ∧ σ1 = up2 (up2 σ 199 0 0) 199 0 1 ∧ τ1 = τ) (v := 0) S hr hlk hw rfl dX12_of_29 ⟨rfl, (by first | rfl | simp [up2, upJ]), (by first | rfl | simp [up2, upJ])⟩
set_option maxHeartbeats 4000000 in
set_option maxRecDepth 100000 in
theorem c_m_row (l : Launch) {E : gE} (σ : gI) (τ : gJ) (i : Int32) (hm : ∀ c k : Nat, 199 ≤ c → σ c k = 0) : gx_Ml l yX12_row cX12_row 2 (some .long) 1 gx_tb E (σ) (τ) [.ref (E.2.2 + 199), .int i] (fun r σ1 τ1 => r = 0 ∧ σ1 = up2 (up2 σ 199 0 0) 199 0 1 ∧ τ1 = τ) := by
  refine gx_bl (by decide +kernel) (Nat.le_of_ble_eq_true rfl) ?_
  intro P9 e9 s m9 below meth C9 S hr hlk hK hw ls hl
  have S : CallFix P9 m9 C9 cX12_row 2 s _ gx_G RX12 := S
  have hx := S.1
  have hb := S.2.1
  have hl : lv_has ls 2 [(0, .ref (E.2.2 + 199)), (1, .int i)] := hl
  refine lv_aload_n hx hb dX12_row_0 rfl (lv_at hl 0 rfl) ?_
  refine lv_iconst (v := 0) hx hb dX12_row_1 (by decide) ?_
  refine gx_put S hK gx_ok hw t_199 cl_13 0 (by decide) rfl mw_1414 rfl rfl (ty := .int) (v := 0) (by decide +kernel) rfl rfl dX12_row_2 (fun H locs hw => ?_)
  refine lv_iload_n hx hb dX12_row_5 rfl (lv_at hl 1 rfl) ?_
  refine lv_i2l (v := i.toInt64) hx hb dX12_row_6 rfl ?_
  refine lv_lconst (v := 0) hx hb dX12_row_7 (by decide) ?_
  refine lv_aload_n hx hb dX12_row_8 rfl (lv_at hl 0 rfl) ?_
  refine gx_get S hK hw t_199 cl_13 1 (by decide) rfl mw_1415 rfl dX12_row_9 ?_
  refine gx_top (v := 0) (by first | rfl | decide | simp [up2, gs0, hm]) ?_
  refine lv_iconst (v := 1) hx hb dX12_row_12 (by decide) ?_
  refine lv_isub hx hb dX12_row_13 ?_
  refine gx_top (v := (-1)) (by decide) ?_
  refine lv_i2l (v := (-1)) hx hb dX12_row_14 (by decide) ?_
  refine gx_cSi (As := [.long i.toInt64, .long 0, .long (-1)]) (rest := []) S hK gx_ok hw (c_in l (E := E) (up2 (σ) 199 0 0) (τ) i 0 (-1) 0 (-1) (by first | rfl | decide | simp [up2, gs0, hm]) (by first | rfl | decide | simp [up2, gs0, hm])) cw_X12_129 ⟨Nat.le_of_ble_eq_true rfl, Nat.le_of_ble_eq_true rfl⟩ rfl hl.1 rfl (Nat.le_of_ble_eq_true rfl) ⟨Nat.le_of_ble_eq_true rfl, Nat.le_of_ble_eq_true rfl⟩ dX12_row_15 (fun r_1 σ_1 τ_1 H locs hp hw => ?_)
  obtain ⟨er_1, es_1, et_1⟩ := hp
  obtain rfl := er_1.symm
  obtain rfl := es_1.symm
  obtain rfl := et_1.symm
  by_cases c_2 : 0 ≤ i.toInt ∧ i.toInt ≤ (-1)
  · refine gx_top (v := 1) (if_pos c_2) ?_
    refine lv_if_ne (tgt := 28) hx hb dX12_row_18 (by decide) (fun _ => ?_) (fun h => absurd h (by decide))
    exfalso; omega
  · refine gx_top (v := 0) ((if_neg c_2).trans (rfl)) ?_
    refine lv_if_ne (tgt := 28) hx hb dX12_row_18 (by decide) (fun h => absurd (by decide) h) (fun _ => ?_)
    refine lv_aload_n hx hb dX12_row_21 rfl (lv_at hl 0 rfl) ?_
    refine lv_iconst (v := 1) hx hb dX12_row_22 (by decide) ?_
    refine gx_put S hK gx_ok hw t_199 cl_13 0 (by decide) rfl mw_1414 rfl rfl (ty := .int) (v := 1) (by decide +kernel) rfl rfl dX12_row_23 (fun H locs hw => ?_)
    refine lv_lconst (v := 0) hx hb dX12_row_26 (by decide) ?_
    exact gx_rl (post := fun r σ1 τ1 => r = 0 ∧ σ1 = up2 (up2 σ 199 0 0) 199 0 1 ∧ τ1 = τ) (v := 0) S hr hlk hw dX12_row_27 ⟨rfl, (by first | rfl | simp [up2, upJ]), (by first | rfl | simp [up2, upJ])⟩
set_option maxHeartbeats 4000000 in
set_option maxRecDepth 100000 in
theorem c_m_flow (l : Launch) {E : gE} (σ : gI) (τ : gJ) (n : Int32) (hm : ∀ c k : Nat, 199 ≤ c → σ c k = 0) : gx_Mi l yX12_flow cX12_flow 2 (some .int) 2 gx_tb E (σ) (τ) [.ref (E.2.2 + 199), .int n] (fun r σ1 τ1 => r = (if 0 ≤ n.toInt ∧ n.toInt ≤ 9999 then 1 else (-1)) ∧ True ∧ True) := by
  refine gx_bi (by decide +kernel) (Nat.le_of_ble_eq_true rfl) ?_
  intro P9 e9 s m9 below meth C9 S hr hlk hK hw ls hl
  have S : CallFix P9 m9 C9 cX12_flow 2 s _ gx_G RX12 := S
  have hx := S.1
  have hb := S.2.1
  have hl : lv_has ls 2 [(0, .ref (E.2.2 + 199)), (1, .int n)] := hl
  refine lv_aload_n hx hb dX12_flow_0 rfl (lv_at hl 0 rfl) ?_
  refine lv_iconst (v := 0) hx hb dX12_flow_1 (by decide) ?_
  refine gx_put S hK gx_ok hw t_199 cl_13 0 (by decide) rfl mw_1414 rfl rfl (ty := .int) (v := 0) (by decide +kernel) rfl rfl dX12_flow_2 (fun H locs hw => ?_)
  refine lv_iload_n hx hb dX12_flow_5 rfl (lv_at hl 1 rfl) ?_
  refine lv_i2l (v := n.toInt64) hx hb dX12_flow_6 rfl ?_
  refine lv_lconst (v := 0) hx hb dX12_flow_7 (by decide) ?_
  refine lv_ldc2 (v := 9999) hx hb S.2.2.2.1 (S.2.2.2.2 _ mw_1812) dX12_flow_8 ?_
  refine gx_cSi (As := [.long n.toInt64, .long 0, .long 9999]) (rest := []) S hK gx_ok hw (c_in l (E := E) (up2 (σ) 199 0 0) (τ) n 0 9999 0 9999 (by first | rfl | decide | simp [up2, gs0, hm]) (by first | rfl | decide | simp [up2, gs0, hm])) cw_X12_129 ⟨Nat.le_of_ble_eq_true rfl, Nat.le_of_ble_eq_true rfl⟩ rfl hl.1 rfl (Nat.le_of_ble_eq_true rfl) ⟨Nat.le_of_ble_eq_true rfl, Nat.le_of_ble_eq_true rfl⟩ dX12_flow_11 (fun r_1 σ_1 τ_1 H locs hp hw => ?_)
  obtain ⟨er_1, es_1, et_1⟩ := hp
  obtain rfl := er_1.symm
  obtain rfl := es_1.symm
  obtain rfl := et_1.symm
  by_cases c_2 : 0 ≤ n.toInt ∧ n.toInt ≤ 9999
  · refine gx_top (v := 1) (if_pos c_2) ?_
    refine lv_if_eq (tgt := 25) hx hb dX12_flow_14 (by decide) (fun h => absurd h (by decide)) (fun _ => ?_)
    refine lv_aload_n hx hb dX12_flow_17 rfl (lv_at hl 0 rfl) ?_
    refine lv_iload_n hx hb dX12_flow_18 rfl (lv_at hl 1 rfl) ?_
    refine gx_cVi (As := [.int n]) (rest := []) S hK gx_ok hw (c_waterIn l (E := E) (up2 (σ) 199 0 0) (τ) n (by first | rfl | decide | simp [up2, gs0, hm]) (by first | rfl | decide | simp [up2, gs0, hm]) (by first | rfl | decide | simp [up2, gs0, hm])) cw_X12_268 t_199 cl_13 ⟨Nat.le_of_ble_eq_true rfl, Nat.le_of_ble_eq_true rfl⟩ rfl hl.1 rfl (Nat.le_of_ble_eq_true rfl) ⟨Nat.le_of_ble_eq_true rfl, Nat.le_of_ble_eq_true rfl⟩ dX12_flow_19 (fun r_3 σ_3 τ_3 H locs hp hw => ?_)
    obtain ⟨er_3, es_3, et_3⟩ := hp
    obtain rfl := er_3.symm
    obtain rfl := es_3.symm
    obtain rfl := et_3.symm
    refine lv_goto (tgt := 26) hx hb dX12_flow_22 (by decide) ?_
    exact gx_ri (post := fun r σ1 τ1 => r = (if 0 ≤ n.toInt ∧ n.toInt ≤ 9999 then 1 else (-1)) ∧ True ∧ True) (v := 1) S hr hlk hw rfl dX12_flow_26 ⟨(by exact (if_pos (by omega)).symm), trivial, trivial⟩
  · refine gx_top (v := 0) ((if_neg c_2).trans (rfl)) ?_
    refine lv_if_eq (tgt := 25) hx hb dX12_flow_14 (by decide) (fun _ => ?_) (fun h => absurd (by decide) h)
    refine lv_iconst (v := (-1)) hx hb dX12_flow_25 (by decide) ?_
    exact gx_ri (post := fun r σ1 τ1 => r = (if 0 ≤ n.toInt ∧ n.toInt ≤ 9999 then 1 else (-1)) ∧ True ∧ True) (v := (-1)) S hr hlk hw rfl dX12_flow_26 ⟨(by exact ((if_neg (by omega)).trans (rfl)).symm), trivial, trivial⟩
set_option maxHeartbeats 4000000 in
set_option maxRecDepth 100000 in
theorem c_m_plank (l : Launch) {E : gE} (σ : gI) (τ : gJ) (p v : Int32) (hm : ∀ c k : Nat, 199 ≤ c → σ c k = 0) : gx_Mi l yX12_plank cX12_plank 3 (some .boolean) 3 gx_tb E (σ) (τ) [.ref (E.2.2 + 199), .int p, .int v] (fun r σ1 τ1 => r = 0 ∧ True ∧ True) := by
  refine gx_bi (by decide +kernel) (Nat.le_of_ble_eq_true rfl) ?_
  intro P9 e9 s m9 below meth C9 S hr hlk hK hw ls hl
  have S : CallFix P9 m9 C9 cX12_plank 3 s _ gx_G RX12 := S
  have hx := S.1
  have hb := S.2.1
  have hl : lv_has ls 3 [(0, .ref (E.2.2 + 199)), (1, .int p), (2, .int v)] := hl
  refine lv_aload_n hx hb dX12_plank_0 rfl (lv_at hl 0 rfl) ?_
  refine lv_iconst (v := 0) hx hb dX12_plank_1 (by decide) ?_
  refine gx_put S hK gx_ok hw t_199 cl_13 0 (by decide) rfl mw_1414 rfl rfl (ty := .int) (v := 0) (by decide +kernel) rfl rfl dX12_plank_2 (fun H locs hw => ?_)
  refine lv_aload_n hx hb dX12_plank_5 rfl (lv_at hl 0 rfl) ?_
  refine lv_iload_n hx hb dX12_plank_6 rfl (lv_at hl 1 rfl) ?_
  refine gx_cVi (As := [.int p]) (rest := []) S hK gx_ok hw (c_isFork l (E := E) (up2 (σ) 199 0 0) (τ) p (by first | rfl | decide | simp [up2, gs0, hm])) cw_X12_316 t_199 cl_13 ⟨Nat.le_of_ble_eq_true rfl, Nat.le_of_ble_eq_true rfl⟩ rfl hl.1 rfl (Nat.le_of_ble_eq_true rfl) ⟨Nat.le_of_ble_eq_true rfl, Nat.le_of_ble_eq_true rfl⟩ dX12_plank_7 (fun r_1 σ_1 τ_1 H locs hp hw => ?_)
  obtain ⟨er_1, es_1, et_1⟩ := hp
  obtain rfl := er_1.symm
  obtain rfl := es_1.symm
  obtain rfl := et_1.symm
  refine lv_if_eq (tgt := 23) hx hb dX12_plank_10 (by decide) (fun _ => ?_) (fun h => absurd (by decide) h)
  refine lv_iconst (v := 0) hx hb dX12_plank_23 (by decide) ?_
  exact gx_ri (post := fun r σ1 τ1 => r = 0 ∧ True ∧ True) (v := 0) S hr hlk hw rfl dX12_plank_24 ⟨rfl, trivial, trivial⟩
set_option maxHeartbeats 4000000 in
set_option maxRecDepth 100000 in
theorem c_m_sheet (l : Launch) {E : gE} (σ : gI) (τ : gJ) (k n f t : Int32) (hm : ∀ c k : Nat, 199 ≤ c → σ c k = 0) : gx_Mi l yX12_sheet cX12_sheet 9 (some .int) 1 gx_tb E (σ) (τ) [.ref (E.2.2 + 199), .int k, .int n, .int f, .int t] (fun r σ1 τ1 => r = (if k.toInt < 0 ∨ 3 < k.toInt ∨ 6 < n.toInt then (-1) else (if k.toInt = 3 then (-3) else (if n.toInt < 0 then (-2) else 0))) ∧ True ∧ True) := by
  refine gx_bi (by decide +kernel) (Nat.le_of_ble_eq_true rfl) ?_
  intro P9 e9 s m9 below meth C9 S hr hlk hK hw ls hl
  have S : CallFix P9 m9 C9 cX12_sheet 9 s _ gx_G RX12 := S
  have hx := S.1
  have hb := S.2.1
  have hl : lv_has ls 9 [(0, .ref (E.2.2 + 199)), (1, .int k), (2, .int n), (3, .int f), (4, .int t)] := hl
  refine lv_aload_n hx hb dX12_sheet_0 rfl (lv_at hl 0 rfl) ?_
  refine lv_iconst (v := 0) hx hb dX12_sheet_1 (by decide) ?_
  refine gx_put S hK gx_ok hw t_199 cl_13 0 (by decide) rfl mw_1414 rfl rfl (ty := .int) (v := 0) (by decide +kernel) rfl rfl dX12_sheet_2 (fun H locs hw => ?_)
  refine lv_iload_n hx hb dX12_sheet_5 rfl (lv_at hl 1 rfl) ?_
  refine lv_i2l (v := k.toInt64) hx hb dX12_sheet_6 rfl ?_
  refine lv_lconst (v := 0) hx hb dX12_sheet_7 (by decide) ?_
  refine lv_ldc2 (v := 3) hx hb S.2.2.2.1 (S.2.2.2.2 _ mw_1844) dX12_sheet_8 ?_
  refine gx_cSi (As := [.long k.toInt64, .long 0, .long 3]) (rest := []) S hK gx_ok hw (c_in l (E := E) (up2 (σ) 199 0 0) (τ) k 0 3 0 3 (by first | rfl | decide | simp [up2, gs0, hm]) (by first | rfl | decide | simp [up2, gs0, hm])) cw_X12_129 ⟨Nat.le_of_ble_eq_true rfl, Nat.le_of_ble_eq_true rfl⟩ rfl hl.1 rfl (Nat.le_of_ble_eq_true rfl) ⟨Nat.le_of_ble_eq_true rfl, Nat.le_of_ble_eq_true rfl⟩ dX12_sheet_11 (fun r_1 σ_1 τ_1 H locs hp hw => ?_)
  obtain ⟨er_1, es_1, et_1⟩ := hp
  obtain rfl := er_1.symm
  obtain rfl := es_1.symm
  obtain rfl := et_1.symm
  by_cases c_2 : 0 ≤ k.toInt ∧ k.toInt ≤ 3
  · refine gx_top (v := 1) (if_pos c_2) ?_
    refine lv_if_eq (tgt := 23) hx hb dX12_sheet_14 (by decide) (fun h => absurd h (by decide)) (fun _ => ?_)
    refine lv_iload_n hx hb dX12_sheet_17 rfl (lv_at hl 2 rfl) ?_
    refine lv_bipush (v := 6) hx hb dX12_sheet_18 (by decide) ?_
    refine lv_icmp_le (tgt := 25) hx hb dX12_sheet_20 (by decide) (fun c_3 => ?_) (fun c_3 => ?_)
    · refine lv_iload_n hx hb dX12_sheet_25 rfl (lv_at hl 1 rfl) ?_
      refine lv_iconst (v := 3) hx hb dX12_sheet_26 (by decide) ?_
      refine lv_icmp_eq (tgt := 37) hx hb dX12_sheet_27 (by decide) (fun c_4 => ?_) (fun c_4 => ?_)
      · refine lv_iconst (v := 0) hx hb dX12_sheet_37 (by decide) ?_
        refine lv_istore (lv' := [(5, .int 0), (0, .ref (E.2.2 + 199)), (1, .int k), (2, .int n), (3, .int f), (4, .int t)]) hx hb dX12_sheet_38 hl (by decide) rfl (fun ls hl => ?_)
        refine lv_iload_n hx hb dX12_sheet_40 rfl (lv_at hl 4 rfl) ?_
        refine lv_istore (lv' := [(6, .int f), (5, .int 0), (0, .ref (E.2.2 + 199)), (1, .int k), (2, .int n), (3, .int f), (4, .int t)]) hx hb dX12_sheet_41 hl (by decide) rfl (fun ls hl => ?_)
        refine lv_iconst (v := 0) hx hb dX12_sheet_43 (by decide) ?_
        refine lv_istore (lv' := [(7, .int 0), (6, .int f), (5, .int 0), (0, .ref (E.2.2 + 199)), (1, .int k), (2, .int n), (3, .int f), (4, .int t)]) hx hb dX12_sheet_44 hl (by decide) rfl (fun ls hl => ?_)
        refine lv_iload hx hb dX12_sheet_46 (lv_at hl 0 rfl) ?_
        refine lv_aload_n hx hb dX12_sheet_48 rfl (lv_at hl 3 rfl) ?_
        refine gx_getr (j := 206) S hK hw t_199 cl_13 10 (by decide) rfl mw_1424 rfl dX12_sheet_49 ?_
        refine lv_bipush (v := 44) hx hb dX12_sheet_52 (by decide) ?_
        refine gx_iald S hK hw t_206 44 rfl (gx_in rfl (by decide) (by decide)) dX12_sheet_54 ?_
        refine gx_top (v := 0) (by first | rfl | decide | simp [up2, gs0, hm]) ?_
        refine lv_icmp_ge (tgt := 151) hx hb dX12_sheet_55 (by decide) (fun _ => ?_) (fun h => absurd (by decide) h)
        refine lv_iload_n hx hb dX12_sheet_151 rfl (lv_at hl 4 rfl) ?_
        refine lv_iconst (v := 3) hx hb dX12_sheet_152 (by decide) ?_
        refine lv_icmp_ne (tgt := 161) hx hb dX12_sheet_153 (by decide) (fun c_5 => ?_) (fun c_5 => ?_)
        · refine lv_iload hx hb dX12_sheet_161 (lv_at hl 2 rfl) ?_
          exact gx_ri (post := fun r σ1 τ1 => r = (if k.toInt < 0 ∨ 3 < k.toInt ∨ 6 < n.toInt then (-1) else (if k.toInt = 3 then (-3) else (if n.toInt < 0 then (-2) else 0))) ∧ True ∧ True) (v := 0) S hr hlk hw rfl dX12_sheet_163 ⟨(by simp only [fa_lt, fa_le, fa_eq, show (3 : Int32).toInt = 3 from rfl, show (6 : Int32).toInt = 6 from rfl] at c_3 c_4 c_5; exact ((if_neg (by omega)).trans ((if_neg (by omega)).trans ((if_neg (by omega)).trans (rfl)))).symm), trivial, trivial⟩
        · refine lv_bipush (v := (-3)) hx hb dX12_sheet_156 (by decide) ?_
          refine lv_goto (tgt := 163) hx hb dX12_sheet_158 (by decide) ?_
          exact gx_ri (post := fun r σ1 τ1 => r = (if k.toInt < 0 ∨ 3 < k.toInt ∨ 6 < n.toInt then (-1) else (if k.toInt = 3 then (-3) else (if n.toInt < 0 then (-2) else 0))) ∧ True ∧ True) (v := (-3)) S hr hlk hw rfl dX12_sheet_163 ⟨(by simp only [fa_lt, fa_le, fa_eq, show (3 : Int32).toInt = 3 from rfl, show (6 : Int32).toInt = 6 from rfl] at c_3 c_4 c_5; exact ((if_neg (by omega)).trans (if_pos (by omega))).symm), trivial, trivial⟩
      · refine lv_iload_n hx hb dX12_sheet_30 rfl (lv_at hl 2 rfl) ?_
        refine lv_if_ge (tgt := 37) hx hb dX12_sheet_31 (by decide) (fun c_6 => ?_) (fun c_6 => ?_)
        · refine lv_iconst (v := 0) hx hb dX12_sheet_37 (by decide) ?_
          refine lv_istore (lv' := [(5, .int 0), (0, .ref (E.2.2 + 199)), (1, .int k), (2, .int n), (3, .int f), (4, .int t)]) hx hb dX12_sheet_38 hl (by decide) rfl (fun ls hl => ?_)
          refine lv_iload_n hx hb dX12_sheet_40 rfl (lv_at hl 4 rfl) ?_
          refine lv_istore (lv' := [(6, .int f), (5, .int 0), (0, .ref (E.2.2 + 199)), (1, .int k), (2, .int n), (3, .int f), (4, .int t)]) hx hb dX12_sheet_41 hl (by decide) rfl (fun ls hl => ?_)
          refine lv_iconst (v := 0) hx hb dX12_sheet_43 (by decide) ?_
          refine lv_istore (lv' := [(7, .int 0), (6, .int f), (5, .int 0), (0, .ref (E.2.2 + 199)), (1, .int k), (2, .int n), (3, .int f), (4, .int t)]) hx hb dX12_sheet_44 hl (by decide) rfl (fun ls hl => ?_)
          refine lv_iload hx hb dX12_sheet_46 (lv_at hl 0 rfl) ?_
          refine lv_aload_n hx hb dX12_sheet_48 rfl (lv_at hl 3 rfl) ?_
          refine gx_getr (j := 206) S hK hw t_199 cl_13 10 (by decide) rfl mw_1424 rfl dX12_sheet_49 ?_
          refine lv_bipush (v := 44) hx hb dX12_sheet_52 (by decide) ?_
          refine gx_iald S hK hw t_206 44 rfl (gx_in rfl (by decide) (by decide)) dX12_sheet_54 ?_
          refine gx_top (v := 0) (by first | rfl | decide | simp [up2, gs0, hm]) ?_
          refine lv_icmp_ge (tgt := 151) hx hb dX12_sheet_55 (by decide) (fun _ => ?_) (fun h => absurd (by decide) h)
          refine lv_iload_n hx hb dX12_sheet_151 rfl (lv_at hl 4 rfl) ?_
          refine lv_iconst (v := 3) hx hb dX12_sheet_152 (by decide) ?_
          refine lv_icmp_ne (tgt := 161) hx hb dX12_sheet_153 (by decide) (fun c_7 => ?_) (fun c_7 => ?_)
          · refine lv_iload hx hb dX12_sheet_161 (lv_at hl 2 rfl) ?_
            exact gx_ri (post := fun r σ1 τ1 => r = (if k.toInt < 0 ∨ 3 < k.toInt ∨ 6 < n.toInt then (-1) else (if k.toInt = 3 then (-3) else (if n.toInt < 0 then (-2) else 0))) ∧ True ∧ True) (v := 0) S hr hlk hw rfl dX12_sheet_163 ⟨(by simp only [fa_lt, fa_le, fa_eq, show (0 : Int32).toInt = 0 from rfl, show (3 : Int32).toInt = 3 from rfl, show (6 : Int32).toInt = 6 from rfl] at c_3 c_4 c_6 c_7; exact ((if_neg (by omega)).trans ((if_neg (by omega)).trans ((if_neg (by omega)).trans (rfl)))).symm), trivial, trivial⟩
          · refine lv_bipush (v := (-3)) hx hb dX12_sheet_156 (by decide) ?_
            refine lv_goto (tgt := 163) hx hb dX12_sheet_158 (by decide) ?_
            exact gx_ri (post := fun r σ1 τ1 => r = (if k.toInt < 0 ∨ 3 < k.toInt ∨ 6 < n.toInt then (-1) else (if k.toInt = 3 then (-3) else (if n.toInt < 0 then (-2) else 0))) ∧ True ∧ True) (v := (-3)) S hr hlk hw rfl dX12_sheet_163 ⟨(by simp only [fa_lt, fa_le, fa_eq, show (0 : Int32).toInt = 0 from rfl, show (3 : Int32).toInt = 3 from rfl, show (6 : Int32).toInt = 6 from rfl] at c_3 c_4 c_6 c_7; exact ((if_neg (by omega)).trans (if_pos (by omega))).symm), trivial, trivial⟩
        · refine lv_bipush (v := (-2)) hx hb dX12_sheet_34 (by decide) ?_
          exact gx_ri (post := fun r σ1 τ1 => r = (if k.toInt < 0 ∨ 3 < k.toInt ∨ 6 < n.toInt then (-1) else (if k.toInt = 3 then (-3) else (if n.toInt < 0 then (-2) else 0))) ∧ True ∧ True) (v := (-2)) S hr hlk hw rfl dX12_sheet_36 ⟨(by simp only [fa_lt, fa_le, fa_eq, show (0 : Int32).toInt = 0 from rfl, show (3 : Int32).toInt = 3 from rfl, show (6 : Int32).toInt = 6 from rfl] at c_3 c_4 c_6; exact ((if_neg (by omega)).trans ((if_neg (by omega)).trans (if_pos (by omega)))).symm), trivial, trivial⟩
    · refine lv_iconst (v := (-1)) hx hb dX12_sheet_23 (by decide) ?_
      exact gx_ri (post := fun r σ1 τ1 => r = (if k.toInt < 0 ∨ 3 < k.toInt ∨ 6 < n.toInt then (-1) else (if k.toInt = 3 then (-3) else (if n.toInt < 0 then (-2) else 0))) ∧ True ∧ True) (v := (-1)) S hr hlk hw rfl dX12_sheet_24 ⟨(by simp only [fa_lt, fa_le, fa_eq, show (6 : Int32).toInt = 6 from rfl] at c_3; exact (if_pos (by omega)).symm), trivial, trivial⟩
  · refine gx_top (v := 0) ((if_neg c_2).trans (rfl)) ?_
    refine lv_if_eq (tgt := 23) hx hb dX12_sheet_14 (by decide) (fun _ => ?_) (fun h => absurd (by decide) h)
    refine lv_iconst (v := (-1)) hx hb dX12_sheet_23 (by decide) ?_
    exact gx_ri (post := fun r σ1 τ1 => r = (if k.toInt < 0 ∨ 3 < k.toInt ∨ 6 < n.toInt then (-1) else (if k.toInt = 3 then (-3) else (if n.toInt < 0 then (-2) else 0))) ∧ True ∧ True) (v := (-1)) S hr hlk hw rfl dX12_sheet_24 ⟨(by exact (if_pos (by omega)).symm), trivial, trivial⟩
set_option maxHeartbeats 4000000 in
set_option maxRecDepth 100000 in
theorem c_m_put (l : Launch) {E : gE} (σ : gI) (τ : gJ) (p b n w : Int32) (hm : ∀ c k : Nat, 199 ≤ c → σ c k = 0) : gx_Mi l yX12_put cX12_put 6 (some .int) 4 gx_tb E (σ) (τ) [.ref (E.2.2 + 199), .int p, .int b, .int n, .int w] (fun r σ1 τ1 => r = (-1) ∧ True ∧ True) := by
  refine gx_bi (by decide +kernel) (Nat.le_of_ble_eq_true rfl) ?_
  intro P9 e9 s m9 below meth C9 S hr hlk hK hw ls hl
  have S : CallFix P9 m9 C9 cX12_put 6 s _ gx_G RX12 := S
  have hx := S.1
  have hb := S.2.1
  have hl : lv_has ls 6 [(0, .ref (E.2.2 + 199)), (1, .int p), (2, .int b), (3, .int n), (4, .int w)] := hl
  refine lv_aload_n hx hb dX12_put_0 rfl (lv_at hl 0 rfl) ?_
  refine lv_iconst (v := 0) hx hb dX12_put_1 (by decide) ?_
  refine gx_put S hK gx_ok hw t_199 cl_13 0 (by decide) rfl mw_1414 rfl rfl (ty := .int) (v := 0) (by decide +kernel) rfl rfl dX12_put_2 (fun H locs hw => ?_)
  refine lv_aload_n hx hb dX12_put_5 rfl (lv_at hl 0 rfl) ?_
  refine gx_cVv (As := []) (rest := []) S hK gx_ok hw (c_putsBy l (E := E) (up2 (σ) 199 0 0) (τ) (by first | rfl | decide | simp [up2, gs0, hm]) (fun k => by simp [up2, hm])) cw_X12_319 t_199 cl_13 ⟨Nat.le_of_ble_eq_true rfl, Nat.le_of_ble_eq_true rfl⟩ rfl hl.1 rfl (Nat.le_of_ble_eq_true rfl) ⟨Nat.le_of_ble_eq_true rfl, Nat.le_of_ble_eq_true rfl⟩ dX12_put_6 (fun σ_1 τ_1 H locs hp hw => ?_)
  obtain ⟨es_1, et_1⟩ := hp
  obtain rfl := es_1.symm
  obtain rfl := et_1.symm
  refine lv_aload_n hx hb dX12_put_9 rfl (lv_at hl 0 rfl) ?_
  refine lv_iload_n hx hb dX12_put_10 rfl (lv_at hl 1 rfl) ?_
  refine lv_iload_n hx hb dX12_put_11 rfl (lv_at hl 2 rfl) ?_
  refine lv_iload_n hx hb dX12_put_12 rfl (lv_at hl 3 rfl) ?_
  refine lv_iload hx hb dX12_put_13 (lv_at hl 4 rfl) ?_
  refine gx_cVi (As := [.int p, .int b, .int n, .int w]) (rest := []) S hK gx_ok hw (c_comesNow l (E := E) (up2 (σ) 199 0 0) (τ) p b n w (by first | rfl | decide | simp [up2, gs0, hm])) cw_X12_339 t_199 cl_13 ⟨Nat.le_of_ble_eq_true rfl, Nat.le_of_ble_eq_true rfl⟩ rfl hl.1 rfl (Nat.le_of_ble_eq_true rfl) ⟨Nat.le_of_ble_eq_true rfl, Nat.le_of_ble_eq_true rfl⟩ dX12_put_15 (fun r_2 σ_2 τ_2 H locs hp hw => ?_)
  obtain ⟨er_2, es_2, et_2⟩ := hp
  obtain rfl := er_2.symm
  obtain rfl := es_2.symm
  obtain rfl := et_2.symm
  refine lv_istore (lv' := [(5, .int (-1)), (0, .ref (E.2.2 + 199)), (1, .int p), (2, .int b), (3, .int n), (4, .int w)]) hx hb dX12_put_18 hl (by decide) rfl (fun ls hl => ?_)
  refine lv_iload hx hb dX12_put_20 (lv_at hl 0 rfl) ?_
  refine lv_if_ge (tgt := 30) hx hb dX12_put_22 (by decide) (fun h => absurd h (by decide)) (fun _ => ?_)
  refine lv_iload hx hb dX12_put_25 (lv_at hl 0 rfl) ?_
  refine lv_goto (tgt := 36) hx hb dX12_put_27 (by decide) ?_
  exact gx_ri (post := fun r σ1 τ1 => r = (-1) ∧ True ∧ True) (v := (-1)) S hr hlk hw rfl dX12_put_36 ⟨rfl, trivial, trivial⟩
set_option maxHeartbeats 4000000 in
set_option maxRecDepth 100000 in
theorem c_m_give (l : Launch) {E : gE} (σ : gI) (τ : gJ) (i n : Int32) (hm : ∀ c k : Nat, 199 ≤ c → σ c k = 0) : gx_Mi l yX12_give cX12_give 4 (some .int) 3 gx_tb E (σ) (τ) [.ref (E.2.2 + 199), .int i, .int n] (fun r σ1 τ1 => r = (-1) ∧ True ∧ True) := by
  refine gx_bi (by decide +kernel) (Nat.le_of_ble_eq_true rfl) ?_
  intro P9 e9 s m9 below meth C9 S hr hlk hK hw ls hl
  have S : CallFix P9 m9 C9 cX12_give 4 s _ gx_G RX12 := S
  have hx := S.1
  have hb := S.2.1
  have hl : lv_has ls 4 [(0, .ref (E.2.2 + 199)), (1, .int i), (2, .int n)] := hl
  refine lv_aload_n hx hb dX12_give_0 rfl (lv_at hl 0 rfl) ?_
  refine lv_iconst (v := 0) hx hb dX12_give_1 (by decide) ?_
  refine gx_put S hK gx_ok hw t_199 cl_13 0 (by decide) rfl mw_1414 rfl rfl (ty := .int) (v := 0) (by decide +kernel) rfl rfl dX12_give_2 (fun H locs hw => ?_)
  refine lv_aload_n hx hb dX12_give_5 rfl (lv_at hl 0 rfl) ?_
  refine gx_cVv (As := []) (rest := []) S hK gx_ok hw (c_putsBy l (E := E) (up2 (σ) 199 0 0) (τ) (by first | rfl | decide | simp [up2, gs0, hm]) (fun k => by simp [up2, hm])) cw_X12_319 t_199 cl_13 ⟨Nat.le_of_ble_eq_true rfl, Nat.le_of_ble_eq_true rfl⟩ rfl hl.1 rfl (Nat.le_of_ble_eq_true rfl) ⟨Nat.le_of_ble_eq_true rfl, Nat.le_of_ble_eq_true rfl⟩ dX12_give_6 (fun σ_1 τ_1 H locs hp hw => ?_)
  obtain ⟨es_1, et_1⟩ := hp
  obtain rfl := es_1.symm
  obtain rfl := et_1.symm
  refine lv_aload_n hx hb dX12_give_9 rfl (lv_at hl 0 rfl) ?_
  refine lv_iload_n hx hb dX12_give_10 rfl (lv_at hl 1 rfl) ?_
  refine lv_iload_n hx hb dX12_give_11 rfl (lv_at hl 2 rfl) ?_
  refine gx_cVi (As := [.int i, .int n]) (rest := []) S hK gx_ok hw (c_gives l (E := E) (up2 (σ) 199 0 0) (τ) i n (by first | rfl | decide | simp [up2, gs0, hm])) cw_X12_343 t_199 cl_13 ⟨Nat.le_of_ble_eq_true rfl, Nat.le_of_ble_eq_true rfl⟩ rfl hl.1 rfl (Nat.le_of_ble_eq_true rfl) ⟨Nat.le_of_ble_eq_true rfl, Nat.le_of_ble_eq_true rfl⟩ dX12_give_12 (fun r_2 σ_2 τ_2 H locs hp hw => ?_)
  obtain ⟨er_2, es_2, et_2⟩ := hp
  obtain rfl := er_2.symm
  obtain rfl := es_2.symm
  obtain rfl := et_2.symm
  refine lv_istore_n (lv' := [(3, .int (-1)), (0, .ref (E.2.2 + 199)), (1, .int i), (2, .int n)]) hx hb dX12_give_15 rfl hl (by decide) rfl (fun ls hl => ?_)
  refine lv_iload_n hx hb dX12_give_16 rfl (lv_at hl 0 rfl) ?_
  refine lv_if_ge (tgt := 24) hx hb dX12_give_17 (by decide) (fun h => absurd h (by decide)) (fun _ => ?_)
  refine lv_iload_n hx hb dX12_give_20 rfl (lv_at hl 0 rfl) ?_
  refine lv_goto (tgt := 29) hx hb dX12_give_21 (by decide) ?_
  exact gx_ri (post := fun r σ1 τ1 => r = (-1) ∧ True ∧ True) (v := (-1)) S hr hlk hw rfl dX12_give_29 ⟨rfl, trivial, trivial⟩
set_option maxHeartbeats 4000000 in
set_option maxRecDepth 100000 in
theorem c_m_run (l : Launch) {E : gE} (σ : gI) (τ : gJ) (n : Int32) (hm : ∀ c k : Nat, 199 ≤ c → σ c k = 0) : gx_Mi l yX12_run cX12_run 5 (some .int) 3 gx_tb E (σ) (τ) [.ref (E.2.2 + 199), .int n] (fun r σ1 τ1 => r = (if 0 ≤ n.toInt ∧ n.toInt ≤ 99 then 0 else (-1)) ∧ True ∧ True) := by
  refine gx_bi (by decide +kernel) (Nat.le_of_ble_eq_true rfl) ?_
  intro P9 e9 s m9 below meth C9 S hr hlk hK hw ls hl
  have S : CallFix P9 m9 C9 cX12_run 5 s _ gx_G RX12 := S
  have hx := S.1
  have hb := S.2.1
  have hl : lv_has ls 5 [(0, .ref (E.2.2 + 199)), (1, .int n)] := hl
  refine lv_aload_n hx hb dX12_run_0 rfl (lv_at hl 0 rfl) ?_
  refine lv_iconst (v := 0) hx hb dX12_run_1 (by decide) ?_
  refine gx_put S hK gx_ok hw t_199 cl_13 0 (by decide) rfl mw_1414 rfl rfl (ty := .int) (v := 0) (by decide +kernel) rfl rfl dX12_run_2 (fun H locs hw => ?_)
  refine lv_iload_n hx hb dX12_run_5 rfl (lv_at hl 1 rfl) ?_
  refine lv_i2l (v := n.toInt64) hx hb dX12_run_6 rfl ?_
  refine lv_lconst (v := 0) hx hb dX12_run_7 (by decide) ?_
  refine lv_ldc2 (v := 99) hx hb S.2.2.2.1 (S.2.2.2.2 _ mw_1857) dX12_run_8 ?_
  refine gx_cSi (As := [.long n.toInt64, .long 0, .long 99]) (rest := []) S hK gx_ok hw (c_in l (E := E) (up2 (σ) 199 0 0) (τ) n 0 99 0 99 (by first | rfl | decide | simp [up2, gs0, hm]) (by first | rfl | decide | simp [up2, gs0, hm])) cw_X12_129 ⟨Nat.le_of_ble_eq_true rfl, Nat.le_of_ble_eq_true rfl⟩ rfl hl.1 rfl (Nat.le_of_ble_eq_true rfl) ⟨Nat.le_of_ble_eq_true rfl, Nat.le_of_ble_eq_true rfl⟩ dX12_run_11 (fun r_1 σ_1 τ_1 H locs hp hw => ?_)
  obtain ⟨er_1, es_1, et_1⟩ := hp
  obtain rfl := er_1.symm
  obtain rfl := es_1.symm
  obtain rfl := et_1.symm
  by_cases c_2 : 0 ≤ n.toInt ∧ n.toInt ≤ 99
  · refine gx_top (v := 1) (if_pos c_2) ?_
    refine lv_if_ne (tgt := 19) hx hb dX12_run_14 (by decide) (fun _ => ?_) (fun h => absurd h (by decide))
    obtain ⟨j, hj, ej⟩ := gx_nat (M := 99) c_2.1 c_2.2
    refine lv_aload_n hx hb dX12_run_19 rfl (lv_at hl 0 rfl) ?_
    refine gx_cVv (As := []) (rest := []) S hK gx_ok hw (c_putsBy l (E := E) (up2 (σ) 199 0 0) (τ) (by first | rfl | decide | simp [up2, gs0, hm]) (fun k => by simp [up2, hm])) cw_X12_319 t_199 cl_13 ⟨Nat.le_of_ble_eq_true rfl, Nat.le_of_ble_eq_true rfl⟩ rfl hl.1 rfl (Nat.le_of_ble_eq_true rfl) ⟨Nat.le_of_ble_eq_true rfl, Nat.le_of_ble_eq_true rfl⟩ dX12_run_20 (fun σ_3 τ_3 H locs hp hw => ?_)
    obtain ⟨es_3, et_3⟩ := hp
    obtain rfl := es_3.symm
    obtain rfl := et_3.symm
    refine lv_aload_n hx hb dX12_run_23 rfl (lv_at hl 0 rfl) ?_
    refine gx_getr (j := 206) S hK hw t_199 cl_13 10 (by decide) rfl mw_1424 rfl dX12_run_24 ?_
    refine lv_iconst (v := 1) hx hb dX12_run_27 (by decide) ?_
    refine gx_cSi (As := [.ref (E.2.2 + 206), .int 1]) (rest := []) S hK gx_ok hw (c_thoseHow l (E := E) (up2 (σ) 199 0 0) (τ) 206 1 (by first | rfl | decide | simp [up2, gs0, hm]) (by first | rfl | decide | simp [up2, gs0, hm])) cw_X12_346 ⟨Nat.le_of_ble_eq_true rfl, Nat.le_of_ble_eq_true rfl⟩ rfl hl.1 rfl (Nat.le_of_ble_eq_true rfl) ⟨Nat.le_of_ble_eq_true rfl, Nat.le_of_ble_eq_true rfl⟩ dX12_run_28 (fun r_4 σ_4 τ_4 H locs hp hw => ?_)
    obtain ⟨er_4, es_4, et_4⟩ := hp
    obtain rfl := er_4.symm
    obtain rfl := es_4.symm
    obtain rfl := et_4.symm
    refine lv_istore_n (lv' := [(2, .int 0), (0, .ref (E.2.2 + 199)), (1, .int n)]) hx hb dX12_run_31 rfl hl (by decide) rfl (fun ls hl => ?_)
    refine lv_aload_n hx hb dX12_run_32 rfl (lv_at hl 1 rfl) ?_
    refine gx_getr (j := 206) S hK hw t_199 cl_13 10 (by decide) rfl mw_1424 rfl dX12_run_33 ?_
    refine lv_iconst (v := 2) hx hb dX12_run_36 (by decide) ?_
    refine gx_cSi (As := [.ref (E.2.2 + 206), .int 2]) (rest := []) S hK gx_ok hw (c_thoseHow l (E := E) (up2 (σ) 199 0 0) (τ) 206 2 (by first | rfl | decide | simp [up2, gs0, hm]) (by first | rfl | decide | simp [up2, gs0, hm])) cw_X12_346 ⟨Nat.le_of_ble_eq_true rfl, Nat.le_of_ble_eq_true rfl⟩ rfl hl.1 rfl (Nat.le_of_ble_eq_true rfl) ⟨Nat.le_of_ble_eq_true rfl, Nat.le_of_ble_eq_true rfl⟩ dX12_run_37 (fun r_5 σ_5 τ_5 H locs hp hw => ?_)
    obtain ⟨er_5, es_5, et_5⟩ := hp
    obtain rfl := er_5.symm
    obtain rfl := es_5.symm
    obtain rfl := et_5.symm
    refine lv_istore_n (lv' := [(3, .int 0), (2, .int 0), (0, .ref (E.2.2 + 199)), (1, .int n)]) hx hb dX12_run_40 rfl hl (by decide) rfl (fun ls hl => ?_)
    refine lv_iconst (v := 0) hx hb dX12_run_41 (by decide) ?_
    refine lv_istore (lv' := [(4, .int 0), (3, .int 0), (2, .int 0), (0, .ref (E.2.2 + 199)), (1, .int n)]) hx hb dX12_run_42 hl (by decide) rfl (fun ls hl => ?_)
    have loop_6 : ∀ (n6 : Nat) (i : Nat) (σ6 : gI) (H : Heap) (locs : List Loc) (ls : Array Slot), j - i < n6 → (i ≤ j) → (∀ c k : Nat, ¬ (c = 206 ∧ k = 43) → σ6 c k = (up2 σ 199 0 0) c k) → gx_W gx_tb (gx_tb).length E s (σ6) (τ) H locs → lv_has ls 5 [(0, .ref (E.2.2 + 199)), (1, .int n), (2, .int 0), (3, .int 0), (4, .int (nI i))] → W P9 l e9 (gx_rm 3) s m9 ([.ref (E.2.2 + 199), .int n] : List Value).toArray below meth C9 H locs 0 0 (MQ below (va_Qi (fun r (u : gI × gJ) => (fun r σ1 τ1 => r = (if 0 ≤ n.toInt ∧ n.toInt ≤ 99 then 0 else (-1)) ∧ True ∧ True) r u.1 u.2) (fun u t => gx_P gx_tb E u.1 u.2 t.heap) (gx_A (gx_tb).length E.2.2 s.heap.size)) ([.ref (E.2.2 + 199), .int n] : List Value).toArray s 0 0 (gx_A (gx_tb).length E.2.2 s.heap.size)) (F0 m9 44 ls []) := by
      intro n6
      induction n6 with
      | zero => intro i σ6 H locs ls hmz; exact absurd hmz (Nat.not_lt_zero _)
      | succ n6 ih_6 =>
        intro i σ6 H locs ls hmz hi hs_6 hw hl
        refine lv_iload hx hb dX12_run_44 (lv_at hl 4 rfl) ?_
        refine lv_iload_n hx hb dX12_run_46 rfl (lv_at hl 1 rfl) ?_
        refine lv_icmp_ge (tgt := 64) hx hb dX12_run_47 (by decide) (fun c_7 => ?_) (fun c_7 => ?_)
        · refine lv_aload_n hx hb dX12_run_64 rfl (lv_at hl 0 rfl) ?_
          refine lv_iconst (v := 0) hx hb dX12_run_65 (by decide) ?_
          refine gx_put S hK gx_ok hw t_199 cl_13 1 (by decide) rfl mw_1415 rfl rfl (ty := .int) (v := 0) (by decide +kernel) rfl rfl dX12_run_66 (fun H locs hw => ?_)
          refine lv_aload_n hx hb dX12_run_69 rfl (lv_at hl 0 rfl) ?_
          refine lv_aload_n hx hb dX12_run_70 rfl (lv_at hl 0 rfl) ?_
          refine gx_getr (j := 206) S hK hw t_199 cl_13 10 (by decide) rfl mw_1424 rfl dX12_run_71 ?_
          refine lv_iconst (v := 1) hx hb dX12_run_74 (by decide) ?_
          refine gx_cSi (As := [.ref (E.2.2 + 206), .int 1]) (rest := [.ref (E.2.2 + 199)]) S hK gx_ok hw (c_thoseHow l (E := E) (up2 (σ6) 199 1 0) (τ) 206 1 (by first | rfl | decide | simp [up2, gs0, hm, hs_6]) (by first | rfl | decide | simp [up2, gs0, hm, hs_6])) cw_X12_346 ⟨Nat.le_of_ble_eq_true rfl, Nat.le_of_ble_eq_true rfl⟩ rfl hl.1 rfl (Nat.le_of_ble_eq_true rfl) ⟨Nat.le_of_ble_eq_true rfl, Nat.le_of_ble_eq_true rfl⟩ dX12_run_75 (fun r_8 σ_8 τ_8 H locs hp hw => ?_)
          obtain ⟨er_8, es_8, et_8⟩ := hp
          obtain rfl := er_8.symm
          obtain rfl := es_8.symm
          obtain rfl := et_8.symm
          refine lv_iload_n hx hb dX12_run_78 rfl (lv_at hl 2 rfl) ?_
          refine lv_iconst (v := (-1)) hx hb dX12_run_79 (by decide) ?_
          refine lv_ixor hx hb dX12_run_80 ?_
          refine gx_top (v := (-1)) (by decide) ?_
          refine lv_iand hx hb dX12_run_81 ?_
          refine gx_top (v := 0) (by decide) ?_
          refine lv_i2l (v := 0) hx hb dX12_run_82 (by decide) ?_
          refine gx_cVv (As := [.long 0]) (rest := []) S hK gx_ok hw (c_enters0 l (E := E) (up2 (σ6) 199 1 0) (τ) 0 (by first | rfl | decide | simp [up2, gs0, hm, hs_6])) cw_X12_122 t_199 cl_13 ⟨Nat.le_of_ble_eq_true rfl, Nat.le_of_ble_eq_true rfl⟩ rfl hl.1 rfl (Nat.le_of_ble_eq_true rfl) ⟨Nat.le_of_ble_eq_true rfl, Nat.le_of_ble_eq_true rfl⟩ dX12_run_83 (fun σ_9 τ_9 H locs hp hw => ?_)
          obtain ⟨es_9, -⟩ := hp
          obtain rfl := es_9.symm
          refine lv_aload_n hx hb dX12_run_86 rfl (lv_at hl 0 rfl) ?_
          refine lv_aload_n hx hb dX12_run_87 rfl (lv_at hl 0 rfl) ?_
          refine gx_getr (j := 206) S hK hw t_199 cl_13 10 (by decide) rfl mw_1424 rfl dX12_run_88 ?_
          refine lv_iconst (v := 2) hx hb dX12_run_91 (by decide) ?_
          refine gx_cSi (As := [.ref (E.2.2 + 206), .int 2]) (rest := [.ref (E.2.2 + 199)]) S hK gx_ok hw (c_thoseHow l (E := E) (up2 (up2 (σ6) 199 1 0) 199 1 1) (τ_9) 206 2 (by first | rfl | decide | simp [up2, gs0, hm, hs_6]) (by first | rfl | decide | simp [up2, gs0, hm, hs_6])) cw_X12_346 ⟨Nat.le_of_ble_eq_true rfl, Nat.le_of_ble_eq_true rfl⟩ rfl hl.1 rfl (Nat.le_of_ble_eq_true rfl) ⟨Nat.le_of_ble_eq_true rfl, Nat.le_of_ble_eq_true rfl⟩ dX12_run_92 (fun r_10 σ_10 τ_10 H locs hp hw => ?_)
          obtain ⟨er_10, es_10, et_10⟩ := hp
          obtain rfl := er_10.symm
          obtain rfl := es_10.symm
          obtain rfl := et_10.symm
          refine lv_iload_n hx hb dX12_run_95 rfl (lv_at hl 3 rfl) ?_
          refine lv_iconst (v := (-1)) hx hb dX12_run_96 (by decide) ?_
          refine lv_ixor hx hb dX12_run_97 ?_
          refine gx_top (v := (-1)) (by decide) ?_
          refine lv_iand hx hb dX12_run_98 ?_
          refine gx_top (v := 0) (by decide) ?_
          refine lv_i2l (v := 0) hx hb dX12_run_99 (by decide) ?_
          refine gx_cVv (As := [.long 0]) (rest := []) S hK gx_ok hw (c_enters1 l (E := E) (up2 (up2 (σ6) 199 1 0) 199 1 1) (τ_9) 0 (by first | rfl | decide | simp [up2, gs0, hm, hs_6])) cw_X12_122 t_199 cl_13 ⟨Nat.le_of_ble_eq_true rfl, Nat.le_of_ble_eq_true rfl⟩ rfl hl.1 rfl (Nat.le_of_ble_eq_true rfl) ⟨Nat.le_of_ble_eq_true rfl, Nat.le_of_ble_eq_true rfl⟩ dX12_run_100 (fun σ_11 τ_11 H locs hp hw => ?_)
          obtain ⟨es_11, -⟩ := hp
          obtain rfl := es_11.symm
          refine lv_aload_n hx hb dX12_run_103 rfl (lv_at hl 0 rfl) ?_
          refine gx_getr (j := 206) S hK hw t_199 cl_13 10 (by decide) rfl mw_1424 rfl dX12_run_104 ?_
          refine lv_iconst (v := 1) hx hb dX12_run_107 (by decide) ?_
          refine gx_cSi (As := [.ref (E.2.2 + 206), .int 1]) (rest := []) S hK gx_ok hw (c_thoseHow l (E := E) (up2 (up2 (up2 (σ6) 199 1 0) 199 1 1) 199 1 2) (τ_11) 206 1 (by first | rfl | decide | simp [up2, gs0, hm, hs_6]) (by first | rfl | decide | simp [up2, gs0, hm, hs_6])) cw_X12_346 ⟨Nat.le_of_ble_eq_true rfl, Nat.le_of_ble_eq_true rfl⟩ rfl hl.1 rfl (Nat.le_of_ble_eq_true rfl) ⟨Nat.le_of_ble_eq_true rfl, Nat.le_of_ble_eq_true rfl⟩ dX12_run_108 (fun r_12 σ_12 τ_12 H locs hp hw => ?_)
          obtain ⟨er_12, es_12, et_12⟩ := hp
          obtain rfl := er_12.symm
          obtain rfl := es_12.symm
          obtain rfl := et_12.symm
          refine lv_iload_n hx hb dX12_run_111 rfl (lv_at hl 2 rfl) ?_
          refine lv_iconst (v := (-1)) hx hb dX12_run_112 (by decide) ?_
          refine lv_ixor hx hb dX12_run_113 ?_
          refine gx_top (v := (-1)) (by decide) ?_
          refine lv_iand hx hb dX12_run_114 ?_
          refine gx_top (v := 0) (by decide) ?_
          refine gx_cSi (As := [.int 0]) (rest := []) S hK gx_ok hw (c_bitCount0 l (E := E) (up2 (up2 (up2 (σ6) 199 1 0) 199 1 1) 199 1 2) (τ_11) ) cw_X12_353 ⟨Nat.le_of_ble_eq_true rfl, Nat.le_of_ble_eq_true rfl⟩ rfl hl.1 rfl (Nat.le_of_ble_eq_true rfl) ⟨Nat.le_of_ble_eq_true rfl, Nat.le_of_ble_eq_true rfl⟩ dX12_run_115 (fun r_13 σ_13 τ_13 H locs hp hw => ?_)
          obtain ⟨er_13, es_13, et_13⟩ := hp
          obtain rfl := er_13.symm
          obtain rfl := es_13.symm
          obtain rfl := et_13.symm
          refine lv_istore (lv' := [(4, .int 0), (0, .ref (E.2.2 + 199)), (1, .int n), (2, .int 0), (3, .int 0)]) hx hb dX12_run_118 hl (by decide) rfl (fun ls hl => ?_)
          refine lv_iload_n hx hb dX12_run_120 rfl (lv_at hl 2 rfl) ?_
          refine lv_if_le (tgt := 133) hx hb dX12_run_121 (by decide) (fun c_14 => ?_) (fun c_14 => ?_)
          · refine lv_iload hx hb dX12_run_133 (lv_at hl 0 rfl) ?_
            exact gx_ri (post := fun r σ1 τ1 => r = (if 0 ≤ n.toInt ∧ n.toInt ≤ 99 then 0 else (-1)) ∧ True ∧ True) (v := 0) S hr hlk hw rfl dX12_run_135 ⟨(by simp only [fa_lt, fa_le, fa_eq, show (0 : Int32).toInt = 0 from rfl] at c_7 c_14; exact (if_pos (by omega)).symm), trivial, trivial⟩
          · refine lv_aload_n hx hb dX12_run_124 rfl (lv_at hl 1 rfl) ?_
            refine lv_iload hx hb dX12_run_125 (lv_at hl 0 rfl) ?_
            refine gx_cVi (As := [.int 0]) (rest := []) S hK gx_ok hw (c_adds l (E := E) (up2 (up2 (up2 (σ6) 199 1 0) 199 1 1) 199 1 2) (τ_11) 0 (by first | rfl | decide | simp [up2, gs0, hm, hs_6])) cw_X12_322 t_199 cl_13 ⟨Nat.le_of_ble_eq_true rfl, Nat.le_of_ble_eq_true rfl⟩ rfl hl.1 rfl (Nat.le_of_ble_eq_true rfl) ⟨Nat.le_of_ble_eq_true rfl, Nat.le_of_ble_eq_true rfl⟩ dX12_run_127 (fun r_15 σ_15 τ_15 H locs hp hw => ?_)
            obtain ⟨er_15, es_15, et_15⟩ := hp
            obtain rfl := er_15.symm
            obtain rfl := es_15.symm
            obtain rfl := et_15.symm
            refine lv_goto (tgt := 135) hx hb dX12_run_130 (by decide) ?_
            exact gx_ri (post := fun r σ1 τ1 => r = (if 0 ≤ n.toInt ∧ n.toInt ≤ 99 then 0 else (-1)) ∧ True ∧ True) (v := 0) S hr hlk hw rfl dX12_run_135 ⟨(by simp only [fa_lt, fa_le, fa_eq, show (0 : Int32).toInt = 0 from rfl] at c_7 c_14; exact (if_pos (by omega)).symm), trivial, trivial⟩
        · have hlt : i < j := gx_ilt (k := j) ej (by omega) c_7
          refine lv_aload_n hx hb dX12_run_50 rfl (lv_at hl 0 rfl) ?_
          refine lv_aload_n hx hb dX12_run_51 rfl (lv_at hl 0 rfl) ?_
          refine gx_getr (j := 206) S hK hw t_199 cl_13 10 (by decide) rfl mw_1424 rfl dX12_run_52 ?_
          refine gx_cVv (As := [.ref (E.2.2 + 206)]) (rest := []) S hK gx_ok hw (c_minuteGoes l (E := E) (σ6) (τ) 206 (by first | rfl | decide | simp [up2, gs0, hm, hs_6]) (by first | rfl | decide | simp [up2, gs0, hm, hs_6]) (by first | rfl | decide | simp [up2, gs0, hm, hs_6]) (by first | rfl | decide | simp [up2, gs0, hm, hs_6]) (by first | rfl | decide | simp [up2, gs0, hm, hs_6])) cw_X12_349 t_199 cl_13 ⟨Nat.le_of_ble_eq_true rfl, Nat.le_of_ble_eq_true rfl⟩ rfl hl.1 rfl (Nat.le_of_ble_eq_true rfl) ⟨Nat.le_of_ble_eq_true rfl, Nat.le_of_ble_eq_true rfl⟩ dX12_run_55 (fun σ_16 τ_16 H locs hp hw => ?_)
          obtain ⟨hs_16, et_16⟩ := hp
          obtain rfl := et_16.symm
          refine lv_iinc (v := nI (i + 1)) (lv' := [(4, .int (nI (i + 1))), (0, .ref (E.2.2 + 199)), (1, .int n), (2, .int 0), (3, .int 0)]) hx hb dX12_run_58 hl (k := 4) rfl (nI_1 _) (by decide) rfl (fun ls hl => ?_)
          refine lv_goto (tgt := 44) hx hb dX12_run_61 (by decide) ?_
          exact ih_6 (i + 1) (σ_16) _ _ _ (by omega) (by omega) (fun c9 k9 h9_0 => by simp [up2, upJ, h9_0, hs_6, hs_16]) hw (lv_sub hl [1, 2, 3, 4, 0] rfl)
    exact loop_6 (j + 1) 0 ((up2 (σ) 199 0 0)) _ _ _ (by omega) (by omega) (fun c9 k9 h9_0 => by simp [up2, upJ, h9_0]) hw (lv_sub hl [3, 4, 2, 1, 0] rfl)
  · refine gx_top (v := 0) ((if_neg c_2).trans (rfl)) ?_
    refine lv_if_ne (tgt := 19) hx hb dX12_run_14 (by decide) (fun h => absurd (by decide) h) (fun _ => ?_)
    refine lv_iconst (v := (-1)) hx hb dX12_run_17 (by decide) ?_
    exact gx_ri (post := fun r σ1 τ1 => r = (if 0 ≤ n.toInt ∧ n.toInt ≤ 99 then 0 else (-1)) ∧ True ∧ True) (v := (-1)) S hr hlk hw rfl dX12_run_18 ⟨(by exact ((if_neg (by omega)).trans (rfl)).symm), trivial, trivial⟩
set_option maxHeartbeats 4000000 in
set_option maxRecDepth 100000 in
theorem c_m_day (l : Launch) {E : gE} (σ : gI) (τ : gJ)  (hm : ∀ c k : Nat, 199 ≤ c → σ c k = 0) : gx_Mi l yX12_day cX12_day 6 (some .int) 2 gx_tb E (σ) (τ) [.ref (E.2.2 + 199)] (fun r σ1 τ1 => r = 0 ∧ True ∧ True) := by
  refine gx_bi (by decide +kernel) (Nat.le_of_ble_eq_true rfl) ?_
  intro P9 e9 s m9 below meth C9 S hr hlk hK hw ls hl
  have S : CallFix P9 m9 C9 cX12_day 6 s _ gx_G RX12 := S
  have hx := S.1
  have hb := S.2.1
  have hl : lv_has ls 6 [(0, .ref (E.2.2 + 199))] := hl
  refine lv_aload_n hx hb dX12_day_0 rfl (lv_at hl 0 rfl) ?_
  refine lv_iconst (v := 0) hx hb dX12_day_1 (by decide) ?_
  refine gx_put S hK gx_ok hw t_199 cl_13 0 (by decide) rfl mw_1414 rfl rfl (ty := .int) (v := 0) (by decide +kernel) rfl rfl dX12_day_2 (fun H locs hw => ?_)
  refine lv_aload_n hx hb dX12_day_5 rfl (lv_at hl 0 rfl) ?_
  refine lv_bipush (v := 60) hx hb dX12_day_6 (by decide) ?_
  refine gx_cVi (As := [.int 60]) (rest := []) S hK gx_ok hw (c_begins60 l (E := E) (up2 (σ) 199 0 0) (τ) (by first | rfl | decide | simp [up2, gs0, hm])) cw_X12_203 t_199 cl_13 ⟨Nat.le_of_ble_eq_true rfl, Nat.le_of_ble_eq_true rfl⟩ rfl hl.1 rfl (Nat.le_of_ble_eq_true rfl) ⟨Nat.le_of_ble_eq_true rfl, Nat.le_of_ble_eq_true rfl⟩ dX12_day_8 (fun r_1 σ_1 τ_1 H locs hp hw => ?_)
  obtain ⟨er_1, es_1, et_1⟩ := hp
  obtain rfl := er_1.symm
  obtain rfl := es_1.symm
  obtain rfl := et_1.symm
  refine lv_istore_n (lv' := [(1, .int 0), (0, .ref (E.2.2 + 199))]) hx hb dX12_day_11 rfl hl (by decide) rfl (fun ls hl => ?_)
  refine lv_aload_n hx hb dX12_day_12 rfl (lv_at hl 1 rfl) ?_
  refine lv_iconst (v := 0) hx hb dX12_day_13 (by decide) ?_
  refine gx_put S hK gx_ok hw t_199 cl_13 42 (by decide) rfl mw_1456 rfl rfl (ty := .int) (v := 0) (by decide +kernel) rfl rfl dX12_day_14 (fun H locs hw => ?_)
  refine lv_iconst (v := 1) hx hb dX12_day_17 (by decide) ?_
  refine lv_istore_n (lv' := [(2, .int 1), (1, .int 0), (0, .ref (E.2.2 + 199))]) hx hb dX12_day_18 rfl hl (by decide) rfl (fun ls hl => ?_)
  refine lv_iload_n hx hb dX12_day_19 rfl (lv_at hl 1 rfl) ?_
  refine lv_if_le (tgt := 27) hx hb dX12_day_20 (by decide) (fun _ => ?_) (fun h => absurd (by decide) h)
  refine lv_iconst (v := 0) hx hb dX12_day_27 (by decide) ?_
  refine lv_istore_n (lv' := [(3, .int 0), (2, .int 1), (1, .int 0), (0, .ref (E.2.2 + 199))]) hx hb dX12_day_28 rfl hl (by decide) rfl (fun ls hl => ?_)
  refine lv_iload_n hx hb dX12_day_29 rfl (lv_at hl 0 rfl) ?_
  refine lv_if_eq (tgt := 60) hx hb dX12_day_30 (by decide) (fun _ => ?_) (fun h => absurd (by decide) h)
  refine lv_aload_n hx hb dX12_day_60 rfl (lv_at hl 3 rfl) ?_
  refine lv_iload_n hx hb dX12_day_61 rfl (lv_at hl 2 rfl) ?_
  refine lv_bipush (v := 60) hx hb dX12_day_62 (by decide) ?_
  refine lv_iload_n hx hb dX12_day_64 rfl (lv_at hl 1 rfl) ?_
  refine gx_cVi (As := [.int 0, .int 60, .int 1]) (rest := []) S hK gx_ok hw (c_faultOf60 l (E := E) (up2 (up2 (up2 (up2 (up2 ((up2 (σ) 199 0 0)) 199 13 0) 199 14 0) 199 16 0) 199 15 0) 199 42 0) (τ) (by first | rfl | decide | simp [up2, gs0, hm]) (by first | rfl | decide | simp [up2, gs0, hm])) cw_X12_213 t_199 cl_13 ⟨Nat.le_of_ble_eq_true rfl, Nat.le_of_ble_eq_true rfl⟩ rfl hl.1 rfl (Nat.le_of_ble_eq_true rfl) ⟨Nat.le_of_ble_eq_true rfl, Nat.le_of_ble_eq_true rfl⟩ dX12_day_65 (fun r_2 σ_2 τ_2 H locs hp hw => ?_)
  obtain ⟨er_2, es_2, et_2⟩ := hp
  obtain rfl := er_2.symm
  obtain rfl := es_2.symm
  obtain rfl := et_2.symm
  refine lv_istore (lv' := [(4, .int 0), (3, .int 0), (2, .int 1), (1, .int 0), (0, .ref (E.2.2 + 199))]) hx hb dX12_day_68 hl (by decide) rfl (fun ls hl => ?_)
  refine lv_iload hx hb dX12_day_70 (lv_at hl 0 rfl) ?_
  refine lv_if_ge (tgt := 78) hx hb dX12_day_72 (by decide) (fun _ => ?_) (fun h => absurd (by decide) h)
  refine lv_aload_n hx hb dX12_day_78 rfl (lv_at hl 4 rfl) ?_
  refine gx_cVv (As := []) (rest := []) S hK gx_ok hw (c_putsBy l (E := E) (up2 (up2 (up2 (up2 (up2 ((up2 (σ) 199 0 0)) 199 13 0) 199 14 0) 199 16 0) 199 15 0) 199 42 0) (τ) (by first | rfl | decide | simp [up2, gs0, hm]) (fun k => by simp [up2, hm])) cw_X12_319 t_199 cl_13 ⟨Nat.le_of_ble_eq_true rfl, Nat.le_of_ble_eq_true rfl⟩ rfl hl.1 rfl (Nat.le_of_ble_eq_true rfl) ⟨Nat.le_of_ble_eq_true rfl, Nat.le_of_ble_eq_true rfl⟩ dX12_day_79 (fun σ_3 τ_3 H locs hp hw => ?_)
  obtain ⟨es_3, et_3⟩ := hp
  obtain rfl := es_3.symm
  obtain rfl := et_3.symm
  refine lv_aload_n hx hb dX12_day_82 rfl (lv_at hl 4 rfl) ?_
  refine lv_iconst (v := 0) hx hb dX12_day_83 (by decide) ?_
  refine gx_put S hK gx_ok hw t_199 cl_13 43 (by decide) rfl mw_1457 rfl rfl (ty := .int) (v := 0) (by decide +kernel) rfl rfl dX12_day_84 (fun H locs hw => ?_)
  refine lv_iconst (v := 0) hx hb dX12_day_87 (by decide) ?_
  refine lv_istore (lv' := [(5, .int 0), (4, .int 0), (3, .int 0), (2, .int 1), (1, .int 0), (0, .ref (E.2.2 + 199))]) hx hb dX12_day_88 hl (by decide) rfl (fun ls hl => ?_)
  refine lv_iload hx hb dX12_day_90 (lv_at hl 0 rfl) ?_
  refine lv_aload_n hx hb dX12_day_92 rfl (lv_at hl 5 rfl) ?_
  refine gx_get S hK hw t_199 cl_13 42 (by decide) rfl mw_1456 rfl dX12_day_93 ?_
  refine gx_top (v := 0) (by first | rfl | decide | simp [up2, gs0, hm]) ?_
  refine lv_icmp_ge (tgt := 114) hx hb dX12_day_96 (by decide) (fun _ => ?_) (fun h => absurd (by decide) h)
  refine lv_aload_n hx hb dX12_day_114 rfl (lv_at hl 5 rfl) ?_
  refine lv_iconst (v := 0) hx hb dX12_day_115 (by decide) ?_
  refine gx_put S hK gx_ok hw t_199 cl_13 1 (by decide) rfl mw_1415 rfl rfl (ty := .int) (v := 0) (by decide +kernel) rfl rfl dX12_day_116 (fun H locs hw => ?_)
  refine lv_aload_n hx hb dX12_day_119 rfl (lv_at hl 5 rfl) ?_
  refine lv_iload hx hb dX12_day_120 (lv_at hl 0 rfl) ?_
  refine lv_aload_n hx hb dX12_day_122 rfl (lv_at hl 5 rfl) ?_
  refine gx_get S hK hw t_199 cl_13 42 (by decide) rfl mw_1456 rfl dX12_day_123 ?_
  refine gx_top (v := 0) (by first | rfl | decide | simp [up2, gs0, hm]) ?_
  refine lv_icmp_ge (tgt := 133) hx hb dX12_day_126 (by decide) (fun _ => ?_) (fun h => absurd (by decide) h)
  refine lv_iconst (v := 0) hx hb dX12_day_133 (by decide) ?_
  refine gx_cSi (As := [.int 0]) (rest := [.ref (E.2.2 + 199)]) S hK gx_ok hw (c_flag0 l (E := E) (up2 (up2 (up2 (up2 (up2 (up2 (up2 ((up2 (σ) 199 0 0)) 199 13 0) 199 14 0) 199 16 0) 199 15 0) 199 42 0) 199 43 0) 199 1 0) (τ) ) cw_X12_155 ⟨Nat.le_of_ble_eq_true rfl, Nat.le_of_ble_eq_true rfl⟩ rfl hl.1 rfl (Nat.le_of_ble_eq_true rfl) ⟨Nat.le_of_ble_eq_true rfl, Nat.le_of_ble_eq_true rfl⟩ dX12_day_134 (fun r_4 σ_4 τ_4 H locs hp hw => ?_)
  obtain ⟨er_4, es_4, et_4⟩ := hp
  obtain rfl := er_4.symm
  obtain rfl := es_4.symm
  obtain rfl := et_4.symm
  refine lv_i2l (v := 0) hx hb dX12_day_137 (by decide) ?_
  refine gx_cVv (As := [.long 0]) (rest := []) S hK gx_ok hw (c_enters0 l (E := E) (up2 (up2 (up2 (up2 (up2 (up2 (up2 ((up2 (σ) 199 0 0)) 199 13 0) 199 14 0) 199 16 0) 199 15 0) 199 42 0) 199 43 0) 199 1 0) (τ) 0 (by first | rfl | decide | simp [up2, gs0, hm])) cw_X12_122 t_199 cl_13 ⟨Nat.le_of_ble_eq_true rfl, Nat.le_of_ble_eq_true rfl⟩ rfl hl.1 rfl (Nat.le_of_ble_eq_true rfl) ⟨Nat.le_of_ble_eq_true rfl, Nat.le_of_ble_eq_true rfl⟩ dX12_day_138 (fun σ_5 τ_5 H locs hp hw => ?_)
  obtain ⟨es_5, -⟩ := hp
  obtain rfl := es_5.symm
  refine lv_aload_n hx hb dX12_day_141 rfl (lv_at hl 5 rfl) ?_
  refine lv_aload_n hx hb dX12_day_142 rfl (lv_at hl 5 rfl) ?_
  refine gx_get S hK hw t_199 cl_13 43 (by decide) rfl mw_1457 rfl dX12_day_143 ?_
  refine gx_top (v := 0) (by first | rfl | decide | simp [up2, gs0, hm]) ?_
  refine lv_i2l (v := 0) hx hb dX12_day_146 (by decide) ?_
  refine gx_cVv (As := [.long 0]) (rest := []) S hK gx_ok hw (c_enters1 l (E := E) (up2 (up2 (up2 (up2 (up2 (up2 (up2 (up2 ((up2 (σ) 199 0 0)) 199 13 0) 199 14 0) 199 16 0) 199 15 0) 199 42 0) 199 43 0) 199 1 0) 199 1 1) (τ_5) 0 (by first | rfl | decide | simp [up2, gs0, hm])) cw_X12_122 t_199 cl_13 ⟨Nat.le_of_ble_eq_true rfl, Nat.le_of_ble_eq_true rfl⟩ rfl hl.1 rfl (Nat.le_of_ble_eq_true rfl) ⟨Nat.le_of_ble_eq_true rfl, Nat.le_of_ble_eq_true rfl⟩ dX12_day_147 (fun σ_6 τ_6 H locs hp hw => ?_)
  obtain ⟨es_6, -⟩ := hp
  obtain rfl := es_6.symm
  refine lv_iload hx hb dX12_day_150 (lv_at hl 0 rfl) ?_
  refine lv_if_le (tgt := 164) hx hb dX12_day_152 (by decide) (fun _ => ?_) (fun h => absurd (by decide) h)
  refine lv_iconst (v := 0) hx hb dX12_day_164 (by decide) ?_
  exact gx_ri (post := fun r σ1 τ1 => r = 0 ∧ True ∧ True) (v := 0) S hr hlk hw rfl dX12_day_165 ⟨rfl, trivial, trivial⟩
set_option maxHeartbeats 4000000 in
set_option maxRecDepth 100000 in
theorem c_m_undo (l : Launch) {E : gE} (σ : gI) (τ : gJ)  (hm : ∀ c k : Nat, 199 ≤ c → σ c k = 0) : gx_Mi l yX12_undo cX12_undo 2 (some .int) 0 gx_tb E (σ) (τ) [.ref (E.2.2 + 199)] (fun r σ1 τ1 => r = (-1) ∧ True ∧ True) := by
  refine gx_bi (by decide +kernel) (Nat.le_of_ble_eq_true rfl) ?_
  intro P9 e9 s m9 below meth C9 S hr hlk hK hw ls hl
  have S : CallFix P9 m9 C9 cX12_undo 2 s _ gx_G RX12 := S
  have hx := S.1
  have hb := S.2.1
  have hl : lv_has ls 2 [(0, .ref (E.2.2 + 199))] := hl
  refine lv_aload_n hx hb dX12_undo_0 rfl (lv_at hl 0 rfl) ?_
  refine lv_iconst (v := 0) hx hb dX12_undo_1 (by decide) ?_
  refine gx_put S hK gx_ok hw t_199 cl_13 0 (by decide) rfl mw_1414 rfl rfl (ty := .int) (v := 0) (by decide +kernel) rfl rfl dX12_undo_2 (fun H locs hw => ?_)
  refine lv_aload_n hx hb dX12_undo_5 rfl (lv_at hl 0 rfl) ?_
  refine gx_get S hK hw t_199 cl_13 36 (by decide) rfl mw_1450 rfl dX12_undo_6 ?_
  refine gx_top (v := 0) (by first | rfl | decide | simp [up2, gs0, hm]) ?_
  refine lv_if_ne (tgt := 14) hx hb dX12_undo_9 (by decide) (fun h => absurd (by decide) h) (fun _ => ?_)
  refine lv_iconst (v := (-1)) hx hb dX12_undo_12 (by decide) ?_
  exact gx_ri (post := fun r σ1 τ1 => r = (-1) ∧ True ∧ True) (v := (-1)) S hr hlk hw rfl dX12_undo_13 ⟨rfl, trivial, trivial⟩
set_option maxHeartbeats 4000000 in
set_option maxRecDepth 100000 in
theorem c_m_where (l : Launch) {E : gE} (σ : gI) (τ : gJ) (i n : Int32) (hm : ∀ c k : Nat, 199 ≤ c → σ c k = 0) : gx_Mi l yX12_where cX12_where 3 (some .int) 2 gx_tb E (σ) (τ) [.ref (E.2.2 + 199), .int i, .int n] (fun r σ1 τ1 => r = (-1) ∧ True ∧ True) := by
  refine gx_bi (by decide +kernel) (Nat.le_of_ble_eq_true rfl) ?_
  intro P9 e9 s m9 below meth C9 S hr hlk hK hw ls hl
  have S : CallFix P9 m9 C9 cX12_where 3 s _ gx_G RX12 := S
  have hx := S.1
  have hb := S.2.1
  have hl : lv_has ls 3 [(0, .ref (E.2.2 + 199)), (1, .int i), (2, .int n)] := hl
  refine lv_aload_n hx hb dX12_where_0 rfl (lv_at hl 0 rfl) ?_
  refine lv_iconst (v := 0) hx hb dX12_where_1 (by decide) ?_
  refine gx_put S hK gx_ok hw t_199 cl_13 0 (by decide) rfl mw_1414 rfl rfl (ty := .int) (v := 0) (by decide +kernel) rfl rfl dX12_where_2 (fun H locs hw => ?_)
  refine lv_aload_n hx hb dX12_where_5 rfl (lv_at hl 0 rfl) ?_
  refine lv_iload_n hx hb dX12_where_6 rfl (lv_at hl 1 rfl) ?_
  refine gx_cVi (As := [.int i]) (rest := []) S hK gx_ok hw (c_isThing l (E := E) (up2 (σ) 199 0 0) (τ) i (by first | rfl | decide | simp [up2, gs0, hm])) cw_X12_309 t_199 cl_13 ⟨Nat.le_of_ble_eq_true rfl, Nat.le_of_ble_eq_true rfl⟩ rfl hl.1 rfl (Nat.le_of_ble_eq_true rfl) ⟨Nat.le_of_ble_eq_true rfl, Nat.le_of_ble_eq_true rfl⟩ dX12_where_7 (fun r_1 σ_1 τ_1 H locs hp hw => ?_)
  obtain ⟨er_1, es_1, et_1⟩ := hp
  obtain rfl := er_1.symm
  obtain rfl := es_1.symm
  obtain rfl := et_1.symm
  refine lv_if_eq (tgt := 25) hx hb dX12_where_10 (by decide) (fun _ => ?_) (fun h => absurd (by decide) h)
  refine lv_iconst (v := (-1)) hx hb dX12_where_25 (by decide) ?_
  exact gx_ri (post := fun r σ1 τ1 => r = (-1) ∧ True ∧ True) (v := (-1)) S hr hlk hw rfl dX12_where_26 ⟨rfl, trivial, trivial⟩
set_option maxHeartbeats 4000000 in
set_option maxRecDepth 100000 in
theorem c_m_comes (l : Launch) {E : gE} (σ : gI) (τ : gJ) (i : Int32) (hm : ∀ c k : Nat, 199 ≤ c → σ c k = 0) : gx_Mi l yX12_comes cX12_comes 4 (some .int) 2 gx_tb E (σ) (τ) [.ref (E.2.2 + 199), .int i] (fun r σ1 τ1 => r = (-1) ∧ True ∧ True) := by
  refine gx_bi (by decide +kernel) (Nat.le_of_ble_eq_true rfl) ?_
  intro P9 e9 s m9 below meth C9 S hr hlk hK hw ls hl
  have S : CallFix P9 m9 C9 cX12_comes 4 s _ gx_G RX12 := S
  have hx := S.1
  have hb := S.2.1
  have hl : lv_has ls 4 [(0, .ref (E.2.2 + 199)), (1, .int i)] := hl
  refine lv_aload_n hx hb dX12_comes_0 rfl (lv_at hl 0 rfl) ?_
  refine lv_iconst (v := 0) hx hb dX12_comes_1 (by decide) ?_
  refine gx_put S hK gx_ok hw t_199 cl_13 0 (by decide) rfl mw_1414 rfl rfl (ty := .int) (v := 0) (by decide +kernel) rfl rfl dX12_comes_2 (fun H locs hw => ?_)
  refine lv_aload_n hx hb dX12_comes_5 rfl (lv_at hl 0 rfl) ?_
  refine lv_iload_n hx hb dX12_comes_6 rfl (lv_at hl 1 rfl) ?_
  refine gx_cVi (As := [.int i]) (rest := []) S hK gx_ok hw (c_isThing l (E := E) (up2 (σ) 199 0 0) (τ) i (by first | rfl | decide | simp [up2, gs0, hm])) cw_X12_309 t_199 cl_13 ⟨Nat.le_of_ble_eq_true rfl, Nat.le_of_ble_eq_true rfl⟩ rfl hl.1 rfl (Nat.le_of_ble_eq_true rfl) ⟨Nat.le_of_ble_eq_true rfl, Nat.le_of_ble_eq_true rfl⟩ dX12_comes_7 (fun r_1 σ_1 τ_1 H locs hp hw => ?_)
  obtain ⟨er_1, es_1, et_1⟩ := hp
  obtain rfl := er_1.symm
  obtain rfl := es_1.symm
  obtain rfl := et_1.symm
  refine lv_if_ne (tgt := 15) hx hb dX12_comes_10 (by decide) (fun h => absurd (by decide) h) (fun _ => ?_)
  refine lv_iconst (v := (-1)) hx hb dX12_comes_13 (by decide) ?_
  exact gx_ri (post := fun r σ1 τ1 => r = (-1) ∧ True ∧ True) (v := (-1)) S hr hlk hw rfl dX12_comes_14 ⟨rfl, trivial, trivial⟩
set_option maxHeartbeats 4000000 in
set_option maxRecDepth 100000 in
theorem c_m_lost (l : Launch) {E : gE} (σ : gI) (τ : gJ) (n : Int32) (hm : ∀ c k : Nat, 199 ≤ c → σ c k = 0) : gx_Mi l yX12_lost cX12_lost 6 (some .int) 3 gx_tb E (σ) (τ) [.ref (E.2.2 + 199), .int n] (fun r σ1 τ1 => r = (if 0 ≤ n.toInt ∧ n.toInt ≤ 300 then (-2) else (-1)) ∧ True ∧ True) := by
  refine gx_bi (by decide +kernel) (Nat.le_of_ble_eq_true rfl) ?_
  intro P9 e9 s m9 below meth C9 S hr hlk hK hw ls hl
  have S : CallFix P9 m9 C9 cX12_lost 6 s _ gx_G RX12 := S
  have hx := S.1
  have hb := S.2.1
  have hl : lv_has ls 6 [(0, .ref (E.2.2 + 199)), (1, .int n)] := hl
  refine lv_aload_n hx hb dX12_lost_0 rfl (lv_at hl 0 rfl) ?_
  refine lv_iconst (v := 0) hx hb dX12_lost_1 (by decide) ?_
  refine gx_put S hK gx_ok hw t_199 cl_13 0 (by decide) rfl mw_1414 rfl rfl (ty := .int) (v := 0) (by decide +kernel) rfl rfl dX12_lost_2 (fun H locs hw => ?_)
  refine lv_iload_n hx hb dX12_lost_5 rfl (lv_at hl 1 rfl) ?_
  refine lv_i2l (v := n.toInt64) hx hb dX12_lost_6 rfl ?_
  refine lv_lconst (v := 0) hx hb dX12_lost_7 (by decide) ?_
  refine lv_ldc2 (v := 300) hx hb S.2.2.2.1 (S.2.2.2.2 _ mw_1927) dX12_lost_8 ?_
  refine gx_cSi (As := [.long n.toInt64, .long 0, .long 300]) (rest := []) S hK gx_ok hw (c_in l (E := E) (up2 (σ) 199 0 0) (τ) n 0 300 0 300 (by first | rfl | decide | simp [up2, gs0, hm]) (by first | rfl | decide | simp [up2, gs0, hm])) cw_X12_129 ⟨Nat.le_of_ble_eq_true rfl, Nat.le_of_ble_eq_true rfl⟩ rfl hl.1 rfl (Nat.le_of_ble_eq_true rfl) ⟨Nat.le_of_ble_eq_true rfl, Nat.le_of_ble_eq_true rfl⟩ dX12_lost_11 (fun r_1 σ_1 τ_1 H locs hp hw => ?_)
  obtain ⟨er_1, es_1, et_1⟩ := hp
  obtain rfl := er_1.symm
  obtain rfl := es_1.symm
  obtain rfl := et_1.symm
  by_cases c_2 : 0 ≤ n.toInt ∧ n.toInt ≤ 300
  · refine gx_top (v := 1) (if_pos c_2) ?_
    refine lv_if_ne (tgt := 19) hx hb dX12_lost_14 (by decide) (fun _ => ?_) (fun h => absurd h (by decide))
    obtain ⟨j, hj, ej⟩ := gx_nat (M := 300) c_2.1 c_2.2
    refine lv_aload_n hx hb dX12_lost_19 rfl (lv_at hl 0 rfl) ?_
    refine gx_getr (j := 206) S hK hw t_199 cl_13 10 (by decide) rfl mw_1424 rfl dX12_lost_20 ?_
    refine lv_aload_n hx hb dX12_lost_23 rfl (lv_at hl 0 rfl) ?_
    refine gx_getr (j := 207) S hK hw t_199 cl_13 11 (by decide) rfl mw_1425 rfl dX12_lost_24 ?_
    refine gx_cSv (As := [.ref (E.2.2 + 206), .ref (E.2.2 + 207)]) (rest := []) S hK gx_ok hw (c_puts l (E := E) (up2 (σ) 199 0 0) (τ) (fun k => by simp [up2, hm])) cw_X12_374 ⟨Nat.le_of_ble_eq_true rfl, Nat.le_of_ble_eq_true rfl⟩ rfl hl.1 rfl (Nat.le_of_ble_eq_true rfl) ⟨Nat.le_of_ble_eq_true rfl, Nat.le_of_ble_eq_true rfl⟩ dX12_lost_27 (fun σ_3 τ_3 H locs hp hw => ?_)
    obtain ⟨es_3, et_3⟩ := hp
    obtain rfl := es_3.symm
    obtain rfl := et_3.symm
    refine lv_aload_n hx hb dX12_lost_30 rfl (lv_at hl 0 rfl) ?_
    refine gx_getr (j := 207) S hK hw t_199 cl_13 11 (by decide) rfl mw_1425 rfl dX12_lost_31 ?_
    refine lv_iconst (v := 2) hx hb dX12_lost_34 (by decide) ?_
    refine gx_cSi (As := [.ref (E.2.2 + 207), .int 2]) (rest := []) S hK gx_ok hw (c_thoseHow l (E := E) (up2 (σ) 199 0 0) (τ) 207 2 (by first | rfl | decide | simp [up2, gs0, hm]) (by first | rfl | decide | simp [up2, gs0, hm])) cw_X12_346 ⟨Nat.le_of_ble_eq_true rfl, Nat.le_of_ble_eq_true rfl⟩ rfl hl.1 rfl (Nat.le_of_ble_eq_true rfl) ⟨Nat.le_of_ble_eq_true rfl, Nat.le_of_ble_eq_true rfl⟩ dX12_lost_35 (fun r_4 σ_4 τ_4 H locs hp hw => ?_)
    obtain ⟨er_4, es_4, et_4⟩ := hp
    obtain rfl := er_4.symm
    obtain rfl := es_4.symm
    obtain rfl := et_4.symm
    refine lv_istore_n (lv' := [(2, .int 0), (0, .ref (E.2.2 + 199)), (1, .int n)]) hx hb dX12_lost_38 rfl hl (by decide) rfl (fun ls hl => ?_)
    refine lv_iconst (v := 1) hx hb dX12_lost_39 (by decide) ?_
    refine lv_istore_n (lv' := [(3, .int 1), (2, .int 0), (0, .ref (E.2.2 + 199)), (1, .int n)]) hx hb dX12_lost_40 rfl hl (by decide) rfl (fun ls hl => ?_)
    have loop_5 : ∀ (n5 : Nat) (i : Nat) (σ5 : gI) (H : Heap) (locs : List Loc) (ls : Array Slot), j - i < n5 → (i ≤ j) → (∀ c k : Nat, ¬ (c = 207 ∧ k = 43) → σ5 c k = (up2 σ 199 0 0) c k) → gx_W gx_tb (gx_tb).length E s (σ5) (τ) H locs → lv_has ls 6 [(0, .ref (E.2.2 + 199)), (1, .int n), (2, .int 0), (3, .int (nI (i + 1)))] → W P9 l e9 (gx_rm 3) s m9 ([.ref (E.2.2 + 199), .int n] : List Value).toArray below meth C9 H locs 0 0 (MQ below (va_Qi (fun r (u : gI × gJ) => (fun r σ1 τ1 => r = (if 0 ≤ n.toInt ∧ n.toInt ≤ 300 then (-2) else (-1)) ∧ True ∧ True) r u.1 u.2) (fun u t => gx_P gx_tb E u.1 u.2 t.heap) (gx_A (gx_tb).length E.2.2 s.heap.size)) ([.ref (E.2.2 + 199), .int n] : List Value).toArray s 0 0 (gx_A (gx_tb).length E.2.2 s.heap.size)) (F0 m9 41 ls []) := by
      intro n5
      induction n5 with
      | zero => intro i σ5 H locs ls hmz; exact absurd hmz (Nat.not_lt_zero _)
      | succ n5 ih_5 =>
        intro i σ5 H locs ls hmz hi hs_5 hw hl
        refine lv_iload_n hx hb dX12_lost_41 rfl (lv_at hl 3 rfl) ?_
        refine lv_iload_n hx hb dX12_lost_42 rfl (lv_at hl 1 rfl) ?_
        refine lv_icmp_gt (tgt := 117) hx hb dX12_lost_43 (by decide) (fun c_6 => ?_) (fun c_6 => ?_)
        · refine lv_bipush (v := (-2)) hx hb dX12_lost_117 (by decide) ?_
          exact gx_ri (post := fun r σ1 τ1 => r = (if 0 ≤ n.toInt ∧ n.toInt ≤ 300 then (-2) else (-1)) ∧ True ∧ True) (v := (-2)) S hr hlk hw rfl dX12_lost_119 ⟨(by simp only [fa_lt, fa_le, fa_eq, show (1 : Int32).toInt = 1 from rfl] at c_6; exact (if_pos (by omega)).symm), trivial, trivial⟩
        · have hlt : i + 1 ≤ j := gx_inl (k := j) ej (by omega) (by omega) c_6
          refine lv_aload_n hx hb dX12_lost_46 rfl (lv_at hl 0 rfl) ?_
          refine lv_aload_n hx hb dX12_lost_47 rfl (lv_at hl 0 rfl) ?_
          refine gx_getr (j := 207) S hK hw t_199 cl_13 11 (by decide) rfl mw_1425 rfl dX12_lost_48 ?_
          refine gx_cVv (As := [.ref (E.2.2 + 207)]) (rest := []) S hK gx_ok hw (c_minuteGoes l (E := E) (σ5) (τ) 207 (by first | rfl | decide | simp [up2, gs0, hm, hs_5]) (by first | rfl | decide | simp [up2, gs0, hm, hs_5]) (by first | rfl | decide | simp [up2, gs0, hm, hs_5]) (by first | rfl | decide | simp [up2, gs0, hm, hs_5]) (by first | rfl | decide | simp [up2, gs0, hm, hs_5])) cw_X12_349 t_199 cl_13 ⟨Nat.le_of_ble_eq_true rfl, Nat.le_of_ble_eq_true rfl⟩ rfl hl.1 rfl (Nat.le_of_ble_eq_true rfl) ⟨Nat.le_of_ble_eq_true rfl, Nat.le_of_ble_eq_true rfl⟩ dX12_lost_51 (fun σ_7 τ_7 H locs hp hw => ?_)
          obtain ⟨hs_7, et_7⟩ := hp
          obtain rfl := et_7.symm
          refine lv_aload_n hx hb dX12_lost_54 rfl (lv_at hl 0 rfl) ?_
          refine gx_getr (j := 207) S hK hw t_199 cl_13 11 (by decide) rfl mw_1425 rfl dX12_lost_55 ?_
          refine lv_iconst (v := 2) hx hb dX12_lost_58 (by decide) ?_
          refine gx_cSi (As := [.ref (E.2.2 + 207), .int 2]) (rest := []) S hK gx_ok hw (c_thoseHow l (E := E) (σ_7) (τ) 207 2 (by first | rfl | decide | simp [up2, gs0, hm, hs_5, hs_7]) (by first | rfl | decide | simp [up2, gs0, hm, hs_5, hs_7])) cw_X12_346 ⟨Nat.le_of_ble_eq_true rfl, Nat.le_of_ble_eq_true rfl⟩ rfl hl.1 rfl (Nat.le_of_ble_eq_true rfl) ⟨Nat.le_of_ble_eq_true rfl, Nat.le_of_ble_eq_true rfl⟩ dX12_lost_59 (fun r_8 σ_8 τ_8 H locs hp hw => ?_)
          obtain ⟨er_8, es_8, et_8⟩ := hp
          obtain rfl := er_8.symm
          obtain rfl := es_8.symm
          obtain rfl := et_8.symm
          refine lv_iload_n hx hb dX12_lost_62 rfl (lv_at hl 2 rfl) ?_
          refine lv_iconst (v := (-1)) hx hb dX12_lost_63 (by decide) ?_
          refine lv_ixor hx hb dX12_lost_64 ?_
          refine gx_top (v := (-1)) (by decide) ?_
          refine lv_iand hx hb dX12_lost_65 ?_
          refine gx_top (v := 0) (by decide) ?_
          refine lv_istore (lv' := [(4, .int 0), (0, .ref (E.2.2 + 199)), (1, .int n), (2, .int 0), (3, .int (nI (i + 1)))]) hx hb dX12_lost_66 hl (by decide) rfl (fun ls hl => ?_)
          refine lv_iload hx hb dX12_lost_68 (lv_at hl 0 rfl) ?_
          refine lv_if_eq (tgt := 111) hx hb dX12_lost_70 (by decide) (fun _ => ?_) (fun h => absurd (by decide) h)
          refine lv_iinc (v := nI ((i + 1) + 1)) (lv' := [(3, .int (nI ((i + 1) + 1))), (4, .int 0), (0, .ref (E.2.2 + 199)), (1, .int n), (2, .int 0)]) hx hb dX12_lost_111 hl (k := 4) rfl (nI_1 _) (by decide) rfl (fun ls hl => ?_)
          refine lv_goto (tgt := 41) hx hb dX12_lost_114 (by decide) ?_
          exact ih_5 (i + 1) ((σ_7)) _ _ _ (by omega) (by omega) (fun c9 k9 h9_0 => by simp [up2, upJ, h9_0, hs_5, hs_7]) hw (lv_sub hl [2, 3, 4, 0] rfl)
    exact loop_5 (j + 1) 0 ((up2 (σ) 199 0 0)) _ _ _ (by omega) (by omega) (fun c9 k9 h9_0 => by simp [up2, upJ, h9_0]) hw (lv_sub hl [2, 3, 1, 0] rfl)
  · refine gx_top (v := 0) ((if_neg c_2).trans (rfl)) ?_
    refine lv_if_ne (tgt := 19) hx hb dX12_lost_14 (by decide) (fun h => absurd (by decide) h) (fun _ => ?_)
    refine lv_iconst (v := (-1)) hx hb dX12_lost_17 (by decide) ?_
    exact gx_ri (post := fun r σ1 τ1 => r = (if 0 ≤ n.toInt ∧ n.toInt ≤ 300 then (-2) else (-1)) ∧ True ∧ True) (v := (-1)) S hr hlk hw rfl dX12_lost_18 ⟨(by exact ((if_neg (by omega)).trans (rfl)).symm), trivial, trivial⟩
set_option maxHeartbeats 4000000 in
set_option maxRecDepth 100000 in
theorem c_m_homes (l : Launch) {E : gE} (σ : gI) (τ : gJ) (n : Int32) (hm : ∀ c k : Nat, 199 ≤ c → σ c k = 0) : gx_Mi l yX12_homes cX12_homes 2 (some .int) 4 gx_tb E (σ) (τ) [.ref (E.2.2 + 199), .int n] (fun r σ1 τ1 => r = (if 0 ≤ n.toInt ∧ n.toInt ≤ 300 then 0 else (-1)) ∧ True ∧ True) := by
  refine gx_bi (by decide +kernel) (Nat.le_of_ble_eq_true rfl) ?_
  intro P9 e9 s m9 below meth C9 S hr hlk hK hw ls hl
  have S : CallFix P9 m9 C9 cX12_homes 2 s _ gx_G RX12 := S
  have hx := S.1
  have hb := S.2.1
  have hl : lv_has ls 2 [(0, .ref (E.2.2 + 199)), (1, .int n)] := hl
  refine lv_aload_n hx hb dX12_homes_0 rfl (lv_at hl 0 rfl) ?_
  refine lv_iconst (v := 0) hx hb dX12_homes_1 (by decide) ?_
  refine gx_put S hK gx_ok hw t_199 cl_13 0 (by decide) rfl mw_1414 rfl rfl (ty := .int) (v := 0) (by decide +kernel) rfl rfl dX12_homes_2 (fun H locs hw => ?_)
  refine lv_iload_n hx hb dX12_homes_5 rfl (lv_at hl 1 rfl) ?_
  refine lv_i2l (v := n.toInt64) hx hb dX12_homes_6 rfl ?_
  refine lv_lconst (v := 0) hx hb dX12_homes_7 (by decide) ?_
  refine lv_ldc2 (v := 300) hx hb S.2.2.2.1 (S.2.2.2.2 _ mw_1927) dX12_homes_8 ?_
  refine gx_cSi (As := [.long n.toInt64, .long 0, .long 300]) (rest := []) S hK gx_ok hw (c_in l (E := E) (up2 (σ) 199 0 0) (τ) n 0 300 0 300 (by first | rfl | decide | simp [up2, gs0, hm]) (by first | rfl | decide | simp [up2, gs0, hm])) cw_X12_129 ⟨Nat.le_of_ble_eq_true rfl, Nat.le_of_ble_eq_true rfl⟩ rfl hl.1 rfl (Nat.le_of_ble_eq_true rfl) ⟨Nat.le_of_ble_eq_true rfl, Nat.le_of_ble_eq_true rfl⟩ dX12_homes_11 (fun r_1 σ_1 τ_1 H locs hp hw => ?_)
  obtain ⟨er_1, es_1, et_1⟩ := hp
  obtain rfl := er_1.symm
  obtain rfl := es_1.symm
  obtain rfl := et_1.symm
  by_cases c_2 : 0 ≤ n.toInt ∧ n.toInt ≤ 300
  · refine gx_top (v := 1) (if_pos c_2) ?_
    refine lv_if_ne (tgt := 19) hx hb dX12_homes_14 (by decide) (fun _ => ?_) (fun h => absurd h (by decide))
    obtain ⟨j, hj, ej⟩ := gx_nat (M := 300) c_2.1 c_2.2
    refine lv_aload_n hx hb dX12_homes_19 rfl (lv_at hl 0 rfl) ?_
    refine lv_iload_n hx hb dX12_homes_20 rfl (lv_at hl 1 rfl) ?_
    refine gx_top (v := nI j) ej ?_
    refine gx_cVv (As := [.int (nI j)]) (rest := []) S hK gx_ok hw (c_goesOn l (E := E) (up2 (σ) 199 0 0) (τ) j (by first | rfl | decide | simp [up2, gs0, hm]) (by first | rfl | decide | simp [up2, gs0, hm]) (by first | rfl | decide | simp [up2, gs0, hm]) (by first | rfl | decide | simp [up2, gs0, hm]) (by first | rfl | decide | simp [up2, gs0, hm]) hj (fun k => by simp [up2, hm])) cw_X12_380 t_199 cl_13 ⟨Nat.le_of_ble_eq_true rfl, Nat.le_of_ble_eq_true rfl⟩ rfl hl.1 rfl (Nat.le_of_ble_eq_true rfl) ⟨Nat.le_of_ble_eq_true rfl, Nat.le_of_ble_eq_true rfl⟩ dX12_homes_21 (fun σ_3 τ_3 H locs hp hw => ?_)
    obtain ⟨hs_3, et_3⟩ := hp
    obtain rfl := et_3.symm
    refine lv_aload_n hx hb dX12_homes_24 rfl (lv_at hl 0 rfl) ?_
    refine lv_iconst (v := 0) hx hb dX12_homes_25 (by decide) ?_
    refine gx_put S hK gx_ok hw t_199 cl_13 1 (by decide) rfl mw_1415 rfl rfl (ty := .int) (v := 0) (by decide +kernel) rfl rfl dX12_homes_26 (fun H locs hw => ?_)
    refine lv_aload_n hx hb dX12_homes_29 rfl (lv_at hl 0 rfl) ?_
    refine lv_aload_n hx hb dX12_homes_30 rfl (lv_at hl 0 rfl) ?_
    refine gx_getr (j := 207) S hK hw t_199 cl_13 11 (by decide) rfl mw_1425 rfl dX12_homes_31 ?_
    refine lv_iconst (v := 2) hx hb dX12_homes_34 (by decide) ?_
    refine gx_cSi (As := [.ref (E.2.2 + 207), .int 2]) (rest := [.ref (E.2.2 + 199)]) S hK gx_ok hw (c_thoseHow l (E := E) (up2 (σ_3) 199 1 0) (τ) 207 2 (by first | rfl | decide | simp [up2, gs0, hm, hs_3]) (by first | rfl | decide | simp [up2, gs0, hm, hs_3])) cw_X12_346 ⟨Nat.le_of_ble_eq_true rfl, Nat.le_of_ble_eq_true rfl⟩ rfl hl.1 rfl (Nat.le_of_ble_eq_true rfl) ⟨Nat.le_of_ble_eq_true rfl, Nat.le_of_ble_eq_true rfl⟩ dX12_homes_35 (fun r_4 σ_4 τ_4 H locs hp hw => ?_)
    obtain ⟨er_4, es_4, et_4⟩ := hp
    obtain rfl := er_4.symm
    obtain rfl := es_4.symm
    obtain rfl := et_4.symm
    refine lv_i2l (v := 0) hx hb dX12_homes_38 (by decide) ?_
    refine gx_cVv (As := [.long 0]) (rest := []) S hK gx_ok hw (c_enters0 l (E := E) (up2 (σ_3) 199 1 0) (τ) 0 (by first | rfl | decide | simp [up2, gs0, hm, hs_3])) cw_X12_122 t_199 cl_13 ⟨Nat.le_of_ble_eq_true rfl, Nat.le_of_ble_eq_true rfl⟩ rfl hl.1 rfl (Nat.le_of_ble_eq_true rfl) ⟨Nat.le_of_ble_eq_true rfl, Nat.le_of_ble_eq_true rfl⟩ dX12_homes_39 (fun σ_5 τ_5 H locs hp hw => ?_)
    obtain ⟨es_5, -⟩ := hp
    obtain rfl := es_5.symm
    refine lv_aload_n hx hb dX12_homes_42 rfl (lv_at hl 0 rfl) ?_
    refine lv_aload_n hx hb dX12_homes_43 rfl (lv_at hl 0 rfl) ?_
    refine gx_getr (j := 207) S hK hw t_199 cl_13 11 (by decide) rfl mw_1425 rfl dX12_homes_44 ?_
    refine lv_iconst (v := 0) hx hb dX12_homes_47 (by decide) ?_
    refine gx_cSi (As := [.ref (E.2.2 + 207), .int 0]) (rest := [.ref (E.2.2 + 199)]) S hK gx_ok hw (c_thoseHow l (E := E) (up2 (up2 (σ_3) 199 1 0) 199 1 1) (τ_5) 207 0 (by first | rfl | decide | simp [up2, gs0, hm, hs_3]) (by first | rfl | decide | simp [up2, gs0, hm, hs_3])) cw_X12_346 ⟨Nat.le_of_ble_eq_true rfl, Nat.le_of_ble_eq_true rfl⟩ rfl hl.1 rfl (Nat.le_of_ble_eq_true rfl) ⟨Nat.le_of_ble_eq_true rfl, Nat.le_of_ble_eq_true rfl⟩ dX12_homes_48 (fun r_6 σ_6 τ_6 H locs hp hw => ?_)
    obtain ⟨er_6, es_6, et_6⟩ := hp
    obtain rfl := er_6.symm
    obtain rfl := es_6.symm
    obtain rfl := et_6.symm
    refine lv_i2l (v := 0) hx hb dX12_homes_51 (by decide) ?_
    refine gx_cVv (As := [.long 0]) (rest := []) S hK gx_ok hw (c_enters1 l (E := E) (up2 (up2 (σ_3) 199 1 0) 199 1 1) (τ_5) 0 (by first | rfl | decide | simp [up2, gs0, hm, hs_3])) cw_X12_122 t_199 cl_13 ⟨Nat.le_of_ble_eq_true rfl, Nat.le_of_ble_eq_true rfl⟩ rfl hl.1 rfl (Nat.le_of_ble_eq_true rfl) ⟨Nat.le_of_ble_eq_true rfl, Nat.le_of_ble_eq_true rfl⟩ dX12_homes_52 (fun σ_7 τ_7 H locs hp hw => ?_)
    obtain ⟨es_7, -⟩ := hp
    obtain rfl := es_7.symm
    refine lv_aload_n hx hb dX12_homes_55 rfl (lv_at hl 0 rfl) ?_
    refine gx_getr (j := 207) S hK hw t_199 cl_13 11 (by decide) rfl mw_1425 rfl dX12_homes_56 ?_
    refine lv_iconst (v := 1) hx hb dX12_homes_59 (by decide) ?_
    refine gx_cSi (As := [.ref (E.2.2 + 207), .int 1]) (rest := []) S hK gx_ok hw (c_thoseHow l (E := E) (up2 (up2 (up2 (σ_3) 199 1 0) 199 1 1) 199 1 2) (τ_7) 207 1 (by first | rfl | decide | simp [up2, gs0, hm, hs_3]) (by first | rfl | decide | simp [up2, gs0, hm, hs_3])) cw_X12_346 ⟨Nat.le_of_ble_eq_true rfl, Nat.le_of_ble_eq_true rfl⟩ rfl hl.1 rfl (Nat.le_of_ble_eq_true rfl) ⟨Nat.le_of_ble_eq_true rfl, Nat.le_of_ble_eq_true rfl⟩ dX12_homes_60 (fun r_8 σ_8 τ_8 H locs hp hw => ?_)
    obtain ⟨er_8, es_8, et_8⟩ := hp
    obtain rfl := er_8.symm
    obtain rfl := es_8.symm
    obtain rfl := et_8.symm
    exact gx_ri (post := fun r σ1 τ1 => r = (if 0 ≤ n.toInt ∧ n.toInt ≤ 300 then 0 else (-1)) ∧ True ∧ True) (v := 0) S hr hlk hw rfl dX12_homes_63 ⟨(by exact (if_pos (by omega)).symm), trivial, trivial⟩
  · refine gx_top (v := 0) ((if_neg c_2).trans (rfl)) ?_
    refine lv_if_ne (tgt := 19) hx hb dX12_homes_14 (by decide) (fun h => absurd (by decide) h) (fun _ => ?_)
    refine lv_iconst (v := (-1)) hx hb dX12_homes_17 (by decide) ?_
    exact gx_ri (post := fun r σ1 τ1 => r = (if 0 ≤ n.toInt ∧ n.toInt ≤ 300 then 0 else (-1)) ∧ True ∧ True) (v := (-1)) S hr hlk hw rfl dX12_homes_18 ⟨(by exact ((if_neg (by omega)).trans (rfl)).symm), trivial, trivial⟩
set_option maxHeartbeats 4000000 in
set_option maxRecDepth 100000 in
theorem c_m_sail (l : Launch) {E : gE} (σ : gI) (τ : gJ) (p b n w t : Int32) (hm : ∀ c k : Nat, 199 ≤ c → σ c k = 0) : gx_Mi l yX12_sail cX12_sail 6 (some .int) 4 gx_tb E (σ) (τ) [.ref (E.2.2 + 199), .int p, .int b, .int n, .int w, .int t] (fun r σ1 τ1 => r = (-1) ∧ True ∧ True) := by
  refine gx_bi (by decide +kernel) (Nat.le_of_ble_eq_true rfl) ?_
  intro P9 e9 s m9 below meth C9 S hr hlk hK hw ls hl
  have S : CallFix P9 m9 C9 cX12_sail 6 s _ gx_G RX12 := S
  have hx := S.1
  have hb := S.2.1
  have hl : lv_has ls 6 [(0, .ref (E.2.2 + 199)), (1, .int p), (2, .int b), (3, .int n), (4, .int w), (5, .int t)] := hl
  refine lv_aload_n hx hb dX12_sail_0 rfl (lv_at hl 0 rfl) ?_
  refine lv_iconst (v := 0) hx hb dX12_sail_1 (by decide) ?_
  refine gx_put S hK gx_ok hw t_199 cl_13 0 (by decide) rfl mw_1414 rfl rfl (ty := .int) (v := 0) (by decide +kernel) rfl rfl dX12_sail_2 (fun H locs hw => ?_)
  refine lv_aload_n hx hb dX12_sail_5 rfl (lv_at hl 0 rfl) ?_
  refine lv_iload_n hx hb dX12_sail_6 rfl (lv_at hl 1 rfl) ?_
  refine lv_iload_n hx hb dX12_sail_7 rfl (lv_at hl 2 rfl) ?_
  refine lv_iload_n hx hb dX12_sail_8 rfl (lv_at hl 3 rfl) ?_
  refine lv_iload hx hb dX12_sail_9 (lv_at hl 5 rfl) ?_
  refine gx_cVi (As := [.int p, .int b, .int n, .int t]) (rest := []) S hK gx_ok hw (c_canSail l (E := E) (up2 (σ) 199 0 0) (τ) p b n t (by first | rfl | decide | simp [up2, gs0, hm])) cw_X12_405 t_199 cl_13 ⟨Nat.le_of_ble_eq_true rfl, Nat.le_of_ble_eq_true rfl⟩ rfl hl.1 rfl (Nat.le_of_ble_eq_true rfl) ⟨Nat.le_of_ble_eq_true rfl, Nat.le_of_ble_eq_true rfl⟩ dX12_sail_11 (fun r_1 σ_1 τ_1 H locs hp hw => ?_)
  obtain ⟨er_1, es_1, et_1⟩ := hp
  obtain rfl := er_1.symm
  obtain rfl := es_1.symm
  obtain rfl := et_1.symm
  refine lv_if_eq (tgt := 30) hx hb dX12_sail_14 (by decide) (fun _ => ?_) (fun h => absurd (by decide) h)
  refine lv_iconst (v := (-1)) hx hb dX12_sail_30 (by decide) ?_
  exact gx_ri (post := fun r σ1 τ1 => r = (-1) ∧ True ∧ True) (v := (-1)) S hr hlk hw rfl dX12_sail_31 ⟨rfl, trivial, trivial⟩
set_option maxHeartbeats 4000000 in
set_option maxRecDepth 100000 in
theorem c_m_soonest (l : Launch) {E : gE} (σ : gI) (τ : gJ) (b n t : Int32) (hm : ∀ c k : Nat, 199 ≤ c → σ c k = 0) : gx_Mi l yX12_soonest cX12_soonest 10 (some .int) 4 gx_tb E (σ) (τ) [.ref (E.2.2 + 199), .int b, .int n, .int t] (fun r σ1 τ1 => r = (-1) ∧ True ∧ True) := by
  refine gx_bi (by decide +kernel) (Nat.le_of_ble_eq_true rfl) ?_
  intro P9 e9 s m9 below meth C9 S hr hlk hK hw ls hl
  have S : CallFix P9 m9 C9 cX12_soonest 10 s _ gx_G RX12 := S
  have hx := S.1
  have hb := S.2.1
  have hl : lv_has ls 10 [(0, .ref (E.2.2 + 199)), (1, .int b), (2, .int n), (3, .int t)] := hl
  refine lv_aload_n hx hb dX12_soonest_0 rfl (lv_at hl 0 rfl) ?_
  refine lv_iconst (v := 0) hx hb dX12_soonest_1 (by decide) ?_
  refine gx_put S hK gx_ok hw t_199 cl_13 0 (by decide) rfl mw_1414 rfl rfl (ty := .int) (v := 0) (by decide +kernel) rfl rfl dX12_soonest_2 (fun H locs hw => ?_)
  refine lv_aload_n hx hb dX12_soonest_5 rfl (lv_at hl 0 rfl) ?_
  refine lv_iconst (v := 0) hx hb dX12_soonest_6 (by decide) ?_
  refine lv_iload_n hx hb dX12_soonest_7 rfl (lv_at hl 1 rfl) ?_
  refine lv_iload_n hx hb dX12_soonest_8 rfl (lv_at hl 2 rfl) ?_
  refine lv_iload_n hx hb dX12_soonest_9 rfl (lv_at hl 3 rfl) ?_
  refine gx_cVi (As := [.int 0, .int b, .int n, .int t]) (rest := []) S hK gx_ok hw (c_canSail l (E := E) (up2 (σ) 199 0 0) (τ) 0 b n t (by first | rfl | decide | simp [up2, gs0, hm])) cw_X12_405 t_199 cl_13 ⟨Nat.le_of_ble_eq_true rfl, Nat.le_of_ble_eq_true rfl⟩ rfl hl.1 rfl (Nat.le_of_ble_eq_true rfl) ⟨Nat.le_of_ble_eq_true rfl, Nat.le_of_ble_eq_true rfl⟩ dX12_soonest_10 (fun r_1 σ_1 τ_1 H locs hp hw => ?_)
  obtain ⟨er_1, es_1, et_1⟩ := hp
  obtain rfl := er_1.symm
  obtain rfl := es_1.symm
  obtain rfl := et_1.symm
  refine lv_if_ne (tgt := 18) hx hb dX12_soonest_13 (by decide) (fun h => absurd (by decide) h) (fun _ => ?_)
  refine lv_iconst (v := (-1)) hx hb dX12_soonest_16 (by decide) ?_
  exact gx_ri (post := fun r σ1 τ1 => r = (-1) ∧ True ∧ True) (v := (-1)) S hr hlk hw rfl dX12_soonest_17 ⟨rfl, trivial, trivial⟩
set_option maxHeartbeats 4000000 in
set_option maxRecDepth 100000 in
theorem c_m_basin (l : Launch) {E : gE} (σ : gI) (τ : gJ) (b n t : Int32) (hm : ∀ c k : Nat, 199 ≤ c → σ c k = 0) : gx_Mi l yX12_basin cX12_basin 8 (some .int) 4 gx_tb E (σ) (τ) [.ref (E.2.2 + 199), .int b, .int n, .int t] (fun r σ1 τ1 => r = (-1) ∧ True ∧ True) := by
  refine gx_bi (by decide +kernel) (Nat.le_of_ble_eq_true rfl) ?_
  intro P9 e9 s m9 below meth C9 S hr hlk hK hw ls hl
  have S : CallFix P9 m9 C9 cX12_basin 8 s _ gx_G RX12 := S
  have hx := S.1
  have hb := S.2.1
  have hl : lv_has ls 8 [(0, .ref (E.2.2 + 199)), (1, .int b), (2, .int n), (3, .int t)] := hl
  refine lv_aload_n hx hb dX12_basin_0 rfl (lv_at hl 0 rfl) ?_
  refine lv_iconst (v := 0) hx hb dX12_basin_1 (by decide) ?_
  refine gx_put S hK gx_ok hw t_199 cl_13 0 (by decide) rfl mw_1414 rfl rfl (ty := .int) (v := 0) (by decide +kernel) rfl rfl dX12_basin_2 (fun H locs hw => ?_)
  refine lv_aload_n hx hb dX12_basin_5 rfl (lv_at hl 0 rfl) ?_
  refine lv_iconst (v := 0) hx hb dX12_basin_6 (by decide) ?_
  refine lv_iload_n hx hb dX12_basin_7 rfl (lv_at hl 1 rfl) ?_
  refine lv_iload_n hx hb dX12_basin_8 rfl (lv_at hl 2 rfl) ?_
  refine lv_iload_n hx hb dX12_basin_9 rfl (lv_at hl 3 rfl) ?_
  refine gx_cVi (As := [.int 0, .int b, .int n, .int t]) (rest := []) S hK gx_ok hw (c_canSail l (E := E) (up2 (σ) 199 0 0) (τ) 0 b n t (by first | rfl | decide | simp [up2, gs0, hm])) cw_X12_405 t_199 cl_13 ⟨Nat.le_of_ble_eq_true rfl, Nat.le_of_ble_eq_true rfl⟩ rfl hl.1 rfl (Nat.le_of_ble_eq_true rfl) ⟨Nat.le_of_ble_eq_true rfl, Nat.le_of_ble_eq_true rfl⟩ dX12_basin_10 (fun r_1 σ_1 τ_1 H locs hp hw => ?_)
  obtain ⟨er_1, es_1, et_1⟩ := hp
  obtain rfl := er_1.symm
  obtain rfl := es_1.symm
  obtain rfl := et_1.symm
  refine lv_if_ne (tgt := 18) hx hb dX12_basin_13 (by decide) (fun h => absurd (by decide) h) (fun _ => ?_)
  refine lv_iconst (v := (-1)) hx hb dX12_basin_16 (by decide) ?_
  exact gx_ri (post := fun r σ1 τ1 => r = (-1) ∧ True ∧ True) (v := (-1)) S hr hlk hw rfl dX12_basin_17 ⟨rfl, trivial, trivial⟩
set_option maxHeartbeats 4000000 in
set_option maxRecDepth 100000 in
theorem c_m_boat (l : Launch) {E : gE} (σ : gI) (τ : gJ) (p n t : Int32) (hm : ∀ c k : Nat, 199 ≤ c → σ c k = 0) : gx_Mi l yX12_boat cX12_boat 6 (some .int) 4 gx_tb E (σ) (τ) [.ref (E.2.2 + 199), .int p, .int n, .int t] (fun r σ1 τ1 => r = (-1) ∧ True ∧ True) := by
  refine gx_bi (by decide +kernel) (Nat.le_of_ble_eq_true rfl) ?_
  intro P9 e9 s m9 below meth C9 S hr hlk hK hw ls hl
  have S : CallFix P9 m9 C9 cX12_boat 6 s _ gx_G RX12 := S
  have hx := S.1
  have hb := S.2.1
  have hl : lv_has ls 6 [(0, .ref (E.2.2 + 199)), (1, .int p), (2, .int n), (3, .int t)] := hl
  refine lv_aload_n hx hb dX12_boat_0 rfl (lv_at hl 0 rfl) ?_
  refine lv_iconst (v := 0) hx hb dX12_boat_1 (by decide) ?_
  refine gx_put S hK gx_ok hw t_199 cl_13 0 (by decide) rfl mw_1414 rfl rfl (ty := .int) (v := 0) (by decide +kernel) rfl rfl dX12_boat_2 (fun H locs hw => ?_)
  refine lv_aload_n hx hb dX12_boat_5 rfl (lv_at hl 0 rfl) ?_
  refine lv_iload_n hx hb dX12_boat_6 rfl (lv_at hl 1 rfl) ?_
  refine lv_iconst (v := 0) hx hb dX12_boat_7 (by decide) ?_
  refine lv_iload_n hx hb dX12_boat_8 rfl (lv_at hl 2 rfl) ?_
  refine lv_iload_n hx hb dX12_boat_9 rfl (lv_at hl 3 rfl) ?_
  refine gx_cVi (As := [.int p, .int 0, .int n, .int t]) (rest := []) S hK gx_ok hw (c_canSail l (E := E) (up2 (σ) 199 0 0) (τ) p 0 n t (by first | rfl | decide | simp [up2, gs0, hm])) cw_X12_405 t_199 cl_13 ⟨Nat.le_of_ble_eq_true rfl, Nat.le_of_ble_eq_true rfl⟩ rfl hl.1 rfl (Nat.le_of_ble_eq_true rfl) ⟨Nat.le_of_ble_eq_true rfl, Nat.le_of_ble_eq_true rfl⟩ dX12_boat_10 (fun r_1 σ_1 τ_1 H locs hp hw => ?_)
  obtain ⟨er_1, es_1, et_1⟩ := hp
  obtain rfl := er_1.symm
  obtain rfl := es_1.symm
  obtain rfl := et_1.symm
  refine lv_if_ne (tgt := 18) hx hb dX12_boat_13 (by decide) (fun h => absurd (by decide) h) (fun _ => ?_)
  refine lv_iconst (v := (-1)) hx hb dX12_boat_16 (by decide) ?_
  exact gx_ri (post := fun r σ1 τ1 => r = (-1) ∧ True ∧ True) (v := (-1)) S hr hlk hw rfl dX12_boat_17 ⟨rfl, trivial, trivial⟩
set_option maxHeartbeats 4000000 in
set_option maxRecDepth 100000 in
theorem c_m_coins (l : Launch) {E : gE} (σ : gI) (τ : gJ) (p b t : Int32) (hm : ∀ c k : Nat, 199 ≤ c → σ c k = 0) : gx_Mi l yX12_coins cX12_coins 6 (some .int) 4 gx_tb E (σ) (τ) [.ref (E.2.2 + 199), .int p, .int b, .int t] (fun r σ1 τ1 => r = (-1) ∧ True ∧ True) := by
  refine gx_bi (by decide +kernel) (Nat.le_of_ble_eq_true rfl) ?_
  intro P9 e9 s m9 below meth C9 S hr hlk hK hw ls hl
  have S : CallFix P9 m9 C9 cX12_coins 6 s _ gx_G RX12 := S
  have hx := S.1
  have hb := S.2.1
  have hl : lv_has ls 6 [(0, .ref (E.2.2 + 199)), (1, .int p), (2, .int b), (3, .int t)] := hl
  refine lv_aload_n hx hb dX12_coins_0 rfl (lv_at hl 0 rfl) ?_
  refine lv_iconst (v := 0) hx hb dX12_coins_1 (by decide) ?_
  refine gx_put S hK gx_ok hw t_199 cl_13 0 (by decide) rfl mw_1414 rfl rfl (ty := .int) (v := 0) (by decide +kernel) rfl rfl dX12_coins_2 (fun H locs hw => ?_)
  refine lv_aload_n hx hb dX12_coins_5 rfl (lv_at hl 0 rfl) ?_
  refine lv_iload_n hx hb dX12_coins_6 rfl (lv_at hl 1 rfl) ?_
  refine lv_iload_n hx hb dX12_coins_7 rfl (lv_at hl 2 rfl) ?_
  refine lv_iconst (v := 0) hx hb dX12_coins_8 (by decide) ?_
  refine lv_iload_n hx hb dX12_coins_9 rfl (lv_at hl 3 rfl) ?_
  refine gx_cVi (As := [.int p, .int b, .int 0, .int t]) (rest := []) S hK gx_ok hw (c_canSail l (E := E) (up2 (σ) 199 0 0) (τ) p b 0 t (by first | rfl | decide | simp [up2, gs0, hm])) cw_X12_405 t_199 cl_13 ⟨Nat.le_of_ble_eq_true rfl, Nat.le_of_ble_eq_true rfl⟩ rfl hl.1 rfl (Nat.le_of_ble_eq_true rfl) ⟨Nat.le_of_ble_eq_true rfl, Nat.le_of_ble_eq_true rfl⟩ dX12_coins_10 (fun r_1 σ_1 τ_1 H locs hp hw => ?_)
  obtain ⟨er_1, es_1, et_1⟩ := hp
  obtain rfl := er_1.symm
  obtain rfl := es_1.symm
  obtain rfl := et_1.symm
  refine lv_if_ne (tgt := 18) hx hb dX12_coins_13 (by decide) (fun h => absurd (by decide) h) (fun _ => ?_)
  refine lv_iconst (v := (-1)) hx hb dX12_coins_16 (by decide) ?_
  exact gx_ri (post := fun r σ1 τ1 => r = (-1) ∧ True ∧ True) (v := (-1)) S hr hlk hw rfl dX12_coins_17 ⟨rfl, trivial, trivial⟩
set_option maxHeartbeats 4000000 in
set_option maxRecDepth 100000 in
theorem c_m_waits (l : Launch) {E : gE} (σ : gI) (τ : gJ) (p b n t : Int32) (hm : ∀ c k : Nat, 199 ≤ c → σ c k = 0) : gx_Mi l yX12_waits cX12_waits 11 (some .int) 4 gx_tb E (σ) (τ) [.ref (E.2.2 + 199), .int p, .int b, .int n, .int t] (fun r σ1 τ1 => r = (-1) ∧ True ∧ True) := by
  refine gx_bi (by decide +kernel) (Nat.le_of_ble_eq_true rfl) ?_
  intro P9 e9 s m9 below meth C9 S hr hlk hK hw ls hl
  have S : CallFix P9 m9 C9 cX12_waits 11 s _ gx_G RX12 := S
  have hx := S.1
  have hb := S.2.1
  have hl : lv_has ls 11 [(0, .ref (E.2.2 + 199)), (1, .int p), (2, .int b), (3, .int n), (4, .int t)] := hl
  refine lv_aload_n hx hb dX12_waits_0 rfl (lv_at hl 0 rfl) ?_
  refine lv_iconst (v := 0) hx hb dX12_waits_1 (by decide) ?_
  refine gx_put S hK gx_ok hw t_199 cl_13 0 (by decide) rfl mw_1414 rfl rfl (ty := .int) (v := 0) (by decide +kernel) rfl rfl dX12_waits_2 (fun H locs hw => ?_)
  refine lv_aload_n hx hb dX12_waits_5 rfl (lv_at hl 0 rfl) ?_
  refine lv_iload_n hx hb dX12_waits_6 rfl (lv_at hl 1 rfl) ?_
  refine lv_iload_n hx hb dX12_waits_7 rfl (lv_at hl 2 rfl) ?_
  refine lv_iload_n hx hb dX12_waits_8 rfl (lv_at hl 3 rfl) ?_
  refine lv_iload hx hb dX12_waits_9 (lv_at hl 4 rfl) ?_
  refine gx_cVi (As := [.int p, .int b, .int n, .int t]) (rest := []) S hK gx_ok hw (c_canSail l (E := E) (up2 (σ) 199 0 0) (τ) p b n t (by first | rfl | decide | simp [up2, gs0, hm])) cw_X12_405 t_199 cl_13 ⟨Nat.le_of_ble_eq_true rfl, Nat.le_of_ble_eq_true rfl⟩ rfl hl.1 rfl (Nat.le_of_ble_eq_true rfl) ⟨Nat.le_of_ble_eq_true rfl, Nat.le_of_ble_eq_true rfl⟩ dX12_waits_11 (fun r_1 σ_1 τ_1 H locs hp hw => ?_)
  obtain ⟨er_1, es_1, et_1⟩ := hp
  obtain rfl := er_1.symm
  obtain rfl := es_1.symm
  obtain rfl := et_1.symm
  refine lv_if_ne (tgt := 19) hx hb dX12_waits_14 (by decide) (fun h => absurd (by decide) h) (fun _ => ?_)
  refine lv_iconst (v := (-1)) hx hb dX12_waits_17 (by decide) ?_
  exact gx_ri (post := fun r σ1 τ1 => r = (-1) ∧ True ∧ True) (v := (-1)) S hr hlk hw rfl dX12_waits_18 ⟨rfl, trivial, trivial⟩
set_option maxHeartbeats 4000000 in
set_option maxRecDepth 100000 in
theorem c_m_round (l : Launch) {E : gE} (σ : gI) (τ : gJ) (p : Int32) (hm : ∀ c k : Nat, 199 ≤ c → σ c k = 0) : gx_Mi l yX12_round cX12_round 5 (some .int) 2 gx_tb E (σ) (τ) [.ref (E.2.2 + 199), .int p] (fun r σ1 τ1 => r = (-1) ∧ True ∧ True) := by
  refine gx_bi (by decide +kernel) (Nat.le_of_ble_eq_true rfl) ?_
  intro P9 e9 s m9 below meth C9 S hr hlk hK hw ls hl
  have S : CallFix P9 m9 C9 cX12_round 5 s _ gx_G RX12 := S
  have hx := S.1
  have hb := S.2.1
  have hl : lv_has ls 5 [(0, .ref (E.2.2 + 199)), (1, .int p)] := hl
  refine lv_aload_n hx hb dX12_round_0 rfl (lv_at hl 0 rfl) ?_
  refine lv_iconst (v := 0) hx hb dX12_round_1 (by decide) ?_
  refine gx_put S hK gx_ok hw t_199 cl_13 0 (by decide) rfl mw_1414 rfl rfl (ty := .int) (v := 0) (by decide +kernel) rfl rfl dX12_round_2 (fun H locs hw => ?_)
  refine lv_aload_n hx hb dX12_round_5 rfl (lv_at hl 0 rfl) ?_
  refine lv_iload_n hx hb dX12_round_6 rfl (lv_at hl 1 rfl) ?_
  refine gx_cVi (As := [.int p]) (rest := []) S hK gx_ok hw (c_isPlace l (E := E) (up2 (σ) 199 0 0) (τ) p (by first | rfl | decide | simp [up2, gs0, hm])) cw_X12_133 t_199 cl_13 ⟨Nat.le_of_ble_eq_true rfl, Nat.le_of_ble_eq_true rfl⟩ rfl hl.1 rfl (Nat.le_of_ble_eq_true rfl) ⟨Nat.le_of_ble_eq_true rfl, Nat.le_of_ble_eq_true rfl⟩ dX12_round_7 (fun r_1 σ_1 τ_1 H locs hp hw => ?_)
  obtain ⟨er_1, es_1, et_1⟩ := hp
  obtain rfl := er_1.symm
  obtain rfl := es_1.symm
  obtain rfl := et_1.symm
  refine lv_if_ne (tgt := 15) hx hb dX12_round_10 (by decide) (fun h => absurd (by decide) h) (fun _ => ?_)
  refine lv_iconst (v := (-1)) hx hb dX12_round_13 (by decide) ?_
  exact gx_ri (post := fun r σ1 τ1 => r = (-1) ∧ True ∧ True) (v := (-1)) S hr hlk hw rfl dX12_round_14 ⟨rfl, trivial, trivial⟩
set_option maxHeartbeats 4000000 in
set_option maxRecDepth 100000 in
theorem c_m_save (l : Launch) {E : gE} (σ : gI) (τ : gJ) (those : Int32) (hm : ∀ c k : Nat, 199 ≤ c → σ c k = 0) : gx_Mi l yX12_save cX12_save 2 (some .int) 3 gx_tb E (σ) (τ) [.ref (E.2.2 + 199), .int those] (fun r σ1 τ1 => r = (if those.toInt = 0 then 0 else (-1)) ∧ True ∧ True) := by
  refine gx_bi (by decide +kernel) (Nat.le_of_ble_eq_true rfl) ?_
  intro P9 e9 s m9 below meth C9 S hr hlk hK hw ls hl
  have S : CallFix P9 m9 C9 cX12_save 2 s _ gx_G RX12 := S
  have hx := S.1
  have hb := S.2.1
  have hl : lv_has ls 2 [(0, .ref (E.2.2 + 199)), (1, .int those)] := hl
  refine lv_aload_n hx hb dX12_save_0 rfl (lv_at hl 0 rfl) ?_
  refine lv_iconst (v := 0) hx hb dX12_save_1 (by decide) ?_
  refine gx_put S hK gx_ok hw t_199 cl_13 0 (by decide) rfl mw_1414 rfl rfl (ty := .int) (v := 0) (by decide +kernel) rfl rfl dX12_save_2 (fun H locs hw => ?_)
  refine lv_iload_n hx hb dX12_save_5 rfl (lv_at hl 1 rfl) ?_
  refine lv_i2l (v := those.toInt64) hx hb dX12_save_6 rfl ?_
  refine lv_lconst (v := 0) hx hb dX12_save_7 (by decide) ?_
  refine lv_iconst (v := 1) hx hb dX12_save_8 (by decide) ?_
  refine lv_aload_n hx hb dX12_save_9 rfl (lv_at hl 0 rfl) ?_
  refine gx_getr (j := 206) S hK hw t_199 cl_13 10 (by decide) rfl mw_1424 rfl dX12_save_10 ?_
  refine lv_bipush (v := 44) hx hb dX12_save_13 (by decide) ?_
  refine gx_iald S hK hw t_206 44 rfl (gx_in rfl (by decide) (by decide)) dX12_save_15 ?_
  refine gx_top (v := 0) (by first | rfl | decide | simp [up2, gs0, hm]) ?_
  refine lv_ishl hx hb dX12_save_16 ?_
  refine gx_top (v := 1) (by decide) ?_
  refine lv_iconst (v := 1) hx hb dX12_save_17 (by decide) ?_
  refine lv_isub hx hb dX12_save_18 ?_
  refine gx_top (v := 0) (by decide) ?_
  refine lv_i2l (v := 0) hx hb dX12_save_19 (by decide) ?_
  refine gx_cSi (As := [.long those.toInt64, .long 0, .long 0]) (rest := []) S hK gx_ok hw (c_in l (E := E) (up2 (σ) 199 0 0) (τ) those 0 0 0 0 (by first | rfl | decide | simp [up2, gs0, hm]) (by first | rfl | decide | simp [up2, gs0, hm])) cw_X12_129 ⟨Nat.le_of_ble_eq_true rfl, Nat.le_of_ble_eq_true rfl⟩ rfl hl.1 rfl (Nat.le_of_ble_eq_true rfl) ⟨Nat.le_of_ble_eq_true rfl, Nat.le_of_ble_eq_true rfl⟩ dX12_save_20 (fun r_1 σ_1 τ_1 H locs hp hw => ?_)
  obtain ⟨er_1, es_1, et_1⟩ := hp
  obtain rfl := er_1.symm
  obtain rfl := es_1.symm
  obtain rfl := et_1.symm
  by_cases c_2 : 0 ≤ those.toInt ∧ those.toInt ≤ 0
  · refine gx_top (v := 1) (if_pos c_2) ?_
    refine lv_if_eq (tgt := 36) hx hb dX12_save_23 (by decide) (fun h => absurd h (by decide)) (fun _ => ?_)
    have e0 : those = 0 := (fa_eq _ _).mpr (by show those.toInt = 0; omega)
    have hl : lv_has ls 2 [(0, .ref (E.2.2 + 199)), (1, .int 0)] := by rw [e0] at hl; exact hl
    refine lv_aload_n hx hb dX12_save_26 rfl (lv_at hl 0 rfl) ?_
    refine lv_iload_n hx hb dX12_save_27 rfl (lv_at hl 1 rfl) ?_
    refine lv_iconst (v := (-1)) hx hb dX12_save_28 (by decide) ?_
    refine lv_iconst (v := 0) hx hb dX12_save_29 (by decide) ?_
    refine gx_cVi (As := [.int 0, .int (-1), .int 0]) (rest := []) S hK gx_ok hw (c_saves l (E := E) (up2 (σ) 199 0 0) (τ) (by first | rfl | decide | simp [up2, gs0, hm]) (by first | rfl | decide | simp [up2, gs0, hm]) (by first | rfl | decide | simp [up2, gs0, hm]) (fun k => by simp [up2, hm])) cw_X12_422 t_199 cl_13 ⟨Nat.le_of_ble_eq_true rfl, Nat.le_of_ble_eq_true rfl⟩ rfl hl.1 rfl (Nat.le_of_ble_eq_true rfl) ⟨Nat.le_of_ble_eq_true rfl, Nat.le_of_ble_eq_true rfl⟩ dX12_save_30 (fun r_3 σ_3 τ_3 H locs hp hw => ?_)
    obtain ⟨er_3, -, -⟩ := hp
    obtain rfl := er_3.symm
    refine lv_goto (tgt := 37) hx hb dX12_save_33 (by decide) ?_
    exact gx_ri (post := fun r σ1 τ1 => r = (if those.toInt = 0 then 0 else (-1)) ∧ True ∧ True) (v := 0) S hr hlk hw rfl dX12_save_37 ⟨(by exact (if_pos (by omega)).symm), trivial, trivial⟩
  · refine gx_top (v := 0) ((if_neg c_2).trans (rfl)) ?_
    refine lv_if_eq (tgt := 36) hx hb dX12_save_23 (by decide) (fun _ => ?_) (fun h => absurd (by decide) h)
    refine lv_iconst (v := (-1)) hx hb dX12_save_36 (by decide) ?_
    exact gx_ri (post := fun r σ1 τ1 => r = (if those.toInt = 0 then 0 else (-1)) ∧ True ∧ True) (v := (-1)) S hr hlk hw rfl dX12_save_37 ⟨(by exact ((if_neg (by omega)).trans (rfl)).symm), trivial, trivial⟩
set_option maxHeartbeats 4000000 in
set_option maxRecDepth 100000 in
theorem c_m_steer (l : Launch) {E : gE} (σ : gI) (τ : gJ) (i t : Int32) (hm : ∀ c k : Nat, 199 ≤ c → σ c k = 0) : gx_Mi l yX12_steer cX12_steer 3 (some .int) 2 gx_tb E (σ) (τ) [.ref (E.2.2 + 199), .int i, .int t] (fun r σ1 τ1 => r = (-1) ∧ True ∧ True) := by
  refine gx_bi (by decide +kernel) (Nat.le_of_ble_eq_true rfl) ?_
  intro P9 e9 s m9 below meth C9 S hr hlk hK hw ls hl
  have S : CallFix P9 m9 C9 cX12_steer 3 s _ gx_G RX12 := S
  have hx := S.1
  have hb := S.2.1
  have hl : lv_has ls 3 [(0, .ref (E.2.2 + 199)), (1, .int i), (2, .int t)] := hl
  refine lv_aload_n hx hb dX12_steer_0 rfl (lv_at hl 0 rfl) ?_
  refine lv_iconst (v := 0) hx hb dX12_steer_1 (by decide) ?_
  refine gx_put S hK gx_ok hw t_199 cl_13 0 (by decide) rfl mw_1414 rfl rfl (ty := .int) (v := 0) (by decide +kernel) rfl rfl dX12_steer_2 (fun H locs hw => ?_)
  refine lv_aload_n hx hb dX12_steer_5 rfl (lv_at hl 0 rfl) ?_
  refine lv_iload_n hx hb dX12_steer_6 rfl (lv_at hl 1 rfl) ?_
  refine gx_cVi (As := [.int i]) (rest := []) S hK gx_ok hw (c_isThing l (E := E) (up2 (σ) 199 0 0) (τ) i (by first | rfl | decide | simp [up2, gs0, hm])) cw_X12_309 t_199 cl_13 ⟨Nat.le_of_ble_eq_true rfl, Nat.le_of_ble_eq_true rfl⟩ rfl hl.1 rfl (Nat.le_of_ble_eq_true rfl) ⟨Nat.le_of_ble_eq_true rfl, Nat.le_of_ble_eq_true rfl⟩ dX12_steer_7 (fun r_1 σ_1 τ_1 H locs hp hw => ?_)
  obtain ⟨er_1, es_1, et_1⟩ := hp
  obtain rfl := er_1.symm
  obtain rfl := es_1.symm
  obtain rfl := et_1.symm
  refine lv_if_eq (tgt := 33) hx hb dX12_steer_10 (by decide) (fun _ => ?_) (fun h => absurd (by decide) h)
  refine lv_iconst (v := (-1)) hx hb dX12_steer_33 (by decide) ?_
  exact gx_ri (post := fun r σ1 τ1 => r = (-1) ∧ True ∧ True) (v := (-1)) S hr hlk hw rfl dX12_steer_34 ⟨rfl, trivial, trivial⟩
set_option maxHeartbeats 4000000 in
set_option maxRecDepth 100000 in
theorem c_m_ways (l : Launch) {E : gE} (σ : gI) (τ : gJ) (p b n t : Int32) (hm : ∀ c k : Nat, 199 ≤ c → σ c k = 0) : gx_Mi l yX12_ways cX12_ways 10 (some .int) 4 gx_tb E (σ) (τ) [.ref (E.2.2 + 199), .int p, .int b, .int n, .int t] (fun r σ1 τ1 => r = (-1) ∧ True ∧ True) := by
  refine gx_bi (by decide +kernel) (Nat.le_of_ble_eq_true rfl) ?_
  intro P9 e9 s m9 below meth C9 S hr hlk hK hw ls hl
  have S : CallFix P9 m9 C9 cX12_ways 10 s _ gx_G RX12 := S
  have hx := S.1
  have hb := S.2.1
  have hl : lv_has ls 10 [(0, .ref (E.2.2 + 199)), (1, .int p), (2, .int b), (3, .int n), (4, .int t)] := hl
  refine lv_aload_n hx hb dX12_ways_0 rfl (lv_at hl 0 rfl) ?_
  refine lv_iconst (v := 0) hx hb dX12_ways_1 (by decide) ?_
  refine gx_put S hK gx_ok hw t_199 cl_13 0 (by decide) rfl mw_1414 rfl rfl (ty := .int) (v := 0) (by decide +kernel) rfl rfl dX12_ways_2 (fun H locs hw => ?_)
  refine lv_aload_n hx hb dX12_ways_5 rfl (lv_at hl 0 rfl) ?_
  refine lv_iload_n hx hb dX12_ways_6 rfl (lv_at hl 1 rfl) ?_
  refine lv_iload_n hx hb dX12_ways_7 rfl (lv_at hl 2 rfl) ?_
  refine lv_iload_n hx hb dX12_ways_8 rfl (lv_at hl 3 rfl) ?_
  refine lv_iload hx hb dX12_ways_9 (lv_at hl 4 rfl) ?_
  refine gx_cVi (As := [.int p, .int b, .int n, .int t]) (rest := []) S hK gx_ok hw (c_canSail l (E := E) (up2 (σ) 199 0 0) (τ) p b n t (by first | rfl | decide | simp [up2, gs0, hm])) cw_X12_405 t_199 cl_13 ⟨Nat.le_of_ble_eq_true rfl, Nat.le_of_ble_eq_true rfl⟩ rfl hl.1 rfl (Nat.le_of_ble_eq_true rfl) ⟨Nat.le_of_ble_eq_true rfl, Nat.le_of_ble_eq_true rfl⟩ dX12_ways_11 (fun r_1 σ_1 τ_1 H locs hp hw => ?_)
  obtain ⟨er_1, es_1, et_1⟩ := hp
  obtain rfl := er_1.symm
  obtain rfl := es_1.symm
  obtain rfl := et_1.symm
  refine lv_if_ne (tgt := 19) hx hb dX12_ways_14 (by decide) (fun h => absurd (by decide) h) (fun _ => ?_)
  refine lv_iconst (v := (-1)) hx hb dX12_ways_17 (by decide) ?_
  exact gx_ri (post := fun r σ1 τ1 => r = (-1) ∧ True ∧ True) (v := (-1)) S hr hlk hw rfl dX12_ways_18 ⟨rfl, trivial, trivial⟩
set_option maxHeartbeats 4000000 in
set_option maxRecDepth 100000 in
theorem c_m_duel (l : Launch) {E : gE} (σ : gI) (τ : gJ) (p b n t w : Int32) (hm : ∀ c k : Nat, 199 ≤ c → σ c k = 0) : gx_Mi l yX12_duel cX12_duel 9 (some .int) 4 gx_tb E (σ) (τ) [.ref (E.2.2 + 199), .int p, .int b, .int n, .int t, .int w] (fun r σ1 τ1 => r = (-1) ∧ True ∧ True) := by
  refine gx_bi (by decide +kernel) (Nat.le_of_ble_eq_true rfl) ?_
  intro P9 e9 s m9 below meth C9 S hr hlk hK hw ls hl
  have S : CallFix P9 m9 C9 cX12_duel 9 s _ gx_G RX12 := S
  have hx := S.1
  have hb := S.2.1
  have hl : lv_has ls 9 [(0, .ref (E.2.2 + 199)), (1, .int p), (2, .int b), (3, .int n), (4, .int t), (5, .int w)] := hl
  refine lv_aload_n hx hb dX12_duel_0 rfl (lv_at hl 0 rfl) ?_
  refine lv_iconst (v := 0) hx hb dX12_duel_1 (by decide) ?_
  refine gx_put S hK gx_ok hw t_199 cl_13 0 (by decide) rfl mw_1414 rfl rfl (ty := .int) (v := 0) (by decide +kernel) rfl rfl dX12_duel_2 (fun H locs hw => ?_)
  refine lv_aload_n hx hb dX12_duel_5 rfl (lv_at hl 0 rfl) ?_
  refine lv_iload_n hx hb dX12_duel_6 rfl (lv_at hl 1 rfl) ?_
  refine lv_iload_n hx hb dX12_duel_7 rfl (lv_at hl 2 rfl) ?_
  refine lv_iload_n hx hb dX12_duel_8 rfl (lv_at hl 3 rfl) ?_
  refine lv_iload hx hb dX12_duel_9 (lv_at hl 4 rfl) ?_
  refine gx_cVi (As := [.int p, .int b, .int n, .int t]) (rest := []) S hK gx_ok hw (c_canSail l (E := E) (up2 (σ) 199 0 0) (τ) p b n t (by first | rfl | decide | simp [up2, gs0, hm])) cw_X12_405 t_199 cl_13 ⟨Nat.le_of_ble_eq_true rfl, Nat.le_of_ble_eq_true rfl⟩ rfl hl.1 rfl (Nat.le_of_ble_eq_true rfl) ⟨Nat.le_of_ble_eq_true rfl, Nat.le_of_ble_eq_true rfl⟩ dX12_duel_11 (fun r_1 σ_1 τ_1 H locs hp hw => ?_)
  obtain ⟨er_1, es_1, et_1⟩ := hp
  obtain rfl := er_1.symm
  obtain rfl := es_1.symm
  obtain rfl := et_1.symm
  refine lv_if_eq (tgt := 30) hx hb dX12_duel_14 (by decide) (fun _ => ?_) (fun h => absurd (by decide) h)
  refine lv_iconst (v := (-1)) hx hb dX12_duel_30 (by decide) ?_
  exact gx_ri (post := fun r σ1 τ1 => r = (-1) ∧ True ∧ True) (v := (-1)) S hr hlk hw rfl dX12_duel_31 ⟨rfl, trivial, trivial⟩
set_option maxHeartbeats 4000000 in
set_option maxRecDepth 100000 in
theorem c_m_cork (l : Launch) {E : gE} (σ : gI) (τ : gJ) (p n t : Int32) (hm : ∀ c k : Nat, 199 ≤ c → σ c k = 0) : gx_Mi l yX12_cork cX12_cork 4 (some .int) 2 gx_tb E (σ) (τ) [.ref (E.2.2 + 199), .int p, .int n, .int t] (fun r σ1 τ1 => r = (-1) ∧ True ∧ True) := by
  refine gx_bi (by decide +kernel) (Nat.le_of_ble_eq_true rfl) ?_
  intro P9 e9 s m9 below meth C9 S hr hlk hK hw ls hl
  have S : CallFix P9 m9 C9 cX12_cork 4 s _ gx_G RX12 := S
  have hx := S.1
  have hb := S.2.1
  have hl : lv_has ls 4 [(0, .ref (E.2.2 + 199)), (1, .int p), (2, .int n), (3, .int t)] := hl
  refine lv_aload_n hx hb dX12_cork_0 rfl (lv_at hl 0 rfl) ?_
  refine lv_iconst (v := 0) hx hb dX12_cork_1 (by decide) ?_
  refine gx_put S hK gx_ok hw t_199 cl_13 0 (by decide) rfl mw_1414 rfl rfl (ty := .int) (v := 0) (by decide +kernel) rfl rfl dX12_cork_2 (fun H locs hw => ?_)
  refine lv_aload_n hx hb dX12_cork_5 rfl (lv_at hl 0 rfl) ?_
  refine lv_iload_n hx hb dX12_cork_6 rfl (lv_at hl 1 rfl) ?_
  refine gx_cVi (As := [.int p]) (rest := []) S hK gx_ok hw (c_isPlace l (E := E) (up2 (σ) 199 0 0) (τ) p (by first | rfl | decide | simp [up2, gs0, hm])) cw_X12_133 t_199 cl_13 ⟨Nat.le_of_ble_eq_true rfl, Nat.le_of_ble_eq_true rfl⟩ rfl hl.1 rfl (Nat.le_of_ble_eq_true rfl) ⟨Nat.le_of_ble_eq_true rfl, Nat.le_of_ble_eq_true rfl⟩ dX12_cork_7 (fun r_1 σ_1 τ_1 H locs hp hw => ?_)
  obtain ⟨er_1, es_1, et_1⟩ := hp
  obtain rfl := er_1.symm
  obtain rfl := es_1.symm
  obtain rfl := et_1.symm
  refine lv_if_eq (tgt := 47) hx hb dX12_cork_10 (by decide) (fun _ => ?_) (fun h => absurd (by decide) h)
  refine lv_iconst (v := (-1)) hx hb dX12_cork_47 (by decide) ?_
  exact gx_ri (post := fun r σ1 τ1 => r = (-1) ∧ True ∧ True) (v := (-1)) S hr hlk hw rfl dX12_cork_48 ⟨rfl, trivial, trivial⟩
set_option maxHeartbeats 4000000 in
set_option maxRecDepth 100000 in
theorem c_m_forget (l : Launch) {E : gE} (σ : gI) (τ : gJ)  (hm : ∀ c k : Nat, 199 ≤ c → σ c k = 0) : gx_Mi l yX12_forget cX12_forget 2 (some .int) 0 gx_tb E (σ) (τ) [.ref (E.2.2 + 199)] (fun r σ1 τ1 => r = 0 ∧ True ∧ True) := by
  refine gx_bi (by decide +kernel) (Nat.le_of_ble_eq_true rfl) ?_
  intro P9 e9 s m9 below meth C9 S hr hlk hK hw ls hl
  have S : CallFix P9 m9 C9 cX12_forget 2 s _ gx_G RX12 := S
  have hx := S.1
  have hb := S.2.1
  have hl : lv_has ls 2 [(0, .ref (E.2.2 + 199))] := hl
  refine lv_aload_n hx hb dX12_forget_0 rfl (lv_at hl 0 rfl) ?_
  refine lv_iconst (v := 0) hx hb dX12_forget_1 (by decide) ?_
  refine gx_put S hK gx_ok hw t_199 cl_13 0 (by decide) rfl mw_1414 rfl rfl (ty := .int) (v := 0) (by decide +kernel) rfl rfl dX12_forget_2 (fun H locs hw => ?_)
  refine lv_aload_n hx hb dX12_forget_5 rfl (lv_at hl 0 rfl) ?_
  refine gx_get S hK hw t_199 cl_13 52 (by decide) rfl mw_1466 rfl dX12_forget_6 ?_
  refine gx_top (v := 0) (by first | rfl | decide | simp [up2, gs0, hm]) ?_
  refine lv_istore_n (lv' := [(1, .int 0), (0, .ref (E.2.2 + 199))]) hx hb dX12_forget_9 rfl hl (by decide) rfl (fun ls hl => ?_)
  refine lv_aload_n hx hb dX12_forget_10 rfl (lv_at hl 1 rfl) ?_
  refine lv_iconst (v := 0) hx hb dX12_forget_11 (by decide) ?_
  refine gx_put S hK gx_ok hw t_199 cl_13 52 (by decide) rfl mw_1466 rfl rfl (ty := .int) (v := 0) (by decide +kernel) rfl rfl dX12_forget_12 (fun H locs hw => ?_)
  refine lv_iload_n hx hb dX12_forget_15 rfl (lv_at hl 0 rfl) ?_
  exact gx_ri (post := fun r σ1 τ1 => r = 0 ∧ True ∧ True) (v := 0) S hr hlk hw rfl dX12_forget_16 ⟨rfl, trivial, trivial⟩
set_option maxHeartbeats 4000000 in
set_option maxRecDepth 100000 in
theorem c_m_maps (l : Launch) {E : gE} (σ : gI) (τ : gJ)  (hm : ∀ c k : Nat, 199 ≤ c → σ c k = 0) : gx_Mi l yX12_maps cX12_maps 7 (some .int) 2 gx_tb E (σ) (τ) [.ref (E.2.2 + 199)] (fun r σ1 τ1 => r = 1 ∧ True ∧ True) := by
  refine gx_bi (by decide +kernel) (Nat.le_of_ble_eq_true rfl) ?_
  intro P9 e9 s m9 below meth C9 S hr hlk hK hw ls hl
  have S : CallFix P9 m9 C9 cX12_maps 7 s _ gx_G RX12 := S
  have hx := S.1
  have hb := S.2.1
  have hl : lv_has ls 7 [(0, .ref (E.2.2 + 199))] := hl
  refine lv_aload_n hx hb dX12_maps_0 rfl (lv_at hl 0 rfl) ?_
  refine lv_iconst (v := 0) hx hb dX12_maps_1 (by decide) ?_
  refine gx_put S hK gx_ok hw t_199 cl_13 0 (by decide) rfl mw_1414 rfl rfl (ty := .int) (v := 0) (by decide +kernel) rfl rfl dX12_maps_2 (fun H locs hw => ?_)
  refine lv_aload_n hx hb dX12_maps_5 rfl (lv_at hl 0 rfl) ?_
  refine gx_cVi (As := []) (rest := []) S hK gx_ok hw (c_laysFits l (E := E) (up2 (σ) 199 0 0) (τ) (by first | rfl | decide | simp [up2, gs0, hm]) (by first | rfl | decide | simp [up2, gs0, hm])) cw_X12_448 t_199 cl_13 ⟨Nat.le_of_ble_eq_true rfl, Nat.le_of_ble_eq_true rfl⟩ rfl hl.1 rfl (Nat.le_of_ble_eq_true rfl) ⟨Nat.le_of_ble_eq_true rfl, Nat.le_of_ble_eq_true rfl⟩ dX12_maps_6 (fun r_1 σ_1 τ_1 H locs hp hw => ?_)
  obtain ⟨er_1, es_1, et_1⟩ := hp
  obtain rfl := er_1.symm
  obtain rfl := es_1.symm
  obtain rfl := et_1.symm
  refine lv_istore_n (lv' := [(1, .int 1), (0, .ref (E.2.2 + 199))]) hx hb dX12_maps_9 rfl hl (by decide) rfl (fun ls hl => ?_)
  refine lv_aload_n hx hb dX12_maps_10 rfl (lv_at hl 1 rfl) ?_
  refine gx_cVi (As := []) (rest := []) S hK gx_ok hw (c_forks l (E := E) (up2 (up2 (σ) 199 0 0) 229 0 1) (τ) (by first | rfl | decide | simp [up2, gs0, hm])) cw_X12_416 t_199 cl_13 ⟨Nat.le_of_ble_eq_true rfl, Nat.le_of_ble_eq_true rfl⟩ rfl hl.1 rfl (Nat.le_of_ble_eq_true rfl) ⟨Nat.le_of_ble_eq_true rfl, Nat.le_of_ble_eq_true rfl⟩ dX12_maps_11 (fun r_2 σ_2 τ_2 H locs hp hw => ?_)
  obtain ⟨er_2, es_2, et_2⟩ := hp
  obtain rfl := er_2.symm
  obtain rfl := es_2.symm
  obtain rfl := et_2.symm
  refine lv_istore_n (lv' := [(2, .int 0), (1, .int 1), (0, .ref (E.2.2 + 199))]) hx hb dX12_maps_14 rfl hl (by decide) rfl (fun ls hl => ?_)
  refine lv_iconst (v := (-1)) hx hb dX12_maps_15 (by decide) ?_
  refine lv_istore_n (lv' := [(3, .int (-1)), (2, .int 0), (1, .int 1), (0, .ref (E.2.2 + 199))]) hx hb dX12_maps_16 rfl hl (by decide) rfl (fun ls hl => ?_)
  refine lv_iload_n hx hb dX12_maps_17 rfl (lv_at hl 2 rfl) ?_
  refine lv_if_le (tgt := 25) hx hb dX12_maps_18 (by decide) (fun h => absurd h (by decide)) (fun _ => ?_)
  refine lv_iload_n hx hb dX12_maps_21 rfl (lv_at hl 1 rfl) ?_
  refine lv_goto (tgt := 26) hx hb dX12_maps_22 (by decide) ?_
  refine lv_istore (lv' := [(4, .int 0), (3, .int (-1)), (2, .int 0), (1, .int 1), (0, .ref (E.2.2 + 199))]) hx hb dX12_maps_26 hl (by decide) rfl (fun ls hl => ?_)
  refine lv_iconst (v := 0) hx hb dX12_maps_28 (by decide) ?_
  refine lv_istore (lv' := [(5, .int 0), (4, .int 0), (3, .int (-1)), (2, .int 0), (1, .int 1), (0, .ref (E.2.2 + 199))]) hx hb dX12_maps_29 hl (by decide) rfl (fun ls hl => ?_)
  refine lv_iconst (v := 0) hx hb dX12_maps_31 (by decide) ?_
  refine lv_istore (lv' := [(6, .int 0), (5, .int 0), (4, .int 0), (3, .int (-1)), (2, .int 0), (1, .int 1), (0, .ref (E.2.2 + 199))]) hx hb dX12_maps_32 hl (by decide) rfl (fun ls hl => ?_)
  refine lv_iload hx hb dX12_maps_34 (lv_at hl 0 rfl) ?_
  refine lv_iload_n hx hb dX12_maps_36 rfl (lv_at hl 4 rfl) ?_
  refine lv_icmp_gt (tgt := 81) hx hb dX12_maps_37 (by decide) (fun h => absurd h (by decide)) (fun _ => ?_)
  refine lv_aload_n hx hb dX12_maps_40 rfl (lv_at hl 6 rfl) ?_
  refine gx_getr (j := 229) S hK hw t_199 cl_13 56 (by decide) rfl mw_1470 rfl dX12_maps_41 ?_
  refine lv_iload hx hb dX12_maps_44 (lv_at hl 0 rfl) ?_
  refine gx_zald S hK hw t_229 0 rfl (gx_in rfl (by decide) (by decide)) dX12_maps_46 ?_
  refine gx_top (v := 1) (by first | rfl | decide | simp [up2, gs0, hm]) ?_
  refine lv_if_eq (tgt := 75) hx hb dX12_maps_47 (by decide) (fun h => absurd h (by decide)) (fun _ => ?_)
  refine lv_iload_n hx hb dX12_maps_50 rfl (lv_at hl 3 rfl) ?_
  refine lv_if_ge (tgt := 59) hx hb dX12_maps_51 (by decide) (fun h => absurd h (by decide)) (fun _ => ?_)
  refine lv_iload hx hb dX12_maps_54 (lv_at hl 0 rfl) ?_
  refine lv_goto (tgt := 60) hx hb dX12_maps_56 (by decide) ?_
  refine lv_istore_n (lv' := [(3, .int 0), (6, .int 0), (5, .int 0), (4, .int 0), (2, .int 0), (1, .int 1), (0, .ref (E.2.2 + 199))]) hx hb dX12_maps_60 rfl hl (by decide) rfl (fun ls hl => ?_)
  refine lv_iload hx hb dX12_maps_61 (lv_at hl 3 rfl) ?_
  refine lv_iload hx hb dX12_maps_63 (lv_at hl 1 rfl) ?_
  refine lv_iand hx hb dX12_maps_65 ?_
  refine gx_top (v := 0) (by decide) ?_
  refine lv_istore (lv' := [(4, .int 0), (3, .int 0), (6, .int 0), (5, .int 0), (2, .int 0), (1, .int 1), (0, .ref (E.2.2 + 199))]) hx hb dX12_maps_66 hl (by decide) rfl (fun ls hl => ?_)
  refine lv_iload hx hb dX12_maps_68 (lv_at hl 3 rfl) ?_
  refine lv_iload hx hb dX12_maps_70 (lv_at hl 2 rfl) ?_
  refine lv_ior hx hb dX12_maps_72 ?_
  refine gx_top (v := 0) (by decide) ?_
  refine lv_istore (lv' := [(5, .int 0), (4, .int 0), (3, .int 0), (6, .int 0), (2, .int 0), (1, .int 1), (0, .ref (E.2.2 + 199))]) hx hb dX12_maps_73 hl (by decide) rfl (fun ls hl => ?_)
  refine lv_iinc (v := 1) (lv' := [(6, .int 1), (5, .int 0), (4, .int 0), (3, .int 0), (2, .int 0), (1, .int 1), (0, .ref (E.2.2 + 199))]) hx hb dX12_maps_75 hl (k := 3) rfl (by decide) (by decide) rfl (fun ls hl => ?_)
  refine lv_goto (tgt := 34) hx hb dX12_maps_78 (by decide) ?_
  refine lv_iload hx hb dX12_maps_34 (lv_at hl 0 rfl) ?_
  refine lv_iload_n hx hb dX12_maps_36 rfl (lv_at hl 4 rfl) ?_
  refine lv_icmp_gt (tgt := 81) hx hb dX12_maps_37 (by decide) (fun _ => ?_) (fun h => absurd (by decide) h)
  refine lv_aload_n hx hb dX12_maps_81 rfl (lv_at hl 6 rfl) ?_
  refine lv_iconst (v := 0) hx hb dX12_maps_82 (by decide) ?_
  refine gx_put S hK gx_ok hw t_199 cl_13 1 (by decide) rfl mw_1415 rfl rfl (ty := .int) (v := 0) (by decide +kernel) rfl rfl dX12_maps_83 (fun H locs hw => ?_)
  refine lv_aload_n hx hb dX12_maps_86 rfl (lv_at hl 6 rfl) ?_
  refine lv_iload_n hx hb dX12_maps_87 rfl (lv_at hl 3 rfl) ?_
  refine lv_i2l (v := 0) hx hb dX12_maps_88 (by decide) ?_
  refine gx_cVv (As := [.long 0]) (rest := []) S hK gx_ok hw (c_enters0 l (E := E) (up2 (up2 (up2 (σ) 199 0 0) 229 0 1) 199 1 0) (τ) 0 (by first | rfl | decide | simp [up2, gs0, hm])) cw_X12_122 t_199 cl_13 ⟨Nat.le_of_ble_eq_true rfl, Nat.le_of_ble_eq_true rfl⟩ rfl hl.1 rfl (Nat.le_of_ble_eq_true rfl) ⟨Nat.le_of_ble_eq_true rfl, Nat.le_of_ble_eq_true rfl⟩ dX12_maps_89 (fun σ_3 τ_3 H locs hp hw => ?_)
  obtain ⟨es_3, -⟩ := hp
  obtain rfl := es_3.symm
  refine lv_aload_n hx hb dX12_maps_92 rfl (lv_at hl 6 rfl) ?_
  refine lv_iload hx hb dX12_maps_93 (lv_at hl 2 rfl) ?_
  refine lv_i2l (v := 0) hx hb dX12_maps_95 (by decide) ?_
  refine gx_cVv (As := [.long 0]) (rest := []) S hK gx_ok hw (c_enters1 l (E := E) (up2 (up2 (up2 (up2 (σ) 199 0 0) 229 0 1) 199 1 0) 199 1 1) (τ_3) 0 (by first | rfl | decide | simp [up2, gs0, hm])) cw_X12_122 t_199 cl_13 ⟨Nat.le_of_ble_eq_true rfl, Nat.le_of_ble_eq_true rfl⟩ rfl hl.1 rfl (Nat.le_of_ble_eq_true rfl) ⟨Nat.le_of_ble_eq_true rfl, Nat.le_of_ble_eq_true rfl⟩ dX12_maps_96 (fun σ_4 τ_4 H locs hp hw => ?_)
  obtain ⟨es_4, -⟩ := hp
  obtain rfl := es_4.symm
  refine lv_aload_n hx hb dX12_maps_99 rfl (lv_at hl 6 rfl) ?_
  refine lv_iload_n hx hb dX12_maps_100 rfl (lv_at hl 5 rfl) ?_
  refine lv_if_le (tgt := 114) hx hb dX12_maps_101 (by decide) (fun h => absurd h (by decide)) (fun _ => ?_)
  refine lv_iload_n hx hb dX12_maps_104 rfl (lv_at hl 4 rfl) ?_
  refine lv_iload hx hb dX12_maps_105 (lv_at hl 1 rfl) ?_
  refine lv_iconst (v := (-1)) hx hb dX12_maps_107 (by decide) ?_
  refine lv_ixor hx hb dX12_maps_108 ?_
  refine gx_top (v := (-1)) (by decide) ?_
  refine lv_iand hx hb dX12_maps_109 ?_
  refine gx_top (v := 0) (by decide) ?_
  refine lv_i2l (v := 0) hx hb dX12_maps_110 (by decide) ?_
  refine lv_goto (tgt := 115) hx hb dX12_maps_111 (by decide) ?_
  refine gx_cVv (As := [.long 0]) (rest := []) S hK gx_ok hw (c_enters2 l (E := E) (up2 (up2 (up2 (up2 (up2 (σ) 199 0 0) 229 0 1) 199 1 0) 199 1 1) 199 1 2) (τ_4) 0 (by first | rfl | decide | simp [up2, gs0, hm])) cw_X12_122 t_199 cl_13 ⟨Nat.le_of_ble_eq_true rfl, Nat.le_of_ble_eq_true rfl⟩ rfl hl.1 rfl (Nat.le_of_ble_eq_true rfl) ⟨Nat.le_of_ble_eq_true rfl, Nat.le_of_ble_eq_true rfl⟩ dX12_maps_115 (fun σ_5 τ_5 H locs hp hw => ?_)
  obtain ⟨es_5, -⟩ := hp
  obtain rfl := es_5.symm
  refine lv_iload_n hx hb dX12_maps_118 rfl (lv_at hl 5 rfl) ?_
  exact gx_ri (post := fun r σ1 τ1 => r = 1 ∧ True ∧ True) (v := 1) S hr hlk hw rfl dX12_maps_119 ⟨rfl, trivial, trivial⟩
set_option maxHeartbeats 4000000 in
set_option maxRecDepth 100000 in
theorem c_m_next (l : Launch) {E : gE} (σ : gI) (τ : gJ) (n : Int32) (hm : ∀ c k : Nat, 199 ≤ c → σ c k = 0) : gx_Mi l yX12_next cX12_next 8 (some .int) 0 gx_tb E (σ) (τ) [.ref (E.2.2 + 199), .int n] (fun r σ1 τ1 => r = (-1) ∧ True ∧ True) := by
  refine gx_bi (by decide +kernel) (Nat.le_of_ble_eq_true rfl) ?_
  intro P9 e9 s m9 below meth C9 S hr hlk hK hw ls hl
  have S : CallFix P9 m9 C9 cX12_next 8 s _ gx_G RX12 := S
  have hx := S.1
  have hb := S.2.1
  have hl : lv_has ls 8 [(0, .ref (E.2.2 + 199)), (1, .int n)] := hl
  refine lv_aload_n hx hb dX12_next_0 rfl (lv_at hl 0 rfl) ?_
  refine lv_iconst (v := 0) hx hb dX12_next_1 (by decide) ?_
  refine gx_put S hK gx_ok hw t_199 cl_13 0 (by decide) rfl mw_1414 rfl rfl (ty := .int) (v := 0) (by decide +kernel) rfl rfl dX12_next_2 (fun H locs hw => ?_)
  refine lv_aload_n hx hb dX12_next_5 rfl (lv_at hl 0 rfl) ?_
  refine gx_get S hK hw t_199 cl_13 3 (by decide) rfl mw_1417 rfl dX12_next_6 ?_
  refine gx_top (v := 0) (by first | rfl | decide | simp [up2, gs0, hm]) ?_
  refine lv_if_eq (tgt := 24) hx hb dX12_next_9 (by decide) (fun _ => ?_) (fun h => absurd (by decide) h)
  refine lv_iconst (v := (-1)) hx hb dX12_next_24 (by decide) ?_
  exact gx_ri (post := fun r σ1 τ1 => r = (-1) ∧ True ∧ True) (v := (-1)) S hr hlk hw rfl dX12_next_25 ⟨rfl, trivial, trivial⟩
set_option maxHeartbeats 4000000 in
set_option maxRecDepth 100000 in
theorem c_m_odds (l : Launch) {E : gE} (σ : gI) (τ : gJ) (i n p : Int32) (hm : ∀ c k : Nat, 199 ≤ c → σ c k = 0) : gx_Mi l yX12_odds cX12_odds 13 (some .int) 2 gx_tb E (σ) (τ) [.ref (E.2.2 + 199), .int i, .int n, .int p] (fun r σ1 τ1 => r = (-1) ∧ True ∧ True) := by
  refine gx_bi (by decide +kernel) (Nat.le_of_ble_eq_true rfl) ?_
  intro P9 e9 s m9 below meth C9 S hr hlk hK hw ls hl
  have S : CallFix P9 m9 C9 cX12_odds 13 s _ gx_G RX12 := S
  have hx := S.1
  have hb := S.2.1
  have hl : lv_has ls 13 [(0, .ref (E.2.2 + 199)), (1, .int i), (2, .int n), (3, .int p)] := hl
  refine lv_aload_n hx hb dX12_odds_0 rfl (lv_at hl 0 rfl) ?_
  refine lv_iconst (v := 0) hx hb dX12_odds_1 (by decide) ?_
  refine gx_put S hK gx_ok hw t_199 cl_13 0 (by decide) rfl mw_1414 rfl rfl (ty := .int) (v := 0) (by decide +kernel) rfl rfl dX12_odds_2 (fun H locs hw => ?_)
  refine lv_aload_n hx hb dX12_odds_5 rfl (lv_at hl 0 rfl) ?_
  refine lv_iload_n hx hb dX12_odds_6 rfl (lv_at hl 1 rfl) ?_
  refine gx_cVi (As := [.int i]) (rest := []) S hK gx_ok hw (c_isThing l (E := E) (up2 (σ) 199 0 0) (τ) i (by first | rfl | decide | simp [up2, gs0, hm])) cw_X12_309 t_199 cl_13 ⟨Nat.le_of_ble_eq_true rfl, Nat.le_of_ble_eq_true rfl⟩ rfl hl.1 rfl (Nat.le_of_ble_eq_true rfl) ⟨Nat.le_of_ble_eq_true rfl, Nat.le_of_ble_eq_true rfl⟩ dX12_odds_7 (fun r_1 σ_1 τ_1 H locs hp hw => ?_)
  obtain ⟨er_1, es_1, et_1⟩ := hp
  obtain rfl := er_1.symm
  obtain rfl := es_1.symm
  obtain rfl := et_1.symm
  refine lv_if_eq (tgt := 37) hx hb dX12_odds_10 (by decide) (fun _ => ?_) (fun h => absurd (by decide) h)
  refine lv_iconst (v := (-1)) hx hb dX12_odds_37 (by decide) ?_
  exact gx_ri (post := fun r σ1 τ1 => r = (-1) ∧ True ∧ True) (v := (-1)) S hr hlk hw rfl dX12_odds_38 ⟨rfl, trivial, trivial⟩
set_option maxHeartbeats 4000000 in
set_option maxRecDepth 100000 in
theorem c_m_marks (l : Launch) {E : gE} (σ : gI) (τ : gJ) (b n t : Int32) (hm : ∀ c k : Nat, 199 ≤ c → σ c k = 0) : gx_Mi l yX12_marks cX12_marks 10 (some .int) 1 gx_tb E (σ) (τ) [.ref (E.2.2 + 199), .int b, .int n, .int t] (fun r σ1 τ1 => r = (if 0 ≤ b.toInt ∧ b.toInt ≤ 99 ∧ 0 ≤ n.toInt ∧ n.toInt ≤ 9 ∧ 0 ≤ t.toInt ∧ t.toInt < 4096 then 0 else (-1)) ∧ True ∧ True) := by
  refine gx_bi (by decide +kernel) (Nat.le_of_ble_eq_true rfl) ?_
  intro P9 e9 s m9 below meth C9 S hr hlk hK hw ls hl
  have S : CallFix P9 m9 C9 cX12_marks 10 s _ gx_G RX12 := S
  have hx := S.1
  have hb := S.2.1
  have hl : lv_has ls 10 [(0, .ref (E.2.2 + 199)), (1, .int b), (2, .int n), (3, .int t)] := hl
  refine lv_aload_n hx hb dX12_marks_0 rfl (lv_at hl 0 rfl) ?_
  refine lv_iconst (v := 0) hx hb dX12_marks_1 (by decide) ?_
  refine gx_put S hK gx_ok hw t_199 cl_13 0 (by decide) rfl mw_1414 rfl rfl (ty := .int) (v := 0) (by decide +kernel) rfl rfl dX12_marks_2 (fun H locs hw => ?_)
  refine lv_iload_n hx hb dX12_marks_5 rfl (lv_at hl 1 rfl) ?_
  refine lv_i2l (v := b.toInt64) hx hb dX12_marks_6 rfl ?_
  refine lv_lconst (v := 0) hx hb dX12_marks_7 (by decide) ?_
  refine lv_ldc2 (v := 99) hx hb S.2.2.2.1 (S.2.2.2.2 _ mw_1857) dX12_marks_8 ?_
  refine gx_cSi (As := [.long b.toInt64, .long 0, .long 99]) (rest := []) S hK gx_ok hw (c_in l (E := E) (up2 (σ) 199 0 0) (τ) b 0 99 0 99 (by first | rfl | decide | simp [up2, gs0, hm]) (by first | rfl | decide | simp [up2, gs0, hm])) cw_X12_129 ⟨Nat.le_of_ble_eq_true rfl, Nat.le_of_ble_eq_true rfl⟩ rfl hl.1 rfl (Nat.le_of_ble_eq_true rfl) ⟨Nat.le_of_ble_eq_true rfl, Nat.le_of_ble_eq_true rfl⟩ dX12_marks_11 (fun r_1 σ_1 τ_1 H locs hp hw => ?_)
  obtain ⟨er_1, es_1, et_1⟩ := hp
  obtain rfl := er_1.symm
  obtain rfl := es_1.symm
  obtain rfl := et_1.symm
  by_cases c_2 : 0 ≤ b.toInt ∧ b.toInt ≤ 99
  · refine gx_top (v := 1) (if_pos c_2) ?_
    refine lv_if_eq (tgt := 41) hx hb dX12_marks_14 (by decide) (fun h => absurd h (by decide)) (fun _ => ?_)
    refine lv_iload_n hx hb dX12_marks_17 rfl (lv_at hl 2 rfl) ?_
    refine lv_i2l (v := n.toInt64) hx hb dX12_marks_18 rfl ?_
    refine lv_lconst (v := 0) hx hb dX12_marks_19 (by decide) ?_
    refine lv_ldc2 (v := 9) hx hb S.2.2.2.1 (S.2.2.2.2 _ mw_1858) dX12_marks_20 ?_
    refine gx_cSi (As := [.long n.toInt64, .long 0, .long 9]) (rest := []) S hK gx_ok hw (c_in l (E := E) (up2 (σ) 199 0 0) (τ) n 0 9 0 9 (by first | rfl | decide | simp [up2, gs0, hm]) (by first | rfl | decide | simp [up2, gs0, hm])) cw_X12_129 ⟨Nat.le_of_ble_eq_true rfl, Nat.le_of_ble_eq_true rfl⟩ rfl hl.1 rfl (Nat.le_of_ble_eq_true rfl) ⟨Nat.le_of_ble_eq_true rfl, Nat.le_of_ble_eq_true rfl⟩ dX12_marks_23 (fun r_3 σ_3 τ_3 H locs hp hw => ?_)
    obtain ⟨er_3, es_3, et_3⟩ := hp
    obtain rfl := er_3.symm
    obtain rfl := es_3.symm
    obtain rfl := et_3.symm
    by_cases c_4 : 0 ≤ n.toInt ∧ n.toInt ≤ 9
    · refine gx_top (v := 1) (if_pos c_4) ?_
      refine lv_if_eq (tgt := 41) hx hb dX12_marks_26 (by decide) (fun h => absurd h (by decide)) (fun _ => ?_)
      refine lv_iload_n hx hb dX12_marks_29 rfl (lv_at hl 3 rfl) ?_
      refine lv_i2l (v := t.toInt64) hx hb dX12_marks_30 rfl ?_
      refine lv_lconst (v := 0) hx hb dX12_marks_31 (by decide) ?_
      refine lv_ldc2 (v := 4095) hx hb S.2.2.2.1 (S.2.2.2.2 _ mw_2085) dX12_marks_32 ?_
      refine gx_cSi (As := [.long t.toInt64, .long 0, .long 4095]) (rest := []) S hK gx_ok hw (c_in l (E := E) (up2 (σ) 199 0 0) (τ) t 0 4095 0 4095 (by first | rfl | decide | simp [up2, gs0, hm]) (by first | rfl | decide | simp [up2, gs0, hm])) cw_X12_129 ⟨Nat.le_of_ble_eq_true rfl, Nat.le_of_ble_eq_true rfl⟩ rfl hl.1 rfl (Nat.le_of_ble_eq_true rfl) ⟨Nat.le_of_ble_eq_true rfl, Nat.le_of_ble_eq_true rfl⟩ dX12_marks_35 (fun r_5 σ_5 τ_5 H locs hp hw => ?_)
      obtain ⟨er_5, es_5, et_5⟩ := hp
      obtain rfl := er_5.symm
      obtain rfl := es_5.symm
      obtain rfl := et_5.symm
      by_cases c_6 : 0 ≤ t.toInt ∧ t.toInt ≤ 4095
      · refine gx_top (v := 1) (if_pos c_6) ?_
        refine lv_if_ne (tgt := 43) hx hb dX12_marks_38 (by decide) (fun _ => ?_) (fun h => absurd h (by decide))
        refine lv_aload_n hx hb dX12_marks_43 rfl (lv_at hl 0 rfl) ?_
        refine gx_cVv (As := []) (rest := []) S hK gx_ok hw (c_thinksNow l (E := E) (up2 (σ) 199 0 0) (τ) (by first | rfl | decide | simp [up2, gs0, hm]) (by first | rfl | decide | simp [up2, gs0, hm])) cw_X12_409 t_199 cl_13 ⟨Nat.le_of_ble_eq_true rfl, Nat.le_of_ble_eq_true rfl⟩ rfl hl.1 rfl (Nat.le_of_ble_eq_true rfl) ⟨Nat.le_of_ble_eq_true rfl, Nat.le_of_ble_eq_true rfl⟩ dX12_marks_44 (fun σ_7 τ_7 H locs hp hw => ?_)
        obtain ⟨hs_7, et_7⟩ := hp
        obtain rfl := et_7.symm
        refine lv_iconst (v := 0) hx hb dX12_marks_47 (by decide) ?_
        refine lv_istore (lv' := [(4, .int 0), (0, .ref (E.2.2 + 199)), (1, .int b), (2, .int n), (3, .int t)]) hx hb dX12_marks_48 hl (by decide) rfl (fun ls hl => ?_)
        refine lv_iconst (v := (-1)) hx hb dX12_marks_50 (by decide) ?_
        refine lv_istore (lv' := [(5, .int (-1)), (4, .int 0), (0, .ref (E.2.2 + 199)), (1, .int b), (2, .int n), (3, .int t)]) hx hb dX12_marks_51 hl (by decide) rfl (fun ls hl => ?_)
        refine lv_iconst (v := (-1)) hx hb dX12_marks_53 (by decide) ?_
        refine lv_istore (lv' := [(6, .int (-1)), (5, .int (-1)), (4, .int 0), (0, .ref (E.2.2 + 199)), (1, .int b), (2, .int n), (3, .int t)]) hx hb dX12_marks_54 hl (by decide) rfl (fun ls hl => ?_)
        refine lv_iconst (v := 0) hx hb dX12_marks_56 (by decide) ?_
        refine lv_istore (lv' := [(7, .int 0), (6, .int (-1)), (5, .int (-1)), (4, .int 0), (0, .ref (E.2.2 + 199)), (1, .int b), (2, .int n), (3, .int t)]) hx hb dX12_marks_57 hl (by decide) rfl (fun ls hl => ?_)
        refine lv_iconst (v := 0) hx hb dX12_marks_59 (by decide) ?_
        refine lv_istore (lv' := [(8, .int 0), (7, .int 0), (6, .int (-1)), (5, .int (-1)), (4, .int 0), (0, .ref (E.2.2 + 199)), (1, .int b), (2, .int n), (3, .int t)]) hx hb dX12_marks_60 hl (by decide) rfl (fun ls hl => ?_)
        refine lv_iload hx hb dX12_marks_62 (lv_at hl 0 rfl) ?_
        refine lv_aload_n hx hb dX12_marks_64 rfl (lv_at hl 5 rfl) ?_
        refine gx_get S hK hw t_199 cl_13 3 (by decide) rfl mw_1417 rfl dX12_marks_65 ?_
        refine gx_top (v := 0) (by first | rfl | decide | simp [up2, gs0, hm, hs_7]) ?_
        refine lv_icmp_ge (tgt := 166) hx hb dX12_marks_68 (by decide) (fun _ => ?_) (fun h => absurd (by decide) h)
        refine lv_aload_n hx hb dX12_marks_166 rfl (lv_at hl 5 rfl) ?_
        refine lv_iconst (v := 0) hx hb dX12_marks_167 (by decide) ?_
        refine gx_put S hK gx_ok hw t_199 cl_13 1 (by decide) rfl mw_1415 rfl rfl (ty := .int) (v := 0) (by decide +kernel) rfl rfl dX12_marks_168 (fun H locs hw => ?_)
        refine lv_iload hx hb dX12_marks_171 (lv_at hl 4 rfl) ?_
        refine lv_if_le (tgt := 190) hx hb dX12_marks_173 (by decide) (fun _ => ?_) (fun h => absurd (by decide) h)
        refine lv_aload_n hx hb dX12_marks_190 rfl (lv_at hl 5 rfl) ?_
        refine lv_iload hx hb dX12_marks_191 (lv_at hl 1 rfl) ?_
        refine lv_i2l (v := 0) hx hb dX12_marks_193 (by decide) ?_
        refine gx_cVv (As := [.long 0]) (rest := []) S hK gx_ok hw (c_enters0 l (E := E) (up2 (σ_7) 199 1 0) (τ) 0 (by first | rfl | decide | simp [up2, gs0, hm, hs_7])) cw_X12_122 t_199 cl_13 ⟨Nat.le_of_ble_eq_true rfl, Nat.le_of_ble_eq_true rfl⟩ rfl hl.1 rfl (Nat.le_of_ble_eq_true rfl) ⟨Nat.le_of_ble_eq_true rfl, Nat.le_of_ble_eq_true rfl⟩ dX12_marks_194 (fun σ_8 τ_8 H locs hp hw => ?_)
        obtain ⟨es_8, -⟩ := hp
        obtain rfl := es_8.symm
        refine lv_iload hx hb dX12_marks_197 (lv_at hl 4 rfl) ?_
        exact gx_ri (post := fun r σ1 τ1 => r = (if 0 ≤ b.toInt ∧ b.toInt ≤ 99 ∧ 0 ≤ n.toInt ∧ n.toInt ≤ 9 ∧ 0 ≤ t.toInt ∧ t.toInt < 4096 then 0 else (-1)) ∧ True ∧ True) (v := 0) S hr hlk hw rfl dX12_marks_199 ⟨(by exact (if_pos (by omega)).symm), trivial, trivial⟩
      · refine gx_top (v := 0) ((if_neg c_6).trans (rfl)) ?_
        refine lv_if_ne (tgt := 43) hx hb dX12_marks_38 (by decide) (fun h => absurd (by decide) h) (fun _ => ?_)
        refine lv_iconst (v := (-1)) hx hb dX12_marks_41 (by decide) ?_
        exact gx_ri (post := fun r σ1 τ1 => r = (if 0 ≤ b.toInt ∧ b.toInt ≤ 99 ∧ 0 ≤ n.toInt ∧ n.toInt ≤ 9 ∧ 0 ≤ t.toInt ∧ t.toInt < 4096 then 0 else (-1)) ∧ True ∧ True) (v := (-1)) S hr hlk hw rfl dX12_marks_42 ⟨(by exact ((if_neg (by omega)).trans (rfl)).symm), trivial, trivial⟩
    · refine gx_top (v := 0) ((if_neg c_4).trans (rfl)) ?_
      refine lv_if_eq (tgt := 41) hx hb dX12_marks_26 (by decide) (fun _ => ?_) (fun h => absurd (by decide) h)
      refine lv_iconst (v := (-1)) hx hb dX12_marks_41 (by decide) ?_
      exact gx_ri (post := fun r σ1 τ1 => r = (if 0 ≤ b.toInt ∧ b.toInt ≤ 99 ∧ 0 ≤ n.toInt ∧ n.toInt ≤ 9 ∧ 0 ≤ t.toInt ∧ t.toInt < 4096 then 0 else (-1)) ∧ True ∧ True) (v := (-1)) S hr hlk hw rfl dX12_marks_42 ⟨(by exact ((if_neg (by omega)).trans (rfl)).symm), trivial, trivial⟩
  · refine gx_top (v := 0) ((if_neg c_2).trans (rfl)) ?_
    refine lv_if_eq (tgt := 41) hx hb dX12_marks_14 (by decide) (fun _ => ?_) (fun h => absurd (by decide) h)
    refine lv_iconst (v := (-1)) hx hb dX12_marks_41 (by decide) ?_
    exact gx_ri (post := fun r σ1 τ1 => r = (if 0 ≤ b.toInt ∧ b.toInt ≤ 99 ∧ 0 ≤ n.toInt ∧ n.toInt ≤ 9 ∧ 0 ≤ t.toInt ∧ t.toInt < 4096 then 0 else (-1)) ∧ True ∧ True) (v := (-1)) S hr hlk hw rfl dX12_marks_42 ⟨(by exact ((if_neg (by omega)).trans (rfl)).symm), trivial, trivial⟩
set_option maxHeartbeats 4000000 in
set_option maxRecDepth 100000 in
theorem c_m_order (l : Launch) {E : gE} (σ : gI) (τ : gJ) (i n : Int32) (hm : ∀ c k : Nat, 199 ≤ c → σ c k = 0) : gx_Mi l yX12_order cX12_order 10 (some .int) 2 gx_tb E (σ) (τ) [.ref (E.2.2 + 199), .int i, .int n] (fun r σ1 τ1 => r = (-1) ∧ True ∧ True) := by
  refine gx_bi (by decide +kernel) (Nat.le_of_ble_eq_true rfl) ?_
  intro P9 e9 s m9 below meth C9 S hr hlk hK hw ls hl
  have S : CallFix P9 m9 C9 cX12_order 10 s _ gx_G RX12 := S
  have hx := S.1
  have hb := S.2.1
  have hl : lv_has ls 10 [(0, .ref (E.2.2 + 199)), (1, .int i), (2, .int n)] := hl
  refine lv_aload_n hx hb dX12_order_0 rfl (lv_at hl 0 rfl) ?_
  refine lv_iconst (v := 0) hx hb dX12_order_1 (by decide) ?_
  refine gx_put S hK gx_ok hw t_199 cl_13 0 (by decide) rfl mw_1414 rfl rfl (ty := .int) (v := 0) (by decide +kernel) rfl rfl dX12_order_2 (fun H locs hw => ?_)
  refine lv_aload_n hx hb dX12_order_5 rfl (lv_at hl 0 rfl) ?_
  refine lv_iload_n hx hb dX12_order_6 rfl (lv_at hl 1 rfl) ?_
  refine gx_cVi (As := [.int i]) (rest := []) S hK gx_ok hw (c_isThing l (E := E) (up2 (σ) 199 0 0) (τ) i (by first | rfl | decide | simp [up2, gs0, hm])) cw_X12_309 t_199 cl_13 ⟨Nat.le_of_ble_eq_true rfl, Nat.le_of_ble_eq_true rfl⟩ rfl hl.1 rfl (Nat.le_of_ble_eq_true rfl) ⟨Nat.le_of_ble_eq_true rfl, Nat.le_of_ble_eq_true rfl⟩ dX12_order_7 (fun r_1 σ_1 τ_1 H locs hp hw => ?_)
  obtain ⟨er_1, es_1, et_1⟩ := hp
  obtain rfl := er_1.symm
  obtain rfl := es_1.symm
  obtain rfl := et_1.symm
  refine lv_if_eq (tgt := 54) hx hb dX12_order_10 (by decide) (fun _ => ?_) (fun h => absurd (by decide) h)
  refine lv_iconst (v := (-1)) hx hb dX12_order_54 (by decide) ?_
  exact gx_ri (post := fun r σ1 τ1 => r = (-1) ∧ True ∧ True) (v := (-1)) S hr hlk hw rfl dX12_order_55 ⟨rfl, trivial, trivial⟩
set_option maxHeartbeats 4000000 in
set_option maxRecDepth 100000 in
theorem c_m_keep (l : Launch) {E : gE} (σ : gI) (τ : gJ) (i9 : Int32) (hm : ∀ c k : Nat, 199 ≤ c → σ c k = 0) : gx_Mi l yX12_keep cX12_keep 3 (some .boolean) 1 gx_tb E (σ) (τ) [.ref (E.2.2 + 199), .int i9] (fun r σ1 τ1 => r = (if 0 ≤ i9.toInt ∧ i9.toInt ≤ 2 then 1 else 0) ∧ True ∧ True) := by
  refine gx_bi (by decide +kernel) (Nat.le_of_ble_eq_true rfl) ?_
  intro P9 e9 s m9 below meth C9 S hr hlk hK hw ls hl
  have S : CallFix P9 m9 C9 cX12_keep 3 s _ gx_G RX12 := S
  have hx := S.1
  have hb := S.2.1
  have hl : lv_has ls 3 [(0, .ref (E.2.2 + 199)), (1, .int i9)] := hl
  refine lv_aload_n hx hb dX12_keep_0 rfl (lv_at hl 0 rfl) ?_
  refine lv_iconst (v := 0) hx hb dX12_keep_1 (by decide) ?_
  refine gx_put S hK gx_ok hw t_199 cl_13 0 (by decide) rfl mw_1414 rfl rfl (ty := .int) (v := 0) (by decide +kernel) rfl rfl dX12_keep_2 (fun H locs hw => ?_)
  refine lv_iload_n hx hb dX12_keep_5 rfl (lv_at hl 1 rfl) ?_
  refine lv_i2l (v := i9.toInt64) hx hb dX12_keep_6 rfl ?_
  refine lv_lconst (v := 0) hx hb dX12_keep_7 (by decide) ?_
  refine lv_ldc2 (v := 2) hx hb S.2.2.2.1 (S.2.2.2.2 _ mw_2094) dX12_keep_8 ?_
  refine gx_cSi (As := [.long i9.toInt64, .long 0, .long 2]) (rest := []) S hK gx_ok hw (c_in l (E := E) (up2 (σ) 199 0 0) (τ) i9 0 2 0 2 (by first | rfl | decide | simp [up2, gs0, hm]) (by first | rfl | decide | simp [up2, gs0, hm])) cw_X12_129 ⟨Nat.le_of_ble_eq_true rfl, Nat.le_of_ble_eq_true rfl⟩ rfl hl.1 rfl (Nat.le_of_ble_eq_true rfl) ⟨Nat.le_of_ble_eq_true rfl, Nat.le_of_ble_eq_true rfl⟩ dX12_keep_11 (fun r_1 σ_1 τ_1 H locs hp hw => ?_)
  obtain ⟨er_1, es_1, et_1⟩ := hp
  obtain rfl := er_1.symm
  obtain rfl := es_1.symm
  obtain rfl := et_1.symm
  by_cases c_2 : 0 ≤ i9.toInt ∧ i9.toInt ≤ 2
  · refine gx_top (v := 1) (if_pos c_2) ?_
    refine lv_if_ne (tgt := 19) hx hb dX12_keep_14 (by decide) (fun _ => ?_) (fun h => absurd h (by decide))
    have hsp : i9 = 0 ∨ i9 = 1 ∨ i9 = 2 := by simp only [fa_eq, show (0 : Int32).toInt = 0 from rfl, show (1 : Int32).toInt = 1 from rfl, show (2 : Int32).toInt = 2 from rfl]; omega
    rcases hsp with e_3 | e_4 | e_5
    · have hl : lv_has ls 3 [(0, .ref (E.2.2 + 199)), (1, .int 0)] := by rw [e_3] at hl; exact hl
      refine lv_aload_n hx hb dX12_keep_19 rfl (lv_at hl 0 rfl) ?_
      refine gx_getr (j := 231) S hK hw t_199 cl_13 58 (by decide) rfl mw_1472 rfl dX12_keep_20 ?_
      refine lv_iload_n hx hb dX12_keep_23 rfl (lv_at hl 1 rfl) ?_
      refine lv_iconst (v := 1) hx hb dX12_keep_24 (by decide) ?_
      refine gx_zast S hK gx_ok hw t_231 0 rfl (gx_in rfl (by decide) (by decide)) (by decide) dX12_keep_25 (fun H locs hw => ?_)
      refine lv_iconst (v := 0) hx hb dX12_keep_26 (by decide) ?_
      refine lv_istore_n (lv' := [(2, .int 0), (0, .ref (E.2.2 + 199)), (1, .int 0)]) hx hb dX12_keep_27 rfl hl (by decide) rfl (fun ls hl => ?_)
      have loop_6 : ∀ (n6 : Nat) (i : Nat) (H : Heap) (locs : List Loc) (ls : Array Slot), 45 - i < n6 → (i ≤ 45) → gx_W gx_tb (gx_tb).length E s (up2 (up2 (σ) 199 0 0) 231 0 1) (τ) H locs → lv_has ls 3 [(0, .ref (E.2.2 + 199)), (1, .int 0), (2, .int (nI i))] → W P9 l e9 (gx_rm 1) s m9 ([.ref (E.2.2 + 199), .int i9] : List Value).toArray below meth C9 H locs 0 0 (MQ below (va_Qi (fun r (u : gI × gJ) => (fun r σ1 τ1 => r = (if 0 ≤ i9.toInt ∧ i9.toInt ≤ 2 then 1 else 0) ∧ True ∧ True) r u.1 u.2) (fun u t => gx_P gx_tb E u.1 u.2 t.heap) (gx_A (gx_tb).length E.2.2 s.heap.size)) ([.ref (E.2.2 + 199), .int i9] : List Value).toArray s 0 0 (gx_A (gx_tb).length E.2.2 s.heap.size)) (F0 m9 28 ls []) := by
        intro n6
        induction n6 with
        | zero => intro i H locs ls hmz; exact absurd hmz (Nat.not_lt_zero _)
        | succ n6 ih_6 =>
          intro i H locs ls hmz hi hw hl
          refine lv_iload_n hx hb dX12_keep_28 rfl (lv_at hl 2 rfl) ?_
          refine lv_bipush (v := 45) hx hb dX12_keep_29 (by decide) ?_
          refine lv_icmp_ge (tgt := 57) hx hb dX12_keep_31 (by decide) (fun c_7 => ?_) (fun c_7 => ?_)
          · refine lv_iconst (v := 1) hx hb dX12_keep_57 (by decide) ?_
            exact gx_ri (post := fun r σ1 τ1 => r = (if 0 ≤ i9.toInt ∧ i9.toInt ≤ 2 then 1 else 0) ∧ True ∧ True) (v := 1) S hr hlk hw rfl dX12_keep_58 ⟨(by simp only [fa_lt, fa_le, fa_eq, show (0 : Int32).toInt = 0 from rfl, show (45 : Int32).toInt = 45 from rfl] at e_3 c_7; exact (if_pos (by omega)).symm), trivial, trivial⟩
          · have hlt : i < 45 := gx_ilt (k := 45) rfl (by omega) c_7
            refine lv_aload_n hx hb dX12_keep_34 rfl (lv_at hl 0 rfl) ?_
            refine gx_getr (j := 232) S hK hw t_199 cl_13 59 (by decide) rfl mw_1473 rfl dX12_keep_35 ?_
            refine lv_bipush (v := 45) hx hb dX12_keep_38 (by decide) ?_
            refine lv_iload_n hx hb dX12_keep_40 rfl (lv_at hl 1 rfl) ?_
            refine lv_imul hx hb dX12_keep_41 ?_
            refine gx_top (v := 0) (by decide) ?_
            refine lv_iload_n hx hb dX12_keep_42 rfl (lv_at hl 2 rfl) ?_
            refine lv_iadd hx hb dX12_keep_43 ?_
            refine gx_top (v := nI i) (by simp) ?_
            refine lv_aload_n hx hb dX12_keep_44 rfl (lv_at hl 0 rfl) ?_
            refine gx_getr (j := 206) S hK hw t_199 cl_13 10 (by decide) rfl mw_1424 rfl dX12_keep_45 ?_
            refine lv_iload_n hx hb dX12_keep_48 rfl (lv_at hl 2 rfl) ?_
            refine gx_iald S hK hw t_206 i (nI_clamp (by omega)) (vp_in_nI (by omega) (by omega)) dX12_keep_49 ?_
            refine gx_top (v := 0) (by first | rfl | decide | simp [up2, gs0, hm]) ?_
            refine gx_iast S hK gx_ok hw t_232 i (nI_clamp (by omega)) (vp_in_nI (by omega) (by omega)) dX12_keep_50 (fun H locs hw => ?_)
            rw [up2_id (by simp [up2, hm])] at hw
            refine lv_iinc (v := nI (i + 1)) (lv' := [(2, .int (nI (i + 1))), (0, .ref (E.2.2 + 199)), (1, .int 0)]) hx hb dX12_keep_51 hl (k := 2) rfl (nI_1 _) (by decide) rfl (fun ls hl => ?_)
            refine lv_goto (tgt := 28) hx hb dX12_keep_54 (by decide) ?_
            exact ih_6 (i + 1) _ _ _ (by omega) (by omega) hw (lv_sub hl [1, 2, 0] rfl)
      exact loop_6 (45 + 1) 0 _ _ _ (by omega) (by omega) hw (lv_sub hl [1, 2, 0] rfl)
    · have hl : lv_has ls 3 [(0, .ref (E.2.2 + 199)), (1, .int 1)] := by rw [e_4] at hl; exact hl
      refine lv_aload_n hx hb dX12_keep_19 rfl (lv_at hl 0 rfl) ?_
      refine gx_getr (j := 231) S hK hw t_199 cl_13 58 (by decide) rfl mw_1472 rfl dX12_keep_20 ?_
      refine lv_iload_n hx hb dX12_keep_23 rfl (lv_at hl 1 rfl) ?_
      refine lv_iconst (v := 1) hx hb dX12_keep_24 (by decide) ?_
      refine gx_zast S hK gx_ok hw t_231 1 rfl (gx_in rfl (by decide) (by decide)) (by decide) dX12_keep_25 (fun H locs hw => ?_)
      refine lv_iconst (v := 0) hx hb dX12_keep_26 (by decide) ?_
      refine lv_istore_n (lv' := [(2, .int 0), (0, .ref (E.2.2 + 199)), (1, .int 1)]) hx hb dX12_keep_27 rfl hl (by decide) rfl (fun ls hl => ?_)
      have loop_8 : ∀ (n8 : Nat) (i : Nat) (H : Heap) (locs : List Loc) (ls : Array Slot), 45 - i < n8 → (i ≤ 45) → gx_W gx_tb (gx_tb).length E s (up2 (up2 (σ) 199 0 0) 231 1 1) (τ) H locs → lv_has ls 3 [(0, .ref (E.2.2 + 199)), (1, .int 1), (2, .int (nI i))] → W P9 l e9 (gx_rm 1) s m9 ([.ref (E.2.2 + 199), .int i9] : List Value).toArray below meth C9 H locs 0 0 (MQ below (va_Qi (fun r (u : gI × gJ) => (fun r σ1 τ1 => r = (if 0 ≤ i9.toInt ∧ i9.toInt ≤ 2 then 1 else 0) ∧ True ∧ True) r u.1 u.2) (fun u t => gx_P gx_tb E u.1 u.2 t.heap) (gx_A (gx_tb).length E.2.2 s.heap.size)) ([.ref (E.2.2 + 199), .int i9] : List Value).toArray s 0 0 (gx_A (gx_tb).length E.2.2 s.heap.size)) (F0 m9 28 ls []) := by
        intro n8
        induction n8 with
        | zero => intro i H locs ls hmz; exact absurd hmz (Nat.not_lt_zero _)
        | succ n8 ih_8 =>
          intro i H locs ls hmz hi hw hl
          refine lv_iload_n hx hb dX12_keep_28 rfl (lv_at hl 2 rfl) ?_
          refine lv_bipush (v := 45) hx hb dX12_keep_29 (by decide) ?_
          refine lv_icmp_ge (tgt := 57) hx hb dX12_keep_31 (by decide) (fun c_9 => ?_) (fun c_9 => ?_)
          · refine lv_iconst (v := 1) hx hb dX12_keep_57 (by decide) ?_
            exact gx_ri (post := fun r σ1 τ1 => r = (if 0 ≤ i9.toInt ∧ i9.toInt ≤ 2 then 1 else 0) ∧ True ∧ True) (v := 1) S hr hlk hw rfl dX12_keep_58 ⟨(by simp only [fa_lt, fa_le, fa_eq, show (1 : Int32).toInt = 1 from rfl, show (45 : Int32).toInt = 45 from rfl] at e_4 c_9; exact (if_pos (by omega)).symm), trivial, trivial⟩
          · have hlt : i < 45 := gx_ilt (k := 45) rfl (by omega) c_9
            refine lv_aload_n hx hb dX12_keep_34 rfl (lv_at hl 0 rfl) ?_
            refine gx_getr (j := 232) S hK hw t_199 cl_13 59 (by decide) rfl mw_1473 rfl dX12_keep_35 ?_
            refine lv_bipush (v := 45) hx hb dX12_keep_38 (by decide) ?_
            refine lv_iload_n hx hb dX12_keep_40 rfl (lv_at hl 1 rfl) ?_
            refine lv_imul hx hb dX12_keep_41 ?_
            refine gx_top (v := 45) (by decide) ?_
            refine lv_iload_n hx hb dX12_keep_42 rfl (lv_at hl 2 rfl) ?_
            refine lv_iadd hx hb dX12_keep_43 ?_
            refine lv_aload_n hx hb dX12_keep_44 rfl (lv_at hl 0 rfl) ?_
            refine gx_getr (j := 206) S hK hw t_199 cl_13 10 (by decide) rfl mw_1424 rfl dX12_keep_45 ?_
            refine lv_iload_n hx hb dX12_keep_48 rfl (lv_at hl 2 rfl) ?_
            refine gx_iald S hK hw t_206 i (nI_clamp (by omega)) (vp_in_nI (by omega) (by omega)) dX12_keep_49 ?_
            refine gx_top (v := 0) (by first | rfl | decide | simp [up2, gs0, hm]) ?_
            refine gx_iast S hK gx_ok hw t_232 (45 + i) (by rw [show (45 : Int32) = nI 45 from rfl, nI_add]; exact nI_clamp (by omega)) (by rw [show (45 : Int32) = nI 45 from rfl, nI_add]; exact vp_in_nI (by omega) (by omega)) dX12_keep_50 (fun H locs hw => ?_)
            rw [up2_id (by simp [up2, hm])] at hw
            refine lv_iinc (v := nI (i + 1)) (lv' := [(2, .int (nI (i + 1))), (0, .ref (E.2.2 + 199)), (1, .int 1)]) hx hb dX12_keep_51 hl (k := 2) rfl (nI_1 _) (by decide) rfl (fun ls hl => ?_)
            refine lv_goto (tgt := 28) hx hb dX12_keep_54 (by decide) ?_
            exact ih_8 (i + 1) _ _ _ (by omega) (by omega) hw (lv_sub hl [1, 2, 0] rfl)
      exact loop_8 (45 + 1) 0 _ _ _ (by omega) (by omega) hw (lv_sub hl [1, 2, 0] rfl)
    · have hl : lv_has ls 3 [(0, .ref (E.2.2 + 199)), (1, .int 2)] := by rw [e_5] at hl; exact hl
      refine lv_aload_n hx hb dX12_keep_19 rfl (lv_at hl 0 rfl) ?_
      refine gx_getr (j := 231) S hK hw t_199 cl_13 58 (by decide) rfl mw_1472 rfl dX12_keep_20 ?_
      refine lv_iload_n hx hb dX12_keep_23 rfl (lv_at hl 1 rfl) ?_
      refine lv_iconst (v := 1) hx hb dX12_keep_24 (by decide) ?_
      refine gx_zast S hK gx_ok hw t_231 2 rfl (gx_in rfl (by decide) (by decide)) (by decide) dX12_keep_25 (fun H locs hw => ?_)
      refine lv_iconst (v := 0) hx hb dX12_keep_26 (by decide) ?_
      refine lv_istore_n (lv' := [(2, .int 0), (0, .ref (E.2.2 + 199)), (1, .int 2)]) hx hb dX12_keep_27 rfl hl (by decide) rfl (fun ls hl => ?_)
      have loop_10 : ∀ (n10 : Nat) (i : Nat) (H : Heap) (locs : List Loc) (ls : Array Slot), 45 - i < n10 → (i ≤ 45) → gx_W gx_tb (gx_tb).length E s (up2 (up2 (σ) 199 0 0) 231 2 1) (τ) H locs → lv_has ls 3 [(0, .ref (E.2.2 + 199)), (1, .int 2), (2, .int (nI i))] → W P9 l e9 (gx_rm 1) s m9 ([.ref (E.2.2 + 199), .int i9] : List Value).toArray below meth C9 H locs 0 0 (MQ below (va_Qi (fun r (u : gI × gJ) => (fun r σ1 τ1 => r = (if 0 ≤ i9.toInt ∧ i9.toInt ≤ 2 then 1 else 0) ∧ True ∧ True) r u.1 u.2) (fun u t => gx_P gx_tb E u.1 u.2 t.heap) (gx_A (gx_tb).length E.2.2 s.heap.size)) ([.ref (E.2.2 + 199), .int i9] : List Value).toArray s 0 0 (gx_A (gx_tb).length E.2.2 s.heap.size)) (F0 m9 28 ls []) := by
        intro n10
        induction n10 with
        | zero => intro i H locs ls hmz; exact absurd hmz (Nat.not_lt_zero _)
        | succ n10 ih_10 =>
          intro i H locs ls hmz hi hw hl
          refine lv_iload_n hx hb dX12_keep_28 rfl (lv_at hl 2 rfl) ?_
          refine lv_bipush (v := 45) hx hb dX12_keep_29 (by decide) ?_
          refine lv_icmp_ge (tgt := 57) hx hb dX12_keep_31 (by decide) (fun c_11 => ?_) (fun c_11 => ?_)
          · refine lv_iconst (v := 1) hx hb dX12_keep_57 (by decide) ?_
            exact gx_ri (post := fun r σ1 τ1 => r = (if 0 ≤ i9.toInt ∧ i9.toInt ≤ 2 then 1 else 0) ∧ True ∧ True) (v := 1) S hr hlk hw rfl dX12_keep_58 ⟨(by simp only [fa_lt, fa_le, fa_eq, show (2 : Int32).toInt = 2 from rfl, show (45 : Int32).toInt = 45 from rfl] at e_5 c_11; exact (if_pos (by omega)).symm), trivial, trivial⟩
          · have hlt : i < 45 := gx_ilt (k := 45) rfl (by omega) c_11
            refine lv_aload_n hx hb dX12_keep_34 rfl (lv_at hl 0 rfl) ?_
            refine gx_getr (j := 232) S hK hw t_199 cl_13 59 (by decide) rfl mw_1473 rfl dX12_keep_35 ?_
            refine lv_bipush (v := 45) hx hb dX12_keep_38 (by decide) ?_
            refine lv_iload_n hx hb dX12_keep_40 rfl (lv_at hl 1 rfl) ?_
            refine lv_imul hx hb dX12_keep_41 ?_
            refine gx_top (v := 90) (by decide) ?_
            refine lv_iload_n hx hb dX12_keep_42 rfl (lv_at hl 2 rfl) ?_
            refine lv_iadd hx hb dX12_keep_43 ?_
            refine lv_aload_n hx hb dX12_keep_44 rfl (lv_at hl 0 rfl) ?_
            refine gx_getr (j := 206) S hK hw t_199 cl_13 10 (by decide) rfl mw_1424 rfl dX12_keep_45 ?_
            refine lv_iload_n hx hb dX12_keep_48 rfl (lv_at hl 2 rfl) ?_
            refine gx_iald S hK hw t_206 i (nI_clamp (by omega)) (vp_in_nI (by omega) (by omega)) dX12_keep_49 ?_
            refine gx_top (v := 0) (by first | rfl | decide | simp [up2, gs0, hm]) ?_
            refine gx_iast S hK gx_ok hw t_232 (90 + i) (by rw [show (90 : Int32) = nI 90 from rfl, nI_add]; exact nI_clamp (by omega)) (by rw [show (90 : Int32) = nI 90 from rfl, nI_add]; exact vp_in_nI (by omega) (by omega)) dX12_keep_50 (fun H locs hw => ?_)
            rw [up2_id (by simp [up2, hm])] at hw
            refine lv_iinc (v := nI (i + 1)) (lv' := [(2, .int (nI (i + 1))), (0, .ref (E.2.2 + 199)), (1, .int 2)]) hx hb dX12_keep_51 hl (k := 2) rfl (nI_1 _) (by decide) rfl (fun ls hl => ?_)
            refine lv_goto (tgt := 28) hx hb dX12_keep_54 (by decide) ?_
            exact ih_10 (i + 1) _ _ _ (by omega) (by omega) hw (lv_sub hl [1, 2, 0] rfl)
      exact loop_10 (45 + 1) 0 _ _ _ (by omega) (by omega) hw (lv_sub hl [1, 2, 0] rfl)
  · refine gx_top (v := 0) ((if_neg c_2).trans (rfl)) ?_
    refine lv_if_ne (tgt := 19) hx hb dX12_keep_14 (by decide) (fun h => absurd (by decide) h) (fun _ => ?_)
    refine lv_iconst (v := 0) hx hb dX12_keep_17 (by decide) ?_
    exact gx_ri (post := fun r σ1 τ1 => r = (if 0 ≤ i9.toInt ∧ i9.toInt ≤ 2 then 1 else 0) ∧ True ∧ True) (v := 0) S hr hlk hw rfl dX12_keep_18 ⟨(by exact ((if_neg (by omega)).trans (rfl)).symm), trivial, trivial⟩
set_option maxHeartbeats 4000000 in
set_option maxRecDepth 100000 in
theorem c_m_again (l : Launch) {E : gE} (σ : gI) (τ : gJ) (i9 : Int32) (hm : ∀ c k : Nat, 199 ≤ c → σ c k = 0) : gx_Mi l yX12_again cX12_again 3 (some .boolean) 1 gx_tb E (σ) (τ) [.ref (E.2.2 + 199), .int i9] (fun r σ1 τ1 => r = 0 ∧ True ∧ True) := by
  refine gx_bi (by decide +kernel) (Nat.le_of_ble_eq_true rfl) ?_
  intro P9 e9 s m9 below meth C9 S hr hlk hK hw ls hl
  have S : CallFix P9 m9 C9 cX12_again 3 s _ gx_G RX12 := S
  have hx := S.1
  have hb := S.2.1
  have hl : lv_has ls 3 [(0, .ref (E.2.2 + 199)), (1, .int i9)] := hl
  refine lv_aload_n hx hb dX12_again_0 rfl (lv_at hl 0 rfl) ?_
  refine lv_iconst (v := 0) hx hb dX12_again_1 (by decide) ?_
  refine gx_put S hK gx_ok hw t_199 cl_13 0 (by decide) rfl mw_1414 rfl rfl (ty := .int) (v := 0) (by decide +kernel) rfl rfl dX12_again_2 (fun H locs hw => ?_)
  refine lv_iload_n hx hb dX12_again_5 rfl (lv_at hl 1 rfl) ?_
  refine lv_i2l (v := i9.toInt64) hx hb dX12_again_6 rfl ?_
  refine lv_lconst (v := 0) hx hb dX12_again_7 (by decide) ?_
  refine lv_ldc2 (v := 2) hx hb S.2.2.2.1 (S.2.2.2.2 _ mw_2094) dX12_again_8 ?_
  refine gx_cSi (As := [.long i9.toInt64, .long 0, .long 2]) (rest := []) S hK gx_ok hw (c_in l (E := E) (up2 (σ) 199 0 0) (τ) i9 0 2 0 2 (by first | rfl | decide | simp [up2, gs0, hm]) (by first | rfl | decide | simp [up2, gs0, hm])) cw_X12_129 ⟨Nat.le_of_ble_eq_true rfl, Nat.le_of_ble_eq_true rfl⟩ rfl hl.1 rfl (Nat.le_of_ble_eq_true rfl) ⟨Nat.le_of_ble_eq_true rfl, Nat.le_of_ble_eq_true rfl⟩ dX12_again_11 (fun r_1 σ_1 τ_1 H locs hp hw => ?_)
  obtain ⟨er_1, es_1, et_1⟩ := hp
  obtain rfl := er_1.symm
  obtain rfl := es_1.symm
  obtain rfl := et_1.symm
  by_cases c_2 : 0 ≤ i9.toInt ∧ i9.toInt ≤ 2
  · refine gx_top (v := 1) (if_pos c_2) ?_
    refine lv_if_eq (tgt := 26) hx hb dX12_again_14 (by decide) (fun h => absurd h (by decide)) (fun _ => ?_)
    have hsp : i9 = 0 ∨ i9 = 1 ∨ i9 = 2 := by simp only [fa_eq, show (0 : Int32).toInt = 0 from rfl, show (1 : Int32).toInt = 1 from rfl, show (2 : Int32).toInt = 2 from rfl]; omega
    rcases hsp with e_3 | e_4 | e_5
    · have hl : lv_has ls 3 [(0, .ref (E.2.2 + 199)), (1, .int 0)] := by rw [e_3] at hl; exact hl
      refine lv_aload_n hx hb dX12_again_17 rfl (lv_at hl 0 rfl) ?_
      refine gx_getr (j := 231) S hK hw t_199 cl_13 58 (by decide) rfl mw_1472 rfl dX12_again_18 ?_
      refine lv_iload_n hx hb dX12_again_21 rfl (lv_at hl 1 rfl) ?_
      refine gx_zald S hK hw t_231 0 rfl (gx_in rfl (by decide) (by decide)) dX12_again_22 ?_
      refine gx_top (v := 0) (by first | rfl | decide | simp [up2, gs0, hm]) ?_
      refine lv_if_ne (tgt := 28) hx hb dX12_again_23 (by decide) (fun h => absurd (by decide) h) (fun _ => ?_)
      refine lv_iconst (v := 0) hx hb dX12_again_26 (by decide) ?_
      exact gx_ri (post := fun r σ1 τ1 => r = 0 ∧ True ∧ True) (v := 0) S hr hlk hw rfl dX12_again_27 ⟨rfl, trivial, trivial⟩
    · have hl : lv_has ls 3 [(0, .ref (E.2.2 + 199)), (1, .int 1)] := by rw [e_4] at hl; exact hl
      refine lv_aload_n hx hb dX12_again_17 rfl (lv_at hl 0 rfl) ?_
      refine gx_getr (j := 231) S hK hw t_199 cl_13 58 (by decide) rfl mw_1472 rfl dX12_again_18 ?_
      refine lv_iload_n hx hb dX12_again_21 rfl (lv_at hl 1 rfl) ?_
      refine gx_zald S hK hw t_231 1 rfl (gx_in rfl (by decide) (by decide)) dX12_again_22 ?_
      refine gx_top (v := 0) (by first | rfl | decide | simp [up2, gs0, hm]) ?_
      refine lv_if_ne (tgt := 28) hx hb dX12_again_23 (by decide) (fun h => absurd (by decide) h) (fun _ => ?_)
      refine lv_iconst (v := 0) hx hb dX12_again_26 (by decide) ?_
      exact gx_ri (post := fun r σ1 τ1 => r = 0 ∧ True ∧ True) (v := 0) S hr hlk hw rfl dX12_again_27 ⟨rfl, trivial, trivial⟩
    · have hl : lv_has ls 3 [(0, .ref (E.2.2 + 199)), (1, .int 2)] := by rw [e_5] at hl; exact hl
      refine lv_aload_n hx hb dX12_again_17 rfl (lv_at hl 0 rfl) ?_
      refine gx_getr (j := 231) S hK hw t_199 cl_13 58 (by decide) rfl mw_1472 rfl dX12_again_18 ?_
      refine lv_iload_n hx hb dX12_again_21 rfl (lv_at hl 1 rfl) ?_
      refine gx_zald S hK hw t_231 2 rfl (gx_in rfl (by decide) (by decide)) dX12_again_22 ?_
      refine gx_top (v := 0) (by first | rfl | decide | simp [up2, gs0, hm]) ?_
      refine lv_if_ne (tgt := 28) hx hb dX12_again_23 (by decide) (fun h => absurd (by decide) h) (fun _ => ?_)
      refine lv_iconst (v := 0) hx hb dX12_again_26 (by decide) ?_
      exact gx_ri (post := fun r σ1 τ1 => r = 0 ∧ True ∧ True) (v := 0) S hr hlk hw rfl dX12_again_27 ⟨rfl, trivial, trivial⟩
  · refine gx_top (v := 0) ((if_neg c_2).trans (rfl)) ?_
    refine lv_if_eq (tgt := 26) hx hb dX12_again_14 (by decide) (fun _ => ?_) (fun h => absurd (by decide) h)
    refine lv_iconst (v := 0) hx hb dX12_again_26 (by decide) ?_
    exact gx_ri (post := fun r σ1 τ1 => r = 0 ∧ True ∧ True) (v := 0) S hr hlk hw rfl dX12_again_27 ⟨rfl, trivial, trivial⟩
set_option maxHeartbeats 4000000 in
set_option maxRecDepth 100000 in
theorem c_m_count (l : Launch) {E : gE} (σ : gI) (τ : gJ) (n : Int32) (hm : ∀ c k : Nat, 199 ≤ c → σ c k = 0) : gx_Mi l yX12_count cX12_count 2 (some .int) 1 gx_tb E (σ) (τ) [.ref (E.2.2 + 199), .int n] (fun r σ1 τ1 => r = (if 0 ≤ n.toInt ∧ n.toInt ≤ 11 then 0 else (-100)) ∧ True ∧ True) := by
  refine gx_bi (by decide +kernel) (Nat.le_of_ble_eq_true rfl) ?_
  intro P9 e9 s m9 below meth C9 S hr hlk hK hw ls hl
  have S : CallFix P9 m9 C9 cX12_count 2 s _ gx_G RX12 := S
  have hx := S.1
  have hb := S.2.1
  have hl : lv_has ls 2 [(0, .ref (E.2.2 + 199)), (1, .int n)] := hl
  refine lv_aload_n hx hb dX12_count_0 rfl (lv_at hl 0 rfl) ?_
  refine lv_iconst (v := 0) hx hb dX12_count_1 (by decide) ?_
  refine gx_put S hK gx_ok hw t_199 cl_13 0 (by decide) rfl mw_1414 rfl rfl (ty := .int) (v := 0) (by decide +kernel) rfl rfl dX12_count_2 (fun H locs hw => ?_)
  refine lv_iload_n hx hb dX12_count_5 rfl (lv_at hl 1 rfl) ?_
  by_cases c_1 : n = 0
  · refine gx_top (v := 0) c_1 ?_
    refine lv_tableIn (tgt := 68) hx hb dX12_count_6 (by decide) (by decide) rfl (by decide) ?_
    refine lv_aload_n hx hb dX12_count_68 rfl (lv_at hl 0 rfl) ?_
    refine gx_get S hK hw t_199 cl_13 3 (by decide) rfl mw_1417 rfl dX12_count_69 ?_
    refine gx_top (v := 0) (by first | rfl | decide | simp [up2, gs0, hm]) ?_
    exact gx_ri (post := fun r σ1 τ1 => r = (if 0 ≤ n.toInt ∧ n.toInt ≤ 11 then 0 else (-100)) ∧ True ∧ True) (v := 0) S hr hlk hw rfl dX12_count_72 ⟨(by simp only [fa_lt, fa_le, fa_eq, show (0 : Int32).toInt = 0 from rfl] at c_1; exact (if_pos (by omega)).symm), trivial, trivial⟩
  by_cases c_2 : n = 1
  · refine gx_top (v := 1) c_2 ?_
    refine lv_tableIn (tgt := 73) hx hb dX12_count_6 (by decide) (by decide) rfl (by decide) ?_
    refine lv_aload_n hx hb dX12_count_73 rfl (lv_at hl 0 rfl) ?_
    refine gx_getr (j := 206) S hK hw t_199 cl_13 10 (by decide) rfl mw_1424 rfl dX12_count_74 ?_
    refine lv_bipush (v := 44) hx hb dX12_count_77 (by decide) ?_
    refine gx_iald S hK hw t_206 44 rfl (gx_in rfl (by decide) (by decide)) dX12_count_79 ?_
    refine gx_top (v := 0) (by first | rfl | decide | simp [up2, gs0, hm]) ?_
    exact gx_ri (post := fun r σ1 τ1 => r = (if 0 ≤ n.toInt ∧ n.toInt ≤ 11 then 0 else (-100)) ∧ True ∧ True) (v := 0) S hr hlk hw rfl dX12_count_80 ⟨(by simp only [fa_lt, fa_le, fa_eq, show (1 : Int32).toInt = 1 from rfl] at c_2; exact (if_pos (by omega)).symm), trivial, trivial⟩
  by_cases c_3 : n = 2
  · refine gx_top (v := 2) c_3 ?_
    refine lv_tableIn (tgt := 81) hx hb dX12_count_6 (by decide) (by decide) rfl (by decide) ?_
    refine lv_aload_n hx hb dX12_count_81 rfl (lv_at hl 0 rfl) ?_
    refine gx_getr (j := 206) S hK hw t_199 cl_13 10 (by decide) rfl mw_1424 rfl dX12_count_82 ?_
    refine lv_bipush (v := 43) hx hb dX12_count_85 (by decide) ?_
    refine gx_iald S hK hw t_206 43 rfl (gx_in rfl (by decide) (by decide)) dX12_count_87 ?_
    refine gx_top (v := 0) (by first | rfl | decide | simp [up2, gs0, hm]) ?_
    exact gx_ri (post := fun r σ1 τ1 => r = (if 0 ≤ n.toInt ∧ n.toInt ≤ 11 then 0 else (-100)) ∧ True ∧ True) (v := 0) S hr hlk hw rfl dX12_count_88 ⟨(by simp only [fa_lt, fa_le, fa_eq, show (2 : Int32).toInt = 2 from rfl] at c_3; exact (if_pos (by omega)).symm), trivial, trivial⟩
  by_cases c_4 : n = 3
  · refine gx_top (v := 3) c_4 ?_
    refine lv_tableIn (tgt := 89) hx hb dX12_count_6 (by decide) (by decide) rfl (by decide) ?_
    refine lv_aload_n hx hb dX12_count_89 rfl (lv_at hl 0 rfl) ?_
    refine gx_cVi (As := []) (rest := []) S hK gx_ok hw (c_forks l (E := E) (up2 (σ) 199 0 0) (τ) (by first | rfl | decide | simp [up2, gs0, hm])) cw_X12_416 t_199 cl_13 ⟨Nat.le_of_ble_eq_true rfl, Nat.le_of_ble_eq_true rfl⟩ rfl hl.1 rfl (Nat.le_of_ble_eq_true rfl) ⟨Nat.le_of_ble_eq_true rfl, Nat.le_of_ble_eq_true rfl⟩ dX12_count_90 (fun r_5 σ_5 τ_5 H locs hp hw => ?_)
    obtain ⟨er_5, es_5, et_5⟩ := hp
    obtain rfl := er_5.symm
    obtain rfl := es_5.symm
    obtain rfl := et_5.symm
    exact gx_ri (post := fun r σ1 τ1 => r = (if 0 ≤ n.toInt ∧ n.toInt ≤ 11 then 0 else (-100)) ∧ True ∧ True) (v := 0) S hr hlk hw rfl dX12_count_93 ⟨(by simp only [fa_lt, fa_le, fa_eq, show (3 : Int32).toInt = 3 from rfl] at c_4; exact (if_pos (by omega)).symm), trivial, trivial⟩
  by_cases c_6 : n = 4
  · refine gx_top (v := 4) c_6 ?_
    refine lv_tableIn (tgt := 94) hx hb dX12_count_6 (by decide) (by decide) rfl (by decide) ?_
    refine lv_aload_n hx hb dX12_count_94 rfl (lv_at hl 0 rfl) ?_
    refine gx_getr (j := 206) S hK hw t_199 cl_13 10 (by decide) rfl mw_1424 rfl dX12_count_95 ?_
    refine lv_bipush (v := 42) hx hb dX12_count_98 (by decide) ?_
    refine gx_iald S hK hw t_206 42 rfl (gx_in rfl (by decide) (by decide)) dX12_count_100 ?_
    refine gx_top (v := 0) (by first | rfl | decide | simp [up2, gs0, hm]) ?_
    exact gx_ri (post := fun r σ1 τ1 => r = (if 0 ≤ n.toInt ∧ n.toInt ≤ 11 then 0 else (-100)) ∧ True ∧ True) (v := 0) S hr hlk hw rfl dX12_count_101 ⟨(by simp only [fa_lt, fa_le, fa_eq, show (4 : Int32).toInt = 4 from rfl] at c_6; exact (if_pos (by omega)).symm), trivial, trivial⟩
  by_cases c_7 : n = 5
  · refine gx_top (v := 5) c_7 ?_
    refine lv_tableIn (tgt := 102) hx hb dX12_count_6 (by decide) (by decide) rfl (by decide) ?_
    refine lv_aload_n hx hb dX12_count_102 rfl (lv_at hl 0 rfl) ?_
    refine gx_getr (j := 206) S hK hw t_199 cl_13 10 (by decide) rfl mw_1424 rfl dX12_count_103 ?_
    refine lv_iconst (v := 0) hx hb dX12_count_106 (by decide) ?_
    refine gx_cSi (As := [.ref (E.2.2 + 206), .int 0]) (rest := []) S hK gx_ok hw (c_thoseHow l (E := E) (up2 (σ) 199 0 0) (τ) 206 0 (by first | rfl | decide | simp [up2, gs0, hm]) (by first | rfl | decide | simp [up2, gs0, hm])) cw_X12_346 ⟨Nat.le_of_ble_eq_true rfl, Nat.le_of_ble_eq_true rfl⟩ rfl hl.1 rfl (Nat.le_of_ble_eq_true rfl) ⟨Nat.le_of_ble_eq_true rfl, Nat.le_of_ble_eq_true rfl⟩ dX12_count_107 (fun r_8 σ_8 τ_8 H locs hp hw => ?_)
    obtain ⟨er_8, es_8, et_8⟩ := hp
    obtain rfl := er_8.symm
    obtain rfl := es_8.symm
    obtain rfl := et_8.symm
    exact gx_ri (post := fun r σ1 τ1 => r = (if 0 ≤ n.toInt ∧ n.toInt ≤ 11 then 0 else (-100)) ∧ True ∧ True) (v := 0) S hr hlk hw rfl dX12_count_110 ⟨(by simp only [fa_lt, fa_le, fa_eq, show (5 : Int32).toInt = 5 from rfl] at c_7; exact (if_pos (by omega)).symm), trivial, trivial⟩
  by_cases c_9 : n = 6
  · refine gx_top (v := 6) c_9 ?_
    refine lv_tableIn (tgt := 111) hx hb dX12_count_6 (by decide) (by decide) rfl (by decide) ?_
    refine lv_aload_n hx hb dX12_count_111 rfl (lv_at hl 0 rfl) ?_
    refine gx_getr (j := 206) S hK hw t_199 cl_13 10 (by decide) rfl mw_1424 rfl dX12_count_112 ?_
    refine lv_iconst (v := 1) hx hb dX12_count_115 (by decide) ?_
    refine gx_cSi (As := [.ref (E.2.2 + 206), .int 1]) (rest := []) S hK gx_ok hw (c_thoseHow l (E := E) (up2 (σ) 199 0 0) (τ) 206 1 (by first | rfl | decide | simp [up2, gs0, hm]) (by first | rfl | decide | simp [up2, gs0, hm])) cw_X12_346 ⟨Nat.le_of_ble_eq_true rfl, Nat.le_of_ble_eq_true rfl⟩ rfl hl.1 rfl (Nat.le_of_ble_eq_true rfl) ⟨Nat.le_of_ble_eq_true rfl, Nat.le_of_ble_eq_true rfl⟩ dX12_count_116 (fun r_10 σ_10 τ_10 H locs hp hw => ?_)
    obtain ⟨er_10, es_10, et_10⟩ := hp
    obtain rfl := er_10.symm
    obtain rfl := es_10.symm
    obtain rfl := et_10.symm
    exact gx_ri (post := fun r σ1 τ1 => r = (if 0 ≤ n.toInt ∧ n.toInt ≤ 11 then 0 else (-100)) ∧ True ∧ True) (v := 0) S hr hlk hw rfl dX12_count_119 ⟨(by simp only [fa_lt, fa_le, fa_eq, show (6 : Int32).toInt = 6 from rfl] at c_9; exact (if_pos (by omega)).symm), trivial, trivial⟩
  by_cases c_11 : n = 7
  · refine gx_top (v := 7) c_11 ?_
    refine lv_tableIn (tgt := 120) hx hb dX12_count_6 (by decide) (by decide) rfl (by decide) ?_
    refine lv_aload_n hx hb dX12_count_120 rfl (lv_at hl 0 rfl) ?_
    refine gx_getr (j := 206) S hK hw t_199 cl_13 10 (by decide) rfl mw_1424 rfl dX12_count_121 ?_
    refine lv_iconst (v := 2) hx hb dX12_count_124 (by decide) ?_
    refine gx_cSi (As := [.ref (E.2.2 + 206), .int 2]) (rest := []) S hK gx_ok hw (c_thoseHow l (E := E) (up2 (σ) 199 0 0) (τ) 206 2 (by first | rfl | decide | simp [up2, gs0, hm]) (by first | rfl | decide | simp [up2, gs0, hm])) cw_X12_346 ⟨Nat.le_of_ble_eq_true rfl, Nat.le_of_ble_eq_true rfl⟩ rfl hl.1 rfl (Nat.le_of_ble_eq_true rfl) ⟨Nat.le_of_ble_eq_true rfl, Nat.le_of_ble_eq_true rfl⟩ dX12_count_125 (fun r_12 σ_12 τ_12 H locs hp hw => ?_)
    obtain ⟨er_12, es_12, et_12⟩ := hp
    obtain rfl := er_12.symm
    obtain rfl := es_12.symm
    obtain rfl := et_12.symm
    exact gx_ri (post := fun r σ1 τ1 => r = (if 0 ≤ n.toInt ∧ n.toInt ≤ 11 then 0 else (-100)) ∧ True ∧ True) (v := 0) S hr hlk hw rfl dX12_count_128 ⟨(by simp only [fa_lt, fa_le, fa_eq, show (7 : Int32).toInt = 7 from rfl] at c_11; exact (if_pos (by omega)).symm), trivial, trivial⟩
  by_cases c_13 : n = 8
  · refine gx_top (v := 8) c_13 ?_
    refine lv_tableIn (tgt := 129) hx hb dX12_count_6 (by decide) (by decide) rfl (by decide) ?_
    refine lv_aload_n hx hb dX12_count_129 rfl (lv_at hl 0 rfl) ?_
    refine gx_get S hK hw t_199 cl_13 36 (by decide) rfl mw_1450 rfl dX12_count_130 ?_
    refine gx_top (v := 0) (by first | rfl | decide | simp [up2, gs0, hm]) ?_
    exact gx_ri (post := fun r σ1 τ1 => r = (if 0 ≤ n.toInt ∧ n.toInt ≤ 11 then 0 else (-100)) ∧ True ∧ True) (v := 0) S hr hlk hw rfl dX12_count_133 ⟨(by simp only [fa_lt, fa_le, fa_eq, show (8 : Int32).toInt = 8 from rfl] at c_13; exact (if_pos (by omega)).symm), trivial, trivial⟩
  by_cases c_14 : n = 9
  · refine gx_top (v := 9) c_14 ?_
    refine lv_tableIn (tgt := 134) hx hb dX12_count_6 (by decide) (by decide) rfl (by decide) ?_
    refine lv_aload_n hx hb dX12_count_134 rfl (lv_at hl 0 rfl) ?_
    refine gx_get S hK hw t_199 cl_13 52 (by decide) rfl mw_1466 rfl dX12_count_135 ?_
    refine gx_top (v := 0) (by first | rfl | decide | simp [up2, gs0, hm]) ?_
    exact gx_ri (post := fun r σ1 τ1 => r = (if 0 ≤ n.toInt ∧ n.toInt ≤ 11 then 0 else (-100)) ∧ True ∧ True) (v := 0) S hr hlk hw rfl dX12_count_138 ⟨(by simp only [fa_lt, fa_le, fa_eq, show (9 : Int32).toInt = 9 from rfl] at c_14; exact (if_pos (by omega)).symm), trivial, trivial⟩
  by_cases c_15 : n = 10
  · refine gx_top (v := 10) c_15 ?_
    refine lv_tableIn (tgt := 139) hx hb dX12_count_6 (by decide) (by decide) rfl (by decide) ?_
    refine lv_aload_n hx hb dX12_count_139 rfl (lv_at hl 0 rfl) ?_
    refine gx_get S hK hw t_199 cl_13 1 (by decide) rfl mw_1415 rfl dX12_count_140 ?_
    refine gx_top (v := 0) (by first | rfl | decide | simp [up2, gs0, hm]) ?_
    exact gx_ri (post := fun r σ1 τ1 => r = (if 0 ≤ n.toInt ∧ n.toInt ≤ 11 then 0 else (-100)) ∧ True ∧ True) (v := 0) S hr hlk hw rfl dX12_count_143 ⟨(by simp only [fa_lt, fa_le, fa_eq, show (10 : Int32).toInt = 10 from rfl] at c_15; exact (if_pos (by omega)).symm), trivial, trivial⟩
  by_cases c_16 : n = 11
  · refine gx_top (v := 11) c_16 ?_
    refine lv_tableIn (tgt := 144) hx hb dX12_count_6 (by decide) (by decide) rfl (by decide) ?_
    refine lv_aload_n hx hb dX12_count_144 rfl (lv_at hl 0 rfl) ?_
    refine gx_get S hK hw t_199 cl_13 13 (by decide) rfl mw_1427 rfl dX12_count_145 ?_
    refine gx_top (v := 0) (by first | rfl | decide | simp [up2, gs0, hm]) ?_
    exact gx_ri (post := fun r σ1 τ1 => r = (if 0 ≤ n.toInt ∧ n.toInt ≤ 11 then 0 else (-100)) ∧ True ∧ True) (v := 0) S hr hlk hw rfl dX12_count_148 ⟨(by simp only [fa_lt, fa_le, fa_eq, show (11 : Int32).toInt = 11 from rfl] at c_16; exact (if_pos (by omega)).symm), trivial, trivial⟩
  refine lv_tableOut (tgt := 149) hx hb dX12_count_6 (by have t_c_1 := lv_neT (a := 0) c_1 rfl; have t_c_2 := lv_neT (a := 1) c_2 rfl; have t_c_3 := lv_neT (a := 2) c_3 rfl; have t_c_4 := lv_neT (a := 3) c_4 rfl; have t_c_6 := lv_neT (a := 4) c_6 rfl; have t_c_7 := lv_neT (a := 5) c_7 rfl; have t_c_9 := lv_neT (a := 6) c_9 rfl; have t_c_11 := lv_neT (a := 7) c_11 rfl; have t_c_13 := lv_neT (a := 8) c_13 rfl; have t_c_14 := lv_neT (a := 9) c_14 rfl; have t_c_15 := lv_neT (a := 10) c_15 rfl; have t_c_16 := lv_neT (a := 11) c_16 rfl; omega) (by decide) ?_
  refine lv_bipush (v := (-100)) hx hb dX12_count_149 (by decide) ?_
  exact gx_ri (post := fun r σ1 τ1 => r = (if 0 ≤ n.toInt ∧ n.toInt ≤ 11 then 0 else (-100)) ∧ True ∧ True) (v := (-100)) S hr hlk hw rfl dX12_count_151 ⟨(by simp only [fa_lt, fa_le, fa_eq, show (0 : Int32).toInt = 0 from rfl, show (1 : Int32).toInt = 1 from rfl, show (2 : Int32).toInt = 2 from rfl, show (3 : Int32).toInt = 3 from rfl, show (4 : Int32).toInt = 4 from rfl, show (5 : Int32).toInt = 5 from rfl, show (6 : Int32).toInt = 6 from rfl, show (7 : Int32).toInt = 7 from rfl, show (8 : Int32).toInt = 8 from rfl, show (9 : Int32).toInt = 9 from rfl, show (10 : Int32).toInt = 10 from rfl, show (11 : Int32).toInt = 11 from rfl] at c_1 c_2 c_3 c_4 c_6 c_7 c_9 c_11 c_13 c_14 c_15 c_16; exact ((if_neg (by omega)).trans (rfl)).symm), trivial, trivial⟩
