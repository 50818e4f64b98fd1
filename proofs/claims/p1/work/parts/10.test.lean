set_option maxHeartbeats 4000000 in
set_option maxRecDepth 100000 in
theorem c_Signs_cut (l : Launch) {E : gE} (σ : gI) (τ : gJ) (n : Int32) (h0 : σ 1 2 = 0) : gx_Mi l yX7_cut cX7_cut 2 (some .boolean) 0 gx_tb E (σ) (τ) [.ref (E.2.2 + 1), .int n] (fun r σ1 τ1 => r = (if n.toInt = 0 then 1 else 0) ∧ True ∧ τ1 = τ) := by
  refine gx_bi (by decide +kernel) (Nat.le_of_ble_eq_true rfl) ?_
  intro p e s m below meth c S hr hlk hK hw ls hl
  have S : CallFix p m c cX7_cut 2 s _ gx_G RX7 := S
  have hx := S.1
  have hb := S.2.1
  have hl : lv_has ls 2 [(0, .ref (E.2.2 + 1)), (1, .int n)] := hl
  refine lv_iload_n hx hb dX7_cut_0 rfl (lv_at hl 1 rfl) ?_
  refine lv_if_lt (tgt := 12) hx hb dX7_cut_1 (by decide) (fun c_1 => ?_) (fun c_1 => ?_)
  · refine lv_iconst (v := 0) hx hb dX7_cut_12 (by decide) ?_
    exact gx_ri (post := fun r σ1 τ1 => r = (if n.toInt = 0 then 1 else 0) ∧ True ∧ τ1 = τ) (v := 0) S hr hlk hw rfl dX7_cut_13 ⟨(by simp only [fa_lt, fa_le, fa_eq, show (0 : Int32).toInt = 0 from rfl] at c_1; exact (if_neg (by omega)).symm), trivial, rfl⟩
  · refine lv_iload_n hx hb dX7_cut_4 rfl (lv_at hl 1 rfl) ?_
    refine lv_aload_n hx hb dX7_cut_5 rfl (lv_at hl 0 rfl) ?_
    refine gx_get S hK hw t_1 cl_8 2 (by decide) rfl mw_131 rfl dX7_cut_6 ?_
    refine gx_top (v := 0) (by first | rfl | simp [up2, gs0, h0]) ?_
    refine lv_icmp_le (tgt := 14) hx hb dX7_cut_9 (by decide) (fun c_2 => ?_) (fun c_2 => ?_)
    · refine lv_aload_n hx hb dX7_cut_14 rfl (lv_at hl 0 rfl) ?_
      refine lv_iload_n hx hb dX7_cut_15 rfl (lv_at hl 1 rfl) ?_
      refine gx_put S hK gx_ok hw t_1 cl_8 2 (by decide) rfl mw_131 rfl rfl (ty := .int) (v := n) (by decide +kernel) rfl rfl dX7_cut_16 (fun H locs hw => ?_)
      refine lv_iconst (v := 1) hx hb dX7_cut_19 (by decide) ?_
      exact gx_ri (post := fun r σ1 τ1 => r = (if n.toInt = 0 then 1 else 0) ∧ True ∧ τ1 = τ) (v := 1) S hr hlk hw rfl dX7_cut_20 ⟨(by simp only [fa_lt, fa_le, fa_eq, show (0 : Int32).toInt = 0 from rfl] at c_1 c_2; exact (if_pos (by omega)).symm), trivial, rfl⟩
    · refine lv_iconst (v := 0) hx hb dX7_cut_12 (by decide) ?_
      exact gx_ri (post := fun r σ1 τ1 => r = (if n.toInt = 0 then 1 else 0) ∧ True ∧ τ1 = τ) (v := 0) S hr hlk hw rfl dX7_cut_13 ⟨(by simp only [fa_lt, fa_le, fa_eq, show (0 : Int32).toInt = 0 from rfl] at c_1 c_2; exact (if_neg (by omega)).symm), trivial, rfl⟩
set_option maxHeartbeats 4000000 in
set_option maxRecDepth 100000 in
theorem c_Town_has (l : Launch) {E : gE} (σ : gI) (τ : gJ) (n : Int32) (h0 : σ 3 6 = 0) : gx_Mi l yX8_has cX8_has 2 (some .boolean) 0 gx_tb E (σ) (τ) [.ref (E.2.2 + 3), .int n] (fun r σ1 τ1 => r = 0 ∧ σ1 = σ ∧ τ1 = τ) := by
  refine gx_bi (by decide +kernel) (Nat.le_of_ble_eq_true rfl) ?_
  intro p e s m below meth c S hr hlk hK hw ls hl
  have S : CallFix p m c cX8_has 2 s _ gx_G RX8 := S
  have hx := S.1
  have hb := S.2.1
  have hl : lv_has ls 2 [(0, .ref (E.2.2 + 3)), (1, .int n)] := hl
  refine lv_iload_n hx hb dX8_has_0 rfl (lv_at hl 1 rfl) ?_
  refine lv_if_lt (tgt := 16) hx hb dX8_has_1 (by decide) (fun c_1 => ?_) (fun c_1 => ?_)
  · refine lv_iconst (v := 0) hx hb dX8_has_16 (by decide) ?_
    exact gx_ri (post := fun r σ1 τ1 => r = 0 ∧ σ1 = σ ∧ τ1 = τ) (v := 0) S hr hlk hw rfl dX8_has_17 ⟨rfl, rfl, rfl⟩
  · refine lv_iload_n hx hb dX8_has_4 rfl (lv_at hl 1 rfl) ?_
    refine lv_aload_n hx hb dX8_has_5 rfl (lv_at hl 0 rfl) ?_
    refine gx_get S hK hw t_3 cl_9 6 (by decide) rfl mw_154 rfl dX8_has_6 ?_
    refine gx_top (v := 0) (by first | rfl | simp [up2, gs0, h0]) ?_
    refine lv_icmp_ge (tgt := 16) hx hb dX8_has_9 (by decide) (fun c_2 => ?_) (fun c_2 => ?_)
    · refine lv_iconst (v := 0) hx hb dX8_has_16 (by decide) ?_
      exact gx_ri (post := fun r σ1 τ1 => r = 0 ∧ σ1 = σ ∧ τ1 = τ) (v := 0) S hr hlk hw rfl dX8_has_17 ⟨rfl, rfl, rfl⟩
    · refine lv_iconst (v := 1) hx hb dX8_has_12 (by decide) ?_
      refine lv_goto (tgt := 17) hx hb dX8_has_13 (by decide) ?_
      exact gx_ri (post := fun r σ1 τ1 => r = 0 ∧ σ1 = σ ∧ τ1 = τ) (v := 1) S hr hlk hw rfl dX8_has_17 ⟨(by exfalso; simp only [fa_lt, fa_le, fa_eq, show (0 : Int32).toInt = 0 from rfl] at c_1 c_2; omega), rfl, rfl⟩
