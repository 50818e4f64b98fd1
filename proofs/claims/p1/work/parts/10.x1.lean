set_option maxHeartbeats 4000000 in
set_option maxRecDepth 100000 in
theorem c_bitCount0 (l : Launch) {E : gE} (σ : gI) (τ : gJ)   : gx_Mi l yJ6_bitCount_0f7a4 cJ6_bitCount_0f7a4 1 (some .int) 0 gx_tb E (σ) (τ) [.int 0] (fun r σ1 τ1 => r = 0 ∧ σ1 = σ ∧ τ1 = τ) := by
  refine gx_bi (by decide +kernel) (Nat.le_of_ble_eq_true rfl) ?_
  intro P9 e9 s m9 below meth C9 S hr hlk hK hw ls hl
  have S : CallFix P9 m9 C9 cJ6_bitCount_0f7a4 1 s _ gx_G RJ6 := S
  have hx := S.1
  have hb := S.2.1
  have hl : lv_has ls 1 [(0, .int 0)] := hl
  refine lv_iload_n hx hb dJ6_bitCount_0f7a4_0 rfl (lv_at hl 0 rfl) ?_
  refine lv_iload_n hx hb dJ6_bitCount_0f7a4_1 rfl (lv_at hl 0 rfl) ?_
  refine lv_iconst (v := 1) hx hb dJ6_bitCount_0f7a4_2 (by decide) ?_
  refine lv_iushr (v := 0) hx hb dJ6_bitCount_0f7a4_3 (by decide) ?_
  refine lv_ldcw (v := 1431655765) hx hb S.2.2.2.1 (S.2.2.2.2 _ mw_898) dJ6_bitCount_0f7a4_4 ?_
  refine lv_iand hx hb dJ6_bitCount_0f7a4_7 ?_
  refine gx_top (v := 0) (by decide) ?_
  refine lv_isub hx hb dJ6_bitCount_0f7a4_8 ?_
  refine gx_top (v := 0) (by decide) ?_
  refine lv_istore_n (lv' := [(0, .int 0)]) hx hb dJ6_bitCount_0f7a4_9 rfl hl (by decide) rfl (fun ls hl => ?_)
  refine lv_iload_n hx hb dJ6_bitCount_0f7a4_10 rfl (lv_at hl 0 rfl) ?_
  refine lv_ldcw (v := 858993459) hx hb S.2.2.2.1 (S.2.2.2.2 _ mw_899) dJ6_bitCount_0f7a4_11 ?_
  refine lv_iand hx hb dJ6_bitCount_0f7a4_14 ?_
  refine gx_top (v := 0) (by decide) ?_
  refine lv_iload_n hx hb dJ6_bitCount_0f7a4_15 rfl (lv_at hl 0 rfl) ?_
  refine lv_iconst (v := 2) hx hb dJ6_bitCount_0f7a4_16 (by decide) ?_
  refine lv_iushr (v := 0) hx hb dJ6_bitCount_0f7a4_17 (by decide) ?_
  refine lv_ldcw (v := 858993459) hx hb S.2.2.2.1 (S.2.2.2.2 _ mw_899) dJ6_bitCount_0f7a4_18 ?_
  refine lv_iand hx hb dJ6_bitCount_0f7a4_21 ?_
  refine gx_top (v := 0) (by decide) ?_
  refine lv_iadd hx hb dJ6_bitCount_0f7a4_22 ?_
  refine gx_top (v := 0) (by decide) ?_
  refine lv_istore_n (lv' := [(0, .int 0)]) hx hb dJ6_bitCount_0f7a4_23 rfl hl (by decide) rfl (fun ls hl => ?_)
  refine lv_iload_n hx hb dJ6_bitCount_0f7a4_24 rfl (lv_at hl 0 rfl) ?_
  refine lv_iload_n hx hb dJ6_bitCount_0f7a4_25 rfl (lv_at hl 0 rfl) ?_
  refine lv_iconst (v := 4) hx hb dJ6_bitCount_0f7a4_26 (by decide) ?_
  refine lv_iushr (v := 0) hx hb dJ6_bitCount_0f7a4_27 (by decide) ?_
  refine lv_iadd hx hb dJ6_bitCount_0f7a4_28 ?_
  refine gx_top (v := 0) (by decide) ?_
  refine lv_ldcw (v := 252645135) hx hb S.2.2.2.1 (S.2.2.2.2 _ mw_900) dJ6_bitCount_0f7a4_29 ?_
  refine lv_iand hx hb dJ6_bitCount_0f7a4_32 ?_
  refine gx_top (v := 0) (by decide) ?_
  refine lv_istore_n (lv' := [(0, .int 0)]) hx hb dJ6_bitCount_0f7a4_33 rfl hl (by decide) rfl (fun ls hl => ?_)
  refine lv_iload_n hx hb dJ6_bitCount_0f7a4_34 rfl (lv_at hl 0 rfl) ?_
  refine lv_iload_n hx hb dJ6_bitCount_0f7a4_35 rfl (lv_at hl 0 rfl) ?_
  refine lv_bipush (v := 8) hx hb dJ6_bitCount_0f7a4_36 (by decide) ?_
  refine lv_iushr (v := 0) hx hb dJ6_bitCount_0f7a4_38 (by decide) ?_
  refine lv_iadd hx hb dJ6_bitCount_0f7a4_39 ?_
  refine gx_top (v := 0) (by decide) ?_
  refine lv_istore_n (lv' := [(0, .int 0)]) hx hb dJ6_bitCount_0f7a4_40 rfl hl (by decide) rfl (fun ls hl => ?_)
  refine lv_iload_n hx hb dJ6_bitCount_0f7a4_41 rfl (lv_at hl 0 rfl) ?_
  refine lv_iload_n hx hb dJ6_bitCount_0f7a4_42 rfl (lv_at hl 0 rfl) ?_
  refine lv_bipush (v := 16) hx hb dJ6_bitCount_0f7a4_43 (by decide) ?_
  refine lv_iushr (v := 0) hx hb dJ6_bitCount_0f7a4_45 (by decide) ?_
  refine lv_iadd hx hb dJ6_bitCount_0f7a4_46 ?_
  refine gx_top (v := 0) (by decide) ?_
  refine lv_istore_n (lv' := [(0, .int 0)]) hx hb dJ6_bitCount_0f7a4_47 rfl hl (by decide) rfl (fun ls hl => ?_)
  refine lv_iload_n hx hb dJ6_bitCount_0f7a4_48 rfl (lv_at hl 0 rfl) ?_
  refine lv_bipush (v := 63) hx hb dJ6_bitCount_0f7a4_49 (by decide) ?_
  refine lv_iand hx hb dJ6_bitCount_0f7a4_51 ?_
  refine gx_top (v := 0) (by decide) ?_
  exact gx_ri (post := fun r σ1 τ1 => r = 0 ∧ σ1 = σ ∧ τ1 = τ) (v := 0) S hr hlk hw rfl dJ6_bitCount_0f7a4_52 ⟨rfl, rfl, rfl⟩
set_option maxHeartbeats 4000000 in
set_option maxRecDepth 100000 in
theorem c_addFour (l : Launch) {E : gE} (σ : gI) (τ : gJ) (v : Int32) (h_1_2 : σ 1 2 = 0) : gx_Mi l yX7_addFour cX7_addFour 2 (some .boolean) 0 gx_tb E (σ) (τ) [.ref (E.2.2 + 1), .int v] (fun r σ1 τ1 => r = 1 ∧ (∀ c k : Nat, ¬ c = 2 → σ1 c k = (up2 σ 1 2 4) c k) ∧ τ1 = τ) := by
  refine gx_bi (by decide +kernel) (Nat.le_of_ble_eq_true rfl) ?_
  intro P9 e9 s m9 below meth C9 S hr hlk hK hw ls hl
  have S : CallFix P9 m9 C9 cX7_addFour 2 s _ gx_G RX7 := S
  have hx := S.1
  have hb := S.2.1
  have hl : lv_has ls 2 [(0, .ref (E.2.2 + 1)), (1, .int v)] := hl
  refine lv_aload_n hx hb dX7_addFour_0 rfl (lv_at hl 0 rfl) ?_
  refine gx_get S hK hw t_1 cl_8 2 (by decide) rfl mw_131 rfl dX7_addFour_1 ?_
  refine gx_top (v := 0) (by first | rfl | decide | simp [up2, gs0, h_1_2]) ?_
  refine lv_if_lt (tgt := 16) hx hb dX7_addFour_4 (by decide) (fun h => absurd h (by decide)) (fun _ => ?_)
  refine lv_aload_n hx hb dX7_addFour_7 rfl (lv_at hl 0 rfl) ?_
  refine gx_get S hK hw t_1 cl_8 2 (by decide) rfl mw_131 rfl dX7_addFour_8 ?_
  refine gx_top (v := 0) (by first | rfl | decide | simp [up2, gs0, h_1_2]) ?_
  refine lv_bipush (v := 76) hx hb dX7_addFour_11 (by decide) ?_
  refine lv_icmp_le (tgt := 18) hx hb dX7_addFour_13 (by decide) (fun _ => ?_) (fun h => absurd (by decide) h)
  refine lv_aload_n hx hb dX7_addFour_18 rfl (lv_at hl 0 rfl) ?_
  refine gx_getr (j := 2) S hK hw t_1 cl_8 0 (by decide) rfl mw_129 rfl dX7_addFour_19 ?_
  refine lv_aload_n hx hb dX7_addFour_22 rfl (lv_at hl 0 rfl) ?_
  refine gx_get S hK hw t_1 cl_8 2 (by decide) rfl mw_131 rfl dX7_addFour_23 ?_
  refine gx_top (v := 0) (by first | rfl | decide | simp [up2, gs0, h_1_2]) ?_
  refine lv_iload_n hx hb dX7_addFour_26 rfl (lv_at hl 1 rfl) ?_
  refine lv_bipush (v := 24) hx hb dX7_addFour_27 (by decide) ?_
  refine lv_iushr (v := (v.toUInt32 >>> ((24 : Int32).toUInt32 &&& Int32.toUInt32 31)).toInt32) hx hb dX7_addFour_29 rfl ?_
  refine lv_sipush (v := 255) hx hb dX7_addFour_30 (by decide) ?_
  refine lv_iand hx hb dX7_addFour_33 ?_
  refine gx_iast S hK gx_ok hw t_2 0 rfl (gx_in rfl (by decide) (by decide)) dX7_addFour_34 (fun H locs hw => ?_)
  refine lv_aload_n hx hb dX7_addFour_35 rfl (lv_at hl 0 rfl) ?_
  refine gx_getr (j := 2) S hK hw t_1 cl_8 0 (by decide) rfl mw_129 rfl dX7_addFour_36 ?_
  refine lv_aload_n hx hb dX7_addFour_39 rfl (lv_at hl 0 rfl) ?_
  refine gx_get S hK hw t_1 cl_8 2 (by decide) rfl mw_131 rfl dX7_addFour_40 ?_
  refine gx_top (v := 0) (by first | rfl | decide | simp [up2, gs0, h_1_2]) ?_
  refine lv_iconst (v := 1) hx hb dX7_addFour_43 (by decide) ?_
  refine lv_iadd hx hb dX7_addFour_44 ?_
  refine gx_top (v := 1) (by decide) ?_
  refine lv_iload_n hx hb dX7_addFour_45 rfl (lv_at hl 1 rfl) ?_
  refine lv_bipush (v := 16) hx hb dX7_addFour_46 (by decide) ?_
  refine lv_iushr (v := (v.toUInt32 >>> ((16 : Int32).toUInt32 &&& Int32.toUInt32 31)).toInt32) hx hb dX7_addFour_48 rfl ?_
  refine lv_sipush (v := 255) hx hb dX7_addFour_49 (by decide) ?_
  refine lv_iand hx hb dX7_addFour_52 ?_
  refine gx_iast S hK gx_ok hw t_2 1 rfl (gx_in rfl (by decide) (by decide)) dX7_addFour_53 (fun H locs hw => ?_)
  refine lv_aload_n hx hb dX7_addFour_54 rfl (lv_at hl 0 rfl) ?_
  refine gx_getr (j := 2) S hK hw t_1 cl_8 0 (by decide) rfl mw_129 rfl dX7_addFour_55 ?_
  refine lv_aload_n hx hb dX7_addFour_58 rfl (lv_at hl 0 rfl) ?_
  refine gx_get S hK hw t_1 cl_8 2 (by decide) rfl mw_131 rfl dX7_addFour_59 ?_
  refine gx_top (v := 0) (by first | rfl | decide | simp [up2, gs0, h_1_2]) ?_
  refine lv_iconst (v := 2) hx hb dX7_addFour_62 (by decide) ?_
  refine lv_iadd hx hb dX7_addFour_63 ?_
  refine gx_top (v := 2) (by decide) ?_
  refine lv_iload_n hx hb dX7_addFour_64 rfl (lv_at hl 1 rfl) ?_
  refine lv_bipush (v := 8) hx hb dX7_addFour_65 (by decide) ?_
  refine lv_iushr (v := (v.toUInt32 >>> ((8 : Int32).toUInt32 &&& Int32.toUInt32 31)).toInt32) hx hb dX7_addFour_67 rfl ?_
  refine lv_sipush (v := 255) hx hb dX7_addFour_68 (by decide) ?_
  refine lv_iand hx hb dX7_addFour_71 ?_
  refine gx_iast S hK gx_ok hw t_2 2 rfl (gx_in rfl (by decide) (by decide)) dX7_addFour_72 (fun H locs hw => ?_)
  refine lv_aload_n hx hb dX7_addFour_73 rfl (lv_at hl 0 rfl) ?_
  refine gx_getr (j := 2) S hK hw t_1 cl_8 0 (by decide) rfl mw_129 rfl dX7_addFour_74 ?_
  refine lv_aload_n hx hb dX7_addFour_77 rfl (lv_at hl 0 rfl) ?_
  refine gx_get S hK hw t_1 cl_8 2 (by decide) rfl mw_131 rfl dX7_addFour_78 ?_
  refine gx_top (v := 0) (by first | rfl | decide | simp [up2, gs0, h_1_2]) ?_
  refine lv_iconst (v := 3) hx hb dX7_addFour_81 (by decide) ?_
  refine lv_iadd hx hb dX7_addFour_82 ?_
  refine gx_top (v := 3) (by decide) ?_
  refine lv_iload_n hx hb dX7_addFour_83 rfl (lv_at hl 1 rfl) ?_
  refine lv_sipush (v := 255) hx hb dX7_addFour_84 (by decide) ?_
  refine lv_iand hx hb dX7_addFour_87 ?_
  refine gx_iast S hK gx_ok hw t_2 3 rfl (gx_in rfl (by decide) (by decide)) dX7_addFour_88 (fun H locs hw => ?_)
  refine lv_aload_n hx hb dX7_addFour_89 rfl (lv_at hl 0 rfl) ?_
  refine lv_dup hx hb dX7_addFour_90 rfl ?_
  refine gx_get S hK hw t_1 cl_8 2 (by decide) rfl mw_131 rfl dX7_addFour_91 ?_
  refine gx_top (v := 0) (by first | rfl | decide | simp [up2, gs0, h_1_2]) ?_
  refine lv_iconst (v := 4) hx hb dX7_addFour_94 (by decide) ?_
  refine lv_iadd hx hb dX7_addFour_95 ?_
  refine gx_top (v := 4) (by decide) ?_
  refine gx_put S hK gx_ok hw t_1 cl_8 2 (by decide) rfl mw_131 rfl rfl (ty := .int) (v := 4) (by decide +kernel) rfl rfl dX7_addFour_96 (fun H locs hw => ?_)
  refine lv_iconst (v := 1) hx hb dX7_addFour_99 (by decide) ?_
  exact gx_ri (post := fun r σ1 τ1 => r = 1 ∧ (∀ c k : Nat, ¬ c = 2 → σ1 c k = (up2 σ 1 2 4) c k) ∧ τ1 = τ) (v := 1) S hr hlk hw rfl dX7_addFour_100 ⟨rfl, (fun c9 k9 h9_0 => by simp [up2, upJ, h9_0]), rfl⟩
set_option maxHeartbeats 4000000 in
set_option maxRecDepth 100000 in
theorem c_cut (l : Launch) {E : gE} (σ : gI) (τ : gJ) (n : Int32) (h_1_2 : σ 1 2 = 0) : gx_Mi l yX7_cut cX7_cut 2 (some .boolean) 0 gx_tb E (σ) (τ) [.ref (E.2.2 + 1), .int n] (fun r σ1 τ1 => r = (if n.toInt = 0 then 1 else 0) ∧ True ∧ τ1 = τ) := by
  refine gx_bi (by decide +kernel) (Nat.le_of_ble_eq_true rfl) ?_
  intro P9 e9 s m9 below meth C9 S hr hlk hK hw ls hl
  have S : CallFix P9 m9 C9 cX7_cut 2 s _ gx_G RX7 := S
  have hx := S.1
  have hb := S.2.1
  have hl : lv_has ls 2 [(0, .ref (E.2.2 + 1)), (1, .int n)] := hl
  refine lv_iload_n hx hb dX7_cut_0 rfl (lv_at hl 1 rfl) ?_
  refine lv_if_lt (tgt := 12) hx hb dX7_cut_1 (by decide) (fun c_1 => ?_) (fun c_1 => ?_)
  · refine lv_iconst (v := 0) hx hb dX7_cut_12 (by decide) ?_
    exact gx_ri (post := fun r σ1 τ1 => r = (if n.toInt = 0 then 1 else 0) ∧ True ∧ τ1 = τ) (v := 0) S hr hlk hw rfl dX7_cut_13 ⟨(by simp only [fa_lt, fa_le, fa_eq, show (0 : Int32).toInt = 0 from rfl] at c_1; exact (if_neg (by omega)).symm), trivial, rfl⟩
  · refine lv_iload_n hx hb dX7_cut_4 rfl (lv_at hl 1 rfl) ?_
    refine lv_aload_n hx hb dX7_cut_5 rfl (lv_at hl 0 rfl) ?_
    refine gx_get S hK hw t_1 cl_8 2 (by decide) rfl mw_131 rfl dX7_cut_6 ?_
    refine gx_top (v := 0) (by first | rfl | decide | simp [up2, gs0, h_1_2]) ?_
    refine lv_icmp_le (tgt := 14) hx hb dX7_cut_9 (by decide) (fun c_2 => ?_) (fun c_2 => ?_)
    · refine lv_aload_n hx hb dX7_cut_14 rfl (lv_at hl 0 rfl) ?_
      refine lv_iload_n hx hb dX7_cut_15 rfl (lv_at hl 1 rfl) ?_
      refine gx_put S hK gx_ok hw t_1 cl_8 2 (by decide) rfl mw_131 rfl rfl (ty := .int) (v := n) (by decide +kernel) rfl rfl dX7_cut_16 (fun H locs hw => ?_)
      refine lv_iconst (v := 1) hx hb dX7_cut_19 (by decide) ?_
      exact gx_ri (post := fun r σ1 τ1 => r = (if n.toInt = 0 then 1 else 0) ∧ True ∧ τ1 = τ) (v := 1) S hr hlk hw rfl dX7_cut_20 ⟨(by simp only [fa_lt, fa_le, fa_eq, show (0 : Int32).toInt = 0 from rfl] at c_1 c_2; exact (if_pos (by omega)).symm), trivial, rfl⟩
    · refine lv_iconst (v := 0) hx hb dX7_cut_12 (by decide) ?_
      exact gx_ri (post := fun r σ1 τ1 => r = (if n.toInt = 0 then 1 else 0) ∧ True ∧ τ1 = τ) (v := 0) S hr hlk hw rfl dX7_cut_13 ⟨(by simp only [fa_lt, fa_le, fa_eq, show (0 : Int32).toInt = 0 from rfl] at c_1 c_2; exact (if_neg (by omega)).symm), trivial, rfl⟩
set_option maxHeartbeats 4000000 in
set_option maxRecDepth 100000 in
theorem c_cut0 (l : Launch) {E : gE} (σ : gI) (τ : gJ)  (h_1_2 : σ 1 2 = 0) : gx_Mi l yX7_cut cX7_cut 2 (some .boolean) 0 gx_tb E (σ) (τ) [.ref (E.2.2 + 1), .int 0] (fun r σ1 τ1 => r = 1 ∧ σ1 = up2 σ 1 2 0 ∧ τ1 = τ) := by
  refine gx_bi (by decide +kernel) (Nat.le_of_ble_eq_true rfl) ?_
  intro P9 e9 s m9 below meth C9 S hr hlk hK hw ls hl
  have S : CallFix P9 m9 C9 cX7_cut 2 s _ gx_G RX7 := S
  have hx := S.1
  have hb := S.2.1
  have hl : lv_has ls 2 [(0, .ref (E.2.2 + 1)), (1, .int 0)] := hl
  refine lv_iload_n hx hb dX7_cut_0 rfl (lv_at hl 1 rfl) ?_
  refine lv_if_lt (tgt := 12) hx hb dX7_cut_1 (by decide) (fun h => absurd h (by decide)) (fun _ => ?_)
  refine lv_iload_n hx hb dX7_cut_4 rfl (lv_at hl 1 rfl) ?_
  refine lv_aload_n hx hb dX7_cut_5 rfl (lv_at hl 0 rfl) ?_
  refine gx_get S hK hw t_1 cl_8 2 (by decide) rfl mw_131 rfl dX7_cut_6 ?_
  refine gx_top (v := 0) (by first | rfl | decide | simp [up2, gs0, h_1_2]) ?_
  refine lv_icmp_le (tgt := 14) hx hb dX7_cut_9 (by decide) (fun _ => ?_) (fun h => absurd (by decide) h)
  refine lv_aload_n hx hb dX7_cut_14 rfl (lv_at hl 0 rfl) ?_
  refine lv_iload_n hx hb dX7_cut_15 rfl (lv_at hl 1 rfl) ?_
  refine gx_put S hK gx_ok hw t_1 cl_8 2 (by decide) rfl mw_131 rfl rfl (ty := .int) (v := 0) (by decide +kernel) rfl rfl dX7_cut_16 (fun H locs hw => ?_)
  refine lv_iconst (v := 1) hx hb dX7_cut_19 (by decide) ?_
  exact gx_ri (post := fun r σ1 τ1 => r = 1 ∧ σ1 = up2 σ 1 2 0 ∧ τ1 = τ) (v := 1) S hr hlk hw rfl dX7_cut_20 ⟨rfl, (by first | rfl | simp [up2, upJ]), rfl⟩
set_option maxHeartbeats 4000000 in
set_option maxRecDepth 100000 in
theorem c_show (l : Launch) {E : gE} (σ : gI) (τ : gJ) (v : Int32) (h_1_2 : σ 1 2 = 0) : gx_Mv l yX7_showAtMost cX7_showAtMost 2 none 1 gx_tb E (σ) (τ) [.ref (E.2.2 + 1), .int v] (fun σ1 τ1 => (∀ c k : Nat, ¬ (c = 1 ∧ k = 1) → σ1 c k = (σ) c k) ∧ τ1 = τ) := by
  refine gx_bv (by decide +kernel) (Nat.le_of_ble_eq_true rfl) ?_
  intro P9 e9 s m9 below meth C9 S hr hlk hK hw ls hl
  have S : CallFix P9 m9 C9 cX7_showAtMost 2 s _ gx_G RX7 := S
  have hx := S.1
  have hb := S.2.1
  have hl : lv_has ls 2 [(0, .ref (E.2.2 + 1)), (1, .int v)] := hl
  refine lv_aload_n hx hb dX7_showAtMost_0 rfl (lv_at hl 0 rfl) ?_
  refine lv_iload_n hx hb dX7_showAtMost_1 rfl (lv_at hl 1 rfl) ?_
  refine lv_aload_n hx hb dX7_showAtMost_2 rfl (lv_at hl 0 rfl) ?_
  refine gx_get S hK hw t_1 cl_8 2 (by decide) rfl mw_131 rfl dX7_showAtMost_3 ?_
  refine gx_top (v := 0) (by first | rfl | decide | simp [up2, gs0, h_1_2]) ?_
  refine gx_min (w := if 0 < v then 0 else v) S hl.1 mw_528 mw_529 mw_102 mw_530 ⟨Nat.le_of_ble_eq_true rfl, Nat.le_of_ble_eq_true rfl⟩ ⟨Nat.le_of_ble_eq_true rfl, Nat.le_of_ble_eq_true rfl⟩ dX7_showAtMost_6 rfl ?_
  refine gx_put S hK gx_ok hw t_1 cl_8 1 (by decide) rfl mw_130 rfl rfl (ty := .int) (v := if 0 < v then 0 else v) (by decide +kernel) rfl rfl dX7_showAtMost_9 (fun H locs hw => ?_)
  exact gx_rv (post := fun σ1 τ1 => (∀ c k : Nat, ¬ (c = 1 ∧ k = 1) → σ1 c k = (σ) c k) ∧ τ1 = τ) S hr hlk hw dX7_showAtMost_12 ⟨(fun c9 k9 h9_0 => by simp [up2, upJ, h9_0]), rfl⟩
set_option maxHeartbeats 4000000 in
set_option maxRecDepth 100000 in
theorem c_isOver (l : Launch) {E : gE} (σ : gI) (τ : gJ)  (h_1_2 : σ 1 2 = 0) : gx_Mi l yX7_isOver cX7_isOver 2 (some .boolean) 0 gx_tb E (σ) (τ) [.ref (E.2.2 + 1), .int 0] (fun r σ1 τ1 => r = 1 ∧ σ1 = σ ∧ τ1 = τ) := by
  refine gx_bi (by decide +kernel) (Nat.le_of_ble_eq_true rfl) ?_
  intro P9 e9 s m9 below meth C9 S hr hlk hK hw ls hl
  have S : CallFix P9 m9 C9 cX7_isOver 2 s _ gx_G RX7 := S
  have hx := S.1
  have hb := S.2.1
  have hl : lv_has ls 2 [(0, .ref (E.2.2 + 1)), (1, .int 0)] := hl
  refine lv_iload_n hx hb dX7_isOver_0 rfl (lv_at hl 1 rfl) ?_
  refine lv_aload_n hx hb dX7_isOver_1 rfl (lv_at hl 0 rfl) ?_
  refine gx_get S hK hw t_1 cl_8 2 (by decide) rfl mw_131 rfl dX7_isOver_2 ?_
  refine gx_top (v := 0) (by first | rfl | decide | simp [up2, gs0, h_1_2]) ?_
  refine lv_icmp_lt (tgt := 12) hx hb dX7_isOver_5 (by decide) (fun h => absurd h (by decide)) (fun _ => ?_)
  refine lv_iconst (v := 1) hx hb dX7_isOver_8 (by decide) ?_
  refine lv_goto (tgt := 13) hx hb dX7_isOver_9 (by decide) ?_
  exact gx_ri (post := fun r σ1 τ1 => r = 1 ∧ σ1 = σ ∧ τ1 = τ) (v := 1) S hr hlk hw rfl dX7_isOver_13 ⟨rfl, rfl, rfl⟩
set_option maxHeartbeats 4000000 in
set_option maxRecDepth 100000 in
theorem c_Town_clear (l : Launch) {E : gE} (σ : gI) (τ : gJ)   : gx_Mv l yX8_clear cX8_clear 2 none 0 gx_tb E (σ) (τ) [.ref (E.2.2 + 9)] (fun σ1 τ1 => (∀ c k : Nat, ¬ c = 9 → ¬ c = 14 → σ1 c k = (σ) c k) ∧ τ1 = τ) := by
  refine gx_bv (by decide +kernel) (Nat.le_of_ble_eq_true rfl) ?_
  intro P9 e9 s m9 below meth C9 S hr hlk hK hw ls hl
  have S : CallFix P9 m9 C9 cX8_clear 2 s _ gx_G RX8 := S
  have hx := S.1
  have hb := S.2.1
  have hl : lv_has ls 2 [(0, .ref (E.2.2 + 9))] := hl
  refine lv_aload_n hx hb dX8_clear_0 rfl (lv_at hl 0 rfl) ?_
  refine lv_iconst (v := 0) hx hb dX8_clear_1 (by decide) ?_
  refine gx_put S hK gx_ok hw t_9 cl_9 6 (by decide) rfl mw_154 rfl rfl (ty := .int) (v := 0) (by decide +kernel) rfl rfl dX8_clear_2 (fun H locs hw => ?_)
  refine lv_aload_n hx hb dX8_clear_5 rfl (lv_at hl 0 rfl) ?_
  refine lv_iconst (v := 0) hx hb dX8_clear_6 (by decide) ?_
  refine gx_put S hK gx_ok hw t_9 cl_9 7 (by decide) rfl mw_156 rfl rfl (ty := .int) (v := 0) (by decide +kernel) rfl rfl dX8_clear_7 (fun H locs hw => ?_)
  refine lv_aload_n hx hb dX8_clear_10 rfl (lv_at hl 0 rfl) ?_
  refine lv_iconst (v := 0) hx hb dX8_clear_11 (by decide) ?_
  refine gx_put S hK gx_ok hw t_9 cl_9 5 (by decide) rfl mw_153 rfl rfl (ty := .int) (v := 0) (by decide +kernel) rfl rfl dX8_clear_12 (fun H locs hw => ?_)
  refine lv_aload_n hx hb dX8_clear_15 rfl (lv_at hl 0 rfl) ?_
  refine lv_iconst (v := 1) hx hb dX8_clear_16 (by decide) ?_
  refine gx_put S hK gx_ok hw t_9 cl_9 8 (by decide) rfl mw_159 rfl rfl (ty := .int) (v := 1) (by decide +kernel) rfl rfl dX8_clear_17 (fun H locs hw => ?_)
  refine lv_iconst (v := 0) hx hb dX8_clear_20 (by decide) ?_
  refine lv_istore_n (lv' := [(1, .int 0), (0, .ref (E.2.2 + 9))]) hx hb dX8_clear_21 rfl hl (by decide) rfl (fun ls hl => ?_)
  have loop_1 : ∀ (n1 : Nat) (i : Nat) (σ1 : gI) (H : Heap) (locs : List Loc) (ls : Array Slot), 12 - i < n1 → (i ≤ 12) → (∀ c k : Nat, ¬ c = 9 → ¬ c = 14 → σ1 c k = (σ) c k) → gx_W gx_tb (gx_tb).length E s (σ1) (τ) H locs → lv_has ls 2 [(0, .ref (E.2.2 + 9)), (1, .int (nI i))] → W P9 l e9 (gx_rm 0) s m9 ([.ref (E.2.2 + 9)] : List Value).toArray below meth C9 H locs 0 0 (MQ below (va_Qv (fun (u : gI × gJ) => (fun σ1 τ1 => (∀ c k : Nat, ¬ c = 9 → ¬ c = 14 → σ1 c k = (σ) c k) ∧ τ1 = τ) u.1 u.2) (fun u t => gx_P gx_tb E u.1 u.2 t.heap) (gx_A (gx_tb).length E.2.2 s.heap.size)) ([.ref (E.2.2 + 9)] : List Value).toArray s 0 0 (gx_A (gx_tb).length E.2.2 s.heap.size)) (F0 m9 22 ls []) := by
    intro n1
    induction n1 with
    | zero => intro i σ1 H locs ls hm; exact absurd hm (Nat.not_lt_zero _)
    | succ n1 ih_1 =>
      intro i σ1 H locs ls hm hi hs_1 hw hl
      refine lv_iload_n hx hb dX8_clear_22 rfl (lv_at hl 1 rfl) ?_
      refine lv_bipush (v := 12) hx hb dX8_clear_23 (by decide) ?_
      refine lv_icmp_ge (tgt := 41) hx hb dX8_clear_25 (by decide) (fun c_2 => ?_) (fun c_2 => ?_)
      · exact gx_rv (post := fun σ1 τ1 => (∀ c k : Nat, ¬ c = 9 → ¬ c = 14 → σ1 c k = (σ) c k) ∧ τ1 = τ) S hr hlk hw dX8_clear_41 ⟨(fun c9 k9 h9_0 h9_1 => by simp [up2, upJ, h9_0, h9_1, hs_1]), rfl⟩
      · have hlt : i < 12 := gx_ilt (k := 12) rfl (by omega) c_2
        refine lv_aload_n hx hb dX8_clear_28 rfl (lv_at hl 0 rfl) ?_
        refine gx_getr (j := 14) S hK hw t_9 cl_9 4 (by decide) rfl mw_152 rfl dX8_clear_29 ?_
        refine lv_iload_n hx hb dX8_clear_32 rfl (lv_at hl 1 rfl) ?_
        refine lv_iconst (v := (-1)) hx hb dX8_clear_33 (by decide) ?_
        refine gx_iast S hK gx_ok hw t_14 i (nI_clamp (by omega)) (vp_in_nI (by omega) (by omega)) dX8_clear_34 (fun H locs hw => ?_)
        refine lv_iinc (v := nI (i + 1)) (lv' := [(1, .int (nI (i + 1))), (0, .ref (E.2.2 + 9))]) hx hb dX8_clear_35 hl (k := 1) rfl (nI_1 _) (by decide) rfl (fun ls hl => ?_)
        refine lv_goto (tgt := 22) hx hb dX8_clear_38 (by decide) ?_
        exact ih_1 (i + 1) (up2 (σ1) 14 i (-1)) _ _ _ (by omega) (by omega) (fun c9 k9 h9_0 h9_1 => by simp [up2, upJ, h9_0, h9_1, hs_1]) hw (lv_sub hl [1, 0] rfl)
  exact loop_1 (12 + 1) 0 (up2 (up2 (up2 (up2 (σ) 9 6 0) 9 7 0) 9 5 0) 9 8 1) _ _ _ (by omega) (by omega) (fun c9 k9 h9_0 h9_1 => by simp [up2, upJ, h9_0, h9_1]) hw (lv_sub hl [1, 0] rfl)
set_option maxHeartbeats 4000000 in
set_option maxRecDepth 100000 in
theorem c_Town_read (l : Launch) {E : gE} (σ : gI) (τ : gJ)  (h_1_2 : σ 1 2 = 0) : gx_Mi l yX8_read cX8_read 5 (some .int) 2 gx_tb E (σ) (τ) [.ref (E.2.2 + 9), .ref (E.2.2 + 1)] (fun r σ1 τ1 => r = 0 ∧ (∀ c k : Nat, ¬ c = 9 → ¬ c = 14 → ¬ (c = 1 ∧ k = 1) → σ1 c k = (σ) c k) ∧ τ1 = τ) := by
  refine gx_bi (by decide +kernel) (Nat.le_of_ble_eq_true rfl) ?_
  intro P9 e9 s m9 below meth C9 S hr hlk hK hw ls hl
  have S : CallFix P9 m9 C9 cX8_read 5 s _ gx_G RX8 := S
  have hx := S.1
  have hb := S.2.1
  have hl : lv_has ls 5 [(0, .ref (E.2.2 + 9)), (1, .ref (E.2.2 + 1))] := hl
  refine lv_aload_n hx hb dX8_read_0 rfl (lv_at hl 0 rfl) ?_
  refine gx_cVv (As := []) (rest := []) S hK gx_ok hw (c_Town_clear l (E := E) (σ) (τ) ) cw_X8_40 t_9 cl_9 ⟨Nat.le_of_ble_eq_true rfl, Nat.le_of_ble_eq_true rfl⟩ rfl hl.1 rfl (Nat.le_of_ble_eq_true rfl) ⟨Nat.le_of_ble_eq_true rfl, Nat.le_of_ble_eq_true rfl⟩ dX8_read_1 (fun σ_1 τ_1 H locs hp hw => ?_)
  obtain ⟨hs_1, et_1⟩ := hp
  obtain rfl := et_1.symm
  refine lv_aload_n hx hb dX8_read_4 rfl (lv_at hl 1 rfl) ?_
  refine lv_bipush (v := 76) hx hb dX8_read_5 (by decide) ?_
  refine gx_cVv (As := [.int 76]) (rest := []) S hK gx_ok hw (c_show l (E := E) (σ_1) (τ) 76 (by first | rfl | decide | simp [up2, gs0, h_1_2, hs_1])) cw_X8_43 t_1 cl_8 ⟨Nat.le_of_ble_eq_true rfl, Nat.le_of_ble_eq_true rfl⟩ rfl hl.1 rfl (Nat.le_of_ble_eq_true rfl) ⟨Nat.le_of_ble_eq_true rfl, Nat.le_of_ble_eq_true rfl⟩ dX8_read_7 (fun σ_2 τ_2 H locs hp hw => ?_)
  obtain ⟨hs_2, et_2⟩ := hp
  obtain rfl := et_2.symm
  refine lv_aload_n hx hb dX8_read_10 rfl (lv_at hl 1 rfl) ?_
  refine lv_iconst (v := 0) hx hb dX8_read_11 (by decide) ?_
  refine gx_cVi (As := [.int 0]) (rest := []) S hK gx_ok hw (c_isOver l (E := E) (σ_2) (τ) (by first | rfl | decide | simp [up2, gs0, h_1_2, hs_1, hs_2])) cw_X8_49 t_1 cl_8 ⟨Nat.le_of_ble_eq_true rfl, Nat.le_of_ble_eq_true rfl⟩ rfl hl.1 rfl (Nat.le_of_ble_eq_true rfl) ⟨Nat.le_of_ble_eq_true rfl, Nat.le_of_ble_eq_true rfl⟩ dX8_read_12 (fun r_3 σ_3 τ_3 H locs hp hw => ?_)
  obtain ⟨er_3, es_3, et_3⟩ := hp
  obtain rfl := er_3.symm
  obtain rfl := es_3.symm
  obtain rfl := et_3.symm
  refine lv_if_eq (tgt := 20) hx hb dX8_read_15 (by decide) (fun h => absurd h (by decide)) (fun _ => ?_)
  refine lv_iconst (v := 0) hx hb dX8_read_18 (by decide) ?_
  exact gx_ri (post := fun r σ1 τ1 => r = 0 ∧ (∀ c k : Nat, ¬ c = 9 → ¬ c = 14 → ¬ (c = 1 ∧ k = 1) → σ1 c k = (σ) c k) ∧ τ1 = τ) (v := 0) S hr hlk hw rfl dX8_read_19 ⟨rfl, (fun c9 k9 h9_0 h9_1 h9_2 => by simp [up2, upJ, h9_0, h9_1, h9_2, hs_1, hs_2]), (by first | rfl | simp [up2, upJ])⟩
set_option maxHeartbeats 4000000 in
set_option maxRecDepth 100000 in
theorem c_Town_copy (l : Launch) {E : gE} (σ : gI) (τ : gJ)   : gx_Mv l yX8_copy cX8_copy 3 none 0 gx_tb E (σ) (τ) [.ref (E.2.2 + 3), .ref (E.2.2 + 9)] (fun σ1 τ1 => (∀ c k : Nat, ¬ c = 3 → ¬ c = 4 → ¬ c = 5 → ¬ c = 6 → ¬ c = 7 → σ1 c k = (σ) c k) ∧ τ1 = τ) := by
  refine gx_bv (by decide +kernel) (Nat.le_of_ble_eq_true rfl) ?_
  intro P9 e9 s m9 below meth C9 S hr hlk hK hw ls hl
  have S : CallFix P9 m9 C9 cX8_copy 3 s _ gx_G RX8 := S
  have hx := S.1
  have hb := S.2.1
  have hl : lv_has ls 3 [(0, .ref (E.2.2 + 3)), (1, .ref (E.2.2 + 9))] := hl
  refine lv_aload_n hx hb dX8_copy_0 rfl (lv_at hl 0 rfl) ?_
  refine lv_aload_n hx hb dX8_copy_1 rfl (lv_at hl 1 rfl) ?_
  refine gx_get S hK hw t_9 cl_9 6 (by decide) rfl mw_154 rfl dX8_copy_2 ?_
  refine gx_put S hK gx_ok hw t_3 cl_9 6 (by decide) rfl mw_154 rfl rfl (ty := .int) (v := (σ) 9 6) (by decide +kernel) rfl rfl dX8_copy_5 (fun H locs hw => ?_)
  refine lv_aload_n hx hb dX8_copy_8 rfl (lv_at hl 0 rfl) ?_
  refine lv_aload_n hx hb dX8_copy_9 rfl (lv_at hl 1 rfl) ?_
  refine gx_get S hK hw t_9 cl_9 7 (by decide) rfl mw_156 rfl dX8_copy_10 ?_
  refine gx_put S hK gx_ok hw t_3 cl_9 7 (by decide) rfl mw_156 rfl rfl (ty := .int) (v := (up2 (σ) 3 6 ((σ) 9 6)) 9 7) (by decide +kernel) rfl rfl dX8_copy_13 (fun H locs hw => ?_)
  refine lv_aload_n hx hb dX8_copy_16 rfl (lv_at hl 0 rfl) ?_
  refine lv_aload_n hx hb dX8_copy_17 rfl (lv_at hl 1 rfl) ?_
  refine gx_get S hK hw t_9 cl_9 5 (by decide) rfl mw_153 rfl dX8_copy_18 ?_
  refine gx_put S hK gx_ok hw t_3 cl_9 5 (by decide) rfl mw_153 rfl rfl (ty := .int) (v := (up2 (up2 (σ) 3 6 ((σ) 9 6)) 3 7 ((up2 (σ) 3 6 ((σ) 9 6)) 9 7)) 9 5) (by decide +kernel) rfl rfl dX8_copy_21 (fun H locs hw => ?_)
  refine lv_aload_n hx hb dX8_copy_24 rfl (lv_at hl 0 rfl) ?_
  refine lv_aload_n hx hb dX8_copy_25 rfl (lv_at hl 1 rfl) ?_
  refine gx_get S hK hw t_9 cl_9 8 (by decide) rfl mw_159 rfl dX8_copy_26 ?_
  refine gx_put S hK gx_ok hw t_3 cl_9 8 (by decide) rfl mw_159 rfl rfl (ty := .int) (v := (up2 (up2 (up2 (σ) 3 6 ((σ) 9 6)) 3 7 ((up2 (σ) 3 6 ((σ) 9 6)) 9 7)) 3 5 ((up2 (up2 (σ) 3 6 ((σ) 9 6)) 3 7 ((up2 (σ) 3 6 ((σ) 9 6)) 9 7)) 9 5)) 9 8) (by decide +kernel) rfl rfl dX8_copy_29 (fun H locs hw => ?_)
  refine lv_iconst (v := 0) hx hb dX8_copy_32 (by decide) ?_
  refine lv_istore_n (lv' := [(2, .int 0), (0, .ref (E.2.2 + 3)), (1, .ref (E.2.2 + 9))]) hx hb dX8_copy_33 rfl hl (by decide) rfl (fun ls hl => ?_)
  have loop_1 : ∀ (n1 : Nat) (i : Nat) (σ1 : gI) (H : Heap) (locs : List Loc) (ls : Array Slot), 12 - i < n1 → (i ≤ 12) → (∀ c k : Nat, ¬ c = 3 → ¬ c = 4 → ¬ c = 5 → ¬ c = 6 → ¬ c = 7 → σ1 c k = (σ) c k) → gx_W gx_tb (gx_tb).length E s (σ1) (τ) H locs → lv_has ls 3 [(0, .ref (E.2.2 + 3)), (1, .ref (E.2.2 + 9)), (2, .int (nI i))] → W P9 l e9 (gx_rm 0) s m9 ([.ref (E.2.2 + 3), .ref (E.2.2 + 9)] : List Value).toArray below meth C9 H locs 0 0 (MQ below (va_Qv (fun (u : gI × gJ) => (fun σ1 τ1 => (∀ c k : Nat, ¬ c = 3 → ¬ c = 4 → ¬ c = 5 → ¬ c = 6 → ¬ c = 7 → σ1 c k = (σ) c k) ∧ τ1 = τ) u.1 u.2) (fun u t => gx_P gx_tb E u.1 u.2 t.heap) (gx_A (gx_tb).length E.2.2 s.heap.size)) ([.ref (E.2.2 + 3), .ref (E.2.2 + 9)] : List Value).toArray s 0 0 (gx_A (gx_tb).length E.2.2 s.heap.size)) (F0 m9 34 ls []) := by
    intro n1
    induction n1 with
    | zero => intro i σ1 H locs ls hm; exact absurd hm (Nat.not_lt_zero _)
    | succ n1 ih_1 =>
      intro i σ1 H locs ls hm hi hs_1 hw hl
      refine lv_iload_n hx hb dX8_copy_34 rfl (lv_at hl 2 rfl) ?_
      refine lv_bipush (v := 12) hx hb dX8_copy_35 (by decide) ?_
      refine lv_icmp_ge (tgt := 94) hx hb dX8_copy_37 (by decide) (fun c_2 => ?_) (fun c_2 => ?_)
      · exact gx_rv (post := fun σ1 τ1 => (∀ c k : Nat, ¬ c = 3 → ¬ c = 4 → ¬ c = 5 → ¬ c = 6 → ¬ c = 7 → σ1 c k = (σ) c k) ∧ τ1 = τ) S hr hlk hw dX8_copy_94 ⟨(fun c9 k9 h9_0 h9_1 h9_2 h9_3 h9_4 => by simp [up2, upJ, h9_0, h9_1, h9_2, h9_3, h9_4, hs_1]), rfl⟩
      · have hlt : i < 12 := gx_ilt (k := 12) rfl (by omega) c_2
        refine lv_aload_n hx hb dX8_copy_40 rfl (lv_at hl 0 rfl) ?_
        refine gx_getr (j := 4) S hK hw t_3 cl_9 0 (by decide) rfl mw_148 rfl dX8_copy_41 ?_
        refine lv_iload_n hx hb dX8_copy_44 rfl (lv_at hl 2 rfl) ?_
        refine lv_aload_n hx hb dX8_copy_45 rfl (lv_at hl 1 rfl) ?_
        refine gx_getr (j := 10) S hK hw t_9 cl_9 0 (by decide) rfl mw_148 rfl dX8_copy_46 ?_
        refine lv_iload_n hx hb dX8_copy_49 rfl (lv_at hl 2 rfl) ?_
        refine gx_iald S hK hw t_10 i (nI_clamp (by omega)) (vp_in_nI (by omega) (by omega)) dX8_copy_50 ?_
        refine gx_iast S hK gx_ok hw t_4 i (nI_clamp (by omega)) (vp_in_nI (by omega) (by omega)) dX8_copy_51 (fun H locs hw => ?_)
        refine lv_aload_n hx hb dX8_copy_52 rfl (lv_at hl 0 rfl) ?_
        refine gx_getr (j := 5) S hK hw t_3 cl_9 1 (by decide) rfl mw_149 rfl dX8_copy_53 ?_
        refine lv_iload_n hx hb dX8_copy_56 rfl (lv_at hl 2 rfl) ?_
        refine lv_aload_n hx hb dX8_copy_57 rfl (lv_at hl 1 rfl) ?_
        refine gx_getr (j := 11) S hK hw t_9 cl_9 1 (by decide) rfl mw_149 rfl dX8_copy_58 ?_
        refine lv_iload_n hx hb dX8_copy_61 rfl (lv_at hl 2 rfl) ?_
        refine gx_iald S hK hw t_11 i (nI_clamp (by omega)) (vp_in_nI (by omega) (by omega)) dX8_copy_62 ?_
        refine gx_iast S hK gx_ok hw t_5 i (nI_clamp (by omega)) (vp_in_nI (by omega) (by omega)) dX8_copy_63 (fun H locs hw => ?_)
        refine lv_aload_n hx hb dX8_copy_64 rfl (lv_at hl 0 rfl) ?_
        refine gx_getr (j := 6) S hK hw t_3 cl_9 2 (by decide) rfl mw_150 rfl dX8_copy_65 ?_
        refine lv_iload_n hx hb dX8_copy_68 rfl (lv_at hl 2 rfl) ?_
        refine lv_aload_n hx hb dX8_copy_69 rfl (lv_at hl 1 rfl) ?_
        refine gx_getr (j := 12) S hK hw t_9 cl_9 2 (by decide) rfl mw_150 rfl dX8_copy_70 ?_
        refine lv_iload_n hx hb dX8_copy_73 rfl (lv_at hl 2 rfl) ?_
        refine gx_iald S hK hw t_12 i (nI_clamp (by omega)) (vp_in_nI (by omega) (by omega)) dX8_copy_74 ?_
        refine gx_iast S hK gx_ok hw t_6 i (nI_clamp (by omega)) (vp_in_nI (by omega) (by omega)) dX8_copy_75 (fun H locs hw => ?_)
        refine lv_aload_n hx hb dX8_copy_76 rfl (lv_at hl 0 rfl) ?_
        refine gx_getr (j := 7) S hK hw t_3 cl_9 3 (by decide) rfl mw_151 rfl dX8_copy_77 ?_
        refine lv_iload_n hx hb dX8_copy_80 rfl (lv_at hl 2 rfl) ?_
        refine lv_aload_n hx hb dX8_copy_81 rfl (lv_at hl 1 rfl) ?_
        refine gx_getr (j := 13) S hK hw t_9 cl_9 3 (by decide) rfl mw_151 rfl dX8_copy_82 ?_
        refine lv_iload_n hx hb dX8_copy_85 rfl (lv_at hl 2 rfl) ?_
        refine gx_iald S hK hw t_13 i (nI_clamp (by omega)) (vp_in_nI (by omega) (by omega)) dX8_copy_86 ?_
        refine gx_iast S hK gx_ok hw t_7 i (nI_clamp (by omega)) (vp_in_nI (by omega) (by omega)) dX8_copy_87 (fun H locs hw => ?_)
        refine lv_iinc (v := nI (i + 1)) (lv' := [(2, .int (nI (i + 1))), (0, .ref (E.2.2 + 3)), (1, .ref (E.2.2 + 9))]) hx hb dX8_copy_88 hl (k := 2) rfl (nI_1 _) (by decide) rfl (fun ls hl => ?_)
        refine lv_goto (tgt := 34) hx hb dX8_copy_91 (by decide) ?_
        exact ih_1 (i + 1) (up2 (up2 (up2 (up2 (σ1) 4 i ((σ1) 10 i)) 5 i ((up2 (σ1) 4 i ((σ1) 10 i)) 11 i)) 6 i ((up2 (up2 (σ1) 4 i ((σ1) 10 i)) 5 i ((up2 (σ1) 4 i ((σ1) 10 i)) 11 i)) 12 i)) 7 i ((up2 (up2 (up2 (σ1) 4 i ((σ1) 10 i)) 5 i ((up2 (σ1) 4 i ((σ1) 10 i)) 11 i)) 6 i ((up2 (up2 (σ1) 4 i ((σ1) 10 i)) 5 i ((up2 (σ1) 4 i ((σ1) 10 i)) 11 i)) 12 i)) 13 i)) _ _ _ (by omega) (by omega) (fun c9 k9 h9_0 h9_1 h9_2 h9_3 h9_4 => by simp [up2, upJ, h9_0, h9_1, h9_2, h9_3, h9_4, hs_1]) hw (lv_sub hl [1, 2, 0] rfl)
  exact loop_1 (12 + 1) 0 (up2 (up2 (up2 (up2 (σ) 3 6 ((σ) 9 6)) 3 7 ((up2 (σ) 3 6 ((σ) 9 6)) 9 7)) 3 5 ((up2 (up2 (σ) 3 6 ((σ) 9 6)) 3 7 ((up2 (σ) 3 6 ((σ) 9 6)) 9 7)) 9 5)) 3 8 ((up2 (up2 (up2 (σ) 3 6 ((σ) 9 6)) 3 7 ((up2 (σ) 3 6 ((σ) 9 6)) 9 7)) 3 5 ((up2 (up2 (σ) 3 6 ((σ) 9 6)) 3 7 ((up2 (σ) 3 6 ((σ) 9 6)) 9 7)) 9 5)) 9 8)) _ _ _ (by omega) (by omega) (fun c9 k9 h9_0 h9_1 h9_2 h9_3 h9_4 => by simp [up2, upJ, h9_0, h9_1, h9_2, h9_3, h9_4]) hw (lv_sub hl [1, 2, 0] rfl)
set_option maxHeartbeats 4000000 in
set_option maxRecDepth 100000 in
theorem c_Town_has (l : Launch) {E : gE} (σ : gI) (τ : gJ) (p : Int32) (h_3_6 : σ 3 6 = 0) : gx_Mi l yX8_has cX8_has 2 (some .boolean) 0 gx_tb E (σ) (τ) [.ref (E.2.2 + 3), .int p] (fun r σ1 τ1 => r = 0 ∧ σ1 = σ ∧ τ1 = τ) := by
  refine gx_bi (by decide +kernel) (Nat.le_of_ble_eq_true rfl) ?_
  intro P9 e9 s m9 below meth C9 S hr hlk hK hw ls hl
  have S : CallFix P9 m9 C9 cX8_has 2 s _ gx_G RX8 := S
  have hx := S.1
  have hb := S.2.1
  have hl : lv_has ls 2 [(0, .ref (E.2.2 + 3)), (1, .int p)] := hl
  refine lv_iload_n hx hb dX8_has_0 rfl (lv_at hl 1 rfl) ?_
  refine lv_if_lt (tgt := 16) hx hb dX8_has_1 (by decide) (fun c_1 => ?_) (fun c_1 => ?_)
  · refine lv_iconst (v := 0) hx hb dX8_has_16 (by decide) ?_
    exact gx_ri (post := fun r σ1 τ1 => r = 0 ∧ σ1 = σ ∧ τ1 = τ) (v := 0) S hr hlk hw rfl dX8_has_17 ⟨rfl, rfl, rfl⟩
  · refine lv_iload_n hx hb dX8_has_4 rfl (lv_at hl 1 rfl) ?_
    refine lv_aload_n hx hb dX8_has_5 rfl (lv_at hl 0 rfl) ?_
    refine gx_get S hK hw t_3 cl_9 6 (by decide) rfl mw_154 rfl dX8_has_6 ?_
    refine gx_top (v := 0) (by first | rfl | decide | simp [up2, gs0, h_3_6]) ?_
    refine lv_icmp_ge (tgt := 16) hx hb dX8_has_9 (by decide) (fun c_2 => ?_) (fun c_2 => ?_)
    · refine lv_iconst (v := 0) hx hb dX8_has_16 (by decide) ?_
      exact gx_ri (post := fun r σ1 τ1 => r = 0 ∧ σ1 = σ ∧ τ1 = τ) (v := 0) S hr hlk hw rfl dX8_has_17 ⟨rfl, rfl, rfl⟩
    · refine lv_iconst (v := 1) hx hb dX8_has_12 (by decide) ?_
      refine lv_goto (tgt := 17) hx hb dX8_has_13 (by decide) ?_
      exact gx_ri (post := fun r σ1 τ1 => r = 0 ∧ σ1 = σ ∧ τ1 = τ) (v := 1) S hr hlk hw rfl dX8_has_17 ⟨(by exfalso; simp only [fa_lt, fa_le, fa_eq, show (0 : Int32).toInt = 0 from rfl] at c_1 c_2; omega), rfl, rfl⟩
set_option maxHeartbeats 4000000 in
set_option maxRecDepth 100000 in
theorem c_Town_isFork (l : Launch) {E : gE} (σ : gI) (τ : gJ) (p : Int32) (h_3_7 : σ 3 7 = 0) : gx_Mi l yX8_isFork cX8_isFork 2 (some .boolean) 0 gx_tb E (σ) (τ) [.ref (E.2.2 + 3), .int p] (fun r σ1 τ1 => r = 0 ∧ σ1 = σ ∧ τ1 = τ) := by
  refine gx_bi (by decide +kernel) (Nat.le_of_ble_eq_true rfl) ?_
  intro P9 e9 s m9 below meth C9 S hr hlk hK hw ls hl
  have S : CallFix P9 m9 C9 cX8_isFork 2 s _ gx_G RX8 := S
  have hx := S.1
  have hb := S.2.1
  have hl : lv_has ls 2 [(0, .ref (E.2.2 + 3)), (1, .int p)] := hl
  refine lv_iload_n hx hb dX8_isFork_0 rfl (lv_at hl 1 rfl) ?_
  refine lv_if_lt (tgt := 25) hx hb dX8_isFork_1 (by decide) (fun c_1 => ?_) (fun c_1 => ?_)
  · refine lv_iconst (v := 0) hx hb dX8_isFork_25 (by decide) ?_
    exact gx_ri (post := fun r σ1 τ1 => r = 0 ∧ σ1 = σ ∧ τ1 = τ) (v := 0) S hr hlk hw rfl dX8_isFork_26 ⟨rfl, rfl, rfl⟩
  · refine lv_iload_n hx hb dX8_isFork_4 rfl (lv_at hl 1 rfl) ?_
    refine lv_bipush (v := 12) hx hb dX8_isFork_5 (by decide) ?_
    refine lv_icmp_ge (tgt := 25) hx hb dX8_isFork_7 (by decide) (fun c_2 => ?_) (fun c_2 => ?_)
    · refine lv_iconst (v := 0) hx hb dX8_isFork_25 (by decide) ?_
      exact gx_ri (post := fun r σ1 τ1 => r = 0 ∧ σ1 = σ ∧ τ1 = τ) (v := 0) S hr hlk hw rfl dX8_isFork_26 ⟨rfl, rfl, rfl⟩
    · refine lv_aload_n hx hb dX8_isFork_10 rfl (lv_at hl 0 rfl) ?_
      refine gx_get S hK hw t_3 cl_9 7 (by decide) rfl mw_156 rfl dX8_isFork_11 ?_
      refine gx_top (v := 0) (by first | rfl | decide | simp [up2, gs0, h_3_7]) ?_
      refine lv_iload_n hx hb dX8_isFork_14 rfl (lv_at hl 1 rfl) ?_
      refine lv_ishr hx hb dX8_isFork_15 ?_
      refine gx_top (v := 0) (by exact gx_0shr _) ?_
      refine lv_iconst (v := 1) hx hb dX8_isFork_16 (by decide) ?_
      refine lv_iand hx hb dX8_isFork_17 ?_
      refine gx_top (v := 0) (by decide) ?_
      refine lv_if_eq (tgt := 25) hx hb dX8_isFork_18 (by decide) (fun _ => ?_) (fun h => absurd (by decide) h)
      refine lv_iconst (v := 0) hx hb dX8_isFork_25 (by decide) ?_
      exact gx_ri (post := fun r σ1 τ1 => r = 0 ∧ σ1 = σ ∧ τ1 = τ) (v := 0) S hr hlk hw rfl dX8_isFork_26 ⟨rfl, rfl, rfl⟩
set_option maxHeartbeats 4000000 in
set_option maxRecDepth 100000 in
theorem c_Town_isKitchen (l : Launch) {E : gE} (σ : gI) (τ : gJ) (p : Int32) (h_3_5 : σ 3 5 = 0) : gx_Mi l yX8_isKitchen cX8_isKitchen 2 (some .boolean) 0 gx_tb E (σ) (τ) [.ref (E.2.2 + 3), .int p] (fun r σ1 τ1 => r = 0 ∧ σ1 = σ ∧ τ1 = τ) := by
  refine gx_bi (by decide +kernel) (Nat.le_of_ble_eq_true rfl) ?_
  intro P9 e9 s m9 below meth C9 S hr hlk hK hw ls hl
  have S : CallFix P9 m9 C9 cX8_isKitchen 2 s _ gx_G RX8 := S
  have hx := S.1
  have hb := S.2.1
  have hl : lv_has ls 2 [(0, .ref (E.2.2 + 3)), (1, .int p)] := hl
  refine lv_iload_n hx hb dX8_isKitchen_0 rfl (lv_at hl 1 rfl) ?_
  refine lv_if_lt (tgt := 25) hx hb dX8_isKitchen_1 (by decide) (fun c_1 => ?_) (fun c_1 => ?_)
  · refine lv_iconst (v := 0) hx hb dX8_isKitchen_25 (by decide) ?_
    exact gx_ri (post := fun r σ1 τ1 => r = 0 ∧ σ1 = σ ∧ τ1 = τ) (v := 0) S hr hlk hw rfl dX8_isKitchen_26 ⟨rfl, rfl, rfl⟩
  · refine lv_iload_n hx hb dX8_isKitchen_4 rfl (lv_at hl 1 rfl) ?_
    refine lv_bipush (v := 12) hx hb dX8_isKitchen_5 (by decide) ?_
    refine lv_icmp_ge (tgt := 25) hx hb dX8_isKitchen_7 (by decide) (fun c_2 => ?_) (fun c_2 => ?_)
    · refine lv_iconst (v := 0) hx hb dX8_isKitchen_25 (by decide) ?_
      exact gx_ri (post := fun r σ1 τ1 => r = 0 ∧ σ1 = σ ∧ τ1 = τ) (v := 0) S hr hlk hw rfl dX8_isKitchen_26 ⟨rfl, rfl, rfl⟩
    · refine lv_aload_n hx hb dX8_isKitchen_10 rfl (lv_at hl 0 rfl) ?_
      refine gx_get S hK hw t_3 cl_9 5 (by decide) rfl mw_153 rfl dX8_isKitchen_11 ?_
      refine gx_top (v := 0) (by first | rfl | decide | simp [up2, gs0, h_3_5]) ?_
      refine lv_iload_n hx hb dX8_isKitchen_14 rfl (lv_at hl 1 rfl) ?_
      refine lv_ishr hx hb dX8_isKitchen_15 ?_
      refine gx_top (v := 0) (by exact gx_0shr _) ?_
      refine lv_iconst (v := 1) hx hb dX8_isKitchen_16 (by decide) ?_
      refine lv_iand hx hb dX8_isKitchen_17 ?_
      refine gx_top (v := 0) (by decide) ?_
      refine lv_if_eq (tgt := 25) hx hb dX8_isKitchen_18 (by decide) (fun _ => ?_) (fun h => absurd (by decide) h)
      refine lv_iconst (v := 0) hx hb dX8_isKitchen_25 (by decide) ?_
      exact gx_ri (post := fun r σ1 τ1 => r = 0 ∧ σ1 = σ ∧ τ1 = τ) (v := 0) S hr hlk hw rfl dX8_isKitchen_26 ⟨rfl, rfl, rfl⟩
set_option maxHeartbeats 4000000 in
set_option maxRecDepth 100000 in
theorem c_Town_nextSet (l : Launch) {E : gE} (σ : gI) (τ : gJ)  (h_3_7 : σ 3 7 = 0) : gx_Mi l yX8_nextSet cX8_nextSet 2 (some .int) 0 gx_tb E (σ) (τ) [.ref (E.2.2 + 3), .int 0] (fun r σ1 τ1 => r = 0 ∧ σ1 = σ ∧ τ1 = τ) := by
  refine gx_bi (by decide +kernel) (Nat.le_of_ble_eq_true rfl) ?_
  intro P9 e9 s m9 below meth C9 S hr hlk hK hw ls hl
  have S : CallFix P9 m9 C9 cX8_nextSet 2 s _ gx_G RX8 := S
  have hx := S.1
  have hb := S.2.1
  have hl : lv_has ls 2 [(0, .ref (E.2.2 + 3)), (1, .int 0)] := hl
  refine lv_iload_n hx hb dX8_nextSet_0 rfl (lv_at hl 1 rfl) ?_
  refine lv_aload_n hx hb dX8_nextSet_1 rfl (lv_at hl 0 rfl) ?_
  refine gx_get S hK hw t_3 cl_9 7 (by decide) rfl mw_156 rfl dX8_nextSet_2 ?_
  refine gx_top (v := 0) (by first | rfl | decide | simp [up2, gs0, h_3_7]) ?_
  refine lv_isub hx hb dX8_nextSet_5 ?_
  refine gx_top (v := 0) (by decide) ?_
  refine lv_aload_n hx hb dX8_nextSet_6 rfl (lv_at hl 0 rfl) ?_
  refine gx_get S hK hw t_3 cl_9 7 (by decide) rfl mw_156 rfl dX8_nextSet_7 ?_
  refine gx_top (v := 0) (by first | rfl | decide | simp [up2, gs0, h_3_7]) ?_
  refine lv_iand hx hb dX8_nextSet_10 ?_
  refine gx_top (v := 0) (by decide) ?_
  exact gx_ri (post := fun r σ1 τ1 => r = 0 ∧ σ1 = σ ∧ τ1 = τ) (v := 0) S hr hlk hw rfl dX8_nextSet_11 ⟨rfl, rfl, rfl⟩
set_option maxHeartbeats 4000000 in
set_option maxRecDepth 100000 in
theorem c_Water_in (l : Launch) {E : gE} (σ : gI) (τ : gJ) (m1 : Int32) (h_15_1 : σ 15 1 = 0) : gx_Mi l yX10_in cX10_in 2 (some .int) 0 gx_tb E (σ) (τ) [.ref (E.2.2 + 15), .int m1] (fun r σ1 τ1 => r = 1 ∧ σ1 = σ ∧ τ1 = τ) := by
  refine gx_bi (by decide +kernel) (Nat.le_of_ble_eq_true rfl) ?_
  intro P9 e9 s m9 below meth C9 S hr hlk hK hw ls hl
  have S : CallFix P9 m9 C9 cX10_in 2 s _ gx_G RX10 := S
  have hx := S.1
  have hb := S.2.1
  have hl : lv_has ls 2 [(0, .ref (E.2.2 + 15)), (1, .int m1)] := hl
  refine lv_aload_n hx hb dX10_in_0 rfl (lv_at hl 0 rfl) ?_
  refine gx_get S hK hw t_15 cl_11 1 (by decide) rfl mw_188 rfl dX10_in_1 ?_
  refine gx_top (v := 0) (by first | rfl | decide | simp [up2, gs0, h_15_1]) ?_
  refine lv_if_le (tgt := 20) hx hb dX10_in_4 (by decide) (fun _ => ?_) (fun h => absurd (by decide) h)
  refine lv_iconst (v := 1) hx hb dX10_in_20 (by decide) ?_
  exact gx_ri (post := fun r σ1 τ1 => r = 1 ∧ σ1 = σ ∧ τ1 = τ) (v := 1) S hr hlk hw rfl dX10_in_21 ⟨rfl, rfl, rfl⟩
set_option maxHeartbeats 4000000 in
set_option maxRecDepth 100000 in
theorem c_Water_read (l : Launch) {E : gE} (σ : gI) (τ : gJ)  (h_1_2 : σ 1 2 = 0) : gx_Mi l yX10_read cX10_read 4 (some .int) 2 gx_tb E (σ) (τ) [.ref (E.2.2 + 15), .ref (E.2.2 + 1)] (fun r σ1 τ1 => r = 0 ∧ (∀ c k : Nat, ¬ (c = 1 ∧ k = 1) → ¬ c = 15 → σ1 c k = (σ) c k) ∧ τ1 = τ) := by
  refine gx_bi (by decide +kernel) (Nat.le_of_ble_eq_true rfl) ?_
  intro P9 e9 s m9 below meth C9 S hr hlk hK hw ls hl
  have S : CallFix P9 m9 C9 cX10_read 4 s _ gx_G RX10 := S
  have hx := S.1
  have hb := S.2.1
  have hl : lv_has ls 4 [(0, .ref (E.2.2 + 15)), (1, .ref (E.2.2 + 1))] := hl
  refine lv_aload_n hx hb dX10_read_0 rfl (lv_at hl 1 rfl) ?_
  refine lv_bipush (v := 40) hx hb dX10_read_1 (by decide) ?_
  refine gx_cVv (As := [.int 40]) (rest := []) S hK gx_ok hw (c_show l (E := E) (σ) (τ) 40 (by first | rfl | decide | simp [up2, gs0, h_1_2])) cw_X10_19 t_1 cl_8 ⟨Nat.le_of_ble_eq_true rfl, Nat.le_of_ble_eq_true rfl⟩ rfl hl.1 rfl (Nat.le_of_ble_eq_true rfl) ⟨Nat.le_of_ble_eq_true rfl, Nat.le_of_ble_eq_true rfl⟩ dX10_read_3 (fun σ_1 τ_1 H locs hp hw => ?_)
  obtain ⟨hs_1, et_1⟩ := hp
  obtain rfl := et_1.symm
  refine lv_iconst (v := 0) hx hb dX10_read_6 (by decide) ?_
  refine lv_istore_n (lv' := [(2, .int 0), (0, .ref (E.2.2 + 15)), (1, .ref (E.2.2 + 1))]) hx hb dX10_read_7 rfl hl (by decide) rfl (fun ls hl => ?_)
  refine lv_iload_n hx hb dX10_read_8 rfl (lv_at hl 0 rfl) ?_
  refine lv_bipush (v := 40) hx hb dX10_read_9 (by decide) ?_
  refine lv_icmp_gt (tgt := 47) hx hb dX10_read_11 (by decide) (fun h => absurd h (by decide)) (fun _ => ?_)
  refine lv_aload_n hx hb dX10_read_14 rfl (lv_at hl 2 rfl) ?_
  refine lv_iload_n hx hb dX10_read_15 rfl (lv_at hl 0 rfl) ?_
  refine gx_cVi (As := [.int 0]) (rest := []) S hK gx_ok hw (c_isOver l (E := E) (σ_1) (τ) (by first | rfl | decide | simp [up2, gs0, h_1_2, hs_1])) cw_X10_25 t_1 cl_8 ⟨Nat.le_of_ble_eq_true rfl, Nat.le_of_ble_eq_true rfl⟩ rfl hl.1 rfl (Nat.le_of_ble_eq_true rfl) ⟨Nat.le_of_ble_eq_true rfl, Nat.le_of_ble_eq_true rfl⟩ dX10_read_16 (fun r_2 σ_2 τ_2 H locs hp hw => ?_)
  obtain ⟨er_2, es_2, et_2⟩ := hp
  obtain rfl := er_2.symm
  obtain rfl := es_2.symm
  obtain rfl := et_2.symm
  refine lv_if_ne (tgt := 47) hx hb dX10_read_19 (by decide) (fun _ => ?_) (fun h => absurd h (by decide))
  refine lv_aload_n hx hb dX10_read_47 rfl (lv_at hl 1 rfl) ?_
  refine lv_aload_n hx hb dX10_read_48 rfl (lv_at hl 2 rfl) ?_
  refine gx_get S hK hw t_1 cl_8 2 (by decide) rfl mw_133 rfl dX10_read_49 ?_
  refine gx_top (v := 0) (by first | rfl | decide | simp [up2, gs0, h_1_2, hs_1]) ?_
  refine lv_bipush (v := 40) hx hb dX10_read_52 (by decide) ?_
  refine gx_min (w := 0) S hl.1 mw_692 mw_529 mw_102 mw_530 ⟨Nat.le_of_ble_eq_true rfl, Nat.le_of_ble_eq_true rfl⟩ ⟨Nat.le_of_ble_eq_true rfl, Nat.le_of_ble_eq_true rfl⟩ dX10_read_54 (by decide) ?_
  refine gx_put S hK gx_ok hw t_15 cl_11 1 (by decide) rfl mw_188 rfl rfl (ty := .int) (v := 0) (by decide +kernel) rfl rfl dX10_read_57 (fun H locs hw => ?_)
  refine lv_iconst (v := 0) hx hb dX10_read_60 (by decide) ?_
  refine lv_istore_n (lv' := [(2, .int 0), (0, .ref (E.2.2 + 15)), (1, .ref (E.2.2 + 1))]) hx hb dX10_read_61 rfl hl (by decide) rfl (fun ls hl => ?_)
  refine lv_iload_n hx hb dX10_read_62 rfl (lv_at hl 0 rfl) ?_
  refine lv_aload_n hx hb dX10_read_63 rfl (lv_at hl 1 rfl) ?_
  refine gx_get S hK hw t_15 cl_11 1 (by decide) rfl mw_188 rfl dX10_read_64 ?_
  refine gx_top (v := 0) (by first | rfl | decide | simp [up2, gs0, h_1_2, hs_1]) ?_
  refine lv_icmp_ge (tgt := 87) hx hb dX10_read_67 (by decide) (fun _ => ?_) (fun h => absurd (by decide) h)
  refine lv_aload_n hx hb dX10_read_87 rfl (lv_at hl 1 rfl) ?_
  refine gx_get S hK hw t_15 cl_11 1 (by decide) rfl mw_188 rfl dX10_read_88 ?_
  refine gx_top (v := 0) (by first | rfl | decide | simp [up2, gs0, h_1_2, hs_1]) ?_
  exact gx_ri (post := fun r σ1 τ1 => r = 0 ∧ (∀ c k : Nat, ¬ (c = 1 ∧ k = 1) → ¬ c = 15 → σ1 c k = (σ) c k) ∧ τ1 = τ) (v := 0) S hr hlk hw rfl dX10_read_91 ⟨rfl, (fun c9 k9 h9_0 h9_1 => by simp [up2, upJ, h9_0, h9_1, hs_1]), (by first | rfl | simp [up2, upJ])⟩
set_option maxHeartbeats 4000000 in
set_option maxRecDepth 100000 in
theorem c_Rule_clear (l : Launch) {E : gE} (σ : gI) (τ : gJ)   : gx_Mv l yX5_clear cX5_clear 1 none 0 gx_tb E (σ) (τ) [.ref (E.2.2 + 21)] (fun σ1 τ1 => σ1 = up2 (up2 (up2 (up2 (up2 (up2 (up2 (up2 (σ) 21 3 0) 21 4 0) 21 5 0) 21 6 0) 21 7 0) 21 8 1) 21 9 0) 21 10 0 ∧ τ1 = τ) := by
  refine gx_bv (by decide +kernel) (Nat.le_of_ble_eq_true rfl) ?_
  intro P9 e9 s m9 below meth C9 S hr hlk hK hw ls hl
  have S : CallFix P9 m9 C9 cX5_clear 1 s _ gx_G RX5 := S
  have hx := S.1
  have hb := S.2.1
  have hl : lv_has ls 1 [(0, .ref (E.2.2 + 21))] := hl
  refine lv_aload_n hx hb dX5_clear_0 rfl (lv_at hl 0 rfl) ?_
  refine lv_iconst (v := 0) hx hb dX5_clear_1 (by decide) ?_
  refine gx_put S hK gx_ok hw t_21 cl_6 3 (by decide) rfl mw_203 rfl rfl (ty := .int) (v := 0) (by decide +kernel) rfl rfl dX5_clear_2 (fun H locs hw => ?_)
  refine lv_aload_n hx hb dX5_clear_5 rfl (lv_at hl 0 rfl) ?_
  refine lv_iconst (v := 0) hx hb dX5_clear_6 (by decide) ?_
  refine gx_put S hK gx_ok hw t_21 cl_6 4 (by decide) rfl mw_204 rfl rfl (ty := .int) (v := 0) (by decide +kernel) rfl rfl dX5_clear_7 (fun H locs hw => ?_)
  refine lv_aload_n hx hb dX5_clear_10 rfl (lv_at hl 0 rfl) ?_
  refine lv_iconst (v := 0) hx hb dX5_clear_11 (by decide) ?_
  refine gx_put S hK gx_ok hw t_21 cl_6 5 (by decide) rfl mw_205 rfl rfl (ty := .int) (v := 0) (by decide +kernel) rfl rfl dX5_clear_12 (fun H locs hw => ?_)
  refine lv_aload_n hx hb dX5_clear_15 rfl (lv_at hl 0 rfl) ?_
  refine lv_iconst (v := 0) hx hb dX5_clear_16 (by decide) ?_
  refine gx_put S hK gx_ok hw t_21 cl_6 6 (by decide) rfl mw_206 rfl rfl (ty := .int) (v := 0) (by decide +kernel) rfl rfl dX5_clear_17 (fun H locs hw => ?_)
  refine lv_aload_n hx hb dX5_clear_20 rfl (lv_at hl 0 rfl) ?_
  refine lv_iconst (v := 0) hx hb dX5_clear_21 (by decide) ?_
  refine gx_put S hK gx_ok hw t_21 cl_6 7 (by decide) rfl mw_207 rfl rfl (ty := .int) (v := 0) (by decide +kernel) rfl rfl dX5_clear_22 (fun H locs hw => ?_)
  refine lv_aload_n hx hb dX5_clear_25 rfl (lv_at hl 0 rfl) ?_
  refine lv_iconst (v := 1) hx hb dX5_clear_26 (by decide) ?_
  refine gx_put S hK gx_ok hw t_21 cl_6 8 (by decide) rfl mw_208 rfl rfl (ty := .boolean) (v := 1) (by decide +kernel) rfl rfl dX5_clear_27 (fun H locs hw => ?_)
  refine lv_aload_n hx hb dX5_clear_30 rfl (lv_at hl 0 rfl) ?_
  refine lv_iconst (v := 0) hx hb dX5_clear_31 (by decide) ?_
  refine gx_put S hK gx_ok hw t_21 cl_6 9 (by decide) rfl mw_209 rfl rfl (ty := .boolean) (v := 0) (by decide +kernel) rfl rfl dX5_clear_32 (fun H locs hw => ?_)
  refine lv_aload_n hx hb dX5_clear_35 rfl (lv_at hl 0 rfl) ?_
  refine lv_iconst (v := 0) hx hb dX5_clear_36 (by decide) ?_
  refine gx_put S hK gx_ok hw t_21 cl_6 10 (by decide) rfl mw_212 rfl rfl (ty := .boolean) (v := 0) (by decide +kernel) rfl rfl dX5_clear_37 (fun H locs hw => ?_)
  exact gx_rv (post := fun σ1 τ1 => σ1 = up2 (up2 (up2 (up2 (up2 (up2 (up2 (up2 (σ) 21 3 0) 21 4 0) 21 5 0) 21 6 0) 21 7 0) 21 8 1) 21 9 0) 21 10 0 ∧ τ1 = τ) S hr hlk hw dX5_clear_40 ⟨rfl, rfl⟩
set_option maxHeartbeats 4000000 in
set_option maxRecDepth 100000 in
theorem c_Rule_addStep (l : Launch) {E : gE} (σ : gI) (τ : gJ)  (h_21_3 : σ 21 3 = 0) : gx_Mv l yX5_addStep cX5_addStep 2 none 0 gx_tb E (σ) (τ) [.ref (E.2.2 + 21), .int 0] (fun σ1 τ1 => (∀ c k : Nat, ¬ c = 22 → σ1 c k = (up2 σ 21 3 1) c k) ∧ τ1 = τ) := by
  refine gx_bv (by decide +kernel) (Nat.le_of_ble_eq_true rfl) ?_
  intro P9 e9 s m9 below meth C9 S hr hlk hK hw ls hl
  have S : CallFix P9 m9 C9 cX5_addStep 2 s _ gx_G RX5 := S
  have hx := S.1
  have hb := S.2.1
  have hl : lv_has ls 2 [(0, .ref (E.2.2 + 21)), (1, .int 0)] := hl
  refine lv_aload_n hx hb dX5_addStep_0 rfl (lv_at hl 0 rfl) ?_
  refine gx_get S hK hw t_21 cl_6 3 (by decide) rfl mw_203 rfl dX5_addStep_1 ?_
  refine gx_top (v := 0) (by first | rfl | decide | simp [up2, gs0, h_21_3]) ?_
  refine lv_if_lt (tgt := 36) hx hb dX5_addStep_4 (by decide) (fun h => absurd h (by decide)) (fun _ => ?_)
  refine lv_aload_n hx hb dX5_addStep_7 rfl (lv_at hl 0 rfl) ?_
  refine gx_get S hK hw t_21 cl_6 3 (by decide) rfl mw_203 rfl dX5_addStep_8 ?_
  refine gx_top (v := 0) (by first | rfl | decide | simp [up2, gs0, h_21_3]) ?_
  refine lv_bipush (v := 40) hx hb dX5_addStep_11 (by decide) ?_
  refine lv_icmp_ge (tgt := 36) hx hb dX5_addStep_13 (by decide) (fun h => absurd h (by decide)) (fun _ => ?_)
  refine lv_aload_n hx hb dX5_addStep_16 rfl (lv_at hl 0 rfl) ?_
  refine gx_getr (j := 22) S hK hw t_21 cl_6 0 (by decide) rfl mw_200 rfl dX5_addStep_17 ?_
  refine lv_aload_n hx hb dX5_addStep_20 rfl (lv_at hl 0 rfl) ?_
  refine gx_get S hK hw t_21 cl_6 3 (by decide) rfl mw_203 rfl dX5_addStep_21 ?_
  refine gx_top (v := 0) (by first | rfl | decide | simp [up2, gs0, h_21_3]) ?_
  refine lv_iload_n hx hb dX5_addStep_24 rfl (lv_at hl 1 rfl) ?_
  refine gx_iast S hK gx_ok hw t_22 0 rfl (gx_in rfl (by decide) (by decide)) dX5_addStep_25 (fun H locs hw => ?_)
  refine lv_aload_n hx hb dX5_addStep_26 rfl (lv_at hl 0 rfl) ?_
  refine lv_dup hx hb dX5_addStep_27 rfl ?_
  refine gx_get S hK hw t_21 cl_6 3 (by decide) rfl mw_203 rfl dX5_addStep_28 ?_
  refine gx_top (v := 0) (by first | rfl | decide | simp [up2, gs0, h_21_3]) ?_
  refine lv_iconst (v := 1) hx hb dX5_addStep_31 (by decide) ?_
  refine lv_iadd hx hb dX5_addStep_32 ?_
  refine gx_top (v := 1) (by decide) ?_
  refine gx_put S hK gx_ok hw t_21 cl_6 3 (by decide) rfl mw_203 rfl rfl (ty := .int) (v := 1) (by decide +kernel) rfl rfl dX5_addStep_33 (fun H locs hw => ?_)
  exact gx_rv (post := fun σ1 τ1 => (∀ c k : Nat, ¬ c = 22 → σ1 c k = (up2 σ 21 3 1) c k) ∧ τ1 = τ) S hr hlk hw dX5_addStep_36 ⟨(fun c9 k9 h9_0 => by simp [up2, upJ, h9_0]), rfl⟩
set_option maxHeartbeats 4000000 in
set_option maxRecDepth 100000 in
theorem c_Rule_addFact (l : Launch) {E : gE} (σ : gI) (τ : gJ)  (h_21_3 : σ 21 3 = 0) (h_21_9 : σ 21 9 = 0) (h_21_10 : σ 21 10 = 0) : gx_Mv l yX5_addFact cX5_addFact 2 none 1 gx_tb E (σ) (τ) [.ref (E.2.2 + 21), .int 0] (fun σ1 τ1 => (∀ c k : Nat, ¬ c = 22 → σ1 c k = (up2 (up2 (up2 (up2 (up2 (σ) 21 9 1) 21 10 0) 21 3 1) 21 7 3) 21 8 0) c k) ∧ τ1 = τ) := by
  refine gx_bv (by decide +kernel) (Nat.le_of_ble_eq_true rfl) ?_
  intro P9 e9 s m9 below meth C9 S hr hlk hK hw ls hl
  have S : CallFix P9 m9 C9 cX5_addFact 2 s _ gx_G RX5 := S
  have hx := S.1
  have hb := S.2.1
  have hl : lv_has ls 2 [(0, .ref (E.2.2 + 21)), (1, .int 0)] := hl
  refine lv_aload_n hx hb dX5_addFact_0 rfl (lv_at hl 0 rfl) ?_
  refine lv_dup hx hb dX5_addFact_1 rfl ?_
  refine gx_get S hK hw t_21 cl_6 9 (by decide) rfl mw_209 rfl dX5_addFact_2 ?_
  refine gx_top (v := 0) (by first | rfl | decide | simp [up2, gs0, h_21_3, h_21_9, h_21_10]) ?_
  refine lv_iload_n hx hb dX5_addFact_5 rfl (lv_at hl 1 rfl) ?_
  refine lv_if_ne (tgt := 13) hx hb dX5_addFact_6 (by decide) (fun h => absurd (by decide) h) (fun _ => ?_)
  refine lv_iconst (v := 1) hx hb dX5_addFact_9 (by decide) ?_
  refine lv_goto (tgt := 14) hx hb dX5_addFact_10 (by decide) ?_
  refine lv_ior hx hb dX5_addFact_14 ?_
  refine gx_top (v := 1) (by decide) ?_
  refine gx_put S hK gx_ok hw t_21 cl_6 9 (by decide) rfl mw_209 rfl rfl (ty := .boolean) (v := 1) (by decide +kernel) rfl rfl dX5_addFact_15 (fun H locs hw => ?_)
  refine lv_aload_n hx hb dX5_addFact_18 rfl (lv_at hl 0 rfl) ?_
  refine lv_dup hx hb dX5_addFact_19 rfl ?_
  refine gx_get S hK hw t_21 cl_6 10 (by decide) rfl mw_212 rfl dX5_addFact_20 ?_
  refine gx_top (v := 0) (by first | rfl | decide | simp [up2, gs0, h_21_3, h_21_9, h_21_10]) ?_
  refine lv_iload_n hx hb dX5_addFact_23 rfl (lv_at hl 1 rfl) ?_
  refine lv_bipush (v := 6) hx hb dX5_addFact_24 (by decide) ?_
  refine lv_icmp_ne (tgt := 33) hx hb dX5_addFact_26 (by decide) (fun _ => ?_) (fun h => absurd h (by decide))
  refine lv_iconst (v := 0) hx hb dX5_addFact_33 (by decide) ?_
  refine lv_ior hx hb dX5_addFact_34 ?_
  refine gx_top (v := 0) (by decide) ?_
  refine gx_put S hK gx_ok hw t_21 cl_6 10 (by decide) rfl mw_212 rfl rfl (ty := .boolean) (v := 0) (by decide +kernel) rfl rfl dX5_addFact_35 (fun H locs hw => ?_)
  refine lv_aload_n hx hb dX5_addFact_38 rfl (lv_at hl 0 rfl) ?_
  refine lv_iload_n hx hb dX5_addFact_39 rfl (lv_at hl 1 rfl) ?_
  refine gx_cVv (As := [.int 0]) (rest := []) S hK gx_ok hw (c_Rule_addStep l (E := E) (up2 (up2 (σ) 21 9 1) 21 10 0) (τ) (by first | rfl | decide | simp [up2, gs0, h_21_3, h_21_9, h_21_10])) cw_X5_84 t_21 cl_6 ⟨Nat.le_of_ble_eq_true rfl, Nat.le_of_ble_eq_true rfl⟩ rfl hl.1 rfl (Nat.le_of_ble_eq_true rfl) ⟨Nat.le_of_ble_eq_true rfl, Nat.le_of_ble_eq_true rfl⟩ dX5_addFact_40 (fun σ_1 τ_1 H locs hp hw => ?_)
  obtain ⟨hs_1, et_1⟩ := hp
  obtain rfl := et_1.symm
  refine lv_aload_n hx hb dX5_addFact_43 rfl (lv_at hl 0 rfl) ?_
  refine lv_iconst (v := 3) hx hb dX5_addFact_44 (by decide) ?_
  refine gx_put S hK gx_ok hw t_21 cl_6 7 (by decide) rfl mw_207 rfl rfl (ty := .int) (v := 3) (by decide +kernel) rfl rfl dX5_addFact_45 (fun H locs hw => ?_)
  refine lv_aload_n hx hb dX5_addFact_48 rfl (lv_at hl 0 rfl) ?_
  refine lv_iconst (v := 0) hx hb dX5_addFact_49 (by decide) ?_
  refine gx_put S hK gx_ok hw t_21 cl_6 8 (by decide) rfl mw_208 rfl rfl (ty := .boolean) (v := 0) (by decide +kernel) rfl rfl dX5_addFact_50 (fun H locs hw => ?_)
  exact gx_rv (post := fun σ1 τ1 => (∀ c k : Nat, ¬ c = 22 → σ1 c k = (up2 (up2 (up2 (up2 (up2 (σ) 21 9 1) 21 10 0) 21 3 1) 21 7 3) 21 8 0) c k) ∧ τ1 = τ) S hr hlk hw dX5_addFact_53 ⟨(fun c9 k9 h9_0 => by simp [up2, upJ, h9_0, hs_1]), (by first | rfl | simp [up2, upJ])⟩
set_option maxHeartbeats 4000000 in
set_option maxRecDepth 100000 in
theorem c_Rule_read (l : Launch) {E : gE} (σ : gI) (τ : gJ)  (h_1_2 : σ 1 2 = 0) : gx_Mi l yX5_read cX5_read 4 (some .int) 2 gx_tb E (σ) (τ) [.ref (E.2.2 + 21), .ref (E.2.2 + 1)] (fun r σ1 τ1 => r = 0 ∧ (∀ c k : Nat, ¬ c = 22 → ¬ (c = 1 ∧ k = 1) → σ1 c k = (up2 (up2 (up2 (up2 (up2 (up2 (up2 (up2 (up2 (up2 (up2 (up2 (up2 (σ) 21 3 0) 21 4 0) 21 5 0) 21 6 0) 21 7 0) 21 8 1) 21 9 0) 21 10 0) 21 9 1) 21 10 0) 21 3 1) 21 7 3) 21 8 0) c k) ∧ τ1 = τ) := by
  refine gx_bi (by decide +kernel) (Nat.le_of_ble_eq_true rfl) ?_
  intro P9 e9 s m9 below meth C9 S hr hlk hK hw ls hl
  have S : CallFix P9 m9 C9 cX5_read 4 s _ gx_G RX5 := S
  have hx := S.1
  have hb := S.2.1
  have hl : lv_has ls 4 [(0, .ref (E.2.2 + 21)), (1, .ref (E.2.2 + 1))] := hl
  refine lv_aload_n hx hb dX5_read_0 rfl (lv_at hl 0 rfl) ?_
  refine gx_cVv (As := []) (rest := []) S hK gx_ok hw (c_Rule_clear l (E := E) (σ) (τ) ) cw_X5_30 t_21 cl_6 ⟨Nat.le_of_ble_eq_true rfl, Nat.le_of_ble_eq_true rfl⟩ rfl hl.1 rfl (Nat.le_of_ble_eq_true rfl) ⟨Nat.le_of_ble_eq_true rfl, Nat.le_of_ble_eq_true rfl⟩ dX5_read_1 (fun σ_1 τ_1 H locs hp hw => ?_)
  obtain ⟨es_1, et_1⟩ := hp
  obtain rfl := es_1.symm
  obtain rfl := et_1.symm
  refine lv_aload_n hx hb dX5_read_4 rfl (lv_at hl 1 rfl) ?_
  refine lv_bipush (v := 40) hx hb dX5_read_5 (by decide) ?_
  refine gx_cVv (As := [.int 40]) (rest := []) S hK gx_ok hw (c_show l (E := E) (up2 (up2 (up2 (up2 (up2 (up2 (up2 (up2 ((σ)) 21 3 0) 21 4 0) 21 5 0) 21 6 0) 21 7 0) 21 8 1) 21 9 0) 21 10 0) (τ) 40 (by first | rfl | decide | simp [up2, gs0, h_1_2])) cw_X5_33 t_1 cl_8 ⟨Nat.le_of_ble_eq_true rfl, Nat.le_of_ble_eq_true rfl⟩ rfl hl.1 rfl (Nat.le_of_ble_eq_true rfl) ⟨Nat.le_of_ble_eq_true rfl, Nat.le_of_ble_eq_true rfl⟩ dX5_read_7 (fun σ_2 τ_2 H locs hp hw => ?_)
  obtain ⟨hs_2, et_2⟩ := hp
  obtain rfl := et_2.symm
  refine lv_aload_n hx hb dX5_read_10 rfl (lv_at hl 1 rfl) ?_
  refine lv_iconst (v := 0) hx hb dX5_read_11 (by decide) ?_
  refine gx_cVi (As := [.int 0]) (rest := []) S hK gx_ok hw (c_isOver l (E := E) (σ_2) (τ) (by first | rfl | decide | simp [up2, gs0, h_1_2, hs_2])) cw_X5_39 t_1 cl_8 ⟨Nat.le_of_ble_eq_true rfl, Nat.le_of_ble_eq_true rfl⟩ rfl hl.1 rfl (Nat.le_of_ble_eq_true rfl) ⟨Nat.le_of_ble_eq_true rfl, Nat.le_of_ble_eq_true rfl⟩ dX5_read_12 (fun r_3 σ_3 τ_3 H locs hp hw => ?_)
  obtain ⟨er_3, es_3, et_3⟩ := hp
  obtain rfl := er_3.symm
  obtain rfl := es_3.symm
  obtain rfl := et_3.symm
  refine lv_if_eq (tgt := 25) hx hb dX5_read_15 (by decide) (fun h => absurd h (by decide)) (fun _ => ?_)
  refine lv_aload_n hx hb dX5_read_18 rfl (lv_at hl 0 rfl) ?_
  refine lv_iconst (v := 0) hx hb dX5_read_19 (by decide) ?_
  refine gx_cVv (As := [.int 0]) (rest := []) S hK gx_ok hw (c_Rule_addFact l (E := E) (σ_2) (τ) (by first | rfl | decide | simp [up2, gs0, h_1_2, hs_2]) (by first | rfl | decide | simp [up2, gs0, h_1_2, hs_2]) (by first | rfl | decide | simp [up2, gs0, h_1_2, hs_2])) cw_X5_43 t_21 cl_6 ⟨Nat.le_of_ble_eq_true rfl, Nat.le_of_ble_eq_true rfl⟩ rfl hl.1 rfl (Nat.le_of_ble_eq_true rfl) ⟨Nat.le_of_ble_eq_true rfl, Nat.le_of_ble_eq_true rfl⟩ dX5_read_20 (fun σ_4 τ_4 H locs hp hw => ?_)
  obtain ⟨hs_4, et_4⟩ := hp
  obtain rfl := et_4.symm
  refine lv_iconst (v := 0) hx hb dX5_read_23 (by decide) ?_
  exact gx_ri (post := fun r σ1 τ1 => r = 0 ∧ (∀ c k : Nat, ¬ c = 22 → ¬ (c = 1 ∧ k = 1) → σ1 c k = (up2 (up2 (up2 (up2 (up2 (up2 (up2 (up2 (up2 (up2 (up2 (up2 (up2 (σ) 21 3 0) 21 4 0) 21 5 0) 21 6 0) 21 7 0) 21 8 1) 21 9 0) 21 10 0) 21 9 1) 21 10 0) 21 3 1) 21 7 3) 21 8 0) c k) ∧ τ1 = τ) (v := 0) S hr hlk hw rfl dX5_read_24 ⟨rfl, (fun c9 k9 h9_0 h9_1 => by simp [up2, upJ, h9_0, h9_1, hs_2, hs_4]), (by first | rfl | simp [up2, upJ])⟩
set_option maxHeartbeats 4000000 in
set_option maxRecDepth 100000 in
theorem c_Rule_copy (l : Launch) {E : gE} (σ : gI) (τ : gJ)  (h_21_9 : σ 21 9 = 1) (h_21_10 : σ 21 10 = 0) : gx_Mv l yX5_copy cX5_copy 3 none 0 gx_tb E (σ) (τ) [.ref (E.2.2 + 17), .ref (E.2.2 + 21)] (fun σ1 τ1 => (∀ c k : Nat, ¬ c = 17 → ¬ c = 18 → σ1 c k = (σ) c k) ∧ τ1 = τ) := by
  refine gx_bv (by decide +kernel) (Nat.le_of_ble_eq_true rfl) ?_
  intro P9 e9 s m9 below meth C9 S hr hlk hK hw ls hl
  have S : CallFix P9 m9 C9 cX5_copy 3 s _ gx_G RX5 := S
  have hx := S.1
  have hb := S.2.1
  have hl : lv_has ls 3 [(0, .ref (E.2.2 + 17)), (1, .ref (E.2.2 + 21))] := hl
  refine lv_aload_n hx hb dX5_copy_0 rfl (lv_at hl 0 rfl) ?_
  refine lv_aload_n hx hb dX5_copy_1 rfl (lv_at hl 1 rfl) ?_
  refine gx_get S hK hw t_21 cl_6 3 (by decide) rfl mw_203 rfl dX5_copy_2 ?_
  refine gx_put S hK gx_ok hw t_17 cl_6 3 (by decide) rfl mw_203 rfl rfl (ty := .int) (v := (σ) 21 3) (by decide +kernel) rfl rfl dX5_copy_5 (fun H locs hw => ?_)
  refine lv_aload_n hx hb dX5_copy_8 rfl (lv_at hl 0 rfl) ?_
  refine lv_aload_n hx hb dX5_copy_9 rfl (lv_at hl 1 rfl) ?_
  refine gx_get S hK hw t_21 cl_6 9 (by decide) rfl mw_209 rfl dX5_copy_10 ?_
  refine gx_top (v := 1) (by first | rfl | decide | simp [up2, gs0, h_21_9, h_21_10]) ?_
  refine gx_put S hK gx_ok hw t_17 cl_6 9 (by decide) rfl mw_209 rfl rfl (ty := .boolean) (v := 1) (by decide +kernel) rfl rfl dX5_copy_13 (fun H locs hw => ?_)
  refine lv_aload_n hx hb dX5_copy_16 rfl (lv_at hl 0 rfl) ?_
  refine lv_aload_n hx hb dX5_copy_17 rfl (lv_at hl 1 rfl) ?_
  refine gx_get S hK hw t_21 cl_6 10 (by decide) rfl mw_212 rfl dX5_copy_18 ?_
  refine gx_top (v := 0) (by first | rfl | decide | simp [up2, gs0, h_21_9, h_21_10]) ?_
  refine gx_put S hK gx_ok hw t_17 cl_6 10 (by decide) rfl mw_212 rfl rfl (ty := .boolean) (v := 0) (by decide +kernel) rfl rfl dX5_copy_21 (fun H locs hw => ?_)
  refine lv_iconst (v := 0) hx hb dX5_copy_24 (by decide) ?_
  refine lv_istore_n (lv' := [(2, .int 0), (0, .ref (E.2.2 + 17)), (1, .ref (E.2.2 + 21))]) hx hb dX5_copy_25 rfl hl (by decide) rfl (fun ls hl => ?_)
  have loop_1 : ∀ (n1 : Nat) (i : Nat) (σ1 : gI) (H : Heap) (locs : List Loc) (ls : Array Slot), 40 - i < n1 → (i ≤ 40) → (∀ c k : Nat, ¬ c = 17 → ¬ c = 18 → σ1 c k = (σ) c k) → gx_W gx_tb (gx_tb).length E s (σ1) (τ) H locs → lv_has ls 3 [(0, .ref (E.2.2 + 17)), (1, .ref (E.2.2 + 21)), (2, .int (nI i))] → W P9 l e9 (gx_rm 0) s m9 ([.ref (E.2.2 + 17), .ref (E.2.2 + 21)] : List Value).toArray below meth C9 H locs 0 0 (MQ below (va_Qv (fun (u : gI × gJ) => (fun σ1 τ1 => (∀ c k : Nat, ¬ c = 17 → ¬ c = 18 → σ1 c k = (σ) c k) ∧ τ1 = τ) u.1 u.2) (fun u t => gx_P gx_tb E u.1 u.2 t.heap) (gx_A (gx_tb).length E.2.2 s.heap.size)) ([.ref (E.2.2 + 17), .ref (E.2.2 + 21)] : List Value).toArray s 0 0 (gx_A (gx_tb).length E.2.2 s.heap.size)) (F0 m9 26 ls []) := by
    intro n1
    induction n1 with
    | zero => intro i σ1 H locs ls hm; exact absurd hm (Nat.not_lt_zero _)
    | succ n1 ih_1 =>
      intro i σ1 H locs ls hm hi hs_1 hw hl
      refine lv_iload_n hx hb dX5_copy_26 rfl (lv_at hl 2 rfl) ?_
      refine lv_bipush (v := 40) hx hb dX5_copy_27 (by decide) ?_
      refine lv_icmp_ge (tgt := 50) hx hb dX5_copy_29 (by decide) (fun c_2 => ?_) (fun c_2 => ?_)
      · exact gx_rv (post := fun σ1 τ1 => (∀ c k : Nat, ¬ c = 17 → ¬ c = 18 → σ1 c k = (σ) c k) ∧ τ1 = τ) S hr hlk hw dX5_copy_50 ⟨(fun c9 k9 h9_0 h9_1 => by simp [up2, upJ, h9_0, h9_1, hs_1]), rfl⟩
      · have hlt : i < 40 := gx_ilt (k := 40) rfl (by omega) c_2
        refine lv_aload_n hx hb dX5_copy_32 rfl (lv_at hl 0 rfl) ?_
        refine gx_getr (j := 18) S hK hw t_17 cl_6 0 (by decide) rfl mw_200 rfl dX5_copy_33 ?_
        refine lv_iload_n hx hb dX5_copy_36 rfl (lv_at hl 2 rfl) ?_
        refine lv_aload_n hx hb dX5_copy_37 rfl (lv_at hl 1 rfl) ?_
        refine gx_getr (j := 22) S hK hw t_21 cl_6 0 (by decide) rfl mw_200 rfl dX5_copy_38 ?_
        refine lv_iload_n hx hb dX5_copy_41 rfl (lv_at hl 2 rfl) ?_
        refine gx_iald S hK hw t_22 i (nI_clamp (by omega)) (vp_in_nI (by omega) (by omega)) dX5_copy_42 ?_
        refine gx_iast S hK gx_ok hw t_18 i (nI_clamp (by omega)) (vp_in_nI (by omega) (by omega)) dX5_copy_43 (fun H locs hw => ?_)
        refine lv_iinc (v := nI (i + 1)) (lv' := [(2, .int (nI (i + 1))), (0, .ref (E.2.2 + 17)), (1, .ref (E.2.2 + 21))]) hx hb dX5_copy_44 hl (k := 2) rfl (nI_1 _) (by decide) rfl (fun ls hl => ?_)
        refine lv_goto (tgt := 26) hx hb dX5_copy_47 (by decide) ?_
        exact ih_1 (i + 1) (up2 (σ1) 18 i ((σ1) 22 i)) _ _ _ (by omega) (by omega) (fun c9 k9 h9_0 h9_1 => by simp [up2, upJ, h9_0, h9_1, hs_1]) hw (lv_sub hl [1, 2, 0] rfl)
  exact loop_1 (40 + 1) 0 (up2 (up2 (up2 (σ) 17 3 ((σ) 21 3)) 17 9 1) 17 10 0) _ _ _ (by omega) (by omega) (fun c9 k9 h9_0 h9_1 => by simp [up2, upJ, h9_0, h9_1]) hw (lv_sub hl [1, 2, 0] rfl)
set_option maxHeartbeats 4000000 in
set_option maxRecDepth 100000 in
theorem c_Scene_clear (l : Launch) {E : gE} (σ : gI) (τ : gJ) (c : Nat) (tc : gx_tb[c]? = some (.inl (7, [some (some (c + 1)), some (some (c + 2)), some (some (c + 3)), some (some (c + 4)), some (some (c + 5)), some (some (c + 6)), none, none, none, none, none]))) : gx_Mv l yX6_clear cX6_clear 1 none 0 gx_tb E (σ) (τ) [.ref (E.2.2 + c)] (fun σ1 τ1 => σ1 = up2 (up2 (up2 (up2 (up2 (σ) c 6 0) c 7 0) c 8 0) c 9 0) c 10 0 ∧ τ1 = τ) := by
  refine gx_bv (by decide +kernel) (Nat.le_of_ble_eq_true rfl) ?_
  intro P9 e9 s m9 below meth C9 S hr hlk hK hw ls hl
  have S : CallFix P9 m9 C9 cX6_clear 1 s _ gx_G RX6 := S
  have hx := S.1
  have hb := S.2.1
  have hl : lv_has ls 1 [(0, .ref (E.2.2 + c))] := hl
  refine lv_aload_n hx hb dX6_clear_0 rfl (lv_at hl 0 rfl) ?_
  refine lv_iconst (v := 0) hx hb dX6_clear_1 (by decide) ?_
  refine gx_put S hK gx_ok hw tc cl_7 6 (by decide) rfl mw_270 rfl rfl (ty := .int) (v := 0) (by decide +kernel) rfl rfl dX6_clear_2 (fun H locs hw => ?_)
  refine lv_aload_n hx hb dX6_clear_5 rfl (lv_at hl 0 rfl) ?_
  refine lv_iconst (v := 0) hx hb dX6_clear_6 (by decide) ?_
  refine gx_put S hK gx_ok hw tc cl_7 7 (by decide) rfl mw_273 rfl rfl (ty := .int) (v := 0) (by decide +kernel) rfl rfl dX6_clear_7 (fun H locs hw => ?_)
  refine lv_aload_n hx hb dX6_clear_10 rfl (lv_at hl 0 rfl) ?_
  refine lv_iconst (v := 0) hx hb dX6_clear_11 (by decide) ?_
  refine gx_put S hK gx_ok hw tc cl_7 8 (by decide) rfl mw_277 rfl rfl (ty := .int) (v := 0) (by decide +kernel) rfl rfl dX6_clear_12 (fun H locs hw => ?_)
  refine lv_aload_n hx hb dX6_clear_15 rfl (lv_at hl 0 rfl) ?_
  refine lv_iconst (v := 0) hx hb dX6_clear_16 (by decide) ?_
  refine gx_put S hK gx_ok hw tc cl_7 9 (by decide) rfl mw_281 rfl rfl (ty := .int) (v := 0) (by decide +kernel) rfl rfl dX6_clear_17 (fun H locs hw => ?_)
  refine lv_aload_n hx hb dX6_clear_20 rfl (lv_at hl 0 rfl) ?_
  refine lv_iconst (v := 0) hx hb dX6_clear_21 (by decide) ?_
  refine gx_put S hK gx_ok hw tc cl_7 10 (by decide) rfl mw_284 rfl rfl (ty := .int) (v := 0) (by decide +kernel) rfl rfl dX6_clear_22 (fun H locs hw => ?_)
  exact gx_rv (post := fun σ1 τ1 => σ1 = up2 (up2 (up2 (up2 (up2 (σ) c 6 0) c 7 0) c 8 0) c 9 0) c 10 0 ∧ τ1 = τ) S hr hlk hw dX6_clear_25 ⟨rfl, rfl⟩
set_option maxHeartbeats 4000000 in
set_option maxRecDepth 100000 in
theorem c_Scene_copy (l : Launch) {E : gE} (σ : gI) (τ : gJ) (c d : Nat) (h_d_6 : σ d 6 = 0) (h_d_7 : σ d 7 = 0) (h_d_8 : σ d 8 = 0) (h_d_9 : σ d 9 = 0) (h_d_10 : σ d 10 = 0) (tc : gx_tb[c]? = some (.inl (7, [some (some (c + 1)), some (some (c + 2)), some (some (c + 3)), some (some (c + 4)), some (some (c + 5)), some (some (c + 6)), none, none, none, none, none]))) (td : gx_tb[d]? = some (.inl (7, [some (some (d + 1)), some (some (d + 2)), some (some (d + 3)), some (some (d + 4)), some (some (d + 5)), some (some (d + 6)), none, none, none, none, none]))) (hcd : ¬ c = d) (hdc : ¬ d = c) : gx_Mv l yX6_copy cX6_copy 3 none 0 gx_tb E (σ) (τ) [.ref (E.2.2 + c), .ref (E.2.2 + d)] (fun σ1 τ1 => σ1 = up2 (up2 (up2 (up2 (up2 (σ) c 6 0) c 7 0) c 8 0) c 9 0) c 10 0 ∧ τ1 = τ) := by
  refine gx_bv (by decide +kernel) (Nat.le_of_ble_eq_true rfl) ?_
  intro P9 e9 s m9 below meth C9 S hr hlk hK hw ls hl
  have S : CallFix P9 m9 C9 cX6_copy 3 s _ gx_G RX6 := S
  have hx := S.1
  have hb := S.2.1
  have hl : lv_has ls 3 [(0, .ref (E.2.2 + c)), (1, .ref (E.2.2 + d))] := hl
  refine lv_aload_n hx hb dX6_copy_0 rfl (lv_at hl 0 rfl) ?_
  refine lv_aload_n hx hb dX6_copy_1 rfl (lv_at hl 1 rfl) ?_
  refine gx_get S hK hw td cl_7 6 (by decide) rfl mw_270 rfl dX6_copy_2 ?_
  refine gx_top (v := 0) (by first | rfl | decide | simp [up2, gs0, h_d_6, h_d_7, h_d_8, h_d_9, h_d_10, tc, td, hcd, hdc]) ?_
  refine gx_put S hK gx_ok hw tc cl_7 6 (by decide) rfl mw_270 rfl rfl (ty := .int) (v := 0) (by decide +kernel) rfl rfl dX6_copy_5 (fun H locs hw => ?_)
  refine lv_aload_n hx hb dX6_copy_8 rfl (lv_at hl 0 rfl) ?_
  refine lv_aload_n hx hb dX6_copy_9 rfl (lv_at hl 1 rfl) ?_
  refine gx_get S hK hw td cl_7 7 (by decide) rfl mw_273 rfl dX6_copy_10 ?_
  refine gx_top (v := 0) (by first | rfl | decide | simp [up2, gs0, h_d_6, h_d_7, h_d_8, h_d_9, h_d_10, tc, td, hcd, hdc]) ?_
  refine gx_put S hK gx_ok hw tc cl_7 7 (by decide) rfl mw_273 rfl rfl (ty := .int) (v := 0) (by decide +kernel) rfl rfl dX6_copy_13 (fun H locs hw => ?_)
  refine lv_aload_n hx hb dX6_copy_16 rfl (lv_at hl 0 rfl) ?_
  refine lv_aload_n hx hb dX6_copy_17 rfl (lv_at hl 1 rfl) ?_
  refine gx_get S hK hw td cl_7 8 (by decide) rfl mw_277 rfl dX6_copy_18 ?_
  refine gx_top (v := 0) (by first | rfl | decide | simp [up2, gs0, h_d_6, h_d_7, h_d_8, h_d_9, h_d_10, tc, td, hcd, hdc]) ?_
  refine gx_put S hK gx_ok hw tc cl_7 8 (by decide) rfl mw_277 rfl rfl (ty := .int) (v := 0) (by decide +kernel) rfl rfl dX6_copy_21 (fun H locs hw => ?_)
  refine lv_aload_n hx hb dX6_copy_24 rfl (lv_at hl 0 rfl) ?_
  refine lv_aload_n hx hb dX6_copy_25 rfl (lv_at hl 1 rfl) ?_
  refine gx_get S hK hw td cl_7 9 (by decide) rfl mw_281 rfl dX6_copy_26 ?_
  refine gx_top (v := 0) (by first | rfl | decide | simp [up2, gs0, h_d_6, h_d_7, h_d_8, h_d_9, h_d_10, tc, td, hcd, hdc]) ?_
  refine gx_put S hK gx_ok hw tc cl_7 9 (by decide) rfl mw_281 rfl rfl (ty := .int) (v := 0) (by decide +kernel) rfl rfl dX6_copy_29 (fun H locs hw => ?_)
  refine lv_aload_n hx hb dX6_copy_32 rfl (lv_at hl 0 rfl) ?_
  refine lv_aload_n hx hb dX6_copy_33 rfl (lv_at hl 1 rfl) ?_
  refine gx_get S hK hw td cl_7 10 (by decide) rfl mw_284 rfl dX6_copy_34 ?_
  refine gx_top (v := 0) (by first | rfl | decide | simp [up2, gs0, h_d_6, h_d_7, h_d_8, h_d_9, h_d_10, tc, td, hcd, hdc]) ?_
  refine gx_put S hK gx_ok hw tc cl_7 10 (by decide) rfl mw_284 rfl rfl (ty := .int) (v := 0) (by decide +kernel) rfl rfl dX6_copy_37 (fun H locs hw => ?_)
  refine lv_iconst (v := 0) hx hb dX6_copy_40 (by decide) ?_
  refine lv_istore_n (lv' := [(2, .int 0), (0, .ref (E.2.2 + c)), (1, .ref (E.2.2 + d))]) hx hb dX6_copy_41 rfl hl (by decide) rfl (fun ls hl => ?_)
  refine lv_iload_n hx hb dX6_copy_42 rfl (lv_at hl 0 rfl) ?_
  refine lv_aload_n hx hb dX6_copy_43 rfl (lv_at hl 1 rfl) ?_
  refine gx_get S hK hw tc cl_7 6 (by decide) rfl mw_270 rfl dX6_copy_44 ?_
  refine gx_top (v := 0) (by first | rfl | decide | simp [up2, gs0, h_d_6, h_d_7, h_d_8, h_d_9, h_d_10, tc, td, hcd, hdc]) ?_
  refine lv_icmp_ge (tgt := 134) hx hb dX6_copy_47 (by decide) (fun _ => ?_) (fun h => absurd (by decide) h)
  exact gx_rv (post := fun σ1 τ1 => σ1 = up2 (up2 (up2 (up2 (up2 (σ) c 6 0) c 7 0) c 8 0) c 9 0) c 10 0 ∧ τ1 = τ) S hr hlk hw dX6_copy_134 ⟨rfl, rfl⟩
set_option maxHeartbeats 4000000 in
set_option maxRecDepth 100000 in
theorem c_Scene_has (l : Launch) {E : gE} (σ : gI) (τ : gJ) (c : Nat) (i : Int32) (h_c_6 : σ c 6 = 0) (tc : gx_tb[c]? = some (.inl (7, [some (some (c + 1)), some (some (c + 2)), some (some (c + 3)), some (some (c + 4)), some (some (c + 5)), some (some (c + 6)), none, none, none, none, none]))) : gx_Mi l yX6_has cX6_has 2 (some .boolean) 0 gx_tb E (σ) (τ) [.ref (E.2.2 + c), .int i] (fun r σ1 τ1 => r = 0 ∧ σ1 = σ ∧ τ1 = τ) := by
  refine gx_bi (by decide +kernel) (Nat.le_of_ble_eq_true rfl) ?_
  intro P9 e9 s m9 below meth C9 S hr hlk hK hw ls hl
  have S : CallFix P9 m9 C9 cX6_has 2 s _ gx_G RX6 := S
  have hx := S.1
  have hb := S.2.1
  have hl : lv_has ls 2 [(0, .ref (E.2.2 + c)), (1, .int i)] := hl
  refine lv_iload_n hx hb dX6_has_0 rfl (lv_at hl 1 rfl) ?_
  refine lv_if_lt (tgt := 16) hx hb dX6_has_1 (by decide) (fun c_1 => ?_) (fun c_1 => ?_)
  · refine lv_iconst (v := 0) hx hb dX6_has_16 (by decide) ?_
    exact gx_ri (post := fun r σ1 τ1 => r = 0 ∧ σ1 = σ ∧ τ1 = τ) (v := 0) S hr hlk hw rfl dX6_has_17 ⟨rfl, rfl, rfl⟩
  · refine lv_iload_n hx hb dX6_has_4 rfl (lv_at hl 1 rfl) ?_
    refine lv_aload_n hx hb dX6_has_5 rfl (lv_at hl 0 rfl) ?_
    refine gx_get S hK hw tc cl_7 6 (by decide) rfl mw_270 rfl dX6_has_6 ?_
    refine gx_top (v := 0) (by first | rfl | decide | simp [up2, gs0, h_c_6, tc]) ?_
    refine lv_icmp_ge (tgt := 16) hx hb dX6_has_9 (by decide) (fun c_2 => ?_) (fun c_2 => ?_)
    · refine lv_iconst (v := 0) hx hb dX6_has_16 (by decide) ?_
      exact gx_ri (post := fun r σ1 τ1 => r = 0 ∧ σ1 = σ ∧ τ1 = τ) (v := 0) S hr hlk hw rfl dX6_has_17 ⟨rfl, rfl, rfl⟩
    · refine lv_iconst (v := 1) hx hb dX6_has_12 (by decide) ?_
      refine lv_goto (tgt := 17) hx hb dX6_has_13 (by decide) ?_
      exact gx_ri (post := fun r σ1 τ1 => r = 0 ∧ σ1 = σ ∧ τ1 = τ) (v := 1) S hr hlk hw rfl dX6_has_17 ⟨(by exfalso; simp only [fa_lt, fa_le, fa_eq, show (0 : Int32).toInt = 0 from rfl] at c_1 c_2; omega), rfl, rfl⟩
set_option maxHeartbeats 4000000 in
set_option maxRecDepth 100000 in
theorem c_Scene_isOnWay (l : Launch) {E : gE} (σ : gI) (τ : gJ) (c : Nat) (i : Int32) (h_c_6 : σ c 6 = 0) (tc : gx_tb[c]? = some (.inl (7, [some (some (c + 1)), some (some (c + 2)), some (some (c + 3)), some (some (c + 4)), some (some (c + 5)), some (some (c + 6)), none, none, none, none, none]))) : gx_Mi l yX6_isOnWay cX6_isOnWay 2 (some .boolean) 0 gx_tb E (σ) (τ) [.ref (E.2.2 + c), .int i] (fun r σ1 τ1 => r = 0 ∧ σ1 = σ ∧ τ1 = τ) := by
  refine gx_bi (by decide +kernel) (Nat.le_of_ble_eq_true rfl) ?_
  intro P9 e9 s m9 below meth C9 S hr hlk hK hw ls hl
  have S : CallFix P9 m9 C9 cX6_isOnWay 2 s _ gx_G RX6 := S
  have hx := S.1
  have hb := S.2.1
  have hl : lv_has ls 2 [(0, .ref (E.2.2 + c)), (1, .int i)] := hl
  refine lv_iload_n hx hb dX6_isOnWay_0 rfl (lv_at hl 1 rfl) ?_
  refine lv_if_lt (tgt := 32) hx hb dX6_isOnWay_1 (by decide) (fun c_1 => ?_) (fun c_1 => ?_)
  · refine lv_iconst (v := 0) hx hb dX6_isOnWay_32 (by decide) ?_
    exact gx_ri (post := fun r σ1 τ1 => r = 0 ∧ σ1 = σ ∧ τ1 = τ) (v := 0) S hr hlk hw rfl dX6_isOnWay_33 ⟨rfl, rfl, rfl⟩
  · refine lv_iload_n hx hb dX6_isOnWay_4 rfl (lv_at hl 1 rfl) ?_
    refine lv_aload_n hx hb dX6_isOnWay_5 rfl (lv_at hl 0 rfl) ?_
    refine gx_get S hK hw tc cl_7 6 (by decide) rfl mw_270 rfl dX6_isOnWay_6 ?_
    refine gx_top (v := 0) (by first | rfl | decide | simp [up2, gs0, h_c_6, tc]) ?_
    refine lv_icmp_ge (tgt := 32) hx hb dX6_isOnWay_9 (by decide) (fun c_2 => ?_) (fun c_2 => ?_)
    · refine lv_iconst (v := 0) hx hb dX6_isOnWay_32 (by decide) ?_
      exact gx_ri (post := fun r σ1 τ1 => r = 0 ∧ σ1 = σ ∧ τ1 = τ) (v := 0) S hr hlk hw rfl dX6_isOnWay_33 ⟨rfl, rfl, rfl⟩
    · refine lv_aload_n hx hb dX6_isOnWay_12 rfl (lv_at hl 0 rfl) ?_
      refine gx_get S hK hw tc cl_7 9 (by decide) rfl mw_281 rfl dX6_isOnWay_13 ?_
      refine lv_aload_n hx hb dX6_isOnWay_16 rfl (lv_at hl 0 rfl) ?_
      refine gx_get S hK hw tc cl_7 10 (by decide) rfl mw_284 rfl dX6_isOnWay_17 ?_
      refine lv_ior hx hb dX6_isOnWay_20 ?_
      refine lv_iload_n hx hb dX6_isOnWay_21 rfl (lv_at hl 1 rfl) ?_
      refine lv_ishr hx hb dX6_isOnWay_22 ?_
      refine lv_iconst (v := 1) hx hb dX6_isOnWay_23 (by decide) ?_
      refine lv_iand hx hb dX6_isOnWay_24 ?_
      refine lv_if_ne (tgt := 32) hx hb dX6_isOnWay_25 (by decide) (fun c_3 => ?_) (fun c_3 => ?_)
      · refine lv_iconst (v := 0) hx hb dX6_isOnWay_32 (by decide) ?_
        exact gx_ri (post := fun r σ1 τ1 => r = 0 ∧ σ1 = σ ∧ τ1 = τ) (v := 0) S hr hlk hw rfl dX6_isOnWay_33 ⟨rfl, rfl, rfl⟩
      · refine lv_iconst (v := 1) hx hb dX6_isOnWay_28 (by decide) ?_
        refine lv_goto (tgt := 33) hx hb dX6_isOnWay_29 (by decide) ?_
        exact gx_ri (post := fun r σ1 τ1 => r = 0 ∧ σ1 = σ ∧ τ1 = τ) (v := 1) S hr hlk hw rfl dX6_isOnWay_33 ⟨(by exfalso; simp only [fa_lt, fa_le, fa_eq, show (0 : Int32).toInt = 0 from rfl, show (1 : Int32).toInt = 1 from rfl, show (9 : Int32).toInt = 9 from rfl, show (10 : Int32).toInt = 10 from rfl, show (31 : Int32).toInt = 31 from rfl] at c_1 c_2 c_3; omega), rfl, rfl⟩
set_option maxHeartbeats 4000000 in
set_option maxRecDepth 100000 in
theorem c_Scene_onWay (l : Launch) {E : gE} (σ : gI) (τ : gJ) (c : Nat) (h_c_6 : σ c 6 = 0) (h_c_9 : σ c 9 = 0) (h_c_10 : σ c 10 = 0) (tc : gx_tb[c]? = some (.inl (7, [some (some (c + 1)), some (some (c + 2)), some (some (c + 3)), some (some (c + 4)), some (some (c + 5)), some (some (c + 6)), none, none, none, none, none]))) : gx_Mi l yX6_onWay cX6_onWay 1 (some .int) 0 gx_tb E (σ) (τ) [.ref (E.2.2 + c)] (fun r σ1 τ1 => r = 0 ∧ σ1 = σ ∧ τ1 = τ) := by
  refine gx_bi (by decide +kernel) (Nat.le_of_ble_eq_true rfl) ?_
  intro P9 e9 s m9 below meth C9 S hr hlk hK hw ls hl
  have S : CallFix P9 m9 C9 cX6_onWay 1 s _ gx_G RX6 := S
  have hx := S.1
  have hb := S.2.1
  have hl : lv_has ls 1 [(0, .ref (E.2.2 + c))] := hl
  refine lv_iconst (v := 1) hx hb dX6_onWay_0 (by decide) ?_
  refine lv_aload_n hx hb dX6_onWay_1 rfl (lv_at hl 0 rfl) ?_
  refine gx_get S hK hw tc cl_7 6 (by decide) rfl mw_270 rfl dX6_onWay_2 ?_
  refine gx_top (v := 0) (by first | rfl | decide | simp [up2, gs0, h_c_6, h_c_9, h_c_10, tc]) ?_
  refine lv_ishl hx hb dX6_onWay_5 ?_
  refine gx_top (v := 1) (by decide) ?_
  refine lv_iconst (v := 1) hx hb dX6_onWay_6 (by decide) ?_
  refine lv_isub hx hb dX6_onWay_7 ?_
  refine gx_top (v := 0) (by decide) ?_
  refine lv_aload_n hx hb dX6_onWay_8 rfl (lv_at hl 0 rfl) ?_
  refine gx_get S hK hw tc cl_7 9 (by decide) rfl mw_281 rfl dX6_onWay_9 ?_
  refine gx_top (v := 0) (by first | rfl | decide | simp [up2, gs0, h_c_6, h_c_9, h_c_10, tc]) ?_
  refine lv_aload_n hx hb dX6_onWay_12 rfl (lv_at hl 0 rfl) ?_
  refine gx_get S hK hw tc cl_7 10 (by decide) rfl mw_284 rfl dX6_onWay_13 ?_
  refine gx_top (v := 0) (by first | rfl | decide | simp [up2, gs0, h_c_6, h_c_9, h_c_10, tc]) ?_
  refine lv_ior hx hb dX6_onWay_16 ?_
  refine gx_top (v := 0) (by decide) ?_
  refine lv_iconst (v := (-1)) hx hb dX6_onWay_17 (by decide) ?_
  refine lv_ixor hx hb dX6_onWay_18 ?_
  refine gx_top (v := (-1)) (by decide) ?_
  refine lv_iand hx hb dX6_onWay_19 ?_
  refine gx_top (v := 0) (by decide) ?_
  exact gx_ri (post := fun r σ1 τ1 => r = 0 ∧ σ1 = σ ∧ τ1 = τ) (v := 0) S hr hlk hw rfl dX6_onWay_20 ⟨rfl, rfl, rfl⟩
set_option maxHeartbeats 4000000 in
set_option maxRecDepth 100000 in
theorem c_Scene_holdBack (l : Launch) {E : gE} (σ : gI) (τ : gJ) (c : Nat) (b : Int32) (h_c_6 : σ c 6 = 0) (tc : gx_tb[c]? = some (.inl (7, [some (some (c + 1)), some (some (c + 2)), some (some (c + 3)), some (some (c + 4)), some (some (c + 5)), some (some (c + 6)), none, none, none, none, none]))) : gx_Mv l yX6_holdBack cX6_holdBack 3 none 0 gx_tb E (σ) (τ) [.ref (E.2.2 + c), .int b] (fun σ1 τ1 => σ1 = σ ∧ τ1 = τ) := by
  refine gx_bv (by decide +kernel) (Nat.le_of_ble_eq_true rfl) ?_
  intro P9 e9 s m9 below meth C9 S hr hlk hK hw ls hl
  have S : CallFix P9 m9 C9 cX6_holdBack 3 s _ gx_G RX6 := S
  have hx := S.1
  have hb := S.2.1
  have hl : lv_has ls 3 [(0, .ref (E.2.2 + c)), (1, .int b)] := hl
  refine lv_iconst (v := 0) hx hb dX6_holdBack_0 (by decide) ?_
  refine lv_istore_n (lv' := [(2, .int 0), (0, .ref (E.2.2 + c)), (1, .int b)]) hx hb dX6_holdBack_1 rfl hl (by decide) rfl (fun ls hl => ?_)
  refine lv_iload_n hx hb dX6_holdBack_2 rfl (lv_at hl 0 rfl) ?_
  refine lv_aload_n hx hb dX6_holdBack_3 rfl (lv_at hl 1 rfl) ?_
  refine gx_get S hK hw tc cl_7 6 (by decide) rfl mw_270 rfl dX6_holdBack_4 ?_
  refine gx_top (v := 0) (by first | rfl | decide | simp [up2, gs0, h_c_6, tc]) ?_
  refine lv_icmp_ge (tgt := 47) hx hb dX6_holdBack_7 (by decide) (fun _ => ?_) (fun h => absurd (by decide) h)
  exact gx_rv (post := fun σ1 τ1 => σ1 = σ ∧ τ1 = τ) S hr hlk hw dX6_holdBack_47 ⟨rfl, rfl⟩
set_option maxHeartbeats 4000000 in
set_option maxRecDepth 100000 in
theorem c_Scene_spotOf0 (l : Launch) {E : gE} (σ : gI) (τ : gJ)  (h_172_0 : σ 172 0 = 0) : gx_Mi l yX6_spotOf cX6_spotOf 2 (some .int) 0 gx_tb E (σ) (τ) [.ref (E.2.2 + 171), .int 0] (fun r σ1 τ1 => r = 0 ∧ σ1 = σ ∧ τ1 = τ) := by
  refine gx_bi (by decide +kernel) (Nat.le_of_ble_eq_true rfl) ?_
  intro P9 e9 s m9 below meth C9 S hr hlk hK hw ls hl
  have S : CallFix P9 m9 C9 cX6_spotOf 2 s _ gx_G RX6 := S
  have hx := S.1
  have hb := S.2.1
  have hl : lv_has ls 2 [(0, .ref (E.2.2 + 171)), (1, .int 0)] := hl
  refine lv_iload_n hx hb dX6_spotOf_0 rfl (lv_at hl 1 rfl) ?_
  refine lv_if_lt (tgt := 19) hx hb dX6_spotOf_1 (by decide) (fun h => absurd h (by decide)) (fun _ => ?_)
  refine lv_iload_n hx hb dX6_spotOf_4 rfl (lv_at hl 1 rfl) ?_
  refine lv_bipush (v := 6) hx hb dX6_spotOf_5 (by decide) ?_
  refine lv_icmp_ge (tgt := 19) hx hb dX6_spotOf_7 (by decide) (fun h => absurd h (by decide)) (fun _ => ?_)
  refine lv_aload_n hx hb dX6_spotOf_10 rfl (lv_at hl 0 rfl) ?_
  refine gx_getr (j := 172) S hK hw t_171 cl_7 0 (by decide) rfl mw_264 rfl dX6_spotOf_11 ?_
  refine lv_iload_n hx hb dX6_spotOf_14 rfl (lv_at hl 1 rfl) ?_
  refine gx_iald S hK hw t_172 0 rfl (gx_in rfl (by decide) (by decide)) dX6_spotOf_15 ?_
  refine gx_top (v := 0) (by first | rfl | decide | simp [up2, gs0, h_172_0]) ?_
  refine lv_goto (tgt := 20) hx hb dX6_spotOf_16 (by decide) ?_
  exact gx_ri (post := fun r σ1 τ1 => r = 0 ∧ σ1 = σ ∧ τ1 = τ) (v := 0) S hr hlk hw rfl dX6_spotOf_20 ⟨rfl, rfl, rfl⟩
set_option maxHeartbeats 4000000 in
set_option maxRecDepth 100000 in
theorem c_Past_clear (l : Launch) {E : gE} (σ : gI) (τ : gJ)   : gx_Mv l yX3_clear cX3_clear 1 none 0 gx_tb E (σ) (τ) [.ref (E.2.2 + 44)] (fun σ1 τ1 => σ1 = up2 σ 44 2 0 ∧ τ1 = τ) := by
  refine gx_bv (by decide +kernel) (Nat.le_of_ble_eq_true rfl) ?_
  intro P9 e9 s m9 below meth C9 S hr hlk hK hw ls hl
  have S : CallFix P9 m9 C9 cX3_clear 1 s _ gx_G RX3 := S
  have hx := S.1
  have hb := S.2.1
  have hl : lv_has ls 1 [(0, .ref (E.2.2 + 44))] := hl
  refine lv_aload_n hx hb dX3_clear_0 rfl (lv_at hl 0 rfl) ?_
  refine lv_iconst (v := 0) hx hb dX3_clear_1 (by decide) ?_
  refine gx_put S hK gx_ok hw t_44 cl_4 2 (by decide) rfl mw_321 rfl rfl (ty := .int) (v := 0) (by decide +kernel) rfl rfl dX3_clear_2 (fun H locs hw => ?_)
  exact gx_rv (post := fun σ1 τ1 => σ1 = up2 σ 44 2 0 ∧ τ1 = τ) S hr hlk hw dX3_clear_5 ⟨(by first | rfl | simp [up2, upJ]), rfl⟩
set_option maxHeartbeats 4000000 in
set_option maxRecDepth 100000 in
theorem c_Past_push (l : Launch) {E : gE} (σ : gI) (τ : gJ) (d : Nat) (h_d_6 : σ d 6 = 0) (h_d_7 : σ d 7 = 0) (h_d_8 : σ d 8 = 0) (h_d_9 : σ d 9 = 0) (h_d_10 : σ d 10 = 0) (h_44_1 : σ 44 1 = 0) (h_44_2 : σ 44 2 = 0) (td : gx_tb[d]? = some (.inl (7, [some (some (d + 1)), some (some (d + 2)), some (some (d + 3)), some (some (d + 4)), some (some (d + 5)), some (some (d + 6)), none, none, none, none, none]))) (hd : ¬ d = 46) (hd2 : ¬ 46 = d) : gx_Mv l yX3_push cX3_push 2 none 1 gx_tb E (σ) (τ) [.ref (E.2.2 + 44), .ref (E.2.2 + d)] (fun σ1 τ1 => σ1 = up2 (up2 (up2 (up2 (up2 (up2 (up2 (σ) 46 6 0) 46 7 0) 46 8 0) 46 9 0) 46 10 0) 44 1 1) 44 2 1 ∧ τ1 = τ) := by
  refine gx_bv (by decide +kernel) (Nat.le_of_ble_eq_true rfl) ?_
  intro P9 e9 s m9 below meth C9 S hr hlk hK hw ls hl
  have S : CallFix P9 m9 C9 cX3_push 2 s _ gx_G RX3 := S
  have hx := S.1
  have hb := S.2.1
  have hl : lv_has ls 2 [(0, .ref (E.2.2 + 44)), (1, .ref (E.2.2 + d))] := hl
  refine lv_aload_n hx hb dX3_push_0 rfl (lv_at hl 0 rfl) ?_
  refine gx_get S hK hw t_44 cl_4 1 (by decide) rfl mw_320 rfl dX3_push_1 ?_
  refine gx_top (v := 0) (by first | rfl | decide | simp [up2, gs0, h_d_6, h_d_7, h_d_8, h_d_9, h_d_10, h_44_1, h_44_2, td, hd, hd2]) ?_
  refine lv_if_lt (tgt := 16) hx hb dX3_push_4 (by decide) (fun h => absurd h (by decide)) (fun _ => ?_)
  refine lv_aload_n hx hb dX3_push_7 rfl (lv_at hl 0 rfl) ?_
  refine gx_get S hK hw t_44 cl_4 1 (by decide) rfl mw_320 rfl dX3_push_8 ?_
  refine gx_top (v := 0) (by first | rfl | decide | simp [up2, gs0, h_d_6, h_d_7, h_d_8, h_d_9, h_d_10, h_44_1, h_44_2, td, hd, hd2]) ?_
  refine lv_bipush (v := 15) hx hb dX3_push_11 (by decide) ?_
  refine lv_icmp_lt (tgt := 17) hx hb dX3_push_13 (by decide) (fun _ => ?_) (fun h => absurd (by decide) h)
  refine lv_aload_n hx hb dX3_push_17 rfl (lv_at hl 0 rfl) ?_
  refine gx_getr (j := 45) S hK hw t_44 cl_4 0 (by decide) rfl mw_319 rfl dX3_push_18 ?_
  refine lv_aload_n hx hb dX3_push_21 rfl (lv_at hl 0 rfl) ?_
  refine gx_get S hK hw t_44 cl_4 1 (by decide) rfl mw_320 rfl dX3_push_22 ?_
  refine gx_top (v := 0) (by first | rfl | decide | simp [up2, gs0, h_d_6, h_d_7, h_d_8, h_d_9, h_d_10, h_44_1, h_44_2, td, hd, hd2]) ?_
  refine gx_aald (r := 46) S hK hw t_45 0 rfl (gx_in rfl (by decide) (by decide)) rfl dX3_push_25 ?_
  refine lv_aload_n hx hb dX3_push_26 rfl (lv_at hl 1 rfl) ?_
  refine gx_cVv (As := [.ref (E.2.2 + d)]) (rest := []) S hK gx_ok hw (c_Scene_copy l (E := E) (σ) (τ) 46 d (by first | rfl | decide | simp [up2, gs0, h_d_6, h_d_7, h_d_8, h_d_9, h_d_10, h_44_1, h_44_2, td, hd, hd2]) (by first | rfl | decide | simp [up2, gs0, h_d_6, h_d_7, h_d_8, h_d_9, h_d_10, h_44_1, h_44_2, td, hd, hd2]) (by first | rfl | decide | simp [up2, gs0, h_d_6, h_d_7, h_d_8, h_d_9, h_d_10, h_44_1, h_44_2, td, hd, hd2]) (by first | rfl | decide | simp [up2, gs0, h_d_6, h_d_7, h_d_8, h_d_9, h_d_10, h_44_1, h_44_2, td, hd, hd2]) (by first | rfl | decide | simp [up2, gs0, h_d_6, h_d_7, h_d_8, h_d_9, h_d_10, h_44_1, h_44_2, td, hd, hd2]) (by first | rfl | decide | simp [up2, gs0, h_d_6, h_d_7, h_d_8, h_d_9, h_d_10, h_44_1, h_44_2, td, hd, hd2]) (by first | rfl | decide | simp [up2, gs0, h_d_6, h_d_7, h_d_8, h_d_9, h_d_10, h_44_1, h_44_2, td, hd, hd2]) (by first | rfl | decide | simp [up2, gs0, h_d_6, h_d_7, h_d_8, h_d_9, h_d_10, h_44_1, h_44_2, td, hd, hd2]) (by first | rfl | decide | simp [up2, gs0, h_d_6, h_d_7, h_d_8, h_d_9, h_d_10, h_44_1, h_44_2, td, hd, hd2])) cw_X3_23 t_46 cl_7 ⟨Nat.le_of_ble_eq_true rfl, Nat.le_of_ble_eq_true rfl⟩ rfl hl.1 rfl (Nat.le_of_ble_eq_true rfl) ⟨Nat.le_of_ble_eq_true rfl, Nat.le_of_ble_eq_true rfl⟩ dX3_push_27 (fun σ_1 τ_1 H locs hp hw => ?_)
  obtain ⟨es_1, et_1⟩ := hp
  obtain rfl := es_1.symm
  obtain rfl := et_1.symm
  refine lv_aload_n hx hb dX3_push_30 rfl (lv_at hl 0 rfl) ?_
  refine lv_aload_n hx hb dX3_push_31 rfl (lv_at hl 0 rfl) ?_
  refine gx_get S hK hw t_44 cl_4 1 (by decide) rfl mw_320 rfl dX3_push_32 ?_
  refine gx_top (v := 0) (by first | rfl | decide | simp [up2, gs0, h_d_6, h_d_7, h_d_8, h_d_9, h_d_10, h_44_1, h_44_2, td, hd, hd2]) ?_
  refine lv_iconst (v := 1) hx hb dX3_push_35 (by decide) ?_
  refine lv_iadd hx hb dX3_push_36 ?_
  refine gx_top (v := 1) (by decide) ?_
  refine lv_bipush (v := 15) hx hb dX3_push_37 (by decide) ?_
  refine lv_icmp_ge (tgt := 51) hx hb dX3_push_39 (by decide) (fun h => absurd h (by decide)) (fun _ => ?_)
  refine lv_aload_n hx hb dX3_push_42 rfl (lv_at hl 0 rfl) ?_
  refine gx_get S hK hw t_44 cl_4 1 (by decide) rfl mw_320 rfl dX3_push_43 ?_
  refine gx_top (v := 0) (by first | rfl | decide | simp [up2, gs0, h_d_6, h_d_7, h_d_8, h_d_9, h_d_10, h_44_1, h_44_2, td, hd, hd2]) ?_
  refine lv_iconst (v := 1) hx hb dX3_push_46 (by decide) ?_
  refine lv_iadd hx hb dX3_push_47 ?_
  refine gx_top (v := 1) (by decide) ?_
  refine lv_goto (tgt := 52) hx hb dX3_push_48 (by decide) ?_
  refine gx_put S hK gx_ok hw t_44 cl_4 1 (by decide) rfl mw_320 rfl rfl (ty := .int) (v := 1) (by decide +kernel) rfl rfl dX3_push_52 (fun H locs hw => ?_)
  refine lv_aload_n hx hb dX3_push_55 rfl (lv_at hl 0 rfl) ?_
  refine lv_bipush (v := 15) hx hb dX3_push_56 (by decide) ?_
  refine lv_aload_n hx hb dX3_push_58 rfl (lv_at hl 0 rfl) ?_
  refine gx_get S hK hw t_44 cl_4 2 (by decide) rfl mw_321 rfl dX3_push_59 ?_
  refine gx_top (v := 0) (by first | rfl | decide | simp [up2, gs0, h_d_6, h_d_7, h_d_8, h_d_9, h_d_10, h_44_1, h_44_2, td, hd, hd2]) ?_
  refine lv_iconst (v := 1) hx hb dX3_push_62 (by decide) ?_
  refine lv_iadd hx hb dX3_push_63 ?_
  refine gx_top (v := 1) (by decide) ?_
  refine gx_min (w := 1) S hl.1 mw_780 mw_529 mw_102 mw_530 ⟨Nat.le_of_ble_eq_true rfl, Nat.le_of_ble_eq_true rfl⟩ ⟨Nat.le_of_ble_eq_true rfl, Nat.le_of_ble_eq_true rfl⟩ dX3_push_64 (by decide) ?_
  refine gx_put S hK gx_ok hw t_44 cl_4 2 (by decide) rfl mw_321 rfl rfl (ty := .int) (v := 1) (by decide +kernel) rfl rfl dX3_push_67 (fun H locs hw => ?_)
  exact gx_rv (post := fun σ1 τ1 => σ1 = up2 (up2 (up2 (up2 (up2 (up2 (up2 (σ) 46 6 0) 46 7 0) 46 8 0) 46 9 0) 46 10 0) 44 1 1) 44 2 1 ∧ τ1 = τ) S hr hlk hw dX3_push_70 ⟨(by first | rfl | simp [up2, upJ]), (by first | rfl | simp [up2, upJ])⟩
set_option maxHeartbeats 4000000 in
set_option maxRecDepth 100000 in
theorem c_Past_pop (l : Launch) {E : gE} (σ : gI) (τ : gJ)  (h_44_1 : σ 44 1 = 0) (h_44_2 : σ 44 2 = 0) : gx_Mi l yX3_pop cX3_pop 3 (some .boolean) 0 gx_tb E (σ) (τ) [.ref (E.2.2 + 44), .ref (E.2.2 + 30)] (fun r σ1 τ1 => r = 0 ∧ σ1 = σ ∧ τ1 = τ) := by
  refine gx_bi (by decide +kernel) (Nat.le_of_ble_eq_true rfl) ?_
  intro P9 e9 s m9 below meth C9 S hr hlk hK hw ls hl
  have S : CallFix P9 m9 C9 cX3_pop 3 s _ gx_G RX3 := S
  have hx := S.1
  have hb := S.2.1
  have hl : lv_has ls 3 [(0, .ref (E.2.2 + 44)), (1, .ref (E.2.2 + 30))] := hl
  refine lv_aload_n hx hb dX3_pop_0 rfl (lv_at hl 0 rfl) ?_
  refine gx_get S hK hw t_44 cl_4 1 (by decide) rfl mw_320 rfl dX3_pop_1 ?_
  refine gx_top (v := 0) (by first | rfl | decide | simp [up2, gs0, h_44_1, h_44_2]) ?_
  refine lv_if_le (tgt := 16) hx hb dX3_pop_4 (by decide) (fun _ => ?_) (fun h => absurd (by decide) h)
  refine lv_bipush (v := 14) hx hb dX3_pop_16 (by decide) ?_
  refine lv_istore_n (lv' := [(2, .int 14), (0, .ref (E.2.2 + 44)), (1, .ref (E.2.2 + 30))]) hx hb dX3_pop_18 rfl hl (by decide) rfl (fun ls hl => ?_)
  refine lv_aload_n hx hb dX3_pop_19 rfl (lv_at hl 1 rfl) ?_
  refine gx_get S hK hw t_44 cl_4 2 (by decide) rfl mw_321 rfl dX3_pop_20 ?_
  refine gx_top (v := 0) (by first | rfl | decide | simp [up2, gs0, h_44_1, h_44_2]) ?_
  refine lv_if_le (tgt := 32) hx hb dX3_pop_23 (by decide) (fun _ => ?_) (fun h => absurd (by decide) h)
  refine lv_iconst (v := 0) hx hb dX3_pop_32 (by decide) ?_
  exact gx_ri (post := fun r σ1 τ1 => r = 0 ∧ σ1 = σ ∧ τ1 = τ) (v := 0) S hr hlk hw rfl dX3_pop_33 ⟨rfl, rfl, rfl⟩
set_option maxHeartbeats 4000000 in
set_option maxRecDepth 100000 in
theorem c_tell1 (l : Launch) {E : gE} (σ : gI) (τ : gJ) (a : Int64)  : gx_Mv l yX4_tell cX4_tell 3 none 0 gx_tb E (σ) (τ) [.ref (E.2.2 + 156), .long a] (fun σ1 τ1 => σ1 = up2 σ 156 1 1 ∧ True) := by
  refine gx_bv (by decide +kernel) (Nat.le_of_ble_eq_true rfl) ?_
  intro P9 e9 s m9 below meth C9 S hr hlk hK hw ls hl
  have S : CallFix P9 m9 C9 cX4_tell 3 s _ gx_G RX4 := S
  have hx := S.1
  have hb := S.2.1
  have hl : lv_has ls 3 [(0, .ref (E.2.2 + 156)), (1, .long a)] := hl
  refine lv_aload_n hx hb dX4_tell_0 rfl (lv_at hl 0 rfl) ?_
  refine gx_getr (j := 157) S hK hw t_156 cl_5 0 (by decide) rfl mw_356 rfl dX4_tell_1 ?_
  refine lv_iconst (v := 0) hx hb dX4_tell_4 (by decide) ?_
  refine lv_lload_n hx hb dX4_tell_5 rfl (lv_at hl 1 rfl) ?_
  refine gx_last S hK gx_ok hw t_157 0 rfl (gx_in rfl (by decide) (by decide)) dX4_tell_6 (fun H locs hw => ?_)
  refine lv_aload_n hx hb dX4_tell_7 rfl (lv_at hl 0 rfl) ?_
  refine lv_iconst (v := 1) hx hb dX4_tell_8 (by decide) ?_
  refine gx_put S hK gx_ok hw t_156 cl_5 1 (by decide) rfl mw_357 rfl rfl (ty := .int) (v := 1) (by decide +kernel) rfl rfl dX4_tell_9 (fun H locs hw => ?_)
  exact gx_rv (post := fun σ1 τ1 => σ1 = up2 σ 156 1 1 ∧ True) S hr hlk hw dX4_tell_12 ⟨(by first | rfl | simp [up2, upJ]), trivial⟩
set_option maxHeartbeats 4000000 in
set_option maxRecDepth 100000 in
theorem c_tell2 (l : Launch) {E : gE} (σ : gI) (τ : gJ) (a b : Int64)  : gx_Mv l yX4_tell_ cX4_tell_ 5 none 0 gx_tb E (σ) (τ) [.ref (E.2.2 + 156), .long a, .long b] (fun σ1 τ1 => σ1 = up2 σ 156 1 2 ∧ True) := by
  refine gx_bv (by decide +kernel) (Nat.le_of_ble_eq_true rfl) ?_
  intro P9 e9 s m9 below meth C9 S hr hlk hK hw ls hl
  have S : CallFix P9 m9 C9 cX4_tell_ 5 s _ gx_G RX4 := S
  have hx := S.1
  have hb := S.2.1
  have hl : lv_has ls 5 [(0, .ref (E.2.2 + 156)), (1, .long a), (3, .long b)] := hl
  refine lv_aload_n hx hb dX4_tell__0 rfl (lv_at hl 0 rfl) ?_
  refine gx_getr (j := 157) S hK hw t_156 cl_5 0 (by decide) rfl mw_356 rfl dX4_tell__1 ?_
  refine lv_iconst (v := 0) hx hb dX4_tell__4 (by decide) ?_
  refine lv_lload_n hx hb dX4_tell__5 rfl (lv_at hl 1 rfl) ?_
  refine gx_last S hK gx_ok hw t_157 0 rfl (gx_in rfl (by decide) (by decide)) dX4_tell__6 (fun H locs hw => ?_)
  refine lv_aload_n hx hb dX4_tell__7 rfl (lv_at hl 0 rfl) ?_
  refine gx_getr (j := 157) S hK hw t_156 cl_5 0 (by decide) rfl mw_356 rfl dX4_tell__8 ?_
  refine lv_iconst (v := 1) hx hb dX4_tell__11 (by decide) ?_
  refine lv_lload_n hx hb dX4_tell__12 rfl (lv_at hl 2 rfl) ?_
  refine gx_last S hK gx_ok hw t_157 1 rfl (gx_in rfl (by decide) (by decide)) dX4_tell__13 (fun H locs hw => ?_)
  refine lv_aload_n hx hb dX4_tell__14 rfl (lv_at hl 0 rfl) ?_
  refine lv_iconst (v := 2) hx hb dX4_tell__15 (by decide) ?_
  refine gx_put S hK gx_ok hw t_156 cl_5 1 (by decide) rfl mw_357 rfl rfl (ty := .int) (v := 2) (by decide +kernel) rfl rfl dX4_tell__16 (fun H locs hw => ?_)
  exact gx_rv (post := fun σ1 τ1 => σ1 = up2 σ 156 1 2 ∧ True) S hr hlk hw dX4_tell__19 ⟨(by first | rfl | simp [up2, upJ]), trivial⟩
set_option maxHeartbeats 4000000 in
set_option maxRecDepth 100000 in
theorem c_tell3 (l : Launch) {E : gE} (σ : gI) (τ : gJ) (a b d : Int64)  : gx_Mv l yX4_tell__ cX4_tell__ 7 none 0 gx_tb E (σ) (τ) [.ref (E.2.2 + 156), .long a, .long b, .long d] (fun σ1 τ1 => σ1 = up2 σ 156 1 3 ∧ True) := by
  refine gx_bv (by decide +kernel) (Nat.le_of_ble_eq_true rfl) ?_
  intro P9 e9 s m9 below meth C9 S hr hlk hK hw ls hl
  have S : CallFix P9 m9 C9 cX4_tell__ 7 s _ gx_G RX4 := S
  have hx := S.1
  have hb := S.2.1
  have hl : lv_has ls 7 [(0, .ref (E.2.2 + 156)), (1, .long a), (3, .long b), (5, .long d)] := hl
  refine lv_aload_n hx hb dX4_tell___0 rfl (lv_at hl 0 rfl) ?_
  refine gx_getr (j := 157) S hK hw t_156 cl_5 0 (by decide) rfl mw_356 rfl dX4_tell___1 ?_
  refine lv_iconst (v := 0) hx hb dX4_tell___4 (by decide) ?_
  refine lv_lload_n hx hb dX4_tell___5 rfl (lv_at hl 1 rfl) ?_
  refine gx_last S hK gx_ok hw t_157 0 rfl (gx_in rfl (by decide) (by decide)) dX4_tell___6 (fun H locs hw => ?_)
  refine lv_aload_n hx hb dX4_tell___7 rfl (lv_at hl 0 rfl) ?_
  refine gx_getr (j := 157) S hK hw t_156 cl_5 0 (by decide) rfl mw_356 rfl dX4_tell___8 ?_
  refine lv_iconst (v := 1) hx hb dX4_tell___11 (by decide) ?_
  refine lv_lload_n hx hb dX4_tell___12 rfl (lv_at hl 2 rfl) ?_
  refine gx_last S hK gx_ok hw t_157 1 rfl (gx_in rfl (by decide) (by decide)) dX4_tell___13 (fun H locs hw => ?_)
  refine lv_aload_n hx hb dX4_tell___14 rfl (lv_at hl 0 rfl) ?_
  refine gx_getr (j := 157) S hK hw t_156 cl_5 0 (by decide) rfl mw_356 rfl dX4_tell___15 ?_
  refine lv_iconst (v := 2) hx hb dX4_tell___18 (by decide) ?_
  refine lv_lload hx hb dX4_tell___19 (lv_at hl 3 rfl) ?_
  refine gx_last S hK gx_ok hw t_157 2 rfl (gx_in rfl (by decide) (by decide)) dX4_tell___21 (fun H locs hw => ?_)
  refine lv_aload_n hx hb dX4_tell___22 rfl (lv_at hl 0 rfl) ?_
  refine lv_iconst (v := 3) hx hb dX4_tell___23 (by decide) ?_
  refine gx_put S hK gx_ok hw t_156 cl_5 1 (by decide) rfl mw_357 rfl rfl (ty := .int) (v := 3) (by decide +kernel) rfl rfl dX4_tell___24 (fun H locs hw => ?_)
  exact gx_rv (post := fun σ1 τ1 => σ1 = up2 σ 156 1 3 ∧ True) S hr hlk hw dX4_tell___27 ⟨(by first | rfl | simp [up2, upJ]), trivial⟩
set_option maxHeartbeats 4000000 in
set_option maxRecDepth 100000 in
theorem c_flowIn (l : Launch) {E : gE} (σ : gI) (τ : gJ) (m1 : Int32) (h_15_1 : σ 15 1 = 0) (h_158_8 : σ 158 8 = 0) : gx_Mi l yX1_flowIn cX1_flowIn 5 (some .int) 1 gx_tb E (σ) (τ) [.ref (E.2.2 + 158), .int m1] (fun r σ1 τ1 => r = 1 ∧ σ1 = σ ∧ τ1 = τ) := by
  refine gx_bi (by decide +kernel) (Nat.le_of_ble_eq_true rfl) ?_
  intro P9 e9 s m9 below meth C9 S hr hlk hK hw ls hl
  have S : CallFix P9 m9 C9 cX1_flowIn 5 s _ gx_G RX1 := S
  have hx := S.1
  have hb := S.2.1
  have hl : lv_has ls 5 [(0, .ref (E.2.2 + 158)), (1, .int m1)] := hl
  refine lv_aload_n hx hb dX1_flowIn_0 rfl (lv_at hl 0 rfl) ?_
  refine gx_getr (j := 15) S hK hw t_158 cl_2 1 (by decide) rfl mw_372 rfl dX1_flowIn_1 ?_
  refine lv_iload_n hx hb dX1_flowIn_4 rfl (lv_at hl 1 rfl) ?_
  refine gx_cVi (As := [.int m1]) (rest := []) S hK gx_ok hw (c_Water_in l (E := E) (σ) (τ) m1 (by first | rfl | decide | simp [up2, gs0, h_15_1, h_158_8])) cw_X1_33 t_15 cl_11 ⟨Nat.le_of_ble_eq_true rfl, Nat.le_of_ble_eq_true rfl⟩ rfl hl.1 rfl (Nat.le_of_ble_eq_true rfl) ⟨Nat.le_of_ble_eq_true rfl, Nat.le_of_ble_eq_true rfl⟩ dX1_flowIn_5 (fun r_1 σ_1 τ_1 H locs hp hw => ?_)
  obtain ⟨er_1, es_1, et_1⟩ := hp
  obtain rfl := er_1.symm
  obtain rfl := es_1.symm
  obtain rfl := et_1.symm
  refine lv_istore_n (lv' := [(2, .int 1), (0, .ref (E.2.2 + 158)), (1, .int m1)]) hx hb dX1_flowIn_8 rfl hl (by decide) rfl (fun ls hl => ?_)
  refine lv_aload_n hx hb dX1_flowIn_9 rfl (lv_at hl 1 rfl) ?_
  refine gx_get S hK hw t_158 cl_2 8 (by decide) rfl mw_383 rfl dX1_flowIn_10 ?_
  refine gx_top (v := 0) (by first | rfl | decide | simp [up2, gs0, h_15_1, h_158_8]) ?_
  refine lv_if_ne (tgt := 18) hx hb dX1_flowIn_13 (by decide) (fun h => absurd (by decide) h) (fun _ => ?_)
  refine lv_iload_n hx hb dX1_flowIn_16 rfl (lv_at hl 0 rfl) ?_
  exact gx_ri (post := fun r σ1 τ1 => r = 1 ∧ σ1 = σ ∧ τ1 = τ) (v := 1) S hr hlk hw rfl dX1_flowIn_17 ⟨rfl, (by first | rfl | simp [up2, upJ]), (by first | rfl | simp [up2, upJ])⟩
set_option maxHeartbeats 4000000 in
set_option maxRecDepth 100000 in
theorem c_pass (l : Launch) {E : gE} (σ : gI) (τ : gJ)  (h_15_1 : σ 15 1 = 0) (h_158_8 : σ 158 8 = 0) (h_30_6 : σ 30 6 = 0) : gx_Mv l yX1_pass cX1_pass 6 none 2 gx_tb E (σ) (τ) [.ref (E.2.2 + 158), .ref (E.2.2 + 30)] (fun σ1 τ1 => (∀ c k : Nat, ¬ (c = 30 ∧ k = 8) → σ1 c k = (σ) c k) ∧ τ1 = τ) := by
  refine gx_bv (by decide +kernel) (Nat.le_of_ble_eq_true rfl) ?_
  intro P9 e9 s m9 below meth C9 S hr hlk hK hw ls hl
  have S : CallFix P9 m9 C9 cX1_pass 6 s _ gx_G RX1 := S
  have hx := S.1
  have hb := S.2.1
  have hl : lv_has ls 6 [(0, .ref (E.2.2 + 158)), (1, .ref (E.2.2 + 30))] := hl
  refine lv_aload_n hx hb dX1_pass_0 rfl (lv_at hl 0 rfl) ?_
  refine lv_aload_n hx hb dX1_pass_1 rfl (lv_at hl 1 rfl) ?_
  refine gx_get S hK hw t_30 cl_7 8 (by decide) rfl mw_279 rfl dX1_pass_2 ?_
  refine gx_cVi (As := [.int ((σ) 30 8)]) (rest := []) S hK gx_ok hw (c_flowIn l (E := E) (σ) (τ) ((σ) 30 8) (by first | rfl | decide | simp [up2, gs0, h_15_1, h_158_8, h_30_6]) (by first | rfl | decide | simp [up2, gs0, h_15_1, h_158_8, h_30_6])) cw_X1_57 t_158 cl_2 ⟨Nat.le_of_ble_eq_true rfl, Nat.le_of_ble_eq_true rfl⟩ rfl hl.1 rfl (Nat.le_of_ble_eq_true rfl) ⟨Nat.le_of_ble_eq_true rfl, Nat.le_of_ble_eq_true rfl⟩ dX1_pass_5 (fun r_1 σ_1 τ_1 H locs hp hw => ?_)
  obtain ⟨er_1, es_1, et_1⟩ := hp
  obtain rfl := er_1.symm
  obtain rfl := es_1.symm
  obtain rfl := et_1.symm
  refine lv_istore_n (lv' := [(2, .int 1), (0, .ref (E.2.2 + 158)), (1, .ref (E.2.2 + 30))]) hx hb dX1_pass_8 rfl hl (by decide) rfl (fun ls hl => ?_)
  refine lv_iconst (v := 0) hx hb dX1_pass_9 (by decide) ?_
  refine lv_istore_n (lv' := [(3, .int 0), (2, .int 1), (0, .ref (E.2.2 + 158)), (1, .ref (E.2.2 + 30))]) hx hb dX1_pass_10 rfl hl (by decide) rfl (fun ls hl => ?_)
  refine lv_iload_n hx hb dX1_pass_11 rfl (lv_at hl 0 rfl) ?_
  refine lv_aload_n hx hb dX1_pass_12 rfl (lv_at hl 3 rfl) ?_
  refine gx_get S hK hw t_30 cl_7 6 (by decide) rfl mw_271 rfl dX1_pass_13 ?_
  refine gx_top (v := 0) (by first | rfl | decide | simp [up2, gs0, h_15_1, h_158_8, h_30_6]) ?_
  refine lv_icmp_ge (tgt := 65) hx hb dX1_pass_16 (by decide) (fun _ => ?_) (fun h => absurd (by decide) h)
  refine lv_aload_n hx hb dX1_pass_65 rfl (lv_at hl 3 rfl) ?_
  refine lv_dup hx hb dX1_pass_66 rfl ?_
  refine gx_get S hK hw t_30 cl_7 8 (by decide) rfl mw_279 rfl dX1_pass_67 ?_
  refine lv_iconst (v := 1) hx hb dX1_pass_70 (by decide) ?_
  refine lv_iadd hx hb dX1_pass_71 ?_
  refine gx_put S hK gx_ok hw t_30 cl_7 8 (by decide) rfl mw_279 rfl rfl (ty := .int) (v := ((σ) 30 8) + 1) (by decide +kernel) rfl rfl dX1_pass_72 (fun H locs hw => ?_)
  exact gx_rv (post := fun σ1 τ1 => (∀ c k : Nat, ¬ (c = 30 ∧ k = 8) → σ1 c k = (σ) c k) ∧ τ1 = τ) S hr hlk hw dX1_pass_75 ⟨(fun c9 k9 h9_0 => by simp [up2, upJ, h9_0]), (by first | rfl | simp [up2, upJ])⟩
set_option maxHeartbeats 4000000 in
set_option maxRecDepth 100000 in
theorem c_seesOthers (l : Launch) {E : gE} (σ : gI) (τ : gJ)  (h_17_10 : σ 17 10 = 0) : gx_Mi l yX1_seesOthers cX1_seesOthers 1 (some .boolean) 0 gx_tb E (σ) (τ) [.ref (E.2.2 + 158)] (fun r σ1 τ1 => r = 0 ∧ σ1 = σ ∧ τ1 = τ) := by
  refine gx_bi (by decide +kernel) (Nat.le_of_ble_eq_true rfl) ?_
  intro P9 e9 s m9 below meth C9 S hr hlk hK hw ls hl
  have S : CallFix P9 m9 C9 cX1_seesOthers 1 s _ gx_G RX1 := S
  have hx := S.1
  have hb := S.2.1
  have hl : lv_has ls 1 [(0, .ref (E.2.2 + 158))] := hl
  refine lv_aload_n hx hb dX1_seesOthers_0 rfl (lv_at hl 0 rfl) ?_
  refine gx_getr (j := 17) S hK hw t_158 cl_2 2 (by decide) rfl mw_373 rfl dX1_seesOthers_1 ?_
  refine gx_get S hK hw t_17 cl_6 10 (by decide) rfl mw_211 rfl dX1_seesOthers_4 ?_
  refine gx_top (v := 0) (by first | rfl | decide | simp [up2, gs0, h_17_10]) ?_
  exact gx_ri (post := fun r σ1 τ1 => r = 0 ∧ σ1 = σ ∧ τ1 = τ) (v := 0) S hr hlk hw rfl dX1_seesOthers_7 ⟨rfl, rfl, rfl⟩
