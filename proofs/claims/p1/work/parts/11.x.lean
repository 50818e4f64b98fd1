set_option maxHeartbeats 4000000 in
set_option maxRecDepth 100000 in
theorem c_bitCount0 (l : Launch) {E : gE} (σ : gI) (τ : gJ)   : gx_Mi l yJ6_bitCount_0f7a4 cJ6_bitCount_0f7a4 1 (some .int) 0 gx_tb E (σ) (τ) [.int 0] (fun r σ1 τ1 => r = 0 ∧ σ1 = σ ∧ τ1 = τ) := by
  refine gx_bi (by decide +kernel) (Nat.le_of_ble_eq_true rfl) ?_
  intro P9 e9 s m9 below meth C9 S hr hlk hK hw ls hl
  have S : CallFix P9 m9 C9 cJ6_bitCount_0f7a4 1 s _ gx_G RJ6 := S
  have hx := S.1
  have hb := S.2.1
  have hl : lv_has ls 1 [(0, .int 0)] := hl
  refine lv_iload_n hx hb dJ6_bitCount_0f7a4_0 rfl (lv_at hl 0 rfl) ?_
  refine lv_iload_n hx hb dJ6_bitCount_0f7a4_1 rfl (lv_at hl 0 rfl) ?_
  refine lv_iconst (v := 1) hx hb dJ6_bitCount_0f7a4_2 (by decide) ?_
  refine lv_iushr (v := 0) hx hb dJ6_bitCount_0f7a4_3 (by decide) ?_
  refine lv_ldcw (v := 1431655765) hx hb S.2.2.2.1 (S.2.2.2.2 _ mw_898) dJ6_bitCount_0f7a4_4 ?_
  refine lv_iand hx hb dJ6_bitCount_0f7a4_7 ?_
  refine gx_top (v := 0) (by decide) ?_
  refine lv_isub hx hb dJ6_bitCount_0f7a4_8 ?_
  refine gx_top (v := 0) (by decide) ?_
  refine lv_istore_n (lv' := [(0, .int 0)]) hx hb dJ6_bitCount_0f7a4_9 rfl hl (by decide) rfl (fun ls hl => ?_)
  refine lv_iload_n hx hb dJ6_bitCount_0f7a4_10 rfl (lv_at hl 0 rfl) ?_
  refine lv_ldcw (v := 858993459) hx hb S.2.2.2.1 (S.2.2.2.2 _ mw_899) dJ6_bitCount_0f7a4_11 ?_
  refine lv_iand hx hb dJ6_bitCount_0f7a4_14 ?_
  refine gx_top (v := 0) (by decide) ?_
  refine lv_iload_n hx hb dJ6_bitCount_0f7a4_15 rfl (lv_at hl 0 rfl) ?_
  refine lv_iconst (v := 2) hx hb dJ6_bitCount_0f7a4_16 (by decide) ?_
  refine lv_iushr (v := 0) hx hb dJ6_bitCount_0f7a4_17 (by decide) ?_
  refine lv_ldcw (v := 858993459) hx hb S.2.2.2.1 (S.2.2.2.2 _ mw_899) dJ6_bitCount_0f7a4_18 ?_
  refine lv_iand hx hb dJ6_bitCount_0f7a4_21 ?_
  refine gx_top (v := 0) (by decide) ?_
  refine lv_iadd hx hb dJ6_bitCount_0f7a4_22 ?_
  refine gx_top (v := 0) (by decide) ?_
  refine lv_istore_n (lv' := [(0, .int 0)]) hx hb dJ6_bitCount_0f7a4_23 rfl hl (by decide) rfl (fun ls hl => ?_)
  refine lv_iload_n hx hb dJ6_bitCount_0f7a4_24 rfl (lv_at hl 0 rfl) ?_
  refine lv_iload_n hx hb dJ6_bitCount_0f7a4_25 rfl (lv_at hl 0 rfl) ?_
  refine lv_iconst (v := 4) hx hb dJ6_bitCount_0f7a4_26 (by decide) ?_
  refine lv_iushr (v := 0) hx hb dJ6_bitCount_0f7a4_27 (by decide) ?_
  refine lv_iadd hx hb dJ6_bitCount_0f7a4_28 ?_
  refine gx_top (v := 0) (by decide) ?_
  refine lv_ldcw (v := 252645135) hx hb S.2.2.2.1 (S.2.2.2.2 _ mw_900) dJ6_bitCount_0f7a4_29 ?_
  refine lv_iand hx hb dJ6_bitCount_0f7a4_32 ?_
  refine gx_top (v := 0) (by decide) ?_
  refine lv_istore_n (lv' := [(0, .int 0)]) hx hb dJ6_bitCount_0f7a4_33 rfl hl (by decide) rfl (fun ls hl => ?_)
  refine lv_iload_n hx hb dJ6_bitCount_0f7a4_34 rfl (lv_at hl 0 rfl) ?_
  refine lv_iload_n hx hb dJ6_bitCount_0f7a4_35 rfl (lv_at hl 0 rfl) ?_
  refine lv_bipush (v := 8) hx hb dJ6_bitCount_0f7a4_36 (by decide) ?_
  refine lv_iushr (v := 0) hx hb dJ6_bitCount_0f7a4_38 (by decide) ?_
  refine lv_iadd hx hb dJ6_bitCount_0f7a4_39 ?_
  refine gx_top (v := 0) (by decide) ?_
  refine lv_istore_n (lv' := [(0, .int 0)]) hx hb dJ6_bitCount_0f7a4_40 rfl hl (by decide) rfl (fun ls hl => ?_)
  refine lv_iload_n hx hb dJ6_bitCount_0f7a4_41 rfl (lv_at hl 0 rfl) ?_
  refine lv_iload_n hx hb dJ6_bitCount_0f7a4_42 rfl (lv_at hl 0 rfl) ?_
  refine lv_bipush (v := 16) hx hb dJ6_bitCount_0f7a4_43 (by decide) ?_
  refine lv_iushr (v := 0) hx hb dJ6_bitCount_0f7a4_45 (by decide) ?_
  refine lv_iadd hx hb dJ6_bitCount_0f7a4_46 ?_
  refine gx_top (v := 0) (by decide) ?_
  refine lv_istore_n (lv' := [(0, .int 0)]) hx hb dJ6_bitCount_0f7a4_47 rfl hl (by decide) rfl (fun ls hl => ?_)
  refine lv_iload_n hx hb dJ6_bitCount_0f7a4_48 rfl (lv_at hl 0 rfl) ?_
  refine lv_bipush (v := 63) hx hb dJ6_bitCount_0f7a4_49 (by decide) ?_
  refine lv_iand hx hb dJ6_bitCount_0f7a4_51 ?_
  refine gx_top (v := 0) (by decide) ?_
  exact gx_ri (post := fun r σ1 τ1 => r = 0 ∧ σ1 = σ ∧ τ1 = τ) (v := 0) S hr hlk hw rfl dJ6_bitCount_0f7a4_52 ⟨rfl, rfl, rfl⟩
set_option maxHeartbeats 4000000 in
set_option maxRecDepth 100000 in
theorem c_addFour (l : Launch) {E : gE} (σ : gI) (τ : gJ) (v : Int32) (h_1_2 : σ 1 2 = 0) : gx_Mi l yX7_addFour cX7_addFour 2 (some .boolean) 0 gx_tb E (σ) (τ) [.ref (E.2.2 + 1), .int v] (fun r σ1 τ1 => r = 1 ∧ (∀ c k : Nat, ¬ c = 2 → σ1 c k = (up2 σ 1 2 4) c k) ∧ τ1 = τ) := by
  refine gx_bi (by decide +kernel) (Nat.le_of_ble_eq_true rfl) ?_
  intro P9 e9 s m9 below meth C9 S hr hlk hK hw ls hl
  have S : CallFix P9 m9 C9 cX7_addFour 2 s _ gx_G RX7 := S
  have hx := S.1
  have hb := S.2.1
  have hl : lv_has ls 2 [(0, .ref (E.2.2 + 1)), (1, .int v)] := hl
  refine lv_aload_n hx hb dX7_addFour_0 rfl (lv_at hl 0 rfl) ?_
  refine gx_get S hK hw t_1 cl_8 2 (by decide) rfl mw_131 rfl dX7_addFour_1 ?_
  refine gx_top (v := 0) (by first | rfl | decide | simp [up2, gs0, h_1_2]) ?_
  refine lv_if_lt (tgt := 16) hx hb dX7_addFour_4 (by decide) (fun h => absurd h (by decide)) (fun _ => ?_)
  refine lv_aload_n hx hb dX7_addFour_7 rfl (lv_at hl 0 rfl) ?_
  refine gx_get S hK hw t_1 cl_8 2 (by decide) rfl mw_131 rfl dX7_addFour_8 ?_
  refine gx_top (v := 0) (by first | rfl | decide | simp [up2, gs0, h_1_2]) ?_
  refine lv_bipush (v := 76) hx hb dX7_addFour_11 (by decide) ?_
  refine lv_icmp_le (tgt := 18) hx hb dX7_addFour_13 (by decide) (fun _ => ?_) (fun h => absurd (by decide) h)
  refine lv_aload_n hx hb dX7_addFour_18 rfl (lv_at hl 0 rfl) ?_
  refine gx_getr (j := 2) S hK hw t_1 cl_8 0 (by decide) rfl mw_129 rfl dX7_addFour_19 ?_
  refine lv_aload_n hx hb dX7_addFour_22 rfl (lv_at hl 0 rfl) ?_
  refine gx_get S hK hw t_1 cl_8 2 (by decide) rfl mw_131 rfl dX7_addFour_23 ?_
  refine gx_top (v := 0) (by first | rfl | decide | simp [up2, gs0, h_1_2]) ?_
  refine lv_iload_n hx hb dX7_addFour_26 rfl (lv_at hl 1 rfl) ?_
  refine lv_bipush (v := 24) hx hb dX7_addFour_27 (by decide) ?_
  refine lv_iushr (v := (v.toUInt32 >>> ((24 : Int32).toUInt32 &&& Int32.toUInt32 31)).toInt32) hx hb dX7_addFour_29 rfl ?_
  refine lv_sipush (v := 255) hx hb dX7_addFour_30 (by decide) ?_
  refine lv_iand hx hb dX7_addFour_33 ?_
  refine gx_iast S hK gx_ok hw t_2 0 rfl (gx_in rfl (by decide) (by decide)) dX7_addFour_34 (fun H locs hw => ?_)
  refine lv_aload_n hx hb dX7_addFour_35 rfl (lv_at hl 0 rfl) ?_
  refine gx_getr (j := 2) S hK hw t_1 cl_8 0 (by decide) rfl mw_129 rfl dX7_addFour_36 ?_
  refine lv_aload_n hx hb dX7_addFour_39 rfl (lv_at hl 0 rfl) ?_
  refine gx_get S hK hw t_1 cl_8 2 (by decide) rfl mw_131 rfl dX7_addFour_40 ?_
  refine gx_top (v := 0) (by first | rfl | decide | simp [up2, gs0, h_1_2]) ?_
  refine lv_iconst (v := 1) hx hb dX7_addFour_43 (by decide) ?_
  refine lv_iadd hx hb dX7_addFour_44 ?_
  refine gx_top (v := 1) (by decide) ?_
  refine lv_iload_n hx hb dX7_addFour_45 rfl (lv_at hl 1 rfl) ?_
  refine lv_bipush (v := 16) hx hb dX7_addFour_46 (by decide) ?_
  refine lv_iushr (v := (v.toUInt32 >>> ((16 : Int32).toUInt32 &&& Int32.toUInt32 31)).toInt32) hx hb dX7_addFour_48 rfl ?_
  refine lv_sipush (v := 255) hx hb dX7_addFour_49 (by decide) ?_
  refine lv_iand hx hb dX7_addFour_52 ?_
  refine gx_iast S hK gx_ok hw t_2 1 rfl (gx_in rfl (by decide) (by decide)) dX7_addFour_53 (fun H locs hw => ?_)
  refine lv_aload_n hx hb dX7_addFour_54 rfl (lv_at hl 0 rfl) ?_
  refine gx_getr (j := 2) S hK hw t_1 cl_8 0 (by decide) rfl mw_129 rfl dX7_addFour_55 ?_
  refine lv_aload_n hx hb dX7_addFour_58 rfl (lv_at hl 0 rfl) ?_
  refine gx_get S hK hw t_1 cl_8 2 (by decide) rfl mw_131 rfl dX7_addFour_59 ?_
  refine gx_top (v := 0) (by first | rfl | decide | simp [up2, gs0, h_1_2]) ?_
  refine lv_iconst (v := 2) hx hb dX7_addFour_62 (by decide) ?_
  refine lv_iadd hx hb dX7_addFour_63 ?_
  refine gx_top (v := 2) (by decide) ?_
  refine lv_iload_n hx hb dX7_addFour_64 rfl (lv_at hl 1 rfl) ?_
  refine lv_bipush (v := 8) hx hb dX7_addFour_65 (by decide) ?_
  refine lv_iushr (v := (v.toUInt32 >>> ((8 : Int32).toUInt32 &&& Int32.toUInt32 31)).toInt32) hx hb dX7_addFour_67 rfl ?_
  refine lv_sipush (v := 255) hx hb dX7_addFour_68 (by decide) ?_
  refine lv_iand hx hb dX7_addFour_71 ?_
  refine gx_iast S hK gx_ok hw t_2 2 rfl (gx_in rfl (by decide) (by decide)) dX7_addFour_72 (fun H locs hw => ?_)
  refine lv_aload_n hx hb dX7_addFour_73 rfl (lv_at hl 0 rfl) ?_
  refine gx_getr (j := 2) S hK hw t_1 cl_8 0 (by decide) rfl mw_129 rfl dX7_addFour_74 ?_
  refine lv_aload_n hx hb dX7_addFour_77 rfl (lv_at hl 0 rfl) ?_
  refine gx_get S hK hw t_1 cl_8 2 (by decide) rfl mw_131 rfl dX7_addFour_78 ?_
  refine gx_top (v := 0) (by first | rfl | decide | simp [up2, gs0, h_1_2]) ?_
  refine lv_iconst (v := 3) hx hb dX7_addFour_81 (by decide) ?_
  refine lv_iadd hx hb dX7_addFour_82 ?_
  refine gx_top (v := 3) (by decide) ?_
  refine lv_iload_n hx hb dX7_addFour_83 rfl (lv_at hl 1 rfl) ?_
  refine lv_sipush (v := 255) hx hb dX7_addFour_84 (by decide) ?_
  refine lv_iand hx hb dX7_addFour_87 ?_
  refine gx_iast S hK gx_ok hw t_2 3 rfl (gx_in rfl (by decide) (by decide)) dX7_addFour_88 (fun H locs hw => ?_)
  refine lv_aload_n hx hb dX7_addFour_89 rfl (lv_at hl 0 rfl) ?_
  refine lv_dup hx hb dX7_addFour_90 rfl ?_
  refine gx_get S hK hw t_1 cl_8 2 (by decide) rfl mw_131 rfl dX7_addFour_91 ?_
  refine gx_top (v := 0) (by first | rfl | decide | simp [up2, gs0, h_1_2]) ?_
  refine lv_iconst (v := 4) hx hb dX7_addFour_94 (by decide) ?_
  refine lv_iadd hx hb dX7_addFour_95 ?_
  refine gx_top (v := 4) (by decide) ?_
  refine gx_put S hK gx_ok hw t_1 cl_8 2 (by decide) rfl mw_131 rfl rfl (ty := .int) (v := 4) (by decide +kernel) rfl rfl dX7_addFour_96 (fun H locs hw => ?_)
  refine lv_iconst (v := 1) hx hb dX7_addFour_99 (by decide) ?_
  exact gx_ri (post := fun r σ1 τ1 => r = 1 ∧ (∀ c k : Nat, ¬ c = 2 → σ1 c k = (up2 σ 1 2 4) c k) ∧ τ1 = τ) (v := 1) S hr hlk hw rfl dX7_addFour_100 ⟨rfl, (fun c9 k9 h9_0 => by simp [up2, upJ, h9_0]), rfl⟩
set_option maxHeartbeats 4000000 in
set_option maxRecDepth 100000 in
theorem c_cut (l : Launch) {E : gE} (σ : gI) (τ : gJ) (n : Int32) (h_1_2 : σ 1 2 = 0) : gx_Mi l yX7_cut cX7_cut 2 (some .boolean) 0 gx_tb E (σ) (τ) [.ref (E.2.2 + 1), .int n] (fun r σ1 τ1 => r = (if n.toInt = 0 then 1 else 0) ∧ (∀ c k : Nat, 199 ≤ c → σ1 c k = (σ) c k) ∧ τ1 = τ) := by
  refine gx_bi (by decide +kernel) (Nat.le_of_ble_eq_true rfl) ?_
  intro P9 e9 s m9 below meth C9 S hr hlk hK hw ls hl
  have S : CallFix P9 m9 C9 cX7_cut 2 s _ gx_G RX7 := S
  have hx := S.1
  have hb := S.2.1
  have hl : lv_has ls 2 [(0, .ref (E.2.2 + 1)), (1, .int n)] := hl
  refine lv_iload_n hx hb dX7_cut_0 rfl (lv_at hl 1 rfl) ?_
  refine lv_if_lt (tgt := 12) hx hb dX7_cut_1 (by decide) (fun c_1 => ?_) (fun c_1 => ?_)
  · refine lv_iconst (v := 0) hx hb dX7_cut_12 (by decide) ?_
    exact gx_ri (post := fun r σ1 τ1 => r = (if n.toInt = 0 then 1 else 0) ∧ (∀ c k : Nat, 199 ≤ c → σ1 c k = (σ) c k) ∧ τ1 = τ) (v := 0) S hr hlk hw rfl dX7_cut_13 ⟨(by simp only [fa_lt, fa_le, fa_eq, show (0 : Int32).toInt = 0 from rfl] at c_1; exact ((if_neg (by omega)).trans (rfl)).symm), (fun c9 k9 h9 => rfl), rfl⟩
  · refine lv_iload_n hx hb dX7_cut_4 rfl (lv_at hl 1 rfl) ?_
    refine lv_aload_n hx hb dX7_cut_5 rfl (lv_at hl 0 rfl) ?_
    refine gx_get S hK hw t_1 cl_8 2 (by decide) rfl mw_131 rfl dX7_cut_6 ?_
    refine gx_top (v := 0) (by first | rfl | decide | simp [up2, gs0, h_1_2]) ?_
    refine lv_icmp_le (tgt := 14) hx hb dX7_cut_9 (by decide) (fun c_2 => ?_) (fun c_2 => ?_)
    · refine lv_aload_n hx hb dX7_cut_14 rfl (lv_at hl 0 rfl) ?_
      refine lv_iload_n hx hb dX7_cut_15 rfl (lv_at hl 1 rfl) ?_
      refine gx_put S hK gx_ok hw t_1 cl_8 2 (by decide) rfl mw_131 rfl rfl (ty := .int) (v := n) (by decide +kernel) rfl rfl dX7_cut_16 (fun H locs hw => ?_)
      refine lv_iconst (v := 1) hx hb dX7_cut_19 (by decide) ?_
      exact gx_ri (post := fun r σ1 τ1 => r = (if n.toInt = 0 then 1 else 0) ∧ (∀ c k : Nat, 199 ≤ c → σ1 c k = (σ) c k) ∧ τ1 = τ) (v := 1) S hr hlk hw rfl dX7_cut_20 ⟨(by simp only [fa_lt, fa_le, fa_eq, show (0 : Int32).toInt = 0 from rfl] at c_1 c_2; exact (if_pos (by omega)).symm), (fun c9 k9 h9 => (up2_hi (by omega) h9).trans (rfl)), rfl⟩
    · refine lv_iconst (v := 0) hx hb dX7_cut_12 (by decide) ?_
      exact gx_ri (post := fun r σ1 τ1 => r = (if n.toInt = 0 then 1 else 0) ∧ (∀ c k : Nat, 199 ≤ c → σ1 c k = (σ) c k) ∧ τ1 = τ) (v := 0) S hr hlk hw rfl dX7_cut_13 ⟨(by simp only [fa_lt, fa_le, fa_eq, show (0 : Int32).toInt = 0 from rfl] at c_1 c_2; exact ((if_neg (by omega)).trans (rfl)).symm), (fun c9 k9 h9 => rfl), rfl⟩
set_option maxHeartbeats 4000000 in
set_option maxRecDepth 100000 in
theorem c_cut0 (l : Launch) {E : gE} (σ : gI) (τ : gJ)  (h_1_2 : σ 1 2 = 0) : gx_Mi l yX7_cut cX7_cut 2 (some .boolean) 0 gx_tb E (σ) (τ) [.ref (E.2.2 + 1), .int 0] (fun r σ1 τ1 => r = 1 ∧ σ1 = up2 σ 1 2 0 ∧ τ1 = τ) := by
  refine gx_bi (by decide +kernel) (Nat.le_of_ble_eq_true rfl) ?_
  intro P9 e9 s m9 below meth C9 S hr hlk hK hw ls hl
  have S : CallFix P9 m9 C9 cX7_cut 2 s _ gx_G RX7 := S
  have hx := S.1
  have hb := S.2.1
  have hl : lv_has ls 2 [(0, .ref (E.2.2 + 1)), (1, .int 0)] := hl
  refine lv_iload_n hx hb dX7_cut_0 rfl (lv_at hl 1 rfl) ?_
  refine lv_if_lt (tgt := 12) hx hb dX7_cut_1 (by decide) (fun h => absurd h (by decide)) (fun _ => ?_)
  refine lv_iload_n hx hb dX7_cut_4 rfl (lv_at hl 1 rfl) ?_
  refine lv_aload_n hx hb dX7_cut_5 rfl (lv_at hl 0 rfl) ?_
  refine gx_get S hK hw t_1 cl_8 2 (by decide) rfl mw_131 rfl dX7_cut_6 ?_
  refine gx_top (v := 0) (by first | rfl | decide | simp [up2, gs0, h_1_2]) ?_
  refine lv_icmp_le (tgt := 14) hx hb dX7_cut_9 (by decide) (fun _ => ?_) (fun h => absurd (by decide) h)
  refine lv_aload_n hx hb dX7_cut_14 rfl (lv_at hl 0 rfl) ?_
  refine lv_iload_n hx hb dX7_cut_15 rfl (lv_at hl 1 rfl) ?_
  refine gx_put S hK gx_ok hw t_1 cl_8 2 (by decide) rfl mw_131 rfl rfl (ty := .int) (v := 0) (by decide +kernel) rfl rfl dX7_cut_16 (fun H locs hw => ?_)
  refine lv_iconst (v := 1) hx hb dX7_cut_19 (by decide) ?_
  exact gx_ri (post := fun r σ1 τ1 => r = 1 ∧ σ1 = up2 σ 1 2 0 ∧ τ1 = τ) (v := 1) S hr hlk hw rfl dX7_cut_20 ⟨rfl, (by first | rfl | simp [up2, upJ]), rfl⟩
set_option maxHeartbeats 4000000 in
set_option maxRecDepth 100000 in
theorem c_show (l : Launch) {E : gE} (σ : gI) (τ : gJ) (v : Int32) (h_1_2 : σ 1 2 = 0) : gx_Mv l yX7_showAtMost cX7_showAtMost 2 none 1 gx_tb E (σ) (τ) [.ref (E.2.2 + 1), .int v] (fun σ1 τ1 => (∀ c k : Nat, ¬ (c = 1 ∧ k = 1) → σ1 c k = (σ) c k) ∧ τ1 = τ) := by
  refine gx_bv (by decide +kernel) (Nat.le_of_ble_eq_true rfl) ?_
  intro P9 e9 s m9 below meth C9 S hr hlk hK hw ls hl
  have S : CallFix P9 m9 C9 cX7_showAtMost 2 s _ gx_G RX7 := S
  have hx := S.1
  have hb := S.2.1
  have hl : lv_has ls 2 [(0, .ref (E.2.2 + 1)), (1, .int v)] := hl
  refine lv_aload_n hx hb dX7_showAtMost_0 rfl (lv_at hl 0 rfl) ?_
  refine lv_iload_n hx hb dX7_showAtMost_1 rfl (lv_at hl 1 rfl) ?_
  refine lv_aload_n hx hb dX7_showAtMost_2 rfl (lv_at hl 0 rfl) ?_
  refine gx_get S hK hw t_1 cl_8 2 (by decide) rfl mw_131 rfl dX7_showAtMost_3 ?_
  refine gx_top (v := 0) (by first | rfl | decide | simp [up2, gs0, h_1_2]) ?_
  refine gx_min (w := if 0 < v then 0 else v) S hl.1 mw_528 mw_529 mw_102 mw_530 ⟨Nat.le_of_ble_eq_true rfl, Nat.le_of_ble_eq_true rfl⟩ ⟨Nat.le_of_ble_eq_true rfl, Nat.le_of_ble_eq_true rfl⟩ dX7_showAtMost_6 rfl ?_
  refine gx_put S hK gx_ok hw t_1 cl_8 1 (by decide) rfl mw_130 rfl rfl (ty := .int) (v := if 0 < v then 0 else v) (by decide +kernel) rfl rfl dX7_showAtMost_9 (fun H locs hw => ?_)
  exact gx_rv (post := fun σ1 τ1 => (∀ c k : Nat, ¬ (c = 1 ∧ k = 1) → σ1 c k = (σ) c k) ∧ τ1 = τ) S hr hlk hw dX7_showAtMost_12 ⟨(fun c9 k9 h9_0 => by simp [up2, upJ, h9_0]), rfl⟩
set_option maxHeartbeats 4000000 in
set_option maxRecDepth 100000 in
theorem c_isOver (l : Launch) {E : gE} (σ : gI) (τ : gJ)  (h_1_2 : σ 1 2 = 0) : gx_Mi l yX7_isOver cX7_isOver 2 (some .boolean) 0 gx_tb E (σ) (τ) [.ref (E.2.2 + 1), .int 0] (fun r σ1 τ1 => r = 1 ∧ σ1 = σ ∧ τ1 = τ) := by
  refine gx_bi (by decide +kernel) (Nat.le_of_ble_eq_true rfl) ?_
  intro P9 e9 s m9 below meth C9 S hr hlk hK hw ls hl
  have S : CallFix P9 m9 C9 cX7_isOver 2 s _ gx_G RX7 := S
  have hx := S.1
  have hb := S.2.1
  have hl : lv_has ls 2 [(0, .ref (E.2.2 + 1)), (1, .int 0)] := hl
  refine lv_iload_n hx hb dX7_isOver_0 rfl (lv_at hl 1 rfl) ?_
  refine lv_aload_n hx hb dX7_isOver_1 rfl (lv_at hl 0 rfl) ?_
  refine gx_get S hK hw t_1 cl_8 2 (by decide) rfl mw_131 rfl dX7_isOver_2 ?_
  refine gx_top (v := 0) (by first | rfl | decide | simp [up2, gs0, h_1_2]) ?_
  refine lv_icmp_lt (tgt := 12) hx hb dX7_isOver_5 (by decide) (fun h => absurd h (by decide)) (fun _ => ?_)
  refine lv_iconst (v := 1) hx hb dX7_isOver_8 (by decide) ?_
  refine lv_goto (tgt := 13) hx hb dX7_isOver_9 (by decide) ?_
  exact gx_ri (post := fun r σ1 τ1 => r = 1 ∧ σ1 = σ ∧ τ1 = τ) (v := 1) S hr hlk hw rfl dX7_isOver_13 ⟨rfl, rfl, rfl⟩
set_option maxHeartbeats 4000000 in
set_option maxRecDepth 100000 in
theorem c_Town_clear (l : Launch) {E : gE} (σ : gI) (τ : gJ)   : gx_Mv l yX8_clear cX8_clear 2 none 0 gx_tb E (σ) (τ) [.ref (E.2.2 + 9)] (fun σ1 τ1 => (∀ c k : Nat, ¬ c = 9 → ¬ c = 14 → σ1 c k = (σ) c k) ∧ τ1 = τ) := by
  refine gx_bv (by decide +kernel) (Nat.le_of_ble_eq_true rfl) ?_
  intro P9 e9 s m9 below meth C9 S hr hlk hK hw ls hl
  have S : CallFix P9 m9 C9 cX8_clear 2 s _ gx_G RX8 := S
  have hx := S.1
  have hb := S.2.1
  have hl : lv_has ls 2 [(0, .ref (E.2.2 + 9))] := hl
  refine lv_aload_n hx hb dX8_clear_0 rfl (lv_at hl 0 rfl) ?_
  refine lv_iconst (v := 0) hx hb dX8_clear_1 (by decide) ?_
  refine gx_put S hK gx_ok hw t_9 cl_9 6 (by decide) rfl mw_154 rfl rfl (ty := .int) (v := 0) (by decide +kernel) rfl rfl dX8_clear_2 (fun H locs hw => ?_)
  refine lv_aload_n hx hb dX8_clear_5 rfl (lv_at hl 0 rfl) ?_
  refine lv_iconst (v := 0) hx hb dX8_clear_6 (by decide) ?_
  refine gx_put S hK gx_ok hw t_9 cl_9 7 (by decide) rfl mw_156 rfl rfl (ty := .int) (v := 0) (by decide +kernel) rfl rfl dX8_clear_7 (fun H locs hw => ?_)
  refine lv_aload_n hx hb dX8_clear_10 rfl (lv_at hl 0 rfl) ?_
  refine lv_iconst (v := 0) hx hb dX8_clear_11 (by decide) ?_
  refine gx_put S hK gx_ok hw t_9 cl_9 5 (by decide) rfl mw_153 rfl rfl (ty := .int) (v := 0) (by decide +kernel) rfl rfl dX8_clear_12 (fun H locs hw => ?_)
  refine lv_aload_n hx hb dX8_clear_15 rfl (lv_at hl 0 rfl) ?_
  refine lv_iconst (v := 1) hx hb dX8_clear_16 (by decide) ?_
  refine gx_put S hK gx_ok hw t_9 cl_9 8 (by decide) rfl mw_159 rfl rfl (ty := .int) (v := 1) (by decide +kernel) rfl rfl dX8_clear_17 (fun H locs hw => ?_)
  refine lv_iconst (v := 0) hx hb dX8_clear_20 (by decide) ?_
  refine lv_istore_n (lv' := [(1, .int 0), (0, .ref (E.2.2 + 9))]) hx hb dX8_clear_21 rfl hl (by decide) rfl (fun ls hl => ?_)
  have loop_1 : ∀ (n1 : Nat) (i : Nat) (σ1 : gI) (H : Heap) (locs : List Loc) (ls : Array Slot), 12 - i < n1 → (i ≤ 12) → (∀ c k : Nat, ¬ c = 9 → ¬ c = 14 → σ1 c k = (σ) c k) → gx_W gx_tb (gx_tb).length E s (σ1) (τ) H locs → lv_has ls 2 [(0, .ref (E.2.2 + 9)), (1, .int (nI i))] → W P9 l e9 (gx_rm 0) s m9 ([.ref (E.2.2 + 9)] : List Value).toArray below meth C9 H locs 0 0 (MQ below (va_Qv (fun (u : gI × gJ) => (fun σ1 τ1 => (∀ c k : Nat, ¬ c = 9 → ¬ c = 14 → σ1 c k = (σ) c k) ∧ τ1 = τ) u.1 u.2) (fun u t => gx_P gx_tb E u.1 u.2 t.heap) (gx_A (gx_tb).length E.2.2 s.heap.size)) ([.ref (E.2.2 + 9)] : List Value).toArray s 0 0 (gx_A (gx_tb).length E.2.2 s.heap.size)) (F0 m9 22 ls []) := by
    intro n1
    induction n1 with
    | zero => intro i σ1 H locs ls hmz; exact absurd hmz (Nat.not_lt_zero _)
    | succ n1 ih_1 =>
      intro i σ1 H locs ls hmz hi hs_1 hw hl
      refine lv_iload_n hx hb dX8_clear_22 rfl (lv_at hl 1 rfl) ?_
      refine lv_bipush (v := 12) hx hb dX8_clear_23 (by decide) ?_
      refine lv_icmp_ge (tgt := 41) hx hb dX8_clear_25 (by decide) (fun c_2 => ?_) (fun c_2 => ?_)
      · exact gx_rv (post := fun σ1 τ1 => (∀ c k : Nat, ¬ c = 9 → ¬ c = 14 → σ1 c k = (σ) c k) ∧ τ1 = τ) S hr hlk hw dX8_clear_41 ⟨(fun c9 k9 h9_0 h9_1 => by simp [up2, upJ, h9_0, h9_1, hs_1]), rfl⟩
      · have hlt : i < 12 := gx_ilt (k := 12) rfl (by omega) c_2
        refine lv_aload_n hx hb dX8_clear_28 rfl (lv_at hl 0 rfl) ?_
        refine gx_getr (j := 14) S hK hw t_9 cl_9 4 (by decide) rfl mw_152 rfl dX8_clear_29 ?_
        refine lv_iload_n hx hb dX8_clear_32 rfl (lv_at hl 1 rfl) ?_
        refine lv_iconst (v := (-1)) hx hb dX8_clear_33 (by decide) ?_
        refine gx_iast S hK gx_ok hw t_14 i (nI_clamp (by omega)) (vp_in_nI (by omega) (by omega)) dX8_clear_34 (fun H locs hw => ?_)
        refine lv_iinc (v := nI (i + 1)) (lv' := [(1, .int (nI (i + 1))), (0, .ref (E.2.2 + 9))]) hx hb dX8_clear_35 hl (k := 1) rfl (nI_1 _) (by decide) rfl (fun ls hl => ?_)
        refine lv_goto (tgt := 22) hx hb dX8_clear_38 (by decide) ?_
        exact ih_1 (i + 1) (up2 (σ1) 14 i (-1)) _ _ _ (by omega) (by omega) (fun c9 k9 h9_0 h9_1 => by simp [up2, upJ, h9_0, h9_1, hs_1]) hw (lv_sub hl [1, 0] rfl)
  exact loop_1 (12 + 1) 0 (up2 (up2 (up2 (up2 (σ) 9 6 0) 9 7 0) 9 5 0) 9 8 1) _ _ _ (by omega) (by omega) (fun c9 k9 h9_0 h9_1 => by simp [up2, upJ, h9_0, h9_1]) hw (lv_sub hl [1, 0] rfl)
set_option maxHeartbeats 4000000 in
set_option maxRecDepth 100000 in
theorem c_Town_read (l : Launch) {E : gE} (σ : gI) (τ : gJ)  (h_1_2 : σ 1 2 = 0) : gx_Mi l yX8_read cX8_read 5 (some .int) 2 gx_tb E (σ) (τ) [.ref (E.2.2 + 9), .ref (E.2.2 + 1)] (fun r σ1 τ1 => r = 0 ∧ (∀ c k : Nat, ¬ c = 9 → ¬ c = 14 → ¬ (c = 1 ∧ k = 1) → σ1 c k = (σ) c k) ∧ τ1 = τ) := by
  refine gx_bi (by decide +kernel) (Nat.le_of_ble_eq_true rfl) ?_
  intro P9 e9 s m9 below meth C9 S hr hlk hK hw ls hl
  have S : CallFix P9 m9 C9 cX8_read 5 s _ gx_G RX8 := S
  have hx := S.1
  have hb := S.2.1
  have hl : lv_has ls 5 [(0, .ref (E.2.2 + 9)), (1, .ref (E.2.2 + 1))] := hl
  refine lv_aload_n hx hb dX8_read_0 rfl (lv_at hl 0 rfl) ?_
  refine gx_cVv (As := []) (rest := []) S hK gx_ok hw (c_Town_clear l (E := E) (σ) (τ) ) cw_X8_40 t_9 cl_9 ⟨Nat.le_of_ble_eq_true rfl, Nat.le_of_ble_eq_true rfl⟩ rfl hl.1 rfl (Nat.le_of_ble_eq_true rfl) ⟨Nat.le_of_ble_eq_true rfl, Nat.le_of_ble_eq_true rfl⟩ dX8_read_1 (fun σ_1 τ_1 H locs hp hw => ?_)
  obtain ⟨hs_1, et_1⟩ := hp
  obtain rfl := et_1.symm
  refine lv_aload_n hx hb dX8_read_4 rfl (lv_at hl 1 rfl) ?_
  refine lv_bipush (v := 76) hx hb dX8_read_5 (by decide) ?_
  refine gx_cVv (As := [.int 76]) (rest := []) S hK gx_ok hw (c_show l (E := E) (σ_1) (τ) 76 (by first | rfl | decide | simp [up2, gs0, h_1_2, hs_1])) cw_X8_43 t_1 cl_8 ⟨Nat.le_of_ble_eq_true rfl, Nat.le_of_ble_eq_true rfl⟩ rfl hl.1 rfl (Nat.le_of_ble_eq_true rfl) ⟨Nat.le_of_ble_eq_true rfl, Nat.le_of_ble_eq_true rfl⟩ dX8_read_7 (fun σ_2 τ_2 H locs hp hw => ?_)
  obtain ⟨hs_2, et_2⟩ := hp
  obtain rfl := et_2.symm
  refine lv_aload_n hx hb dX8_read_10 rfl (lv_at hl 1 rfl) ?_
  refine lv_iconst (v := 0) hx hb dX8_read_11 (by decide) ?_
  refine gx_cVi (As := [.int 0]) (rest := []) S hK gx_ok hw (c_isOver l (E := E) (σ_2) (τ) (by first | rfl | decide | simp [up2, gs0, h_1_2, hs_1, hs_2])) cw_X8_49 t_1 cl_8 ⟨Nat.le_of_ble_eq_true rfl, Nat.le_of_ble_eq_true rfl⟩ rfl hl.1 rfl (Nat.le_of_ble_eq_true rfl) ⟨Nat.le_of_ble_eq_true rfl, Nat.le_of_ble_eq_true rfl⟩ dX8_read_12 (fun r_3 σ_3 τ_3 H locs hp hw => ?_)
  obtain ⟨er_3, es_3, et_3⟩ := hp
  obtain rfl := er_3.symm
  obtain rfl := es_3.symm
  obtain rfl := et_3.symm
  refine lv_if_eq (tgt := 20) hx hb dX8_read_15 (by decide) (fun h => absurd h (by decide)) (fun _ => ?_)
  refine lv_iconst (v := 0) hx hb dX8_read_18 (by decide) ?_
  exact gx_ri (post := fun r σ1 τ1 => r = 0 ∧ (∀ c k : Nat, ¬ c = 9 → ¬ c = 14 → ¬ (c = 1 ∧ k = 1) → σ1 c k = (σ) c k) ∧ τ1 = τ) (v := 0) S hr hlk hw rfl dX8_read_19 ⟨rfl, (fun c9 k9 h9_0 h9_1 h9_2 => by simp [up2, upJ, h9_0, h9_1, h9_2, hs_1, hs_2]), (by first | rfl | simp [up2, upJ])⟩
set_option maxHeartbeats 4000000 in
set_option maxRecDepth 100000 in
theorem c_Town_copy (l : Launch) {E : gE} (σ : gI) (τ : gJ)   : gx_Mv l yX8_copy cX8_copy 3 none 0 gx_tb E (σ) (τ) [.ref (E.2.2 + 3), .ref (E.2.2 + 9)] (fun σ1 τ1 => (∀ c k : Nat, ¬ c = 3 → ¬ c = 4 → ¬ c = 5 → ¬ c = 6 → ¬ c = 7 → σ1 c k = (σ) c k) ∧ τ1 = τ) := by
  refine gx_bv (by decide +kernel) (Nat.le_of_ble_eq_true rfl) ?_
  intro P9 e9 s m9 below meth C9 S hr hlk hK hw ls hl
  have S : CallFix P9 m9 C9 cX8_copy 3 s _ gx_G RX8 := S
  have hx := S.1
  have hb := S.2.1
  have hl : lv_has ls 3 [(0, .ref (E.2.2 + 3)), (1, .ref (E.2.2 + 9))] := hl
  refine lv_aload_n hx hb dX8_copy_0 rfl (lv_at hl 0 rfl) ?_
  refine lv_aload_n hx hb dX8_copy_1 rfl (lv_at hl 1 rfl) ?_
  refine gx_get S hK hw t_9 cl_9 6 (by decide) rfl mw_154 rfl dX8_copy_2 ?_
  refine gx_put S hK gx_ok hw t_3 cl_9 6 (by decide) rfl mw_154 rfl rfl (ty := .int) (v := (σ) 9 6) (by decide +kernel) rfl rfl dX8_copy_5 (fun H locs hw => ?_)
  refine lv_aload_n hx hb dX8_copy_8 rfl (lv_at hl 0 rfl) ?_
  refine lv_aload_n hx hb dX8_copy_9 rfl (lv_at hl 1 rfl) ?_
  refine gx_get S hK hw t_9 cl_9 7 (by decide) rfl mw_156 rfl dX8_copy_10 ?_
  refine gx_put S hK gx_ok hw t_3 cl_9 7 (by decide) rfl mw_156 rfl rfl (ty := .int) (v := (up2 (σ) 3 6 ((σ) 9 6)) 9 7) (by decide +kernel) rfl rfl dX8_copy_13 (fun H locs hw => ?_)
  refine lv_aload_n hx hb dX8_copy_16 rfl (lv_at hl 0 rfl) ?_
  refine lv_aload_n hx hb dX8_copy_17 rfl (lv_at hl 1 rfl) ?_
  refine gx_get S hK hw t_9 cl_9 5 (by decide) rfl mw_153 rfl dX8_copy_18 ?_
  refine gx_put S hK gx_ok hw t_3 cl_9 5 (by decide) rfl mw_153 rfl rfl (ty := .int) (v := (up2 (up2 (σ) 3 6 ((σ) 9 6)) 3 7 ((up2 (σ) 3 6 ((σ) 9 6)) 9 7)) 9 5) (by decide +kernel) rfl rfl dX8_copy_21 (fun H locs hw => ?_)
  refine lv_aload_n hx hb dX8_copy_24 rfl (lv_at hl 0 rfl) ?_
  refine lv_aload_n hx hb dX8_copy_25 rfl (lv_at hl 1 rfl) ?_
  refine gx_get S hK hw t_9 cl_9 8 (by decide) rfl mw_159 rfl dX8_copy_26 ?_
  refine gx_put S hK gx_ok hw t_3 cl_9 8 (by decide) rfl mw_159 rfl rfl (ty := .int) (v := (up2 (up2 (up2 (σ) 3 6 ((σ) 9 6)) 3 7 ((up2 (σ) 3 6 ((σ) 9 6)) 9 7)) 3 5 ((up2 (up2 (σ) 3 6 ((σ) 9 6)) 3 7 ((up2 (σ) 3 6 ((σ) 9 6)) 9 7)) 9 5)) 9 8) (by decide +kernel) rfl rfl dX8_copy_29 (fun H locs hw => ?_)
  refine lv_iconst (v := 0) hx hb dX8_copy_32 (by decide) ?_
  refine lv_istore_n (lv' := [(2, .int 0), (0, .ref (E.2.2 + 3)), (1, .ref (E.2.2 + 9))]) hx hb dX8_copy_33 rfl hl (by decide) rfl (fun ls hl => ?_)
  have loop_1 : ∀ (n1 : Nat) (i : Nat) (σ1 : gI) (H : Heap) (locs : List Loc) (ls : Array Slot), 12 - i < n1 → (i ≤ 12) → (∀ c k : Nat, ¬ c = 3 → ¬ c = 4 → ¬ c = 5 → ¬ c = 6 → ¬ c = 7 → σ1 c k = (σ) c k) → gx_W gx_tb (gx_tb).length E s (σ1) (τ) H locs → lv_has ls 3 [(0, .ref (E.2.2 + 3)), (1, .ref (E.2.2 + 9)), (2, .int (nI i))] → W P9 l e9 (gx_rm 0) s m9 ([.ref (E.2.2 + 3), .ref (E.2.2 + 9)] : List Value).toArray below meth C9 H locs 0 0 (MQ below (va_Qv (fun (u : gI × gJ) => (fun σ1 τ1 => (∀ c k : Nat, ¬ c = 3 → ¬ c = 4 → ¬ c = 5 → ¬ c = 6 → ¬ c = 7 → σ1 c k = (σ) c k) ∧ τ1 = τ) u.1 u.2) (fun u t => gx_P gx_tb E u.1 u.2 t.heap) (gx_A (gx_tb).length E.2.2 s.heap.size)) ([.ref (E.2.2 + 3), .ref (E.2.2 + 9)] : List Value).toArray s 0 0 (gx_A (gx_tb).length E.2.2 s.heap.size)) (F0 m9 34 ls []) := by
    intro n1
    induction n1 with
    | zero => intro i σ1 H locs ls hmz; exact absurd hmz (Nat.not_lt_zero _)
    | succ n1 ih_1 =>
      intro i σ1 H locs ls hmz hi hs_1 hw hl
      refine lv_iload_n hx hb dX8_copy_34 rfl (lv_at hl 2 rfl) ?_
      refine lv_bipush (v := 12) hx hb dX8_copy_35 (by decide) ?_
      refine lv_icmp_ge (tgt := 94) hx hb dX8_copy_37 (by decide) (fun c_2 => ?_) (fun c_2 => ?_)
      · exact gx_rv (post := fun σ1 τ1 => (∀ c k : Nat, ¬ c = 3 → ¬ c = 4 → ¬ c = 5 → ¬ c = 6 → ¬ c = 7 → σ1 c k = (σ) c k) ∧ τ1 = τ) S hr hlk hw dX8_copy_94 ⟨(fun c9 k9 h9_0 h9_1 h9_2 h9_3 h9_4 => by simp [up2, upJ, h9_0, h9_1, h9_2, h9_3, h9_4, hs_1]), rfl⟩
      · have hlt : i < 12 := gx_ilt (k := 12) rfl (by omega) c_2
        refine lv_aload_n hx hb dX8_copy_40 rfl (lv_at hl 0 rfl) ?_
        refine gx_getr (j := 4) S hK hw t_3 cl_9 0 (by decide) rfl mw_148 rfl dX8_copy_41 ?_
        refine lv_iload_n hx hb dX8_copy_44 rfl (lv_at hl 2 rfl) ?_
        refine lv_aload_n hx hb dX8_copy_45 rfl (lv_at hl 1 rfl) ?_
        refine gx_getr (j := 10) S hK hw t_9 cl_9 0 (by decide) rfl mw_148 rfl dX8_copy_46 ?_
        refine lv_iload_n hx hb dX8_copy_49 rfl (lv_at hl 2 rfl) ?_
        refine gx_iald S hK hw t_10 i (nI_clamp (by omega)) (vp_in_nI (by omega) (by omega)) dX8_copy_50 ?_
        refine gx_iast S hK gx_ok hw t_4 i (nI_clamp (by omega)) (vp_in_nI (by omega) (by omega)) dX8_copy_51 (fun H locs hw => ?_)
        refine lv_aload_n hx hb dX8_copy_52 rfl (lv_at hl 0 rfl) ?_
        refine gx_getr (j := 5) S hK hw t_3 cl_9 1 (by decide) rfl mw_149 rfl dX8_copy_53 ?_
        refine lv_iload_n hx hb dX8_copy_56 rfl (lv_at hl 2 rfl) ?_
        refine lv_aload_n hx hb dX8_copy_57 rfl (lv_at hl 1 rfl) ?_
        refine gx_getr (j := 11) S hK hw t_9 cl_9 1 (by decide) rfl mw_149 rfl dX8_copy_58 ?_
        refine lv_iload_n hx hb dX8_copy_61 rfl (lv_at hl 2 rfl) ?_
        refine gx_iald S hK hw t_11 i (nI_clamp (by omega)) (vp_in_nI (by omega) (by omega)) dX8_copy_62 ?_
        refine gx_iast S hK gx_ok hw t_5 i (nI_clamp (by omega)) (vp_in_nI (by omega) (by omega)) dX8_copy_63 (fun H locs hw => ?_)
        refine lv_aload_n hx hb dX8_copy_64 rfl (lv_at hl 0 rfl) ?_
        refine gx_getr (j := 6) S hK hw t_3 cl_9 2 (by decide) rfl mw_150 rfl dX8_copy_65 ?_
        refine lv_iload_n hx hb dX8_copy_68 rfl (lv_at hl 2 rfl) ?_
        refine lv_aload_n hx hb dX8_copy_69 rfl (lv_at hl 1 rfl) ?_
        refine gx_getr (j := 12) S hK hw t_9 cl_9 2 (by decide) rfl mw_150 rfl dX8_copy_70 ?_
        refine lv_iload_n hx hb dX8_copy_73 rfl (lv_at hl 2 rfl) ?_
        refine gx_iald S hK hw t_12 i (nI_clamp (by omega)) (vp_in_nI (by omega) (by omega)) dX8_copy_74 ?_
        refine gx_iast S hK gx_ok hw t_6 i (nI_clamp (by omega)) (vp_in_nI (by omega) (by omega)) dX8_copy_75 (fun H locs hw => ?_)
        refine lv_aload_n hx hb dX8_copy_76 rfl (lv_at hl 0 rfl) ?_
        refine gx_getr (j := 7) S hK hw t_3 cl_9 3 (by decide) rfl mw_151 rfl dX8_copy_77 ?_
        refine lv_iload_n hx hb dX8_copy_80 rfl (lv_at hl 2 rfl) ?_
        refine lv_aload_n hx hb dX8_copy_81 rfl (lv_at hl 1 rfl) ?_
        refine gx_getr (j := 13) S hK hw t_9 cl_9 3 (by decide) rfl mw_151 rfl dX8_copy_82 ?_
        refine lv_iload_n hx hb dX8_copy_85 rfl (lv_at hl 2 rfl) ?_
        refine gx_iald S hK hw t_13 i (nI_clamp (by omega)) (vp_in_nI (by omega) (by omega)) dX8_copy_86 ?_
        refine gx_iast S hK gx_ok hw t_7 i (nI_clamp (by omega)) (vp_in_nI (by omega) (by omega)) dX8_copy_87 (fun H locs hw => ?_)
        refine lv_iinc (v := nI (i + 1)) (lv' := [(2, .int (nI (i + 1))), (0, .ref (E.2.2 + 3)), (1, .ref (E.2.2 + 9))]) hx hb dX8_copy_88 hl (k := 2) rfl (nI_1 _) (by decide) rfl (fun ls hl => ?_)
        refine lv_goto (tgt := 34) hx hb dX8_copy_91 (by decide) ?_
        exact ih_1 (i + 1) (up2 (up2 (up2 (up2 (σ1) 4 i ((σ1) 10 i)) 5 i ((up2 (σ1) 4 i ((σ1) 10 i)) 11 i)) 6 i ((up2 (up2 (σ1) 4 i ((σ1) 10 i)) 5 i ((up2 (σ1) 4 i ((σ1) 10 i)) 11 i)) 12 i)) 7 i ((up2 (up2 (up2 (σ1) 4 i ((σ1) 10 i)) 5 i ((up2 (σ1) 4 i ((σ1) 10 i)) 11 i)) 6 i ((up2 (up2 (σ1) 4 i ((σ1) 10 i)) 5 i ((up2 (σ1) 4 i ((σ1) 10 i)) 11 i)) 12 i)) 13 i)) _ _ _ (by omega) (by omega) (fun c9 k9 h9_0 h9_1 h9_2 h9_3 h9_4 => by simp [up2, upJ, h9_0, h9_1, h9_2, h9_3, h9_4, hs_1]) hw (lv_sub hl [1, 2, 0] rfl)
  exact loop_1 (12 + 1) 0 (up2 (up2 (up2 (up2 (σ) 3 6 ((σ) 9 6)) 3 7 ((up2 (σ) 3 6 ((σ) 9 6)) 9 7)) 3 5 ((up2 (up2 (σ) 3 6 ((σ) 9 6)) 3 7 ((up2 (σ) 3 6 ((σ) 9 6)) 9 7)) 9 5)) 3 8 ((up2 (up2 (up2 (σ) 3 6 ((σ) 9 6)) 3 7 ((up2 (σ) 3 6 ((σ) 9 6)) 9 7)) 3 5 ((up2 (up2 (σ) 3 6 ((σ) 9 6)) 3 7 ((up2 (σ) 3 6 ((σ) 9 6)) 9 7)) 9 5)) 9 8)) _ _ _ (by omega) (by omega) (fun c9 k9 h9_0 h9_1 h9_2 h9_3 h9_4 => by simp [up2, upJ, h9_0, h9_1, h9_2, h9_3, h9_4]) hw (lv_sub hl [1, 2, 0] rfl)
set_option maxHeartbeats 4000000 in
set_option maxRecDepth 100000 in
theorem c_Town_has (l : Launch) {E : gE} (σ : gI) (τ : gJ) (p : Int32) (h_3_6 : σ 3 6 = 0) : gx_Mi l yX8_has cX8_has 2 (some .boolean) 0 gx_tb E (σ) (τ) [.ref (E.2.2 + 3), .int p] (fun r σ1 τ1 => r = 0 ∧ σ1 = σ ∧ τ1 = τ) := by
  refine gx_bi (by decide +kernel) (Nat.le_of_ble_eq_true rfl) ?_
  intro P9 e9 s m9 below meth C9 S hr hlk hK hw ls hl
  have S : CallFix P9 m9 C9 cX8_has 2 s _ gx_G RX8 := S
  have hx := S.1
  have hb := S.2.1
  have hl : lv_has ls 2 [(0, .ref (E.2.2 + 3)), (1, .int p)] := hl
  refine lv_iload_n hx hb dX8_has_0 rfl (lv_at hl 1 rfl) ?_
  refine lv_if_lt (tgt := 16) hx hb dX8_has_1 (by decide) (fun c_1 => ?_) (fun c_1 => ?_)
  · refine lv_iconst (v := 0) hx hb dX8_has_16 (by decide) ?_
    exact gx_ri (post := fun r σ1 τ1 => r = 0 ∧ σ1 = σ ∧ τ1 = τ) (v := 0) S hr hlk hw rfl dX8_has_17 ⟨rfl, rfl, rfl⟩
  · refine lv_iload_n hx hb dX8_has_4 rfl (lv_at hl 1 rfl) ?_
    refine lv_aload_n hx hb dX8_has_5 rfl (lv_at hl 0 rfl) ?_
    refine gx_get S hK hw t_3 cl_9 6 (by decide) rfl mw_154 rfl dX8_has_6 ?_
    refine gx_top (v := 0) (by first | rfl | decide | simp [up2, gs0, h_3_6]) ?_
    refine lv_icmp_ge (tgt := 16) hx hb dX8_has_9 (by decide) (fun c_2 => ?_) (fun c_2 => ?_)
    · refine lv_iconst (v := 0) hx hb dX8_has_16 (by decide) ?_
      exact gx_ri (post := fun r σ1 τ1 => r = 0 ∧ σ1 = σ ∧ τ1 = τ) (v := 0) S hr hlk hw rfl dX8_has_17 ⟨rfl, rfl, rfl⟩
    · refine lv_iconst (v := 1) hx hb dX8_has_12 (by decide) ?_
      refine lv_goto (tgt := 17) hx hb dX8_has_13 (by decide) ?_
      exact gx_ri (post := fun r σ1 τ1 => r = 0 ∧ σ1 = σ ∧ τ1 = τ) (v := 1) S hr hlk hw rfl dX8_has_17 ⟨(by exfalso; simp only [fa_lt, fa_le, fa_eq, show (0 : Int32).toInt = 0 from rfl] at c_1 c_2; omega), rfl, rfl⟩
set_option maxHeartbeats 4000000 in
set_option maxRecDepth 100000 in
theorem c_Town_isFork (l : Launch) {E : gE} (σ : gI) (τ : gJ) (p : Int32) (h_3_7 : σ 3 7 = 0) : gx_Mi l yX8_isFork cX8_isFork 2 (some .boolean) 0 gx_tb E (σ) (τ) [.ref (E.2.2 + 3), .int p] (fun r σ1 τ1 => r = 0 ∧ σ1 = σ ∧ τ1 = τ) := by
  refine gx_bi (by decide +kernel) (Nat.le_of_ble_eq_true rfl) ?_
  intro P9 e9 s m9 below meth C9 S hr hlk hK hw ls hl
  have S : CallFix P9 m9 C9 cX8_isFork 2 s _ gx_G RX8 := S
  have hx := S.1
  have hb := S.2.1
  have hl : lv_has ls 2 [(0, .ref (E.2.2 + 3)), (1, .int p)] := hl
  refine lv_iload_n hx hb dX8_isFork_0 rfl (lv_at hl 1 rfl) ?_
  refine lv_if_lt (tgt := 25) hx hb dX8_isFork_1 (by decide) (fun c_1 => ?_) (fun c_1 => ?_)
  · refine lv_iconst (v := 0) hx hb dX8_isFork_25 (by decide) ?_
    exact gx_ri (post := fun r σ1 τ1 => r = 0 ∧ σ1 = σ ∧ τ1 = τ) (v := 0) S hr hlk hw rfl dX8_isFork_26 ⟨rfl, rfl, rfl⟩
  · refine lv_iload_n hx hb dX8_isFork_4 rfl (lv_at hl 1 rfl) ?_
    refine lv_bipush (v := 12) hx hb dX8_isFork_5 (by decide) ?_
    refine lv_icmp_ge (tgt := 25) hx hb dX8_isFork_7 (by decide) (fun c_2 => ?_) (fun c_2 => ?_)
    · refine lv_iconst (v := 0) hx hb dX8_isFork_25 (by decide) ?_
      exact gx_ri (post := fun r σ1 τ1 => r = 0 ∧ σ1 = σ ∧ τ1 = τ) (v := 0) S hr hlk hw rfl dX8_isFork_26 ⟨rfl, rfl, rfl⟩
    · refine lv_aload_n hx hb dX8_isFork_10 rfl (lv_at hl 0 rfl) ?_
      refine gx_get S hK hw t_3 cl_9 7 (by decide) rfl mw_156 rfl dX8_isFork_11 ?_
      refine gx_top (v := 0) (by first | rfl | decide | simp [up2, gs0, h_3_7]) ?_
      refine lv_iload_n hx hb dX8_isFork_14 rfl (lv_at hl 1 rfl) ?_
      refine lv_ishr hx hb dX8_isFork_15 ?_
      refine gx_top (v := 0) (by exact gx_0shr _) ?_
      refine lv_iconst (v := 1) hx hb dX8_isFork_16 (by decide) ?_
      refine lv_iand hx hb dX8_isFork_17 ?_
      refine gx_top (v := 0) (by decide) ?_
      refine lv_if_eq (tgt := 25) hx hb dX8_isFork_18 (by decide) (fun _ => ?_) (fun h => absurd (by decide) h)
      refine lv_iconst (v := 0) hx hb dX8_isFork_25 (by decide) ?_
      exact gx_ri (post := fun r σ1 τ1 => r = 0 ∧ σ1 = σ ∧ τ1 = τ) (v := 0) S hr hlk hw rfl dX8_isFork_26 ⟨rfl, rfl, rfl⟩
set_option maxHeartbeats 4000000 in
set_option maxRecDepth 100000 in
theorem c_Town_isKitchen (l : Launch) {E : gE} (σ : gI) (τ : gJ) (p : Int32) (h_3_5 : σ 3 5 = 0) : gx_Mi l yX8_isKitchen cX8_isKitchen 2 (some .boolean) 0 gx_tb E (σ) (τ) [.ref (E.2.2 + 3), .int p] (fun r σ1 τ1 => r = 0 ∧ σ1 = σ ∧ τ1 = τ) := by
  refine gx_bi (by decide +kernel) (Nat.le_of_ble_eq_true rfl) ?_
  intro P9 e9 s m9 below meth C9 S hr hlk hK hw ls hl
  have S : CallFix P9 m9 C9 cX8_isKitchen 2 s _ gx_G RX8 := S
  have hx := S.1
  have hb := S.2.1
  have hl : lv_has ls 2 [(0, .ref (E.2.2 + 3)), (1, .int p)] := hl
  refine lv_iload_n hx hb dX8_isKitchen_0 rfl (lv_at hl 1 rfl) ?_
  refine lv_if_lt (tgt := 25) hx hb dX8_isKitchen_1 (by decide) (fun c_1 => ?_) (fun c_1 => ?_)
  · refine lv_iconst (v := 0) hx hb dX8_isKitchen_25 (by decide) ?_
    exact gx_ri (post := fun r σ1 τ1 => r = 0 ∧ σ1 = σ ∧ τ1 = τ) (v := 0) S hr hlk hw rfl dX8_isKitchen_26 ⟨rfl, rfl, rfl⟩
  · refine lv_iload_n hx hb dX8_isKitchen_4 rfl (lv_at hl 1 rfl) ?_
    refine lv_bipush (v := 12) hx hb dX8_isKitchen_5 (by decide) ?_
    refine lv_icmp_ge (tgt := 25) hx hb dX8_isKitchen_7 (by decide) (fun c_2 => ?_) (fun c_2 => ?_)
    · refine lv_iconst (v := 0) hx hb dX8_isKitchen_25 (by decide) ?_
      exact gx_ri (post := fun r σ1 τ1 => r = 0 ∧ σ1 = σ ∧ τ1 = τ) (v := 0) S hr hlk hw rfl dX8_isKitchen_26 ⟨rfl, rfl, rfl⟩
    · refine lv_aload_n hx hb dX8_isKitchen_10 rfl (lv_at hl 0 rfl) ?_
      refine gx_get S hK hw t_3 cl_9 5 (by decide) rfl mw_153 rfl dX8_isKitchen_11 ?_
      refine gx_top (v := 0) (by first | rfl | decide | simp [up2, gs0, h_3_5]) ?_
      refine lv_iload_n hx hb dX8_isKitchen_14 rfl (lv_at hl 1 rfl) ?_
      refine lv_ishr hx hb dX8_isKitchen_15 ?_
      refine gx_top (v := 0) (by exact gx_0shr _) ?_
      refine lv_iconst (v := 1) hx hb dX8_isKitchen_16 (by decide) ?_
      refine lv_iand hx hb dX8_isKitchen_17 ?_
      refine gx_top (v := 0) (by decide) ?_
      refine lv_if_eq (tgt := 25) hx hb dX8_isKitchen_18 (by decide) (fun _ => ?_) (fun h => absurd (by decide) h)
      refine lv_iconst (v := 0) hx hb dX8_isKitchen_25 (by decide) ?_
      exact gx_ri (post := fun r σ1 τ1 => r = 0 ∧ σ1 = σ ∧ τ1 = τ) (v := 0) S hr hlk hw rfl dX8_isKitchen_26 ⟨rfl, rfl, rfl⟩
set_option maxHeartbeats 4000000 in
set_option maxRecDepth 100000 in
theorem c_Town_nextSet (l : Launch) {E : gE} (σ : gI) (τ : gJ)  (h_3_7 : σ 3 7 = 0) : gx_Mi l yX8_nextSet cX8_nextSet 2 (some .int) 0 gx_tb E (σ) (τ) [.ref (E.2.2 + 3), .int 0] (fun r σ1 τ1 => r = 0 ∧ σ1 = σ ∧ τ1 = τ) := by
  refine gx_bi (by decide +kernel) (Nat.le_of_ble_eq_true rfl) ?_
  intro P9 e9 s m9 below meth C9 S hr hlk hK hw ls hl
  have S : CallFix P9 m9 C9 cX8_nextSet 2 s _ gx_G RX8 := S
  have hx := S.1
  have hb := S.2.1
  have hl : lv_has ls 2 [(0, .ref (E.2.2 + 3)), (1, .int 0)] := hl
  refine lv_iload_n hx hb dX8_nextSet_0 rfl (lv_at hl 1 rfl) ?_
  refine lv_aload_n hx hb dX8_nextSet_1 rfl (lv_at hl 0 rfl) ?_
  refine gx_get S hK hw t_3 cl_9 7 (by decide) rfl mw_156 rfl dX8_nextSet_2 ?_
  refine gx_top (v := 0) (by first | rfl | decide | simp [up2, gs0, h_3_7]) ?_
  refine lv_isub hx hb dX8_nextSet_5 ?_
  refine gx_top (v := 0) (by decide) ?_
  refine lv_aload_n hx hb dX8_nextSet_6 rfl (lv_at hl 0 rfl) ?_
  refine gx_get S hK hw t_3 cl_9 7 (by decide) rfl mw_156 rfl dX8_nextSet_7 ?_
  refine gx_top (v := 0) (by first | rfl | decide | simp [up2, gs0, h_3_7]) ?_
  refine lv_iand hx hb dX8_nextSet_10 ?_
  refine gx_top (v := 0) (by decide) ?_
  exact gx_ri (post := fun r σ1 τ1 => r = 0 ∧ σ1 = σ ∧ τ1 = τ) (v := 0) S hr hlk hw rfl dX8_nextSet_11 ⟨rfl, rfl, rfl⟩
set_option maxHeartbeats 4000000 in
set_option maxRecDepth 100000 in
theorem c_Water_in (l : Launch) {E : gE} (σ : gI) (τ : gJ) (m1 : Int32) (h_15_1 : σ 15 1 = 0) : gx_Mi l yX10_in cX10_in 2 (some .int) 0 gx_tb E (σ) (τ) [.ref (E.2.2 + 15), .int m1] (fun r σ1 τ1 => r = 1 ∧ σ1 = σ ∧ τ1 = τ) := by
  refine gx_bi (by decide +kernel) (Nat.le_of_ble_eq_true rfl) ?_
  intro P9 e9 s m9 below meth C9 S hr hlk hK hw ls hl
  have S : CallFix P9 m9 C9 cX10_in 2 s _ gx_G RX10 := S
  have hx := S.1
  have hb := S.2.1
  have hl : lv_has ls 2 [(0, .ref (E.2.2 + 15)), (1, .int m1)] := hl
  refine lv_aload_n hx hb dX10_in_0 rfl (lv_at hl 0 rfl) ?_
  refine gx_get S hK hw t_15 cl_11 1 (by decide) rfl mw_188 rfl dX10_in_1 ?_
  refine gx_top (v := 0) (by first | rfl | decide | simp [up2, gs0, h_15_1]) ?_
  refine lv_if_le (tgt := 20) hx hb dX10_in_4 (by decide) (fun _ => ?_) (fun h => absurd (by decide) h)
  refine lv_iconst (v := 1) hx hb dX10_in_20 (by decide) ?_
  exact gx_ri (post := fun r σ1 τ1 => r = 1 ∧ σ1 = σ ∧ τ1 = τ) (v := 1) S hr hlk hw rfl dX10_in_21 ⟨rfl, rfl, rfl⟩
set_option maxHeartbeats 4000000 in
set_option maxRecDepth 100000 in
theorem c_Water_read (l : Launch) {E : gE} (σ : gI) (τ : gJ)  (h_1_2 : σ 1 2 = 0) : gx_Mi l yX10_read cX10_read 4 (some .int) 2 gx_tb E (σ) (τ) [.ref (E.2.2 + 15), .ref (E.2.2 + 1)] (fun r σ1 τ1 => r = 0 ∧ (∀ c k : Nat, ¬ (c = 1 ∧ k = 1) → ¬ c = 15 → σ1 c k = (σ) c k) ∧ τ1 = τ) := by
  refine gx_bi (by decide +kernel) (Nat.le_of_ble_eq_true rfl) ?_
  intro P9 e9 s m9 below meth C9 S hr hlk hK hw ls hl
  have S : CallFix P9 m9 C9 cX10_read 4 s _ gx_G RX10 := S
  have hx := S.1
  have hb := S.2.1
  have hl : lv_has ls 4 [(0, .ref (E.2.2 + 15)), (1, .ref (E.2.2 + 1))] := hl
  refine lv_aload_n hx hb dX10_read_0 rfl (lv_at hl 1 rfl) ?_
  refine lv_bipush (v := 40) hx hb dX10_read_1 (by decide) ?_
  refine gx_cVv (As := [.int 40]) (rest := []) S hK gx_ok hw (c_show l (E := E) (σ) (τ) 40 (by first | rfl | decide | simp [up2, gs0, h_1_2])) cw_X10_19 t_1 cl_8 ⟨Nat.le_of_ble_eq_true rfl, Nat.le_of_ble_eq_true rfl⟩ rfl hl.1 rfl (Nat.le_of_ble_eq_true rfl) ⟨Nat.le_of_ble_eq_true rfl, Nat.le_of_ble_eq_true rfl⟩ dX10_read_3 (fun σ_1 τ_1 H locs hp hw => ?_)
  obtain ⟨hs_1, et_1⟩ := hp
  obtain rfl := et_1.symm
  refine lv_iconst (v := 0) hx hb dX10_read_6 (by decide) ?_
  refine lv_istore_n (lv' := [(2, .int 0), (0, .ref (E.2.2 + 15)), (1, .ref (E.2.2 + 1))]) hx hb dX10_read_7 rfl hl (by decide) rfl (fun ls hl => ?_)
  refine lv_iload_n hx hb dX10_read_8 rfl (lv_at hl 0 rfl) ?_
  refine lv_bipush (v := 40) hx hb dX10_read_9 (by decide) ?_
  refine lv_icmp_gt (tgt := 47) hx hb dX10_read_11 (by decide) (fun h => absurd h (by decide)) (fun _ => ?_)
  refine lv_aload_n hx hb dX10_read_14 rfl (lv_at hl 2 rfl) ?_
  refine lv_iload_n hx hb dX10_read_15 rfl (lv_at hl 0 rfl) ?_
  refine gx_cVi (As := [.int 0]) (rest := []) S hK gx_ok hw (c_isOver l (E := E) (σ_1) (τ) (by first | rfl | decide | simp [up2, gs0, h_1_2, hs_1])) cw_X10_25 t_1 cl_8 ⟨Nat.le_of_ble_eq_true rfl, Nat.le_of_ble_eq_true rfl⟩ rfl hl.1 rfl (Nat.le_of_ble_eq_true rfl) ⟨Nat.le_of_ble_eq_true rfl, Nat.le_of_ble_eq_true rfl⟩ dX10_read_16 (fun r_2 σ_2 τ_2 H locs hp hw => ?_)
  obtain ⟨er_2, es_2, et_2⟩ := hp
  obtain rfl := er_2.symm
  obtain rfl := es_2.symm
  obtain rfl := et_2.symm
  refine lv_if_ne (tgt := 47) hx hb dX10_read_19 (by decide) (fun _ => ?_) (fun h => absurd h (by decide))
  refine lv_aload_n hx hb dX10_read_47 rfl (lv_at hl 1 rfl) ?_
  refine lv_aload_n hx hb dX10_read_48 rfl (lv_at hl 2 rfl) ?_
  refine gx_get S hK hw t_1 cl_8 2 (by decide) rfl mw_133 rfl dX10_read_49 ?_
  refine gx_top (v := 0) (by first | rfl | decide | simp [up2, gs0, h_1_2, hs_1]) ?_
  refine lv_bipush (v := 40) hx hb dX10_read_52 (by decide) ?_
  refine gx_min (w := 0) S hl.1 mw_692 mw_529 mw_102 mw_530 ⟨Nat.le_of_ble_eq_true rfl, Nat.le_of_ble_eq_true rfl⟩ ⟨Nat.le_of_ble_eq_true rfl, Nat.le_of_ble_eq_true rfl⟩ dX10_read_54 (by decide) ?_
  refine gx_put S hK gx_ok hw t_15 cl_11 1 (by decide) rfl mw_188 rfl rfl (ty := .int) (v := 0) (by decide +kernel) rfl rfl dX10_read_57 (fun H locs hw => ?_)
  refine lv_iconst (v := 0) hx hb dX10_read_60 (by decide) ?_
  refine lv_istore_n (lv' := [(2, .int 0), (0, .ref (E.2.2 + 15)), (1, .ref (E.2.2 + 1))]) hx hb dX10_read_61 rfl hl (by decide) rfl (fun ls hl => ?_)
  refine lv_iload_n hx hb dX10_read_62 rfl (lv_at hl 0 rfl) ?_
  refine lv_aload_n hx hb dX10_read_63 rfl (lv_at hl 1 rfl) ?_
  refine gx_get S hK hw t_15 cl_11 1 (by decide) rfl mw_188 rfl dX10_read_64 ?_
  refine gx_top (v := 0) (by first | rfl | decide | simp [up2, gs0, h_1_2, hs_1]) ?_
  refine lv_icmp_ge (tgt := 87) hx hb dX10_read_67 (by decide) (fun _ => ?_) (fun h => absurd (by decide) h)
  refine lv_aload_n hx hb dX10_read_87 rfl (lv_at hl 1 rfl) ?_
  refine gx_get S hK hw t_15 cl_11 1 (by decide) rfl mw_188 rfl dX10_read_88 ?_
  refine gx_top (v := 0) (by first | rfl | decide | simp [up2, gs0, h_1_2, hs_1]) ?_
  exact gx_ri (post := fun r σ1 τ1 => r = 0 ∧ (∀ c k : Nat, ¬ (c = 1 ∧ k = 1) → ¬ c = 15 → σ1 c k = (σ) c k) ∧ τ1 = τ) (v := 0) S hr hlk hw rfl dX10_read_91 ⟨rfl, (fun c9 k9 h9_0 h9_1 => by simp [up2, upJ, h9_0, h9_1, hs_1]), (by first | rfl | simp [up2, upJ])⟩
set_option maxHeartbeats 4000000 in
set_option maxRecDepth 100000 in
theorem c_Rule_clear (l : Launch) {E : gE} (σ : gI) (τ : gJ)   : gx_Mv l yX5_clear cX5_clear 1 none 0 gx_tb E (σ) (τ) [.ref (E.2.2 + 21)] (fun σ1 τ1 => σ1 = up2 (up2 (up2 (up2 (up2 (up2 (up2 (up2 (σ) 21 3 0) 21 4 0) 21 5 0) 21 6 0) 21 7 0) 21 8 1) 21 9 0) 21 10 0 ∧ τ1 = τ) := by
  refine gx_bv (by decide +kernel) (Nat.le_of_ble_eq_true rfl) ?_
  intro P9 e9 s m9 below meth C9 S hr hlk hK hw ls hl
  have S : CallFix P9 m9 C9 cX5_clear 1 s _ gx_G RX5 := S
  have hx := S.1
  have hb := S.2.1
  have hl : lv_has ls 1 [(0, .ref (E.2.2 + 21))] := hl
  refine lv_aload_n hx hb dX5_clear_0 rfl (lv_at hl 0 rfl) ?_
  refine lv_iconst (v := 0) hx hb dX5_clear_1 (by decide) ?_
  refine gx_put S hK gx_ok hw t_21 cl_6 3 (by decide) rfl mw_203 rfl rfl (ty := .int) (v := 0) (by decide +kernel) rfl rfl dX5_clear_2 (fun H locs hw => ?_)
  refine lv_aload_n hx hb dX5_clear_5 rfl (lv_at hl 0 rfl) ?_
  refine lv_iconst (v := 0) hx hb dX5_clear_6 (by decide) ?_
  refine gx_put S hK gx_ok hw t_21 cl_6 4 (by decide) rfl mw_204 rfl rfl (ty := .int) (v := 0) (by decide +kernel) rfl rfl dX5_clear_7 (fun H locs hw => ?_)
  refine lv_aload_n hx hb dX5_clear_10 rfl (lv_at hl 0 rfl) ?_
  refine lv_iconst (v := 0) hx hb dX5_clear_11 (by decide) ?_
  refine gx_put S hK gx_ok hw t_21 cl_6 5 (by decide) rfl mw_205 rfl rfl (ty := .int) (v := 0) (by decide +kernel) rfl rfl dX5_clear_12 (fun H locs hw => ?_)
  refine lv_aload_n hx hb dX5_clear_15 rfl (lv_at hl 0 rfl) ?_
  refine lv_iconst (v := 0) hx hb dX5_clear_16 (by decide) ?_
  refine gx_put S hK gx_ok hw t_21 cl_6 6 (by decide) rfl mw_206 rfl rfl (ty := .int) (v := 0) (by decide +kernel) rfl rfl dX5_clear_17 (fun H locs hw => ?_)
  refine lv_aload_n hx hb dX5_clear_20 rfl (lv_at hl 0 rfl) ?_
  refine lv_iconst (v := 0) hx hb dX5_clear_21 (by decide) ?_
  refine gx_put S hK gx_ok hw t_21 cl_6 7 (by decide) rfl mw_207 rfl rfl (ty := .int) (v := 0) (by decide +kernel) rfl rfl dX5_clear_22 (fun H locs hw => ?_)
  refine lv_aload_n hx hb dX5_clear_25 rfl (lv_at hl 0 rfl) ?_
  refine lv_iconst (v := 1) hx hb dX5_clear_26 (by decide) ?_
  refine gx_put S hK gx_ok hw t_21 cl_6 8 (by decide) rfl mw_208 rfl rfl (ty := .boolean) (v := 1) (by decide +kernel) rfl rfl dX5_clear_27 (fun H locs hw => ?_)
  refine lv_aload_n hx hb dX5_clear_30 rfl (lv_at hl 0 rfl) ?_
  refine lv_iconst (v := 0) hx hb dX5_clear_31 (by decide) ?_
  refine gx_put S hK gx_ok hw t_21 cl_6 9 (by decide) rfl mw_209 rfl rfl (ty := .boolean) (v := 0) (by decide +kernel) rfl rfl dX5_clear_32 (fun H locs hw => ?_)
  refine lv_aload_n hx hb dX5_clear_35 rfl (lv_at hl 0 rfl) ?_
  refine lv_iconst (v := 0) hx hb dX5_clear_36 (by decide) ?_
  refine gx_put S hK gx_ok hw t_21 cl_6 10 (by decide) rfl mw_212 rfl rfl (ty := .boolean) (v := 0) (by decide +kernel) rfl rfl dX5_clear_37 (fun H locs hw => ?_)
  exact gx_rv (post := fun σ1 τ1 => σ1 = up2 (up2 (up2 (up2 (up2 (up2 (up2 (up2 (σ) 21 3 0) 21 4 0) 21 5 0) 21 6 0) 21 7 0) 21 8 1) 21 9 0) 21 10 0 ∧ τ1 = τ) S hr hlk hw dX5_clear_40 ⟨rfl, rfl⟩
set_option maxHeartbeats 4000000 in
set_option maxRecDepth 100000 in
theorem c_Rule_addStep (l : Launch) {E : gE} (σ : gI) (τ : gJ)  (h_21_3 : σ 21 3 = 0) : gx_Mv l yX5_addStep cX5_addStep 2 none 0 gx_tb E (σ) (τ) [.ref (E.2.2 + 21), .int 0] (fun σ1 τ1 => (∀ c k : Nat, ¬ c = 22 → σ1 c k = (up2 σ 21 3 1) c k) ∧ τ1 = τ) := by
  refine gx_bv (by decide +kernel) (Nat.le_of_ble_eq_true rfl) ?_
  intro P9 e9 s m9 below meth C9 S hr hlk hK hw ls hl
  have S : CallFix P9 m9 C9 cX5_addStep 2 s _ gx_G RX5 := S
  have hx := S.1
  have hb := S.2.1
  have hl : lv_has ls 2 [(0, .ref (E.2.2 + 21)), (1, .int 0)] := hl
  refine lv_aload_n hx hb dX5_addStep_0 rfl (lv_at hl 0 rfl) ?_
  refine gx_get S hK hw t_21 cl_6 3 (by decide) rfl mw_203 rfl dX5_addStep_1 ?_
  refine gx_top (v := 0) (by first | rfl | decide | simp [up2, gs0, h_21_3]) ?_
  refine lv_if_lt (tgt := 36) hx hb dX5_addStep_4 (by decide) (fun h => absurd h (by decide)) (fun _ => ?_)
  refine lv_aload_n hx hb dX5_addStep_7 rfl (lv_at hl 0 rfl) ?_
  refine gx_get S hK hw t_21 cl_6 3 (by decide) rfl mw_203 rfl dX5_addStep_8 ?_
  refine gx_top (v := 0) (by first | rfl | decide | simp [up2, gs0, h_21_3]) ?_
  refine lv_bipush (v := 40) hx hb dX5_addStep_11 (by decide) ?_
  refine lv_icmp_ge (tgt := 36) hx hb dX5_addStep_13 (by decide) (fun h => absurd h (by decide)) (fun _ => ?_)
  refine lv_aload_n hx hb dX5_addStep_16 rfl (lv_at hl 0 rfl) ?_
  refine gx_getr (j := 22) S hK hw t_21 cl_6 0 (by decide) rfl mw_200 rfl dX5_addStep_17 ?_
  refine lv_aload_n hx hb dX5_addStep_20 rfl (lv_at hl 0 rfl) ?_
  refine gx_get S hK hw t_21 cl_6 3 (by decide) rfl mw_203 rfl dX5_addStep_21 ?_
  refine gx_top (v := 0) (by first | rfl | decide | simp [up2, gs0, h_21_3]) ?_
  refine lv_iload_n hx hb dX5_addStep_24 rfl (lv_at hl 1 rfl) ?_
  refine gx_iast S hK gx_ok hw t_22 0 rfl (gx_in rfl (by decide) (by decide)) dX5_addStep_25 (fun H locs hw => ?_)
  refine lv_aload_n hx hb dX5_addStep_26 rfl (lv_at hl 0 rfl) ?_
  refine lv_dup hx hb dX5_addStep_27 rfl ?_
  refine gx_get S hK hw t_21 cl_6 3 (by decide) rfl mw_203 rfl dX5_addStep_28 ?_
  refine gx_top (v := 0) (by first | rfl | decide | simp [up2, gs0, h_21_3]) ?_
  refine lv_iconst (v := 1) hx hb dX5_addStep_31 (by decide) ?_
  refine lv_iadd hx hb dX5_addStep_32 ?_
  refine gx_top (v := 1) (by decide) ?_
  refine gx_put S hK gx_ok hw t_21 cl_6 3 (by decide) rfl mw_203 rfl rfl (ty := .int) (v := 1) (by decide +kernel) rfl rfl dX5_addStep_33 (fun H locs hw => ?_)
  exact gx_rv (post := fun σ1 τ1 => (∀ c k : Nat, ¬ c = 22 → σ1 c k = (up2 σ 21 3 1) c k) ∧ τ1 = τ) S hr hlk hw dX5_addStep_36 ⟨(fun c9 k9 h9_0 => by simp [up2, upJ, h9_0]), rfl⟩
set_option maxHeartbeats 4000000 in
set_option maxRecDepth 100000 in
theorem c_Rule_addFact (l : Launch) {E : gE} (σ : gI) (τ : gJ)  (h_21_3 : σ 21 3 = 0) (h_21_9 : σ 21 9 = 0) (h_21_10 : σ 21 10 = 0) : gx_Mv l yX5_addFact cX5_addFact 2 none 1 gx_tb E (σ) (τ) [.ref (E.2.2 + 21), .int 0] (fun σ1 τ1 => (∀ c k : Nat, ¬ c = 22 → σ1 c k = (up2 (up2 (up2 (up2 (up2 (σ) 21 9 1) 21 10 0) 21 3 1) 21 7 3) 21 8 0) c k) ∧ τ1 = τ) := by
  refine gx_bv (by decide +kernel) (Nat.le_of_ble_eq_true rfl) ?_
  intro P9 e9 s m9 below meth C9 S hr hlk hK hw ls hl
  have S : CallFix P9 m9 C9 cX5_addFact 2 s _ gx_G RX5 := S
  have hx := S.1
  have hb := S.2.1
  have hl : lv_has ls 2 [(0, .ref (E.2.2 + 21)), (1, .int 0)] := hl
  refine lv_aload_n hx hb dX5_addFact_0 rfl (lv_at hl 0 rfl) ?_
  refine lv_dup hx hb dX5_addFact_1 rfl ?_
  refine gx_get S hK hw t_21 cl_6 9 (by decide) rfl mw_209 rfl dX5_addFact_2 ?_
  refine gx_top (v := 0) (by first | rfl | decide | simp [up2, gs0, h_21_3, h_21_9, h_21_10]) ?_
  refine lv_iload_n hx hb dX5_addFact_5 rfl (lv_at hl 1 rfl) ?_
  refine lv_if_ne (tgt := 13) hx hb dX5_addFact_6 (by decide) (fun h => absurd (by decide) h) (fun _ => ?_)
  refine lv_iconst (v := 1) hx hb dX5_addFact_9 (by decide) ?_
  refine lv_goto (tgt := 14) hx hb dX5_addFact_10 (by decide) ?_
  refine lv_ior hx hb dX5_addFact_14 ?_
  refine gx_top (v := 1) (by decide) ?_
  refine gx_put S hK gx_ok hw t_21 cl_6 9 (by decide) rfl mw_209 rfl rfl (ty := .boolean) (v := 1) (by decide +kernel) rfl rfl dX5_addFact_15 (fun H locs hw => ?_)
  refine lv_aload_n hx hb dX5_addFact_18 rfl (lv_at hl 0 rfl) ?_
  refine lv_dup hx hb dX5_addFact_19 rfl ?_
  refine gx_get S hK hw t_21 cl_6 10 (by decide) rfl mw_212 rfl dX5_addFact_20 ?_
  refine gx_top (v := 0) (by first | rfl | decide | simp [up2, gs0, h_21_3, h_21_9, h_21_10]) ?_
  refine lv_iload_n hx hb dX5_addFact_23 rfl (lv_at hl 1 rfl) ?_
  refine lv_bipush (v := 6) hx hb dX5_addFact_24 (by decide) ?_
  refine lv_icmp_ne (tgt := 33) hx hb dX5_addFact_26 (by decide) (fun _ => ?_) (fun h => absurd h (by decide))
  refine lv_iconst (v := 0) hx hb dX5_addFact_33 (by decide) ?_
  refine lv_ior hx hb dX5_addFact_34 ?_
  refine gx_top (v := 0) (by decide) ?_
  refine gx_put S hK gx_ok hw t_21 cl_6 10 (by decide) rfl mw_212 rfl rfl (ty := .boolean) (v := 0) (by decide +kernel) rfl rfl dX5_addFact_35 (fun H locs hw => ?_)
  refine lv_aload_n hx hb dX5_addFact_38 rfl (lv_at hl 0 rfl) ?_
  refine lv_iload_n hx hb dX5_addFact_39 rfl (lv_at hl 1 rfl) ?_
  refine gx_cVv (As := [.int 0]) (rest := []) S hK gx_ok hw (c_Rule_addStep l (E := E) (up2 (up2 (σ) 21 9 1) 21 10 0) (τ) (by first | rfl | decide | simp [up2, gs0, h_21_3, h_21_9, h_21_10])) cw_X5_84 t_21 cl_6 ⟨Nat.le_of_ble_eq_true rfl, Nat.le_of_ble_eq_true rfl⟩ rfl hl.1 rfl (Nat.le_of_ble_eq_true rfl) ⟨Nat.le_of_ble_eq_true rfl, Nat.le_of_ble_eq_true rfl⟩ dX5_addFact_40 (fun σ_1 τ_1 H locs hp hw => ?_)
  obtain ⟨hs_1, et_1⟩ := hp
  obtain rfl := et_1.symm
  refine lv_aload_n hx hb dX5_addFact_43 rfl (lv_at hl 0 rfl) ?_
  refine lv_iconst (v := 3) hx hb dX5_addFact_44 (by decide) ?_
  refine gx_put S hK gx_ok hw t_21 cl_6 7 (by decide) rfl mw_207 rfl rfl (ty := .int) (v := 3) (by decide +kernel) rfl rfl dX5_addFact_45 (fun H locs hw => ?_)
  refine lv_aload_n hx hb dX5_addFact_48 rfl (lv_at hl 0 rfl) ?_
  refine lv_iconst (v := 0) hx hb dX5_addFact_49 (by decide) ?_
  refine gx_put S hK gx_ok hw t_21 cl_6 8 (by decide) rfl mw_208 rfl rfl (ty := .boolean) (v := 0) (by decide +kernel) rfl rfl dX5_addFact_50 (fun H locs hw => ?_)
  exact gx_rv (post := fun σ1 τ1 => (∀ c k : Nat, ¬ c = 22 → σ1 c k = (up2 (up2 (up2 (up2 (up2 (σ) 21 9 1) 21 10 0) 21 3 1) 21 7 3) 21 8 0) c k) ∧ τ1 = τ) S hr hlk hw dX5_addFact_53 ⟨(fun c9 k9 h9_0 => by simp [up2, upJ, h9_0, hs_1]), (by first | rfl | simp [up2, upJ])⟩
set_option maxHeartbeats 4000000 in
set_option maxRecDepth 100000 in
theorem c_Rule_read (l : Launch) {E : gE} (σ : gI) (τ : gJ)  (h_1_2 : σ 1 2 = 0) : gx_Mi l yX5_read cX5_read 4 (some .int) 2 gx_tb E (σ) (τ) [.ref (E.2.2 + 21), .ref (E.2.2 + 1)] (fun r σ1 τ1 => r = 0 ∧ (∀ c k : Nat, ¬ c = 22 → ¬ (c = 1 ∧ k = 1) → σ1 c k = (up2 (up2 (up2 (up2 (up2 (up2 (up2 (up2 (up2 (up2 (up2 (up2 (up2 (σ) 21 3 0) 21 4 0) 21 5 0) 21 6 0) 21 7 0) 21 8 1) 21 9 0) 21 10 0) 21 9 1) 21 10 0) 21 3 1) 21 7 3) 21 8 0) c k) ∧ τ1 = τ) := by
  refine gx_bi (by decide +kernel) (Nat.le_of_ble_eq_true rfl) ?_
  intro P9 e9 s m9 below meth C9 S hr hlk hK hw ls hl
  have S : CallFix P9 m9 C9 cX5_read 4 s _ gx_G RX5 := S
  have hx := S.1
  have hb := S.2.1
  have hl : lv_has ls 4 [(0, .ref (E.2.2 + 21)), (1, .ref (E.2.2 + 1))] := hl
  refine lv_aload_n hx hb dX5_read_0 rfl (lv_at hl 0 rfl) ?_
  refine gx_cVv (As := []) (rest := []) S hK gx_ok hw (c_Rule_clear l (E := E) (σ) (τ) ) cw_X5_30 t_21 cl_6 ⟨Nat.le_of_ble_eq_true rfl, Nat.le_of_ble_eq_true rfl⟩ rfl hl.1 rfl (Nat.le_of_ble_eq_true rfl) ⟨Nat.le_of_ble_eq_true rfl, Nat.le_of_ble_eq_true rfl⟩ dX5_read_1 (fun σ_1 τ_1 H locs hp hw => ?_)
  obtain ⟨es_1, et_1⟩ := hp
  obtain rfl := es_1.symm
  obtain rfl := et_1.symm
  refine lv_aload_n hx hb dX5_read_4 rfl (lv_at hl 1 rfl) ?_
  refine lv_bipush (v := 40) hx hb dX5_read_5 (by decide) ?_
  refine gx_cVv (As := [.int 40]) (rest := []) S hK gx_ok hw (c_show l (E := E) (up2 (up2 (up2 (up2 (up2 (up2 (up2 (up2 ((σ)) 21 3 0) 21 4 0) 21 5 0) 21 6 0) 21 7 0) 21 8 1) 21 9 0) 21 10 0) (τ) 40 (by first | rfl | decide | simp [up2, gs0, h_1_2])) cw_X5_33 t_1 cl_8 ⟨Nat.le_of_ble_eq_true rfl, Nat.le_of_ble_eq_true rfl⟩ rfl hl.1 rfl (Nat.le_of_ble_eq_true rfl) ⟨Nat.le_of_ble_eq_true rfl, Nat.le_of_ble_eq_true rfl⟩ dX5_read_7 (fun σ_2 τ_2 H locs hp hw => ?_)
  obtain ⟨hs_2, et_2⟩ := hp
  obtain rfl := et_2.symm
  refine lv_aload_n hx hb dX5_read_10 rfl (lv_at hl 1 rfl) ?_
  refine lv_iconst (v := 0) hx hb dX5_read_11 (by decide) ?_
  refine gx_cVi (As := [.int 0]) (rest := []) S hK gx_ok hw (c_isOver l (E := E) (σ_2) (τ) (by first | rfl | decide | simp [up2, gs0, h_1_2, hs_2])) cw_X5_39 t_1 cl_8 ⟨Nat.le_of_ble_eq_true rfl, Nat.le_of_ble_eq_true rfl⟩ rfl hl.1 rfl (Nat.le_of_ble_eq_true rfl) ⟨Nat.le_of_ble_eq_true rfl, Nat.le_of_ble_eq_true rfl⟩ dX5_read_12 (fun r_3 σ_3 τ_3 H locs hp hw => ?_)
  obtain ⟨er_3, es_3, et_3⟩ := hp
  obtain rfl := er_3.symm
  obtain rfl := es_3.symm
  obtain rfl := et_3.symm
  refine lv_if_eq (tgt := 25) hx hb dX5_read_15 (by decide) (fun h => absurd h (by decide)) (fun _ => ?_)
  refine lv_aload_n hx hb dX5_read_18 rfl (lv_at hl 0 rfl) ?_
  refine lv_iconst (v := 0) hx hb dX5_read_19 (by decide) ?_
  refine gx_cVv (As := [.int 0]) (rest := []) S hK gx_ok hw (c_Rule_addFact l (E := E) (σ_2) (τ) (by first | rfl | decide | simp [up2, gs0, h_1_2, hs_2]) (by first | rfl | decide | simp [up2, gs0, h_1_2, hs_2]) (by first | rfl | decide | simp [up2, gs0, h_1_2, hs_2])) cw_X5_43 t_21 cl_6 ⟨Nat.le_of_ble_eq_true rfl, Nat.le_of_ble_eq_true rfl⟩ rfl hl.1 rfl (Nat.le_of_ble_eq_true rfl) ⟨Nat.le_of_ble_eq_true rfl, Nat.le_of_ble_eq_true rfl⟩ dX5_read_20 (fun σ_4 τ_4 H locs hp hw => ?_)
  obtain ⟨hs_4, et_4⟩ := hp
  obtain rfl := et_4.symm
  refine lv_iconst (v := 0) hx hb dX5_read_23 (by decide) ?_
  exact gx_ri (post := fun r σ1 τ1 => r = 0 ∧ (∀ c k : Nat, ¬ c = 22 → ¬ (c = 1 ∧ k = 1) → σ1 c k = (up2 (up2 (up2 (up2 (up2 (up2 (up2 (up2 (up2 (up2 (up2 (up2 (up2 (σ) 21 3 0) 21 4 0) 21 5 0) 21 6 0) 21 7 0) 21 8 1) 21 9 0) 21 10 0) 21 9 1) 21 10 0) 21 3 1) 21 7 3) 21 8 0) c k) ∧ τ1 = τ) (v := 0) S hr hlk hw rfl dX5_read_24 ⟨rfl, (fun c9 k9 h9_0 h9_1 => by simp [up2, upJ, h9_0, h9_1, hs_2, hs_4]), (by first | rfl | simp [up2, upJ])⟩
set_option maxHeartbeats 4000000 in
set_option maxRecDepth 100000 in
theorem c_Rule_copy (l : Launch) {E : gE} (σ : gI) (τ : gJ)  (h_21_9 : σ 21 9 = 1) (h_21_10 : σ 21 10 = 0) : gx_Mv l yX5_copy cX5_copy 3 none 0 gx_tb E (σ) (τ) [.ref (E.2.2 + 17), .ref (E.2.2 + 21)] (fun σ1 τ1 => (∀ c k : Nat, ¬ c = 17 → ¬ c = 18 → σ1 c k = (σ) c k) ∧ τ1 = τ) := by
  refine gx_bv (by decide +kernel) (Nat.le_of_ble_eq_true rfl) ?_
  intro P9 e9 s m9 below meth C9 S hr hlk hK hw ls hl
  have S : CallFix P9 m9 C9 cX5_copy 3 s _ gx_G RX5 := S
  have hx := S.1
  have hb := S.2.1
  have hl : lv_has ls 3 [(0, .ref (E.2.2 + 17)), (1, .ref (E.2.2 + 21))] := hl
  refine lv_aload_n hx hb dX5_copy_0 rfl (lv_at hl 0 rfl) ?_
  refine lv_aload_n hx hb dX5_copy_1 rfl (lv_at hl 1 rfl) ?_
  refine gx_get S hK hw t_21 cl_6 3 (by decide) rfl mw_203 rfl dX5_copy_2 ?_
  refine gx_put S hK gx_ok hw t_17 cl_6 3 (by decide) rfl mw_203 rfl rfl (ty := .int) (v := (σ) 21 3) (by decide +kernel) rfl rfl dX5_copy_5 (fun H locs hw => ?_)
  refine lv_aload_n hx hb dX5_copy_8 rfl (lv_at hl 0 rfl) ?_
  refine lv_aload_n hx hb dX5_copy_9 rfl (lv_at hl 1 rfl) ?_
  refine gx_get S hK hw t_21 cl_6 9 (by decide) rfl mw_209 rfl dX5_copy_10 ?_
  refine gx_top (v := 1) (by first | rfl | decide | simp [up2, gs0, h_21_9, h_21_10]) ?_
  refine gx_put S hK gx_ok hw t_17 cl_6 9 (by decide) rfl mw_209 rfl rfl (ty := .boolean) (v := 1) (by decide +kernel) rfl rfl dX5_copy_13 (fun H locs hw => ?_)
  refine lv_aload_n hx hb dX5_copy_16 rfl (lv_at hl 0 rfl) ?_
  refine lv_aload_n hx hb dX5_copy_17 rfl (lv_at hl 1 rfl) ?_
  refine gx_get S hK hw t_21 cl_6 10 (by decide) rfl mw_212 rfl dX5_copy_18 ?_
  refine gx_top (v := 0) (by first | rfl | decide | simp [up2, gs0, h_21_9, h_21_10]) ?_
  refine gx_put S hK gx_ok hw t_17 cl_6 10 (by decide) rfl mw_212 rfl rfl (ty := .boolean) (v := 0) (by decide +kernel) rfl rfl dX5_copy_21 (fun H locs hw => ?_)
  refine lv_iconst (v := 0) hx hb dX5_copy_24 (by decide) ?_
  refine lv_istore_n (lv' := [(2, .int 0), (0, .ref (E.2.2 + 17)), (1, .ref (E.2.2 + 21))]) hx hb dX5_copy_25 rfl hl (by decide) rfl (fun ls hl => ?_)
  have loop_1 : ∀ (n1 : Nat) (i : Nat) (σ1 : gI) (H : Heap) (locs : List Loc) (ls : Array Slot), 40 - i < n1 → (i ≤ 40) → (∀ c k : Nat, ¬ c = 17 → ¬ c = 18 → σ1 c k = (σ) c k) → gx_W gx_tb (gx_tb).length E s (σ1) (τ) H locs → lv_has ls 3 [(0, .ref (E.2.2 + 17)), (1, .ref (E.2.2 + 21)), (2, .int (nI i))] → W P9 l e9 (gx_rm 0) s m9 ([.ref (E.2.2 + 17), .ref (E.2.2 + 21)] : List Value).toArray below meth C9 H locs 0 0 (MQ below (va_Qv (fun (u : gI × gJ) => (fun σ1 τ1 => (∀ c k : Nat, ¬ c = 17 → ¬ c = 18 → σ1 c k = (σ) c k) ∧ τ1 = τ) u.1 u.2) (fun u t => gx_P gx_tb E u.1 u.2 t.heap) (gx_A (gx_tb).length E.2.2 s.heap.size)) ([.ref (E.2.2 + 17), .ref (E.2.2 + 21)] : List Value).toArray s 0 0 (gx_A (gx_tb).length E.2.2 s.heap.size)) (F0 m9 26 ls []) := by
    intro n1
    induction n1 with
    | zero => intro i σ1 H locs ls hmz; exact absurd hmz (Nat.not_lt_zero _)
    | succ n1 ih_1 =>
      intro i σ1 H locs ls hmz hi hs_1 hw hl
      refine lv_iload_n hx hb dX5_copy_26 rfl (lv_at hl 2 rfl) ?_
      refine lv_bipush (v := 40) hx hb dX5_copy_27 (by decide) ?_
      refine lv_icmp_ge (tgt := 50) hx hb dX5_copy_29 (by decide) (fun c_2 => ?_) (fun c_2 => ?_)
      · exact gx_rv (post := fun σ1 τ1 => (∀ c k : Nat, ¬ c = 17 → ¬ c = 18 → σ1 c k = (σ) c k) ∧ τ1 = τ) S hr hlk hw dX5_copy_50 ⟨(fun c9 k9 h9_0 h9_1 => by simp [up2, upJ, h9_0, h9_1, hs_1]), rfl⟩
      · have hlt : i < 40 := gx_ilt (k := 40) rfl (by omega) c_2
        refine lv_aload_n hx hb dX5_copy_32 rfl (lv_at hl 0 rfl) ?_
        refine gx_getr (j := 18) S hK hw t_17 cl_6 0 (by decide) rfl mw_200 rfl dX5_copy_33 ?_
        refine lv_iload_n hx hb dX5_copy_36 rfl (lv_at hl 2 rfl) ?_
        refine lv_aload_n hx hb dX5_copy_37 rfl (lv_at hl 1 rfl) ?_
        refine gx_getr (j := 22) S hK hw t_21 cl_6 0 (by decide) rfl mw_200 rfl dX5_copy_38 ?_
        refine lv_iload_n hx hb dX5_copy_41 rfl (lv_at hl 2 rfl) ?_
        refine gx_iald S hK hw t_22 i (nI_clamp (by omega)) (vp_in_nI (by omega) (by omega)) dX5_copy_42 ?_
        refine gx_iast S hK gx_ok hw t_18 i (nI_clamp (by omega)) (vp_in_nI (by omega) (by omega)) dX5_copy_43 (fun H locs hw => ?_)
        refine lv_iinc (v := nI (i + 1)) (lv' := [(2, .int (nI (i + 1))), (0, .ref (E.2.2 + 17)), (1, .ref (E.2.2 + 21))]) hx hb dX5_copy_44 hl (k := 2) rfl (nI_1 _) (by decide) rfl (fun ls hl => ?_)
        refine lv_goto (tgt := 26) hx hb dX5_copy_47 (by decide) ?_
        exact ih_1 (i + 1) (up2 (σ1) 18 i ((σ1) 22 i)) _ _ _ (by omega) (by omega) (fun c9 k9 h9_0 h9_1 => by simp [up2, upJ, h9_0, h9_1, hs_1]) hw (lv_sub hl [1, 2, 0] rfl)
  exact loop_1 (40 + 1) 0 (up2 (up2 (up2 (σ) 17 3 ((σ) 21 3)) 17 9 1) 17 10 0) _ _ _ (by omega) (by omega) (fun c9 k9 h9_0 h9_1 => by simp [up2, upJ, h9_0, h9_1]) hw (lv_sub hl [1, 2, 0] rfl)
set_option maxHeartbeats 4000000 in
set_option maxRecDepth 100000 in
theorem c_Scene_clear (l : Launch) {E : gE} (σ : gI) (τ : gJ) (c : Nat) (tc : gx_tb[c]? = some (.inl (7, [some (some (c + 1)), some (some (c + 2)), some (some (c + 3)), some (some (c + 4)), some (some (c + 5)), some (some (c + 6)), none, none, none, none, none]))) : gx_Mv l yX6_clear cX6_clear 1 none 0 gx_tb E (σ) (τ) [.ref (E.2.2 + c)] (fun σ1 τ1 => σ1 = up2 (up2 (up2 (up2 (up2 (σ) c 6 0) c 7 0) c 8 0) c 9 0) c 10 0 ∧ τ1 = τ) := by
  refine gx_bv (by decide +kernel) (Nat.le_of_ble_eq_true rfl) ?_
  intro P9 e9 s m9 below meth C9 S hr hlk hK hw ls hl
  have S : CallFix P9 m9 C9 cX6_clear 1 s _ gx_G RX6 := S
  have hx := S.1
  have hb := S.2.1
  have hl : lv_has ls 1 [(0, .ref (E.2.2 + c))] := hl
  refine lv_aload_n hx hb dX6_clear_0 rfl (lv_at hl 0 rfl) ?_
  refine lv_iconst (v := 0) hx hb dX6_clear_1 (by decide) ?_
  refine gx_put S hK gx_ok hw tc cl_7 6 (by decide) rfl mw_270 rfl rfl (ty := .int) (v := 0) (by decide +kernel) rfl rfl dX6_clear_2 (fun H locs hw => ?_)
  refine lv_aload_n hx hb dX6_clear_5 rfl (lv_at hl 0 rfl) ?_
  refine lv_iconst (v := 0) hx hb dX6_clear_6 (by decide) ?_
  refine gx_put S hK gx_ok hw tc cl_7 7 (by decide) rfl mw_273 rfl rfl (ty := .int) (v := 0) (by decide +kernel) rfl rfl dX6_clear_7 (fun H locs hw => ?_)
  refine lv_aload_n hx hb dX6_clear_10 rfl (lv_at hl 0 rfl) ?_
  refine lv_iconst (v := 0) hx hb dX6_clear_11 (by decide) ?_
  refine gx_put S hK gx_ok hw tc cl_7 8 (by decide) rfl mw_277 rfl rfl (ty := .int) (v := 0) (by decide +kernel) rfl rfl dX6_clear_12 (fun H locs hw => ?_)
  refine lv_aload_n hx hb dX6_clear_15 rfl (lv_at hl 0 rfl) ?_
  refine lv_iconst (v := 0) hx hb dX6_clear_16 (by decide) ?_
  refine gx_put S hK gx_ok hw tc cl_7 9 (by decide) rfl mw_281 rfl rfl (ty := .int) (v := 0) (by decide +kernel) rfl rfl dX6_clear_17 (fun H locs hw => ?_)
  refine lv_aload_n hx hb dX6_clear_20 rfl (lv_at hl 0 rfl) ?_
  refine lv_iconst (v := 0) hx hb dX6_clear_21 (by decide) ?_
  refine gx_put S hK gx_ok hw tc cl_7 10 (by decide) rfl mw_284 rfl rfl (ty := .int) (v := 0) (by decide +kernel) rfl rfl dX6_clear_22 (fun H locs hw => ?_)
  exact gx_rv (post := fun σ1 τ1 => σ1 = up2 (up2 (up2 (up2 (up2 (σ) c 6 0) c 7 0) c 8 0) c 9 0) c 10 0 ∧ τ1 = τ) S hr hlk hw dX6_clear_25 ⟨rfl, rfl⟩
set_option maxHeartbeats 4000000 in
set_option maxRecDepth 100000 in
theorem c_Scene_copy (l : Launch) {E : gE} (σ : gI) (τ : gJ) (c d : Nat) (h_d_6 : σ d 6 = 0) (h_d_7 : σ d 7 = 0) (h_d_8 : σ d 8 = 0) (h_d_9 : σ d 9 = 0) (h_d_10 : σ d 10 = 0) (tc : gx_tb[c]? = some (.inl (7, [some (some (c + 1)), some (some (c + 2)), some (some (c + 3)), some (some (c + 4)), some (some (c + 5)), some (some (c + 6)), none, none, none, none, none]))) (td : gx_tb[d]? = some (.inl (7, [some (some (d + 1)), some (some (d + 2)), some (some (d + 3)), some (some (d + 4)), some (some (d + 5)), some (some (d + 6)), none, none, none, none, none]))) (hcd : ¬ c = d) (hdc : ¬ d = c) : gx_Mv l yX6_copy cX6_copy 3 none 0 gx_tb E (σ) (τ) [.ref (E.2.2 + c), .ref (E.2.2 + d)] (fun σ1 τ1 => σ1 = up2 (up2 (up2 (up2 (up2 (σ) c 6 0) c 7 0) c 8 0) c 9 0) c 10 0 ∧ τ1 = τ) := by
  refine gx_bv (by decide +kernel) (Nat.le_of_ble_eq_true rfl) ?_
  intro P9 e9 s m9 below meth C9 S hr hlk hK hw ls hl
  have S : CallFix P9 m9 C9 cX6_copy 3 s _ gx_G RX6 := S
  have hx := S.1
  have hb := S.2.1
  have hl : lv_has ls 3 [(0, .ref (E.2.2 + c)), (1, .ref (E.2.2 + d))] := hl
  refine lv_aload_n hx hb dX6_copy_0 rfl (lv_at hl 0 rfl) ?_
  refine lv_aload_n hx hb dX6_copy_1 rfl (lv_at hl 1 rfl) ?_
  refine gx_get S hK hw td cl_7 6 (by decide) rfl mw_270 rfl dX6_copy_2 ?_
  refine gx_top (v := 0) (by first | rfl | decide | simp [up2, gs0, h_d_6, h_d_7, h_d_8, h_d_9, h_d_10, tc, td, hcd, hdc]) ?_
  refine gx_put S hK gx_ok hw tc cl_7 6 (by decide) rfl mw_270 rfl rfl (ty := .int) (v := 0) (by decide +kernel) rfl rfl dX6_copy_5 (fun H locs hw => ?_)
  refine lv_aload_n hx hb dX6_copy_8 rfl (lv_at hl 0 rfl) ?_
  refine lv_aload_n hx hb dX6_copy_9 rfl (lv_at hl 1 rfl) ?_
  refine gx_get S hK hw td cl_7 7 (by decide) rfl mw_273 rfl dX6_copy_10 ?_
  refine gx_top (v := 0) (by first | rfl | decide | simp [up2, gs0, h_d_6, h_d_7, h_d_8, h_d_9, h_d_10, tc, td, hcd, hdc]) ?_
  refine gx_put S hK gx_ok hw tc cl_7 7 (by decide) rfl mw_273 rfl rfl (ty := .int) (v := 0) (by decide +kernel) rfl rfl dX6_copy_13 (fun H locs hw => ?_)
  refine lv_aload_n hx hb dX6_copy_16 rfl (lv_at hl 0 rfl) ?_
  refine lv_aload_n hx hb dX6_copy_17 rfl (lv_at hl 1 rfl) ?_
  refine gx_get S hK hw td cl_7 8 (by decide) rfl mw_277 rfl dX6_copy_18 ?_
  refine gx_top (v := 0) (by first | rfl | decide | simp [up2, gs0, h_d_6, h_d_7, h_d_8, h_d_9, h_d_10, tc, td, hcd, hdc]) ?_
  refine gx_put S hK gx_ok hw tc cl_7 8 (by decide) rfl mw_277 rfl rfl (ty := .int) (v := 0) (by decide +kernel) rfl rfl dX6_copy_21 (fun H locs hw => ?_)
  refine lv_aload_n hx hb dX6_copy_24 rfl (lv_at hl 0 rfl) ?_
  refine lv_aload_n hx hb dX6_copy_25 rfl (lv_at hl 1 rfl) ?_
  refine gx_get S hK hw td cl_7 9 (by decide) rfl mw_281 rfl dX6_copy_26 ?_
  refine gx_top (v := 0) (by first | rfl | decide | simp [up2, gs0, h_d_6, h_d_7, h_d_8, h_d_9, h_d_10, tc, td, hcd, hdc]) ?_
  refine gx_put S hK gx_ok hw tc cl_7 9 (by decide) rfl mw_281 rfl rfl (ty := .int) (v := 0) (by decide +kernel) rfl rfl dX6_copy_29 (fun H locs hw => ?_)
  refine lv_aload_n hx hb dX6_copy_32 rfl (lv_at hl 0 rfl) ?_
  refine lv_aload_n hx hb dX6_copy_33 rfl (lv_at hl 1 rfl) ?_
  refine gx_get S hK hw td cl_7 10 (by decide) rfl mw_284 rfl dX6_copy_34 ?_
  refine gx_top (v := 0) (by first | rfl | decide | simp [up2, gs0, h_d_6, h_d_7, h_d_8, h_d_9, h_d_10, tc, td, hcd, hdc]) ?_
  refine gx_put S hK gx_ok hw tc cl_7 10 (by decide) rfl mw_284 rfl rfl (ty := .int) (v := 0) (by decide +kernel) rfl rfl dX6_copy_37 (fun H locs hw => ?_)
  refine lv_iconst (v := 0) hx hb dX6_copy_40 (by decide) ?_
  refine lv_istore_n (lv' := [(2, .int 0), (0, .ref (E.2.2 + c)), (1, .ref (E.2.2 + d))]) hx hb dX6_copy_41 rfl hl (by decide) rfl (fun ls hl => ?_)
  refine lv_iload_n hx hb dX6_copy_42 rfl (lv_at hl 0 rfl) ?_
  refine lv_aload_n hx hb dX6_copy_43 rfl (lv_at hl 1 rfl) ?_
  refine gx_get S hK hw tc cl_7 6 (by decide) rfl mw_270 rfl dX6_copy_44 ?_
  refine gx_top (v := 0) (by first | rfl | decide | simp [up2, gs0, h_d_6, h_d_7, h_d_8, h_d_9, h_d_10, tc, td, hcd, hdc]) ?_
  refine lv_icmp_ge (tgt := 134) hx hb dX6_copy_47 (by decide) (fun _ => ?_) (fun h => absurd (by decide) h)
  exact gx_rv (post := fun σ1 τ1 => σ1 = up2 (up2 (up2 (up2 (up2 (σ) c 6 0) c 7 0) c 8 0) c 9 0) c 10 0 ∧ τ1 = τ) S hr hlk hw dX6_copy_134 ⟨rfl, rfl⟩
set_option maxHeartbeats 4000000 in
set_option maxRecDepth 100000 in
theorem c_Scene_has (l : Launch) {E : gE} (σ : gI) (τ : gJ) (c : Nat) (i : Int32) (h_c_6 : σ c 6 = 0) (tc : gx_tb[c]? = some (.inl (7, [some (some (c + 1)), some (some (c + 2)), some (some (c + 3)), some (some (c + 4)), some (some (c + 5)), some (some (c + 6)), none, none, none, none, none]))) : gx_Mi l yX6_has cX6_has 2 (some .boolean) 0 gx_tb E (σ) (τ) [.ref (E.2.2 + c), .int i] (fun r σ1 τ1 => r = 0 ∧ σ1 = σ ∧ τ1 = τ) := by
  refine gx_bi (by decide +kernel) (Nat.le_of_ble_eq_true rfl) ?_
  intro P9 e9 s m9 below meth C9 S hr hlk hK hw ls hl
  have S : CallFix P9 m9 C9 cX6_has 2 s _ gx_G RX6 := S
  have hx := S.1
  have hb := S.2.1
  have hl : lv_has ls 2 [(0, .ref (E.2.2 + c)), (1, .int i)] := hl
  refine lv_iload_n hx hb dX6_has_0 rfl (lv_at hl 1 rfl) ?_
  refine lv_if_lt (tgt := 16) hx hb dX6_has_1 (by decide) (fun c_1 => ?_) (fun c_1 => ?_)
  · refine lv_iconst (v := 0) hx hb dX6_has_16 (by decide) ?_
    exact gx_ri (post := fun r σ1 τ1 => r = 0 ∧ σ1 = σ ∧ τ1 = τ) (v := 0) S hr hlk hw rfl dX6_has_17 ⟨rfl, rfl, rfl⟩
  · refine lv_iload_n hx hb dX6_has_4 rfl (lv_at hl 1 rfl) ?_
    refine lv_aload_n hx hb dX6_has_5 rfl (lv_at hl 0 rfl) ?_
    refine gx_get S hK hw tc cl_7 6 (by decide) rfl mw_270 rfl dX6_has_6 ?_
    refine gx_top (v := 0) (by first | rfl | decide | simp [up2, gs0, h_c_6, tc]) ?_
    refine lv_icmp_ge (tgt := 16) hx hb dX6_has_9 (by decide) (fun c_2 => ?_) (fun c_2 => ?_)
    · refine lv_iconst (v := 0) hx hb dX6_has_16 (by decide) ?_
      exact gx_ri (post := fun r σ1 τ1 => r = 0 ∧ σ1 = σ ∧ τ1 = τ) (v := 0) S hr hlk hw rfl dX6_has_17 ⟨rfl, rfl, rfl⟩
    · refine lv_iconst (v := 1) hx hb dX6_has_12 (by decide) ?_
      refine lv_goto (tgt := 17) hx hb dX6_has_13 (by decide) ?_
      exact gx_ri (post := fun r σ1 τ1 => r = 0 ∧ σ1 = σ ∧ τ1 = τ) (v := 1) S hr hlk hw rfl dX6_has_17 ⟨(by exfalso; simp only [fa_lt, fa_le, fa_eq, show (0 : Int32).toInt = 0 from rfl] at c_1 c_2; omega), rfl, rfl⟩
set_option maxHeartbeats 4000000 in
set_option maxRecDepth 100000 in
theorem c_Scene_isOnWay (l : Launch) {E : gE} (σ : gI) (τ : gJ) (c : Nat) (i : Int32) (h_c_6 : σ c 6 = 0) (tc : gx_tb[c]? = some (.inl (7, [some (some (c + 1)), some (some (c + 2)), some (some (c + 3)), some (some (c + 4)), some (some (c + 5)), some (some (c + 6)), none, none, none, none, none]))) : gx_Mi l yX6_isOnWay cX6_isOnWay 2 (some .boolean) 0 gx_tb E (σ) (τ) [.ref (E.2.2 + c), .int i] (fun r σ1 τ1 => r = 0 ∧ σ1 = σ ∧ τ1 = τ) := by
  refine gx_bi (by decide +kernel) (Nat.le_of_ble_eq_true rfl) ?_
  intro P9 e9 s m9 below meth C9 S hr hlk hK hw ls hl
  have S : CallFix P9 m9 C9 cX6_isOnWay 2 s _ gx_G RX6 := S
  have hx := S.1
  have hb := S.2.1
  have hl : lv_has ls 2 [(0, .ref (E.2.2 + c)), (1, .int i)] := hl
  refine lv_iload_n hx hb dX6_isOnWay_0 rfl (lv_at hl 1 rfl) ?_
  refine lv_if_lt (tgt := 32) hx hb dX6_isOnWay_1 (by decide) (fun c_1 => ?_) (fun c_1 => ?_)
  · refine lv_iconst (v := 0) hx hb dX6_isOnWay_32 (by decide) ?_
    exact gx_ri (post := fun r σ1 τ1 => r = 0 ∧ σ1 = σ ∧ τ1 = τ) (v := 0) S hr hlk hw rfl dX6_isOnWay_33 ⟨rfl, rfl, rfl⟩
  · refine lv_iload_n hx hb dX6_isOnWay_4 rfl (lv_at hl 1 rfl) ?_
    refine lv_aload_n hx hb dX6_isOnWay_5 rfl (lv_at hl 0 rfl) ?_
    refine gx_get S hK hw tc cl_7 6 (by decide) rfl mw_270 rfl dX6_isOnWay_6 ?_
    refine gx_top (v := 0) (by first | rfl | decide | simp [up2, gs0, h_c_6, tc]) ?_
    refine lv_icmp_ge (tgt := 32) hx hb dX6_isOnWay_9 (by decide) (fun c_2 => ?_) (fun c_2 => ?_)
    · refine lv_iconst (v := 0) hx hb dX6_isOnWay_32 (by decide) ?_
      exact gx_ri (post := fun r σ1 τ1 => r = 0 ∧ σ1 = σ ∧ τ1 = τ) (v := 0) S hr hlk hw rfl dX6_isOnWay_33 ⟨rfl, rfl, rfl⟩
    · refine lv_aload_n hx hb dX6_isOnWay_12 rfl (lv_at hl 0 rfl) ?_
      refine gx_get S hK hw tc cl_7 9 (by decide) rfl mw_281 rfl dX6_isOnWay_13 ?_
      refine lv_aload_n hx hb dX6_isOnWay_16 rfl (lv_at hl 0 rfl) ?_
      refine gx_get S hK hw tc cl_7 10 (by decide) rfl mw_284 rfl dX6_isOnWay_17 ?_
      refine lv_ior hx hb dX6_isOnWay_20 ?_
      refine lv_iload_n hx hb dX6_isOnWay_21 rfl (lv_at hl 1 rfl) ?_
      refine lv_ishr hx hb dX6_isOnWay_22 ?_
      refine lv_iconst (v := 1) hx hb dX6_isOnWay_23 (by decide) ?_
      refine lv_iand hx hb dX6_isOnWay_24 ?_
      refine lv_if_ne (tgt := 32) hx hb dX6_isOnWay_25 (by decide) (fun c_3 => ?_) (fun c_3 => ?_)
      · refine lv_iconst (v := 0) hx hb dX6_isOnWay_32 (by decide) ?_
        exact gx_ri (post := fun r σ1 τ1 => r = 0 ∧ σ1 = σ ∧ τ1 = τ) (v := 0) S hr hlk hw rfl dX6_isOnWay_33 ⟨rfl, rfl, rfl⟩
      · refine lv_iconst (v := 1) hx hb dX6_isOnWay_28 (by decide) ?_
        refine lv_goto (tgt := 33) hx hb dX6_isOnWay_29 (by decide) ?_
        exact gx_ri (post := fun r σ1 τ1 => r = 0 ∧ σ1 = σ ∧ τ1 = τ) (v := 1) S hr hlk hw rfl dX6_isOnWay_33 ⟨(by exfalso; simp only [fa_lt, fa_le, fa_eq, show (0 : Int32).toInt = 0 from rfl, show (1 : Int32).toInt = 1 from rfl, show (9 : Int32).toInt = 9 from rfl, show (10 : Int32).toInt = 10 from rfl, show (31 : Int32).toInt = 31 from rfl] at c_1 c_2 c_3; omega), rfl, rfl⟩
set_option maxHeartbeats 4000000 in
set_option maxRecDepth 100000 in
theorem c_Scene_onWay (l : Launch) {E : gE} (σ : gI) (τ : gJ) (c : Nat) (h_c_6 : σ c 6 = 0) (h_c_9 : σ c 9 = 0) (h_c_10 : σ c 10 = 0) (tc : gx_tb[c]? = some (.inl (7, [some (some (c + 1)), some (some (c + 2)), some (some (c + 3)), some (some (c + 4)), some (some (c + 5)), some (some (c + 6)), none, none, none, none, none]))) : gx_Mi l yX6_onWay cX6_onWay 1 (some .int) 0 gx_tb E (σ) (τ) [.ref (E.2.2 + c)] (fun r σ1 τ1 => r = 0 ∧ σ1 = σ ∧ τ1 = τ) := by
  refine gx_bi (by decide +kernel) (Nat.le_of_ble_eq_true rfl) ?_
  intro P9 e9 s m9 below meth C9 S hr hlk hK hw ls hl
  have S : CallFix P9 m9 C9 cX6_onWay 1 s _ gx_G RX6 := S
  have hx := S.1
  have hb := S.2.1
  have hl : lv_has ls 1 [(0, .ref (E.2.2 + c))] := hl
  refine lv_iconst (v := 1) hx hb dX6_onWay_0 (by decide) ?_
  refine lv_aload_n hx hb dX6_onWay_1 rfl (lv_at hl 0 rfl) ?_
  refine gx_get S hK hw tc cl_7 6 (by decide) rfl mw_270 rfl dX6_onWay_2 ?_
  refine gx_top (v := 0) (by first | rfl | decide | simp [up2, gs0, h_c_6, h_c_9, h_c_10, tc]) ?_
  refine lv_ishl hx hb dX6_onWay_5 ?_
  refine gx_top (v := 1) (by decide) ?_
  refine lv_iconst (v := 1) hx hb dX6_onWay_6 (by decide) ?_
  refine lv_isub hx hb dX6_onWay_7 ?_
  refine gx_top (v := 0) (by decide) ?_
  refine lv_aload_n hx hb dX6_onWay_8 rfl (lv_at hl 0 rfl) ?_
  refine gx_get S hK hw tc cl_7 9 (by decide) rfl mw_281 rfl dX6_onWay_9 ?_
  refine gx_top (v := 0) (by first | rfl | decide | simp [up2, gs0, h_c_6, h_c_9, h_c_10, tc]) ?_
  refine lv_aload_n hx hb dX6_onWay_12 rfl (lv_at hl 0 rfl) ?_
  refine gx_get S hK hw tc cl_7 10 (by decide) rfl mw_284 rfl dX6_onWay_13 ?_
  refine gx_top (v := 0) (by first | rfl | decide | simp [up2, gs0, h_c_6, h_c_9, h_c_10, tc]) ?_
  refine lv_ior hx hb dX6_onWay_16 ?_
  refine gx_top (v := 0) (by decide) ?_
  refine lv_iconst (v := (-1)) hx hb dX6_onWay_17 (by decide) ?_
  refine lv_ixor hx hb dX6_onWay_18 ?_
  refine gx_top (v := (-1)) (by decide) ?_
  refine lv_iand hx hb dX6_onWay_19 ?_
  refine gx_top (v := 0) (by decide) ?_
  exact gx_ri (post := fun r σ1 τ1 => r = 0 ∧ σ1 = σ ∧ τ1 = τ) (v := 0) S hr hlk hw rfl dX6_onWay_20 ⟨rfl, rfl, rfl⟩
set_option maxHeartbeats 4000000 in
set_option maxRecDepth 100000 in
theorem c_Scene_holdBack (l : Launch) {E : gE} (σ : gI) (τ : gJ) (c : Nat) (b : Int32) (h_c_6 : σ c 6 = 0) (tc : gx_tb[c]? = some (.inl (7, [some (some (c + 1)), some (some (c + 2)), some (some (c + 3)), some (some (c + 4)), some (some (c + 5)), some (some (c + 6)), none, none, none, none, none]))) : gx_Mv l yX6_holdBack cX6_holdBack 3 none 0 gx_tb E (σ) (τ) [.ref (E.2.2 + c), .int b] (fun σ1 τ1 => σ1 = σ ∧ τ1 = τ) := by
  refine gx_bv (by decide +kernel) (Nat.le_of_ble_eq_true rfl) ?_
  intro P9 e9 s m9 below meth C9 S hr hlk hK hw ls hl
  have S : CallFix P9 m9 C9 cX6_holdBack 3 s _ gx_G RX6 := S
  have hx := S.1
  have hb := S.2.1
  have hl : lv_has ls 3 [(0, .ref (E.2.2 + c)), (1, .int b)] := hl
  refine lv_iconst (v := 0) hx hb dX6_holdBack_0 (by decide) ?_
  refine lv_istore_n (lv' := [(2, .int 0), (0, .ref (E.2.2 + c)), (1, .int b)]) hx hb dX6_holdBack_1 rfl hl (by decide) rfl (fun ls hl => ?_)
  refine lv_iload_n hx hb dX6_holdBack_2 rfl (lv_at hl 0 rfl) ?_
  refine lv_aload_n hx hb dX6_holdBack_3 rfl (lv_at hl 1 rfl) ?_
  refine gx_get S hK hw tc cl_7 6 (by decide) rfl mw_270 rfl dX6_holdBack_4 ?_
  refine gx_top (v := 0) (by first | rfl | decide | simp [up2, gs0, h_c_6, tc]) ?_
  refine lv_icmp_ge (tgt := 47) hx hb dX6_holdBack_7 (by decide) (fun _ => ?_) (fun h => absurd (by decide) h)
  exact gx_rv (post := fun σ1 τ1 => σ1 = σ ∧ τ1 = τ) S hr hlk hw dX6_holdBack_47 ⟨rfl, rfl⟩
set_option maxHeartbeats 4000000 in
set_option maxRecDepth 100000 in
theorem c_Scene_spotOf0 (l : Launch) {E : gE} (σ : gI) (τ : gJ)  (h_172_0 : σ 172 0 = 0) : gx_Mi l yX6_spotOf cX6_spotOf 2 (some .int) 0 gx_tb E (σ) (τ) [.ref (E.2.2 + 171), .int 0] (fun r σ1 τ1 => r = 0 ∧ σ1 = σ ∧ τ1 = τ) := by
  refine gx_bi (by decide +kernel) (Nat.le_of_ble_eq_true rfl) ?_
  intro P9 e9 s m9 below meth C9 S hr hlk hK hw ls hl
  have S : CallFix P9 m9 C9 cX6_spotOf 2 s _ gx_G RX6 := S
  have hx := S.1
  have hb := S.2.1
  have hl : lv_has ls 2 [(0, .ref (E.2.2 + 171)), (1, .int 0)] := hl
  refine lv_iload_n hx hb dX6_spotOf_0 rfl (lv_at hl 1 rfl) ?_
  refine lv_if_lt (tgt := 19) hx hb dX6_spotOf_1 (by decide) (fun h => absurd h (by decide)) (fun _ => ?_)
  refine lv_iload_n hx hb dX6_spotOf_4 rfl (lv_at hl 1 rfl) ?_
  refine lv_bipush (v := 6) hx hb dX6_spotOf_5 (by decide) ?_
  refine lv_icmp_ge (tgt := 19) hx hb dX6_spotOf_7 (by decide) (fun h => absurd h (by decide)) (fun _ => ?_)
  refine lv_aload_n hx hb dX6_spotOf_10 rfl (lv_at hl 0 rfl) ?_
  refine gx_getr (j := 172) S hK hw t_171 cl_7 0 (by decide) rfl mw_264 rfl dX6_spotOf_11 ?_
  refine lv_iload_n hx hb dX6_spotOf_14 rfl (lv_at hl 1 rfl) ?_
  refine gx_iald S hK hw t_172 0 rfl (gx_in rfl (by decide) (by decide)) dX6_spotOf_15 ?_
  refine gx_top (v := 0) (by first | rfl | decide | simp [up2, gs0, h_172_0]) ?_
  refine lv_goto (tgt := 20) hx hb dX6_spotOf_16 (by decide) ?_
  exact gx_ri (post := fun r σ1 τ1 => r = 0 ∧ σ1 = σ ∧ τ1 = τ) (v := 0) S hr hlk hw rfl dX6_spotOf_20 ⟨rfl, rfl, rfl⟩
set_option maxHeartbeats 4000000 in
set_option maxRecDepth 100000 in
theorem c_Past_clear (l : Launch) {E : gE} (σ : gI) (τ : gJ)   : gx_Mv l yX3_clear cX3_clear 1 none 0 gx_tb E (σ) (τ) [.ref (E.2.2 + 44)] (fun σ1 τ1 => σ1 = up2 σ 44 2 0 ∧ τ1 = τ) := by
  refine gx_bv (by decide +kernel) (Nat.le_of_ble_eq_true rfl) ?_
  intro P9 e9 s m9 below meth C9 S hr hlk hK hw ls hl
  have S : CallFix P9 m9 C9 cX3_clear 1 s _ gx_G RX3 := S
  have hx := S.1
  have hb := S.2.1
  have hl : lv_has ls 1 [(0, .ref (E.2.2 + 44))] := hl
  refine lv_aload_n hx hb dX3_clear_0 rfl (lv_at hl 0 rfl) ?_
  refine lv_iconst (v := 0) hx hb dX3_clear_1 (by decide) ?_
  refine gx_put S hK gx_ok hw t_44 cl_4 2 (by decide) rfl mw_321 rfl rfl (ty := .int) (v := 0) (by decide +kernel) rfl rfl dX3_clear_2 (fun H locs hw => ?_)
  exact gx_rv (post := fun σ1 τ1 => σ1 = up2 σ 44 2 0 ∧ τ1 = τ) S hr hlk hw dX3_clear_5 ⟨(by first | rfl | simp [up2, upJ]), rfl⟩
set_option maxHeartbeats 4000000 in
set_option maxRecDepth 100000 in
theorem c_Past_push (l : Launch) {E : gE} (σ : gI) (τ : gJ) (d : Nat) (h_d_6 : σ d 6 = 0) (h_d_7 : σ d 7 = 0) (h_d_8 : σ d 8 = 0) (h_d_9 : σ d 9 = 0) (h_d_10 : σ d 10 = 0) (h_44_1 : σ 44 1 = 0) (h_44_2 : σ 44 2 = 0) (td : gx_tb[d]? = some (.inl (7, [some (some (d + 1)), some (some (d + 2)), some (some (d + 3)), some (some (d + 4)), some (some (d + 5)), some (some (d + 6)), none, none, none, none, none]))) (hd : ¬ d = 46) (hd2 : ¬ 46 = d) : gx_Mv l yX3_push cX3_push 2 none 1 gx_tb E (σ) (τ) [.ref (E.2.2 + 44), .ref (E.2.2 + d)] (fun σ1 τ1 => σ1 = up2 (up2 (up2 (up2 (up2 (up2 (up2 (σ) 46 6 0) 46 7 0) 46 8 0) 46 9 0) 46 10 0) 44 1 1) 44 2 1 ∧ τ1 = τ) := by
  refine gx_bv (by decide +kernel) (Nat.le_of_ble_eq_true rfl) ?_
  intro P9 e9 s m9 below meth C9 S hr hlk hK hw ls hl
  have S : CallFix P9 m9 C9 cX3_push 2 s _ gx_G RX3 := S
  have hx := S.1
  have hb := S.2.1
  have hl : lv_has ls 2 [(0, .ref (E.2.2 + 44)), (1, .ref (E.2.2 + d))] := hl
  refine lv_aload_n hx hb dX3_push_0 rfl (lv_at hl 0 rfl) ?_
  refine gx_get S hK hw t_44 cl_4 1 (by decide) rfl mw_320 rfl dX3_push_1 ?_
  refine gx_top (v := 0) (by first | rfl | decide | simp [up2, gs0, h_d_6, h_d_7, h_d_8, h_d_9, h_d_10, h_44_1, h_44_2, td, hd, hd2]) ?_
  refine lv_if_lt (tgt := 16) hx hb dX3_push_4 (by decide) (fun h => absurd h (by decide)) (fun _ => ?_)
  refine lv_aload_n hx hb dX3_push_7 rfl (lv_at hl 0 rfl) ?_
  refine gx_get S hK hw t_44 cl_4 1 (by decide) rfl mw_320 rfl dX3_push_8 ?_
  refine gx_top (v := 0) (by first | rfl | decide | simp [up2, gs0, h_d_6, h_d_7, h_d_8, h_d_9, h_d_10, h_44_1, h_44_2, td, hd, hd2]) ?_
  refine lv_bipush (v := 15) hx hb dX3_push_11 (by decide) ?_
  refine lv_icmp_lt (tgt := 17) hx hb dX3_push_13 (by decide) (fun _ => ?_) (fun h => absurd (by decide) h)
  refine lv_aload_n hx hb dX3_push_17 rfl (lv_at hl 0 rfl) ?_
  refine gx_getr (j := 45) S hK hw t_44 cl_4 0 (by decide) rfl mw_319 rfl dX3_push_18 ?_
  refine lv_aload_n hx hb dX3_push_21 rfl (lv_at hl 0 rfl) ?_
  refine gx_get S hK hw t_44 cl_4 1 (by decide) rfl mw_320 rfl dX3_push_22 ?_
  refine gx_top (v := 0) (by first | rfl | decide | simp [up2, gs0, h_d_6, h_d_7, h_d_8, h_d_9, h_d_10, h_44_1, h_44_2, td, hd, hd2]) ?_
  refine gx_aald (r := 46) S hK hw t_45 0 rfl (gx_in rfl (by decide) (by decide)) rfl dX3_push_25 ?_
  refine lv_aload_n hx hb dX3_push_26 rfl (lv_at hl 1 rfl) ?_
  refine gx_cVv (As := [.ref (E.2.2 + d)]) (rest := []) S hK gx_ok hw (c_Scene_copy l (E := E) (σ) (τ) 46 d (by first | rfl | decide | simp [up2, gs0, h_d_6, h_d_7, h_d_8, h_d_9, h_d_10, h_44_1, h_44_2, td, hd, hd2]) (by first | rfl | decide | simp [up2, gs0, h_d_6, h_d_7, h_d_8, h_d_9, h_d_10, h_44_1, h_44_2, td, hd, hd2]) (by first | rfl | decide | simp [up2, gs0, h_d_6, h_d_7, h_d_8, h_d_9, h_d_10, h_44_1, h_44_2, td, hd, hd2]) (by first | rfl | decide | simp [up2, gs0, h_d_6, h_d_7, h_d_8, h_d_9, h_d_10, h_44_1, h_44_2, td, hd, hd2]) (by first | rfl | decide | simp [up2, gs0, h_d_6, h_d_7, h_d_8, h_d_9, h_d_10, h_44_1, h_44_2, td, hd, hd2]) (by first | rfl | decide | simp [up2, gs0, h_d_6, h_d_7, h_d_8, h_d_9, h_d_10, h_44_1, h_44_2, td, hd, hd2]) (by first | rfl | decide | simp [up2, gs0, h_d_6, h_d_7, h_d_8, h_d_9, h_d_10, h_44_1, h_44_2, td, hd, hd2]) (by first | rfl | decide | simp [up2, gs0, h_d_6, h_d_7, h_d_8, h_d_9, h_d_10, h_44_1, h_44_2, td, hd, hd2]) (by first | rfl | decide | simp [up2, gs0, h_d_6, h_d_7, h_d_8, h_d_9, h_d_10, h_44_1, h_44_2, td, hd, hd2])) cw_X3_23 t_46 cl_7 ⟨Nat.le_of_ble_eq_true rfl, Nat.le_of_ble_eq_true rfl⟩ rfl hl.1 rfl (Nat.le_of_ble_eq_true rfl) ⟨Nat.le_of_ble_eq_true rfl, Nat.le_of_ble_eq_true rfl⟩ dX3_push_27 (fun σ_1 τ_1 H locs hp hw => ?_)
  obtain ⟨es_1, et_1⟩ := hp
  obtain rfl := es_1.symm
  obtain rfl := et_1.symm
  refine lv_aload_n hx hb dX3_push_30 rfl (lv_at hl 0 rfl) ?_
  refine lv_aload_n hx hb dX3_push_31 rfl (lv_at hl 0 rfl) ?_
  refine gx_get S hK hw t_44 cl_4 1 (by decide) rfl mw_320 rfl dX3_push_32 ?_
  refine gx_top (v := 0) (by first | rfl | decide | simp [up2, gs0, h_d_6, h_d_7, h_d_8, h_d_9, h_d_10, h_44_1, h_44_2, td, hd, hd2]) ?_
  refine lv_iconst (v := 1) hx hb dX3_push_35 (by decide) ?_
  refine lv_iadd hx hb dX3_push_36 ?_
  refine gx_top (v := 1) (by decide) ?_
  refine lv_bipush (v := 15) hx hb dX3_push_37 (by decide) ?_
  refine lv_icmp_ge (tgt := 51) hx hb dX3_push_39 (by decide) (fun h => absurd h (by decide)) (fun _ => ?_)
  refine lv_aload_n hx hb dX3_push_42 rfl (lv_at hl 0 rfl) ?_
  refine gx_get S hK hw t_44 cl_4 1 (by decide) rfl mw_320 rfl dX3_push_43 ?_
  refine gx_top (v := 0) (by first | rfl | decide | simp [up2, gs0, h_d_6, h_d_7, h_d_8, h_d_9, h_d_10, h_44_1, h_44_2, td, hd, hd2]) ?_
  refine lv_iconst (v := 1) hx hb dX3_push_46 (by decide) ?_
  refine lv_iadd hx hb dX3_push_47 ?_
  refine gx_top (v := 1) (by decide) ?_
  refine lv_goto (tgt := 52) hx hb dX3_push_48 (by decide) ?_
  refine gx_put S hK gx_ok hw t_44 cl_4 1 (by decide) rfl mw_320 rfl rfl (ty := .int) (v := 1) (by decide +kernel) rfl rfl dX3_push_52 (fun H locs hw => ?_)
  refine lv_aload_n hx hb dX3_push_55 rfl (lv_at hl 0 rfl) ?_
  refine lv_bipush (v := 15) hx hb dX3_push_56 (by decide) ?_
  refine lv_aload_n hx hb dX3_push_58 rfl (lv_at hl 0 rfl) ?_
  refine gx_get S hK hw t_44 cl_4 2 (by decide) rfl mw_321 rfl dX3_push_59 ?_
  refine gx_top (v := 0) (by first | rfl | decide | simp [up2, gs0, h_d_6, h_d_7, h_d_8, h_d_9, h_d_10, h_44_1, h_44_2, td, hd, hd2]) ?_
  refine lv_iconst (v := 1) hx hb dX3_push_62 (by decide) ?_
  refine lv_iadd hx hb dX3_push_63 ?_
  refine gx_top (v := 1) (by decide) ?_
  refine gx_min (w := 1) S hl.1 mw_780 mw_529 mw_102 mw_530 ⟨Nat.le_of_ble_eq_true rfl, Nat.le_of_ble_eq_true rfl⟩ ⟨Nat.le_of_ble_eq_true rfl, Nat.le_of_ble_eq_true rfl⟩ dX3_push_64 (by decide) ?_
  refine gx_put S hK gx_ok hw t_44 cl_4 2 (by decide) rfl mw_321 rfl rfl (ty := .int) (v := 1) (by decide +kernel) rfl rfl dX3_push_67 (fun H locs hw => ?_)
  exact gx_rv (post := fun σ1 τ1 => σ1 = up2 (up2 (up2 (up2 (up2 (up2 (up2 (σ) 46 6 0) 46 7 0) 46 8 0) 46 9 0) 46 10 0) 44 1 1) 44 2 1 ∧ τ1 = τ) S hr hlk hw dX3_push_70 ⟨(by first | rfl | simp [up2, upJ]), (by first | rfl | simp [up2, upJ])⟩
set_option maxHeartbeats 4000000 in
set_option maxRecDepth 100000 in
theorem c_Past_pop (l : Launch) {E : gE} (σ : gI) (τ : gJ)  (h_44_1 : σ 44 1 = 0) (h_44_2 : σ 44 2 = 0) : gx_Mi l yX3_pop cX3_pop 3 (some .boolean) 0 gx_tb E (σ) (τ) [.ref (E.2.2 + 44), .ref (E.2.2 + 30)] (fun r σ1 τ1 => r = 0 ∧ σ1 = σ ∧ τ1 = τ) := by
  refine gx_bi (by decide +kernel) (Nat.le_of_ble_eq_true rfl) ?_
  intro P9 e9 s m9 below meth C9 S hr hlk hK hw ls hl
  have S : CallFix P9 m9 C9 cX3_pop 3 s _ gx_G RX3 := S
  have hx := S.1
  have hb := S.2.1
  have hl : lv_has ls 3 [(0, .ref (E.2.2 + 44)), (1, .ref (E.2.2 + 30))] := hl
  refine lv_aload_n hx hb dX3_pop_0 rfl (lv_at hl 0 rfl) ?_
  refine gx_get S hK hw t_44 cl_4 1 (by decide) rfl mw_320 rfl dX3_pop_1 ?_
  refine gx_top (v := 0) (by first | rfl | decide | simp [up2, gs0, h_44_1, h_44_2]) ?_
  refine lv_if_le (tgt := 16) hx hb dX3_pop_4 (by decide) (fun _ => ?_) (fun h => absurd (by decide) h)
  refine lv_bipush (v := 14) hx hb dX3_pop_16 (by decide) ?_
  refine lv_istore_n (lv' := [(2, .int 14), (0, .ref (E.2.2 + 44)), (1, .ref (E.2.2 + 30))]) hx hb dX3_pop_18 rfl hl (by decide) rfl (fun ls hl => ?_)
  refine lv_aload_n hx hb dX3_pop_19 rfl (lv_at hl 1 rfl) ?_
  refine gx_get S hK hw t_44 cl_4 2 (by decide) rfl mw_321 rfl dX3_pop_20 ?_
  refine gx_top (v := 0) (by first | rfl | decide | simp [up2, gs0, h_44_1, h_44_2]) ?_
  refine lv_if_le (tgt := 32) hx hb dX3_pop_23 (by decide) (fun _ => ?_) (fun h => absurd (by decide) h)
  refine lv_iconst (v := 0) hx hb dX3_pop_32 (by decide) ?_
  exact gx_ri (post := fun r σ1 τ1 => r = 0 ∧ σ1 = σ ∧ τ1 = τ) (v := 0) S hr hlk hw rfl dX3_pop_33 ⟨rfl, rfl, rfl⟩
set_option maxHeartbeats 4000000 in
set_option maxRecDepth 100000 in
theorem c_tell1 (l : Launch) {E : gE} (σ : gI) (τ : gJ) (a : Int64)  : gx_Mv l yX4_tell cX4_tell 3 none 0 gx_tb E (σ) (τ) [.ref (E.2.2 + 156), .long a] (fun σ1 τ1 => σ1 = up2 σ 156 1 1 ∧ True) := by
  refine gx_bv (by decide +kernel) (Nat.le_of_ble_eq_true rfl) ?_
  intro P9 e9 s m9 below meth C9 S hr hlk hK hw ls hl
  have S : CallFix P9 m9 C9 cX4_tell 3 s _ gx_G RX4 := S
  have hx := S.1
  have hb := S.2.1
  have hl : lv_has ls 3 [(0, .ref (E.2.2 + 156)), (1, .long a)] := hl
  refine lv_aload_n hx hb dX4_tell_0 rfl (lv_at hl 0 rfl) ?_
  refine gx_getr (j := 157) S hK hw t_156 cl_5 0 (by decide) rfl mw_356 rfl dX4_tell_1 ?_
  refine lv_iconst (v := 0) hx hb dX4_tell_4 (by decide) ?_
  refine lv_lload_n hx hb dX4_tell_5 rfl (lv_at hl 1 rfl) ?_
  refine gx_last S hK gx_ok hw t_157 0 rfl (gx_in rfl (by decide) (by decide)) dX4_tell_6 (fun H locs hw => ?_)
  refine lv_aload_n hx hb dX4_tell_7 rfl (lv_at hl 0 rfl) ?_
  refine lv_iconst (v := 1) hx hb dX4_tell_8 (by decide) ?_
  refine gx_put S hK gx_ok hw t_156 cl_5 1 (by decide) rfl mw_357 rfl rfl (ty := .int) (v := 1) (by decide +kernel) rfl rfl dX4_tell_9 (fun H locs hw => ?_)
  exact gx_rv (post := fun σ1 τ1 => σ1 = up2 σ 156 1 1 ∧ True) S hr hlk hw dX4_tell_12 ⟨(by first | rfl | simp [up2, upJ]), trivial⟩
set_option maxHeartbeats 4000000 in
set_option maxRecDepth 100000 in
theorem c_tell2 (l : Launch) {E : gE} (σ : gI) (τ : gJ) (a b : Int64)  : gx_Mv l yX4_tell_ cX4_tell_ 5 none 0 gx_tb E (σ) (τ) [.ref (E.2.2 + 156), .long a, .long b] (fun σ1 τ1 => σ1 = up2 σ 156 1 2 ∧ True) := by
  refine gx_bv (by decide +kernel) (Nat.le_of_ble_eq_true rfl) ?_
  intro P9 e9 s m9 below meth C9 S hr hlk hK hw ls hl
  have S : CallFix P9 m9 C9 cX4_tell_ 5 s _ gx_G RX4 := S
  have hx := S.1
  have hb := S.2.1
  have hl : lv_has ls 5 [(0, .ref (E.2.2 + 156)), (1, .long a), (3, .long b)] := hl
  refine lv_aload_n hx hb dX4_tell__0 rfl (lv_at hl 0 rfl) ?_
  refine gx_getr (j := 157) S hK hw t_156 cl_5 0 (by decide) rfl mw_356 rfl dX4_tell__1 ?_
  refine lv_iconst (v := 0) hx hb dX4_tell__4 (by decide) ?_
  refine lv_lload_n hx hb dX4_tell__5 rfl (lv_at hl 1 rfl) ?_
  refine gx_last S hK gx_ok hw t_157 0 rfl (gx_in rfl (by decide) (by decide)) dX4_tell__6 (fun H locs hw => ?_)
  refine lv_aload_n hx hb dX4_tell__7 rfl (lv_at hl 0 rfl) ?_
  refine gx_getr (j := 157) S hK hw t_156 cl_5 0 (by decide) rfl mw_356 rfl dX4_tell__8 ?_
  refine lv_iconst (v := 1) hx hb dX4_tell__11 (by decide) ?_
  refine lv_lload_n hx hb dX4_tell__12 rfl (lv_at hl 2 rfl) ?_
  refine gx_last S hK gx_ok hw t_157 1 rfl (gx_in rfl (by decide) (by decide)) dX4_tell__13 (fun H locs hw => ?_)
  refine lv_aload_n hx hb dX4_tell__14 rfl (lv_at hl 0 rfl) ?_
  refine lv_iconst (v := 2) hx hb dX4_tell__15 (by decide) ?_
  refine gx_put S hK gx_ok hw t_156 cl_5 1 (by decide) rfl mw_357 rfl rfl (ty := .int) (v := 2) (by decide +kernel) rfl rfl dX4_tell__16 (fun H locs hw => ?_)
  exact gx_rv (post := fun σ1 τ1 => σ1 = up2 σ 156 1 2 ∧ True) S hr hlk hw dX4_tell__19 ⟨(by first | rfl | simp [up2, upJ]), trivial⟩
set_option maxHeartbeats 4000000 in
set_option maxRecDepth 100000 in
theorem c_tell3 (l : Launch) {E : gE} (σ : gI) (τ : gJ) (a b d : Int64)  : gx_Mv l yX4_tell__ cX4_tell__ 7 none 0 gx_tb E (σ) (τ) [.ref (E.2.2 + 156), .long a, .long b, .long d] (fun σ1 τ1 => σ1 = up2 σ 156 1 3 ∧ True) := by
  refine gx_bv (by decide +kernel) (Nat.le_of_ble_eq_true rfl) ?_
  intro P9 e9 s m9 below meth C9 S hr hlk hK hw ls hl
  have S : CallFix P9 m9 C9 cX4_tell__ 7 s _ gx_G RX4 := S
  have hx := S.1
  have hb := S.2.1
  have hl : lv_has ls 7 [(0, .ref (E.2.2 + 156)), (1, .long a), (3, .long b), (5, .long d)] := hl
  refine lv_aload_n hx hb dX4_tell___0 rfl (lv_at hl 0 rfl) ?_
  refine gx_getr (j := 157) S hK hw t_156 cl_5 0 (by decide) rfl mw_356 rfl dX4_tell___1 ?_
  refine lv_iconst (v := 0) hx hb dX4_tell___4 (by decide) ?_
  refine lv_lload_n hx hb dX4_tell___5 rfl (lv_at hl 1 rfl) ?_
  refine gx_last S hK gx_ok hw t_157 0 rfl (gx_in rfl (by decide) (by decide)) dX4_tell___6 (fun H locs hw => ?_)
  refine lv_aload_n hx hb dX4_tell___7 rfl (lv_at hl 0 rfl) ?_
  refine gx_getr (j := 157) S hK hw t_156 cl_5 0 (by decide) rfl mw_356 rfl dX4_tell___8 ?_
  refine lv_iconst (v := 1) hx hb dX4_tell___11 (by decide) ?_
  refine lv_lload_n hx hb dX4_tell___12 rfl (lv_at hl 2 rfl) ?_
  refine gx_last S hK gx_ok hw t_157 1 rfl (gx_in rfl (by decide) (by decide)) dX4_tell___13 (fun H locs hw => ?_)
  refine lv_aload_n hx hb dX4_tell___14 rfl (lv_at hl 0 rfl) ?_
  refine gx_getr (j := 157) S hK hw t_156 cl_5 0 (by decide) rfl mw_356 rfl dX4_tell___15 ?_
  refine lv_iconst (v := 2) hx hb dX4_tell___18 (by decide) ?_
  refine lv_lload hx hb dX4_tell___19 (lv_at hl 3 rfl) ?_
  refine gx_last S hK gx_ok hw t_157 2 rfl (gx_in rfl (by decide) (by decide)) dX4_tell___21 (fun H locs hw => ?_)
  refine lv_aload_n hx hb dX4_tell___22 rfl (lv_at hl 0 rfl) ?_
  refine lv_iconst (v := 3) hx hb dX4_tell___23 (by decide) ?_
  refine gx_put S hK gx_ok hw t_156 cl_5 1 (by decide) rfl mw_357 rfl rfl (ty := .int) (v := 3) (by decide +kernel) rfl rfl dX4_tell___24 (fun H locs hw => ?_)
  exact gx_rv (post := fun σ1 τ1 => σ1 = up2 σ 156 1 3 ∧ True) S hr hlk hw dX4_tell___27 ⟨(by first | rfl | simp [up2, upJ]), trivial⟩
set_option maxHeartbeats 4000000 in
set_option maxRecDepth 100000 in
theorem c_flowIn (l : Launch) {E : gE} (σ : gI) (τ : gJ) (m1 : Int32) (h_15_1 : σ 15 1 = 0) (h_158_8 : σ 158 8 = 0) : gx_Mi l yX1_flowIn cX1_flowIn 5 (some .int) 1 gx_tb E (σ) (τ) [.ref (E.2.2 + 158), .int m1] (fun r σ1 τ1 => r = 1 ∧ σ1 = σ ∧ τ1 = τ) := by
  refine gx_bi (by decide +kernel) (Nat.le_of_ble_eq_true rfl) ?_
  intro P9 e9 s m9 below meth C9 S hr hlk hK hw ls hl
  have S : CallFix P9 m9 C9 cX1_flowIn 5 s _ gx_G RX1 := S
  have hx := S.1
  have hb := S.2.1
  have hl : lv_has ls 5 [(0, .ref (E.2.2 + 158)), (1, .int m1)] := hl
  refine lv_aload_n hx hb dX1_flowIn_0 rfl (lv_at hl 0 rfl) ?_
  refine gx_getr (j := 15) S hK hw t_158 cl_2 1 (by decide) rfl mw_372 rfl dX1_flowIn_1 ?_
  refine lv_iload_n hx hb dX1_flowIn_4 rfl (lv_at hl 1 rfl) ?_
  refine gx_cVi (As := [.int m1]) (rest := []) S hK gx_ok hw (c_Water_in l (E := E) (σ) (τ) m1 (by first | rfl | decide | simp [up2, gs0, h_15_1, h_158_8])) cw_X1_33 t_15 cl_11 ⟨Nat.le_of_ble_eq_true rfl, Nat.le_of_ble_eq_true rfl⟩ rfl hl.1 rfl (Nat.le_of_ble_eq_true rfl) ⟨Nat.le_of_ble_eq_true rfl, Nat.le_of_ble_eq_true rfl⟩ dX1_flowIn_5 (fun r_1 σ_1 τ_1 H locs hp hw => ?_)
  obtain ⟨er_1, es_1, et_1⟩ := hp
  obtain rfl := er_1.symm
  obtain rfl := es_1.symm
  obtain rfl := et_1.symm
  refine lv_istore_n (lv' := [(2, .int 1), (0, .ref (E.2.2 + 158)), (1, .int m1)]) hx hb dX1_flowIn_8 rfl hl (by decide) rfl (fun ls hl => ?_)
  refine lv_aload_n hx hb dX1_flowIn_9 rfl (lv_at hl 1 rfl) ?_
  refine gx_get S hK hw t_158 cl_2 8 (by decide) rfl mw_383 rfl dX1_flowIn_10 ?_
  refine gx_top (v := 0) (by first | rfl | decide | simp [up2, gs0, h_15_1, h_158_8]) ?_
  refine lv_if_ne (tgt := 18) hx hb dX1_flowIn_13 (by decide) (fun h => absurd (by decide) h) (fun _ => ?_)
  refine lv_iload_n hx hb dX1_flowIn_16 rfl (lv_at hl 0 rfl) ?_
  exact gx_ri (post := fun r σ1 τ1 => r = 1 ∧ σ1 = σ ∧ τ1 = τ) (v := 1) S hr hlk hw rfl dX1_flowIn_17 ⟨rfl, (by first | rfl | simp [up2, upJ]), (by first | rfl | simp [up2, upJ])⟩
set_option maxHeartbeats 4000000 in
set_option maxRecDepth 100000 in
theorem c_pass (l : Launch) {E : gE} (σ : gI) (τ : gJ)  (h_15_1 : σ 15 1 = 0) (h_158_8 : σ 158 8 = 0) (h_30_6 : σ 30 6 = 0) : gx_Mv l yX1_pass cX1_pass 6 none 2 gx_tb E (σ) (τ) [.ref (E.2.2 + 158), .ref (E.2.2 + 30)] (fun σ1 τ1 => (∀ c k : Nat, ¬ (c = 30 ∧ k = 8) → σ1 c k = (σ) c k) ∧ τ1 = τ) := by
  refine gx_bv (by decide +kernel) (Nat.le_of_ble_eq_true rfl) ?_
  intro P9 e9 s m9 below meth C9 S hr hlk hK hw ls hl
  have S : CallFix P9 m9 C9 cX1_pass 6 s _ gx_G RX1 := S
  have hx := S.1
  have hb := S.2.1
  have hl : lv_has ls 6 [(0, .ref (E.2.2 + 158)), (1, .ref (E.2.2 + 30))] := hl
  refine lv_aload_n hx hb dX1_pass_0 rfl (lv_at hl 0 rfl) ?_
  refine lv_aload_n hx hb dX1_pass_1 rfl (lv_at hl 1 rfl) ?_
  refine gx_get S hK hw t_30 cl_7 8 (by decide) rfl mw_279 rfl dX1_pass_2 ?_
  refine gx_cVi (As := [.int ((σ) 30 8)]) (rest := []) S hK gx_ok hw (c_flowIn l (E := E) (σ) (τ) ((σ) 30 8) (by first | rfl | decide | simp [up2, gs0, h_15_1, h_158_8, h_30_6]) (by first | rfl | decide | simp [up2, gs0, h_15_1, h_158_8, h_30_6])) cw_X1_57 t_158 cl_2 ⟨Nat.le_of_ble_eq_true rfl, Nat.le_of_ble_eq_true rfl⟩ rfl hl.1 rfl (Nat.le_of_ble_eq_true rfl) ⟨Nat.le_of_ble_eq_true rfl, Nat.le_of_ble_eq_true rfl⟩ dX1_pass_5 (fun r_1 σ_1 τ_1 H locs hp hw => ?_)
  obtain ⟨er_1, es_1, et_1⟩ := hp
  obtain rfl := er_1.symm
  obtain rfl := es_1.symm
  obtain rfl := et_1.symm
  refine lv_istore_n (lv' := [(2, .int 1), (0, .ref (E.2.2 + 158)), (1, .ref (E.2.2 + 30))]) hx hb dX1_pass_8 rfl hl (by decide) rfl (fun ls hl => ?_)
  refine lv_iconst (v := 0) hx hb dX1_pass_9 (by decide) ?_
  refine lv_istore_n (lv' := [(3, .int 0), (2, .int 1), (0, .ref (E.2.2 + 158)), (1, .ref (E.2.2 + 30))]) hx hb dX1_pass_10 rfl hl (by decide) rfl (fun ls hl => ?_)
  refine lv_iload_n hx hb dX1_pass_11 rfl (lv_at hl 0 rfl) ?_
  refine lv_aload_n hx hb dX1_pass_12 rfl (lv_at hl 3 rfl) ?_
  refine gx_get S hK hw t_30 cl_7 6 (by decide) rfl mw_271 rfl dX1_pass_13 ?_
  refine gx_top (v := 0) (by first | rfl | decide | simp [up2, gs0, h_15_1, h_158_8, h_30_6]) ?_
  refine lv_icmp_ge (tgt := 65) hx hb dX1_pass_16 (by decide) (fun _ => ?_) (fun h => absurd (by decide) h)
  refine lv_aload_n hx hb dX1_pass_65 rfl (lv_at hl 3 rfl) ?_
  refine lv_dup hx hb dX1_pass_66 rfl ?_
  refine gx_get S hK hw t_30 cl_7 8 (by decide) rfl mw_279 rfl dX1_pass_67 ?_
  refine lv_iconst (v := 1) hx hb dX1_pass_70 (by decide) ?_
  refine lv_iadd hx hb dX1_pass_71 ?_
  refine gx_put S hK gx_ok hw t_30 cl_7 8 (by decide) rfl mw_279 rfl rfl (ty := .int) (v := ((σ) 30 8) + 1) (by decide +kernel) rfl rfl dX1_pass_72 (fun H locs hw => ?_)
  exact gx_rv (post := fun σ1 τ1 => (∀ c k : Nat, ¬ (c = 30 ∧ k = 8) → σ1 c k = (σ) c k) ∧ τ1 = τ) S hr hlk hw dX1_pass_75 ⟨(fun c9 k9 h9_0 => by simp [up2, upJ, h9_0]), (by first | rfl | simp [up2, upJ])⟩
set_option maxHeartbeats 4000000 in
set_option maxRecDepth 100000 in
theorem c_seesOthers (l : Launch) {E : gE} (σ : gI) (τ : gJ)  (h_17_10 : σ 17 10 = 0) : gx_Mi l yX1_seesOthers cX1_seesOthers 1 (some .boolean) 0 gx_tb E (σ) (τ) [.ref (E.2.2 + 158)] (fun r σ1 τ1 => r = 0 ∧ σ1 = σ ∧ τ1 = τ) := by
  refine gx_bi (by decide +kernel) (Nat.le_of_ble_eq_true rfl) ?_
  intro P9 e9 s m9 below meth C9 S hr hlk hK hw ls hl
  have S : CallFix P9 m9 C9 cX1_seesOthers 1 s _ gx_G RX1 := S
  have hx := S.1
  have hb := S.2.1
  have hl : lv_has ls 1 [(0, .ref (E.2.2 + 158))] := hl
  refine lv_aload_n hx hb dX1_seesOthers_0 rfl (lv_at hl 0 rfl) ?_
  refine gx_getr (j := 17) S hK hw t_158 cl_2 2 (by decide) rfl mw_373 rfl dX1_seesOthers_1 ?_
  refine gx_get S hK hw t_17 cl_6 10 (by decide) rfl mw_211 rfl dX1_seesOthers_4 ?_
  refine gx_top (v := 0) (by first | rfl | decide | simp [up2, gs0, h_17_10]) ?_
  exact gx_ri (post := fun r σ1 τ1 => r = 0 ∧ σ1 = σ ∧ τ1 = τ) (v := 0) S hr hlk hw rfl dX1_seesOthers_7 ⟨rfl, rfl, rfl⟩
set_option maxHeartbeats 4000000 in
set_option maxRecDepth 100000 in
theorem c_goOn (l : Launch) {E : gE} (σ : gI) (τ : gJ) (n : Int32) (h_30_6 : σ 30 6 = 0) (h_30_7 : σ 30 7 = 0) (h_30_8 : σ 30 8 = 0) (h_30_9 : σ 30 9 = 0) (h_30_10 : σ 30 10 = 0) : gx_Mv l yX9_goOn cX9_goOn 4 none 1 gx_tb E (σ) (τ) [.ref (E.2.2 + 160), .ref (E.2.2 + 30), .int n] (fun σ1 τ1 => σ1 = up2 (up2 (up2 (up2 (up2 (σ) 171 6 0) 171 7 0) 171 8 0) 171 9 0) 171 10 0 ∧ τ1 = τ) := by
  refine gx_bv (by decide +kernel) (Nat.le_of_ble_eq_true rfl) ?_
  intro P9 e9 s m9 below meth C9 S hr hlk hK hw ls hl
  have S : CallFix P9 m9 C9 cX9_goOn 4 s _ gx_G RX9 := S
  have hx := S.1
  have hb := S.2.1
  have hl : lv_has ls 4 [(0, .ref (E.2.2 + 160)), (1, .ref (E.2.2 + 30)), (2, .int n)] := hl
  refine lv_aload_n hx hb dX9_goOn_0 rfl (lv_at hl 0 rfl) ?_
  refine gx_getr (j := 171) S hK hw t_160 cl_10 8 (by decide) rfl mw_425 rfl dX9_goOn_1 ?_
  refine lv_aload_n hx hb dX9_goOn_4 rfl (lv_at hl 1 rfl) ?_
  refine gx_cVv (As := [.ref (E.2.2 + 30)]) (rest := []) S hK gx_ok hw (c_Scene_copy l (E := E) (σ) (τ) 171 30 (by first | rfl | decide | simp [up2, gs0, h_30_6, h_30_7, h_30_8, h_30_9, h_30_10]) (by first | rfl | decide | simp [up2, gs0, h_30_6, h_30_7, h_30_8, h_30_9, h_30_10]) (by first | rfl | decide | simp [up2, gs0, h_30_6, h_30_7, h_30_8, h_30_9, h_30_10]) (by first | rfl | decide | simp [up2, gs0, h_30_6, h_30_7, h_30_8, h_30_9, h_30_10]) (by first | rfl | decide | simp [up2, gs0, h_30_6, h_30_7, h_30_8, h_30_9, h_30_10]) (by first | rfl | decide | simp [up2, gs0, h_30_6, h_30_7, h_30_8, h_30_9, h_30_10]) (by first | rfl | decide | simp [up2, gs0, h_30_6, h_30_7, h_30_8, h_30_9, h_30_10]) (by first | rfl | decide | simp [up2, gs0, h_30_6, h_30_7, h_30_8, h_30_9, h_30_10]) (by first | rfl | decide | simp [up2, gs0, h_30_6, h_30_7, h_30_8, h_30_9, h_30_10])) cw_X9_63 t_171 cl_7 ⟨Nat.le_of_ble_eq_true rfl, Nat.le_of_ble_eq_true rfl⟩ rfl hl.1 rfl (Nat.le_of_ble_eq_true rfl) ⟨Nat.le_of_ble_eq_true rfl, Nat.le_of_ble_eq_true rfl⟩ dX9_goOn_5 (fun σ_1 τ_1 H locs hp hw => ?_)
  obtain ⟨es_1, et_1⟩ := hp
  obtain rfl := es_1.symm
  obtain rfl := et_1.symm
  refine lv_iconst (v := 0) hx hb dX9_goOn_8 (by decide) ?_
  refine lv_istore_n (lv' := [(3, .int 0), (0, .ref (E.2.2 + 160)), (1, .ref (E.2.2 + 30)), (2, .int n)]) hx hb dX9_goOn_9 rfl hl (by decide) rfl (fun ls hl => ?_)
  refine lv_iload_n hx hb dX9_goOn_10 rfl (lv_at hl 0 rfl) ?_
  refine lv_iload_n hx hb dX9_goOn_11 rfl (lv_at hl 3 rfl) ?_
  refine lv_icmp_ge (tgt := 42) hx hb dX9_goOn_12 (by decide) (fun c_2 => ?_) (fun c_2 => ?_)
  · exact gx_rv (post := fun σ1 τ1 => σ1 = up2 (up2 (up2 (up2 (up2 (σ) 171 6 0) 171 7 0) 171 8 0) 171 9 0) 171 10 0 ∧ τ1 = τ) S hr hlk hw dX9_goOn_42 ⟨(by first | rfl | simp [up2, upJ]), (by first | rfl | simp [up2, upJ])⟩
  · refine lv_aload_n hx hb dX9_goOn_15 rfl (lv_at hl 1 rfl) ?_
    refine gx_getr (j := 171) S hK hw t_160 cl_10 8 (by decide) rfl mw_425 rfl dX9_goOn_16 ?_
    refine gx_cVi (As := []) (rest := []) S hK gx_ok hw (c_Scene_onWay l (E := E) (up2 (up2 (up2 (up2 (up2 ((σ)) 171 6 0) 171 7 0) 171 8 0) 171 9 0) 171 10 0) (τ) 171 (by first | rfl | decide | simp [up2, gs0, h_30_6, h_30_7, h_30_8, h_30_9, h_30_10]) (by first | rfl | decide | simp [up2, gs0, h_30_6, h_30_7, h_30_8, h_30_9, h_30_10]) (by first | rfl | decide | simp [up2, gs0, h_30_6, h_30_7, h_30_8, h_30_9, h_30_10]) (by first | rfl | decide | simp [up2, gs0, h_30_6, h_30_7, h_30_8, h_30_9, h_30_10])) cw_X9_108 t_171 cl_7 ⟨Nat.le_of_ble_eq_true rfl, Nat.le_of_ble_eq_true rfl⟩ rfl hl.1 rfl (Nat.le_of_ble_eq_true rfl) ⟨Nat.le_of_ble_eq_true rfl, Nat.le_of_ble_eq_true rfl⟩ dX9_goOn_19 (fun r_3 σ_3 τ_3 H locs hp hw => ?_)
    obtain ⟨er_3, es_3, et_3⟩ := hp
    obtain rfl := er_3.symm
    obtain rfl := es_3.symm
    obtain rfl := et_3.symm
    refine lv_if_eq (tgt := 42) hx hb dX9_goOn_22 (by decide) (fun _ => ?_) (fun h => absurd (by decide) h)
    exact gx_rv (post := fun σ1 τ1 => σ1 = up2 (up2 (up2 (up2 (up2 (σ) 171 6 0) 171 7 0) 171 8 0) 171 9 0) 171 10 0 ∧ τ1 = τ) S hr hlk hw dX9_goOn_42 ⟨(by first | rfl | simp [up2, upJ]), (by first | rfl | simp [up2, upJ])⟩
set_option maxHeartbeats 4000000 in
set_option maxRecDepth 100000 in
theorem c_startFrom (l : Launch) {E : gE} (σ : gI) (τ : gJ)  (h_30_6 : σ 30 6 = 0) (h_30_7 : σ 30 7 = 0) (h_30_8 : σ 30 8 = 0) (h_30_9 : σ 30 9 = 0) (h_30_10 : σ 30 10 = 0) (h_17_10 : σ 17 10 = 0) : gx_Mv l yX9_startFrom cX9_startFrom 4 none 1 gx_tb E (σ) (τ) [.ref (E.2.2 + 160), .ref (E.2.2 + 30), .int 0, .int 0] (fun σ1 τ1 => σ1 = up2 (up2 (up2 (up2 (up2 (up2 (up2 (σ) 164 6 0) 164 7 0) 164 8 0) 164 9 0) 164 10 0) 160 5 0) 160 6 0 ∧ τ1 = τ) := by
  refine gx_bv (by decide +kernel) (Nat.le_of_ble_eq_true rfl) ?_
  intro P9 e9 s m9 below meth C9 S hr hlk hK hw ls hl
  have S : CallFix P9 m9 C9 cX9_startFrom 4 s _ gx_G RX9 := S
  have hx := S.1
  have hb := S.2.1
  have hl : lv_has ls 4 [(0, .ref (E.2.2 + 160)), (1, .ref (E.2.2 + 30)), (2, .int 0), (3, .int 0)] := hl
  refine lv_aload_n hx hb dX9_startFrom_0 rfl (lv_at hl 0 rfl) ?_
  refine gx_getr (j := 164) S hK hw t_160 cl_10 7 (by decide) rfl mw_423 rfl dX9_startFrom_1 ?_
  refine lv_aload_n hx hb dX9_startFrom_4 rfl (lv_at hl 1 rfl) ?_
  refine gx_cVv (As := [.ref (E.2.2 + 30)]) (rest := []) S hK gx_ok hw (c_Scene_copy l (E := E) (σ) (τ) 164 30 (by first | rfl | decide | simp [up2, gs0, h_30_6, h_30_7, h_30_8, h_30_9, h_30_10, h_17_10]) (by first | rfl | decide | simp [up2, gs0, h_30_6, h_30_7, h_30_8, h_30_9, h_30_10, h_17_10]) (by first | rfl | decide | simp [up2, gs0, h_30_6, h_30_7, h_30_8, h_30_9, h_30_10, h_17_10]) (by first | rfl | decide | simp [up2, gs0, h_30_6, h_30_7, h_30_8, h_30_9, h_30_10, h_17_10]) (by first | rfl | decide | simp [up2, gs0, h_30_6, h_30_7, h_30_8, h_30_9, h_30_10, h_17_10]) (by first | rfl | decide | simp [up2, gs0, h_30_6, h_30_7, h_30_8, h_30_9, h_30_10, h_17_10]) (by first | rfl | decide | simp [up2, gs0, h_30_6, h_30_7, h_30_8, h_30_9, h_30_10, h_17_10]) (by first | rfl | decide | simp [up2, gs0, h_30_6, h_30_7, h_30_8, h_30_9, h_30_10, h_17_10]) (by first | rfl | decide | simp [up2, gs0, h_30_6, h_30_7, h_30_8, h_30_9, h_30_10, h_17_10])) cw_X9_63 t_164 cl_7 ⟨Nat.le_of_ble_eq_true rfl, Nat.le_of_ble_eq_true rfl⟩ rfl hl.1 rfl (Nat.le_of_ble_eq_true rfl) ⟨Nat.le_of_ble_eq_true rfl, Nat.le_of_ble_eq_true rfl⟩ dX9_startFrom_5 (fun σ_1 τ_1 H locs hp hw => ?_)
  obtain ⟨es_1, et_1⟩ := hp
  obtain rfl := es_1.symm
  obtain rfl := et_1.symm
  refine lv_aload_n hx hb dX9_startFrom_8 rfl (lv_at hl 0 rfl) ?_
  refine lv_iload_n hx hb dX9_startFrom_9 rfl (lv_at hl 2 rfl) ?_
  refine gx_put S hK gx_ok hw t_160 cl_10 5 (by decide) rfl mw_421 rfl rfl (ty := .int) (v := 0) (by decide +kernel) rfl rfl dX9_startFrom_10 (fun H locs hw => ?_)
  refine lv_aload_n hx hb dX9_startFrom_13 rfl (lv_at hl 0 rfl) ?_
  refine lv_iload_n hx hb dX9_startFrom_14 rfl (lv_at hl 3 rfl) ?_
  refine gx_put S hK gx_ok hw t_160 cl_10 6 (by decide) rfl mw_422 rfl rfl (ty := .int) (v := 0) (by decide +kernel) rfl rfl dX9_startFrom_15 (fun H locs hw => ?_)
  refine lv_aload_n hx hb dX9_startFrom_18 rfl (lv_at hl 0 rfl) ?_
  refine gx_getr (j := 158) S hK hw t_160 cl_10 1 (by decide) rfl mw_417 rfl dX9_startFrom_19 ?_
  refine gx_cVi (As := []) (rest := []) S hK gx_ok hw (c_seesOthers l (E := E) (up2 (up2 (up2 (up2 (up2 (up2 (up2 ((σ)) 164 6 0) 164 7 0) 164 8 0) 164 9 0) 164 10 0) 160 5 0) 160 6 0) (τ) (by first | rfl | decide | simp [up2, gs0, h_30_6, h_30_7, h_30_8, h_30_9, h_30_10, h_17_10])) cw_X9_67 t_158 cl_2 ⟨Nat.le_of_ble_eq_true rfl, Nat.le_of_ble_eq_true rfl⟩ rfl hl.1 rfl (Nat.le_of_ble_eq_true rfl) ⟨Nat.le_of_ble_eq_true rfl, Nat.le_of_ble_eq_true rfl⟩ dX9_startFrom_22 (fun r_2 σ_2 τ_2 H locs hp hw => ?_)
  obtain ⟨er_2, es_2, et_2⟩ := hp
  obtain rfl := er_2.symm
  obtain rfl := es_2.symm
  obtain rfl := et_2.symm
  refine lv_if_ne (tgt := 38) hx hb dX9_startFrom_25 (by decide) (fun h => absurd (by decide) h) (fun _ => ?_)
  refine lv_aload_n hx hb dX9_startFrom_28 rfl (lv_at hl 0 rfl) ?_
  refine gx_getr (j := 164) S hK hw t_160 cl_10 7 (by decide) rfl mw_423 rfl dX9_startFrom_29 ?_
  refine lv_iload_n hx hb dX9_startFrom_32 rfl (lv_at hl 2 rfl) ?_
  refine lv_iconst (v := (-1)) hx hb dX9_startFrom_33 (by decide) ?_
  refine lv_ixor hx hb dX9_startFrom_34 ?_
  refine gx_top (v := (-1)) (by decide) ?_
  refine gx_cVv (As := [.int (-1)]) (rest := []) S hK gx_ok hw (c_Scene_holdBack l (E := E) (up2 (up2 (up2 (up2 (up2 (up2 (up2 ((σ)) 164 6 0) 164 7 0) 164 8 0) 164 9 0) 164 10 0) 160 5 0) 160 6 0) (τ) 164 (-1) (by first | rfl | decide | simp [up2, gs0, h_30_6, h_30_7, h_30_8, h_30_9, h_30_10, h_17_10]) (by first | rfl | decide | simp [up2, gs0, h_30_6, h_30_7, h_30_8, h_30_9, h_30_10, h_17_10])) cw_X9_73 t_164 cl_7 ⟨Nat.le_of_ble_eq_true rfl, Nat.le_of_ble_eq_true rfl⟩ rfl hl.1 rfl (Nat.le_of_ble_eq_true rfl) ⟨Nat.le_of_ble_eq_true rfl, Nat.le_of_ble_eq_true rfl⟩ dX9_startFrom_35 (fun σ_3 τ_3 H locs hp hw => ?_)
  obtain ⟨es_3, et_3⟩ := hp
  obtain rfl := es_3.symm
  obtain rfl := et_3.symm
  exact gx_rv (post := fun σ1 τ1 => σ1 = up2 (up2 (up2 (up2 (up2 (up2 (up2 (σ) 164 6 0) 164 7 0) 164 8 0) 164 9 0) 164 10 0) 160 5 0) 160 6 0 ∧ τ1 = τ) S hr hlk hw dX9_startFrom_38 ⟨(by first | rfl | simp [up2, upJ]), (by first | rfl | simp [up2, upJ])⟩
set_option maxHeartbeats 4000000 in
set_option maxRecDepth 100000 in
theorem c_begin (l : Launch) {E : gE} (σ : gI) (τ : gJ)  (h_164_6 : σ 164 6 = 0) (h_164_7 : σ 164 7 = 0) (h_164_8 : σ 164 8 = 0) (h_164_9 : σ 164 9 = 0) (h_164_10 : σ 164 10 = 0) : gx_Mv l yX9_begin cX9_begin 2 none 1 gx_tb E (σ) (τ) [.ref (E.2.2 + 160), .int 0] (fun σ1 τ1 => σ1 = up2 (up2 (up2 (up2 (up2 (up2 (up2 (up2 (σ) 171 6 0) 171 7 0) 171 8 0) 171 9 0) 171 10 0) 171 7 0) 158 4 0) 158 5 0 ∧ τ1 = τ) := by
  refine gx_bv (by decide +kernel) (Nat.le_of_ble_eq_true rfl) ?_
  intro P9 e9 s m9 below meth C9 S hr hlk hK hw ls hl
  have S : CallFix P9 m9 C9 cX9_begin 2 s _ gx_G RX9 := S
  have hx := S.1
  have hb := S.2.1
  have hl : lv_has ls 2 [(0, .ref (E.2.2 + 160)), (1, .int 0)] := hl
  refine lv_aload_n hx hb dX9_begin_0 rfl (lv_at hl 0 rfl) ?_
  refine gx_getr (j := 171) S hK hw t_160 cl_10 8 (by decide) rfl mw_425 rfl dX9_begin_1 ?_
  refine lv_aload_n hx hb dX9_begin_4 rfl (lv_at hl 0 rfl) ?_
  refine gx_getr (j := 164) S hK hw t_160 cl_10 7 (by decide) rfl mw_423 rfl dX9_begin_5 ?_
  refine gx_cVv (As := [.ref (E.2.2 + 164)]) (rest := []) S hK gx_ok hw (c_Scene_copy l (E := E) (σ) (τ) 171 164 (by first | rfl | decide | simp [up2, gs0, h_164_6, h_164_7, h_164_8, h_164_9, h_164_10]) (by first | rfl | decide | simp [up2, gs0, h_164_6, h_164_7, h_164_8, h_164_9, h_164_10]) (by first | rfl | decide | simp [up2, gs0, h_164_6, h_164_7, h_164_8, h_164_9, h_164_10]) (by first | rfl | decide | simp [up2, gs0, h_164_6, h_164_7, h_164_8, h_164_9, h_164_10]) (by first | rfl | decide | simp [up2, gs0, h_164_6, h_164_7, h_164_8, h_164_9, h_164_10]) (by first | rfl | decide | simp [up2, gs0, h_164_6, h_164_7, h_164_8, h_164_9, h_164_10]) (by first | rfl | decide | simp [up2, gs0, h_164_6, h_164_7, h_164_8, h_164_9, h_164_10]) (by first | rfl | decide | simp [up2, gs0, h_164_6, h_164_7, h_164_8, h_164_9, h_164_10]) (by first | rfl | decide | simp [up2, gs0, h_164_6, h_164_7, h_164_8, h_164_9, h_164_10])) cw_X9_63 t_171 cl_7 ⟨Nat.le_of_ble_eq_true rfl, Nat.le_of_ble_eq_true rfl⟩ rfl hl.1 rfl (Nat.le_of_ble_eq_true rfl) ⟨Nat.le_of_ble_eq_true rfl, Nat.le_of_ble_eq_true rfl⟩ dX9_begin_8 (fun σ_1 τ_1 H locs hp hw => ?_)
  obtain ⟨es_1, et_1⟩ := hp
  obtain rfl := es_1.symm
  obtain rfl := et_1.symm
  refine lv_aload_n hx hb dX9_begin_11 rfl (lv_at hl 0 rfl) ?_
  refine gx_getr (j := 171) S hK hw t_160 cl_10 8 (by decide) rfl mw_425 rfl dX9_begin_12 ?_
  refine lv_iload_n hx hb dX9_begin_15 rfl (lv_at hl 1 rfl) ?_
  refine gx_put S hK gx_ok hw t_171 cl_7 7 (by decide) rfl mw_274 rfl rfl (ty := .int) (v := 0) (by decide +kernel) rfl rfl dX9_begin_16 (fun H locs hw => ?_)
  refine lv_aload_n hx hb dX9_begin_19 rfl (lv_at hl 0 rfl) ?_
  refine gx_getr (j := 158) S hK hw t_160 cl_10 1 (by decide) rfl mw_417 rfl dX9_begin_20 ?_
  refine lv_iconst (v := 0) hx hb dX9_begin_23 (by decide) ?_
  refine gx_put S hK gx_ok hw t_158 cl_2 4 (by decide) rfl mw_375 rfl rfl (ty := .int) (v := 0) (by decide +kernel) rfl rfl dX9_begin_24 (fun H locs hw => ?_)
  refine lv_aload_n hx hb dX9_begin_27 rfl (lv_at hl 0 rfl) ?_
  refine gx_getr (j := 158) S hK hw t_160 cl_10 1 (by decide) rfl mw_417 rfl dX9_begin_28 ?_
  refine lv_iconst (v := 0) hx hb dX9_begin_31 (by decide) ?_
  refine gx_put S hK gx_ok hw t_158 cl_2 5 (by decide) rfl mw_377 rfl rfl (ty := .int) (v := 0) (by decide +kernel) rfl rfl dX9_begin_32 (fun H locs hw => ?_)
  exact gx_rv (post := fun σ1 τ1 => σ1 = up2 (up2 (up2 (up2 (up2 (up2 (up2 (up2 (σ) 171 6 0) 171 7 0) 171 8 0) 171 9 0) 171 10 0) 171 7 0) 158 4 0) 158 5 0 ∧ τ1 = τ) S hr hlk hw dX9_begin_35 ⟨(by first | rfl | simp [up2, upJ]), (by first | rfl | simp [up2, upJ])⟩
set_option maxHeartbeats 4000000 in
set_option maxRecDepth 100000 in
theorem c_go (l : Launch) {E : gE} (σ : gI) (τ : gJ)  (h_164_6 : σ 164 6 = 0) (h_164_7 : σ 164 7 = 0) (h_164_8 : σ 164 8 = 0) (h_164_9 : σ 164 9 = 0) (h_164_10 : σ 164 10 = 0) (h_160_5 : σ 160 5 = 0) (h_160_6 : σ 160 6 = 0) (h_172_0 : σ 172 0 = 0) : gx_Mi l yX9_go cX9_go 3 (some .int) 2 gx_tb E (σ) (τ) [.ref (E.2.2 + 160), .int 0] (fun r σ1 τ1 => r = 0 ∧ σ1 = up2 (up2 (up2 (up2 (up2 (up2 (up2 (up2 (σ) 171 6 0) 171 7 0) 171 8 0) 171 9 0) 171 10 0) 171 7 0) 158 4 0) 158 5 0 ∧ τ1 = τ) := by
  refine gx_bi (by decide +kernel) (Nat.le_of_ble_eq_true rfl) ?_
  intro P9 e9 s m9 below meth C9 S hr hlk hK hw ls hl
  have S : CallFix P9 m9 C9 cX9_go 3 s _ gx_G RX9 := S
  have hx := S.1
  have hb := S.2.1
  have hl : lv_has ls 3 [(0, .ref (E.2.2 + 160)), (1, .int 0)] := hl
  refine lv_aload_n hx hb dX9_go_0 rfl (lv_at hl 0 rfl) ?_
  refine lv_iload_n hx hb dX9_go_1 rfl (lv_at hl 1 rfl) ?_
  refine gx_cVv (As := [.int 0]) (rest := []) S hK gx_ok hw (c_begin l (E := E) (σ) (τ) (by first | rfl | decide | simp [up2, gs0, h_164_6, h_164_7, h_164_8, h_164_9, h_164_10, h_160_5, h_160_6, h_172_0]) (by first | rfl | decide | simp [up2, gs0, h_164_6, h_164_7, h_164_8, h_164_9, h_164_10, h_160_5, h_160_6, h_172_0]) (by first | rfl | decide | simp [up2, gs0, h_164_6, h_164_7, h_164_8, h_164_9, h_164_10, h_160_5, h_160_6, h_172_0]) (by first | rfl | decide | simp [up2, gs0, h_164_6, h_164_7, h_164_8, h_164_9, h_164_10, h_160_5, h_160_6, h_172_0]) (by first | rfl | decide | simp [up2, gs0, h_164_6, h_164_7, h_164_8, h_164_9, h_164_10, h_160_5, h_160_6, h_172_0])) cw_X9_86 t_160 cl_10 ⟨Nat.le_of_ble_eq_true rfl, Nat.le_of_ble_eq_true rfl⟩ rfl hl.1 rfl (Nat.le_of_ble_eq_true rfl) ⟨Nat.le_of_ble_eq_true rfl, Nat.le_of_ble_eq_true rfl⟩ dX9_go_2 (fun σ_1 τ_1 H locs hp hw => ?_)
  obtain ⟨es_1, et_1⟩ := hp
  obtain rfl := es_1.symm
  obtain rfl := et_1.symm
  refine lv_iconst (v := 0) hx hb dX9_go_5 (by decide) ?_
  refine lv_istore_n (lv' := [(2, .int 0), (0, .ref (E.2.2 + 160)), (1, .int 0)]) hx hb dX9_go_6 rfl hl (by decide) rfl (fun ls hl => ?_)
  refine lv_iload_n hx hb dX9_go_7 rfl (lv_at hl 0 rfl) ?_
  refine lv_sipush (v := 300) hx hb dX9_go_8 (by decide) ?_
  refine lv_icmp_gt (tgt := 103) hx hb dX9_go_11 (by decide) (fun h => absurd h (by decide)) (fun _ => ?_)
  refine lv_aload_n hx hb dX9_go_14 rfl (lv_at hl 1 rfl) ?_
  refine gx_getr (j := 171) S hK hw t_160 cl_10 8 (by decide) rfl mw_425 rfl dX9_go_15 ?_
  refine gx_get S hK hw t_171 cl_7 10 (by decide) rfl mw_285 rfl dX9_go_18 ?_
  refine gx_top (v := 0) (by first | rfl | decide | simp [up2, gs0, h_164_6, h_164_7, h_164_8, h_164_9, h_164_10, h_160_5, h_160_6, h_172_0]) ?_
  refine lv_aload_n hx hb dX9_go_21 rfl (lv_at hl 1 rfl) ?_
  refine gx_getr (j := 158) S hK hw t_160 cl_10 1 (by decide) rfl mw_417 rfl dX9_go_22 ?_
  refine gx_get S hK hw t_158 cl_2 5 (by decide) rfl mw_377 rfl dX9_go_25 ?_
  refine gx_top (v := 0) (by first | rfl | decide | simp [up2, gs0, h_164_6, h_164_7, h_164_8, h_164_9, h_164_10, h_160_5, h_160_6, h_172_0]) ?_
  refine lv_ior hx hb dX9_go_28 ?_
  refine gx_top (v := 0) (by decide) ?_
  refine lv_aload_n hx hb dX9_go_29 rfl (lv_at hl 1 rfl) ?_
  refine gx_get S hK hw t_160 cl_10 5 (by decide) rfl mw_421 rfl dX9_go_30 ?_
  refine gx_top (v := 0) (by first | rfl | decide | simp [up2, gs0, h_164_6, h_164_7, h_164_8, h_164_9, h_164_10, h_160_5, h_160_6, h_172_0]) ?_
  refine lv_iand hx hb dX9_go_33 ?_
  refine gx_top (v := 0) (by decide) ?_
  refine lv_if_eq (tgt := 39) hx hb dX9_go_34 (by decide) (fun _ => ?_) (fun h => absurd (by decide) h)
  refine lv_aload_n hx hb dX9_go_39 rfl (lv_at hl 1 rfl) ?_
  refine gx_getr (j := 171) S hK hw t_160 cl_10 8 (by decide) rfl mw_425 rfl dX9_go_40 ?_
  refine gx_get S hK hw t_171 cl_7 9 (by decide) rfl mw_282 rfl dX9_go_43 ?_
  refine gx_top (v := 0) (by first | rfl | decide | simp [up2, gs0, h_164_6, h_164_7, h_164_8, h_164_9, h_164_10, h_160_5, h_160_6, h_172_0]) ?_
  refine lv_aload_n hx hb dX9_go_46 rfl (lv_at hl 1 rfl) ?_
  refine gx_get S hK hw t_160 cl_10 5 (by decide) rfl mw_421 rfl dX9_go_47 ?_
  refine gx_top (v := 0) (by first | rfl | decide | simp [up2, gs0, h_164_6, h_164_7, h_164_8, h_164_9, h_164_10, h_160_5, h_160_6, h_172_0]) ?_
  refine lv_iand hx hb dX9_go_50 ?_
  refine gx_top (v := 0) (by decide) ?_
  refine lv_aload_n hx hb dX9_go_51 rfl (lv_at hl 1 rfl) ?_
  refine gx_get S hK hw t_160 cl_10 5 (by decide) rfl mw_421 rfl dX9_go_52 ?_
  refine gx_top (v := 0) (by first | rfl | decide | simp [up2, gs0, h_164_6, h_164_7, h_164_8, h_164_9, h_164_10, h_160_5, h_160_6, h_172_0]) ?_
  refine lv_icmp_ne (tgt := 79) hx hb dX9_go_55 (by decide) (fun h => absurd (by decide) h) (fun _ => ?_)
  refine lv_iload_n hx hb dX9_go_58 rfl (lv_at hl 0 rfl) ?_
  refine lv_bipush (v := 16) hx hb dX9_go_59 (by decide) ?_
  refine lv_imul hx hb dX9_go_61 ?_
  refine gx_top (v := 0) (by decide) ?_
  refine lv_iconst (v := 0) hx hb dX9_go_62 (by decide) ?_
  refine lv_aload_n hx hb dX9_go_63 rfl (lv_at hl 1 rfl) ?_
  refine gx_getr (j := 171) S hK hw t_160 cl_10 8 (by decide) rfl mw_425 rfl dX9_go_64 ?_
  refine lv_aload_n hx hb dX9_go_67 rfl (lv_at hl 1 rfl) ?_
  refine gx_get S hK hw t_160 cl_10 6 (by decide) rfl mw_422 rfl dX9_go_68 ?_
  refine gx_top (v := 0) (by first | rfl | decide | simp [up2, gs0, h_164_6, h_164_7, h_164_8, h_164_9, h_164_10, h_160_5, h_160_6, h_172_0]) ?_
  refine gx_cVi (As := [.int 0]) (rest := [.int 0, .int 0]) S hK gx_ok hw (c_Scene_spotOf0 l (E := E) (up2 (up2 (up2 (up2 (up2 (up2 (up2 (up2 ((σ)) 171 6 0) 171 7 0) 171 8 0) 171 9 0) 171 10 0) 171 7 0) 158 4 0) 158 5 0) (τ) (by first | rfl | decide | simp [up2, gs0, h_164_6, h_164_7, h_164_8, h_164_9, h_164_10, h_160_5, h_160_6, h_172_0])) cw_X9_95 t_171 cl_7 ⟨Nat.le_of_ble_eq_true rfl, Nat.le_of_ble_eq_true rfl⟩ rfl hl.1 rfl (Nat.le_of_ble_eq_true rfl) ⟨Nat.le_of_ble_eq_true rfl, Nat.le_of_ble_eq_true rfl⟩ dX9_go_71 (fun r_2 σ_2 τ_2 H locs hp hw => ?_)
  obtain ⟨er_2, es_2, et_2⟩ := hp
  obtain rfl := er_2.symm
  obtain rfl := es_2.symm
  obtain rfl := et_2.symm
  refine gx_max (w := 0) S hl.1 mw_1097 mw_577 mw_102 mw_578 ⟨Nat.le_of_ble_eq_true rfl, Nat.le_of_ble_eq_true rfl⟩ ⟨Nat.le_of_ble_eq_true rfl, Nat.le_of_ble_eq_true rfl⟩ dX9_go_74 (by decide) ?_
  refine lv_iadd hx hb dX9_go_77 ?_
  refine gx_top (v := 0) (by decide) ?_
  exact gx_ri (post := fun r σ1 τ1 => r = 0 ∧ σ1 = up2 (up2 (up2 (up2 (up2 (up2 (up2 (up2 (σ) 171 6 0) 171 7 0) 171 8 0) 171 9 0) 171 10 0) 171 7 0) 158 4 0) 158 5 0 ∧ τ1 = τ) (v := 0) S hr hlk hw rfl dX9_go_78 ⟨rfl, (by first | rfl | simp [up2, upJ]), (by first | rfl | simp [up2, upJ])⟩
set_option maxHeartbeats 4000000 in
set_option maxRecDepth 100000 in
theorem c_remember (l : Launch) {E : gE} (σ : gI) (τ : gJ) (v : Int32)  : gx_Mv l yX9_remember cX9_remember 3 none 0 gx_tb E (σ) (τ) [.ref (E.2.2 + 160), .int 0, .int v] (fun σ1 τ1 => σ1 = up2 σ 161 0 v ∧ τ1 = τ) := by
  refine gx_bv (by decide +kernel) (Nat.le_of_ble_eq_true rfl) ?_
  intro P9 e9 s m9 below meth C9 S hr hlk hK hw ls hl
  have S : CallFix P9 m9 C9 cX9_remember 3 s _ gx_G RX9 := S
  have hx := S.1
  have hb := S.2.1
  have hl : lv_has ls 3 [(0, .ref (E.2.2 + 160)), (1, .int 0), (2, .int v)] := hl
  refine lv_iload_n hx hb dX9_remember_0 rfl (lv_at hl 1 rfl) ?_
  refine lv_if_lt (tgt := 18) hx hb dX9_remember_1 (by decide) (fun h => absurd h (by decide)) (fun _ => ?_)
  refine lv_iload_n hx hb dX9_remember_4 rfl (lv_at hl 1 rfl) ?_
  refine lv_sipush (v := 4096) hx hb dX9_remember_5 (by decide) ?_
  refine lv_icmp_ge (tgt := 18) hx hb dX9_remember_8 (by decide) (fun h => absurd h (by decide)) (fun _ => ?_)
  refine lv_aload_n hx hb dX9_remember_11 rfl (lv_at hl 0 rfl) ?_
  refine gx_getr (j := 161) S hK hw t_160 cl_10 2 (by decide) rfl mw_418 rfl dX9_remember_12 ?_
  refine lv_iload_n hx hb dX9_remember_15 rfl (lv_at hl 1 rfl) ?_
  refine lv_iload_n hx hb dX9_remember_16 rfl (lv_at hl 2 rfl) ?_
  refine gx_iast S hK gx_ok hw t_161 0 rfl (gx_in rfl (by decide) (by decide)) dX9_remember_17 (fun H locs hw => ?_)
  exact gx_rv (post := fun σ1 τ1 => σ1 = up2 σ 161 0 v ∧ τ1 = τ) S hr hlk hw dX9_remember_18 ⟨(by first | rfl | simp [up2, upJ]), rfl⟩
set_option maxHeartbeats 4000000 in
set_option maxRecDepth 100000 in
theorem c_forgetSets (l : Launch) {E : gE} (σ : gI) (τ : gJ)  (h_3_7 : σ 3 7 = 0) (h_3_8 : σ 3 8 = 1) : gx_Mv l yX9_forgetSets cX9_forgetSets 3 none 1 gx_tb E (σ) (τ) [.ref (E.2.2 + 160)] (fun σ1 τ1 => σ1 = up2 σ 161 0 (-2) ∧ τ1 = τ) := by
  refine gx_bv (by decide +kernel) (Nat.le_of_ble_eq_true rfl) ?_
  intro P9 e9 s m9 below meth C9 S hr hlk hK hw ls hl
  have S : CallFix P9 m9 C9 cX9_forgetSets 3 s _ gx_G RX9 := S
  have hx := S.1
  have hb := S.2.1
  have hl : lv_has ls 3 [(0, .ref (E.2.2 + 160))] := hl
  refine lv_iconst (v := 0) hx hb dX9_forgetSets_0 (by decide) ?_
  refine lv_istore_n (lv' := [(1, .int 0), (0, .ref (E.2.2 + 160))]) hx hb dX9_forgetSets_1 rfl hl (by decide) rfl (fun ls hl => ?_)
  refine lv_iconst (v := 0) hx hb dX9_forgetSets_2 (by decide) ?_
  refine lv_istore_n (lv' := [(2, .int 0), (1, .int 0), (0, .ref (E.2.2 + 160))]) hx hb dX9_forgetSets_3 rfl hl (by decide) rfl (fun ls hl => ?_)
  refine lv_iload_n hx hb dX9_forgetSets_4 rfl (lv_at hl 0 rfl) ?_
  refine lv_aload_n hx hb dX9_forgetSets_5 rfl (lv_at hl 2 rfl) ?_
  refine gx_getr (j := 3) S hK hw t_160 cl_10 0 (by decide) rfl mw_416 rfl dX9_forgetSets_6 ?_
  refine gx_get S hK hw t_3 cl_9 8 (by decide) rfl mw_160 rfl dX9_forgetSets_9 ?_
  refine gx_top (v := 1) (by first | rfl | decide | simp [up2, gs0, h_3_7, h_3_8]) ?_
  refine lv_icmp_ge (tgt := 37) hx hb dX9_forgetSets_12 (by decide) (fun h => absurd h (by decide)) (fun _ => ?_)
  refine lv_aload_n hx hb dX9_forgetSets_15 rfl (lv_at hl 2 rfl) ?_
  refine lv_iload_n hx hb dX9_forgetSets_16 rfl (lv_at hl 1 rfl) ?_
  refine lv_bipush (v := (-2)) hx hb dX9_forgetSets_17 (by decide) ?_
  refine gx_cVv (As := [.int 0, .int (-2)]) (rest := []) S hK gx_ok hw (c_remember l (E := E) (σ) (τ) (-2) ) cw_X9_121 t_160 cl_10 ⟨Nat.le_of_ble_eq_true rfl, Nat.le_of_ble_eq_true rfl⟩ rfl hl.1 rfl (Nat.le_of_ble_eq_true rfl) ⟨Nat.le_of_ble_eq_true rfl, Nat.le_of_ble_eq_true rfl⟩ dX9_forgetSets_19 (fun σ_1 τ_1 H locs hp hw => ?_)
  obtain ⟨es_1, et_1⟩ := hp
  obtain rfl := es_1.symm
  obtain rfl := et_1.symm
  refine lv_aload_n hx hb dX9_forgetSets_22 rfl (lv_at hl 2 rfl) ?_
  refine gx_getr (j := 3) S hK hw t_160 cl_10 0 (by decide) rfl mw_416 rfl dX9_forgetSets_23 ?_
  refine lv_iload_n hx hb dX9_forgetSets_26 rfl (lv_at hl 1 rfl) ?_
  refine gx_cVi (As := [.int 0]) (rest := []) S hK gx_ok hw (c_Town_nextSet l (E := E) (up2 (σ) 161 0 (-2)) (τ) (by first | rfl | decide | simp [up2, gs0, h_3_7, h_3_8])) cw_X9_125 t_3 cl_9 ⟨Nat.le_of_ble_eq_true rfl, Nat.le_of_ble_eq_true rfl⟩ rfl hl.1 rfl (Nat.le_of_ble_eq_true rfl) ⟨Nat.le_of_ble_eq_true rfl, Nat.le_of_ble_eq_true rfl⟩ dX9_forgetSets_27 (fun r_2 σ_2 τ_2 H locs hp hw => ?_)
  obtain ⟨er_2, es_2, et_2⟩ := hp
  obtain rfl := er_2.symm
  obtain rfl := es_2.symm
  obtain rfl := et_2.symm
  refine lv_istore_n (lv' := [(1, .int 0), (2, .int 0), (0, .ref (E.2.2 + 160))]) hx hb dX9_forgetSets_30 rfl hl (by decide) rfl (fun ls hl => ?_)
  refine lv_iinc (v := 1) (lv' := [(2, .int 1), (1, .int 0), (0, .ref (E.2.2 + 160))]) hx hb dX9_forgetSets_31 hl (k := 1) rfl (by decide) (by decide) rfl (fun ls hl => ?_)
  refine lv_goto (tgt := 4) hx hb dX9_forgetSets_34 (by decide) ?_
  refine lv_iload_n hx hb dX9_forgetSets_4 rfl (lv_at hl 0 rfl) ?_
  refine lv_aload_n hx hb dX9_forgetSets_5 rfl (lv_at hl 2 rfl) ?_
  refine gx_getr (j := 3) S hK hw t_160 cl_10 0 (by decide) rfl mw_416 rfl dX9_forgetSets_6 ?_
  refine gx_get S hK hw t_3 cl_9 8 (by decide) rfl mw_160 rfl dX9_forgetSets_9 ?_
  refine gx_top (v := 1) (by first | rfl | decide | simp [up2, gs0, h_3_7, h_3_8]) ?_
  refine lv_icmp_ge (tgt := 37) hx hb dX9_forgetSets_12 (by decide) (fun _ => ?_) (fun h => absurd (by decide) h)
  exact gx_rv (post := fun σ1 τ1 => σ1 = up2 σ 161 0 (-2) ∧ τ1 = τ) S hr hlk hw dX9_forgetSets_37 ⟨(by first | rfl | simp [up2, upJ]), (by first | rfl | simp [up2, upJ])⟩
set_option maxHeartbeats 4000000 in
set_option maxRecDepth 100000 in
theorem c_spread (l : Launch) {E : gE} (σ : gI) (τ : gJ)  (h_3_7 : σ 3 7 = 0) (h_158_4 : σ 158 4 = 0) : gx_Mv l yX9_spread cX9_spread 7 none 1 gx_tb E (σ) (τ) [.ref (E.2.2 + 160), .int 0, .int 0] (fun σ1 τ1 => σ1 = up2 σ 161 0 0 ∧ τ1 = τ) := by
  refine gx_bv (by decide +kernel) (Nat.le_of_ble_eq_true rfl) ?_
  intro P9 e9 s m9 below meth C9 S hr hlk hK hw ls hl
  have S : CallFix P9 m9 C9 cX9_spread 7 s _ gx_G RX9 := S
  have hx := S.1
  have hb := S.2.1
  have hl : lv_has ls 7 [(0, .ref (E.2.2 + 160)), (1, .int 0), (2, .int 0)] := hl
  refine lv_aload_n hx hb dX9_spread_0 rfl (lv_at hl 0 rfl) ?_
  refine gx_getr (j := 3) S hK hw t_160 cl_10 0 (by decide) rfl mw_416 rfl dX9_spread_1 ?_
  refine gx_get S hK hw t_3 cl_9 7 (by decide) rfl mw_157 rfl dX9_spread_4 ?_
  refine gx_top (v := 0) (by first | rfl | decide | simp [up2, gs0, h_3_7, h_158_4]) ?_
  refine lv_aload_n hx hb dX9_spread_7 rfl (lv_at hl 0 rfl) ?_
  refine gx_getr (j := 158) S hK hw t_160 cl_10 1 (by decide) rfl mw_417 rfl dX9_spread_8 ?_
  refine gx_get S hK hw t_158 cl_2 4 (by decide) rfl mw_375 rfl dX9_spread_11 ?_
  refine gx_top (v := 0) (by first | rfl | decide | simp [up2, gs0, h_3_7, h_158_4]) ?_
  refine lv_iconst (v := (-1)) hx hb dX9_spread_14 (by decide) ?_
  refine lv_ixor hx hb dX9_spread_15 ?_
  refine gx_top (v := (-1)) (by decide) ?_
  refine lv_iand hx hb dX9_spread_16 ?_
  refine gx_top (v := 0) (by decide) ?_
  refine lv_istore_n (lv' := [(3, .int 0), (0, .ref (E.2.2 + 160)), (1, .int 0), (2, .int 0)]) hx hb dX9_spread_17 rfl hl (by decide) rfl (fun ls hl => ?_)
  refine lv_iconst (v := 1) hx hb dX9_spread_18 (by decide) ?_
  refine lv_iload_n hx hb dX9_spread_19 rfl (lv_at hl 0 rfl) ?_
  refine gx_cSi (As := [.int 0]) (rest := [.int 1]) S hK gx_ok hw (c_bitCount0 l (E := E) (σ) (τ) ) cw_X9_137 ⟨Nat.le_of_ble_eq_true rfl, Nat.le_of_ble_eq_true rfl⟩ rfl hl.1 rfl (Nat.le_of_ble_eq_true rfl) ⟨Nat.le_of_ble_eq_true rfl, Nat.le_of_ble_eq_true rfl⟩ dX9_spread_20 (fun r_1 σ_1 τ_1 H locs hp hw => ?_)
  obtain ⟨er_1, es_1, et_1⟩ := hp
  obtain rfl := er_1.symm
  obtain rfl := es_1.symm
  obtain rfl := et_1.symm
  refine lv_ishl hx hb dX9_spread_23 ?_
  refine gx_top (v := 1) (by decide) ?_
  refine lv_istore (lv' := [(4, .int 1), (3, .int 0), (0, .ref (E.2.2 + 160)), (1, .int 0), (2, .int 0)]) hx hb dX9_spread_24 hl (by decide) rfl (fun ls hl => ?_)
  refine lv_iconst (v := 0) hx hb dX9_spread_26 (by decide) ?_
  refine lv_istore (lv' := [(5, .int 0), (4, .int 1), (3, .int 0), (0, .ref (E.2.2 + 160)), (1, .int 0), (2, .int 0)]) hx hb dX9_spread_27 hl (by decide) rfl (fun ls hl => ?_)
  refine lv_iconst (v := 0) hx hb dX9_spread_29 (by decide) ?_
  refine lv_istore (lv' := [(6, .int 0), (5, .int 0), (4, .int 1), (3, .int 0), (0, .ref (E.2.2 + 160)), (1, .int 0), (2, .int 0)]) hx hb dX9_spread_30 hl (by decide) rfl (fun ls hl => ?_)
  refine lv_iload hx hb dX9_spread_32 (lv_at hl 0 rfl) ?_
  refine lv_iload hx hb dX9_spread_34 (lv_at hl 2 rfl) ?_
  refine lv_icmp_ge (tgt := 66) hx hb dX9_spread_36 (by decide) (fun h => absurd h (by decide)) (fun _ => ?_)
  refine lv_aload_n hx hb dX9_spread_39 rfl (lv_at hl 4 rfl) ?_
  refine lv_iload_n hx hb dX9_spread_40 rfl (lv_at hl 5 rfl) ?_
  refine lv_iload_n hx hb dX9_spread_41 rfl (lv_at hl 3 rfl) ?_
  refine lv_iconst (v := (-1)) hx hb dX9_spread_42 (by decide) ?_
  refine lv_ixor hx hb dX9_spread_43 ?_
  refine gx_top (v := (-1)) (by decide) ?_
  refine lv_iand hx hb dX9_spread_44 ?_
  refine gx_top (v := 0) (by decide) ?_
  refine lv_iload hx hb dX9_spread_45 (lv_at hl 1 rfl) ?_
  refine lv_ior hx hb dX9_spread_47 ?_
  refine gx_top (v := 0) (by decide) ?_
  refine lv_iload_n hx hb dX9_spread_48 rfl (lv_at hl 6 rfl) ?_
  refine gx_cVv (As := [.int 0, .int 0]) (rest := []) S hK gx_ok hw (c_remember l (E := E) (σ) (τ) 0 ) cw_X9_121 t_160 cl_10 ⟨Nat.le_of_ble_eq_true rfl, Nat.le_of_ble_eq_true rfl⟩ rfl hl.1 rfl (Nat.le_of_ble_eq_true rfl) ⟨Nat.le_of_ble_eq_true rfl, Nat.le_of_ble_eq_true rfl⟩ dX9_spread_49 (fun σ_2 τ_2 H locs hp hw => ?_)
  obtain ⟨es_2, et_2⟩ := hp
  obtain rfl := es_2.symm
  obtain rfl := et_2.symm
  refine lv_iload hx hb dX9_spread_52 (lv_at hl 1 rfl) ?_
  refine lv_iload_n hx hb dX9_spread_54 rfl (lv_at hl 3 rfl) ?_
  refine lv_isub hx hb dX9_spread_55 ?_
  refine gx_top (v := 0) (by decide) ?_
  refine lv_iload_n hx hb dX9_spread_56 rfl (lv_at hl 3 rfl) ?_
  refine lv_iand hx hb dX9_spread_57 ?_
  refine gx_top (v := 0) (by decide) ?_
  refine lv_istore (lv' := [(5, .int 0), (6, .int 0), (4, .int 1), (3, .int 0), (0, .ref (E.2.2 + 160)), (1, .int 0), (2, .int 0)]) hx hb dX9_spread_58 hl (by decide) rfl (fun ls hl => ?_)
  refine lv_iinc (v := 1) (lv' := [(6, .int 1), (5, .int 0), (4, .int 1), (3, .int 0), (0, .ref (E.2.2 + 160)), (1, .int 0), (2, .int 0)]) hx hb dX9_spread_60 hl (k := 1) rfl (by decide) (by decide) rfl (fun ls hl => ?_)
  refine lv_goto (tgt := 32) hx hb dX9_spread_63 (by decide) ?_
  refine lv_iload hx hb dX9_spread_32 (lv_at hl 0 rfl) ?_
  refine lv_iload hx hb dX9_spread_34 (lv_at hl 2 rfl) ?_
  refine lv_icmp_ge (tgt := 66) hx hb dX9_spread_36 (by decide) (fun _ => ?_) (fun h => absurd (by decide) h)
  exact gx_rv (post := fun σ1 τ1 => σ1 = up2 σ 161 0 0 ∧ τ1 = τ) S hr hlk hw dX9_spread_66 ⟨(by first | rfl | simp [up2, upJ]), (by first | rfl | simp [up2, upJ])⟩
set_option maxHeartbeats 4000000 in
set_option maxRecDepth 100000 in
theorem c_outcome (l : Launch) {E : gE} (σ : gI) (τ : gJ)  (h_164_6 : σ 164 6 = 0) (h_164_7 : σ 164 7 = 0) (h_164_8 : σ 164 8 = 0) (h_164_9 : σ 164 9 = 0) (h_164_10 : σ 164 10 = 0) (h_160_5 : σ 160 5 = 0) (h_160_6 : σ 160 6 = 0) (h_172_0 : σ 172 0 = 0) (h_161_0 : σ 161 0 = -2) (h_3_7 : σ 3 7 = 0) : gx_Mi l yX9_outcome cX9_outcome 2 (some .int) 3 gx_tb E (σ) (τ) [.ref (E.2.2 + 160), .int 0] (fun r σ1 τ1 => r = 0 ∧ σ1 = up2 (up2 (up2 (up2 (up2 (up2 (up2 (up2 (up2 (σ) 171 6 0) 171 7 0) 171 8 0) 171 9 0) 171 10 0) 171 7 0) 158 4 0) 158 5 0) 161 0 0 ∧ τ1 = τ) := by
  refine gx_bi (by decide +kernel) (Nat.le_of_ble_eq_true rfl) ?_
  intro P9 e9 s m9 below meth C9 S hr hlk hK hw ls hl
  have S : CallFix P9 m9 C9 cX9_outcome 2 s _ gx_G RX9 := S
  have hx := S.1
  have hb := S.2.1
  have hl : lv_has ls 2 [(0, .ref (E.2.2 + 160)), (1, .int 0)] := hl
  refine lv_iload_n hx hb dX9_outcome_0 rfl (lv_at hl 1 rfl) ?_
  refine lv_if_lt (tgt := 11) hx hb dX9_outcome_1 (by decide) (fun h => absurd h (by decide)) (fun _ => ?_)
  refine lv_iload_n hx hb dX9_outcome_4 rfl (lv_at hl 1 rfl) ?_
  refine lv_sipush (v := 4096) hx hb dX9_outcome_5 (by decide) ?_
  refine lv_icmp_lt (tgt := 13) hx hb dX9_outcome_8 (by decide) (fun _ => ?_) (fun h => absurd (by decide) h)
  refine lv_aload_n hx hb dX9_outcome_13 rfl (lv_at hl 0 rfl) ?_
  refine gx_getr (j := 161) S hK hw t_160 cl_10 2 (by decide) rfl mw_418 rfl dX9_outcome_14 ?_
  refine lv_iload_n hx hb dX9_outcome_17 rfl (lv_at hl 1 rfl) ?_
  refine gx_iald S hK hw t_161 0 rfl (gx_in rfl (by decide) (by decide)) dX9_outcome_18 ?_
  refine gx_top (v := (-2)) (by first | rfl | decide | simp [up2, gs0, h_164_6, h_164_7, h_164_8, h_164_9, h_164_10, h_160_5, h_160_6, h_172_0, h_161_0, h_3_7]) ?_
  refine lv_bipush (v := (-2)) hx hb dX9_outcome_19 (by decide) ?_
  refine lv_icmp_ne (tgt := 34) hx hb dX9_outcome_21 (by decide) (fun h => absurd (by decide) h) (fun _ => ?_)
  refine lv_aload_n hx hb dX9_outcome_24 rfl (lv_at hl 0 rfl) ?_
  refine lv_iload_n hx hb dX9_outcome_25 rfl (lv_at hl 1 rfl) ?_
  refine lv_aload_n hx hb dX9_outcome_26 rfl (lv_at hl 0 rfl) ?_
  refine lv_iload_n hx hb dX9_outcome_27 rfl (lv_at hl 1 rfl) ?_
  refine gx_cVi (As := [.int 0]) (rest := [.int 0, .ref (E.2.2 + 160)]) S hK gx_ok hw (c_go l (E := E) (σ) (τ) (by first | rfl | decide | simp [up2, gs0, h_164_6, h_164_7, h_164_8, h_164_9, h_164_10, h_160_5, h_160_6, h_172_0, h_161_0, h_3_7]) (by first | rfl | decide | simp [up2, gs0, h_164_6, h_164_7, h_164_8, h_164_9, h_164_10, h_160_5, h_160_6, h_172_0, h_161_0, h_3_7]) (by first | rfl | decide | simp [up2, gs0, h_164_6, h_164_7, h_164_8, h_164_9, h_164_10, h_160_5, h_160_6, h_172_0, h_161_0, h_3_7]) (by first | rfl | decide | simp [up2, gs0, h_164_6, h_164_7, h_164_8, h_164_9, h_164_10, h_160_5, h_160_6, h_172_0, h_161_0, h_3_7]) (by first | rfl | decide | simp [up2, gs0, h_164_6, h_164_7, h_164_8, h_164_9, h_164_10, h_160_5, h_160_6, h_172_0, h_161_0, h_3_7]) (by first | rfl | decide | simp [up2, gs0, h_164_6, h_164_7, h_164_8, h_164_9, h_164_10, h_160_5, h_160_6, h_172_0, h_161_0, h_3_7]) (by first | rfl | decide | simp [up2, gs0, h_164_6, h_164_7, h_164_8, h_164_9, h_164_10, h_160_5, h_160_6, h_172_0, h_161_0, h_3_7]) (by first | rfl | decide | simp [up2, gs0, h_164_6, h_164_7, h_164_8, h_164_9, h_164_10, h_160_5, h_160_6, h_172_0, h_161_0, h_3_7])) cw_X9_128 t_160 cl_10 ⟨Nat.le_of_ble_eq_true rfl, Nat.le_of_ble_eq_true rfl⟩ rfl hl.1 rfl (Nat.le_of_ble_eq_true rfl) ⟨Nat.le_of_ble_eq_true rfl, Nat.le_of_ble_eq_true rfl⟩ dX9_outcome_28 (fun r_1 σ_1 τ_1 H locs hp hw => ?_)
  obtain ⟨er_1, es_1, et_1⟩ := hp
  obtain rfl := er_1.symm
  obtain rfl := es_1.symm
  obtain rfl := et_1.symm
  refine gx_cVv (As := [.int 0, .int 0]) (rest := []) S hK gx_ok hw (c_spread l (E := E) (up2 (up2 (up2 (up2 (up2 (up2 (up2 (up2 ((σ)) 171 6 0) 171 7 0) 171 8 0) 171 9 0) 171 10 0) 171 7 0) 158 4 0) 158 5 0) (τ) (by first | rfl | decide | simp [up2, gs0, h_164_6, h_164_7, h_164_8, h_164_9, h_164_10, h_160_5, h_160_6, h_172_0, h_161_0, h_3_7]) (by first | rfl | decide | simp [up2, gs0, h_164_6, h_164_7, h_164_8, h_164_9, h_164_10, h_160_5, h_160_6, h_172_0, h_161_0, h_3_7])) cw_X9_131 t_160 cl_10 ⟨Nat.le_of_ble_eq_true rfl, Nat.le_of_ble_eq_true rfl⟩ rfl hl.1 rfl (Nat.le_of_ble_eq_true rfl) ⟨Nat.le_of_ble_eq_true rfl, Nat.le_of_ble_eq_true rfl⟩ dX9_outcome_31 (fun σ_2 τ_2 H locs hp hw => ?_)
  obtain ⟨es_2, et_2⟩ := hp
  obtain rfl := es_2.symm
  obtain rfl := et_2.symm
  refine lv_aload_n hx hb dX9_outcome_34 rfl (lv_at hl 0 rfl) ?_
  refine gx_getr (j := 161) S hK hw t_160 cl_10 2 (by decide) rfl mw_418 rfl dX9_outcome_35 ?_
  refine lv_iload_n hx hb dX9_outcome_38 rfl (lv_at hl 1 rfl) ?_
  refine gx_iald S hK hw t_161 0 rfl (gx_in rfl (by decide) (by decide)) dX9_outcome_39 ?_
  refine gx_top (v := 0) (by first | rfl | decide | simp [up2, gs0, h_164_6, h_164_7, h_164_8, h_164_9, h_164_10, h_160_5, h_160_6, h_172_0, h_161_0, h_3_7]) ?_
  exact gx_ri (post := fun r σ1 τ1 => r = 0 ∧ σ1 = up2 (up2 (up2 (up2 (up2 (up2 (up2 (up2 (up2 (σ) 171 6 0) 171 7 0) 171 8 0) 171 9 0) 171 10 0) 171 7 0) 158 4 0) 158 5 0) 161 0 0 ∧ τ1 = τ) (v := 0) S hr hlk hw rfl dX9_outcome_40 ⟨rfl, (by first | rfl | simp [up2, upJ]), (by first | rfl | simp [up2, upJ])⟩
set_option maxHeartbeats 4000000 in
set_option maxRecDepth 100000 in
theorem c_fits (l : Launch) {E : gE} (σ : gI) (τ : gJ)  (h_162_0 : σ 162 0 = 1) : gx_Mi l yX9_fits cX9_fits 2 (some .boolean) 0 gx_tb E (σ) (τ) [.ref (E.2.2 + 160), .int 0] (fun r σ1 τ1 => r = 1 ∧ σ1 = σ ∧ τ1 = τ) := by
  refine gx_bi (by decide +kernel) (Nat.le_of_ble_eq_true rfl) ?_
  intro P9 e9 s m9 below meth C9 S hr hlk hK hw ls hl
  have S : CallFix P9 m9 C9 cX9_fits 2 s _ gx_G RX9 := S
  have hx := S.1
  have hb := S.2.1
  have hl : lv_has ls 2 [(0, .ref (E.2.2 + 160)), (1, .int 0)] := hl
  refine lv_iload_n hx hb dX9_fits_0 rfl (lv_at hl 1 rfl) ?_
  refine lv_if_lt (tgt := 24) hx hb dX9_fits_1 (by decide) (fun h => absurd h (by decide)) (fun _ => ?_)
  refine lv_iload_n hx hb dX9_fits_4 rfl (lv_at hl 1 rfl) ?_
  refine lv_sipush (v := 4096) hx hb dX9_fits_5 (by decide) ?_
  refine lv_icmp_ge (tgt := 24) hx hb dX9_fits_8 (by decide) (fun h => absurd h (by decide)) (fun _ => ?_)
  refine lv_aload_n hx hb dX9_fits_11 rfl (lv_at hl 0 rfl) ?_
  refine gx_getr (j := 162) S hK hw t_160 cl_10 3 (by decide) rfl mw_419 rfl dX9_fits_12 ?_
  refine lv_iload_n hx hb dX9_fits_15 rfl (lv_at hl 1 rfl) ?_
  refine gx_zald S hK hw t_162 0 rfl (gx_in rfl (by decide) (by decide)) dX9_fits_16 ?_
  refine gx_top (v := 1) (by first | rfl | decide | simp [up2, gs0, h_162_0]) ?_
  refine lv_if_eq (tgt := 24) hx hb dX9_fits_17 (by decide) (fun h => absurd h (by decide)) (fun _ => ?_)
  refine lv_iconst (v := 1) hx hb dX9_fits_20 (by decide) ?_
  refine lv_goto (tgt := 25) hx hb dX9_fits_21 (by decide) ?_
  exact gx_ri (post := fun r σ1 τ1 => r = 1 ∧ σ1 = σ ∧ τ1 = τ) (v := 1) S hr hlk hw rfl dX9_fits_25 ⟨rfl, rfl, rfl⟩
set_option maxHeartbeats 4000000 in
set_option maxRecDepth 100000 in
theorem c_setFitting (l : Launch) {E : gE} (σ : gI) (τ : gJ)   : gx_Mv l yX9_setFitting cX9_setFitting 3 none 0 gx_tb E (σ) (τ) [.ref (E.2.2 + 160), .int 0, .int 1] (fun σ1 τ1 => σ1 = up2 σ 162 0 1 ∧ τ1 = τ) := by
  refine gx_bv (by decide +kernel) (Nat.le_of_ble_eq_true rfl) ?_
  intro P9 e9 s m9 below meth C9 S hr hlk hK hw ls hl
  have S : CallFix P9 m9 C9 cX9_setFitting 3 s _ gx_G RX9 := S
  have hx := S.1
  have hb := S.2.1
  have hl : lv_has ls 3 [(0, .ref (E.2.2 + 160)), (1, .int 0), (2, .int 1)] := hl
  refine lv_iload_n hx hb dX9_setFitting_0 rfl (lv_at hl 1 rfl) ?_
  refine lv_if_lt (tgt := 18) hx hb dX9_setFitting_1 (by decide) (fun h => absurd h (by decide)) (fun _ => ?_)
  refine lv_iload_n hx hb dX9_setFitting_4 rfl (lv_at hl 1 rfl) ?_
  refine lv_sipush (v := 4096) hx hb dX9_setFitting_5 (by decide) ?_
  refine lv_icmp_ge (tgt := 18) hx hb dX9_setFitting_8 (by decide) (fun h => absurd h (by decide)) (fun _ => ?_)
  refine lv_aload_n hx hb dX9_setFitting_11 rfl (lv_at hl 0 rfl) ?_
  refine gx_getr (j := 162) S hK hw t_160 cl_10 3 (by decide) rfl mw_419 rfl dX9_setFitting_12 ?_
  refine lv_iload_n hx hb dX9_setFitting_15 rfl (lv_at hl 1 rfl) ?_
  refine lv_iload_n hx hb dX9_setFitting_16 rfl (lv_at hl 2 rfl) ?_
  refine gx_zast S hK gx_ok hw t_162 0 rfl (gx_in rfl (by decide) (by decide)) (by decide) dX9_setFitting_17 (fun H locs hw => ?_)
  exact gx_rv (post := fun σ1 τ1 => σ1 = up2 σ 162 0 1 ∧ τ1 = τ) S hr hlk hw dX9_setFitting_18 ⟨(by first | rfl | simp [up2, upJ]), rfl⟩
set_option maxHeartbeats 4000000 in
set_option maxRecDepth 100000 in
theorem c_fitAll (l : Launch) {E : gE} (σ : gI) (τ : gJ)  (h_3_7 : σ 3 7 = 0) (h_3_8 : σ 3 8 = 1) : gx_Mv l yX9_fitAll cX9_fitAll 3 none 1 gx_tb E (σ) (τ) [.ref (E.2.2 + 160)] (fun σ1 τ1 => σ1 = up2 σ 162 0 1 ∧ τ1 = τ) := by
  refine gx_bv (by decide +kernel) (Nat.le_of_ble_eq_true rfl) ?_
  intro P9 e9 s m9 below meth C9 S hr hlk hK hw ls hl
  have S : CallFix P9 m9 C9 cX9_fitAll 3 s _ gx_G RX9 := S
  have hx := S.1
  have hb := S.2.1
  have hl : lv_has ls 3 [(0, .ref (E.2.2 + 160))] := hl
  refine lv_iconst (v := 0) hx hb dX9_fitAll_0 (by decide) ?_
  refine lv_istore_n (lv' := [(1, .int 0), (0, .ref (E.2.2 + 160))]) hx hb dX9_fitAll_1 rfl hl (by decide) rfl (fun ls hl => ?_)
  refine lv_iconst (v := 0) hx hb dX9_fitAll_2 (by decide) ?_
  refine lv_istore_n (lv' := [(2, .int 0), (1, .int 0), (0, .ref (E.2.2 + 160))]) hx hb dX9_fitAll_3 rfl hl (by decide) rfl (fun ls hl => ?_)
  refine lv_iload_n hx hb dX9_fitAll_4 rfl (lv_at hl 0 rfl) ?_
  refine lv_aload_n hx hb dX9_fitAll_5 rfl (lv_at hl 2 rfl) ?_
  refine gx_getr (j := 3) S hK hw t_160 cl_10 0 (by decide) rfl mw_416 rfl dX9_fitAll_6 ?_
  refine gx_get S hK hw t_3 cl_9 8 (by decide) rfl mw_160 rfl dX9_fitAll_9 ?_
  refine gx_top (v := 1) (by first | rfl | decide | simp [up2, gs0, h_3_7, h_3_8]) ?_
  refine lv_icmp_ge (tgt := 36) hx hb dX9_fitAll_12 (by decide) (fun h => absurd h (by decide)) (fun _ => ?_)
  refine lv_aload_n hx hb dX9_fitAll_15 rfl (lv_at hl 2 rfl) ?_
  refine lv_iload_n hx hb dX9_fitAll_16 rfl (lv_at hl 1 rfl) ?_
  refine lv_iconst (v := 1) hx hb dX9_fitAll_17 (by decide) ?_
  refine gx_cVv (As := [.int 0, .int 1]) (rest := []) S hK gx_ok hw (c_setFitting l (E := E) (σ) (τ) ) cw_X9_142 t_160 cl_10 ⟨Nat.le_of_ble_eq_true rfl, Nat.le_of_ble_eq_true rfl⟩ rfl hl.1 rfl (Nat.le_of_ble_eq_true rfl) ⟨Nat.le_of_ble_eq_true rfl, Nat.le_of_ble_eq_true rfl⟩ dX9_fitAll_18 (fun σ_1 τ_1 H locs hp hw => ?_)
  obtain ⟨es_1, et_1⟩ := hp
  obtain rfl := es_1.symm
  obtain rfl := et_1.symm
  refine lv_aload_n hx hb dX9_fitAll_21 rfl (lv_at hl 2 rfl) ?_
  refine gx_getr (j := 3) S hK hw t_160 cl_10 0 (by decide) rfl mw_416 rfl dX9_fitAll_22 ?_
  refine lv_iload_n hx hb dX9_fitAll_25 rfl (lv_at hl 1 rfl) ?_
  refine gx_cVi (As := [.int 0]) (rest := []) S hK gx_ok hw (c_Town_nextSet l (E := E) (up2 (σ) 162 0 1) (τ) (by first | rfl | decide | simp [up2, gs0, h_3_7, h_3_8])) cw_X9_125 t_3 cl_9 ⟨Nat.le_of_ble_eq_true rfl, Nat.le_of_ble_eq_true rfl⟩ rfl hl.1 rfl (Nat.le_of_ble_eq_true rfl) ⟨Nat.le_of_ble_eq_true rfl, Nat.le_of_ble_eq_true rfl⟩ dX9_fitAll_26 (fun r_2 σ_2 τ_2 H locs hp hw => ?_)
  obtain ⟨er_2, es_2, et_2⟩ := hp
  obtain rfl := er_2.symm
  obtain rfl := es_2.symm
  obtain rfl := et_2.symm
  refine lv_istore_n (lv' := [(1, .int 0), (2, .int 0), (0, .ref (E.2.2 + 160))]) hx hb dX9_fitAll_29 rfl hl (by decide) rfl (fun ls hl => ?_)
  refine lv_iinc (v := 1) (lv' := [(2, .int 1), (1, .int 0), (0, .ref (E.2.2 + 160))]) hx hb dX9_fitAll_30 hl (k := 1) rfl (by decide) (by decide) rfl (fun ls hl => ?_)
  refine lv_goto (tgt := 4) hx hb dX9_fitAll_33 (by decide) ?_
  refine lv_iload_n hx hb dX9_fitAll_4 rfl (lv_at hl 0 rfl) ?_
  refine lv_aload_n hx hb dX9_fitAll_5 rfl (lv_at hl 2 rfl) ?_
  refine gx_getr (j := 3) S hK hw t_160 cl_10 0 (by decide) rfl mw_416 rfl dX9_fitAll_6 ?_
  refine gx_get S hK hw t_3 cl_9 8 (by decide) rfl mw_160 rfl dX9_fitAll_9 ?_
  refine gx_top (v := 1) (by first | rfl | decide | simp [up2, gs0, h_3_7, h_3_8]) ?_
  refine lv_icmp_ge (tgt := 36) hx hb dX9_fitAll_12 (by decide) (fun _ => ?_) (fun h => absurd (by decide) h)
  exact gx_rv (post := fun σ1 τ1 => σ1 = up2 σ 162 0 1 ∧ τ1 = τ) S hr hlk hw dX9_fitAll_36 ⟨(by first | rfl | simp [up2, upJ]), (by first | rfl | simp [up2, upJ])⟩
set_option maxHeartbeats 4000000 in
set_option maxRecDepth 100000 in
theorem c_Diary_read (l : Launch) {E : gE} (σ : gI) (τ : gJ)  (h_1_2 : σ 1 2 = 0) : gx_Mi l yX2_read cX2_read 5 (some .int) 2 gx_tb E (σ) (τ) [.ref (E.2.2 + 25), .ref (E.2.2 + 1)] (fun r σ1 τ1 => r = 0 ∧ (∀ c k : Nat, ¬ c = 25 → ¬ (c = 1 ∧ k = 1) → σ1 c k = (σ) c k) ∧ τ1 = τ) := by
  refine gx_bi (by decide +kernel) (Nat.le_of_ble_eq_true rfl) ?_
  intro P9 e9 s m9 below meth C9 S hr hlk hK hw ls hl
  have S : CallFix P9 m9 C9 cX2_read 5 s _ gx_G RX2 := S
  have hx := S.1
  have hb := S.2.1
  have hl : lv_has ls 5 [(0, .ref (E.2.2 + 25)), (1, .ref (E.2.2 + 1))] := hl
  refine lv_aload_n hx hb dX2_read_0 rfl (lv_at hl 0 rfl) ?_
  refine lv_iconst (v := 0) hx hb dX2_read_1 (by decide) ?_
  refine gx_put S hK gx_ok hw t_25 cl_3 4 (by decide) rfl mw_246 rfl rfl (ty := .int) (v := 0) (by decide +kernel) rfl rfl dX2_read_2 (fun H locs hw => ?_)
  refine lv_aload_n hx hb dX2_read_5 rfl (lv_at hl 1 rfl) ?_
  refine lv_bipush (v := 60) hx hb dX2_read_6 (by decide) ?_
  refine gx_cVv (As := [.int 60]) (rest := []) S hK gx_ok hw (c_show l (E := E) (up2 (σ) 25 4 0) (τ) 60 (by first | rfl | decide | simp [up2, gs0, h_1_2])) cw_X2_30 t_1 cl_8 ⟨Nat.le_of_ble_eq_true rfl, Nat.le_of_ble_eq_true rfl⟩ rfl hl.1 rfl (Nat.le_of_ble_eq_true rfl) ⟨Nat.le_of_ble_eq_true rfl, Nat.le_of_ble_eq_true rfl⟩ dX2_read_8 (fun σ_1 τ_1 H locs hp hw => ?_)
  obtain ⟨hs_1, et_1⟩ := hp
  obtain rfl := et_1.symm
  refine lv_aload_n hx hb dX2_read_11 rfl (lv_at hl 1 rfl) ?_
  refine lv_iconst (v := 0) hx hb dX2_read_12 (by decide) ?_
  refine gx_cVi (As := [.int 0]) (rest := []) S hK gx_ok hw (c_isOver l (E := E) (σ_1) (τ) (by first | rfl | decide | simp [up2, gs0, h_1_2, hs_1])) cw_X2_36 t_1 cl_8 ⟨Nat.le_of_ble_eq_true rfl, Nat.le_of_ble_eq_true rfl⟩ rfl hl.1 rfl (Nat.le_of_ble_eq_true rfl) ⟨Nat.le_of_ble_eq_true rfl, Nat.le_of_ble_eq_true rfl⟩ dX2_read_13 (fun r_2 σ_2 τ_2 H locs hp hw => ?_)
  obtain ⟨er_2, es_2, et_2⟩ := hp
  obtain rfl := er_2.symm
  obtain rfl := es_2.symm
  obtain rfl := et_2.symm
  refine lv_if_eq (tgt := 21) hx hb dX2_read_16 (by decide) (fun h => absurd h (by decide)) (fun _ => ?_)
  refine lv_iconst (v := 0) hx hb dX2_read_19 (by decide) ?_
  exact gx_ri (post := fun r σ1 τ1 => r = 0 ∧ (∀ c k : Nat, ¬ c = 25 → ¬ (c = 1 ∧ k = 1) → σ1 c k = (σ) c k) ∧ τ1 = τ) (v := 0) S hr hlk hw rfl dX2_read_20 ⟨rfl, (fun c9 k9 h9_0 h9_1 => by simp [up2, upJ, h9_0, h9_1, hs_1]), (by first | rfl | simp [up2, upJ])⟩
set_option maxHeartbeats 4000000 in
set_option maxRecDepth 100000 in
theorem c_isLoad (l : Launch) {E : gE} (σ : gI) (τ : gJ) (b n : Int32)  : gx_Mi l yX11_isLoad cX11_isLoad 2 (some .boolean) 0 gx_tb E (σ) (τ) [.int b, .int n] (fun r σ1 τ1 => r = (if 0 ≤ b.toInt ∧ b.toInt ≤ 99 ∧ 0 ≤ n.toInt ∧ n.toInt ≤ 9 then 1 else 0) ∧ σ1 = σ ∧ τ1 = τ) := by
  refine gx_bi (by decide +kernel) (Nat.le_of_ble_eq_true rfl) ?_
  intro P9 e9 s m9 below meth C9 S hr hlk hK hw ls hl
  have S : CallFix P9 m9 C9 cX11_isLoad 2 s _ gx_G RX11 := S
  have hx := S.1
  have hb := S.2.1
  have hl : lv_has ls 2 [(0, .int b), (1, .int n)] := hl
  refine lv_iload_n hx hb dX11_isLoad_0 rfl (lv_at hl 0 rfl) ?_
  refine lv_if_lt (tgt := 24) hx hb dX11_isLoad_1 (by decide) (fun c_1 => ?_) (fun c_1 => ?_)
  · refine lv_iconst (v := 0) hx hb dX11_isLoad_24 (by decide) ?_
    exact gx_ri (post := fun r σ1 τ1 => r = (if 0 ≤ b.toInt ∧ b.toInt ≤ 99 ∧ 0 ≤ n.toInt ∧ n.toInt ≤ 9 then 1 else 0) ∧ σ1 = σ ∧ τ1 = τ) (v := 0) S hr hlk hw rfl dX11_isLoad_25 ⟨(by simp only [fa_lt, fa_le, fa_eq, show (0 : Int32).toInt = 0 from rfl] at c_1; exact ((if_neg (by omega)).trans (rfl)).symm), rfl, rfl⟩
  · refine lv_iload_n hx hb dX11_isLoad_4 rfl (lv_at hl 0 rfl) ?_
    refine lv_bipush (v := 99) hx hb dX11_isLoad_5 (by decide) ?_
    refine lv_icmp_gt (tgt := 24) hx hb dX11_isLoad_7 (by decide) (fun c_2 => ?_) (fun c_2 => ?_)
    · refine lv_iconst (v := 0) hx hb dX11_isLoad_24 (by decide) ?_
      exact gx_ri (post := fun r σ1 τ1 => r = (if 0 ≤ b.toInt ∧ b.toInt ≤ 99 ∧ 0 ≤ n.toInt ∧ n.toInt ≤ 9 then 1 else 0) ∧ σ1 = σ ∧ τ1 = τ) (v := 0) S hr hlk hw rfl dX11_isLoad_25 ⟨(by simp only [fa_lt, fa_le, fa_eq, show (0 : Int32).toInt = 0 from rfl, show (99 : Int32).toInt = 99 from rfl] at c_1 c_2; exact ((if_neg (by omega)).trans (rfl)).symm), rfl, rfl⟩
    · refine lv_iload_n hx hb dX11_isLoad_10 rfl (lv_at hl 1 rfl) ?_
      refine lv_if_lt (tgt := 24) hx hb dX11_isLoad_11 (by decide) (fun c_3 => ?_) (fun c_3 => ?_)
      · refine lv_iconst (v := 0) hx hb dX11_isLoad_24 (by decide) ?_
        exact gx_ri (post := fun r σ1 τ1 => r = (if 0 ≤ b.toInt ∧ b.toInt ≤ 99 ∧ 0 ≤ n.toInt ∧ n.toInt ≤ 9 then 1 else 0) ∧ σ1 = σ ∧ τ1 = τ) (v := 0) S hr hlk hw rfl dX11_isLoad_25 ⟨(by simp only [fa_lt, fa_le, fa_eq, show (0 : Int32).toInt = 0 from rfl, show (99 : Int32).toInt = 99 from rfl] at c_1 c_2 c_3; exact ((if_neg (by omega)).trans (rfl)).symm), rfl, rfl⟩
      · refine lv_iload_n hx hb dX11_isLoad_14 rfl (lv_at hl 1 rfl) ?_
        refine lv_bipush (v := 9) hx hb dX11_isLoad_15 (by decide) ?_
        refine lv_icmp_gt (tgt := 24) hx hb dX11_isLoad_17 (by decide) (fun c_4 => ?_) (fun c_4 => ?_)
        · refine lv_iconst (v := 0) hx hb dX11_isLoad_24 (by decide) ?_
          exact gx_ri (post := fun r σ1 τ1 => r = (if 0 ≤ b.toInt ∧ b.toInt ≤ 99 ∧ 0 ≤ n.toInt ∧ n.toInt ≤ 9 then 1 else 0) ∧ σ1 = σ ∧ τ1 = τ) (v := 0) S hr hlk hw rfl dX11_isLoad_25 ⟨(by simp only [fa_lt, fa_le, fa_eq, show (0 : Int32).toInt = 0 from rfl, show (9 : Int32).toInt = 9 from rfl, show (99 : Int32).toInt = 99 from rfl] at c_1 c_2 c_3 c_4; exact ((if_neg (by omega)).trans (rfl)).symm), rfl, rfl⟩
        · refine lv_iconst (v := 1) hx hb dX11_isLoad_20 (by decide) ?_
          refine lv_goto (tgt := 25) hx hb dX11_isLoad_21 (by decide) ?_
          exact gx_ri (post := fun r σ1 τ1 => r = (if 0 ≤ b.toInt ∧ b.toInt ≤ 99 ∧ 0 ≤ n.toInt ∧ n.toInt ≤ 9 then 1 else 0) ∧ σ1 = σ ∧ τ1 = τ) (v := 1) S hr hlk hw rfl dX11_isLoad_25 ⟨(by simp only [fa_lt, fa_le, fa_eq, show (0 : Int32).toInt = 0 from rfl, show (9 : Int32).toInt = 9 from rfl, show (99 : Int32).toInt = 99 from rfl] at c_1 c_2 c_3 c_4; exact (if_pos (by omega)).symm), rfl, rfl⟩
set_option maxHeartbeats 4000000 in
set_option maxRecDepth 100000 in
theorem c_isAhead (l : Launch) {E : gE} (σ : gI) (τ : gJ) (n : Int32)  : gx_Mi l yX11_isAhead cX11_isAhead 1 (some .boolean) 0 gx_tb E (σ) (τ) [.int n] (fun r σ1 τ1 => r = (if 0 ≤ n.toInt ∧ n.toInt ≤ 300 then 1 else 0) ∧ σ1 = σ ∧ τ1 = τ) := by
  refine gx_bi (by decide +kernel) (Nat.le_of_ble_eq_true rfl) ?_
  intro P9 e9 s m9 below meth C9 S hr hlk hK hw ls hl
  have S : CallFix P9 m9 C9 cX11_isAhead 1 s _ gx_G RX11 := S
  have hx := S.1
  have hb := S.2.1
  have hl : lv_has ls 1 [(0, .int n)] := hl
  refine lv_iload_n hx hb dX11_isAhead_0 rfl (lv_at hl 0 rfl) ?_
  refine lv_if_lt (tgt := 15) hx hb dX11_isAhead_1 (by decide) (fun c_1 => ?_) (fun c_1 => ?_)
  · refine lv_iconst (v := 0) hx hb dX11_isAhead_15 (by decide) ?_
    exact gx_ri (post := fun r σ1 τ1 => r = (if 0 ≤ n.toInt ∧ n.toInt ≤ 300 then 1 else 0) ∧ σ1 = σ ∧ τ1 = τ) (v := 0) S hr hlk hw rfl dX11_isAhead_16 ⟨(by simp only [fa_lt, fa_le, fa_eq, show (0 : Int32).toInt = 0 from rfl] at c_1; exact ((if_neg (by omega)).trans (rfl)).symm), rfl, rfl⟩
  · refine lv_iload_n hx hb dX11_isAhead_4 rfl (lv_at hl 0 rfl) ?_
    refine lv_sipush (v := 300) hx hb dX11_isAhead_5 (by decide) ?_
    refine lv_icmp_gt (tgt := 15) hx hb dX11_isAhead_8 (by decide) (fun c_2 => ?_) (fun c_2 => ?_)
    · refine lv_iconst (v := 0) hx hb dX11_isAhead_15 (by decide) ?_
      exact gx_ri (post := fun r σ1 τ1 => r = (if 0 ≤ n.toInt ∧ n.toInt ≤ 300 then 1 else 0) ∧ σ1 = σ ∧ τ1 = τ) (v := 0) S hr hlk hw rfl dX11_isAhead_16 ⟨(by simp only [fa_lt, fa_le, fa_eq, show (0 : Int32).toInt = 0 from rfl, show (300 : Int32).toInt = 300 from rfl] at c_1 c_2; exact ((if_neg (by omega)).trans (rfl)).symm), rfl, rfl⟩
    · refine lv_iconst (v := 1) hx hb dX11_isAhead_11 (by decide) ?_
      refine lv_goto (tgt := 16) hx hb dX11_isAhead_12 (by decide) ?_
      exact gx_ri (post := fun r σ1 τ1 => r = (if 0 ≤ n.toInt ∧ n.toInt ≤ 300 then 1 else 0) ∧ σ1 = σ ∧ τ1 = τ) (v := 1) S hr hlk hw rfl dX11_isAhead_16 ⟨(by simp only [fa_lt, fa_le, fa_eq, show (0 : Int32).toInt = 0 from rfl, show (300 : Int32).toInt = 300 from rfl] at c_1 c_2; exact (if_pos (by omega)).symm), rfl, rfl⟩
set_option maxHeartbeats 4000000 in
set_option maxRecDepth 100000 in
theorem c_minutesOf (l : Launch) {E : gE} (σ : gI) (τ : gJ)   : gx_Mi l yX11_minutesOf cX11_minutesOf 1 (some .int) 0 gx_tb E (σ) (τ) [.int 0] (fun r σ1 τ1 => r = 0 ∧ σ1 = σ ∧ τ1 = τ) := by
  refine gx_bi (by decide +kernel) (Nat.le_of_ble_eq_true rfl) ?_
  intro P9 e9 s m9 below meth C9 S hr hlk hK hw ls hl
  have S : CallFix P9 m9 C9 cX11_minutesOf 1 s _ gx_G RX11 := S
  have hx := S.1
  have hb := S.2.1
  have hl : lv_has ls 1 [(0, .int 0)] := hl
  refine lv_iload_n hx hb dX11_minutesOf_0 rfl (lv_at hl 0 rfl) ?_
  refine lv_bipush (v := 16) hx hb dX11_minutesOf_1 (by decide) ?_
  refine lv_idiv hx hb dX11_minutesOf_3 (by decide) ?_
  refine gx_top (v := 0) (by decide) ?_
  exact gx_ri (post := fun r σ1 τ1 => r = 0 ∧ σ1 = σ ∧ τ1 = τ) (v := 0) S hr hlk hw rfl dX11_minutesOf_4 ⟨rfl, rfl, rfl⟩
set_option maxHeartbeats 4000000 in
set_option maxRecDepth 100000 in
theorem c_passMinutes (l : Launch) {E : gE} (σ : gI) (τ : gJ) (j : Nat) (h_15_1 : σ 15 1 = 0) (h_158_8 : σ 158 8 = 0) (h_30_6 : σ 30 6 = 0) (hj : j ≤ 99) : gx_Mv l yX11_passMinutes cX11_passMinutes 3 none 3 gx_tb E (σ) (τ) [.ref (E.2.2 + 0), .int (nI j)] (fun σ1 τ1 => (∀ c k : Nat, ¬ (c = 30 ∧ k = 8) → σ1 c k = (σ) c k) ∧ τ1 = τ) := by
  refine gx_bv (by decide +kernel) (Nat.le_of_ble_eq_true rfl) ?_
  intro P9 e9 s m9 below meth C9 S hr hlk hK hw ls hl
  have S : CallFix P9 m9 C9 cX11_passMinutes 3 s _ gx_G RX11 := S
  have hx := S.1
  have hb := S.2.1
  have hl : lv_has ls 3 [(0, .ref (E.2.2 + 0)), (1, .int (nI j))] := hl
  refine lv_iconst (v := 0) hx hb dX11_passMinutes_0 (by decide) ?_
  refine lv_istore_n (lv' := [(2, .int 0), (0, .ref (E.2.2 + 0)), (1, .int (nI j))]) hx hb dX11_passMinutes_1 rfl hl (by decide) rfl (fun ls hl => ?_)
  have loop_1 : ∀ (n1 : Nat) (i : Nat) (σ1 : gI) (H : Heap) (locs : List Loc) (ls : Array Slot), j - i < n1 → (i ≤ j) → (∀ c k : Nat, ¬ (c = 30 ∧ k = 8) → σ1 c k = (σ) c k) → gx_W gx_tb (gx_tb).length E s (σ1) (τ) H locs → lv_has ls 3 [(0, .ref (E.2.2 + 0)), (1, .int (nI j)), (2, .int (nI i))] → W P9 l e9 (gx_rm 3) s m9 ([.ref (E.2.2 + 0), .int (nI j)] : List Value).toArray below meth C9 H locs 0 0 (MQ below (va_Qv (fun (u : gI × gJ) => (fun σ1 τ1 => (∀ c k : Nat, ¬ (c = 30 ∧ k = 8) → σ1 c k = (σ) c k) ∧ τ1 = τ) u.1 u.2) (fun u t => gx_P gx_tb E u.1 u.2 t.heap) (gx_A (gx_tb).length E.2.2 s.heap.size)) ([.ref (E.2.2 + 0), .int (nI j)] : List Value).toArray s 0 0 (gx_A (gx_tb).length E.2.2 s.heap.size)) (F0 m9 2 ls []) := by
    intro n1
    induction n1 with
    | zero => intro i σ1 H locs ls hmz; exact absurd hmz (Nat.not_lt_zero _)
    | succ n1 ih_1 =>
      intro i σ1 H locs ls hmz hi hs_1 hw hl
      refine lv_iload_n hx hb dX11_passMinutes_2 rfl (lv_at hl 2 rfl) ?_
      refine lv_iload_n hx hb dX11_passMinutes_3 rfl (lv_at hl 1 rfl) ?_
      refine lv_icmp_ge (tgt := 24) hx hb dX11_passMinutes_4 (by decide) (fun c_2 => ?_) (fun c_2 => ?_)
      · exact gx_rv (post := fun σ1 τ1 => (∀ c k : Nat, ¬ (c = 30 ∧ k = 8) → σ1 c k = (σ) c k) ∧ τ1 = τ) S hr hlk hw dX11_passMinutes_24 ⟨(fun c9 k9 h9_0 => by simp [up2, upJ, h9_0, hs_1]), rfl⟩
      · have hlt : i < j := gx_ilt (k := j) rfl (by omega) c_2
        refine lv_aload_n hx hb dX11_passMinutes_7 rfl (lv_at hl 0 rfl) ?_
        refine gx_getr (j := 158) S hK hw t_0 cl_12 14 (by decide) rfl mw_461 rfl dX11_passMinutes_8 ?_
        refine lv_aload_n hx hb dX11_passMinutes_11 rfl (lv_at hl 0 rfl) ?_
        refine gx_getr (j := 30) S hK hw t_0 cl_12 7 (by decide) rfl mw_454 rfl dX11_passMinutes_12 ?_
        refine gx_cVv (As := [.ref (E.2.2 + 30)]) (rest := []) S hK gx_ok hw (c_pass l (E := E) (σ1) (τ) (by first | rfl | decide | simp [up2, gs0, h_15_1, h_158_8, h_30_6, hs_1]) (by first | rfl | decide | simp [up2, gs0, h_15_1, h_158_8, h_30_6, hs_1]) (by first | rfl | decide | simp [up2, gs0, h_15_1, h_158_8, h_30_6, hs_1])) cw_X11_266 t_158 cl_2 ⟨Nat.le_of_ble_eq_true rfl, Nat.le_of_ble_eq_true rfl⟩ rfl hl.1 rfl (Nat.le_of_ble_eq_true rfl) ⟨Nat.le_of_ble_eq_true rfl, Nat.le_of_ble_eq_true rfl⟩ dX11_passMinutes_15 (fun σ_3 τ_3 H locs hp hw => ?_)
        obtain ⟨hs_3, et_3⟩ := hp
        obtain rfl := et_3.symm
        refine lv_iinc (v := nI (i + 1)) (lv' := [(2, .int (nI (i + 1))), (0, .ref (E.2.2 + 0)), (1, .int (nI j))]) hx hb dX11_passMinutes_18 hl (k := 2) rfl (nI_1 _) (by decide) rfl (fun ls hl => ?_)
        refine lv_goto (tgt := 2) hx hb dX11_passMinutes_21 (by decide) ?_
        exact ih_1 (i + 1) (σ_3) _ _ _ (by omega) (by omega) (fun c9 k9 h9_0 => by simp [up2, upJ, h9_0, hs_1, hs_3]) hw (lv_sub hl [1, 2, 0] rfl)
  exact loop_1 (j + 1) 0 (σ) _ _ _ (by omega) (by omega) (fun c9 k9 h9_0 => by simp [up2, upJ, h9_0]) hw (lv_sub hl [1, 2, 0] rfl)
set_option maxHeartbeats 4000000 in
set_option maxRecDepth 100000 in
theorem c_fewestTurns (l : Launch) {E : gE} (σ : gI) (τ : gJ)  (h_164_6 : σ 164 6 = 0) (h_164_7 : σ 164 7 = 0) (h_164_8 : σ 164 8 = 0) (h_164_9 : σ 164 9 = 0) (h_164_10 : σ 164 10 = 0) (h_160_5 : σ 160 5 = 0) (h_160_6 : σ 160 6 = 0) (h_172_0 : σ 172 0 = 0) (h_3_7 : σ 3 7 = 0) (h_3_8 : σ 3 8 = 1) (h_30_7 : σ 30 7 = 0) : gx_Mi l yX11_fewestTurns cX11_fewestTurns 9 (some .int) 4 gx_tb E (σ) (τ) [.ref (E.2.2 + 0), .int (-1)] (fun r σ1 τ1 => r = 0 ∧ (∀ c k : Nat, 199 ≤ c → σ1 c k = (σ) c k) ∧ True) := by
  refine gx_bi (by decide +kernel) (Nat.le_of_ble_eq_true rfl) ?_
  intro P9 e9 s m9 below meth C9 S hr hlk hK hw ls hl
  have S : CallFix P9 m9 C9 cX11_fewestTurns 9 s _ gx_G RX11 := S
  have hx := S.1
  have hb := S.2.1
  have hl : lv_has ls 9 [(0, .ref (E.2.2 + 0)), (1, .int (-1))] := hl
  refine lv_aload_n hx hb dX11_fewestTurns_0 rfl (lv_at hl 0 rfl) ?_
  refine gx_getr (j := 160) S hK hw t_0 cl_12 15 (by decide) rfl mw_462 rfl dX11_fewestTurns_1 ?_
  refine gx_cVv (As := []) (rest := []) S hK gx_ok hw (c_forgetSets l (E := E) (σ) (τ) (by first | rfl | decide | simp [up2, gs0, h_164_6, h_164_7, h_164_8, h_164_9, h_164_10, h_160_5, h_160_6, h_172_0, h_3_7, h_3_8, h_30_7]) (by first | rfl | decide | simp [up2, gs0, h_164_6, h_164_7, h_164_8, h_164_9, h_164_10, h_160_5, h_160_6, h_172_0, h_3_7, h_3_8, h_30_7])) cw_X11_350 t_160 cl_10 ⟨Nat.le_of_ble_eq_true rfl, Nat.le_of_ble_eq_true rfl⟩ rfl hl.1 rfl (Nat.le_of_ble_eq_true rfl) ⟨Nat.le_of_ble_eq_true rfl, Nat.le_of_ble_eq_true rfl⟩ dX11_fewestTurns_4 (fun σ_1 τ_1 H locs hp hw => ?_)
  obtain ⟨es_1, et_1⟩ := hp
  obtain rfl := es_1.symm
  obtain rfl := et_1.symm
  refine lv_bipush (v := 13) hx hb dX11_fewestTurns_7 (by decide) ?_
  refine lv_istore_n (lv' := [(2, .int 13), (0, .ref (E.2.2 + 0)), (1, .int (-1))]) hx hb dX11_fewestTurns_9 rfl hl (by decide) rfl (fun ls hl => ?_)
  refine lv_iconst (v := (-1)) hx hb dX11_fewestTurns_10 (by decide) ?_
  refine lv_istore_n (lv' := [(3, .int (-1)), (2, .int 13), (0, .ref (E.2.2 + 0)), (1, .int (-1))]) hx hb dX11_fewestTurns_11 rfl hl (by decide) rfl (fun ls hl => ?_)
  refine lv_iconst (v := 0) hx hb dX11_fewestTurns_12 (by decide) ?_
  refine lv_istore (lv' := [(4, .int 0), (3, .int (-1)), (2, .int 13), (0, .ref (E.2.2 + 0)), (1, .int (-1))]) hx hb dX11_fewestTurns_13 hl (by decide) rfl (fun ls hl => ?_)
  refine lv_iconst (v := 0) hx hb dX11_fewestTurns_15 (by decide) ?_
  refine lv_istore (lv' := [(5, .int 0), (4, .int 0), (3, .int (-1)), (2, .int 13), (0, .ref (E.2.2 + 0)), (1, .int (-1))]) hx hb dX11_fewestTurns_16 hl (by decide) rfl (fun ls hl => ?_)
  refine lv_iconst (v := 0) hx hb dX11_fewestTurns_18 (by decide) ?_
  refine lv_istore (lv' := [(6, .int 0), (5, .int 0), (4, .int 0), (3, .int (-1)), (2, .int 13), (0, .ref (E.2.2 + 0)), (1, .int (-1))]) hx hb dX11_fewestTurns_19 hl (by decide) rfl (fun ls hl => ?_)
  refine lv_iload hx hb dX11_fewestTurns_21 (lv_at hl 0 rfl) ?_
  refine lv_aload_n hx hb dX11_fewestTurns_23 rfl (lv_at hl 5 rfl) ?_
  refine gx_getr (j := 3) S hK hw t_0 cl_12 1 (by decide) rfl mw_448 rfl dX11_fewestTurns_24 ?_
  refine gx_get S hK hw t_3 cl_9 8 (by decide) rfl mw_161 rfl dX11_fewestTurns_27 ?_
  refine gx_top (v := 1) (by first | rfl | decide | simp [up2, gs0, h_164_6, h_164_7, h_164_8, h_164_9, h_164_10, h_160_5, h_160_6, h_172_0, h_3_7, h_3_8, h_30_7]) ?_
  refine lv_icmp_ge (tgt := 119) hx hb dX11_fewestTurns_30 (by decide) (fun h => absurd h (by decide)) (fun _ => ?_)
  refine lv_iload hx hb dX11_fewestTurns_33 (lv_at hl 1 rfl) ?_
  refine gx_cSi (As := [.int 0]) (rest := []) S hK gx_ok hw (c_bitCount0 l (E := E) (up2 (σ) 161 0 (-2)) (τ) ) cw_X11_261 ⟨Nat.le_of_ble_eq_true rfl, Nat.le_of_ble_eq_true rfl⟩ rfl hl.1 rfl (Nat.le_of_ble_eq_true rfl) ⟨Nat.le_of_ble_eq_true rfl, Nat.le_of_ble_eq_true rfl⟩ dX11_fewestTurns_35 (fun r_2 σ_2 τ_2 H locs hp hw => ?_)
  obtain ⟨er_2, es_2, et_2⟩ := hp
  obtain rfl := er_2.symm
  obtain rfl := es_2.symm
  obtain rfl := et_2.symm
  refine lv_istore (lv' := [(7, .int 0), (6, .int 0), (5, .int 0), (4, .int 0), (3, .int (-1)), (2, .int 13), (0, .ref (E.2.2 + 0)), (1, .int (-1))]) hx hb dX11_fewestTurns_38 hl (by decide) rfl (fun ls hl => ?_)
  refine lv_iload hx hb dX11_fewestTurns_40 (lv_at hl 0 rfl) ?_
  refine lv_iload_n hx hb dX11_fewestTurns_42 rfl (lv_at hl 5 rfl) ?_
  refine lv_icmp_ge (tgt := 66) hx hb dX11_fewestTurns_43 (by decide) (fun h => absurd h (by decide)) (fun _ => ?_)
  refine lv_aload_n hx hb dX11_fewestTurns_46 rfl (lv_at hl 6 rfl) ?_
  refine gx_getr (j := 160) S hK hw t_0 cl_12 15 (by decide) rfl mw_462 rfl dX11_fewestTurns_47 ?_
  refine lv_aload_n hx hb dX11_fewestTurns_50 rfl (lv_at hl 6 rfl) ?_
  refine gx_getr (j := 30) S hK hw t_0 cl_12 7 (by decide) rfl mw_454 rfl dX11_fewestTurns_51 ?_
  refine gx_get S hK hw t_30 cl_7 7 (by decide) rfl mw_276 rfl dX11_fewestTurns_54 ?_
  refine gx_top (v := 0) (by first | rfl | decide | simp [up2, gs0, h_164_6, h_164_7, h_164_8, h_164_9, h_164_10, h_160_5, h_160_6, h_172_0, h_3_7, h_3_8, h_30_7]) ?_
  refine lv_iload hx hb dX11_fewestTurns_57 (lv_at hl 2 rfl) ?_
  refine lv_ixor hx hb dX11_fewestTurns_59 ?_
  refine gx_top (v := 0) (by decide) ?_
  refine gx_cVi (As := [.int 0]) (rest := []) S hK gx_ok hw (c_outcome l (E := E) (up2 (σ) 161 0 (-2)) (τ) (by first | rfl | decide | simp [up2, gs0, h_164_6, h_164_7, h_164_8, h_164_9, h_164_10, h_160_5, h_160_6, h_172_0, h_3_7, h_3_8, h_30_7]) (by first | rfl | decide | simp [up2, gs0, h_164_6, h_164_7, h_164_8, h_164_9, h_164_10, h_160_5, h_160_6, h_172_0, h_3_7, h_3_8, h_30_7]) (by first | rfl | decide | simp [up2, gs0, h_164_6, h_164_7, h_164_8, h_164_9, h_164_10, h_160_5, h_160_6, h_172_0, h_3_7, h_3_8, h_30_7]) (by first | rfl | decide | simp [up2, gs0, h_164_6, h_164_7, h_164_8, h_164_9, h_164_10, h_160_5, h_160_6, h_172_0, h_3_7, h_3_8, h_30_7]) (by first | rfl | decide | simp [up2, gs0, h_164_6, h_164_7, h_164_8, h_164_9, h_164_10, h_160_5, h_160_6, h_172_0, h_3_7, h_3_8, h_30_7]) (by first | rfl | decide | simp [up2, gs0, h_164_6, h_164_7, h_164_8, h_164_9, h_164_10, h_160_5, h_160_6, h_172_0, h_3_7, h_3_8, h_30_7]) (by first | rfl | decide | simp [up2, gs0, h_164_6, h_164_7, h_164_8, h_164_9, h_164_10, h_160_5, h_160_6, h_172_0, h_3_7, h_3_8, h_30_7]) (by first | rfl | decide | simp [up2, gs0, h_164_6, h_164_7, h_164_8, h_164_9, h_164_10, h_160_5, h_160_6, h_172_0, h_3_7, h_3_8, h_30_7]) (by first | rfl | decide | simp [up2, gs0, h_164_6, h_164_7, h_164_8, h_164_9, h_164_10, h_160_5, h_160_6, h_172_0, h_3_7, h_3_8, h_30_7]) (by first | rfl | decide | simp [up2, gs0, h_164_6, h_164_7, h_164_8, h_164_9, h_164_10, h_160_5, h_160_6, h_172_0, h_3_7, h_3_8, h_30_7])) cw_X11_356 t_160 cl_10 ⟨Nat.le_of_ble_eq_true rfl, Nat.le_of_ble_eq_true rfl⟩ rfl hl.1 rfl (Nat.le_of_ble_eq_true rfl) ⟨Nat.le_of_ble_eq_true rfl, Nat.le_of_ble_eq_true rfl⟩ dX11_fewestTurns_60 (fun r_3 σ_3 τ_3 H locs hp hw => ?_)
  obtain ⟨er_3, es_3, et_3⟩ := hp
  obtain rfl := er_3.symm
  obtain rfl := es_3.symm
  obtain rfl := et_3.symm
  refine lv_goto (tgt := 67) hx hb dX11_fewestTurns_63 (by decide) ?_
  refine lv_istore (lv' := [(8, .int 0), (7, .int 0), (6, .int 0), (5, .int 0), (4, .int 0), (3, .int (-1)), (2, .int 13), (0, .ref (E.2.2 + 0)), (1, .int (-1))]) hx hb dX11_fewestTurns_67 hl (by decide) rfl (fun ls hl => ?_)
  refine lv_iload hx hb dX11_fewestTurns_69 (lv_at hl 0 rfl) ?_
  refine lv_iconst (v := (-1)) hx hb dX11_fewestTurns_71 (by decide) ?_
  refine lv_icmp_eq (tgt := 102) hx hb dX11_fewestTurns_72 (by decide) (fun h => absurd h (by decide)) (fun _ => ?_)
  refine lv_iload_n hx hb dX11_fewestTurns_75 rfl (lv_at hl 8 rfl) ?_
  refine lv_iconst (v := (-1)) hx hb dX11_fewestTurns_76 (by decide) ?_
  refine lv_icmp_eq (tgt := 89) hx hb dX11_fewestTurns_77 (by decide) (fun _ => ?_) (fun h => absurd (by decide) h)
  refine lv_iload hx hb dX11_fewestTurns_89 (lv_at hl 1 rfl) ?_
  refine lv_istore_n (lv' := [(2, .int 0), (8, .int 0), (7, .int 0), (6, .int 0), (5, .int 0), (4, .int 0), (3, .int (-1)), (0, .ref (E.2.2 + 0)), (1, .int (-1))]) hx hb dX11_fewestTurns_91 rfl hl (by decide) rfl (fun ls hl => ?_)
  refine lv_iload hx hb dX11_fewestTurns_92 (lv_at hl 4 rfl) ?_
  refine lv_istore_n (lv' := [(3, .int 0), (2, .int 0), (8, .int 0), (7, .int 0), (6, .int 0), (5, .int 0), (4, .int 0), (0, .ref (E.2.2 + 0)), (1, .int (-1))]) hx hb dX11_fewestTurns_94 rfl hl (by decide) rfl (fun ls hl => ?_)
  refine lv_iload hx hb dX11_fewestTurns_95 (lv_at hl 2 rfl) ?_
  refine gx_cSi (As := [.int 0]) (rest := []) S hK gx_ok hw (c_minutesOf l (E := E) (up2 (up2 (up2 (up2 (up2 (up2 (up2 (up2 (up2 ((up2 (σ) 161 0 (-2))) 171 6 0) 171 7 0) 171 8 0) 171 9 0) 171 10 0) 171 7 0) 158 4 0) 158 5 0) 161 0 0) (τ) ) cw_X11_320 ⟨Nat.le_of_ble_eq_true rfl, Nat.le_of_ble_eq_true rfl⟩ rfl hl.1 rfl (Nat.le_of_ble_eq_true rfl) ⟨Nat.le_of_ble_eq_true rfl, Nat.le_of_ble_eq_true rfl⟩ dX11_fewestTurns_97 (fun r_4 σ_4 τ_4 H locs hp hw => ?_)
  obtain ⟨er_4, es_4, et_4⟩ := hp
  obtain rfl := er_4.symm
  obtain rfl := es_4.symm
  obtain rfl := et_4.symm
  refine lv_istore (lv' := [(4, .int 0), (3, .int 0), (2, .int 0), (8, .int 0), (7, .int 0), (6, .int 0), (5, .int 0), (0, .ref (E.2.2 + 0)), (1, .int (-1))]) hx hb dX11_fewestTurns_100 hl (by decide) rfl (fun ls hl => ?_)
  refine lv_aload_n hx hb dX11_fewestTurns_102 rfl (lv_at hl 7 rfl) ?_
  refine gx_getr (j := 3) S hK hw t_0 cl_12 1 (by decide) rfl mw_448 rfl dX11_fewestTurns_103 ?_
  refine lv_iload hx hb dX11_fewestTurns_106 (lv_at hl 6 rfl) ?_
  refine gx_cVi (As := [.int 0]) (rest := []) S hK gx_ok hw (c_Town_nextSet l (E := E) (up2 (up2 (up2 (up2 (up2 (up2 (up2 (up2 (up2 ((up2 (σ) 161 0 (-2))) 171 6 0) 171 7 0) 171 8 0) 171 9 0) 171 10 0) 171 7 0) 158 4 0) 158 5 0) 161 0 0) (τ) (by first | rfl | decide | simp [up2, gs0, h_164_6, h_164_7, h_164_8, h_164_9, h_164_10, h_160_5, h_160_6, h_172_0, h_3_7, h_3_8, h_30_7])) cw_X11_359 t_3 cl_9 ⟨Nat.le_of_ble_eq_true rfl, Nat.le_of_ble_eq_true rfl⟩ rfl hl.1 rfl (Nat.le_of_ble_eq_true rfl) ⟨Nat.le_of_ble_eq_true rfl, Nat.le_of_ble_eq_true rfl⟩ dX11_fewestTurns_108 (fun r_5 σ_5 τ_5 H locs hp hw => ?_)
  obtain ⟨er_5, es_5, et_5⟩ := hp
  obtain rfl := er_5.symm
  obtain rfl := es_5.symm
  obtain rfl := et_5.symm
  refine lv_istore (lv' := [(5, .int 0), (4, .int 0), (3, .int 0), (2, .int 0), (8, .int 0), (7, .int 0), (6, .int 0), (0, .ref (E.2.2 + 0)), (1, .int (-1))]) hx hb dX11_fewestTurns_111 hl (by decide) rfl (fun ls hl => ?_)
  refine lv_iinc (v := 1) (lv' := [(6, .int 1), (5, .int 0), (4, .int 0), (3, .int 0), (2, .int 0), (8, .int 0), (7, .int 0), (0, .ref (E.2.2 + 0)), (1, .int (-1))]) hx hb dX11_fewestTurns_113 hl (k := 6) rfl (by decide) (by decide) rfl (fun ls hl => ?_)
  refine lv_goto (tgt := 21) hx hb dX11_fewestTurns_116 (by decide) ?_
  refine lv_iload hx hb dX11_fewestTurns_21 (lv_at hl 0 rfl) ?_
  refine lv_aload_n hx hb dX11_fewestTurns_23 rfl (lv_at hl 7 rfl) ?_
  refine gx_getr (j := 3) S hK hw t_0 cl_12 1 (by decide) rfl mw_448 rfl dX11_fewestTurns_24 ?_
  refine gx_get S hK hw t_3 cl_9 8 (by decide) rfl mw_161 rfl dX11_fewestTurns_27 ?_
  refine gx_top (v := 1) (by first | rfl | decide | simp [up2, gs0, h_164_6, h_164_7, h_164_8, h_164_9, h_164_10, h_160_5, h_160_6, h_172_0, h_3_7, h_3_8, h_30_7]) ?_
  refine lv_icmp_ge (tgt := 119) hx hb dX11_fewestTurns_30 (by decide) (fun _ => ?_) (fun h => absurd (by decide) h)
  refine lv_iload_n hx hb dX11_fewestTurns_119 rfl (lv_at hl 3 rfl) ?_
  refine lv_iconst (v := (-1)) hx hb dX11_fewestTurns_120 (by decide) ?_
  refine lv_icmp_ne (tgt := 127) hx hb dX11_fewestTurns_121 (by decide) (fun _ => ?_) (fun h => absurd h (by decide))
  refine lv_aload_n hx hb dX11_fewestTurns_127 rfl (lv_at hl 7 rfl) ?_
  refine gx_getr (j := 156) S hK hw t_0 cl_12 13 (by decide) rfl mw_460 rfl dX11_fewestTurns_128 ?_
  refine lv_iload_n hx hb dX11_fewestTurns_131 rfl (lv_at hl 3 rfl) ?_
  refine lv_i2l (v := 0) hx hb dX11_fewestTurns_132 (by decide) ?_
  refine lv_iload hx hb dX11_fewestTurns_133 (lv_at hl 2 rfl) ?_
  refine lv_i2l (v := 0) hx hb dX11_fewestTurns_135 (by decide) ?_
  refine gx_cVv (As := [.long 0, .long 0]) (rest := []) S hK gx_ok hw (c_tell2 l (E := E) (up2 (up2 (up2 (up2 (up2 (up2 (up2 (up2 (up2 ((up2 (σ) 161 0 (-2))) 171 6 0) 171 7 0) 171 8 0) 171 9 0) 171 10 0) 171 7 0) 158 4 0) 158 5 0) 161 0 0) (τ) 0 0 ) cw_X11_257 t_156 cl_5 ⟨Nat.le_of_ble_eq_true rfl, Nat.le_of_ble_eq_true rfl⟩ rfl hl.1 rfl (Nat.le_of_ble_eq_true rfl) ⟨Nat.le_of_ble_eq_true rfl, Nat.le_of_ble_eq_true rfl⟩ dX11_fewestTurns_136 (fun σ_6 τ_6 H locs hp hw => ?_)
  obtain ⟨es_6, -⟩ := hp
  obtain rfl := es_6.symm
  refine lv_iload_n hx hb dX11_fewestTurns_139 rfl (lv_at hl 4 rfl) ?_
  exact gx_ri (post := fun r σ1 τ1 => r = 0 ∧ (∀ c k : Nat, 199 ≤ c → σ1 c k = (σ) c k) ∧ True) (v := 0) S hr hlk hw rfl dX11_fewestTurns_140 ⟨rfl, (fun c9 k9 h9 => (up2_hi (by omega) h9).trans ((up2_hi (by omega) h9).trans ((up2_hi (by omega) h9).trans ((up2_hi (by omega) h9).trans ((up2_hi (by omega) h9).trans ((up2_hi (by omega) h9).trans ((up2_hi (by omega) h9).trans ((up2_hi (by omega) h9).trans ((up2_hi (by omega) h9).trans ((up2_hi (by omega) h9).trans ((up2_hi (by omega) h9).trans (rfl)))))))))))), trivial⟩
set_option maxHeartbeats 4000000 in
set_option maxRecDepth 100000 in
theorem c_findFits (l : Launch) {E : gE} (σ : gI) (τ : gJ)  (h_3_7 : σ 3 7 = 0) (h_3_8 : σ 3 8 = 1) (h_152_3 : σ 152 3 = 0) : gx_Mv l yX11_findFits cX11_findFits 5 none 2 gx_tb E (σ) (τ) [.ref (E.2.2 + 0)] (fun σ1 τ1 => σ1 = up2 σ 162 0 1 ∧ τ1 = τ) := by
  refine gx_bv (by decide +kernel) (Nat.le_of_ble_eq_true rfl) ?_
  intro P9 e9 s m9 below meth C9 S hr hlk hK hw ls hl
  have S : CallFix P9 m9 C9 cX11_findFits 5 s _ gx_G RX11 := S
  have hx := S.1
  have hb := S.2.1
  have hl : lv_has ls 5 [(0, .ref (E.2.2 + 0))] := hl
  refine lv_aload_n hx hb dX11_findFits_0 rfl (lv_at hl 0 rfl) ?_
  refine gx_getr (j := 160) S hK hw t_0 cl_12 15 (by decide) rfl mw_462 rfl dX11_findFits_1 ?_
  refine gx_cVv (As := []) (rest := []) S hK gx_ok hw (c_fitAll l (E := E) (σ) (τ) (by first | rfl | decide | simp [up2, gs0, h_3_7, h_3_8, h_152_3]) (by first | rfl | decide | simp [up2, gs0, h_3_7, h_3_8, h_152_3])) cw_X11_384 t_160 cl_10 ⟨Nat.le_of_ble_eq_true rfl, Nat.le_of_ble_eq_true rfl⟩ rfl hl.1 rfl (Nat.le_of_ble_eq_true rfl) ⟨Nat.le_of_ble_eq_true rfl, Nat.le_of_ble_eq_true rfl⟩ dX11_findFits_4 (fun σ_1 τ_1 H locs hp hw => ?_)
  obtain ⟨es_1, et_1⟩ := hp
  obtain rfl := es_1.symm
  obtain rfl := et_1.symm
  refine lv_iconst (v := 0) hx hb dX11_findFits_7 (by decide) ?_
  refine lv_istore_n (lv' := [(1, .int 0), (0, .ref (E.2.2 + 0))]) hx hb dX11_findFits_8 rfl hl (by decide) rfl (fun ls hl => ?_)
  refine lv_iload_n hx hb dX11_findFits_9 rfl (lv_at hl 0 rfl) ?_
  refine lv_aload_n hx hb dX11_findFits_10 rfl (lv_at hl 1 rfl) ?_
  refine gx_getr (j := 152) S hK hw t_0 cl_12 12 (by decide) rfl mw_459 rfl dX11_findFits_11 ?_
  refine gx_get S hK hw t_152 cl_1 3 (by decide) rfl mw_340 rfl dX11_findFits_14 ?_
  refine gx_top (v := 0) (by first | rfl | decide | simp [up2, gs0, h_3_7, h_3_8, h_152_3]) ?_
  refine lv_icmp_ge (tgt := 136) hx hb dX11_findFits_17 (by decide) (fun _ => ?_) (fun h => absurd (by decide) h)
  exact gx_rv (post := fun σ1 τ1 => σ1 = up2 σ 162 0 1 ∧ τ1 = τ) S hr hlk hw dX11_findFits_136 ⟨(by first | rfl | simp [up2, upJ]), (by first | rfl | simp [up2, upJ])⟩
set_option maxHeartbeats 4000000 in
set_option maxRecDepth 100000 in
theorem c_x_sign (l : Launch) {E : gE} (v : Int32)  : gx_Mi l yX11_sign cX11_sign 2 (some .int) 1 gx_tb E gs0 gt0 [.ref (E.2.2 + 0), .int v] (fun r σ1 τ1 => r = 4 ∧ (∀ c k : Nat, 199 ≤ c → σ1 c k = gs0 c k) ∧ True) := by
  refine gx_bi (by decide +kernel) (Nat.le_of_ble_eq_true rfl) ?_
  intro P9 e9 s m9 below meth C9 S hr hlk hK hw ls hl
  have S : CallFix P9 m9 C9 cX11_sign 2 s _ gx_G RX11 := S
  have hx := S.1
  have hb := S.2.1
  have hl : lv_has ls 2 [(0, .ref (E.2.2 + 0)), (1, .int v)] := hl
  refine lv_aload_n hx hb dX11_sign_0 rfl (lv_at hl 0 rfl) ?_
  refine gx_getr (j := 1) S hK hw t_0 cl_12 0 (by decide) rfl mw_447 rfl dX11_sign_1 ?_
  refine lv_iload_n hx hb dX11_sign_4 rfl (lv_at hl 1 rfl) ?_
  refine gx_cVi (As := [.int v]) (rest := []) S hK gx_ok hw (c_addFour l (E := E) gs0 gt0 v (by first | rfl | decide | simp [up2, gs0])) cw_X11_103 t_1 cl_8 ⟨Nat.le_of_ble_eq_true rfl, Nat.le_of_ble_eq_true rfl⟩ rfl hl.1 rfl (Nat.le_of_ble_eq_true rfl) ⟨Nat.le_of_ble_eq_true rfl, Nat.le_of_ble_eq_true rfl⟩ dX11_sign_5 (fun r_1 σ_1 τ_1 H locs hp hw => ?_)
  obtain ⟨er_1, hs_1, et_1⟩ := hp
  obtain rfl := er_1.symm
  obtain rfl := et_1.symm
  refine lv_if_eq (tgt := 21) hx hb dX11_sign_8 (by decide) (fun h => absurd h (by decide)) (fun _ => ?_)
  refine lv_aload_n hx hb dX11_sign_11 rfl (lv_at hl 0 rfl) ?_
  refine gx_getr (j := 1) S hK hw t_0 cl_12 0 (by decide) rfl mw_447 rfl dX11_sign_12 ?_
  refine gx_get S hK hw t_1 cl_8 2 (by decide) rfl mw_132 rfl dX11_sign_15 ?_
  refine gx_top (v := 4) (by first | rfl | decide | simp [up2, gs0, hs_1]) ?_
  refine lv_goto (tgt := 22) hx hb dX11_sign_18 (by decide) ?_
  exact gx_ri (post := fun r σ1 τ1 => r = 4 ∧ (∀ c k : Nat, 199 ≤ c → σ1 c k = gs0 c k) ∧ True) (v := 4) S hr hlk hw rfl dX11_sign_22 ⟨rfl, (fun c9 k9 h9 => (hs_1 c9 k9 (by omega)).trans ((up2_hi (by omega) h9).trans (rfl))), trivial⟩
set_option maxHeartbeats 4000000 in
set_option maxRecDepth 100000 in
theorem c_x_end (l : Launch) {E : gE} (n : Int32)  : gx_Mi l yX11_end cX11_end 2 (some .boolean) 1 gx_tb E gs0 gt0 [.ref (E.2.2 + 0), .int n] (fun r σ1 τ1 => r = (if n.toInt = 0 then 1 else 0) ∧ (∀ c k : Nat, 199 ≤ c → σ1 c k = gs0 c k) ∧ True) := by
  refine gx_bi (by decide +kernel) (Nat.le_of_ble_eq_true rfl) ?_
  intro P9 e9 s m9 below meth C9 S hr hlk hK hw ls hl
  have S : CallFix P9 m9 C9 cX11_end 2 s _ gx_G RX11 := S
  have hx := S.1
  have hb := S.2.1
  have hl : lv_has ls 2 [(0, .ref (E.2.2 + 0)), (1, .int n)] := hl
  refine lv_aload_n hx hb dX11_end_0 rfl (lv_at hl 0 rfl) ?_
  refine gx_getr (j := 1) S hK hw t_0 cl_12 0 (by decide) rfl mw_447 rfl dX11_end_1 ?_
  refine lv_iload_n hx hb dX11_end_4 rfl (lv_at hl 1 rfl) ?_
  refine gx_cVi (As := [.int n]) (rest := []) S hK gx_ok hw (c_cut l (E := E) gs0 gt0 n (by first | rfl | decide | simp [up2, gs0])) cw_X11_111 t_1 cl_8 ⟨Nat.le_of_ble_eq_true rfl, Nat.le_of_ble_eq_true rfl⟩ rfl hl.1 rfl (Nat.le_of_ble_eq_true rfl) ⟨Nat.le_of_ble_eq_true rfl, Nat.le_of_ble_eq_true rfl⟩ dX11_end_5 (fun r_1 σ_1 τ_1 H locs hp hw => ?_)
  obtain ⟨er_1, hs_1, et_1⟩ := hp
  obtain rfl := er_1.symm
  obtain rfl := et_1.symm
  by_cases c_2 : n.toInt = 0
  · refine gx_top (v := 1) (if_pos c_2) ?_
    exact gx_ri (post := fun r σ1 τ1 => r = (if n.toInt = 0 then 1 else 0) ∧ (∀ c k : Nat, 199 ≤ c → σ1 c k = gs0 c k) ∧ True) (v := 1) S hr hlk hw rfl dX11_end_8 ⟨(by exact (if_pos (by omega)).symm), (fun c9 k9 h9 => (hs_1 c9 k9 h9).trans (rfl)), trivial⟩
  · refine gx_top (v := 0) ((if_neg c_2).trans (rfl)) ?_
    exact gx_ri (post := fun r σ1 τ1 => r = (if n.toInt = 0 then 1 else 0) ∧ (∀ c k : Nat, 199 ≤ c → σ1 c k = gs0 c k) ∧ True) (v := 0) S hr hlk hw rfl dX11_end_8 ⟨(by exact ((if_neg (by omega)).trans (rfl)).symm), (fun c9 k9 h9 => (hs_1 c9 k9 h9).trans (rfl)), trivial⟩
set_option maxHeartbeats 4000000 in
set_option maxRecDepth 100000 in
theorem c_x_town (l : Launch) {E : gE}   : gx_Mi l yX11_town cX11_town 2 (some .int) 3 gx_tb E gs0 gt0 [.ref (E.2.2 + 0)] (fun r σ1 τ1 => r = 0 ∧ (∀ c k : Nat, 199 ≤ c → σ1 c k = gs0 c k) ∧ True) := by
  refine gx_bi (by decide +kernel) (Nat.le_of_ble_eq_true rfl) ?_
  intro P9 e9 s m9 below meth C9 S hr hlk hK hw ls hl
  have S : CallFix P9 m9 C9 cX11_town 2 s _ gx_G RX11 := S
  have hx := S.1
  have hb := S.2.1
  have hl : lv_has ls 2 [(0, .ref (E.2.2 + 0))] := hl
  refine lv_aload_n hx hb dX11_town_0 rfl (lv_at hl 0 rfl) ?_
  refine gx_getr (j := 9) S hK hw t_0 cl_12 2 (by decide) rfl mw_449 rfl dX11_town_1 ?_
  refine lv_aload_n hx hb dX11_town_4 rfl (lv_at hl 0 rfl) ?_
  refine gx_getr (j := 1) S hK hw t_0 cl_12 0 (by decide) rfl mw_447 rfl dX11_town_5 ?_
  refine gx_cVi (As := [.ref (E.2.2 + 1)]) (rest := []) S hK gx_ok hw (c_Town_read l (E := E) gs0 gt0 (by first | rfl | decide | simp [up2, gs0])) cw_X11_114 t_9 cl_9 ⟨Nat.le_of_ble_eq_true rfl, Nat.le_of_ble_eq_true rfl⟩ rfl hl.1 rfl (Nat.le_of_ble_eq_true rfl) ⟨Nat.le_of_ble_eq_true rfl, Nat.le_of_ble_eq_true rfl⟩ dX11_town_8 (fun r_1 σ_1 τ_1 H locs hp hw => ?_)
  obtain ⟨er_1, hs_1, et_1⟩ := hp
  obtain rfl := er_1.symm
  obtain rfl := et_1.symm
  refine lv_istore_n (lv' := [(1, .int 0), (0, .ref (E.2.2 + 0))]) hx hb dX11_town_11 rfl hl (by decide) rfl (fun ls hl => ?_)
  refine lv_aload_n hx hb dX11_town_12 rfl (lv_at hl 1 rfl) ?_
  refine gx_getr (j := 1) S hK hw t_0 cl_12 0 (by decide) rfl mw_447 rfl dX11_town_13 ?_
  refine lv_iconst (v := 0) hx hb dX11_town_16 (by decide) ?_
  refine gx_cVi (As := [.int 0]) (rest := []) S hK gx_ok hw (c_cut0 l (E := E) (σ_1) gt0 (by first | rfl | decide | simp [up2, gs0, hs_1])) cw_X11_111 t_1 cl_8 ⟨Nat.le_of_ble_eq_true rfl, Nat.le_of_ble_eq_true rfl⟩ rfl hl.1 rfl (Nat.le_of_ble_eq_true rfl) ⟨Nat.le_of_ble_eq_true rfl, Nat.le_of_ble_eq_true rfl⟩ dX11_town_17 (fun r_2 σ_2 τ_2 H locs hp hw => ?_)
  obtain ⟨er_2, es_2, et_2⟩ := hp
  obtain rfl := er_2.symm
  obtain rfl := es_2.symm
  obtain rfl := et_2.symm
  refine lv_pop hx hb dX11_town_20 rfl ?_
  refine lv_iload_n hx hb dX11_town_21 rfl (lv_at hl 0 rfl) ?_
  refine lv_if_ge (tgt := 27) hx hb dX11_town_22 (by decide) (fun _ => ?_) (fun h => absurd (by decide) h)
  refine lv_aload_n hx hb dX11_town_27 rfl (lv_at hl 1 rfl) ?_
  refine gx_getr (j := 3) S hK hw t_0 cl_12 1 (by decide) rfl mw_448 rfl dX11_town_28 ?_
  refine lv_aload_n hx hb dX11_town_31 rfl (lv_at hl 1 rfl) ?_
  refine gx_getr (j := 9) S hK hw t_0 cl_12 2 (by decide) rfl mw_449 rfl dX11_town_32 ?_
  refine gx_cVv (As := [.ref (E.2.2 + 9)]) (rest := []) S hK gx_ok hw (c_Town_copy l (E := E) (up2 (σ_1) 1 2 0) gt0 ) cw_X11_118 t_3 cl_9 ⟨Nat.le_of_ble_eq_true rfl, Nat.le_of_ble_eq_true rfl⟩ rfl hl.1 rfl (Nat.le_of_ble_eq_true rfl) ⟨Nat.le_of_ble_eq_true rfl, Nat.le_of_ble_eq_true rfl⟩ dX11_town_35 (fun σ_3 τ_3 H locs hp hw => ?_)
  obtain ⟨hs_3, et_3⟩ := hp
  obtain rfl := et_3.symm
  refine lv_aload_n hx hb dX11_town_38 rfl (lv_at hl 1 rfl) ?_
  refine gx_getr (j := 30) S hK hw t_0 cl_12 7 (by decide) rfl mw_454 rfl dX11_town_39 ?_
  refine gx_cVv (As := []) (rest := []) S hK gx_ok hw (c_Scene_clear l (E := E) (σ_3) gt0 30 (by first | rfl | decide | simp [up2, gs0, hs_1, hs_3])) cw_X11_122 t_30 cl_7 ⟨Nat.le_of_ble_eq_true rfl, Nat.le_of_ble_eq_true rfl⟩ rfl hl.1 rfl (Nat.le_of_ble_eq_true rfl) ⟨Nat.le_of_ble_eq_true rfl, Nat.le_of_ble_eq_true rfl⟩ dX11_town_42 (fun σ_4 τ_4 H locs hp hw => ?_)
  obtain ⟨es_4, et_4⟩ := hp
  obtain rfl := es_4.symm
  obtain rfl := et_4.symm
  refine lv_aload_n hx hb dX11_town_45 rfl (lv_at hl 1 rfl) ?_
  refine gx_getr (j := 44) S hK hw t_0 cl_12 9 (by decide) rfl mw_456 rfl dX11_town_46 ?_
  refine gx_cVv (As := []) (rest := []) S hK gx_ok hw (c_Past_clear l (E := E) (up2 (up2 (up2 (up2 (up2 ((σ_3)) 30 6 0) 30 7 0) 30 8 0) 30 9 0) 30 10 0) gt0 ) cw_X11_125 t_44 cl_4 ⟨Nat.le_of_ble_eq_true rfl, Nat.le_of_ble_eq_true rfl⟩ rfl hl.1 rfl (Nat.le_of_ble_eq_true rfl) ⟨Nat.le_of_ble_eq_true rfl, Nat.le_of_ble_eq_true rfl⟩ dX11_town_49 (fun σ_5 τ_5 H locs hp hw => ?_)
  obtain ⟨es_5, et_5⟩ := hp
  obtain rfl := es_5.symm
  obtain rfl := et_5.symm
  refine lv_aload_n hx hb dX11_town_52 rfl (lv_at hl 1 rfl) ?_
  refine gx_getr (j := 152) S hK hw t_0 cl_12 12 (by decide) rfl mw_459 rfl dX11_town_53 ?_
  refine lv_iconst (v := 0) hx hb dX11_town_56 (by decide) ?_
  refine gx_put S hK gx_ok hw t_152 cl_1 3 (by decide) rfl mw_340 rfl rfl (ty := .int) (v := 0) (by decide +kernel) rfl rfl dX11_town_57 (fun H locs hw => ?_)
  refine lv_aload_n hx hb dX11_town_60 rfl (lv_at hl 1 rfl) ?_
  refine lv_iconst (v := 0) hx hb dX11_town_61 (by decide) ?_
  refine gx_put S hK gx_ok hw t_0 cl_12 11 (by decide) rfl mw_458 rfl rfl (ty := .int) (v := 0) (by decide +kernel) rfl rfl dX11_town_62 (fun H locs hw => ?_)
  refine lv_iload_n hx hb dX11_town_65 rfl (lv_at hl 0 rfl) ?_
  exact gx_ri (post := fun r σ1 τ1 => r = 0 ∧ (∀ c k : Nat, 199 ≤ c → σ1 c k = gs0 c k) ∧ True) (v := 0) S hr hlk hw rfl dX11_town_66 ⟨rfl, (fun c9 k9 h9 => (up2_hi (by omega) h9).trans ((up2_hi (by omega) h9).trans ((up2_hi (by omega) h9).trans ((up2_hi (by omega) h9).trans ((up2_hi (by omega) h9).trans ((up2_hi (by omega) h9).trans ((up2_hi (by omega) h9).trans ((up2_hi (by omega) h9).trans ((hs_3 c9 k9 (by omega) (by omega) (by omega) (by omega) (by omega)).trans ((up2_hi (by omega) h9).trans ((hs_1 c9 k9 (by omega) (by omega) (by omega)).trans (rfl)))))))))))), trivial⟩
set_option maxHeartbeats 4000000 in
set_option maxRecDepth 100000 in
theorem c_x_water (l : Launch) {E : gE}   : gx_Mi l yX11_water cX11_water 2 (some .int) 3 gx_tb E gs0 gt0 [.ref (E.2.2 + 0)] (fun r σ1 τ1 => r = 0 ∧ (∀ c k : Nat, 199 ≤ c → σ1 c k = gs0 c k) ∧ True) := by
  refine gx_bi (by decide +kernel) (Nat.le_of_ble_eq_true rfl) ?_
  intro P9 e9 s m9 below meth C9 S hr hlk hK hw ls hl
  have S : CallFix P9 m9 C9 cX11_water 2 s _ gx_G RX11 := S
  have hx := S.1
  have hb := S.2.1
  have hl : lv_has ls 2 [(0, .ref (E.2.2 + 0))] := hl
  refine lv_aload_n hx hb dX11_water_0 rfl (lv_at hl 0 rfl) ?_
  refine gx_getr (j := 15) S hK hw t_0 cl_12 3 (by decide) rfl mw_450 rfl dX11_water_1 ?_
  refine lv_aload_n hx hb dX11_water_4 rfl (lv_at hl 0 rfl) ?_
  refine gx_getr (j := 1) S hK hw t_0 cl_12 0 (by decide) rfl mw_447 rfl dX11_water_5 ?_
  refine gx_cVi (As := [.ref (E.2.2 + 1)]) (rest := []) S hK gx_ok hw (c_Water_read l (E := E) gs0 gt0 (by first | rfl | decide | simp [up2, gs0])) cw_X11_132 t_15 cl_11 ⟨Nat.le_of_ble_eq_true rfl, Nat.le_of_ble_eq_true rfl⟩ rfl hl.1 rfl (Nat.le_of_ble_eq_true rfl) ⟨Nat.le_of_ble_eq_true rfl, Nat.le_of_ble_eq_true rfl⟩ dX11_water_8 (fun r_1 σ_1 τ_1 H locs hp hw => ?_)
  obtain ⟨er_1, hs_1, et_1⟩ := hp
  obtain rfl := er_1.symm
  obtain rfl := et_1.symm
  refine lv_istore_n (lv' := [(1, .int 0), (0, .ref (E.2.2 + 0))]) hx hb dX11_water_11 rfl hl (by decide) rfl (fun ls hl => ?_)
  refine lv_aload_n hx hb dX11_water_12 rfl (lv_at hl 1 rfl) ?_
  refine gx_getr (j := 1) S hK hw t_0 cl_12 0 (by decide) rfl mw_447 rfl dX11_water_13 ?_
  refine lv_iconst (v := 0) hx hb dX11_water_16 (by decide) ?_
  refine gx_cVi (As := [.int 0]) (rest := []) S hK gx_ok hw (c_cut0 l (E := E) (σ_1) gt0 (by first | rfl | decide | simp [up2, gs0, hs_1])) cw_X11_111 t_1 cl_8 ⟨Nat.le_of_ble_eq_true rfl, Nat.le_of_ble_eq_true rfl⟩ rfl hl.1 rfl (Nat.le_of_ble_eq_true rfl) ⟨Nat.le_of_ble_eq_true rfl, Nat.le_of_ble_eq_true rfl⟩ dX11_water_17 (fun r_2 σ_2 τ_2 H locs hp hw => ?_)
  obtain ⟨er_2, es_2, et_2⟩ := hp
  obtain rfl := er_2.symm
  obtain rfl := es_2.symm
  obtain rfl := et_2.symm
  refine lv_pop hx hb dX11_water_20 rfl ?_
  refine lv_iload_n hx hb dX11_water_21 rfl (lv_at hl 0 rfl) ?_
  exact gx_ri (post := fun r σ1 τ1 => r = 0 ∧ (∀ c k : Nat, 199 ≤ c → σ1 c k = gs0 c k) ∧ True) (v := 0) S hr hlk hw rfl dX11_water_22 ⟨rfl, (fun c9 k9 h9 => (up2_hi (by omega) h9).trans ((hs_1 c9 k9 (by omega) (by omega)).trans (rfl))), trivial⟩
set_option maxHeartbeats 4000000 in
set_option maxRecDepth 100000 in
theorem c_x_rule (l : Launch) {E : gE}   : gx_Mi l yX11_rule cX11_rule 2 (some .int) 3 gx_tb E gs0 gt0 [.ref (E.2.2 + 0)] (fun r σ1 τ1 => r = 0 ∧ (∀ c k : Nat, 199 ≤ c → σ1 c k = gs0 c k) ∧ True) := by
  refine gx_bi (by decide +kernel) (Nat.le_of_ble_eq_true rfl) ?_
  intro P9 e9 s m9 below meth C9 S hr hlk hK hw ls hl
  have S : CallFix P9 m9 C9 cX11_rule 2 s _ gx_G RX11 := S
  have hx := S.1
  have hb := S.2.1
  have hl : lv_has ls 2 [(0, .ref (E.2.2 + 0))] := hl
  refine lv_aload_n hx hb dX11_rule_0 rfl (lv_at hl 0 rfl) ?_
  refine gx_getr (j := 21) S hK hw t_0 cl_12 5 (by decide) rfl mw_452 rfl dX11_rule_1 ?_
  refine lv_aload_n hx hb dX11_rule_4 rfl (lv_at hl 0 rfl) ?_
  refine gx_getr (j := 1) S hK hw t_0 cl_12 0 (by decide) rfl mw_447 rfl dX11_rule_5 ?_
  refine gx_cVi (As := [.ref (E.2.2 + 1)]) (rest := []) S hK gx_ok hw (c_Rule_read l (E := E) gs0 gt0 (by first | rfl | decide | simp [up2, gs0])) cw_X11_133 t_21 cl_6 ⟨Nat.le_of_ble_eq_true rfl, Nat.le_of_ble_eq_true rfl⟩ rfl hl.1 rfl (Nat.le_of_ble_eq_true rfl) ⟨Nat.le_of_ble_eq_true rfl, Nat.le_of_ble_eq_true rfl⟩ dX11_rule_8 (fun r_1 σ_1 τ_1 H locs hp hw => ?_)
  obtain ⟨er_1, hs_1, et_1⟩ := hp
  obtain rfl := er_1.symm
  obtain rfl := et_1.symm
  refine lv_istore_n (lv' := [(1, .int 0), (0, .ref (E.2.2 + 0))]) hx hb dX11_rule_11 rfl hl (by decide) rfl (fun ls hl => ?_)
  refine lv_aload_n hx hb dX11_rule_12 rfl (lv_at hl 1 rfl) ?_
  refine gx_getr (j := 1) S hK hw t_0 cl_12 0 (by decide) rfl mw_447 rfl dX11_rule_13 ?_
  refine lv_iconst (v := 0) hx hb dX11_rule_16 (by decide) ?_
  refine gx_cVi (As := [.int 0]) (rest := []) S hK gx_ok hw (c_cut0 l (E := E) (σ_1) gt0 (by first | rfl | decide | simp [up2, gs0, hs_1])) cw_X11_111 t_1 cl_8 ⟨Nat.le_of_ble_eq_true rfl, Nat.le_of_ble_eq_true rfl⟩ rfl hl.1 rfl (Nat.le_of_ble_eq_true rfl) ⟨Nat.le_of_ble_eq_true rfl, Nat.le_of_ble_eq_true rfl⟩ dX11_rule_17 (fun r_2 σ_2 τ_2 H locs hp hw => ?_)
  obtain ⟨er_2, es_2, et_2⟩ := hp
  obtain rfl := er_2.symm
  obtain rfl := es_2.symm
  obtain rfl := et_2.symm
  refine lv_pop hx hb dX11_rule_20 rfl ?_
  refine lv_iload_n hx hb dX11_rule_21 rfl (lv_at hl 0 rfl) ?_
  refine lv_if_lt (tgt := 36) hx hb dX11_rule_22 (by decide) (fun h => absurd h (by decide)) (fun _ => ?_)
  refine lv_aload_n hx hb dX11_rule_25 rfl (lv_at hl 1 rfl) ?_
  refine gx_getr (j := 17) S hK hw t_0 cl_12 4 (by decide) rfl mw_451 rfl dX11_rule_26 ?_
  refine lv_aload_n hx hb dX11_rule_29 rfl (lv_at hl 1 rfl) ?_
  refine gx_getr (j := 21) S hK hw t_0 cl_12 5 (by decide) rfl mw_452 rfl dX11_rule_30 ?_
  refine gx_cVv (As := [.ref (E.2.2 + 21)]) (rest := []) S hK gx_ok hw (c_Rule_copy l (E := E) (up2 (σ_1) 1 2 0) gt0 (by first | rfl | decide | simp [up2, gs0, hs_1]) (by first | rfl | decide | simp [up2, gs0, hs_1])) cw_X11_134 t_17 cl_6 ⟨Nat.le_of_ble_eq_true rfl, Nat.le_of_ble_eq_true rfl⟩ rfl hl.1 rfl (Nat.le_of_ble_eq_true rfl) ⟨Nat.le_of_ble_eq_true rfl, Nat.le_of_ble_eq_true rfl⟩ dX11_rule_33 (fun σ_3 τ_3 H locs hp hw => ?_)
  obtain ⟨hs_3, et_3⟩ := hp
  obtain rfl := et_3.symm
  refine lv_iload_n hx hb dX11_rule_36 rfl (lv_at hl 0 rfl) ?_
  exact gx_ri (post := fun r σ1 τ1 => r = 0 ∧ (∀ c k : Nat, 199 ≤ c → σ1 c k = gs0 c k) ∧ True) (v := 0) S hr hlk hw rfl dX11_rule_37 ⟨rfl, (fun c9 k9 h9 => (hs_3 c9 k9 (by omega) (by omega)).trans ((up2_hi (by omega) h9).trans ((hs_1 c9 k9 (by omega) (by omega)).trans ((up2_hi (by omega) h9).trans ((up2_hi (by omega) h9).trans ((up2_hi (by omega) h9).trans ((up2_hi (by omega) h9).trans ((up2_hi (by omega) h9).trans ((up2_hi (by omega) h9).trans ((up2_hi (by omega) h9).trans ((up2_hi (by omega) h9).trans ((up2_hi (by omega) h9).trans ((up2_hi (by omega) h9).trans ((up2_hi (by omega) h9).trans ((up2_hi (by omega) h9).trans ((up2_hi (by omega) h9).trans (rfl))))))))))))))))), trivial⟩
set_option maxHeartbeats 4000000 in
set_option maxRecDepth 100000 in
theorem c_x_flow (l : Launch) {E : gE} (n : Int32)  : gx_Mi l yX11_flow cX11_flow 2 (some .int) 1 gx_tb E gs0 gt0 [.ref (E.2.2 + 0), .int n] (fun r σ1 τ1 => r = (if 0 ≤ n.toInt ∧ n.toInt ≤ 9999 then 1 else (-1)) ∧ (∀ c k : Nat, 199 ≤ c → σ1 c k = gs0 c k) ∧ True) := by
  refine gx_bi (by decide +kernel) (Nat.le_of_ble_eq_true rfl) ?_
  intro P9 e9 s m9 below meth C9 S hr hlk hK hw ls hl
  have S : CallFix P9 m9 C9 cX11_flow 2 s _ gx_G RX11 := S
  have hx := S.1
  have hb := S.2.1
  have hl : lv_has ls 2 [(0, .ref (E.2.2 + 0)), (1, .int n)] := hl
  refine lv_iload_n hx hb dX11_flow_0 rfl (lv_at hl 1 rfl) ?_
  refine lv_if_lt (tgt := 22) hx hb dX11_flow_1 (by decide) (fun c_1 => ?_) (fun c_1 => ?_)
  · refine lv_iconst (v := (-1)) hx hb dX11_flow_22 (by decide) ?_
    exact gx_ri (post := fun r σ1 τ1 => r = (if 0 ≤ n.toInt ∧ n.toInt ≤ 9999 then 1 else (-1)) ∧ (∀ c k : Nat, 199 ≤ c → σ1 c k = gs0 c k) ∧ True) (v := (-1)) S hr hlk hw rfl dX11_flow_23 ⟨(by simp only [fa_lt, fa_le, fa_eq, show (0 : Int32).toInt = 0 from rfl] at c_1; exact ((if_neg (by omega)).trans (rfl)).symm), (fun c9 k9 h9 => rfl), trivial⟩
  · refine lv_iload_n hx hb dX11_flow_4 rfl (lv_at hl 1 rfl) ?_
    refine lv_sipush (v := 9999) hx hb dX11_flow_5 (by decide) ?_
    refine lv_icmp_gt (tgt := 22) hx hb dX11_flow_8 (by decide) (fun c_2 => ?_) (fun c_2 => ?_)
    · refine lv_iconst (v := (-1)) hx hb dX11_flow_22 (by decide) ?_
      exact gx_ri (post := fun r σ1 τ1 => r = (if 0 ≤ n.toInt ∧ n.toInt ≤ 9999 then 1 else (-1)) ∧ (∀ c k : Nat, 199 ≤ c → σ1 c k = gs0 c k) ∧ True) (v := (-1)) S hr hlk hw rfl dX11_flow_23 ⟨(by simp only [fa_lt, fa_le, fa_eq, show (0 : Int32).toInt = 0 from rfl, show (9999 : Int32).toInt = 9999 from rfl] at c_1 c_2; exact ((if_neg (by omega)).trans (rfl)).symm), (fun c9 k9 h9 => rfl), trivial⟩
    · refine lv_aload_n hx hb dX11_flow_11 rfl (lv_at hl 0 rfl) ?_
      refine gx_getr (j := 15) S hK hw t_0 cl_12 3 (by decide) rfl mw_450 rfl dX11_flow_12 ?_
      refine lv_iload_n hx hb dX11_flow_15 rfl (lv_at hl 1 rfl) ?_
      refine gx_cVi (As := [.int n]) (rest := []) S hK gx_ok hw (c_Water_in l (E := E) gs0 gt0 n (by first | rfl | decide | simp [up2, gs0])) cw_X11_198 t_15 cl_11 ⟨Nat.le_of_ble_eq_true rfl, Nat.le_of_ble_eq_true rfl⟩ rfl hl.1 rfl (Nat.le_of_ble_eq_true rfl) ⟨Nat.le_of_ble_eq_true rfl, Nat.le_of_ble_eq_true rfl⟩ dX11_flow_16 (fun r_3 σ_3 τ_3 H locs hp hw => ?_)
      obtain ⟨er_3, es_3, et_3⟩ := hp
      obtain rfl := er_3.symm
      obtain rfl := es_3.symm
      obtain rfl := et_3.symm
      refine lv_goto (tgt := 23) hx hb dX11_flow_19 (by decide) ?_
      exact gx_ri (post := fun r σ1 τ1 => r = (if 0 ≤ n.toInt ∧ n.toInt ≤ 9999 then 1 else (-1)) ∧ (∀ c k : Nat, 199 ≤ c → σ1 c k = gs0 c k) ∧ True) (v := 1) S hr hlk hw rfl dX11_flow_23 ⟨(by simp only [fa_lt, fa_le, fa_eq, show (0 : Int32).toInt = 0 from rfl, show (9999 : Int32).toInt = 9999 from rfl] at c_1 c_2; exact (if_pos (by omega)).symm), (fun c9 k9 h9 => rfl), trivial⟩
set_option maxHeartbeats 4000000 in
set_option maxRecDepth 100000 in
theorem c_x_plank (l : Launch) {E : gE} (p v : Int32)  : gx_Mi l yX11_plank cX11_plank 3 (some .boolean) 1 gx_tb E gs0 gt0 [.ref (E.2.2 + 0), .int p, .int v] (fun r σ1 τ1 => r = 0 ∧ (∀ c k : Nat, 199 ≤ c → σ1 c k = gs0 c k) ∧ True) := by
  refine gx_bi (by decide +kernel) (Nat.le_of_ble_eq_true rfl) ?_
  intro P9 e9 s m9 below meth C9 S hr hlk hK hw ls hl
  have S : CallFix P9 m9 C9 cX11_plank 3 s _ gx_G RX11 := S
  have hx := S.1
  have hb := S.2.1
  have hl : lv_has ls 3 [(0, .ref (E.2.2 + 0)), (1, .int p), (2, .int v)] := hl
  refine lv_aload_n hx hb dX11_plank_0 rfl (lv_at hl 0 rfl) ?_
  refine gx_getr (j := 3) S hK hw t_0 cl_12 1 (by decide) rfl mw_448 rfl dX11_plank_1 ?_
  refine lv_iload_n hx hb dX11_plank_4 rfl (lv_at hl 1 rfl) ?_
  refine gx_cVi (As := [.int p]) (rest := []) S hK gx_ok hw (c_Town_isFork l (E := E) gs0 gt0 p (by first | rfl | decide | simp [up2, gs0])) cw_X11_201 t_3 cl_9 ⟨Nat.le_of_ble_eq_true rfl, Nat.le_of_ble_eq_true rfl⟩ rfl hl.1 rfl (Nat.le_of_ble_eq_true rfl) ⟨Nat.le_of_ble_eq_true rfl, Nat.le_of_ble_eq_true rfl⟩ dX11_plank_5 (fun r_1 σ_1 τ_1 H locs hp hw => ?_)
  obtain ⟨er_1, es_1, et_1⟩ := hp
  obtain rfl := er_1.symm
  obtain rfl := es_1.symm
  obtain rfl := et_1.symm
  refine lv_if_eq (tgt := 20) hx hb dX11_plank_8 (by decide) (fun _ => ?_) (fun h => absurd (by decide) h)
  refine lv_iconst (v := 0) hx hb dX11_plank_20 (by decide) ?_
  exact gx_ri (post := fun r σ1 τ1 => r = 0 ∧ (∀ c k : Nat, 199 ≤ c → σ1 c k = gs0 c k) ∧ True) (v := 0) S hr hlk hw rfl dX11_plank_21 ⟨rfl, (fun c9 k9 h9 => rfl), trivial⟩
set_option maxHeartbeats 4000000 in
set_option maxRecDepth 100000 in
theorem c_x_sheet (l : Launch) {E : gE} (k n f t : Int32)  : gx_Mi l yX11_sheet cX11_sheet 9 (some .int) 0 gx_tb E gs0 gt0 [.ref (E.2.2 + 0), .int k, .int n, .int f, .int t] (fun r σ1 τ1 => r = (if k.toInt < 0 ∨ 3 < k.toInt ∨ 6 < n.toInt then (-1) else (if k.toInt = 3 then (-3) else (if n.toInt < 0 then (-2) else 0))) ∧ (∀ c k : Nat, 199 ≤ c → σ1 c k = gs0 c k) ∧ True) := by
  refine gx_bi (by decide +kernel) (Nat.le_of_ble_eq_true rfl) ?_
  intro P9 e9 s m9 below meth C9 S hr hlk hK hw ls hl
  have S : CallFix P9 m9 C9 cX11_sheet 9 s _ gx_G RX11 := S
  have hx := S.1
  have hb := S.2.1
  have hl : lv_has ls 9 [(0, .ref (E.2.2 + 0)), (1, .int k), (2, .int n), (3, .int f), (4, .int t)] := hl
  refine lv_iload_n hx hb dX11_sheet_0 rfl (lv_at hl 1 rfl) ?_
  refine lv_if_lt (tgt := 15) hx hb dX11_sheet_1 (by decide) (fun c_1 => ?_) (fun c_1 => ?_)
  · refine lv_iconst (v := (-1)) hx hb dX11_sheet_15 (by decide) ?_
    exact gx_ri (post := fun r σ1 τ1 => r = (if k.toInt < 0 ∨ 3 < k.toInt ∨ 6 < n.toInt then (-1) else (if k.toInt = 3 then (-3) else (if n.toInt < 0 then (-2) else 0))) ∧ (∀ c k : Nat, 199 ≤ c → σ1 c k = gs0 c k) ∧ True) (v := (-1)) S hr hlk hw rfl dX11_sheet_16 ⟨(by simp only [fa_lt, fa_le, fa_eq, show (0 : Int32).toInt = 0 from rfl] at c_1; exact (if_pos (by omega)).symm), (fun c9 k9 h9 => rfl), trivial⟩
  · refine lv_iload_n hx hb dX11_sheet_4 rfl (lv_at hl 1 rfl) ?_
    refine lv_iconst (v := 3) hx hb dX11_sheet_5 (by decide) ?_
    refine lv_icmp_gt (tgt := 15) hx hb dX11_sheet_6 (by decide) (fun c_2 => ?_) (fun c_2 => ?_)
    · refine lv_iconst (v := (-1)) hx hb dX11_sheet_15 (by decide) ?_
      exact gx_ri (post := fun r σ1 τ1 => r = (if k.toInt < 0 ∨ 3 < k.toInt ∨ 6 < n.toInt then (-1) else (if k.toInt = 3 then (-3) else (if n.toInt < 0 then (-2) else 0))) ∧ (∀ c k : Nat, 199 ≤ c → σ1 c k = gs0 c k) ∧ True) (v := (-1)) S hr hlk hw rfl dX11_sheet_16 ⟨(by simp only [fa_lt, fa_le, fa_eq, show (0 : Int32).toInt = 0 from rfl, show (3 : Int32).toInt = 3 from rfl] at c_1 c_2; exact (if_pos (by omega)).symm), (fun c9 k9 h9 => rfl), trivial⟩
    · refine lv_iload_n hx hb dX11_sheet_9 rfl (lv_at hl 2 rfl) ?_
      refine lv_bipush (v := 6) hx hb dX11_sheet_10 (by decide) ?_
      refine lv_icmp_le (tgt := 17) hx hb dX11_sheet_12 (by decide) (fun c_3 => ?_) (fun c_3 => ?_)
      · refine lv_iload_n hx hb dX11_sheet_17 rfl (lv_at hl 1 rfl) ?_
        refine lv_iconst (v := 3) hx hb dX11_sheet_18 (by decide) ?_
        refine lv_icmp_ne (tgt := 26) hx hb dX11_sheet_19 (by decide) (fun c_4 => ?_) (fun c_4 => ?_)
        · refine lv_iconst (v := 0) hx hb dX11_sheet_26 (by decide) ?_
          refine lv_istore (lv' := [(5, .int 0), (0, .ref (E.2.2 + 0)), (1, .int k), (2, .int n), (3, .int f), (4, .int t)]) hx hb dX11_sheet_27 hl (by decide) rfl (fun ls hl => ?_)
          refine lv_iload hx hb dX11_sheet_29 (lv_at hl 0 rfl) ?_
          refine lv_if_ne (tgt := 41) hx hb dX11_sheet_31 (by decide) (fun h => absurd (by decide) h) (fun _ => ?_)
          refine lv_iload_n hx hb dX11_sheet_34 rfl (lv_at hl 3 rfl) ?_
          refine lv_if_ge (tgt := 41) hx hb dX11_sheet_35 (by decide) (fun c_5 => ?_) (fun c_5 => ?_)
          · refine lv_iconst (v := 0) hx hb dX11_sheet_41 (by decide) ?_
            refine lv_istore (lv' := [(6, .int 0), (5, .int 0), (0, .ref (E.2.2 + 0)), (1, .int k), (2, .int n), (3, .int f), (4, .int t)]) hx hb dX11_sheet_42 hl (by decide) rfl (fun ls hl => ?_)
            refine lv_iconst (v := 0) hx hb dX11_sheet_44 (by decide) ?_
            refine lv_istore (lv' := [(7, .int 0), (6, .int 0), (5, .int 0), (0, .ref (E.2.2 + 0)), (1, .int k), (2, .int n), (3, .int f), (4, .int t)]) hx hb dX11_sheet_45 hl (by decide) rfl (fun ls hl => ?_)
            refine lv_iload hx hb dX11_sheet_47 (lv_at hl 0 rfl) ?_
            refine lv_aload_n hx hb dX11_sheet_49 rfl (lv_at hl 3 rfl) ?_
            refine gx_getr (j := 30) S hK hw t_0 cl_12 7 (by decide) rfl mw_454 rfl dX11_sheet_50 ?_
            refine gx_get S hK hw t_30 cl_7 6 (by decide) rfl mw_272 rfl dX11_sheet_53 ?_
            refine gx_top (v := 0) (by first | rfl | decide | simp [up2, gs0]) ?_
            refine lv_icmp_ge (tgt := 111) hx hb dX11_sheet_56 (by decide) (fun _ => ?_) (fun h => absurd (by decide) h)
            refine lv_iload hx hb dX11_sheet_111 (lv_at hl 2 rfl) ?_
            refine lv_if_eq (tgt := 121) hx hb dX11_sheet_113 (by decide) (fun _ => ?_) (fun h => absurd (by decide) h)
            refine lv_iload hx hb dX11_sheet_121 (lv_at hl 1 rfl) ?_
            exact gx_ri (post := fun r σ1 τ1 => r = (if k.toInt < 0 ∨ 3 < k.toInt ∨ 6 < n.toInt then (-1) else (if k.toInt = 3 then (-3) else (if n.toInt < 0 then (-2) else 0))) ∧ (∀ c k : Nat, 199 ≤ c → σ1 c k = gs0 c k) ∧ True) (v := 0) S hr hlk hw rfl dX11_sheet_123 ⟨(by simp only [fa_lt, fa_le, fa_eq, show (0 : Int32).toInt = 0 from rfl, show (3 : Int32).toInt = 3 from rfl, show (6 : Int32).toInt = 6 from rfl] at c_1 c_2 c_3 c_4 c_5; exact ((if_neg (by omega)).trans ((if_neg (by omega)).trans ((if_neg (by omega)).trans (rfl)))).symm), (fun c9 k9 h9 => rfl), trivial⟩
          · refine lv_bipush (v := (-2)) hx hb dX11_sheet_38 (by decide) ?_
            exact gx_ri (post := fun r σ1 τ1 => r = (if k.toInt < 0 ∨ 3 < k.toInt ∨ 6 < n.toInt then (-1) else (if k.toInt = 3 then (-3) else (if n.toInt < 0 then (-2) else 0))) ∧ (∀ c k : Nat, 199 ≤ c → σ1 c k = gs0 c k) ∧ True) (v := (-2)) S hr hlk hw rfl dX11_sheet_40 ⟨(by simp only [fa_lt, fa_le, fa_eq, show (0 : Int32).toInt = 0 from rfl, show (3 : Int32).toInt = 3 from rfl, show (6 : Int32).toInt = 6 from rfl] at c_1 c_2 c_3 c_4 c_5; exact ((if_neg (by omega)).trans ((if_neg (by omega)).trans (if_pos (by omega)))).symm), (fun c9 k9 h9 => rfl), trivial⟩
        · refine lv_iconst (v := 1) hx hb dX11_sheet_22 (by decide) ?_
          refine lv_goto (tgt := 27) hx hb dX11_sheet_23 (by decide) ?_
          refine lv_istore (lv' := [(5, .int 1), (0, .ref (E.2.2 + 0)), (1, .int k), (2, .int n), (3, .int f), (4, .int t)]) hx hb dX11_sheet_27 hl (by decide) rfl (fun ls hl => ?_)
          refine lv_iload hx hb dX11_sheet_29 (lv_at hl 0 rfl) ?_
          refine lv_if_ne (tgt := 41) hx hb dX11_sheet_31 (by decide) (fun _ => ?_) (fun h => absurd h (by decide))
          refine lv_iconst (v := 0) hx hb dX11_sheet_41 (by decide) ?_
          refine lv_istore (lv' := [(6, .int 0), (5, .int 1), (0, .ref (E.2.2 + 0)), (1, .int k), (2, .int n), (3, .int f), (4, .int t)]) hx hb dX11_sheet_42 hl (by decide) rfl (fun ls hl => ?_)
          refine lv_iconst (v := 0) hx hb dX11_sheet_44 (by decide) ?_
          refine lv_istore (lv' := [(7, .int 0), (6, .int 0), (5, .int 1), (0, .ref (E.2.2 + 0)), (1, .int k), (2, .int n), (3, .int f), (4, .int t)]) hx hb dX11_sheet_45 hl (by decide) rfl (fun ls hl => ?_)
          refine lv_iload hx hb dX11_sheet_47 (lv_at hl 0 rfl) ?_
          refine lv_aload_n hx hb dX11_sheet_49 rfl (lv_at hl 3 rfl) ?_
          refine gx_getr (j := 30) S hK hw t_0 cl_12 7 (by decide) rfl mw_454 rfl dX11_sheet_50 ?_
          refine gx_get S hK hw t_30 cl_7 6 (by decide) rfl mw_272 rfl dX11_sheet_53 ?_
          refine gx_top (v := 0) (by first | rfl | decide | simp [up2, gs0]) ?_
          refine lv_icmp_ge (tgt := 111) hx hb dX11_sheet_56 (by decide) (fun _ => ?_) (fun h => absurd (by decide) h)
          refine lv_iload hx hb dX11_sheet_111 (lv_at hl 2 rfl) ?_
          refine lv_if_eq (tgt := 121) hx hb dX11_sheet_113 (by decide) (fun h => absurd h (by decide)) (fun _ => ?_)
          refine lv_bipush (v := (-3)) hx hb dX11_sheet_116 (by decide) ?_
          refine lv_goto (tgt := 123) hx hb dX11_sheet_118 (by decide) ?_
          exact gx_ri (post := fun r σ1 τ1 => r = (if k.toInt < 0 ∨ 3 < k.toInt ∨ 6 < n.toInt then (-1) else (if k.toInt = 3 then (-3) else (if n.toInt < 0 then (-2) else 0))) ∧ (∀ c k : Nat, 199 ≤ c → σ1 c k = gs0 c k) ∧ True) (v := (-3)) S hr hlk hw rfl dX11_sheet_123 ⟨(by simp only [fa_lt, fa_le, fa_eq, show (0 : Int32).toInt = 0 from rfl, show (3 : Int32).toInt = 3 from rfl, show (6 : Int32).toInt = 6 from rfl] at c_1 c_2 c_3 c_4; exact ((if_neg (by omega)).trans (if_pos (by omega))).symm), (fun c9 k9 h9 => rfl), trivial⟩
      · refine lv_iconst (v := (-1)) hx hb dX11_sheet_15 (by decide) ?_
        exact gx_ri (post := fun r σ1 τ1 => r = (if k.toInt < 0 ∨ 3 < k.toInt ∨ 6 < n.toInt then (-1) else (if k.toInt = 3 then (-3) else (if n.toInt < 0 then (-2) else 0))) ∧ (∀ c k : Nat, 199 ≤ c → σ1 c k = gs0 c k) ∧ True) (v := (-1)) S hr hlk hw rfl dX11_sheet_16 ⟨(by simp only [fa_lt, fa_le, fa_eq, show (0 : Int32).toInt = 0 from rfl, show (3 : Int32).toInt = 3 from rfl, show (6 : Int32).toInt = 6 from rfl] at c_1 c_2 c_3; exact (if_pos (by omega)).symm), (fun c9 k9 h9 => rfl), trivial⟩
set_option maxHeartbeats 4000000 in
set_option maxRecDepth 100000 in
theorem c_x_put (l : Launch) {E : gE} (p b n w : Int32)  : gx_Mi l yX11_put cX11_put 5 (some .int) 1 gx_tb E gs0 gt0 [.ref (E.2.2 + 0), .int p, .int b, .int n, .int w] (fun r σ1 τ1 => r = (-1) ∧ (∀ c k : Nat, 199 ≤ c → σ1 c k = gs0 c k) ∧ True) := by
  refine gx_bi (by decide +kernel) (Nat.le_of_ble_eq_true rfl) ?_
  intro P9 e9 s m9 below meth C9 S hr hlk hK hw ls hl
  have S : CallFix P9 m9 C9 cX11_put 5 s _ gx_G RX11 := S
  have hx := S.1
  have hb := S.2.1
  have hl : lv_has ls 5 [(0, .ref (E.2.2 + 0)), (1, .int p), (2, .int b), (3, .int n), (4, .int w)] := hl
  refine lv_aload_n hx hb dX11_put_0 rfl (lv_at hl 0 rfl) ?_
  refine gx_getr (j := 3) S hK hw t_0 cl_12 1 (by decide) rfl mw_448 rfl dX11_put_1 ?_
  refine lv_iload_n hx hb dX11_put_4 rfl (lv_at hl 1 rfl) ?_
  refine gx_cVi (As := [.int p]) (rest := []) S hK gx_ok hw (c_Town_has l (E := E) gs0 gt0 p (by first | rfl | decide | simp [up2, gs0])) cw_X11_137 t_3 cl_9 ⟨Nat.le_of_ble_eq_true rfl, Nat.le_of_ble_eq_true rfl⟩ rfl hl.1 rfl (Nat.le_of_ble_eq_true rfl) ⟨Nat.le_of_ble_eq_true rfl, Nat.le_of_ble_eq_true rfl⟩ dX11_put_5 (fun r_1 σ_1 τ_1 H locs hp hw => ?_)
  obtain ⟨er_1, es_1, et_1⟩ := hp
  obtain rfl := er_1.symm
  obtain rfl := es_1.symm
  obtain rfl := et_1.symm
  refine lv_if_eq (tgt := 27) hx hb dX11_put_8 (by decide) (fun _ => ?_) (fun h => absurd (by decide) h)
  refine lv_iconst (v := (-1)) hx hb dX11_put_27 (by decide) ?_
  exact gx_ri (post := fun r σ1 τ1 => r = (-1) ∧ (∀ c k : Nat, 199 ≤ c → σ1 c k = gs0 c k) ∧ True) (v := (-1)) S hr hlk hw rfl dX11_put_28 ⟨rfl, (fun c9 k9 h9 => rfl), trivial⟩
set_option maxHeartbeats 4000000 in
set_option maxRecDepth 100000 in
theorem c_x_give (l : Launch) {E : gE} (i n : Int32)  : gx_Mi l yX11_give cX11_give 3 (some .int) 1 gx_tb E gs0 gt0 [.ref (E.2.2 + 0), .int i, .int n] (fun r σ1 τ1 => r = (-1) ∧ (∀ c k : Nat, 199 ≤ c → σ1 c k = gs0 c k) ∧ True) := by
  refine gx_bi (by decide +kernel) (Nat.le_of_ble_eq_true rfl) ?_
  intro P9 e9 s m9 below meth C9 S hr hlk hK hw ls hl
  have S : CallFix P9 m9 C9 cX11_give 3 s _ gx_G RX11 := S
  have hx := S.1
  have hb := S.2.1
  have hl : lv_has ls 3 [(0, .ref (E.2.2 + 0)), (1, .int i), (2, .int n)] := hl
  refine lv_aload_n hx hb dX11_give_0 rfl (lv_at hl 0 rfl) ?_
  refine gx_getr (j := 30) S hK hw t_0 cl_12 7 (by decide) rfl mw_454 rfl dX11_give_1 ?_
  refine lv_iload_n hx hb dX11_give_4 rfl (lv_at hl 1 rfl) ?_
  refine gx_cVi (As := [.int i]) (rest := []) S hK gx_ok hw (c_Scene_isOnWay l (E := E) gs0 gt0 30 i (by first | rfl | decide | simp [up2, gs0]) (by first | rfl | decide | simp [up2, gs0])) cw_X11_241 t_30 cl_7 ⟨Nat.le_of_ble_eq_true rfl, Nat.le_of_ble_eq_true rfl⟩ rfl hl.1 rfl (Nat.le_of_ble_eq_true rfl) ⟨Nat.le_of_ble_eq_true rfl, Nat.le_of_ble_eq_true rfl⟩ dX11_give_5 (fun r_1 σ_1 τ_1 H locs hp hw => ?_)
  obtain ⟨er_1, es_1, et_1⟩ := hp
  obtain rfl := er_1.symm
  obtain rfl := es_1.symm
  obtain rfl := et_1.symm
  refine lv_if_eq (tgt := 22) hx hb dX11_give_8 (by decide) (fun _ => ?_) (fun h => absurd (by decide) h)
  refine lv_iconst (v := (-1)) hx hb dX11_give_22 (by decide) ?_
  exact gx_ri (post := fun r σ1 τ1 => r = (-1) ∧ (∀ c k : Nat, 199 ≤ c → σ1 c k = gs0 c k) ∧ True) (v := (-1)) S hr hlk hw rfl dX11_give_23 ⟨rfl, (fun c9 k9 h9 => rfl), trivial⟩
set_option maxHeartbeats 4000000 in
set_option maxRecDepth 100000 in
theorem c_x_run (l : Launch) {E : gE} (n : Int32)  : gx_Mi l yX11_run cX11_run 5 (some .int) 4 gx_tb E gs0 gt0 [.ref (E.2.2 + 0), .int n] (fun r σ1 τ1 => r = (if 0 ≤ n.toInt ∧ n.toInt ≤ 99 then 0 else (-1)) ∧ (∀ c k : Nat, 199 ≤ c → σ1 c k = gs0 c k) ∧ True) := by
  refine gx_bi (by decide +kernel) (Nat.le_of_ble_eq_true rfl) ?_
  intro P9 e9 s m9 below meth C9 S hr hlk hK hw ls hl
  have S : CallFix P9 m9 C9 cX11_run 5 s _ gx_G RX11 := S
  have hx := S.1
  have hb := S.2.1
  have hl : lv_has ls 5 [(0, .ref (E.2.2 + 0)), (1, .int n)] := hl
  refine lv_iload_n hx hb dX11_run_0 rfl (lv_at hl 1 rfl) ?_
  refine lv_if_lt (tgt := 10) hx hb dX11_run_1 (by decide) (fun c_1 => ?_) (fun c_1 => ?_)
  · refine lv_iconst (v := (-1)) hx hb dX11_run_10 (by decide) ?_
    exact gx_ri (post := fun r σ1 τ1 => r = (if 0 ≤ n.toInt ∧ n.toInt ≤ 99 then 0 else (-1)) ∧ (∀ c k : Nat, 199 ≤ c → σ1 c k = gs0 c k) ∧ True) (v := (-1)) S hr hlk hw rfl dX11_run_11 ⟨(by simp only [fa_lt, fa_le, fa_eq, show (0 : Int32).toInt = 0 from rfl] at c_1; exact ((if_neg (by omega)).trans (rfl)).symm), (fun c9 k9 h9 => rfl), trivial⟩
  · refine lv_iload_n hx hb dX11_run_4 rfl (lv_at hl 1 rfl) ?_
    refine lv_bipush (v := 99) hx hb dX11_run_5 (by decide) ?_
    refine lv_icmp_le (tgt := 12) hx hb dX11_run_7 (by decide) (fun c_2 => ?_) (fun c_2 => ?_)
    · obtain ⟨j, hj, ej⟩ : ∃ j : Nat, j ≤ 99 ∧ n = nI j := nI_of2 (M := 99) rfl c_1 c_2
      refine lv_iload_n hx hb dX11_run_12 rfl (lv_at hl 1 rfl) ?_
      refine lv_if_le (tgt := 27) hx hb dX11_run_13 (by decide) (fun c_3 => ?_) (fun c_3 => ?_)
      · refine lv_aload_n hx hb dX11_run_27 rfl (lv_at hl 0 rfl) ?_
        refine gx_getr (j := 30) S hK hw t_0 cl_12 7 (by decide) rfl mw_454 rfl dX11_run_28 ?_
        refine gx_get S hK hw t_30 cl_7 9 (by decide) rfl mw_283 rfl dX11_run_31 ?_
        refine gx_top (v := 0) (by first | rfl | decide | simp [up2, gs0]) ?_
        refine lv_istore_n (lv' := [(2, .int 0), (0, .ref (E.2.2 + 0)), (1, .int n)]) hx hb dX11_run_34 rfl hl (by decide) rfl (fun ls hl => ?_)
        refine lv_aload_n hx hb dX11_run_35 rfl (lv_at hl 1 rfl) ?_
        refine gx_getr (j := 30) S hK hw t_0 cl_12 7 (by decide) rfl mw_454 rfl dX11_run_36 ?_
        refine gx_get S hK hw t_30 cl_7 10 (by decide) rfl mw_286 rfl dX11_run_39 ?_
        refine gx_top (v := 0) (by first | rfl | decide | simp [up2, gs0]) ?_
        refine lv_istore_n (lv' := [(3, .int 0), (2, .int 0), (0, .ref (E.2.2 + 0)), (1, .int n)]) hx hb dX11_run_42 rfl hl (by decide) rfl (fun ls hl => ?_)
        refine lv_aload_n hx hb dX11_run_43 rfl (lv_at hl 2 rfl) ?_
        refine lv_iload_n hx hb dX11_run_44 rfl (lv_at hl 3 rfl) ?_
        refine gx_top (v := nI j) ej ?_
        refine gx_cVv (As := [.int (nI j)]) (rest := []) S hK gx_ok hw (c_passMinutes l (E := E) gs0 gt0 j (by first | rfl | decide | simp [up2, gs0]) (by first | rfl | decide | simp [up2, gs0]) (by first | rfl | decide | simp [up2, gs0]) hj) cw_X11_253 t_0 cl_12 ⟨Nat.le_of_ble_eq_true rfl, Nat.le_of_ble_eq_true rfl⟩ rfl hl.1 rfl (Nat.le_of_ble_eq_true rfl) ⟨Nat.le_of_ble_eq_true rfl, Nat.le_of_ble_eq_true rfl⟩ dX11_run_45 (fun σ_4 τ_4 H locs hp hw => ?_)
        obtain ⟨hs_4, et_4⟩ := hp
        obtain rfl := et_4.symm
        refine lv_aload_n hx hb dX11_run_48 rfl (lv_at hl 2 rfl) ?_
        refine gx_getr (j := 30) S hK hw t_0 cl_12 7 (by decide) rfl mw_454 rfl dX11_run_49 ?_
        refine gx_get S hK hw t_30 cl_7 9 (by decide) rfl mw_283 rfl dX11_run_52 ?_
        refine gx_top (v := 0) (by first | rfl | decide | simp [up2, gs0, hs_4]) ?_
        refine lv_iload_n hx hb dX11_run_55 rfl (lv_at hl 1 rfl) ?_
        refine lv_iconst (v := (-1)) hx hb dX11_run_56 (by decide) ?_
        refine lv_ixor hx hb dX11_run_57 ?_
        refine gx_top (v := (-1)) (by decide) ?_
        refine lv_iand hx hb dX11_run_58 ?_
        refine gx_top (v := 0) (by decide) ?_
        refine lv_istore (lv' := [(4, .int 0), (3, .int 0), (2, .int 0), (0, .ref (E.2.2 + 0)), (1, .int n)]) hx hb dX11_run_59 hl (by decide) rfl (fun ls hl => ?_)
        refine lv_aload_n hx hb dX11_run_61 rfl (lv_at hl 3 rfl) ?_
        refine gx_getr (j := 156) S hK hw t_0 cl_12 13 (by decide) rfl mw_460 rfl dX11_run_62 ?_
        refine lv_iload hx hb dX11_run_65 (lv_at hl 0 rfl) ?_
        refine lv_i2l (v := 0) hx hb dX11_run_67 (by decide) ?_
        refine lv_aload_n hx hb dX11_run_68 rfl (lv_at hl 3 rfl) ?_
        refine gx_getr (j := 30) S hK hw t_0 cl_12 7 (by decide) rfl mw_454 rfl dX11_run_69 ?_
        refine gx_get S hK hw t_30 cl_7 10 (by decide) rfl mw_286 rfl dX11_run_72 ?_
        refine gx_top (v := 0) (by first | rfl | decide | simp [up2, gs0, hs_4]) ?_
        refine lv_iload_n hx hb dX11_run_75 rfl (lv_at hl 1 rfl) ?_
        refine lv_iconst (v := (-1)) hx hb dX11_run_76 (by decide) ?_
        refine lv_ixor hx hb dX11_run_77 ?_
        refine gx_top (v := (-1)) (by decide) ?_
        refine lv_iand hx hb dX11_run_78 ?_
        refine gx_top (v := 0) (by decide) ?_
        refine lv_i2l (v := 0) hx hb dX11_run_79 (by decide) ?_
        refine gx_cVv (As := [.long 0, .long 0]) (rest := []) S hK gx_ok hw (c_tell2 l (E := E) (σ_4) gt0 0 0 ) cw_X11_257 t_156 cl_5 ⟨Nat.le_of_ble_eq_true rfl, Nat.le_of_ble_eq_true rfl⟩ rfl hl.1 rfl (Nat.le_of_ble_eq_true rfl) ⟨Nat.le_of_ble_eq_true rfl, Nat.le_of_ble_eq_true rfl⟩ dX11_run_80 (fun σ_5 τ_5 H locs hp hw => ?_)
        obtain ⟨es_5, -⟩ := hp
        obtain rfl := es_5.symm
        refine lv_iload hx hb dX11_run_83 (lv_at hl 0 rfl) ?_
        refine gx_cSi (As := [.int 0]) (rest := []) S hK gx_ok hw (c_bitCount0 l (E := E) (up2 (σ_4) 156 1 2) (τ_5) ) cw_X11_261 ⟨Nat.le_of_ble_eq_true rfl, Nat.le_of_ble_eq_true rfl⟩ rfl hl.1 rfl (Nat.le_of_ble_eq_true rfl) ⟨Nat.le_of_ble_eq_true rfl, Nat.le_of_ble_eq_true rfl⟩ dX11_run_85 (fun r_6 σ_6 τ_6 H locs hp hw => ?_)
        obtain ⟨er_6, es_6, et_6⟩ := hp
        obtain rfl := er_6.symm
        obtain rfl := es_6.symm
        obtain rfl := et_6.symm
        exact gx_ri (post := fun r σ1 τ1 => r = (if 0 ≤ n.toInt ∧ n.toInt ≤ 99 then 0 else (-1)) ∧ (∀ c k : Nat, 199 ≤ c → σ1 c k = gs0 c k) ∧ True) (v := 0) S hr hlk hw rfl dX11_run_88 ⟨(by simp only [fa_lt, fa_le, fa_eq, show (0 : Int32).toInt = 0 from rfl, show (99 : Int32).toInt = 99 from rfl] at c_1 c_2 c_3; exact (if_pos (by omega)).symm), (fun c9 k9 h9 => (up2_hi (by omega) h9).trans ((hs_4 c9 k9 (by omega)).trans (rfl))), trivial⟩
      · refine lv_aload_n hx hb dX11_run_16 rfl (lv_at hl 0 rfl) ?_
        refine gx_getr (j := 44) S hK hw t_0 cl_12 9 (by decide) rfl mw_456 rfl dX11_run_17 ?_
        refine lv_aload_n hx hb dX11_run_20 rfl (lv_at hl 0 rfl) ?_
        refine gx_getr (j := 30) S hK hw t_0 cl_12 7 (by decide) rfl mw_454 rfl dX11_run_21 ?_
        refine gx_cVv (As := [.ref (E.2.2 + 30)]) (rest := []) S hK gx_ok hw (c_Past_push l (E := E) gs0 gt0 30 (by first | rfl | decide | simp [up2, gs0]) (by first | rfl | decide | simp [up2, gs0]) (by first | rfl | decide | simp [up2, gs0]) (by first | rfl | decide | simp [up2, gs0]) (by first | rfl | decide | simp [up2, gs0]) (by first | rfl | decide | simp [up2, gs0]) (by first | rfl | decide | simp [up2, gs0]) (by first | rfl | decide | simp [up2, gs0]) (by first | rfl | decide | simp [up2, gs0]) (by first | rfl | decide | simp [up2, gs0])) cw_X11_204 t_44 cl_4 ⟨Nat.le_of_ble_eq_true rfl, Nat.le_of_ble_eq_true rfl⟩ rfl hl.1 rfl (Nat.le_of_ble_eq_true rfl) ⟨Nat.le_of_ble_eq_true rfl, Nat.le_of_ble_eq_true rfl⟩ dX11_run_24 (fun σ_7 τ_7 H locs hp hw => ?_)
        obtain ⟨es_7, et_7⟩ := hp
        obtain rfl := es_7.symm
        obtain rfl := et_7.symm
        refine lv_aload_n hx hb dX11_run_27 rfl (lv_at hl 0 rfl) ?_
        refine gx_getr (j := 30) S hK hw t_0 cl_12 7 (by decide) rfl mw_454 rfl dX11_run_28 ?_
        refine gx_get S hK hw t_30 cl_7 9 (by decide) rfl mw_283 rfl dX11_run_31 ?_
        refine gx_top (v := 0) (by first | rfl | decide | simp [up2, gs0]) ?_
        refine lv_istore_n (lv' := [(2, .int 0), (0, .ref (E.2.2 + 0)), (1, .int n)]) hx hb dX11_run_34 rfl hl (by decide) rfl (fun ls hl => ?_)
        refine lv_aload_n hx hb dX11_run_35 rfl (lv_at hl 1 rfl) ?_
        refine gx_getr (j := 30) S hK hw t_0 cl_12 7 (by decide) rfl mw_454 rfl dX11_run_36 ?_
        refine gx_get S hK hw t_30 cl_7 10 (by decide) rfl mw_286 rfl dX11_run_39 ?_
        refine gx_top (v := 0) (by first | rfl | decide | simp [up2, gs0]) ?_
        refine lv_istore_n (lv' := [(3, .int 0), (2, .int 0), (0, .ref (E.2.2 + 0)), (1, .int n)]) hx hb dX11_run_42 rfl hl (by decide) rfl (fun ls hl => ?_)
        refine lv_aload_n hx hb dX11_run_43 rfl (lv_at hl 2 rfl) ?_
        refine lv_iload_n hx hb dX11_run_44 rfl (lv_at hl 3 rfl) ?_
        refine gx_top (v := nI j) ej ?_
        refine gx_cVv (As := [.int (nI j)]) (rest := []) S hK gx_ok hw (c_passMinutes l (E := E) (up2 (up2 (up2 (up2 (up2 (up2 (up2 (gs0) 46 6 0) 46 7 0) 46 8 0) 46 9 0) 46 10 0) 44 1 1) 44 2 1) gt0 j (by first | rfl | decide | simp [up2, gs0]) (by first | rfl | decide | simp [up2, gs0]) (by first | rfl | decide | simp [up2, gs0]) hj) cw_X11_253 t_0 cl_12 ⟨Nat.le_of_ble_eq_true rfl, Nat.le_of_ble_eq_true rfl⟩ rfl hl.1 rfl (Nat.le_of_ble_eq_true rfl) ⟨Nat.le_of_ble_eq_true rfl, Nat.le_of_ble_eq_true rfl⟩ dX11_run_45 (fun σ_8 τ_8 H locs hp hw => ?_)
        obtain ⟨hs_8, et_8⟩ := hp
        obtain rfl := et_8.symm
        refine lv_aload_n hx hb dX11_run_48 rfl (lv_at hl 2 rfl) ?_
        refine gx_getr (j := 30) S hK hw t_0 cl_12 7 (by decide) rfl mw_454 rfl dX11_run_49 ?_
        refine gx_get S hK hw t_30 cl_7 9 (by decide) rfl mw_283 rfl dX11_run_52 ?_
        refine gx_top (v := 0) (by first | rfl | decide | simp [up2, gs0, hs_8]) ?_
        refine lv_iload_n hx hb dX11_run_55 rfl (lv_at hl 1 rfl) ?_
        refine lv_iconst (v := (-1)) hx hb dX11_run_56 (by decide) ?_
        refine lv_ixor hx hb dX11_run_57 ?_
        refine gx_top (v := (-1)) (by decide) ?_
        refine lv_iand hx hb dX11_run_58 ?_
        refine gx_top (v := 0) (by decide) ?_
        refine lv_istore (lv' := [(4, .int 0), (3, .int 0), (2, .int 0), (0, .ref (E.2.2 + 0)), (1, .int n)]) hx hb dX11_run_59 hl (by decide) rfl (fun ls hl => ?_)
        refine lv_aload_n hx hb dX11_run_61 rfl (lv_at hl 3 rfl) ?_
        refine gx_getr (j := 156) S hK hw t_0 cl_12 13 (by decide) rfl mw_460 rfl dX11_run_62 ?_
        refine lv_iload hx hb dX11_run_65 (lv_at hl 0 rfl) ?_
        refine lv_i2l (v := 0) hx hb dX11_run_67 (by decide) ?_
        refine lv_aload_n hx hb dX11_run_68 rfl (lv_at hl 3 rfl) ?_
        refine gx_getr (j := 30) S hK hw t_0 cl_12 7 (by decide) rfl mw_454 rfl dX11_run_69 ?_
        refine gx_get S hK hw t_30 cl_7 10 (by decide) rfl mw_286 rfl dX11_run_72 ?_
        refine gx_top (v := 0) (by first | rfl | decide | simp [up2, gs0, hs_8]) ?_
        refine lv_iload_n hx hb dX11_run_75 rfl (lv_at hl 1 rfl) ?_
        refine lv_iconst (v := (-1)) hx hb dX11_run_76 (by decide) ?_
        refine lv_ixor hx hb dX11_run_77 ?_
        refine gx_top (v := (-1)) (by decide) ?_
        refine lv_iand hx hb dX11_run_78 ?_
        refine gx_top (v := 0) (by decide) ?_
        refine lv_i2l (v := 0) hx hb dX11_run_79 (by decide) ?_
        refine gx_cVv (As := [.long 0, .long 0]) (rest := []) S hK gx_ok hw (c_tell2 l (E := E) (σ_8) gt0 0 0 ) cw_X11_257 t_156 cl_5 ⟨Nat.le_of_ble_eq_true rfl, Nat.le_of_ble_eq_true rfl⟩ rfl hl.1 rfl (Nat.le_of_ble_eq_true rfl) ⟨Nat.le_of_ble_eq_true rfl, Nat.le_of_ble_eq_true rfl⟩ dX11_run_80 (fun σ_9 τ_9 H locs hp hw => ?_)
        obtain ⟨es_9, -⟩ := hp
        obtain rfl := es_9.symm
        refine lv_iload hx hb dX11_run_83 (lv_at hl 0 rfl) ?_
        refine gx_cSi (As := [.int 0]) (rest := []) S hK gx_ok hw (c_bitCount0 l (E := E) (up2 (σ_8) 156 1 2) (τ_9) ) cw_X11_261 ⟨Nat.le_of_ble_eq_true rfl, Nat.le_of_ble_eq_true rfl⟩ rfl hl.1 rfl (Nat.le_of_ble_eq_true rfl) ⟨Nat.le_of_ble_eq_true rfl, Nat.le_of_ble_eq_true rfl⟩ dX11_run_85 (fun r_10 σ_10 τ_10 H locs hp hw => ?_)
        obtain ⟨er_10, es_10, et_10⟩ := hp
        obtain rfl := er_10.symm
        obtain rfl := es_10.symm
        obtain rfl := et_10.symm
        exact gx_ri (post := fun r σ1 τ1 => r = (if 0 ≤ n.toInt ∧ n.toInt ≤ 99 then 0 else (-1)) ∧ (∀ c k : Nat, 199 ≤ c → σ1 c k = gs0 c k) ∧ True) (v := 0) S hr hlk hw rfl dX11_run_88 ⟨(by simp only [fa_lt, fa_le, fa_eq, show (0 : Int32).toInt = 0 from rfl, show (99 : Int32).toInt = 99 from rfl] at c_1 c_2 c_3; exact (if_pos (by omega)).symm), (fun c9 k9 h9 => (up2_hi (by omega) h9).trans ((hs_8 c9 k9 (by omega)).trans ((up2_hi (by omega) h9).trans ((up2_hi (by omega) h9).trans ((up2_hi (by omega) h9).trans ((up2_hi (by omega) h9).trans ((up2_hi (by omega) h9).trans ((up2_hi (by omega) h9).trans ((up2_hi (by omega) h9).trans (rfl)))))))))), trivial⟩
    · refine lv_iconst (v := (-1)) hx hb dX11_run_10 (by decide) ?_
      exact gx_ri (post := fun r σ1 τ1 => r = (if 0 ≤ n.toInt ∧ n.toInt ≤ 99 then 0 else (-1)) ∧ (∀ c k : Nat, 199 ≤ c → σ1 c k = gs0 c k) ∧ True) (v := (-1)) S hr hlk hw rfl dX11_run_11 ⟨(by simp only [fa_lt, fa_le, fa_eq, show (0 : Int32).toInt = 0 from rfl, show (99 : Int32).toInt = 99 from rfl] at c_1 c_2; exact ((if_neg (by omega)).trans (rfl)).symm), (fun c9 k9 h9 => rfl), trivial⟩
set_option maxHeartbeats 4000000 in
set_option maxRecDepth 100000 in
theorem c_x_day (l : Launch) {E : gE}   : gx_Mi l yX11_day cX11_day 7 (some .int) 3 gx_tb E gs0 gt0 [.ref (E.2.2 + 0)] (fun r σ1 τ1 => r = 0 ∧ (∀ c k : Nat, 199 ≤ c → σ1 c k = gs0 c k) ∧ True) := by
  refine gx_bi (by decide +kernel) (Nat.le_of_ble_eq_true rfl) ?_
  intro P9 e9 s m9 below meth C9 S hr hlk hK hw ls hl
  have S : CallFix P9 m9 C9 cX11_day 7 s _ gx_G RX11 := S
  have hx := S.1
  have hb := S.2.1
  have hl : lv_has ls 7 [(0, .ref (E.2.2 + 0))] := hl
  refine lv_aload_n hx hb dX11_day_0 rfl (lv_at hl 0 rfl) ?_
  refine gx_getr (j := 25) S hK hw t_0 cl_12 6 (by decide) rfl mw_453 rfl dX11_day_1 ?_
  refine lv_aload_n hx hb dX11_day_4 rfl (lv_at hl 0 rfl) ?_
  refine gx_getr (j := 1) S hK hw t_0 cl_12 0 (by decide) rfl mw_447 rfl dX11_day_5 ?_
  refine gx_cVi (As := [.ref (E.2.2 + 1)]) (rest := []) S hK gx_ok hw (c_Diary_read l (E := E) gs0 gt0 (by first | rfl | decide | simp [up2, gs0])) cw_X11_269 t_25 cl_3 ⟨Nat.le_of_ble_eq_true rfl, Nat.le_of_ble_eq_true rfl⟩ rfl hl.1 rfl (Nat.le_of_ble_eq_true rfl) ⟨Nat.le_of_ble_eq_true rfl, Nat.le_of_ble_eq_true rfl⟩ dX11_day_8 (fun r_1 σ_1 τ_1 H locs hp hw => ?_)
  obtain ⟨er_1, hs_1, et_1⟩ := hp
  obtain rfl := er_1.symm
  obtain rfl := et_1.symm
  refine lv_istore_n (lv' := [(1, .int 0), (0, .ref (E.2.2 + 0))]) hx hb dX11_day_11 rfl hl (by decide) rfl (fun ls hl => ?_)
  refine lv_aload_n hx hb dX11_day_12 rfl (lv_at hl 1 rfl) ?_
  refine gx_getr (j := 1) S hK hw t_0 cl_12 0 (by decide) rfl mw_447 rfl dX11_day_13 ?_
  refine lv_iconst (v := 0) hx hb dX11_day_16 (by decide) ?_
  refine gx_cVi (As := [.int 0]) (rest := []) S hK gx_ok hw (c_cut0 l (E := E) (σ_1) gt0 (by first | rfl | decide | simp [up2, gs0, hs_1])) cw_X11_111 t_1 cl_8 ⟨Nat.le_of_ble_eq_true rfl, Nat.le_of_ble_eq_true rfl⟩ rfl hl.1 rfl (Nat.le_of_ble_eq_true rfl) ⟨Nat.le_of_ble_eq_true rfl, Nat.le_of_ble_eq_true rfl⟩ dX11_day_17 (fun r_2 σ_2 τ_2 H locs hp hw => ?_)
  obtain ⟨er_2, es_2, et_2⟩ := hp
  obtain rfl := er_2.symm
  obtain rfl := es_2.symm
  obtain rfl := et_2.symm
  refine lv_pop hx hb dX11_day_20 rfl ?_
  refine lv_iload_n hx hb dX11_day_21 rfl (lv_at hl 0 rfl) ?_
  refine lv_if_ge (tgt := 27) hx hb dX11_day_22 (by decide) (fun _ => ?_) (fun h => absurd (by decide) h)
  refine lv_aload_n hx hb dX11_day_27 rfl (lv_at hl 1 rfl) ?_
  refine gx_getr (j := 37) S hK hw t_0 cl_12 8 (by decide) rfl mw_455 rfl dX11_day_28 ?_
  refine lv_aload_n hx hb dX11_day_31 rfl (lv_at hl 1 rfl) ?_
  refine gx_getr (j := 30) S hK hw t_0 cl_12 7 (by decide) rfl mw_454 rfl dX11_day_32 ?_
  refine gx_cVv (As := [.ref (E.2.2 + 30)]) (rest := []) S hK gx_ok hw (c_Scene_copy l (E := E) (up2 (σ_1) 1 2 0) gt0 37 30 (by first | rfl | decide | simp [up2, gs0, hs_1]) (by first | rfl | decide | simp [up2, gs0, hs_1]) (by first | rfl | decide | simp [up2, gs0, hs_1]) (by first | rfl | decide | simp [up2, gs0, hs_1]) (by first | rfl | decide | simp [up2, gs0, hs_1]) (by first | rfl | decide | simp [up2, gs0, hs_1]) (by first | rfl | decide | simp [up2, gs0, hs_1]) (by first | rfl | decide | simp [up2, gs0, hs_1]) (by first | rfl | decide | simp [up2, gs0, hs_1])) cw_X11_270 t_37 cl_7 ⟨Nat.le_of_ble_eq_true rfl, Nat.le_of_ble_eq_true rfl⟩ rfl hl.1 rfl (Nat.le_of_ble_eq_true rfl) ⟨Nat.le_of_ble_eq_true rfl, Nat.le_of_ble_eq_true rfl⟩ dX11_day_35 (fun σ_3 τ_3 H locs hp hw => ?_)
  obtain ⟨es_3, et_3⟩ := hp
  obtain rfl := es_3.symm
  obtain rfl := et_3.symm
  refine lv_iconst (v := 0) hx hb dX11_day_38 (by decide) ?_
  refine lv_istore_n (lv' := [(2, .int 0), (1, .int 0), (0, .ref (E.2.2 + 0))]) hx hb dX11_day_39 rfl hl (by decide) rfl (fun ls hl => ?_)
  refine lv_iconst (v := 0) hx hb dX11_day_40 (by decide) ?_
  refine lv_istore_n (lv' := [(3, .int 0), (2, .int 0), (1, .int 0), (0, .ref (E.2.2 + 0))]) hx hb dX11_day_41 rfl hl (by decide) rfl (fun ls hl => ?_)
  refine lv_iconst (v := 1) hx hb dX11_day_42 (by decide) ?_
  refine lv_istore (lv' := [(4, .int 1), (3, .int 0), (2, .int 0), (1, .int 0), (0, .ref (E.2.2 + 0))]) hx hb dX11_day_43 hl (by decide) rfl (fun ls hl => ?_)
  refine lv_iconst (v := 0) hx hb dX11_day_45 (by decide) ?_
  refine lv_istore (lv' := [(5, .int 0), (4, .int 1), (3, .int 0), (2, .int 0), (1, .int 0), (0, .ref (E.2.2 + 0))]) hx hb dX11_day_46 hl (by decide) rfl (fun ls hl => ?_)
  refine lv_iload hx hb dX11_day_48 (lv_at hl 0 rfl) ?_
  refine lv_iload_n hx hb dX11_day_50 rfl (lv_at hl 4 rfl) ?_
  refine lv_icmp_ge (tgt := 98) hx hb dX11_day_51 (by decide) (fun _ => ?_) (fun h => absurd (by decide) h)
  refine lv_iload_n hx hb dX11_day_98 rfl (lv_at hl 3 rfl) ?_
  refine lv_if_le (tgt := 113) hx hb dX11_day_99 (by decide) (fun _ => ?_) (fun h => absurd (by decide) h)
  refine lv_aload_n hx hb dX11_day_113 rfl (lv_at hl 5 rfl) ?_
  refine gx_getr (j := 156) S hK hw t_0 cl_12 13 (by decide) rfl mw_460 rfl dX11_day_114 ?_
  refine lv_iload hx hb dX11_day_117 (lv_at hl 1 rfl) ?_
  refine lv_if_eq (tgt := 126) hx hb dX11_day_119 (by decide) (fun h => absurd h (by decide)) (fun _ => ?_)
  refine lv_lconst (v := 0) hx hb dX11_day_122 (by decide) ?_
  refine lv_goto (tgt := 127) hx hb dX11_day_123 (by decide) ?_
  refine lv_iload_n hx hb dX11_day_127 rfl (lv_at hl 2 rfl) ?_
  refine lv_i2l (v := 0) hx hb dX11_day_128 (by decide) ?_
  refine gx_cVv (As := [.long 0, .long 0]) (rest := []) S hK gx_ok hw (c_tell2 l (E := E) (up2 (up2 (up2 (up2 (up2 ((up2 (σ_1) 1 2 0)) 37 6 0) 37 7 0) 37 8 0) 37 9 0) 37 10 0) gt0 0 0 ) cw_X11_257 t_156 cl_5 ⟨Nat.le_of_ble_eq_true rfl, Nat.le_of_ble_eq_true rfl⟩ rfl hl.1 rfl (Nat.le_of_ble_eq_true rfl) ⟨Nat.le_of_ble_eq_true rfl, Nat.le_of_ble_eq_true rfl⟩ dX11_day_129 (fun σ_4 τ_4 H locs hp hw => ?_)
  obtain ⟨es_4, -⟩ := hp
  obtain rfl := es_4.symm
  refine lv_iload_n hx hb dX11_day_132 rfl (lv_at hl 3 rfl) ?_
  exact gx_ri (post := fun r σ1 τ1 => r = 0 ∧ (∀ c k : Nat, 199 ≤ c → σ1 c k = gs0 c k) ∧ True) (v := 0) S hr hlk hw rfl dX11_day_133 ⟨rfl, (fun c9 k9 h9 => (up2_hi (by omega) h9).trans ((up2_hi (by omega) h9).trans ((up2_hi (by omega) h9).trans ((up2_hi (by omega) h9).trans ((up2_hi (by omega) h9).trans ((up2_hi (by omega) h9).trans ((up2_hi (by omega) h9).trans ((hs_1 c9 k9 (by omega) (by omega)).trans (rfl))))))))), trivial⟩
set_option maxHeartbeats 4000000 in
set_option maxRecDepth 100000 in
theorem c_x_undo (l : Launch) {E : gE}   : gx_Mi l yX11_undo cX11_undo 1 (some .int) 1 gx_tb E gs0 gt0 [.ref (E.2.2 + 0)] (fun r σ1 τ1 => r = (-1) ∧ (∀ c k : Nat, 199 ≤ c → σ1 c k = gs0 c k) ∧ True) := by
  refine gx_bi (by decide +kernel) (Nat.le_of_ble_eq_true rfl) ?_
  intro P9 e9 s m9 below meth C9 S hr hlk hK hw ls hl
  have S : CallFix P9 m9 C9 cX11_undo 1 s _ gx_G RX11 := S
  have hx := S.1
  have hb := S.2.1
  have hl : lv_has ls 1 [(0, .ref (E.2.2 + 0))] := hl
  refine lv_aload_n hx hb dX11_undo_0 rfl (lv_at hl 0 rfl) ?_
  refine gx_getr (j := 44) S hK hw t_0 cl_12 9 (by decide) rfl mw_456 rfl dX11_undo_1 ?_
  refine lv_aload_n hx hb dX11_undo_4 rfl (lv_at hl 0 rfl) ?_
  refine gx_getr (j := 30) S hK hw t_0 cl_12 7 (by decide) rfl mw_454 rfl dX11_undo_5 ?_
  refine gx_cVi (As := [.ref (E.2.2 + 30)]) (rest := []) S hK gx_ok hw (c_Past_pop l (E := E) gs0 gt0 (by first | rfl | decide | simp [up2, gs0]) (by first | rfl | decide | simp [up2, gs0])) cw_X11_283 t_44 cl_4 ⟨Nat.le_of_ble_eq_true rfl, Nat.le_of_ble_eq_true rfl⟩ rfl hl.1 rfl (Nat.le_of_ble_eq_true rfl) ⟨Nat.le_of_ble_eq_true rfl, Nat.le_of_ble_eq_true rfl⟩ dX11_undo_8 (fun r_1 σ_1 τ_1 H locs hp hw => ?_)
  obtain ⟨er_1, es_1, et_1⟩ := hp
  obtain rfl := er_1.symm
  obtain rfl := es_1.symm
  obtain rfl := et_1.symm
  refine lv_if_eq (tgt := 24) hx hb dX11_undo_11 (by decide) (fun _ => ?_) (fun h => absurd (by decide) h)
  refine lv_iconst (v := (-1)) hx hb dX11_undo_24 (by decide) ?_
  exact gx_ri (post := fun r σ1 τ1 => r = (-1) ∧ (∀ c k : Nat, 199 ≤ c → σ1 c k = gs0 c k) ∧ True) (v := (-1)) S hr hlk hw rfl dX11_undo_25 ⟨rfl, (fun c9 k9 h9 => rfl), trivial⟩
set_option maxHeartbeats 4000000 in
set_option maxRecDepth 100000 in
theorem c_x_where (l : Launch) {E : gE} (i n : Int32)  : gx_Mi l yX11_where cX11_where 4 (some .int) 1 gx_tb E gs0 gt0 [.ref (E.2.2 + 0), .int i, .int n] (fun r σ1 τ1 => r = (-1) ∧ (∀ c k : Nat, 199 ≤ c → σ1 c k = gs0 c k) ∧ True) := by
  refine gx_bi (by decide +kernel) (Nat.le_of_ble_eq_true rfl) ?_
  intro P9 e9 s m9 below meth C9 S hr hlk hK hw ls hl
  have S : CallFix P9 m9 C9 cX11_where 4 s _ gx_G RX11 := S
  have hx := S.1
  have hb := S.2.1
  have hl : lv_has ls 4 [(0, .ref (E.2.2 + 0)), (1, .int i), (2, .int n)] := hl
  refine lv_aload_n hx hb dX11_where_0 rfl (lv_at hl 0 rfl) ?_
  refine gx_getr (j := 30) S hK hw t_0 cl_12 7 (by decide) rfl mw_454 rfl dX11_where_1 ?_
  refine lv_iload_n hx hb dX11_where_4 rfl (lv_at hl 1 rfl) ?_
  refine gx_cVi (As := [.int i]) (rest := []) S hK gx_ok hw (c_Scene_has l (E := E) gs0 gt0 30 i (by first | rfl | decide | simp [up2, gs0]) (by first | rfl | decide | simp [up2, gs0])) cw_X11_172 t_30 cl_7 ⟨Nat.le_of_ble_eq_true rfl, Nat.le_of_ble_eq_true rfl⟩ rfl hl.1 rfl (Nat.le_of_ble_eq_true rfl) ⟨Nat.le_of_ble_eq_true rfl, Nat.le_of_ble_eq_true rfl⟩ dX11_where_5 (fun r_1 σ_1 τ_1 H locs hp hw => ?_)
  obtain ⟨er_1, es_1, et_1⟩ := hp
  obtain rfl := er_1.symm
  obtain rfl := es_1.symm
  obtain rfl := et_1.symm
  refine lv_if_eq (tgt := 18) hx hb dX11_where_8 (by decide) (fun _ => ?_) (fun h => absurd (by decide) h)
  refine lv_iconst (v := (-1)) hx hb dX11_where_18 (by decide) ?_
  exact gx_ri (post := fun r σ1 τ1 => r = (-1) ∧ (∀ c k : Nat, 199 ≤ c → σ1 c k = gs0 c k) ∧ True) (v := (-1)) S hr hlk hw rfl dX11_where_19 ⟨rfl, (fun c9 k9 h9 => rfl), trivial⟩
set_option maxHeartbeats 4000000 in
set_option maxRecDepth 100000 in
theorem c_x_comes (l : Launch) {E : gE} (i : Int32)  : gx_Mi l yX11_comes cX11_comes 5 (some .int) 1 gx_tb E gs0 gt0 [.ref (E.2.2 + 0), .int i] (fun r σ1 τ1 => r = (-1) ∧ (∀ c k : Nat, 199 ≤ c → σ1 c k = gs0 c k) ∧ True) := by
  refine gx_bi (by decide +kernel) (Nat.le_of_ble_eq_true rfl) ?_
  intro P9 e9 s m9 below meth C9 S hr hlk hK hw ls hl
  have S : CallFix P9 m9 C9 cX11_comes 5 s _ gx_G RX11 := S
  have hx := S.1
  have hb := S.2.1
  have hl : lv_has ls 5 [(0, .ref (E.2.2 + 0)), (1, .int i)] := hl
  refine lv_aload_n hx hb dX11_comes_0 rfl (lv_at hl 0 rfl) ?_
  refine gx_getr (j := 30) S hK hw t_0 cl_12 7 (by decide) rfl mw_454 rfl dX11_comes_1 ?_
  refine lv_iload_n hx hb dX11_comes_4 rfl (lv_at hl 1 rfl) ?_
  refine gx_cVi (As := [.int i]) (rest := []) S hK gx_ok hw (c_Scene_has l (E := E) gs0 gt0 30 i (by first | rfl | decide | simp [up2, gs0]) (by first | rfl | decide | simp [up2, gs0])) cw_X11_172 t_30 cl_7 ⟨Nat.le_of_ble_eq_true rfl, Nat.le_of_ble_eq_true rfl⟩ rfl hl.1 rfl (Nat.le_of_ble_eq_true rfl) ⟨Nat.le_of_ble_eq_true rfl, Nat.le_of_ble_eq_true rfl⟩ dX11_comes_5 (fun r_1 σ_1 τ_1 H locs hp hw => ?_)
  obtain ⟨er_1, es_1, et_1⟩ := hp
  obtain rfl := er_1.symm
  obtain rfl := es_1.symm
  obtain rfl := et_1.symm
  refine lv_if_ne (tgt := 13) hx hb dX11_comes_8 (by decide) (fun h => absurd (by decide) h) (fun _ => ?_)
  refine lv_iconst (v := (-1)) hx hb dX11_comes_11 (by decide) ?_
  exact gx_ri (post := fun r σ1 τ1 => r = (-1) ∧ (∀ c k : Nat, 199 ≤ c → σ1 c k = gs0 c k) ∧ True) (v := (-1)) S hr hlk hw rfl dX11_comes_12 ⟨rfl, (fun c9 k9 h9 => rfl), trivial⟩
set_option maxHeartbeats 4000000 in
set_option maxRecDepth 100000 in
theorem c_x_lost (l : Launch) {E : gE} (n : Int32)  : gx_Mi l yX11_lost cX11_lost 6 (some .int) 1 gx_tb E gs0 gt0 [.ref (E.2.2 + 0), .int n] (fun r σ1 τ1 => r = (if 0 ≤ n.toInt ∧ n.toInt ≤ 300 then (-2) else (-1)) ∧ (∀ c k : Nat, 199 ≤ c → σ1 c k = gs0 c k) ∧ True) := by
  refine gx_bi (by decide +kernel) (Nat.le_of_ble_eq_true rfl) ?_
  intro P9 e9 s m9 below meth C9 S hr hlk hK hw ls hl
  have S : CallFix P9 m9 C9 cX11_lost 6 s _ gx_G RX11 := S
  have hx := S.1
  have hb := S.2.1
  have hl : lv_has ls 6 [(0, .ref (E.2.2 + 0)), (1, .int n)] := hl
  refine lv_iload_n hx hb dX11_lost_0 rfl (lv_at hl 1 rfl) ?_
  refine gx_cSi (As := [.int n]) (rest := []) S hK gx_ok hw (c_isAhead l (E := E) gs0 gt0 n ) cw_X11_290 ⟨Nat.le_of_ble_eq_true rfl, Nat.le_of_ble_eq_true rfl⟩ rfl hl.1 rfl (Nat.le_of_ble_eq_true rfl) ⟨Nat.le_of_ble_eq_true rfl, Nat.le_of_ble_eq_true rfl⟩ dX11_lost_1 (fun r_1 σ_1 τ_1 H locs hp hw => ?_)
  obtain ⟨er_1, es_1, et_1⟩ := hp
  obtain rfl := er_1.symm
  obtain rfl := es_1.symm
  obtain rfl := et_1.symm
  by_cases c_2 : 0 ≤ n.toInt ∧ n.toInt ≤ 300
  · refine gx_top (v := 1) (if_pos c_2) ?_
    refine lv_if_ne (tgt := 9) hx hb dX11_lost_4 (by decide) (fun _ => ?_) (fun h => absurd h (by decide))
    refine lv_aload_n hx hb dX11_lost_9 rfl (lv_at hl 0 rfl) ?_
    refine gx_getr (j := 160) S hK hw t_0 cl_12 15 (by decide) rfl mw_462 rfl dX11_lost_10 ?_
    refine gx_getr (j := 171) S hK hw t_160 cl_10 8 (by decide) rfl mw_426 rfl dX11_lost_13 ?_
    refine lv_astore_n (lv' := [(2, .ref (E.2.2 + 171)), (0, .ref (E.2.2 + 0)), (1, .int n)]) hx hb dX11_lost_16 rfl hl (by decide) rfl (fun ls hl => ?_)
    refine lv_aload_n hx hb dX11_lost_17 rfl (lv_at hl 0 rfl) ?_
    refine lv_aload_n hx hb dX11_lost_18 rfl (lv_at hl 1 rfl) ?_
    refine gx_getr (j := 30) S hK hw t_0 cl_12 7 (by decide) rfl mw_454 rfl dX11_lost_19 ?_
    refine gx_cVv (As := [.ref (E.2.2 + 30)]) (rest := []) S hK gx_ok hw (c_Scene_copy l (E := E) gs0 gt0 171 30 (by first | rfl | decide | simp [up2, gs0]) (by first | rfl | decide | simp [up2, gs0]) (by first | rfl | decide | simp [up2, gs0]) (by first | rfl | decide | simp [up2, gs0]) (by first | rfl | decide | simp [up2, gs0]) (by first | rfl | decide | simp [up2, gs0]) (by first | rfl | decide | simp [up2, gs0]) (by first | rfl | decide | simp [up2, gs0]) (by first | rfl | decide | simp [up2, gs0])) cw_X11_270 t_171 cl_7 ⟨Nat.le_of_ble_eq_true rfl, Nat.le_of_ble_eq_true rfl⟩ rfl hl.1 rfl (Nat.le_of_ble_eq_true rfl) ⟨Nat.le_of_ble_eq_true rfl, Nat.le_of_ble_eq_true rfl⟩ dX11_lost_22 (fun σ_3 τ_3 H locs hp hw => ?_)
    obtain ⟨es_3, et_3⟩ := hp
    obtain rfl := es_3.symm
    obtain rfl := et_3.symm
    refine lv_iconst (v := 1) hx hb dX11_lost_25 (by decide) ?_
    refine lv_istore_n (lv' := [(3, .int 1), (2, .ref (E.2.2 + 171)), (0, .ref (E.2.2 + 0)), (1, .int n)]) hx hb dX11_lost_26 rfl hl (by decide) rfl (fun ls hl => ?_)
    refine lv_iload_n hx hb dX11_lost_27 rfl (lv_at hl 0 rfl) ?_
    refine lv_iload_n hx hb dX11_lost_28 rfl (lv_at hl 3 rfl) ?_
    refine lv_icmp_gt (tgt := 100) hx hb dX11_lost_29 (by decide) (fun c_4 => ?_) (fun c_4 => ?_)
    · refine lv_bipush (v := (-2)) hx hb dX11_lost_100 (by decide) ?_
      exact gx_ri (post := fun r σ1 τ1 => r = (if 0 ≤ n.toInt ∧ n.toInt ≤ 300 then (-2) else (-1)) ∧ (∀ c k : Nat, 199 ≤ c → σ1 c k = gs0 c k) ∧ True) (v := (-2)) S hr hlk hw rfl dX11_lost_102 ⟨(by simp only [fa_lt, fa_le, fa_eq, show (1 : Int32).toInt = 1 from rfl] at c_4; exact (if_pos (by omega)).symm), (fun c9 k9 h9 => (up2_hi (by omega) h9).trans ((up2_hi (by omega) h9).trans ((up2_hi (by omega) h9).trans ((up2_hi (by omega) h9).trans ((up2_hi (by omega) h9).trans (rfl)))))), trivial⟩
    · refine lv_aload_n hx hb dX11_lost_32 rfl (lv_at hl 1 rfl) ?_
      refine gx_cVi (As := []) (rest := []) S hK gx_ok hw (c_Scene_onWay l (E := E) (up2 (up2 (up2 (up2 (up2 (gs0) 171 6 0) 171 7 0) 171 8 0) 171 9 0) 171 10 0) gt0 171 (by first | rfl | decide | simp [up2, gs0]) (by first | rfl | decide | simp [up2, gs0]) (by first | rfl | decide | simp [up2, gs0]) (by first | rfl | decide | simp [up2, gs0])) cw_X11_166 t_171 cl_7 ⟨Nat.le_of_ble_eq_true rfl, Nat.le_of_ble_eq_true rfl⟩ rfl hl.1 rfl (Nat.le_of_ble_eq_true rfl) ⟨Nat.le_of_ble_eq_true rfl, Nat.le_of_ble_eq_true rfl⟩ dX11_lost_33 (fun r_5 σ_5 τ_5 H locs hp hw => ?_)
      obtain ⟨er_5, es_5, et_5⟩ := hp
      obtain rfl := er_5.symm
      obtain rfl := es_5.symm
      obtain rfl := et_5.symm
      refine lv_if_eq (tgt := 100) hx hb dX11_lost_36 (by decide) (fun _ => ?_) (fun h => absurd (by decide) h)
      refine lv_bipush (v := (-2)) hx hb dX11_lost_100 (by decide) ?_
      exact gx_ri (post := fun r σ1 τ1 => r = (if 0 ≤ n.toInt ∧ n.toInt ≤ 300 then (-2) else (-1)) ∧ (∀ c k : Nat, 199 ≤ c → σ1 c k = gs0 c k) ∧ True) (v := (-2)) S hr hlk hw rfl dX11_lost_102 ⟨(by simp only [fa_lt, fa_le, fa_eq, show (1 : Int32).toInt = 1 from rfl] at c_4; exact (if_pos (by omega)).symm), (fun c9 k9 h9 => (up2_hi (by omega) h9).trans ((up2_hi (by omega) h9).trans ((up2_hi (by omega) h9).trans ((up2_hi (by omega) h9).trans ((up2_hi (by omega) h9).trans (rfl)))))), trivial⟩
  · refine gx_top (v := 0) ((if_neg c_2).trans (rfl)) ?_
    refine lv_if_ne (tgt := 9) hx hb dX11_lost_4 (by decide) (fun h => absurd (by decide) h) (fun _ => ?_)
    refine lv_iconst (v := (-1)) hx hb dX11_lost_7 (by decide) ?_
    exact gx_ri (post := fun r σ1 τ1 => r = (if 0 ≤ n.toInt ∧ n.toInt ≤ 300 then (-2) else (-1)) ∧ (∀ c k : Nat, 199 ≤ c → σ1 c k = gs0 c k) ∧ True) (v := (-1)) S hr hlk hw rfl dX11_lost_8 ⟨(by exact ((if_neg (by omega)).trans (rfl)).symm), (fun c9 k9 h9 => rfl), trivial⟩
set_option maxHeartbeats 4000000 in
set_option maxRecDepth 100000 in
theorem c_x_homes (l : Launch) {E : gE} (n : Int32)  : gx_Mi l yX11_homes cX11_homes 2 (some .int) 2 gx_tb E gs0 gt0 [.ref (E.2.2 + 0), .int n] (fun r σ1 τ1 => r = (if 0 ≤ n.toInt ∧ n.toInt ≤ 300 then 0 else (-1)) ∧ (∀ c k : Nat, 199 ≤ c → σ1 c k = gs0 c k) ∧ True) := by
  refine gx_bi (by decide +kernel) (Nat.le_of_ble_eq_true rfl) ?_
  intro P9 e9 s m9 below meth C9 S hr hlk hK hw ls hl
  have S : CallFix P9 m9 C9 cX11_homes 2 s _ gx_G RX11 := S
  have hx := S.1
  have hb := S.2.1
  have hl : lv_has ls 2 [(0, .ref (E.2.2 + 0)), (1, .int n)] := hl
  refine lv_iload_n hx hb dX11_homes_0 rfl (lv_at hl 1 rfl) ?_
  refine gx_cSi (As := [.int n]) (rest := []) S hK gx_ok hw (c_isAhead l (E := E) gs0 gt0 n ) cw_X11_290 ⟨Nat.le_of_ble_eq_true rfl, Nat.le_of_ble_eq_true rfl⟩ rfl hl.1 rfl (Nat.le_of_ble_eq_true rfl) ⟨Nat.le_of_ble_eq_true rfl, Nat.le_of_ble_eq_true rfl⟩ dX11_homes_1 (fun r_1 σ_1 τ_1 H locs hp hw => ?_)
  obtain ⟨er_1, es_1, et_1⟩ := hp
  obtain rfl := er_1.symm
  obtain rfl := es_1.symm
  obtain rfl := et_1.symm
  by_cases c_2 : 0 ≤ n.toInt ∧ n.toInt ≤ 300
  · refine gx_top (v := 1) (if_pos c_2) ?_
    refine lv_if_ne (tgt := 9) hx hb dX11_homes_4 (by decide) (fun _ => ?_) (fun h => absurd h (by decide))
    refine lv_aload_n hx hb dX11_homes_9 rfl (lv_at hl 0 rfl) ?_
    refine gx_getr (j := 160) S hK hw t_0 cl_12 15 (by decide) rfl mw_462 rfl dX11_homes_10 ?_
    refine lv_aload_n hx hb dX11_homes_13 rfl (lv_at hl 0 rfl) ?_
    refine gx_getr (j := 30) S hK hw t_0 cl_12 7 (by decide) rfl mw_454 rfl dX11_homes_14 ?_
    refine lv_iload_n hx hb dX11_homes_17 rfl (lv_at hl 1 rfl) ?_
    refine gx_cVv (As := [.ref (E.2.2 + 30), .int n]) (rest := []) S hK gx_ok hw (c_goOn l (E := E) gs0 gt0 n (by first | rfl | decide | simp [up2, gs0]) (by first | rfl | decide | simp [up2, gs0]) (by first | rfl | decide | simp [up2, gs0]) (by first | rfl | decide | simp [up2, gs0]) (by first | rfl | decide | simp [up2, gs0])) cw_X11_293 t_160 cl_10 ⟨Nat.le_of_ble_eq_true rfl, Nat.le_of_ble_eq_true rfl⟩ rfl hl.1 rfl (Nat.le_of_ble_eq_true rfl) ⟨Nat.le_of_ble_eq_true rfl, Nat.le_of_ble_eq_true rfl⟩ dX11_homes_18 (fun σ_3 τ_3 H locs hp hw => ?_)
    obtain ⟨es_3, et_3⟩ := hp
    obtain rfl := es_3.symm
    obtain rfl := et_3.symm
    refine lv_aload_n hx hb dX11_homes_21 rfl (lv_at hl 0 rfl) ?_
    refine gx_getr (j := 156) S hK hw t_0 cl_12 13 (by decide) rfl mw_460 rfl dX11_homes_22 ?_
    refine lv_aload_n hx hb dX11_homes_25 rfl (lv_at hl 0 rfl) ?_
    refine gx_getr (j := 160) S hK hw t_0 cl_12 15 (by decide) rfl mw_462 rfl dX11_homes_26 ?_
    refine gx_getr (j := 171) S hK hw t_160 cl_10 8 (by decide) rfl mw_426 rfl dX11_homes_29 ?_
    refine gx_get S hK hw t_171 cl_7 10 (by decide) rfl mw_286 rfl dX11_homes_32 ?_
    refine gx_top (v := 0) (by first | rfl | decide | simp [up2, gs0]) ?_
    refine lv_i2l (v := 0) hx hb dX11_homes_35 (by decide) ?_
    refine lv_aload_n hx hb dX11_homes_36 rfl (lv_at hl 0 rfl) ?_
    refine gx_getr (j := 160) S hK hw t_0 cl_12 15 (by decide) rfl mw_462 rfl dX11_homes_37 ?_
    refine gx_getr (j := 171) S hK hw t_160 cl_10 8 (by decide) rfl mw_426 rfl dX11_homes_40 ?_
    refine gx_cVi (As := []) (rest := [.long 0, .ref (E.2.2 + 156)]) S hK gx_ok hw (c_Scene_onWay l (E := E) (up2 (up2 (up2 (up2 (up2 (gs0) 171 6 0) 171 7 0) 171 8 0) 171 9 0) 171 10 0) gt0 171 (by first | rfl | decide | simp [up2, gs0]) (by first | rfl | decide | simp [up2, gs0]) (by first | rfl | decide | simp [up2, gs0]) (by first | rfl | decide | simp [up2, gs0])) cw_X11_166 t_171 cl_7 ⟨Nat.le_of_ble_eq_true rfl, Nat.le_of_ble_eq_true rfl⟩ rfl hl.1 rfl (Nat.le_of_ble_eq_true rfl) ⟨Nat.le_of_ble_eq_true rfl, Nat.le_of_ble_eq_true rfl⟩ dX11_homes_43 (fun r_4 σ_4 τ_4 H locs hp hw => ?_)
    obtain ⟨er_4, es_4, et_4⟩ := hp
    obtain rfl := er_4.symm
    obtain rfl := es_4.symm
    obtain rfl := et_4.symm
    refine lv_i2l (v := 0) hx hb dX11_homes_46 (by decide) ?_
    refine gx_cVv (As := [.long 0, .long 0]) (rest := []) S hK gx_ok hw (c_tell2 l (E := E) (up2 (up2 (up2 (up2 (up2 (gs0) 171 6 0) 171 7 0) 171 8 0) 171 9 0) 171 10 0) gt0 0 0 ) cw_X11_257 t_156 cl_5 ⟨Nat.le_of_ble_eq_true rfl, Nat.le_of_ble_eq_true rfl⟩ rfl hl.1 rfl (Nat.le_of_ble_eq_true rfl) ⟨Nat.le_of_ble_eq_true rfl, Nat.le_of_ble_eq_true rfl⟩ dX11_homes_47 (fun σ_5 τ_5 H locs hp hw => ?_)
    obtain ⟨es_5, -⟩ := hp
    obtain rfl := es_5.symm
    refine lv_aload_n hx hb dX11_homes_50 rfl (lv_at hl 0 rfl) ?_
    refine gx_getr (j := 160) S hK hw t_0 cl_12 15 (by decide) rfl mw_462 rfl dX11_homes_51 ?_
    refine gx_getr (j := 171) S hK hw t_160 cl_10 8 (by decide) rfl mw_426 rfl dX11_homes_54 ?_
    refine gx_get S hK hw t_171 cl_7 9 (by decide) rfl mw_283 rfl dX11_homes_57 ?_
    refine gx_top (v := 0) (by first | rfl | decide | simp [up2, gs0]) ?_
    exact gx_ri (post := fun r σ1 τ1 => r = (if 0 ≤ n.toInt ∧ n.toInt ≤ 300 then 0 else (-1)) ∧ (∀ c k : Nat, 199 ≤ c → σ1 c k = gs0 c k) ∧ True) (v := 0) S hr hlk hw rfl dX11_homes_60 ⟨(by exact (if_pos (by omega)).symm), (fun c9 k9 h9 => (up2_hi (by omega) h9).trans ((up2_hi (by omega) h9).trans ((up2_hi (by omega) h9).trans ((up2_hi (by omega) h9).trans ((up2_hi (by omega) h9).trans ((up2_hi (by omega) h9).trans (rfl))))))), trivial⟩
  · refine gx_top (v := 0) ((if_neg c_2).trans (rfl)) ?_
    refine lv_if_ne (tgt := 9) hx hb dX11_homes_4 (by decide) (fun h => absurd (by decide) h) (fun _ => ?_)
    refine lv_iconst (v := (-1)) hx hb dX11_homes_7 (by decide) ?_
    exact gx_ri (post := fun r σ1 τ1 => r = (if 0 ≤ n.toInt ∧ n.toInt ≤ 300 then 0 else (-1)) ∧ (∀ c k : Nat, 199 ≤ c → σ1 c k = gs0 c k) ∧ True) (v := (-1)) S hr hlk hw rfl dX11_homes_8 ⟨(by exact ((if_neg (by omega)).trans (rfl)).symm), (fun c9 k9 h9 => rfl), trivial⟩
set_option maxHeartbeats 4000000 in
set_option maxRecDepth 100000 in
theorem c_x_sail (l : Launch) {E : gE} (p b n w t : Int32)  : gx_Mi l yX11_sail cX11_sail 7 (some .int) 1 gx_tb E gs0 gt0 [.ref (E.2.2 + 0), .int p, .int b, .int n, .int w, .int t] (fun r σ1 τ1 => r = (-1) ∧ (∀ c k : Nat, 199 ≤ c → σ1 c k = gs0 c k) ∧ True) := by
  refine gx_bi (by decide +kernel) (Nat.le_of_ble_eq_true rfl) ?_
  intro P9 e9 s m9 below meth C9 S hr hlk hK hw ls hl
  have S : CallFix P9 m9 C9 cX11_sail 7 s _ gx_G RX11 := S
  have hx := S.1
  have hb := S.2.1
  have hl : lv_has ls 7 [(0, .ref (E.2.2 + 0)), (1, .int p), (2, .int b), (3, .int n), (4, .int w), (5, .int t)] := hl
  refine lv_aload_n hx hb dX11_sail_0 rfl (lv_at hl 0 rfl) ?_
  refine gx_getr (j := 3) S hK hw t_0 cl_12 1 (by decide) rfl mw_448 rfl dX11_sail_1 ?_
  refine lv_iload_n hx hb dX11_sail_4 rfl (lv_at hl 1 rfl) ?_
  refine gx_cVi (As := [.int p]) (rest := []) S hK gx_ok hw (c_Town_has l (E := E) gs0 gt0 p (by first | rfl | decide | simp [up2, gs0])) cw_X11_137 t_3 cl_9 ⟨Nat.le_of_ble_eq_true rfl, Nat.le_of_ble_eq_true rfl⟩ rfl hl.1 rfl (Nat.le_of_ble_eq_true rfl) ⟨Nat.le_of_ble_eq_true rfl, Nat.le_of_ble_eq_true rfl⟩ dX11_sail_5 (fun r_1 σ_1 τ_1 H locs hp hw => ?_)
  obtain ⟨er_1, es_1, et_1⟩ := hp
  obtain rfl := er_1.symm
  obtain rfl := es_1.symm
  obtain rfl := et_1.symm
  refine lv_if_eq (tgt := 39) hx hb dX11_sail_8 (by decide) (fun _ => ?_) (fun h => absurd (by decide) h)
  refine lv_iconst (v := (-1)) hx hb dX11_sail_39 (by decide) ?_
  exact gx_ri (post := fun r σ1 τ1 => r = (-1) ∧ (∀ c k : Nat, 199 ≤ c → σ1 c k = gs0 c k) ∧ True) (v := (-1)) S hr hlk hw rfl dX11_sail_40 ⟨rfl, (fun c9 k9 h9 => rfl), trivial⟩
set_option maxHeartbeats 4000000 in
set_option maxRecDepth 100000 in
theorem c_x_soonest (l : Launch) {E : gE} (b n t : Int32)  : gx_Mi l yX11_soonest cX11_soonest 10 (some .int) 1 gx_tb E gs0 gt0 [.ref (E.2.2 + 0), .int b, .int n, .int t] (fun r σ1 τ1 => r = (-1) ∧ (∀ c k : Nat, 199 ≤ c → σ1 c k = gs0 c k) ∧ True) := by
  refine gx_bi (by decide +kernel) (Nat.le_of_ble_eq_true rfl) ?_
  intro P9 e9 s m9 below meth C9 S hr hlk hK hw ls hl
  have S : CallFix P9 m9 C9 cX11_soonest 10 s _ gx_G RX11 := S
  have hx := S.1
  have hb := S.2.1
  have hl : lv_has ls 10 [(0, .ref (E.2.2 + 0)), (1, .int b), (2, .int n), (3, .int t)] := hl
  refine lv_iload_n hx hb dX11_soonest_0 rfl (lv_at hl 1 rfl) ?_
  refine lv_iload_n hx hb dX11_soonest_1 rfl (lv_at hl 2 rfl) ?_
  refine gx_cSi (As := [.int b, .int n]) (rest := []) S hK gx_ok hw (c_isLoad l (E := E) gs0 gt0 b n ) cw_X11_227 ⟨Nat.le_of_ble_eq_true rfl, Nat.le_of_ble_eq_true rfl⟩ rfl hl.1 rfl (Nat.le_of_ble_eq_true rfl) ⟨Nat.le_of_ble_eq_true rfl, Nat.le_of_ble_eq_true rfl⟩ dX11_soonest_2 (fun r_1 σ_1 τ_1 H locs hp hw => ?_)
  obtain ⟨er_1, es_1, et_1⟩ := hp
  obtain rfl := er_1.symm
  obtain rfl := es_1.symm
  obtain rfl := et_1.symm
  by_cases c_2 : 0 ≤ b.toInt ∧ b.toInt ≤ 99 ∧ 0 ≤ n.toInt ∧ n.toInt ≤ 9
  · refine gx_top (v := 1) (if_pos c_2) ?_
    refine lv_if_eq (tgt := 19) hx hb dX11_soonest_5 (by decide) (fun h => absurd h (by decide)) (fun _ => ?_)
    refine lv_aload_n hx hb dX11_soonest_8 rfl (lv_at hl 0 rfl) ?_
    refine gx_getr (j := 3) S hK hw t_0 cl_12 1 (by decide) rfl mw_448 rfl dX11_soonest_9 ?_
    refine lv_iload_n hx hb dX11_soonest_12 rfl (lv_at hl 3 rfl) ?_
    refine gx_cVi (As := [.int t]) (rest := []) S hK gx_ok hw (c_Town_isKitchen l (E := E) gs0 gt0 t (by first | rfl | decide | simp [up2, gs0])) cw_X11_234 t_3 cl_9 ⟨Nat.le_of_ble_eq_true rfl, Nat.le_of_ble_eq_true rfl⟩ rfl hl.1 rfl (Nat.le_of_ble_eq_true rfl) ⟨Nat.le_of_ble_eq_true rfl, Nat.le_of_ble_eq_true rfl⟩ dX11_soonest_13 (fun r_3 σ_3 τ_3 H locs hp hw => ?_)
    obtain ⟨er_3, es_3, et_3⟩ := hp
    obtain rfl := er_3.symm
    obtain rfl := es_3.symm
    obtain rfl := et_3.symm
    refine lv_if_ne (tgt := 21) hx hb dX11_soonest_16 (by decide) (fun h => absurd (by decide) h) (fun _ => ?_)
    refine lv_iconst (v := (-1)) hx hb dX11_soonest_19 (by decide) ?_
    exact gx_ri (post := fun r σ1 τ1 => r = (-1) ∧ (∀ c k : Nat, 199 ≤ c → σ1 c k = gs0 c k) ∧ True) (v := (-1)) S hr hlk hw rfl dX11_soonest_20 ⟨rfl, (fun c9 k9 h9 => rfl), trivial⟩
  · refine gx_top (v := 0) ((if_neg c_2).trans (rfl)) ?_
    refine lv_if_eq (tgt := 19) hx hb dX11_soonest_5 (by decide) (fun _ => ?_) (fun h => absurd (by decide) h)
    refine lv_iconst (v := (-1)) hx hb dX11_soonest_19 (by decide) ?_
    exact gx_ri (post := fun r σ1 τ1 => r = (-1) ∧ (∀ c k : Nat, 199 ≤ c → σ1 c k = gs0 c k) ∧ True) (v := (-1)) S hr hlk hw rfl dX11_soonest_20 ⟨rfl, (fun c9 k9 h9 => rfl), trivial⟩
set_option maxHeartbeats 4000000 in
set_option maxRecDepth 100000 in
theorem c_x_basin (l : Launch) {E : gE} (b n t : Int32)  : gx_Mi l yX11_basin cX11_basin 9 (some .int) 1 gx_tb E gs0 gt0 [.ref (E.2.2 + 0), .int b, .int n, .int t] (fun r σ1 τ1 => r = (-1) ∧ (∀ c k : Nat, 199 ≤ c → σ1 c k = gs0 c k) ∧ True) := by
  refine gx_bi (by decide +kernel) (Nat.le_of_ble_eq_true rfl) ?_
  intro P9 e9 s m9 below meth C9 S hr hlk hK hw ls hl
  have S : CallFix P9 m9 C9 cX11_basin 9 s _ gx_G RX11 := S
  have hx := S.1
  have hb := S.2.1
  have hl : lv_has ls 9 [(0, .ref (E.2.2 + 0)), (1, .int b), (2, .int n), (3, .int t)] := hl
  refine lv_iload_n hx hb dX11_basin_0 rfl (lv_at hl 1 rfl) ?_
  refine lv_iload_n hx hb dX11_basin_1 rfl (lv_at hl 2 rfl) ?_
  refine gx_cSi (As := [.int b, .int n]) (rest := []) S hK gx_ok hw (c_isLoad l (E := E) gs0 gt0 b n ) cw_X11_227 ⟨Nat.le_of_ble_eq_true rfl, Nat.le_of_ble_eq_true rfl⟩ rfl hl.1 rfl (Nat.le_of_ble_eq_true rfl) ⟨Nat.le_of_ble_eq_true rfl, Nat.le_of_ble_eq_true rfl⟩ dX11_basin_2 (fun r_1 σ_1 τ_1 H locs hp hw => ?_)
  obtain ⟨er_1, es_1, et_1⟩ := hp
  obtain rfl := er_1.symm
  obtain rfl := es_1.symm
  obtain rfl := et_1.symm
  by_cases c_2 : 0 ≤ b.toInt ∧ b.toInt ≤ 99 ∧ 0 ≤ n.toInt ∧ n.toInt ≤ 9
  · refine gx_top (v := 1) (if_pos c_2) ?_
    refine lv_if_eq (tgt := 19) hx hb dX11_basin_5 (by decide) (fun h => absurd h (by decide)) (fun _ => ?_)
    refine lv_aload_n hx hb dX11_basin_8 rfl (lv_at hl 0 rfl) ?_
    refine gx_getr (j := 3) S hK hw t_0 cl_12 1 (by decide) rfl mw_448 rfl dX11_basin_9 ?_
    refine lv_iload_n hx hb dX11_basin_12 rfl (lv_at hl 3 rfl) ?_
    refine gx_cVi (As := [.int t]) (rest := []) S hK gx_ok hw (c_Town_isKitchen l (E := E) gs0 gt0 t (by first | rfl | decide | simp [up2, gs0])) cw_X11_234 t_3 cl_9 ⟨Nat.le_of_ble_eq_true rfl, Nat.le_of_ble_eq_true rfl⟩ rfl hl.1 rfl (Nat.le_of_ble_eq_true rfl) ⟨Nat.le_of_ble_eq_true rfl, Nat.le_of_ble_eq_true rfl⟩ dX11_basin_13 (fun r_3 σ_3 τ_3 H locs hp hw => ?_)
    obtain ⟨er_3, es_3, et_3⟩ := hp
    obtain rfl := er_3.symm
    obtain rfl := es_3.symm
    obtain rfl := et_3.symm
    refine lv_if_ne (tgt := 21) hx hb dX11_basin_16 (by decide) (fun h => absurd (by decide) h) (fun _ => ?_)
    refine lv_iconst (v := (-1)) hx hb dX11_basin_19 (by decide) ?_
    exact gx_ri (post := fun r σ1 τ1 => r = (-1) ∧ (∀ c k : Nat, 199 ≤ c → σ1 c k = gs0 c k) ∧ True) (v := (-1)) S hr hlk hw rfl dX11_basin_20 ⟨rfl, (fun c9 k9 h9 => rfl), trivial⟩
  · refine gx_top (v := 0) ((if_neg c_2).trans (rfl)) ?_
    refine lv_if_eq (tgt := 19) hx hb dX11_basin_5 (by decide) (fun _ => ?_) (fun h => absurd (by decide) h)
    refine lv_iconst (v := (-1)) hx hb dX11_basin_19 (by decide) ?_
    exact gx_ri (post := fun r σ1 τ1 => r = (-1) ∧ (∀ c k : Nat, 199 ≤ c → σ1 c k = gs0 c k) ∧ True) (v := (-1)) S hr hlk hw rfl dX11_basin_20 ⟨rfl, (fun c9 k9 h9 => rfl), trivial⟩
set_option maxHeartbeats 4000000 in
set_option maxRecDepth 100000 in
theorem c_x_boat (l : Launch) {E : gE} (p n t : Int32)  : gx_Mi l yX11_boat cX11_boat 6 (some .int) 1 gx_tb E gs0 gt0 [.ref (E.2.2 + 0), .int p, .int n, .int t] (fun r σ1 τ1 => r = (-1) ∧ (∀ c k : Nat, 199 ≤ c → σ1 c k = gs0 c k) ∧ True) := by
  refine gx_bi (by decide +kernel) (Nat.le_of_ble_eq_true rfl) ?_
  intro P9 e9 s m9 below meth C9 S hr hlk hK hw ls hl
  have S : CallFix P9 m9 C9 cX11_boat 6 s _ gx_G RX11 := S
  have hx := S.1
  have hb := S.2.1
  have hl : lv_has ls 6 [(0, .ref (E.2.2 + 0)), (1, .int p), (2, .int n), (3, .int t)] := hl
  refine lv_aload_n hx hb dX11_boat_0 rfl (lv_at hl 0 rfl) ?_
  refine gx_getr (j := 3) S hK hw t_0 cl_12 1 (by decide) rfl mw_448 rfl dX11_boat_1 ?_
  refine lv_iload_n hx hb dX11_boat_4 rfl (lv_at hl 1 rfl) ?_
  refine gx_cVi (As := [.int p]) (rest := []) S hK gx_ok hw (c_Town_has l (E := E) gs0 gt0 p (by first | rfl | decide | simp [up2, gs0])) cw_X11_137 t_3 cl_9 ⟨Nat.le_of_ble_eq_true rfl, Nat.le_of_ble_eq_true rfl⟩ rfl hl.1 rfl (Nat.le_of_ble_eq_true rfl) ⟨Nat.le_of_ble_eq_true rfl, Nat.le_of_ble_eq_true rfl⟩ dX11_boat_5 (fun r_1 σ_1 τ_1 H locs hp hw => ?_)
  obtain ⟨er_1, es_1, et_1⟩ := hp
  obtain rfl := er_1.symm
  obtain rfl := es_1.symm
  obtain rfl := et_1.symm
  refine lv_if_eq (tgt := 30) hx hb dX11_boat_8 (by decide) (fun _ => ?_) (fun h => absurd (by decide) h)
  refine lv_iconst (v := (-1)) hx hb dX11_boat_30 (by decide) ?_
  exact gx_ri (post := fun r σ1 τ1 => r = (-1) ∧ (∀ c k : Nat, 199 ≤ c → σ1 c k = gs0 c k) ∧ True) (v := (-1)) S hr hlk hw rfl dX11_boat_31 ⟨rfl, (fun c9 k9 h9 => rfl), trivial⟩
set_option maxHeartbeats 4000000 in
set_option maxRecDepth 100000 in
theorem c_x_coins (l : Launch) {E : gE} (p b t : Int32)  : gx_Mi l yX11_coins cX11_coins 6 (some .int) 1 gx_tb E gs0 gt0 [.ref (E.2.2 + 0), .int p, .int b, .int t] (fun r σ1 τ1 => r = (-1) ∧ (∀ c k : Nat, 199 ≤ c → σ1 c k = gs0 c k) ∧ True) := by
  refine gx_bi (by decide +kernel) (Nat.le_of_ble_eq_true rfl) ?_
  intro P9 e9 s m9 below meth C9 S hr hlk hK hw ls hl
  have S : CallFix P9 m9 C9 cX11_coins 6 s _ gx_G RX11 := S
  have hx := S.1
  have hb := S.2.1
  have hl : lv_has ls 6 [(0, .ref (E.2.2 + 0)), (1, .int p), (2, .int b), (3, .int t)] := hl
  refine lv_aload_n hx hb dX11_coins_0 rfl (lv_at hl 0 rfl) ?_
  refine gx_getr (j := 3) S hK hw t_0 cl_12 1 (by decide) rfl mw_448 rfl dX11_coins_1 ?_
  refine lv_iload_n hx hb dX11_coins_4 rfl (lv_at hl 1 rfl) ?_
  refine gx_cVi (As := [.int p]) (rest := []) S hK gx_ok hw (c_Town_has l (E := E) gs0 gt0 p (by first | rfl | decide | simp [up2, gs0])) cw_X11_137 t_3 cl_9 ⟨Nat.le_of_ble_eq_true rfl, Nat.le_of_ble_eq_true rfl⟩ rfl hl.1 rfl (Nat.le_of_ble_eq_true rfl) ⟨Nat.le_of_ble_eq_true rfl, Nat.le_of_ble_eq_true rfl⟩ dX11_coins_5 (fun r_1 σ_1 τ_1 H locs hp hw => ?_)
  obtain ⟨er_1, es_1, et_1⟩ := hp
  obtain rfl := er_1.symm
  obtain rfl := es_1.symm
  obtain rfl := et_1.symm
  refine lv_if_eq (tgt := 30) hx hb dX11_coins_8 (by decide) (fun _ => ?_) (fun h => absurd (by decide) h)
  refine lv_iconst (v := (-1)) hx hb dX11_coins_30 (by decide) ?_
  exact gx_ri (post := fun r σ1 τ1 => r = (-1) ∧ (∀ c k : Nat, 199 ≤ c → σ1 c k = gs0 c k) ∧ True) (v := (-1)) S hr hlk hw rfl dX11_coins_31 ⟨rfl, (fun c9 k9 h9 => rfl), trivial⟩
set_option maxHeartbeats 4000000 in
set_option maxRecDepth 100000 in
theorem c_x_waits (l : Launch) {E : gE} (p b n t : Int32)  : gx_Mi l yX11_waits cX11_waits 11 (some .int) 1 gx_tb E gs0 gt0 [.ref (E.2.2 + 0), .int p, .int b, .int n, .int t] (fun r σ1 τ1 => r = (-1) ∧ (∀ c k : Nat, 199 ≤ c → σ1 c k = gs0 c k) ∧ True) := by
  refine gx_bi (by decide +kernel) (Nat.le_of_ble_eq_true rfl) ?_
  intro P9 e9 s m9 below meth C9 S hr hlk hK hw ls hl
  have S : CallFix P9 m9 C9 cX11_waits 11 s _ gx_G RX11 := S
  have hx := S.1
  have hb := S.2.1
  have hl : lv_has ls 11 [(0, .ref (E.2.2 + 0)), (1, .int p), (2, .int b), (3, .int n), (4, .int t)] := hl
  refine lv_aload_n hx hb dX11_waits_0 rfl (lv_at hl 0 rfl) ?_
  refine gx_getr (j := 3) S hK hw t_0 cl_12 1 (by decide) rfl mw_448 rfl dX11_waits_1 ?_
  refine lv_iload_n hx hb dX11_waits_4 rfl (lv_at hl 1 rfl) ?_
  refine gx_cVi (As := [.int p]) (rest := []) S hK gx_ok hw (c_Town_has l (E := E) gs0 gt0 p (by first | rfl | decide | simp [up2, gs0])) cw_X11_137 t_3 cl_9 ⟨Nat.le_of_ble_eq_true rfl, Nat.le_of_ble_eq_true rfl⟩ rfl hl.1 rfl (Nat.le_of_ble_eq_true rfl) ⟨Nat.le_of_ble_eq_true rfl, Nat.le_of_ble_eq_true rfl⟩ dX11_waits_5 (fun r_1 σ_1 τ_1 H locs hp hw => ?_)
  obtain ⟨er_1, es_1, et_1⟩ := hp
  obtain rfl := er_1.symm
  obtain rfl := es_1.symm
  obtain rfl := et_1.symm
  refine lv_if_eq (tgt := 31) hx hb dX11_waits_8 (by decide) (fun _ => ?_) (fun h => absurd (by decide) h)
  refine lv_iconst (v := (-1)) hx hb dX11_waits_31 (by decide) ?_
  exact gx_ri (post := fun r σ1 τ1 => r = (-1) ∧ (∀ c k : Nat, 199 ≤ c → σ1 c k = gs0 c k) ∧ True) (v := (-1)) S hr hlk hw rfl dX11_waits_32 ⟨rfl, (fun c9 k9 h9 => rfl), trivial⟩
set_option maxHeartbeats 4000000 in
set_option maxRecDepth 100000 in
theorem c_x_round (l : Launch) {E : gE} (p : Int32)  : gx_Mi l yX11_round cX11_round 4 (some .int) 1 gx_tb E gs0 gt0 [.ref (E.2.2 + 0), .int p] (fun r σ1 τ1 => r = (-1) ∧ (∀ c k : Nat, 199 ≤ c → σ1 c k = gs0 c k) ∧ True) := by
  refine gx_bi (by decide +kernel) (Nat.le_of_ble_eq_true rfl) ?_
  intro P9 e9 s m9 below meth C9 S hr hlk hK hw ls hl
  have S : CallFix P9 m9 C9 cX11_round 4 s _ gx_G RX11 := S
  have hx := S.1
  have hb := S.2.1
  have hl : lv_has ls 4 [(0, .ref (E.2.2 + 0)), (1, .int p)] := hl
  refine lv_aload_n hx hb dX11_round_0 rfl (lv_at hl 0 rfl) ?_
  refine gx_getr (j := 3) S hK hw t_0 cl_12 1 (by decide) rfl mw_448 rfl dX11_round_1 ?_
  refine lv_iload_n hx hb dX11_round_4 rfl (lv_at hl 1 rfl) ?_
  refine gx_cVi (As := [.int p]) (rest := []) S hK gx_ok hw (c_Town_has l (E := E) gs0 gt0 p (by first | rfl | decide | simp [up2, gs0])) cw_X11_137 t_3 cl_9 ⟨Nat.le_of_ble_eq_true rfl, Nat.le_of_ble_eq_true rfl⟩ rfl hl.1 rfl (Nat.le_of_ble_eq_true rfl) ⟨Nat.le_of_ble_eq_true rfl, Nat.le_of_ble_eq_true rfl⟩ dX11_round_5 (fun r_1 σ_1 τ_1 H locs hp hw => ?_)
  obtain ⟨er_1, es_1, et_1⟩ := hp
  obtain rfl := er_1.symm
  obtain rfl := es_1.symm
  obtain rfl := et_1.symm
  refine lv_if_ne (tgt := 13) hx hb dX11_round_8 (by decide) (fun h => absurd (by decide) h) (fun _ => ?_)
  refine lv_iconst (v := (-1)) hx hb dX11_round_11 (by decide) ?_
  exact gx_ri (post := fun r σ1 τ1 => r = (-1) ∧ (∀ c k : Nat, 199 ≤ c → σ1 c k = gs0 c k) ∧ True) (v := (-1)) S hr hlk hw rfl dX11_round_12 ⟨rfl, (fun c9 k9 h9 => rfl), trivial⟩
set_option maxHeartbeats 4000000 in
set_option maxRecDepth 100000 in
theorem c_x_save (l : Launch) {E : gE} (those : Int32)  : gx_Mi l yX11_save cX11_save 2 (some .int) 5 gx_tb E gs0 gt0 [.ref (E.2.2 + 0), .int those] (fun r σ1 τ1 => r = (if those.toInt = 0 then 0 else (-1)) ∧ (∀ c k : Nat, 199 ≤ c → σ1 c k = gs0 c k) ∧ True) := by
  refine gx_bi (by decide +kernel) (Nat.le_of_ble_eq_true rfl) ?_
  intro P9 e9 s m9 below meth C9 S hr hlk hK hw ls hl
  have S : CallFix P9 m9 C9 cX11_save 2 s _ gx_G RX11 := S
  have hx := S.1
  have hb := S.2.1
  have hl : lv_has ls 2 [(0, .ref (E.2.2 + 0)), (1, .int those)] := hl
  refine lv_iload_n hx hb dX11_save_0 rfl (lv_at hl 1 rfl) ?_
  refine lv_if_lt (tgt := 17) hx hb dX11_save_1 (by decide) (fun c_1 => ?_) (fun c_1 => ?_)
  · refine lv_iconst (v := (-1)) hx hb dX11_save_17 (by decide) ?_
    exact gx_ri (post := fun r σ1 τ1 => r = (if those.toInt = 0 then 0 else (-1)) ∧ (∀ c k : Nat, 199 ≤ c → σ1 c k = gs0 c k) ∧ True) (v := (-1)) S hr hlk hw rfl dX11_save_18 ⟨(by simp only [fa_lt, fa_le, fa_eq, show (0 : Int32).toInt = 0 from rfl] at c_1; exact ((if_neg (by omega)).trans (rfl)).symm), (fun c9 k9 h9 => rfl), trivial⟩
  · refine lv_iload_n hx hb dX11_save_4 rfl (lv_at hl 1 rfl) ?_
    refine lv_iconst (v := 1) hx hb dX11_save_5 (by decide) ?_
    refine lv_aload_n hx hb dX11_save_6 rfl (lv_at hl 0 rfl) ?_
    refine gx_getr (j := 30) S hK hw t_0 cl_12 7 (by decide) rfl mw_454 rfl dX11_save_7 ?_
    refine gx_get S hK hw t_30 cl_7 6 (by decide) rfl mw_272 rfl dX11_save_10 ?_
    refine gx_top (v := 0) (by first | rfl | decide | simp [up2, gs0]) ?_
    refine lv_ishl hx hb dX11_save_13 ?_
    refine gx_top (v := 1) (by decide) ?_
    refine lv_icmp_lt (tgt := 19) hx hb dX11_save_14 (by decide) (fun c_2 => ?_) (fun c_2 => ?_)
    · have e0 : those = 0 := (fa_eq _ _).mpr (by simp only [fa_lt, fa_le, show (0 : Int32).toInt = 0 from rfl, show (1 : Int32).toInt = 1 from rfl] at c_1 c_2 ⊢; omega)
      have hl : lv_has ls 2 [(0, .ref (E.2.2 + 0)), (1, .int 0)] := by rw [e0] at hl; exact hl
      refine lv_aload_n hx hb dX11_save_19 rfl (lv_at hl 0 rfl) ?_
      refine gx_getr (j := 160) S hK hw t_0 cl_12 15 (by decide) rfl mw_462 rfl dX11_save_20 ?_
      refine lv_aload_n hx hb dX11_save_23 rfl (lv_at hl 0 rfl) ?_
      refine gx_getr (j := 30) S hK hw t_0 cl_12 7 (by decide) rfl mw_454 rfl dX11_save_24 ?_
      refine lv_iload_n hx hb dX11_save_27 rfl (lv_at hl 1 rfl) ?_
      refine lv_iconst (v := 0) hx hb dX11_save_28 (by decide) ?_
      refine gx_cVv (As := [.ref (E.2.2 + 30), .int 0, .int 0]) (rest := []) S hK gx_ok hw (c_startFrom l (E := E) gs0 gt0 (by first | rfl | decide | simp [up2, gs0]) (by first | rfl | decide | simp [up2, gs0]) (by first | rfl | decide | simp [up2, gs0]) (by first | rfl | decide | simp [up2, gs0]) (by first | rfl | decide | simp [up2, gs0]) (by first | rfl | decide | simp [up2, gs0])) cw_X11_343 t_160 cl_10 ⟨Nat.le_of_ble_eq_true rfl, Nat.le_of_ble_eq_true rfl⟩ rfl hl.1 rfl (Nat.le_of_ble_eq_true rfl) ⟨Nat.le_of_ble_eq_true rfl, Nat.le_of_ble_eq_true rfl⟩ dX11_save_29 (fun σ_3 τ_3 H locs hp hw => ?_)
      obtain ⟨es_3, et_3⟩ := hp
      obtain rfl := es_3.symm
      obtain rfl := et_3.symm
      refine lv_aload_n hx hb dX11_save_32 rfl (lv_at hl 0 rfl) ?_
      refine lv_iconst (v := (-1)) hx hb dX11_save_33 (by decide) ?_
      refine gx_cVi (As := [.int (-1)]) (rest := []) S hK gx_ok hw (c_fewestTurns l (E := E) (up2 (up2 (up2 (up2 (up2 (up2 (up2 (gs0) 164 6 0) 164 7 0) 164 8 0) 164 9 0) 164 10 0) 160 5 0) 160 6 0) gt0 (by first | rfl | decide | simp [up2, gs0]) (by first | rfl | decide | simp [up2, gs0]) (by first | rfl | decide | simp [up2, gs0]) (by first | rfl | decide | simp [up2, gs0]) (by first | rfl | decide | simp [up2, gs0]) (by first | rfl | decide | simp [up2, gs0]) (by first | rfl | decide | simp [up2, gs0]) (by first | rfl | decide | simp [up2, gs0]) (by first | rfl | decide | simp [up2, gs0]) (by first | rfl | decide | simp [up2, gs0]) (by first | rfl | decide | simp [up2, gs0])) cw_X11_347 t_0 cl_12 ⟨Nat.le_of_ble_eq_true rfl, Nat.le_of_ble_eq_true rfl⟩ rfl hl.1 rfl (Nat.le_of_ble_eq_true rfl) ⟨Nat.le_of_ble_eq_true rfl, Nat.le_of_ble_eq_true rfl⟩ dX11_save_34 (fun r_4 σ_4 τ_4 H locs hp hw => ?_)
      obtain ⟨er_4, hs_4, -⟩ := hp
      obtain rfl := er_4.symm
      exact gx_ri (post := fun r σ1 τ1 => r = (if those.toInt = 0 then 0 else (-1)) ∧ (∀ c k : Nat, 199 ≤ c → σ1 c k = gs0 c k) ∧ True) (v := 0) S hr hlk hw rfl dX11_save_37 ⟨(by simp only [fa_lt, fa_le, fa_eq, show (0 : Int32).toInt = 0 from rfl, show (1 : Int32).toInt = 1 from rfl] at c_1 c_2; exact (if_pos (by omega)).symm), (fun c9 k9 h9 => (hs_4 c9 k9 h9).trans ((up2_hi (by omega) h9).trans ((up2_hi (by omega) h9).trans ((up2_hi (by omega) h9).trans ((up2_hi (by omega) h9).trans ((up2_hi (by omega) h9).trans ((up2_hi (by omega) h9).trans ((up2_hi (by omega) h9).trans (rfl))))))))), trivial⟩
    · refine lv_iconst (v := (-1)) hx hb dX11_save_17 (by decide) ?_
      exact gx_ri (post := fun r σ1 τ1 => r = (if those.toInt = 0 then 0 else (-1)) ∧ (∀ c k : Nat, 199 ≤ c → σ1 c k = gs0 c k) ∧ True) (v := (-1)) S hr hlk hw rfl dX11_save_18 ⟨(by simp only [fa_lt, fa_le, fa_eq, show (0 : Int32).toInt = 0 from rfl, show (1 : Int32).toInt = 1 from rfl] at c_1 c_2; exact ((if_neg (by omega)).trans (rfl)).symm), (fun c9 k9 h9 => rfl), trivial⟩
set_option maxHeartbeats 4000000 in
set_option maxRecDepth 100000 in
theorem c_x_steer (l : Launch) {E : gE} (i t : Int32)  : gx_Mi l yX11_steer cX11_steer 3 (some .int) 1 gx_tb E gs0 gt0 [.ref (E.2.2 + 0), .int i, .int t] (fun r σ1 τ1 => r = (-1) ∧ (∀ c k : Nat, 199 ≤ c → σ1 c k = gs0 c k) ∧ True) := by
  refine gx_bi (by decide +kernel) (Nat.le_of_ble_eq_true rfl) ?_
  intro P9 e9 s m9 below meth C9 S hr hlk hK hw ls hl
  have S : CallFix P9 m9 C9 cX11_steer 3 s _ gx_G RX11 := S
  have hx := S.1
  have hb := S.2.1
  have hl : lv_has ls 3 [(0, .ref (E.2.2 + 0)), (1, .int i), (2, .int t)] := hl
  refine lv_aload_n hx hb dX11_steer_0 rfl (lv_at hl 0 rfl) ?_
  refine gx_getr (j := 30) S hK hw t_0 cl_12 7 (by decide) rfl mw_454 rfl dX11_steer_1 ?_
  refine lv_iload_n hx hb dX11_steer_4 rfl (lv_at hl 1 rfl) ?_
  refine gx_cVi (As := [.int i]) (rest := []) S hK gx_ok hw (c_Scene_has l (E := E) gs0 gt0 30 i (by first | rfl | decide | simp [up2, gs0]) (by first | rfl | decide | simp [up2, gs0])) cw_X11_172 t_30 cl_7 ⟨Nat.le_of_ble_eq_true rfl, Nat.le_of_ble_eq_true rfl⟩ rfl hl.1 rfl (Nat.le_of_ble_eq_true rfl) ⟨Nat.le_of_ble_eq_true rfl, Nat.le_of_ble_eq_true rfl⟩ dX11_steer_5 (fun r_1 σ_1 τ_1 H locs hp hw => ?_)
  obtain ⟨er_1, es_1, et_1⟩ := hp
  obtain rfl := er_1.symm
  obtain rfl := es_1.symm
  obtain rfl := et_1.symm
  refine lv_if_eq (tgt := 22) hx hb dX11_steer_8 (by decide) (fun _ => ?_) (fun h => absurd (by decide) h)
  refine lv_iconst (v := (-1)) hx hb dX11_steer_22 (by decide) ?_
  exact gx_ri (post := fun r σ1 τ1 => r = (-1) ∧ (∀ c k : Nat, 199 ≤ c → σ1 c k = gs0 c k) ∧ True) (v := (-1)) S hr hlk hw rfl dX11_steer_23 ⟨rfl, (fun c9 k9 h9 => rfl), trivial⟩
set_option maxHeartbeats 4000000 in
set_option maxRecDepth 100000 in
theorem c_x_ways (l : Launch) {E : gE} (p b n t : Int32)  : gx_Mi l yX11_ways cX11_ways 10 (some .int) 1 gx_tb E gs0 gt0 [.ref (E.2.2 + 0), .int p, .int b, .int n, .int t] (fun r σ1 τ1 => r = (-1) ∧ (∀ c k : Nat, 199 ≤ c → σ1 c k = gs0 c k) ∧ True) := by
  refine gx_bi (by decide +kernel) (Nat.le_of_ble_eq_true rfl) ?_
  intro P9 e9 s m9 below meth C9 S hr hlk hK hw ls hl
  have S : CallFix P9 m9 C9 cX11_ways 10 s _ gx_G RX11 := S
  have hx := S.1
  have hb := S.2.1
  have hl : lv_has ls 10 [(0, .ref (E.2.2 + 0)), (1, .int p), (2, .int b), (3, .int n), (4, .int t)] := hl
  refine lv_aload_n hx hb dX11_ways_0 rfl (lv_at hl 0 rfl) ?_
  refine gx_getr (j := 3) S hK hw t_0 cl_12 1 (by decide) rfl mw_448 rfl dX11_ways_1 ?_
  refine lv_iload_n hx hb dX11_ways_4 rfl (lv_at hl 1 rfl) ?_
  refine gx_cVi (As := [.int p]) (rest := []) S hK gx_ok hw (c_Town_has l (E := E) gs0 gt0 p (by first | rfl | decide | simp [up2, gs0])) cw_X11_137 t_3 cl_9 ⟨Nat.le_of_ble_eq_true rfl, Nat.le_of_ble_eq_true rfl⟩ rfl hl.1 rfl (Nat.le_of_ble_eq_true rfl) ⟨Nat.le_of_ble_eq_true rfl, Nat.le_of_ble_eq_true rfl⟩ dX11_ways_5 (fun r_1 σ_1 τ_1 H locs hp hw => ?_)
  obtain ⟨er_1, es_1, et_1⟩ := hp
  obtain rfl := er_1.symm
  obtain rfl := es_1.symm
  obtain rfl := et_1.symm
  refine lv_if_eq (tgt := 31) hx hb dX11_ways_8 (by decide) (fun _ => ?_) (fun h => absurd (by decide) h)
  refine lv_iconst (v := (-1)) hx hb dX11_ways_31 (by decide) ?_
  exact gx_ri (post := fun r σ1 τ1 => r = (-1) ∧ (∀ c k : Nat, 199 ≤ c → σ1 c k = gs0 c k) ∧ True) (v := (-1)) S hr hlk hw rfl dX11_ways_32 ⟨rfl, (fun c9 k9 h9 => rfl), trivial⟩
set_option maxHeartbeats 4000000 in
set_option maxRecDepth 100000 in
theorem c_x_duel (l : Launch) {E : gE} (p b n t w : Int32)  : gx_Mi l yX11_duel cX11_duel 9 (some .int) 1 gx_tb E gs0 gt0 [.ref (E.2.2 + 0), .int p, .int b, .int n, .int t, .int w] (fun r σ1 τ1 => r = (-1) ∧ (∀ c k : Nat, 199 ≤ c → σ1 c k = gs0 c k) ∧ True) := by
  refine gx_bi (by decide +kernel) (Nat.le_of_ble_eq_true rfl) ?_
  intro P9 e9 s m9 below meth C9 S hr hlk hK hw ls hl
  have S : CallFix P9 m9 C9 cX11_duel 9 s _ gx_G RX11 := S
  have hx := S.1
  have hb := S.2.1
  have hl : lv_has ls 9 [(0, .ref (E.2.2 + 0)), (1, .int p), (2, .int b), (3, .int n), (4, .int t), (5, .int w)] := hl
  refine lv_aload_n hx hb dX11_duel_0 rfl (lv_at hl 0 rfl) ?_
  refine gx_getr (j := 3) S hK hw t_0 cl_12 1 (by decide) rfl mw_448 rfl dX11_duel_1 ?_
  refine lv_iload_n hx hb dX11_duel_4 rfl (lv_at hl 1 rfl) ?_
  refine gx_cVi (As := [.int p]) (rest := []) S hK gx_ok hw (c_Town_has l (E := E) gs0 gt0 p (by first | rfl | decide | simp [up2, gs0])) cw_X11_137 t_3 cl_9 ⟨Nat.le_of_ble_eq_true rfl, Nat.le_of_ble_eq_true rfl⟩ rfl hl.1 rfl (Nat.le_of_ble_eq_true rfl) ⟨Nat.le_of_ble_eq_true rfl, Nat.le_of_ble_eq_true rfl⟩ dX11_duel_5 (fun r_1 σ_1 τ_1 H locs hp hw => ?_)
  obtain ⟨er_1, es_1, et_1⟩ := hp
  obtain rfl := er_1.symm
  obtain rfl := es_1.symm
  obtain rfl := et_1.symm
  refine lv_if_eq (tgt := 42) hx hb dX11_duel_8 (by decide) (fun _ => ?_) (fun h => absurd (by decide) h)
  refine lv_iconst (v := (-1)) hx hb dX11_duel_42 (by decide) ?_
  exact gx_ri (post := fun r σ1 τ1 => r = (-1) ∧ (∀ c k : Nat, 199 ≤ c → σ1 c k = gs0 c k) ∧ True) (v := (-1)) S hr hlk hw rfl dX11_duel_43 ⟨rfl, (fun c9 k9 h9 => rfl), trivial⟩
set_option maxHeartbeats 4000000 in
set_option maxRecDepth 100000 in
theorem c_x_cork (l : Launch) {E : gE} (p n t : Int32)  : gx_Mi l yX11_cork cX11_cork 5 (some .int) 1 gx_tb E gs0 gt0 [.ref (E.2.2 + 0), .int p, .int n, .int t] (fun r σ1 τ1 => r = (-1) ∧ (∀ c k : Nat, 199 ≤ c → σ1 c k = gs0 c k) ∧ True) := by
  refine gx_bi (by decide +kernel) (Nat.le_of_ble_eq_true rfl) ?_
  intro P9 e9 s m9 below meth C9 S hr hlk hK hw ls hl
  have S : CallFix P9 m9 C9 cX11_cork 5 s _ gx_G RX11 := S
  have hx := S.1
  have hb := S.2.1
  have hl : lv_has ls 5 [(0, .ref (E.2.2 + 0)), (1, .int p), (2, .int n), (3, .int t)] := hl
  refine lv_iload_n hx hb dX11_cork_0 rfl (lv_at hl 3 rfl) ?_
  refine lv_iconst (v := (-1)) hx hb dX11_cork_1 (by decide) ?_
  refine lv_icmp_eq (tgt := 16) hx hb dX11_cork_2 (by decide) (fun c_1 => ?_) (fun c_1 => ?_)
  · refine lv_iconst (v := 1) hx hb dX11_cork_16 (by decide) ?_
    refine lv_goto (tgt := 21) hx hb dX11_cork_17 (by decide) ?_
    refine lv_istore (lv' := [(4, .int 1), (0, .ref (E.2.2 + 0)), (1, .int p), (2, .int n), (3, .int t)]) hx hb dX11_cork_21 hl (by decide) rfl (fun ls hl => ?_)
    refine lv_aload_n hx hb dX11_cork_23 rfl (lv_at hl 1 rfl) ?_
    refine gx_getr (j := 3) S hK hw t_0 cl_12 1 (by decide) rfl mw_448 rfl dX11_cork_24 ?_
    refine lv_iload_n hx hb dX11_cork_27 rfl (lv_at hl 2 rfl) ?_
    refine gx_cVi (As := [.int p]) (rest := []) S hK gx_ok hw (c_Town_has l (E := E) gs0 gt0 p (by first | rfl | decide | simp [up2, gs0])) cw_X11_137 t_3 cl_9 ⟨Nat.le_of_ble_eq_true rfl, Nat.le_of_ble_eq_true rfl⟩ rfl hl.1 rfl (Nat.le_of_ble_eq_true rfl) ⟨Nat.le_of_ble_eq_true rfl, Nat.le_of_ble_eq_true rfl⟩ dX11_cork_28 (fun r_2 σ_2 τ_2 H locs hp hw => ?_)
    obtain ⟨er_2, es_2, et_2⟩ := hp
    obtain rfl := er_2.symm
    obtain rfl := es_2.symm
    obtain rfl := et_2.symm
    refine lv_if_eq (tgt := 46) hx hb dX11_cork_31 (by decide) (fun _ => ?_) (fun h => absurd (by decide) h)
    refine lv_iconst (v := (-1)) hx hb dX11_cork_46 (by decide) ?_
    exact gx_ri (post := fun r σ1 τ1 => r = (-1) ∧ (∀ c k : Nat, 199 ≤ c → σ1 c k = gs0 c k) ∧ True) (v := (-1)) S hr hlk hw rfl dX11_cork_47 ⟨rfl, (fun c9 k9 h9 => rfl), trivial⟩
  · refine lv_aload_n hx hb dX11_cork_5 rfl (lv_at hl 0 rfl) ?_
    refine gx_getr (j := 3) S hK hw t_0 cl_12 1 (by decide) rfl mw_448 rfl dX11_cork_6 ?_
    refine lv_iload_n hx hb dX11_cork_9 rfl (lv_at hl 3 rfl) ?_
    refine gx_cVi (As := [.int t]) (rest := []) S hK gx_ok hw (c_Town_isKitchen l (E := E) gs0 gt0 t (by first | rfl | decide | simp [up2, gs0])) cw_X11_234 t_3 cl_9 ⟨Nat.le_of_ble_eq_true rfl, Nat.le_of_ble_eq_true rfl⟩ rfl hl.1 rfl (Nat.le_of_ble_eq_true rfl) ⟨Nat.le_of_ble_eq_true rfl, Nat.le_of_ble_eq_true rfl⟩ dX11_cork_10 (fun r_3 σ_3 τ_3 H locs hp hw => ?_)
    obtain ⟨er_3, es_3, et_3⟩ := hp
    obtain rfl := er_3.symm
    obtain rfl := es_3.symm
    obtain rfl := et_3.symm
    refine lv_if_eq (tgt := 20) hx hb dX11_cork_13 (by decide) (fun _ => ?_) (fun h => absurd (by decide) h)
    refine lv_iconst (v := 0) hx hb dX11_cork_20 (by decide) ?_
    refine lv_istore (lv' := [(4, .int 0), (0, .ref (E.2.2 + 0)), (1, .int p), (2, .int n), (3, .int t)]) hx hb dX11_cork_21 hl (by decide) rfl (fun ls hl => ?_)
    refine lv_aload_n hx hb dX11_cork_23 rfl (lv_at hl 1 rfl) ?_
    refine gx_getr (j := 3) S hK hw t_0 cl_12 1 (by decide) rfl mw_448 rfl dX11_cork_24 ?_
    refine lv_iload_n hx hb dX11_cork_27 rfl (lv_at hl 2 rfl) ?_
    refine gx_cVi (As := [.int p]) (rest := []) S hK gx_ok hw (c_Town_has l (E := E) gs0 gt0 p (by first | rfl | decide | simp [up2, gs0])) cw_X11_137 t_3 cl_9 ⟨Nat.le_of_ble_eq_true rfl, Nat.le_of_ble_eq_true rfl⟩ rfl hl.1 rfl (Nat.le_of_ble_eq_true rfl) ⟨Nat.le_of_ble_eq_true rfl, Nat.le_of_ble_eq_true rfl⟩ dX11_cork_28 (fun r_4 σ_4 τ_4 H locs hp hw => ?_)
    obtain ⟨er_4, es_4, et_4⟩ := hp
    obtain rfl := er_4.symm
    obtain rfl := es_4.symm
    obtain rfl := et_4.symm
    refine lv_if_eq (tgt := 46) hx hb dX11_cork_31 (by decide) (fun _ => ?_) (fun h => absurd (by decide) h)
    refine lv_iconst (v := (-1)) hx hb dX11_cork_46 (by decide) ?_
    exact gx_ri (post := fun r σ1 τ1 => r = (-1) ∧ (∀ c k : Nat, 199 ≤ c → σ1 c k = gs0 c k) ∧ True) (v := (-1)) S hr hlk hw rfl dX11_cork_47 ⟨rfl, (fun c9 k9 h9 => rfl), trivial⟩
set_option maxHeartbeats 4000000 in
set_option maxRecDepth 100000 in
theorem c_x_forget (l : Launch) {E : gE}   : gx_Mi l yX11_forget cX11_forget 2 (some .int) 0 gx_tb E gs0 gt0 [.ref (E.2.2 + 0)] (fun r σ1 τ1 => r = 0 ∧ (∀ c k : Nat, 199 ≤ c → σ1 c k = gs0 c k) ∧ True) := by
  refine gx_bi (by decide +kernel) (Nat.le_of_ble_eq_true rfl) ?_
  intro P9 e9 s m9 below meth C9 S hr hlk hK hw ls hl
  have S : CallFix P9 m9 C9 cX11_forget 2 s _ gx_G RX11 := S
  have hx := S.1
  have hb := S.2.1
  have hl : lv_has ls 2 [(0, .ref (E.2.2 + 0))] := hl
  refine lv_aload_n hx hb dX11_forget_0 rfl (lv_at hl 0 rfl) ?_
  refine gx_getr (j := 152) S hK hw t_0 cl_12 12 (by decide) rfl mw_459 rfl dX11_forget_1 ?_
  refine gx_get S hK hw t_152 cl_1 3 (by decide) rfl mw_340 rfl dX11_forget_4 ?_
  refine gx_top (v := 0) (by first | rfl | decide | simp [up2, gs0]) ?_
  refine lv_istore_n (lv' := [(1, .int 0), (0, .ref (E.2.2 + 0))]) hx hb dX11_forget_7 rfl hl (by decide) rfl (fun ls hl => ?_)
  refine lv_aload_n hx hb dX11_forget_8 rfl (lv_at hl 1 rfl) ?_
  refine gx_getr (j := 152) S hK hw t_0 cl_12 12 (by decide) rfl mw_459 rfl dX11_forget_9 ?_
  refine lv_iconst (v := 0) hx hb dX11_forget_12 (by decide) ?_
  refine gx_put S hK gx_ok hw t_152 cl_1 3 (by decide) rfl mw_340 rfl rfl (ty := .int) (v := 0) (by decide +kernel) rfl rfl dX11_forget_13 (fun H locs hw => ?_)
  refine lv_iload_n hx hb dX11_forget_16 rfl (lv_at hl 0 rfl) ?_
  exact gx_ri (post := fun r σ1 τ1 => r = 0 ∧ (∀ c k : Nat, 199 ≤ c → σ1 c k = gs0 c k) ∧ True) (v := 0) S hr hlk hw rfl dX11_forget_17 ⟨rfl, (fun c9 k9 h9 => (up2_hi (by omega) h9).trans (rfl)), trivial⟩
set_option maxHeartbeats 4000000 in
set_option maxRecDepth 100000 in
theorem c_x_maps (l : Launch) {E : gE}   : gx_Mi l yX11_maps cX11_maps 7 (some .int) 3 gx_tb E gs0 gt0 [.ref (E.2.2 + 0)] (fun r σ1 τ1 => r = 1 ∧ (∀ c k : Nat, 199 ≤ c → σ1 c k = gs0 c k) ∧ True) := by
  refine gx_bi (by decide +kernel) (Nat.le_of_ble_eq_true rfl) ?_
  intro P9 e9 s m9 below meth C9 S hr hlk hK hw ls hl
  have S : CallFix P9 m9 C9 cX11_maps 7 s _ gx_G RX11 := S
  have hx := S.1
  have hb := S.2.1
  have hl : lv_has ls 7 [(0, .ref (E.2.2 + 0))] := hl
  refine lv_aload_n hx hb dX11_maps_0 rfl (lv_at hl 0 rfl) ?_
  refine gx_cVv (As := []) (rest := []) S hK gx_ok hw (c_findFits l (E := E) gs0 gt0 (by first | rfl | decide | simp [up2, gs0]) (by first | rfl | decide | simp [up2, gs0]) (by first | rfl | decide | simp [up2, gs0])) cw_X11_372 t_0 cl_12 ⟨Nat.le_of_ble_eq_true rfl, Nat.le_of_ble_eq_true rfl⟩ rfl hl.1 rfl (Nat.le_of_ble_eq_true rfl) ⟨Nat.le_of_ble_eq_true rfl, Nat.le_of_ble_eq_true rfl⟩ dX11_maps_1 (fun σ_1 τ_1 H locs hp hw => ?_)
  obtain ⟨es_1, et_1⟩ := hp
  obtain rfl := es_1.symm
  obtain rfl := et_1.symm
  refine lv_iconst (v := 0) hx hb dX11_maps_4 (by decide) ?_
  refine lv_istore_n (lv' := [(1, .int 0), (0, .ref (E.2.2 + 0))]) hx hb dX11_maps_5 rfl hl (by decide) rfl (fun ls hl => ?_)
  refine lv_iconst (v := (-1)) hx hb dX11_maps_6 (by decide) ?_
  refine lv_istore_n (lv' := [(2, .int (-1)), (1, .int 0), (0, .ref (E.2.2 + 0))]) hx hb dX11_maps_7 rfl hl (by decide) rfl (fun ls hl => ?_)
  refine lv_aload_n hx hb dX11_maps_8 rfl (lv_at hl 2 rfl) ?_
  refine gx_getr (j := 3) S hK hw t_0 cl_12 1 (by decide) rfl mw_448 rfl dX11_maps_9 ?_
  refine gx_get S hK hw t_3 cl_9 7 (by decide) rfl mw_158 rfl dX11_maps_12 ?_
  refine gx_top (v := 0) (by first | rfl | decide | simp [up2, gs0]) ?_
  refine lv_istore_n (lv' := [(3, .int 0), (2, .int (-1)), (1, .int 0), (0, .ref (E.2.2 + 0))]) hx hb dX11_maps_15 rfl hl (by decide) rfl (fun ls hl => ?_)
  refine lv_aload_n hx hb dX11_maps_16 rfl (lv_at hl 3 rfl) ?_
  refine gx_getr (j := 3) S hK hw t_0 cl_12 1 (by decide) rfl mw_448 rfl dX11_maps_17 ?_
  refine gx_get S hK hw t_3 cl_9 7 (by decide) rfl mw_158 rfl dX11_maps_20 ?_
  refine gx_top (v := 0) (by first | rfl | decide | simp [up2, gs0]) ?_
  refine lv_istore (lv' := [(4, .int 0), (3, .int 0), (2, .int (-1)), (1, .int 0), (0, .ref (E.2.2 + 0))]) hx hb dX11_maps_23 hl (by decide) rfl (fun ls hl => ?_)
  refine lv_iconst (v := 0) hx hb dX11_maps_25 (by decide) ?_
  refine lv_istore (lv' := [(5, .int 0), (4, .int 0), (3, .int 0), (2, .int (-1)), (1, .int 0), (0, .ref (E.2.2 + 0))]) hx hb dX11_maps_26 hl (by decide) rfl (fun ls hl => ?_)
  refine lv_iconst (v := 0) hx hb dX11_maps_28 (by decide) ?_
  refine lv_istore (lv' := [(6, .int 0), (5, .int 0), (4, .int 0), (3, .int 0), (2, .int (-1)), (1, .int 0), (0, .ref (E.2.2 + 0))]) hx hb dX11_maps_29 hl (by decide) rfl (fun ls hl => ?_)
  refine lv_iload hx hb dX11_maps_31 (lv_at hl 0 rfl) ?_
  refine lv_aload_n hx hb dX11_maps_33 rfl (lv_at hl 6 rfl) ?_
  refine gx_getr (j := 3) S hK hw t_0 cl_12 1 (by decide) rfl mw_448 rfl dX11_maps_34 ?_
  refine gx_get S hK hw t_3 cl_9 8 (by decide) rfl mw_161 rfl dX11_maps_37 ?_
  refine gx_top (v := 1) (by first | rfl | decide | simp [up2, gs0]) ?_
  refine lv_icmp_ge (tgt := 101) hx hb dX11_maps_40 (by decide) (fun h => absurd h (by decide)) (fun _ => ?_)
  refine lv_aload_n hx hb dX11_maps_43 rfl (lv_at hl 6 rfl) ?_
  refine gx_getr (j := 160) S hK hw t_0 cl_12 15 (by decide) rfl mw_462 rfl dX11_maps_44 ?_
  refine lv_iload hx hb dX11_maps_47 (lv_at hl 1 rfl) ?_
  refine gx_cVi (As := [.int 0]) (rest := []) S hK gx_ok hw (c_fits l (E := E) (up2 gs0 162 0 1) gt0 (by first | rfl | decide | simp [up2, gs0])) cw_X11_378 t_160 cl_10 ⟨Nat.le_of_ble_eq_true rfl, Nat.le_of_ble_eq_true rfl⟩ rfl hl.1 rfl (Nat.le_of_ble_eq_true rfl) ⟨Nat.le_of_ble_eq_true rfl, Nat.le_of_ble_eq_true rfl⟩ dX11_maps_49 (fun r_2 σ_2 τ_2 H locs hp hw => ?_)
  obtain ⟨er_2, es_2, et_2⟩ := hp
  obtain rfl := er_2.symm
  obtain rfl := es_2.symm
  obtain rfl := et_2.symm
  refine lv_if_eq (tgt := 84) hx hb dX11_maps_52 (by decide) (fun h => absurd h (by decide)) (fun _ => ?_)
  refine lv_iinc (v := 1) (lv' := [(1, .int 1), (6, .int 0), (5, .int 0), (4, .int 0), (3, .int 0), (2, .int (-1)), (0, .ref (E.2.2 + 0))]) hx hb dX11_maps_55 hl (k := 5) rfl (by decide) (by decide) rfl (fun ls hl => ?_)
  refine lv_iload_n hx hb dX11_maps_58 rfl (lv_at hl 5 rfl) ?_
  refine lv_iconst (v := (-1)) hx hb dX11_maps_59 (by decide) ?_
  refine lv_icmp_ne (tgt := 68) hx hb dX11_maps_60 (by decide) (fun h => absurd (by decide) h) (fun _ => ?_)
  refine lv_iload hx hb dX11_maps_63 (lv_at hl 2 rfl) ?_
  refine lv_goto (tgt := 69) hx hb dX11_maps_65 (by decide) ?_
  refine lv_istore_n (lv' := [(2, .int 0), (1, .int 1), (6, .int 0), (5, .int 0), (4, .int 0), (3, .int 0), (0, .ref (E.2.2 + 0))]) hx hb dX11_maps_69 rfl hl (by decide) rfl (fun ls hl => ?_)
  refine lv_iload_n hx hb dX11_maps_70 rfl (lv_at hl 5 rfl) ?_
  refine lv_iload hx hb dX11_maps_71 (lv_at hl 3 rfl) ?_
  refine lv_iand hx hb dX11_maps_73 ?_
  refine gx_top (v := 0) (by decide) ?_
  refine lv_istore_n (lv' := [(3, .int 0), (2, .int 0), (1, .int 1), (6, .int 0), (5, .int 0), (4, .int 0), (0, .ref (E.2.2 + 0))]) hx hb dX11_maps_74 rfl hl (by decide) rfl (fun ls hl => ?_)
  refine lv_iload hx hb dX11_maps_75 (lv_at hl 5 rfl) ?_
  refine lv_iload hx hb dX11_maps_77 (lv_at hl 4 rfl) ?_
  refine lv_iconst (v := (-1)) hx hb dX11_maps_79 (by decide) ?_
  refine lv_ixor hx hb dX11_maps_80 ?_
  refine gx_top (v := (-1)) (by decide) ?_
  refine lv_iand hx hb dX11_maps_81 ?_
  refine gx_top (v := 0) (by decide) ?_
  refine lv_istore (lv' := [(4, .int 0), (3, .int 0), (2, .int 0), (1, .int 1), (6, .int 0), (5, .int 0), (0, .ref (E.2.2 + 0))]) hx hb dX11_maps_82 hl (by decide) rfl (fun ls hl => ?_)
  refine lv_aload_n hx hb dX11_maps_84 rfl (lv_at hl 6 rfl) ?_
  refine gx_getr (j := 3) S hK hw t_0 cl_12 1 (by decide) rfl mw_448 rfl dX11_maps_85 ?_
  refine lv_iload hx hb dX11_maps_88 (lv_at hl 5 rfl) ?_
  refine gx_cVi (As := [.int 0]) (rest := []) S hK gx_ok hw (c_Town_nextSet l (E := E) (up2 gs0 162 0 1) gt0 (by first | rfl | decide | simp [up2, gs0])) cw_X11_359 t_3 cl_9 ⟨Nat.le_of_ble_eq_true rfl, Nat.le_of_ble_eq_true rfl⟩ rfl hl.1 rfl (Nat.le_of_ble_eq_true rfl) ⟨Nat.le_of_ble_eq_true rfl, Nat.le_of_ble_eq_true rfl⟩ dX11_maps_90 (fun r_3 σ_3 τ_3 H locs hp hw => ?_)
  obtain ⟨er_3, es_3, et_3⟩ := hp
  obtain rfl := er_3.symm
  obtain rfl := es_3.symm
  obtain rfl := et_3.symm
  refine lv_istore (lv' := [(5, .int 0), (4, .int 0), (3, .int 0), (2, .int 0), (1, .int 1), (6, .int 0), (0, .ref (E.2.2 + 0))]) hx hb dX11_maps_93 hl (by decide) rfl (fun ls hl => ?_)
  refine lv_iinc (v := 1) (lv' := [(6, .int 1), (5, .int 0), (4, .int 0), (3, .int 0), (2, .int 0), (1, .int 1), (0, .ref (E.2.2 + 0))]) hx hb dX11_maps_95 hl (k := 5) rfl (by decide) (by decide) rfl (fun ls hl => ?_)
  refine lv_goto (tgt := 31) hx hb dX11_maps_98 (by decide) ?_
  refine lv_iload hx hb dX11_maps_31 (lv_at hl 0 rfl) ?_
  refine lv_aload_n hx hb dX11_maps_33 rfl (lv_at hl 6 rfl) ?_
  refine gx_getr (j := 3) S hK hw t_0 cl_12 1 (by decide) rfl mw_448 rfl dX11_maps_34 ?_
  refine gx_get S hK hw t_3 cl_9 8 (by decide) rfl mw_161 rfl dX11_maps_37 ?_
  refine gx_top (v := 1) (by first | rfl | decide | simp [up2, gs0]) ?_
  refine lv_icmp_ge (tgt := 101) hx hb dX11_maps_40 (by decide) (fun _ => ?_) (fun h => absurd (by decide) h)
  refine lv_aload_n hx hb dX11_maps_101 rfl (lv_at hl 6 rfl) ?_
  refine gx_getr (j := 156) S hK hw t_0 cl_12 13 (by decide) rfl mw_460 rfl dX11_maps_102 ?_
  refine lv_iload_n hx hb dX11_maps_105 rfl (lv_at hl 4 rfl) ?_
  refine lv_i2l (v := 0) hx hb dX11_maps_106 (by decide) ?_
  refine lv_iload_n hx hb dX11_maps_107 rfl (lv_at hl 3 rfl) ?_
  refine lv_i2l (v := 0) hx hb dX11_maps_108 (by decide) ?_
  refine lv_iload hx hb dX11_maps_109 (lv_at hl 2 rfl) ?_
  refine lv_i2l (v := 0) hx hb dX11_maps_111 (by decide) ?_
  refine gx_cVv (As := [.long 0, .long 0, .long 0]) (rest := []) S hK gx_ok hw (c_tell3 l (E := E) (up2 gs0 162 0 1) gt0 0 0 0 ) cw_X11_300 t_156 cl_5 ⟨Nat.le_of_ble_eq_true rfl, Nat.le_of_ble_eq_true rfl⟩ rfl hl.1 rfl (Nat.le_of_ble_eq_true rfl) ⟨Nat.le_of_ble_eq_true rfl, Nat.le_of_ble_eq_true rfl⟩ dX11_maps_112 (fun σ_4 τ_4 H locs hp hw => ?_)
  obtain ⟨es_4, -⟩ := hp
  obtain rfl := es_4.symm
  refine lv_iload_n hx hb dX11_maps_115 rfl (lv_at hl 5 rfl) ?_
  exact gx_ri (post := fun r σ1 τ1 => r = 1 ∧ (∀ c k : Nat, 199 ≤ c → σ1 c k = gs0 c k) ∧ True) (v := 1) S hr hlk hw rfl dX11_maps_116 ⟨rfl, (fun c9 k9 h9 => (up2_hi (by omega) h9).trans ((up2_hi (by omega) h9).trans (rfl))), trivial⟩
set_option maxHeartbeats 4000000 in
set_option maxRecDepth 100000 in
theorem c_x_next (l : Launch) {E : gE} (n : Int32)  : gx_Mi l yX11_next cX11_next 6 (some .int) 0 gx_tb E gs0 gt0 [.ref (E.2.2 + 0), .int n] (fun r σ1 τ1 => r = (-1) ∧ (∀ c k : Nat, 199 ≤ c → σ1 c k = gs0 c k) ∧ True) := by
  refine gx_bi (by decide +kernel) (Nat.le_of_ble_eq_true rfl) ?_
  intro P9 e9 s m9 below meth C9 S hr hlk hK hw ls hl
  have S : CallFix P9 m9 C9 cX11_next 6 s _ gx_G RX11 := S
  have hx := S.1
  have hb := S.2.1
  have hl : lv_has ls 6 [(0, .ref (E.2.2 + 0)), (1, .int n)] := hl
  refine lv_aload_n hx hb dX11_next_0 rfl (lv_at hl 0 rfl) ?_
  refine gx_getr (j := 3) S hK hw t_0 cl_12 1 (by decide) rfl mw_448 rfl dX11_next_1 ?_
  refine gx_get S hK hw t_3 cl_9 6 (by decide) rfl mw_155 rfl dX11_next_4 ?_
  refine gx_top (v := 0) (by first | rfl | decide | simp [up2, gs0]) ?_
  refine lv_if_eq (tgt := 17) hx hb dX11_next_7 (by decide) (fun _ => ?_) (fun h => absurd (by decide) h)
  refine lv_iconst (v := (-1)) hx hb dX11_next_17 (by decide) ?_
  exact gx_ri (post := fun r σ1 τ1 => r = (-1) ∧ (∀ c k : Nat, 199 ≤ c → σ1 c k = gs0 c k) ∧ True) (v := (-1)) S hr hlk hw rfl dX11_next_18 ⟨rfl, (fun c9 k9 h9 => rfl), trivial⟩
set_option maxHeartbeats 4000000 in
set_option maxRecDepth 100000 in
theorem c_x_odds (l : Launch) {E : gE} (i n p : Int32)  : gx_Mi l yX11_odds cX11_odds 10 (some .int) 1 gx_tb E gs0 gt0 [.ref (E.2.2 + 0), .int i, .int n, .int p] (fun r σ1 τ1 => r = (-1) ∧ (∀ c k : Nat, 199 ≤ c → σ1 c k = gs0 c k) ∧ True) := by
  refine gx_bi (by decide +kernel) (Nat.le_of_ble_eq_true rfl) ?_
  intro P9 e9 s m9 below meth C9 S hr hlk hK hw ls hl
  have S : CallFix P9 m9 C9 cX11_odds 10 s _ gx_G RX11 := S
  have hx := S.1
  have hb := S.2.1
  have hl : lv_has ls 10 [(0, .ref (E.2.2 + 0)), (1, .int i), (2, .int n), (3, .int p)] := hl
  refine lv_aload_n hx hb dX11_odds_0 rfl (lv_at hl 0 rfl) ?_
  refine gx_getr (j := 30) S hK hw t_0 cl_12 7 (by decide) rfl mw_454 rfl dX11_odds_1 ?_
  refine lv_iload_n hx hb dX11_odds_4 rfl (lv_at hl 1 rfl) ?_
  refine gx_cVi (As := [.int i]) (rest := []) S hK gx_ok hw (c_Scene_has l (E := E) gs0 gt0 30 i (by first | rfl | decide | simp [up2, gs0]) (by first | rfl | decide | simp [up2, gs0])) cw_X11_172 t_30 cl_7 ⟨Nat.le_of_ble_eq_true rfl, Nat.le_of_ble_eq_true rfl⟩ rfl hl.1 rfl (Nat.le_of_ble_eq_true rfl) ⟨Nat.le_of_ble_eq_true rfl, Nat.le_of_ble_eq_true rfl⟩ dX11_odds_5 (fun r_1 σ_1 τ_1 H locs hp hw => ?_)
  obtain ⟨er_1, es_1, et_1⟩ := hp
  obtain rfl := er_1.symm
  obtain rfl := es_1.symm
  obtain rfl := et_1.symm
  refine lv_if_eq (tgt := 31) hx hb dX11_odds_8 (by decide) (fun _ => ?_) (fun h => absurd (by decide) h)
  refine lv_iconst (v := (-1)) hx hb dX11_odds_31 (by decide) ?_
  exact gx_ri (post := fun r σ1 τ1 => r = (-1) ∧ (∀ c k : Nat, 199 ≤ c → σ1 c k = gs0 c k) ∧ True) (v := (-1)) S hr hlk hw rfl dX11_odds_32 ⟨rfl, (fun c9 k9 h9 => rfl), trivial⟩
set_option maxHeartbeats 4000000 in
set_option maxRecDepth 100000 in
theorem c_x_marks (l : Launch) {E : gE} (b n t : Int32)  : gx_Mi l yX11_marks cX11_marks 10 (some .int) 1 gx_tb E gs0 gt0 [.ref (E.2.2 + 0), .int b, .int n, .int t] (fun r σ1 τ1 => r = (if 0 ≤ b.toInt ∧ b.toInt ≤ 99 ∧ 0 ≤ n.toInt ∧ n.toInt ≤ 9 ∧ 0 ≤ t.toInt ∧ t.toInt < 4096 then 0 else (-1)) ∧ (∀ c k : Nat, 199 ≤ c → σ1 c k = gs0 c k) ∧ True) := by
  refine gx_bi (by decide +kernel) (Nat.le_of_ble_eq_true rfl) ?_
  intro P9 e9 s m9 below meth C9 S hr hlk hK hw ls hl
  have S : CallFix P9 m9 C9 cX11_marks 10 s _ gx_G RX11 := S
  have hx := S.1
  have hb := S.2.1
  have hl : lv_has ls 10 [(0, .ref (E.2.2 + 0)), (1, .int b), (2, .int n), (3, .int t)] := hl
  refine lv_iload_n hx hb dX11_marks_0 rfl (lv_at hl 1 rfl) ?_
  refine lv_iload_n hx hb dX11_marks_1 rfl (lv_at hl 2 rfl) ?_
  refine gx_cSi (As := [.int b, .int n]) (rest := []) S hK gx_ok hw (c_isLoad l (E := E) gs0 gt0 b n ) cw_X11_227 ⟨Nat.le_of_ble_eq_true rfl, Nat.le_of_ble_eq_true rfl⟩ rfl hl.1 rfl (Nat.le_of_ble_eq_true rfl) ⟨Nat.le_of_ble_eq_true rfl, Nat.le_of_ble_eq_true rfl⟩ dX11_marks_2 (fun r_1 σ_1 τ_1 H locs hp hw => ?_)
  obtain ⟨er_1, es_1, et_1⟩ := hp
  obtain rfl := er_1.symm
  obtain rfl := es_1.symm
  obtain rfl := et_1.symm
  by_cases c_2 : 0 ≤ b.toInt ∧ b.toInt ≤ 99 ∧ 0 ≤ n.toInt ∧ n.toInt ≤ 9
  · refine gx_top (v := 1) (if_pos c_2) ?_
    refine lv_if_eq (tgt := 19) hx hb dX11_marks_5 (by decide) (fun h => absurd h (by decide)) (fun _ => ?_)
    refine lv_iload_n hx hb dX11_marks_8 rfl (lv_at hl 3 rfl) ?_
    refine lv_if_lt (tgt := 19) hx hb dX11_marks_9 (by decide) (fun c_3 => ?_) (fun c_3 => ?_)
    · refine lv_iconst (v := (-1)) hx hb dX11_marks_19 (by decide) ?_
      exact gx_ri (post := fun r σ1 τ1 => r = (if 0 ≤ b.toInt ∧ b.toInt ≤ 99 ∧ 0 ≤ n.toInt ∧ n.toInt ≤ 9 ∧ 0 ≤ t.toInt ∧ t.toInt < 4096 then 0 else (-1)) ∧ (∀ c k : Nat, 199 ≤ c → σ1 c k = gs0 c k) ∧ True) (v := (-1)) S hr hlk hw rfl dX11_marks_20 ⟨(by simp only [fa_lt, fa_le, fa_eq, show (0 : Int32).toInt = 0 from rfl] at c_3; exact ((if_neg (by omega)).trans (rfl)).symm), (fun c9 k9 h9 => rfl), trivial⟩
    · refine lv_iload_n hx hb dX11_marks_12 rfl (lv_at hl 3 rfl) ?_
      refine lv_sipush (v := 4096) hx hb dX11_marks_13 (by decide) ?_
      refine lv_icmp_lt (tgt := 21) hx hb dX11_marks_16 (by decide) (fun c_4 => ?_) (fun c_4 => ?_)
      · refine lv_iconst (v := 0) hx hb dX11_marks_21 (by decide) ?_
        refine lv_istore (lv' := [(4, .int 0), (0, .ref (E.2.2 + 0)), (1, .int b), (2, .int n), (3, .int t)]) hx hb dX11_marks_22 hl (by decide) rfl (fun ls hl => ?_)
        refine lv_iconst (v := 0) hx hb dX11_marks_24 (by decide) ?_
        refine lv_istore (lv' := [(5, .int 0), (4, .int 0), (0, .ref (E.2.2 + 0)), (1, .int b), (2, .int n), (3, .int t)]) hx hb dX11_marks_25 hl (by decide) rfl (fun ls hl => ?_)
        refine lv_iconst (v := (-1)) hx hb dX11_marks_27 (by decide) ?_
        refine lv_istore (lv' := [(6, .int (-1)), (5, .int 0), (4, .int 0), (0, .ref (E.2.2 + 0)), (1, .int b), (2, .int n), (3, .int t)]) hx hb dX11_marks_28 hl (by decide) rfl (fun ls hl => ?_)
        refine lv_iconst (v := 0) hx hb dX11_marks_30 (by decide) ?_
        refine lv_istore (lv' := [(7, .int 0), (6, .int (-1)), (5, .int 0), (4, .int 0), (0, .ref (E.2.2 + 0)), (1, .int b), (2, .int n), (3, .int t)]) hx hb dX11_marks_31 hl (by decide) rfl (fun ls hl => ?_)
        refine lv_iload hx hb dX11_marks_33 (lv_at hl 0 rfl) ?_
        refine lv_aload_n hx hb dX11_marks_35 rfl (lv_at hl 4 rfl) ?_
        refine gx_getr (j := 3) S hK hw t_0 cl_12 1 (by decide) rfl mw_448 rfl dX11_marks_36 ?_
        refine gx_get S hK hw t_3 cl_9 6 (by decide) rfl mw_155 rfl dX11_marks_39 ?_
        refine gx_top (v := 0) (by first | rfl | decide | simp [up2, gs0]) ?_
        refine lv_icmp_ge (tgt := 126) hx hb dX11_marks_42 (by decide) (fun _ => ?_) (fun h => absurd (by decide) h)
        refine lv_iload hx hb dX11_marks_126 (lv_at hl 3 rfl) ?_
        refine lv_if_ne (tgt := 142) hx hb dX11_marks_128 (by decide) (fun h => absurd (by decide) h) (fun _ => ?_)
        refine lv_aload_n hx hb dX11_marks_131 rfl (lv_at hl 4 rfl) ?_
        refine gx_getr (j := 156) S hK hw t_0 cl_12 13 (by decide) rfl mw_460 rfl dX11_marks_132 ?_
        refine lv_lconst (v := 0) hx hb dX11_marks_135 (by decide) ?_
        refine gx_cVv (As := [.long 0]) (rest := []) S hK gx_ok hw (c_tell1 l (E := E) gs0 gt0 0 ) cw_X11_307 t_156 cl_5 ⟨Nat.le_of_ble_eq_true rfl, Nat.le_of_ble_eq_true rfl⟩ rfl hl.1 rfl (Nat.le_of_ble_eq_true rfl) ⟨Nat.le_of_ble_eq_true rfl, Nat.le_of_ble_eq_true rfl⟩ dX11_marks_136 (fun σ_5 τ_5 H locs hp hw => ?_)
        obtain ⟨es_5, -⟩ := hp
        obtain rfl := es_5.symm
        refine lv_goto (tgt := 161) hx hb dX11_marks_139 (by decide) ?_
        refine lv_iload hx hb dX11_marks_161 (lv_at hl 3 rfl) ?_
        exact gx_ri (post := fun r σ1 τ1 => r = (if 0 ≤ b.toInt ∧ b.toInt ≤ 99 ∧ 0 ≤ n.toInt ∧ n.toInt ≤ 9 ∧ 0 ≤ t.toInt ∧ t.toInt < 4096 then 0 else (-1)) ∧ (∀ c k : Nat, 199 ≤ c → σ1 c k = gs0 c k) ∧ True) (v := 0) S hr hlk hw rfl dX11_marks_163 ⟨(by simp only [fa_lt, fa_le, fa_eq, show (0 : Int32).toInt = 0 from rfl, show (4096 : Int32).toInt = 4096 from rfl] at c_3 c_4; exact (if_pos (by omega)).symm), (fun c9 k9 h9 => (up2_hi (by omega) h9).trans (rfl)), trivial⟩
      · refine lv_iconst (v := (-1)) hx hb dX11_marks_19 (by decide) ?_
        exact gx_ri (post := fun r σ1 τ1 => r = (if 0 ≤ b.toInt ∧ b.toInt ≤ 99 ∧ 0 ≤ n.toInt ∧ n.toInt ≤ 9 ∧ 0 ≤ t.toInt ∧ t.toInt < 4096 then 0 else (-1)) ∧ (∀ c k : Nat, 199 ≤ c → σ1 c k = gs0 c k) ∧ True) (v := (-1)) S hr hlk hw rfl dX11_marks_20 ⟨(by simp only [fa_lt, fa_le, fa_eq, show (0 : Int32).toInt = 0 from rfl, show (4096 : Int32).toInt = 4096 from rfl] at c_3 c_4; exact ((if_neg (by omega)).trans (rfl)).symm), (fun c9 k9 h9 => rfl), trivial⟩
  · refine gx_top (v := 0) ((if_neg c_2).trans (rfl)) ?_
    refine lv_if_eq (tgt := 19) hx hb dX11_marks_5 (by decide) (fun _ => ?_) (fun h => absurd (by decide) h)
    refine lv_iconst (v := (-1)) hx hb dX11_marks_19 (by decide) ?_
    exact gx_ri (post := fun r σ1 τ1 => r = (if 0 ≤ b.toInt ∧ b.toInt ≤ 99 ∧ 0 ≤ n.toInt ∧ n.toInt ≤ 9 ∧ 0 ≤ t.toInt ∧ t.toInt < 4096 then 0 else (-1)) ∧ (∀ c k : Nat, 199 ≤ c → σ1 c k = gs0 c k) ∧ True) (v := (-1)) S hr hlk hw rfl dX11_marks_20 ⟨(by exact ((if_neg (by omega)).trans (rfl)).symm), (fun c9 k9 h9 => rfl), trivial⟩
set_option maxHeartbeats 4000000 in
set_option maxRecDepth 100000 in
theorem c_x_order (l : Launch) {E : gE} (i n : Int32)  : gx_Mi l yX11_order cX11_order 7 (some .int) 1 gx_tb E gs0 gt0 [.ref (E.2.2 + 0), .int i, .int n] (fun r σ1 τ1 => r = (-1) ∧ (∀ c k : Nat, 199 ≤ c → σ1 c k = gs0 c k) ∧ True) := by
  refine gx_bi (by decide +kernel) (Nat.le_of_ble_eq_true rfl) ?_
  intro P9 e9 s m9 below meth C9 S hr hlk hK hw ls hl
  have S : CallFix P9 m9 C9 cX11_order 7 s _ gx_G RX11 := S
  have hx := S.1
  have hb := S.2.1
  have hl : lv_has ls 7 [(0, .ref (E.2.2 + 0)), (1, .int i), (2, .int n)] := hl
  refine lv_iload_n hx hb dX11_order_0 rfl (lv_at hl 1 rfl) ?_
  refine lv_iload_n hx hb dX11_order_1 rfl (lv_at hl 2 rfl) ?_
  refine lv_icmp_eq (tgt := 27) hx hb dX11_order_2 (by decide) (fun c_1 => ?_) (fun c_1 => ?_)
  · refine lv_iconst (v := (-1)) hx hb dX11_order_27 (by decide) ?_
    exact gx_ri (post := fun r σ1 τ1 => r = (-1) ∧ (∀ c k : Nat, 199 ≤ c → σ1 c k = gs0 c k) ∧ True) (v := (-1)) S hr hlk hw rfl dX11_order_28 ⟨rfl, (fun c9 k9 h9 => rfl), trivial⟩
  · refine lv_aload_n hx hb dX11_order_5 rfl (lv_at hl 0 rfl) ?_
    refine gx_getr (j := 30) S hK hw t_0 cl_12 7 (by decide) rfl mw_454 rfl dX11_order_6 ?_
    refine lv_iload_n hx hb dX11_order_9 rfl (lv_at hl 1 rfl) ?_
    refine gx_cVi (As := [.int i]) (rest := []) S hK gx_ok hw (c_Scene_isOnWay l (E := E) gs0 gt0 30 i (by first | rfl | decide | simp [up2, gs0]) (by first | rfl | decide | simp [up2, gs0])) cw_X11_241 t_30 cl_7 ⟨Nat.le_of_ble_eq_true rfl, Nat.le_of_ble_eq_true rfl⟩ rfl hl.1 rfl (Nat.le_of_ble_eq_true rfl) ⟨Nat.le_of_ble_eq_true rfl, Nat.le_of_ble_eq_true rfl⟩ dX11_order_10 (fun r_2 σ_2 τ_2 H locs hp hw => ?_)
    obtain ⟨er_2, es_2, et_2⟩ := hp
    obtain rfl := er_2.symm
    obtain rfl := es_2.symm
    obtain rfl := et_2.symm
    refine lv_if_eq (tgt := 27) hx hb dX11_order_13 (by decide) (fun _ => ?_) (fun h => absurd (by decide) h)
    refine lv_iconst (v := (-1)) hx hb dX11_order_27 (by decide) ?_
    exact gx_ri (post := fun r σ1 τ1 => r = (-1) ∧ (∀ c k : Nat, 199 ≤ c → σ1 c k = gs0 c k) ∧ True) (v := (-1)) S hr hlk hw rfl dX11_order_28 ⟨rfl, (fun c9 k9 h9 => rfl), trivial⟩
set_option maxHeartbeats 4000000 in
set_option maxRecDepth 100000 in
theorem c_x_keep (l : Launch) {E : gE} (i : Int32)  : gx_Mi l yX11_keep cX11_keep 2 (some .boolean) 1 gx_tb E gs0 gt0 [.ref (E.2.2 + 0), .int i] (fun r σ1 τ1 => r = (if 0 ≤ i.toInt ∧ i.toInt ≤ 2 then 1 else 0) ∧ (∀ c k : Nat, 199 ≤ c → σ1 c k = gs0 c k) ∧ True) := by
  refine gx_bi (by decide +kernel) (Nat.le_of_ble_eq_true rfl) ?_
  intro P9 e9 s m9 below meth C9 S hr hlk hK hw ls hl
  have S : CallFix P9 m9 C9 cX11_keep 2 s _ gx_G RX11 := S
  have hx := S.1
  have hb := S.2.1
  have hl : lv_has ls 2 [(0, .ref (E.2.2 + 0)), (1, .int i)] := hl
  refine lv_iload_n hx hb dX11_keep_0 rfl (lv_at hl 1 rfl) ?_
  refine lv_if_lt (tgt := 9) hx hb dX11_keep_1 (by decide) (fun c_1 => ?_) (fun c_1 => ?_)
  · refine lv_iconst (v := 0) hx hb dX11_keep_9 (by decide) ?_
    exact gx_ri (post := fun r σ1 τ1 => r = (if 0 ≤ i.toInt ∧ i.toInt ≤ 2 then 1 else 0) ∧ (∀ c k : Nat, 199 ≤ c → σ1 c k = gs0 c k) ∧ True) (v := 0) S hr hlk hw rfl dX11_keep_10 ⟨(by simp only [fa_lt, fa_le, fa_eq, show (0 : Int32).toInt = 0 from rfl] at c_1; exact ((if_neg (by omega)).trans (rfl)).symm), (fun c9 k9 h9 => rfl), trivial⟩
  · refine lv_iload_n hx hb dX11_keep_4 rfl (lv_at hl 1 rfl) ?_
    refine lv_iconst (v := 3) hx hb dX11_keep_5 (by decide) ?_
    refine lv_icmp_lt (tgt := 11) hx hb dX11_keep_6 (by decide) (fun c_2 => ?_) (fun c_2 => ?_)
    · have hsp : i = 0 ∨ i = 1 ∨ i = 2 := by simp only [fa_lt, fa_le, fa_eq, show (0 : Int32).toInt = 0 from rfl, show (1 : Int32).toInt = 1 from rfl, show (2 : Int32).toInt = 2 from rfl, show (3 : Int32).toInt = 3 from rfl] at c_1 c_2 ⊢; omega
      rcases hsp with e_3 | e_4 | e_5
      · have hl : lv_has ls 2 [(0, .ref (E.2.2 + 0)), (1, .int 0)] := by rw [e_3] at hl; exact hl
        refine lv_aload_n hx hb dX11_keep_11 rfl (lv_at hl 0 rfl) ?_
        refine gx_getr (j := 151) S hK hw t_0 cl_12 10 (by decide) rfl mw_457 rfl dX11_keep_12 ?_
        refine lv_iload_n hx hb dX11_keep_15 rfl (lv_at hl 1 rfl) ?_
        refine gx_aald (r := 178) S hK hw t_151 0 rfl (gx_in rfl (by decide) (by decide)) rfl dX11_keep_16 ?_
        refine lv_aload_n hx hb dX11_keep_17 rfl (lv_at hl 0 rfl) ?_
        refine gx_getr (j := 30) S hK hw t_0 cl_12 7 (by decide) rfl mw_454 rfl dX11_keep_18 ?_
        refine gx_cVv (As := [.ref (E.2.2 + 30)]) (rest := []) S hK gx_ok hw (c_Scene_copy l (E := E) gs0 gt0 178 30 (by first | rfl | decide | simp [up2, gs0]) (by first | rfl | decide | simp [up2, gs0]) (by first | rfl | decide | simp [up2, gs0]) (by first | rfl | decide | simp [up2, gs0]) (by first | rfl | decide | simp [up2, gs0]) (by first | rfl | decide | simp [up2, gs0]) (by first | rfl | decide | simp [up2, gs0]) (by first | rfl | decide | simp [up2, gs0]) (by first | rfl | decide | simp [up2, gs0])) cw_X11_270 t_178 cl_7 ⟨Nat.le_of_ble_eq_true rfl, Nat.le_of_ble_eq_true rfl⟩ rfl hl.1 rfl (Nat.le_of_ble_eq_true rfl) ⟨Nat.le_of_ble_eq_true rfl, Nat.le_of_ble_eq_true rfl⟩ dX11_keep_21 (fun σ_6 τ_6 H locs hp hw => ?_)
        obtain ⟨es_6, et_6⟩ := hp
        obtain rfl := es_6.symm
        obtain rfl := et_6.symm
        refine lv_aload_n hx hb dX11_keep_24 rfl (lv_at hl 0 rfl) ?_
        refine lv_dup hx hb dX11_keep_25 rfl ?_
        refine gx_get S hK hw t_0 cl_12 11 (by decide) rfl mw_458 rfl dX11_keep_26 ?_
        refine gx_top (v := 0) (by first | rfl | decide | simp [up2, gs0]) ?_
        refine lv_iconst (v := 1) hx hb dX11_keep_29 (by decide) ?_
        refine lv_iload_n hx hb dX11_keep_30 rfl (lv_at hl 1 rfl) ?_
        refine lv_ishl hx hb dX11_keep_31 ?_
        refine gx_top (v := 1) (by decide) ?_
        refine lv_ior hx hb dX11_keep_32 ?_
        refine gx_top (v := 1) (by decide) ?_
        refine gx_put S hK gx_ok hw t_0 cl_12 11 (by decide) rfl mw_458 rfl rfl (ty := .int) (v := 1) (by decide +kernel) rfl rfl dX11_keep_33 (fun H locs hw => ?_)
        refine lv_iconst (v := 1) hx hb dX11_keep_36 (by decide) ?_
        exact gx_ri (post := fun r σ1 τ1 => r = (if 0 ≤ i.toInt ∧ i.toInt ≤ 2 then 1 else 0) ∧ (∀ c k : Nat, 199 ≤ c → σ1 c k = gs0 c k) ∧ True) (v := 1) S hr hlk hw rfl dX11_keep_37 ⟨(by simp only [fa_lt, fa_le, fa_eq, show (0 : Int32).toInt = 0 from rfl, show (3 : Int32).toInt = 3 from rfl] at c_1 c_2 e_3; exact (if_pos (by omega)).symm), (fun c9 k9 h9 => (up2_hi (by omega) h9).trans ((up2_hi (by omega) h9).trans ((up2_hi (by omega) h9).trans ((up2_hi (by omega) h9).trans ((up2_hi (by omega) h9).trans ((up2_hi (by omega) h9).trans (rfl))))))), trivial⟩
      · have hl : lv_has ls 2 [(0, .ref (E.2.2 + 0)), (1, .int 1)] := by rw [e_4] at hl; exact hl
        refine lv_aload_n hx hb dX11_keep_11 rfl (lv_at hl 0 rfl) ?_
        refine gx_getr (j := 151) S hK hw t_0 cl_12 10 (by decide) rfl mw_457 rfl dX11_keep_12 ?_
        refine lv_iload_n hx hb dX11_keep_15 rfl (lv_at hl 1 rfl) ?_
        refine gx_aald (r := 185) S hK hw t_151 1 rfl (gx_in rfl (by decide) (by decide)) rfl dX11_keep_16 ?_
        refine lv_aload_n hx hb dX11_keep_17 rfl (lv_at hl 0 rfl) ?_
        refine gx_getr (j := 30) S hK hw t_0 cl_12 7 (by decide) rfl mw_454 rfl dX11_keep_18 ?_
        refine gx_cVv (As := [.ref (E.2.2 + 30)]) (rest := []) S hK gx_ok hw (c_Scene_copy l (E := E) gs0 gt0 185 30 (by first | rfl | decide | simp [up2, gs0]) (by first | rfl | decide | simp [up2, gs0]) (by first | rfl | decide | simp [up2, gs0]) (by first | rfl | decide | simp [up2, gs0]) (by first | rfl | decide | simp [up2, gs0]) (by first | rfl | decide | simp [up2, gs0]) (by first | rfl | decide | simp [up2, gs0]) (by first | rfl | decide | simp [up2, gs0]) (by first | rfl | decide | simp [up2, gs0])) cw_X11_270 t_185 cl_7 ⟨Nat.le_of_ble_eq_true rfl, Nat.le_of_ble_eq_true rfl⟩ rfl hl.1 rfl (Nat.le_of_ble_eq_true rfl) ⟨Nat.le_of_ble_eq_true rfl, Nat.le_of_ble_eq_true rfl⟩ dX11_keep_21 (fun σ_7 τ_7 H locs hp hw => ?_)
        obtain ⟨es_7, et_7⟩ := hp
        obtain rfl := es_7.symm
        obtain rfl := et_7.symm
        refine lv_aload_n hx hb dX11_keep_24 rfl (lv_at hl 0 rfl) ?_
        refine lv_dup hx hb dX11_keep_25 rfl ?_
        refine gx_get S hK hw t_0 cl_12 11 (by decide) rfl mw_458 rfl dX11_keep_26 ?_
        refine gx_top (v := 0) (by first | rfl | decide | simp [up2, gs0]) ?_
        refine lv_iconst (v := 1) hx hb dX11_keep_29 (by decide) ?_
        refine lv_iload_n hx hb dX11_keep_30 rfl (lv_at hl 1 rfl) ?_
        refine lv_ishl hx hb dX11_keep_31 ?_
        refine gx_top (v := 2) (by decide) ?_
        refine lv_ior hx hb dX11_keep_32 ?_
        refine gx_top (v := 2) (by decide) ?_
        refine gx_put S hK gx_ok hw t_0 cl_12 11 (by decide) rfl mw_458 rfl rfl (ty := .int) (v := 2) (by decide +kernel) rfl rfl dX11_keep_33 (fun H locs hw => ?_)
        refine lv_iconst (v := 1) hx hb dX11_keep_36 (by decide) ?_
        exact gx_ri (post := fun r σ1 τ1 => r = (if 0 ≤ i.toInt ∧ i.toInt ≤ 2 then 1 else 0) ∧ (∀ c k : Nat, 199 ≤ c → σ1 c k = gs0 c k) ∧ True) (v := 1) S hr hlk hw rfl dX11_keep_37 ⟨(by simp only [fa_lt, fa_le, fa_eq, show (0 : Int32).toInt = 0 from rfl, show (1 : Int32).toInt = 1 from rfl, show (3 : Int32).toInt = 3 from rfl] at c_1 c_2 e_4; exact (if_pos (by omega)).symm), (fun c9 k9 h9 => (up2_hi (by omega) h9).trans ((up2_hi (by omega) h9).trans ((up2_hi (by omega) h9).trans ((up2_hi (by omega) h9).trans ((up2_hi (by omega) h9).trans ((up2_hi (by omega) h9).trans (rfl))))))), trivial⟩
      · have hl : lv_has ls 2 [(0, .ref (E.2.2 + 0)), (1, .int 2)] := by rw [e_5] at hl; exact hl
        refine lv_aload_n hx hb dX11_keep_11 rfl (lv_at hl 0 rfl) ?_
        refine gx_getr (j := 151) S hK hw t_0 cl_12 10 (by decide) rfl mw_457 rfl dX11_keep_12 ?_
        refine lv_iload_n hx hb dX11_keep_15 rfl (lv_at hl 1 rfl) ?_
        refine gx_aald (r := 192) S hK hw t_151 2 rfl (gx_in rfl (by decide) (by decide)) rfl dX11_keep_16 ?_
        refine lv_aload_n hx hb dX11_keep_17 rfl (lv_at hl 0 rfl) ?_
        refine gx_getr (j := 30) S hK hw t_0 cl_12 7 (by decide) rfl mw_454 rfl dX11_keep_18 ?_
        refine gx_cVv (As := [.ref (E.2.2 + 30)]) (rest := []) S hK gx_ok hw (c_Scene_copy l (E := E) gs0 gt0 192 30 (by first | rfl | decide | simp [up2, gs0]) (by first | rfl | decide | simp [up2, gs0]) (by first | rfl | decide | simp [up2, gs0]) (by first | rfl | decide | simp [up2, gs0]) (by first | rfl | decide | simp [up2, gs0]) (by first | rfl | decide | simp [up2, gs0]) (by first | rfl | decide | simp [up2, gs0]) (by first | rfl | decide | simp [up2, gs0]) (by first | rfl | decide | simp [up2, gs0])) cw_X11_270 t_192 cl_7 ⟨Nat.le_of_ble_eq_true rfl, Nat.le_of_ble_eq_true rfl⟩ rfl hl.1 rfl (Nat.le_of_ble_eq_true rfl) ⟨Nat.le_of_ble_eq_true rfl, Nat.le_of_ble_eq_true rfl⟩ dX11_keep_21 (fun σ_8 τ_8 H locs hp hw => ?_)
        obtain ⟨es_8, et_8⟩ := hp
        obtain rfl := es_8.symm
        obtain rfl := et_8.symm
        refine lv_aload_n hx hb dX11_keep_24 rfl (lv_at hl 0 rfl) ?_
        refine lv_dup hx hb dX11_keep_25 rfl ?_
        refine gx_get S hK hw t_0 cl_12 11 (by decide) rfl mw_458 rfl dX11_keep_26 ?_
        refine gx_top (v := 0) (by first | rfl | decide | simp [up2, gs0]) ?_
        refine lv_iconst (v := 1) hx hb dX11_keep_29 (by decide) ?_
        refine lv_iload_n hx hb dX11_keep_30 rfl (lv_at hl 1 rfl) ?_
        refine lv_ishl hx hb dX11_keep_31 ?_
        refine gx_top (v := 4) (by decide) ?_
        refine lv_ior hx hb dX11_keep_32 ?_
        refine gx_top (v := 4) (by decide) ?_
        refine gx_put S hK gx_ok hw t_0 cl_12 11 (by decide) rfl mw_458 rfl rfl (ty := .int) (v := 4) (by decide +kernel) rfl rfl dX11_keep_33 (fun H locs hw => ?_)
        refine lv_iconst (v := 1) hx hb dX11_keep_36 (by decide) ?_
        exact gx_ri (post := fun r σ1 τ1 => r = (if 0 ≤ i.toInt ∧ i.toInt ≤ 2 then 1 else 0) ∧ (∀ c k : Nat, 199 ≤ c → σ1 c k = gs0 c k) ∧ True) (v := 1) S hr hlk hw rfl dX11_keep_37 ⟨(by simp only [fa_lt, fa_le, fa_eq, show (0 : Int32).toInt = 0 from rfl, show (2 : Int32).toInt = 2 from rfl, show (3 : Int32).toInt = 3 from rfl] at c_1 c_2 e_5; exact (if_pos (by omega)).symm), (fun c9 k9 h9 => (up2_hi (by omega) h9).trans ((up2_hi (by omega) h9).trans ((up2_hi (by omega) h9).trans ((up2_hi (by omega) h9).trans ((up2_hi (by omega) h9).trans ((up2_hi (by omega) h9).trans (rfl))))))), trivial⟩
    · refine lv_iconst (v := 0) hx hb dX11_keep_9 (by decide) ?_
      exact gx_ri (post := fun r σ1 τ1 => r = (if 0 ≤ i.toInt ∧ i.toInt ≤ 2 then 1 else 0) ∧ (∀ c k : Nat, 199 ≤ c → σ1 c k = gs0 c k) ∧ True) (v := 0) S hr hlk hw rfl dX11_keep_10 ⟨(by simp only [fa_lt, fa_le, fa_eq, show (0 : Int32).toInt = 0 from rfl, show (3 : Int32).toInt = 3 from rfl] at c_1 c_2; exact ((if_neg (by omega)).trans (rfl)).symm), (fun c9 k9 h9 => rfl), trivial⟩
set_option maxHeartbeats 4000000 in
set_option maxRecDepth 100000 in
theorem c_x_again (l : Launch) {E : gE} (i : Int32)  : gx_Mi l yX11_again cX11_again 2 (some .boolean) 0 gx_tb E gs0 gt0 [.ref (E.2.2 + 0), .int i] (fun r σ1 τ1 => r = 0 ∧ (∀ c k : Nat, 199 ≤ c → σ1 c k = gs0 c k) ∧ True) := by
  refine gx_bi (by decide +kernel) (Nat.le_of_ble_eq_true rfl) ?_
  intro P9 e9 s m9 below meth C9 S hr hlk hK hw ls hl
  have S : CallFix P9 m9 C9 cX11_again 2 s _ gx_G RX11 := S
  have hx := S.1
  have hb := S.2.1
  have hl : lv_has ls 2 [(0, .ref (E.2.2 + 0)), (1, .int i)] := hl
  refine lv_iload_n hx hb dX11_again_0 rfl (lv_at hl 1 rfl) ?_
  refine lv_if_lt (tgt := 20) hx hb dX11_again_1 (by decide) (fun c_1 => ?_) (fun c_1 => ?_)
  · refine lv_iconst (v := 0) hx hb dX11_again_20 (by decide) ?_
    exact gx_ri (post := fun r σ1 τ1 => r = 0 ∧ (∀ c k : Nat, 199 ≤ c → σ1 c k = gs0 c k) ∧ True) (v := 0) S hr hlk hw rfl dX11_again_21 ⟨rfl, (fun c9 k9 h9 => rfl), trivial⟩
  · refine lv_iload_n hx hb dX11_again_4 rfl (lv_at hl 1 rfl) ?_
    refine lv_iconst (v := 3) hx hb dX11_again_5 (by decide) ?_
    refine lv_icmp_ge (tgt := 20) hx hb dX11_again_6 (by decide) (fun c_2 => ?_) (fun c_2 => ?_)
    · refine lv_iconst (v := 0) hx hb dX11_again_20 (by decide) ?_
      exact gx_ri (post := fun r σ1 τ1 => r = 0 ∧ (∀ c k : Nat, 199 ≤ c → σ1 c k = gs0 c k) ∧ True) (v := 0) S hr hlk hw rfl dX11_again_21 ⟨rfl, (fun c9 k9 h9 => rfl), trivial⟩
    · refine lv_aload_n hx hb dX11_again_9 rfl (lv_at hl 0 rfl) ?_
      refine gx_get S hK hw t_0 cl_12 11 (by decide) rfl mw_458 rfl dX11_again_10 ?_
      refine gx_top (v := 0) (by first | rfl | decide | simp [up2, gs0]) ?_
      refine lv_iload_n hx hb dX11_again_13 rfl (lv_at hl 1 rfl) ?_
      refine lv_ishr hx hb dX11_again_14 ?_
      refine gx_top (v := 0) (by exact gx_0shr _) ?_
      refine lv_iconst (v := 1) hx hb dX11_again_15 (by decide) ?_
      refine lv_iand hx hb dX11_again_16 ?_
      refine gx_top (v := 0) (by decide) ?_
      refine lv_if_ne (tgt := 22) hx hb dX11_again_17 (by decide) (fun h => absurd (by decide) h) (fun _ => ?_)
      refine lv_iconst (v := 0) hx hb dX11_again_20 (by decide) ?_
      exact gx_ri (post := fun r σ1 τ1 => r = 0 ∧ (∀ c k : Nat, 199 ≤ c → σ1 c k = gs0 c k) ∧ True) (v := 0) S hr hlk hw rfl dX11_again_21 ⟨rfl, (fun c9 k9 h9 => rfl), trivial⟩
set_option maxHeartbeats 4000000 in
set_option maxRecDepth 100000 in
theorem c_x_count (l : Launch) {E : gE} (n : Int32)  : gx_Mi l yX11_count cX11_count 2 (some .int) 1 gx_tb E gs0 gt0 [.ref (E.2.2 + 0), .int n] (fun r σ1 τ1 => r = (if 0 ≤ n.toInt ∧ n.toInt ≤ 11 then 0 else (-100)) ∧ (∀ c k : Nat, 199 ≤ c → σ1 c k = gs0 c k) ∧ True) := by
  refine gx_bi (by decide +kernel) (Nat.le_of_ble_eq_true rfl) ?_
  intro P9 e9 s m9 below meth C9 S hr hlk hK hw ls hl
  have S : CallFix P9 m9 C9 cX11_count 2 s _ gx_G RX11 := S
  have hx := S.1
  have hb := S.2.1
  have hl : lv_has ls 2 [(0, .ref (E.2.2 + 0)), (1, .int n)] := hl
  refine lv_iload_n hx hb dX11_count_0 rfl (lv_at hl 1 rfl) ?_
  by_cases c_1 : n = 0
  · refine gx_top (v := 0) c_1 ?_
    refine lv_tableIn (tgt := 64) hx hb dX11_count_1 (by decide) (by decide) rfl (by decide) ?_
    refine lv_aload_n hx hb dX11_count_64 rfl (lv_at hl 0 rfl) ?_
    refine gx_getr (j := 3) S hK hw t_0 cl_12 1 (by decide) rfl mw_448 rfl dX11_count_65 ?_
    refine gx_get S hK hw t_3 cl_9 6 (by decide) rfl mw_155 rfl dX11_count_68 ?_
    refine gx_top (v := 0) (by first | rfl | decide | simp [up2, gs0]) ?_
    exact gx_ri (post := fun r σ1 τ1 => r = (if 0 ≤ n.toInt ∧ n.toInt ≤ 11 then 0 else (-100)) ∧ (∀ c k : Nat, 199 ≤ c → σ1 c k = gs0 c k) ∧ True) (v := 0) S hr hlk hw rfl dX11_count_71 ⟨(by simp only [fa_lt, fa_le, fa_eq, show (0 : Int32).toInt = 0 from rfl] at c_1; exact (if_pos (by omega)).symm), (fun c9 k9 h9 => rfl), trivial⟩
  by_cases c_2 : n = 1
  · refine gx_top (v := 1) c_2 ?_
    refine lv_tableIn (tgt := 72) hx hb dX11_count_1 (by decide) (by decide) rfl (by decide) ?_
    refine lv_aload_n hx hb dX11_count_72 rfl (lv_at hl 0 rfl) ?_
    refine gx_getr (j := 30) S hK hw t_0 cl_12 7 (by decide) rfl mw_454 rfl dX11_count_73 ?_
    refine gx_get S hK hw t_30 cl_7 6 (by decide) rfl mw_272 rfl dX11_count_76 ?_
    refine gx_top (v := 0) (by first | rfl | decide | simp [up2, gs0]) ?_
    exact gx_ri (post := fun r σ1 τ1 => r = (if 0 ≤ n.toInt ∧ n.toInt ≤ 11 then 0 else (-100)) ∧ (∀ c k : Nat, 199 ≤ c → σ1 c k = gs0 c k) ∧ True) (v := 0) S hr hlk hw rfl dX11_count_79 ⟨(by simp only [fa_lt, fa_le, fa_eq, show (1 : Int32).toInt = 1 from rfl] at c_2; exact (if_pos (by omega)).symm), (fun c9 k9 h9 => rfl), trivial⟩
  by_cases c_3 : n = 2
  · refine gx_top (v := 2) c_3 ?_
    refine lv_tableIn (tgt := 80) hx hb dX11_count_1 (by decide) (by decide) rfl (by decide) ?_
    refine lv_aload_n hx hb dX11_count_80 rfl (lv_at hl 0 rfl) ?_
    refine gx_getr (j := 30) S hK hw t_0 cl_12 7 (by decide) rfl mw_454 rfl dX11_count_81 ?_
    refine gx_get S hK hw t_30 cl_7 8 (by decide) rfl mw_280 rfl dX11_count_84 ?_
    refine gx_top (v := 0) (by first | rfl | decide | simp [up2, gs0]) ?_
    exact gx_ri (post := fun r σ1 τ1 => r = (if 0 ≤ n.toInt ∧ n.toInt ≤ 11 then 0 else (-100)) ∧ (∀ c k : Nat, 199 ≤ c → σ1 c k = gs0 c k) ∧ True) (v := 0) S hr hlk hw rfl dX11_count_87 ⟨(by simp only [fa_lt, fa_le, fa_eq, show (2 : Int32).toInt = 2 from rfl] at c_3; exact (if_pos (by omega)).symm), (fun c9 k9 h9 => rfl), trivial⟩
  by_cases c_4 : n = 3
  · refine gx_top (v := 3) c_4 ?_
    refine lv_tableIn (tgt := 88) hx hb dX11_count_1 (by decide) (by decide) rfl (by decide) ?_
    refine lv_aload_n hx hb dX11_count_88 rfl (lv_at hl 0 rfl) ?_
    refine gx_getr (j := 3) S hK hw t_0 cl_12 1 (by decide) rfl mw_448 rfl dX11_count_89 ?_
    refine gx_get S hK hw t_3 cl_9 7 (by decide) rfl mw_158 rfl dX11_count_92 ?_
    refine gx_top (v := 0) (by first | rfl | decide | simp [up2, gs0]) ?_
    exact gx_ri (post := fun r σ1 τ1 => r = (if 0 ≤ n.toInt ∧ n.toInt ≤ 11 then 0 else (-100)) ∧ (∀ c k : Nat, 199 ≤ c → σ1 c k = gs0 c k) ∧ True) (v := 0) S hr hlk hw rfl dX11_count_95 ⟨(by simp only [fa_lt, fa_le, fa_eq, show (3 : Int32).toInt = 3 from rfl] at c_4; exact (if_pos (by omega)).symm), (fun c9 k9 h9 => rfl), trivial⟩
  by_cases c_5 : n = 4
  · refine gx_top (v := 4) c_5 ?_
    refine lv_tableIn (tgt := 96) hx hb dX11_count_1 (by decide) (by decide) rfl (by decide) ?_
    refine lv_aload_n hx hb dX11_count_96 rfl (lv_at hl 0 rfl) ?_
    refine gx_getr (j := 30) S hK hw t_0 cl_12 7 (by decide) rfl mw_454 rfl dX11_count_97 ?_
    refine gx_get S hK hw t_30 cl_7 7 (by decide) rfl mw_276 rfl dX11_count_100 ?_
    refine gx_top (v := 0) (by first | rfl | decide | simp [up2, gs0]) ?_
    exact gx_ri (post := fun r σ1 τ1 => r = (if 0 ≤ n.toInt ∧ n.toInt ≤ 11 then 0 else (-100)) ∧ (∀ c k : Nat, 199 ≤ c → σ1 c k = gs0 c k) ∧ True) (v := 0) S hr hlk hw rfl dX11_count_103 ⟨(by simp only [fa_lt, fa_le, fa_eq, show (4 : Int32).toInt = 4 from rfl] at c_5; exact (if_pos (by omega)).symm), (fun c9 k9 h9 => rfl), trivial⟩
  by_cases c_6 : n = 5
  · refine gx_top (v := 5) c_6 ?_
    refine lv_tableIn (tgt := 104) hx hb dX11_count_1 (by decide) (by decide) rfl (by decide) ?_
    refine lv_aload_n hx hb dX11_count_104 rfl (lv_at hl 0 rfl) ?_
    refine gx_getr (j := 30) S hK hw t_0 cl_12 7 (by decide) rfl mw_454 rfl dX11_count_105 ?_
    refine gx_cVi (As := []) (rest := []) S hK gx_ok hw (c_Scene_onWay l (E := E) gs0 gt0 30 (by first | rfl | decide | simp [up2, gs0]) (by first | rfl | decide | simp [up2, gs0]) (by first | rfl | decide | simp [up2, gs0]) (by first | rfl | decide | simp [up2, gs0])) cw_X11_166 t_30 cl_7 ⟨Nat.le_of_ble_eq_true rfl, Nat.le_of_ble_eq_true rfl⟩ rfl hl.1 rfl (Nat.le_of_ble_eq_true rfl) ⟨Nat.le_of_ble_eq_true rfl, Nat.le_of_ble_eq_true rfl⟩ dX11_count_108 (fun r_7 σ_7 τ_7 H locs hp hw => ?_)
    obtain ⟨er_7, es_7, et_7⟩ := hp
    obtain rfl := er_7.symm
    obtain rfl := es_7.symm
    obtain rfl := et_7.symm
    exact gx_ri (post := fun r σ1 τ1 => r = (if 0 ≤ n.toInt ∧ n.toInt ≤ 11 then 0 else (-100)) ∧ (∀ c k : Nat, 199 ≤ c → σ1 c k = gs0 c k) ∧ True) (v := 0) S hr hlk hw rfl dX11_count_111 ⟨(by simp only [fa_lt, fa_le, fa_eq, show (5 : Int32).toInt = 5 from rfl] at c_6; exact (if_pos (by omega)).symm), (fun c9 k9 h9 => rfl), trivial⟩
  by_cases c_8 : n = 6
  · refine gx_top (v := 6) c_8 ?_
    refine lv_tableIn (tgt := 112) hx hb dX11_count_1 (by decide) (by decide) rfl (by decide) ?_
    refine lv_aload_n hx hb dX11_count_112 rfl (lv_at hl 0 rfl) ?_
    refine gx_getr (j := 30) S hK hw t_0 cl_12 7 (by decide) rfl mw_454 rfl dX11_count_113 ?_
    refine gx_get S hK hw t_30 cl_7 9 (by decide) rfl mw_283 rfl dX11_count_116 ?_
    refine gx_top (v := 0) (by first | rfl | decide | simp [up2, gs0]) ?_
    exact gx_ri (post := fun r σ1 τ1 => r = (if 0 ≤ n.toInt ∧ n.toInt ≤ 11 then 0 else (-100)) ∧ (∀ c k : Nat, 199 ≤ c → σ1 c k = gs0 c k) ∧ True) (v := 0) S hr hlk hw rfl dX11_count_119 ⟨(by simp only [fa_lt, fa_le, fa_eq, show (6 : Int32).toInt = 6 from rfl] at c_8; exact (if_pos (by omega)).symm), (fun c9 k9 h9 => rfl), trivial⟩
  by_cases c_9 : n = 7
  · refine gx_top (v := 7) c_9 ?_
    refine lv_tableIn (tgt := 120) hx hb dX11_count_1 (by decide) (by decide) rfl (by decide) ?_
    refine lv_aload_n hx hb dX11_count_120 rfl (lv_at hl 0 rfl) ?_
    refine gx_getr (j := 30) S hK hw t_0 cl_12 7 (by decide) rfl mw_454 rfl dX11_count_121 ?_
    refine gx_get S hK hw t_30 cl_7 10 (by decide) rfl mw_286 rfl dX11_count_124 ?_
    refine gx_top (v := 0) (by first | rfl | decide | simp [up2, gs0]) ?_
    exact gx_ri (post := fun r σ1 τ1 => r = (if 0 ≤ n.toInt ∧ n.toInt ≤ 11 then 0 else (-100)) ∧ (∀ c k : Nat, 199 ≤ c → σ1 c k = gs0 c k) ∧ True) (v := 0) S hr hlk hw rfl dX11_count_127 ⟨(by simp only [fa_lt, fa_le, fa_eq, show (7 : Int32).toInt = 7 from rfl] at c_9; exact (if_pos (by omega)).symm), (fun c9 k9 h9 => rfl), trivial⟩
  by_cases c_10 : n = 8
  · refine gx_top (v := 8) c_10 ?_
    refine lv_tableIn (tgt := 128) hx hb dX11_count_1 (by decide) (by decide) rfl (by decide) ?_
    refine lv_aload_n hx hb dX11_count_128 rfl (lv_at hl 0 rfl) ?_
    refine gx_getr (j := 44) S hK hw t_0 cl_12 9 (by decide) rfl mw_456 rfl dX11_count_129 ?_
    refine gx_get S hK hw t_44 cl_4 2 (by decide) rfl mw_322 rfl dX11_count_132 ?_
    refine gx_top (v := 0) (by first | rfl | decide | simp [up2, gs0]) ?_
    exact gx_ri (post := fun r σ1 τ1 => r = (if 0 ≤ n.toInt ∧ n.toInt ≤ 11 then 0 else (-100)) ∧ (∀ c k : Nat, 199 ≤ c → σ1 c k = gs0 c k) ∧ True) (v := 0) S hr hlk hw rfl dX11_count_135 ⟨(by simp only [fa_lt, fa_le, fa_eq, show (8 : Int32).toInt = 8 from rfl] at c_10; exact (if_pos (by omega)).symm), (fun c9 k9 h9 => rfl), trivial⟩
  by_cases c_11 : n = 9
  · refine gx_top (v := 9) c_11 ?_
    refine lv_tableIn (tgt := 136) hx hb dX11_count_1 (by decide) (by decide) rfl (by decide) ?_
    refine lv_aload_n hx hb dX11_count_136 rfl (lv_at hl 0 rfl) ?_
    refine gx_getr (j := 152) S hK hw t_0 cl_12 12 (by decide) rfl mw_459 rfl dX11_count_137 ?_
    refine gx_get S hK hw t_152 cl_1 3 (by decide) rfl mw_340 rfl dX11_count_140 ?_
    refine gx_top (v := 0) (by first | rfl | decide | simp [up2, gs0]) ?_
    exact gx_ri (post := fun r σ1 τ1 => r = (if 0 ≤ n.toInt ∧ n.toInt ≤ 11 then 0 else (-100)) ∧ (∀ c k : Nat, 199 ≤ c → σ1 c k = gs0 c k) ∧ True) (v := 0) S hr hlk hw rfl dX11_count_143 ⟨(by simp only [fa_lt, fa_le, fa_eq, show (9 : Int32).toInt = 9 from rfl] at c_11; exact (if_pos (by omega)).symm), (fun c9 k9 h9 => rfl), trivial⟩
  by_cases c_12 : n = 10
  · refine gx_top (v := 10) c_12 ?_
    refine lv_tableIn (tgt := 144) hx hb dX11_count_1 (by decide) (by decide) rfl (by decide) ?_
    refine lv_aload_n hx hb dX11_count_144 rfl (lv_at hl 0 rfl) ?_
    refine gx_getr (j := 156) S hK hw t_0 cl_12 13 (by decide) rfl mw_460 rfl dX11_count_145 ?_
    refine gx_get S hK hw t_156 cl_5 1 (by decide) rfl mw_358 rfl dX11_count_148 ?_
    refine gx_top (v := 0) (by first | rfl | decide | simp [up2, gs0]) ?_
    exact gx_ri (post := fun r σ1 τ1 => r = (if 0 ≤ n.toInt ∧ n.toInt ≤ 11 then 0 else (-100)) ∧ (∀ c k : Nat, 199 ≤ c → σ1 c k = gs0 c k) ∧ True) (v := 0) S hr hlk hw rfl dX11_count_151 ⟨(by simp only [fa_lt, fa_le, fa_eq, show (10 : Int32).toInt = 10 from rfl] at c_12; exact (if_pos (by omega)).symm), (fun c9 k9 h9 => rfl), trivial⟩
  by_cases c_13 : n = 11
  · refine gx_top (v := 11) c_13 ?_
    refine lv_tableIn (tgt := 152) hx hb dX11_count_1 (by decide) (by decide) rfl (by decide) ?_
    refine lv_aload_n hx hb dX11_count_152 rfl (lv_at hl 0 rfl) ?_
    refine gx_getr (j := 1) S hK hw t_0 cl_12 0 (by decide) rfl mw_447 rfl dX11_count_153 ?_
    refine gx_get S hK hw t_1 cl_8 2 (by decide) rfl mw_132 rfl dX11_count_156 ?_
    refine gx_top (v := 0) (by first | rfl | decide | simp [up2, gs0]) ?_
    exact gx_ri (post := fun r σ1 τ1 => r = (if 0 ≤ n.toInt ∧ n.toInt ≤ 11 then 0 else (-100)) ∧ (∀ c k : Nat, 199 ≤ c → σ1 c k = gs0 c k) ∧ True) (v := 0) S hr hlk hw rfl dX11_count_159 ⟨(by simp only [fa_lt, fa_le, fa_eq, show (11 : Int32).toInt = 11 from rfl] at c_13; exact (if_pos (by omega)).symm), (fun c9 k9 h9 => rfl), trivial⟩
  refine lv_tableOut (tgt := 160) hx hb dX11_count_1 (by have t_c_1 := lv_neT (a := 0) c_1 rfl; have t_c_2 := lv_neT (a := 1) c_2 rfl; have t_c_3 := lv_neT (a := 2) c_3 rfl; have t_c_4 := lv_neT (a := 3) c_4 rfl; have t_c_5 := lv_neT (a := 4) c_5 rfl; have t_c_6 := lv_neT (a := 5) c_6 rfl; have t_c_8 := lv_neT (a := 6) c_8 rfl; have t_c_9 := lv_neT (a := 7) c_9 rfl; have t_c_10 := lv_neT (a := 8) c_10 rfl; have t_c_11 := lv_neT (a := 9) c_11 rfl; have t_c_12 := lv_neT (a := 10) c_12 rfl; have t_c_13 := lv_neT (a := 11) c_13 rfl; omega) (by decide) ?_
  refine lv_bipush (v := (-100)) hx hb dX11_count_160 (by decide) ?_
  exact gx_ri (post := fun r σ1 τ1 => r = (if 0 ≤ n.toInt ∧ n.toInt ≤ 11 then 0 else (-100)) ∧ (∀ c k : Nat, 199 ≤ c → σ1 c k = gs0 c k) ∧ True) (v := (-100)) S hr hlk hw rfl dX11_count_162 ⟨(by simp only [fa_lt, fa_le, fa_eq, show (0 : Int32).toInt = 0 from rfl, show (1 : Int32).toInt = 1 from rfl, show (2 : Int32).toInt = 2 from rfl, show (3 : Int32).toInt = 3 from rfl, show (4 : Int32).toInt = 4 from rfl, show (5 : Int32).toInt = 5 from rfl, show (6 : Int32).toInt = 6 from rfl, show (7 : Int32).toInt = 7 from rfl, show (8 : Int32).toInt = 8 from rfl, show (9 : Int32).toInt = 9 from rfl, show (10 : Int32).toInt = 10 from rfl, show (11 : Int32).toInt = 11 from rfl] at c_1 c_2 c_3 c_4 c_5 c_6 c_8 c_9 c_10 c_11 c_12 c_13; exact ((if_neg (by omega)).trans (rfl)).symm), (fun c9 k9 h9 => rfl), trivial⟩
