theorem cl_0 : gx_C 0 RJ0 TJ0 4 := ⟨rfl, gx_mems _ [1699, 1701, 1703, 1705] (by decide +kernel) (by decide +kernel), nmJ0, tyJ0, tyJ0_ok⟩
theorem gw_grow {tb : List gD} {n0 : Nat} {E : gE} {s : State} {σ : gI} {τ : gJ} {H H1 : Heap} {locs : List Loc} (hw : gx_W tb n0 E s σ τ H locs) (z1 : H.size ≤ H1.size) (o1 : ∀ q, q < H.size → H1[q]? = H[q]?) : gx_W tb n0 E s σ τ H1 locs :=
  ⟨hw.1.kept (fun k x hx => o1 x.1 ((hw.1 k x hx).lt)), Nat.le_trans hw.2.1 z1, fun q h1 h2 => (o1 q (Nat.lt_of_lt_of_le h1 hw.2.1)).trans (hw.2.2.1 q h1 h2), hw.2.2.2⟩
theorem va_D1 {A : Nat → Prop} {x : Nat × va_E} (h : A x.1) : va_D A [x] := by
  refine ⟨fun i j p q hi hj hpq => ?_, fun k q hk => ?_⟩
  · have h1 : i < 1 := (List.getElem?_eq_some_iff.mp hi).1
    have h2 : j < 1 := (List.getElem?_eq_some_iff.mp hj).1
    omega
  · have h1 : k < 1 := (List.getElem?_eq_some_iff.mp hk).1
    rw [show k = 0 by omega] at hk
    cases hk
    exact h
set_option maxHeartbeats 4000000 in
set_option maxRecDepth 100000 in
theorem c_Jinit (l : Launch) {E : gE} (o v sz : Nat) : Met l yJ0_init_031fb (Cond.code yJ0_init_031fb cJ0_init_031fb 3 none :: gx_G) (gx_rm 1) (va_Pc [.ref o, .ref v, .int 0] (fun U => U.heap.size = sz ∧ va_P E.1.1 vwCl [(o, .inr (0, [.null, .int 0, .int 0, .int 0]))] U.heap ∧ gx_K E U)) (va_Qv (fun (_ : Unit) => True) (fun _ t => va_P E.1.1 vwCl [(o, .inr (0, [.ref v, .int 0, .int 0, .int 0]))] t.heap) (fun q => q = o ∨ sz ≤ q)) 0 0 (fun q => q = o ∨ sz ≤ q) := by
  refine gx_begin (Qc := fun sz => va_Qv (fun (_ : Unit) => True) (fun _ t => va_P E.1.1 vwCl [(o, .inr (0, [.ref v, .int 0, .int 0, .int 0]))] t.heap) (fun q => q = o ∨ sz ≤ q)) (A := fun sz q => q = o ∨ sz ≤ q) (by decide +kernel) (fun a U h => h.1) (Nat.le_of_ble_eq_true rfl) (fun a U h => h.2.1) ?_
  intro P9 e9 s m9 below meth C9 S hr hlk hnm hv hz ls hl
  obtain ⟨-, -, hP, hK⟩ := hv
  have hx := S.1
  have hb := S.2.1
  have hl : lv_has ls 3 [(0, .ref o), (1, .ref v), (2, .int 0)] := hl
  have hD : va_D (fun q => q = o ∨ s.heap.size ≤ q) [(o, .inr (0, [.null, .int 0, .int 0, .int 0]))] := va_D1 (Or.inl rfl)
  have hS : va_S (fun q => q = o ∨ s.heap.size ≤ q) s.heap s.heap [] := va_S.rf
  refine lv_aload_n hx hb dJ0_init_031fb_0 rfl (lv_at hl 0 rfl) ?_
  refine gx_obj S mw_1696 mw_121 mw_122 hl.1 dJ0_init_031fb_1 ⟨Nat.le_of_ble_eq_true rfl, Nat.le_of_ble_eq_true rfl⟩ ?_
  refine lv_aload_n hx hb dJ0_init_031fb_4 rfl (lv_at hl 0 rfl) ?_
  refine lv_aload_n hx hb dJ0_init_031fb_5 rfl (lv_at hl 1 rfl) ?_
  refine va_putF hx hb S.2.2.2.2 cl_0.2.1 tyJ0 tyJ0_ok nmJ0 S.2.2.2.1 hK.1 hP hD hS 0 rfl cl_0.1 0 (by decide) (S.2.2.2.2 _ mw_1697) (fun _ h => h) rfl hnm rfl (ty := .array .byte) (v := .ref v) (by decide +kernel) rfl rfl (Nat.le_of_ble_eq_true rfl) dJ0_init_031fb_6 (fun H locs hP hD hS => ?_)
  have hP : va_P E.1.1 vwCl [(o, .inr (0, [.ref v, .int 0, .int 0, .int 0]))] H := hP
  have hD : va_D (fun q => q = o ∨ s.heap.size ≤ q) [(o, .inr (0, [.ref v, .int 0, .int 0, .int 0]))] := hD
  refine lv_aload_n hx hb dJ0_init_031fb_9 rfl (lv_at hl 0 rfl) ?_
  refine lv_iload_n hx hb dJ0_init_031fb_10 rfl (lv_at hl 2 rfl) ?_
  refine va_putF hx hb S.2.2.2.2 cl_0.2.1 tyJ0 tyJ0_ok nmJ0 S.2.2.2.1 hK.1 hP hD hS 0 rfl cl_0.1 1 (by decide) (S.2.2.2.2 _ mw_1698) (fun _ h => h) rfl hnm rfl (ty := .byte) (v := .int 0) (by decide +kernel) rfl rfl (Nat.le_of_ble_eq_true rfl) dJ0_init_031fb_11 (fun H locs hP hD hS => ?_)
  exact W.vret S.1 S.2.1 hr (fun t ht _ => ⟨⟨(), rfl, trivial, by subst ht; exact hP⟩, hS.F ht⟩) hS.2.2 dJ0_init_031fb_14 hlk
section CKL
variable {a9 v9 : Nat} {w9 : Value} {P9 : Program} {e9 : Env} {s : State} {m9 : MethodId} {below : List Frame} {meth : Method} {C9 : Code} {E : gE} {av : List Value}
def B_J7_checkLength_df160_0 (N : Nat) (σ : gI) (τ : gJ) (x0 : Int32) (x1 : Int32) : Option (Unit × gI × gJ) := if x0 ≤ x1 then (some ((), σ, τ)) else (none)
set_option maxHeartbeats 4000000 in
set_option maxRecDepth 100000 in
theorem b_J7_checkLength_df160_0 (l : Launch) (S : CallFix P9 m9 C9 cJ7_checkLength_df160 2 s av.toArray gx_G RJ7) (hr : meth.sig.returnType = none) (hlk : meth.locks = false) (hK : gx_K E s) (N : Nat) (σ : gI) (τ : gJ) (x0 : Int32) (x1 : Int32) {r : Unit} {σ1 : gI} {τ1 : gJ} (h : B_J7_checkLength_df160_0 N σ τ x0 x1 = some (r, σ1, τ1)) {H : Heap} {locs : List Loc} {ls : Array Slot} (hw : gx_W gx_tb gx_tb.length E s σ τ H locs) (hl : lv_has ls 2 [(0, .int x0), (1, .int x1)]) : W P9 l e9 (gx_rm 0) s m9 av.toArray below meth C9 H locs 0 0 (gq_Qv below av s E σ1 τ1) (F0 m9 0 ls []) := by
  have hx := S.1
  have hb := S.2.1
  unfold B_J7_checkLength_df160_0 at h
  refine lv_iload_n hx hb dJ7_checkLength_df160_0 rfl (lv_at hl 1 rfl) ?_
  refine lv_iload_n hx hb dJ7_checkLength_df160_1 rfl (lv_at hl 0 rfl) ?_
  refine lv_icmp_ge (tgt := 37) hx hb dJ7_checkLength_df160_2 (by decide) (fun c_1 => ?_) (fun c_1 => ?_)
  · rw [if_pos c_1] at h
    obtain ⟨-, rfl, rfl⟩ := sm_inj h
    exact gx_rv (post := gq_v σ τ) S hr hlk hw dJ7_checkLength_df160_37 ⟨rfl, rfl⟩
  · rw [if_neg c_1] at h
    cases h
set_option maxHeartbeats 4000000 in
set_option maxRecDepth 100000 in
theorem c_J7_checkLength_df160 (l : Launch) {E : gE} (N : Nat) (σ : gI) (τ : gJ) (x0 : Int32) (x1 : Int32) {r : Unit} {σ1 : gI} {τ1 : gJ} (h : B_J7_checkLength_df160_0 N σ τ x0 x1 = some (r, σ1, τ1)) : gx_Mv l yJ7_checkLength_df160 cJ7_checkLength_df160 2 none 0 gx_tb E σ τ [.int x0, .int x1] (gq_v σ1 τ1) := by
  refine gx_bv (by decide +kernel) (Nat.le_of_ble_eq_true rfl) ?_
  intro P9 e9 s m9 below meth C9 S hr hlk hK hw ls hl
  have hl : lv_has ls 2 [(0, .int x0), (1, .int x1)] := hl
  exact b_J7_checkLength_df160_0 l S hr hlk hK N σ τ x0 x1 h hw hl
end CKL
def x19 (x : Int32) : Prop := x = 1 ∨ x = 2 ∨ x = 3 ∨ x = 4 ∨ x = 5 ∨ x = 6 ∨ x = 7 ∨ x = 8 ∨ x = 9
def x09 (x : Int32) : Prop := x = 0 ∨ x19 x
theorem x09_f {x : Int32} (h : x09 x) : ¬ x < 0 ∧ ¬ 10 < x := by
  rcases h with rfl | rfl | rfl | rfl | rfl | rfl | rfl | rfl | rfl | rfl <;> decide
theorem x19_f {x : Int32} (h : x19 x) : ¬ x = 0 ∧ ¬ (10 - x) < 0 ∧ (10 - x).toNatClampNeg = 10 - x.toNatClampNeg ∧ 1 ≤ x.toNatClampNeg ∧ x.toNatClampNeg ≤ 9 ∧ ¬ x < 0 ∧ x ≤ 10 ∧ ¬ (10 - x) = 0 ∧ x + (10 - x) = 10 ∧ ¬ 10 < x := by
  rcases h with rfl | rfl | rfl | rfl | rfl | rfl | rfl | rfl | rfl <;> decide
theorem gw_at {E : gE} {σ : gI} {τ : gJ} {e : Nat × va_E} : (gx_w gx_tb E σ τ ++ [e])[gx_tb.length]? = some e := by
  have h : (gx_w gx_tb E σ τ).length = gx_tb.length := gx_wf_len E σ τ gx_tb 0
  rw [List.getElem?_append_right (by rw [h]; exact Nat.le_refl _), h, Nat.sub_self]
  rfl
theorem gw_set {E : gE} {σ : gI} {τ : gJ} {e e2 : Nat × va_E} : (gx_w gx_tb E σ τ ++ [e]).set gx_tb.length e2 = gx_w gx_tb E σ τ ++ [e2] := by
  have h : (gx_w gx_tb E σ τ).length = gx_tb.length := gx_wf_len E σ τ gx_tb 0
  rw [List.set_append_right _ _ (by rw [h]; exact Nat.le_refl _), h, Nat.sub_self]
  rfl
theorem va_P.lf {D : va_G} {cl : List vw_C} {ws w2 : va_W} {H : Heap} (h : va_P D cl (ws ++ w2) H) : va_P D cl ws H := fun k x hx => h k x (by rw [List.getElem?_append_left (List.getElem?_eq_some_iff.mp hx).1]; exact hx)
def zr_P (E : gE) (σ : gI) (τ : gJ) (bs : List Int32) (a v sz : Nat) (U : State) : Prop := gx_Pre gx_tb E σ τ sz U ∧ zs_A bs a v E U U.heap sz
theorem gx_len_tb {E : gE} {σ : gI} {τ : gJ} {H : Heap} (h : gx_P gx_tb E σ τ H) : E.2.2 + gx_tb.length ≤ H.size := by
  have h1 := (h 233 _ (gx_at (show gx_tb[233]? = some (.inr (1, 1, [])) from rfl))).lt
  have h2 : gx_tb.length = 234 := rfl
  have h3 : E.2.2 + 233 < H.size := h1
  omega
set_option maxHeartbeats 4000000 in
set_option maxRecDepth 100000 in
theorem c_JcopyB (l : Launch) {E : gE} (N : Nat) (σ : gI) (τ : gJ) (bs : List Int32) (hbs : bs.length = 10) (hby : ∀ j : Nat, fits .byte (.int (bs.getD j 0)) = true) (a v sz : Nat) (x : Int32) (h19 : x19 x) : Met l yJ7_copyOfRangeByte_39247 (Cond.code yJ7_copyOfRangeByte_39247 cJ7_copyOfRangeByte_39247 5 (some (.array .byte)) :: gx_G) (gx_rc 2 1 10) (va_Pc [.ref v, .int x, .int 10] (zr_P E σ τ bs a v sz)) ((fun sz => va_Qr (fun (_ : Unit) => True) (fun _ ra t => gx_P gx_tb E σ τ t.heap ∧ sz ≤ ra ∧ va_T .byte ra (10 - x.toNatClampNeg) (fun j => .int (bs.getD (x.toNatClampNeg + j) 0)) (gx_A gx_tb.length E.2.2 t.heap.size) t t.heap) (gx_A gx_tb.length E.2.2 sz)) sz) 1 10 (gx_A gx_tb.length E.2.2 sz) := by
  refine gx_begin (Qc := (fun sz => va_Qr (fun (_ : Unit) => True) (fun _ ra t => gx_P gx_tb E σ τ t.heap ∧ sz ≤ ra ∧ va_T .byte ra (10 - x.toNatClampNeg) (fun j => .int (bs.getD (x.toNatClampNeg + j) 0)) (gx_A gx_tb.length E.2.2 t.heap.size) t t.heap) (gx_A gx_tb.length E.2.2 sz))) (A := fun sz => gx_A gx_tb.length E.2.2 sz) (by decide +kernel) (fun a U h => h.1) (Nat.le_of_ble_eq_true rfl) (fun a U h => h.2.1.1) ?_
  intro P9 e9 s m9 below meth C9 S hr hlk hnm hv hz ls hl
  obtain ⟨-, ⟨-, hP0, hK⟩, hZ⟩ := hv
  rw [← hz] at hZ
  obtain ⟨y1, y2, y3, y4, y5, y6, y7, y8, y9, y10⟩ := x19_f h19
  have hx := S.1
  have hb := S.2.1
  have hw : gx_W gx_tb gx_tb.length E s σ τ s.heap [] := ⟨hP0, va_S.rf⟩
  have hl : lv_has ls 5 [(0, .ref v), (1, .int x), (2, .int 10)] := hl
  refine lv_iload_n hx hb dJ7_copyOfRangeByte_39247_0 rfl (lv_at hl 1 rfl) ?_
  refine lv_iload_n hx hb dJ7_copyOfRangeByte_39247_1 rfl (lv_at hl 2 rfl) ?_
  refine gx_cSv (As := [.int x, .int 10]) (rest := []) S hK gx_ok hw (c_J7_checkLength_df160 l (E := E) N σ τ x 10 (r := ()) (σ1 := σ) (τ1 := τ) (by unfold B_J7_checkLength_df160_0; rw [if_pos y7])) cw_J7_343 ⟨Nat.le_of_ble_eq_true rfl, Nat.le_of_ble_eq_true rfl⟩ rfl hl.1 rfl (Nat.le_of_ble_eq_true rfl) ⟨Nat.le_of_ble_eq_true rfl, Nat.le_of_ble_eq_true rfl⟩ dJ7_copyOfRangeByte_39247_2 (fun σ9 τ9 H locs hp hw => ?_)
  obtain ⟨rfl, rfl⟩ := hp
  refine lv_iload_n hx hb dJ7_copyOfRangeByte_39247_5 rfl (lv_at hl 2 rfl) ?_
  refine lv_iload_n hx hb dJ7_copyOfRangeByte_39247_6 rfl (lv_at hl 1 rfl) ?_
  refine lv_isub hx hb dJ7_copyOfRangeByte_39247_7 ?_
  refine lv_istore_n (lv' := [(3, .int (10 - x)), (0, .ref v), (1, .int x), (2, .int 10)]) hx hb dJ7_copyOfRangeByte_39247_8 rfl hl (by decide) rfl (fun ls hl => ?_)
  refine lv_iload_n hx hb dJ7_copyOfRangeByte_39247_9 rfl (lv_at hl 0 rfl) ?_
  refine va_newaK hx hb (atype := .byte) (S.2.2.2.2 _ mw_680) rfl dJ7_copyOfRangeByte_39247_10 rfl y2 y3 (by show (10 - x.toNatClampNeg) * 1 ≤ _; omega) (Nat.le_of_ble_eq_true rfl) (by show 0 + (10 - x.toNatClampNeg) ≤ 10; omega) rfl fun H1 cA e1 z1 o1 hArr hNm => ?_
  refine W.widen (k := 1) (n := 10) (by omega) (by omega) ?_
  have hw1 := gw_grow hw (by omega : H.size ≤ H1.size) o1
  have hKb : va_K E.1.1 vwCl [(cA, .byte)] s := ⟨hK.1.1, fun k q hk => by
    have h1 : k < 1 := (List.getElem?_eq_some_iff.mp hk).1
    rw [show k = 0 by omega] at hk
    cases hk
    exact ⟨hArr, hNm⟩⟩
  have hPd : va_P E.1.1 vwCl (gx_w gx_tb E σ τ ++ [(H.size, .inl (cA, 10 - x.toNatClampNeg, .inl (fun _ => 0)))]) H1 := hw1.1.app (fun k q hk => by
    have h1 : k < 1 := (List.getElem?_eq_some_iff.mp hk).1
    rw [show k = 0 by omega] at hk
    cases hk
    show H1[H.size]? = some (vp_cell cA (10 - x.toNatClampNeg, .inl (fun _ => 0)))
    rw [vp_cell_i]
    exact e1)
  have hDd : va_D (gx_A gx_tb.length E.2.2 s.heap.size) (gx_w gx_tb E σ τ ++ [(H.size, .inl (cA, 10 - x.toNatClampNeg, .inl (fun _ => 0)))]) := va_D.push (gx_Dn gx_ok) hw.1 rfl (Or.inr hw.2.1)
  refine lv_astore (lv' := [(4, .ref H.size), (3, .int (10 - x)), (0, .ref v), (1, .int x), (2, .int 10)]) hx hb dJ7_copyOfRangeByte_39247_12 hl (by decide) rfl (fun ls hl => ?_)
  refine lv_aload_n hx hb dJ7_copyOfRangeByte_39247_14 rfl (lv_at hl 2 rfl) ?_
  refine lv_iload_n hx hb dJ7_copyOfRangeByte_39247_15 rfl (lv_at hl 3 rfl) ?_
  refine lv_aload hx hb dJ7_copyOfRangeByte_39247_16 (lv_at hl 0 rfl) ?_
  refine lv_iconst (v := 0) hx hb dJ7_copyOfRangeByte_39247_18 (by decide) ?_
  refine lv_aload_n hx hb dJ7_copyOfRangeByte_39247_19 rfl (lv_at hl 2 rfl) ?_
  refine zs_len S hZ hw1 dJ7_copyOfRangeByte_39247_20 ?_
  refine gx_top (v := 10) (by rw [hbs]; rfl) ?_
  refine lv_iload_n hx hb dJ7_copyOfRangeByte_39247_21 rfl (lv_at hl 3 rfl) ?_
  refine lv_isub hx hb dJ7_copyOfRangeByte_39247_22 ?_
  refine lv_iload_n hx hb dJ7_copyOfRangeByte_39247_23 rfl (lv_at hl 1 rfl) ?_
  refine gx_min (w := 10 - x) S hl.1 mw_1682 mw_529 mw_102 mw_530 ⟨Nat.le_of_ble_eq_true rfl, Nat.le_of_ble_eq_true rfl⟩ ⟨Nat.le_of_ble_eq_true rfl, Nat.le_of_ble_eq_true rfl⟩ dJ7_copyOfRangeByte_39247_24 (by simp) ?_
  refine vk_copyt hx hb (S.2.2.1.trans hl.1.symm) S.2.2.2.1 (S.2.2.2.2 _ mw_1683) (S.2.2.2.2 _ mw_1685) (S.2.2.2.2 _ mw_1684) (S.2.2.2.2 _ mw_109) hKb hPd hDd hw1.2 (f := fun j => bs.getD j 0) (hZ.1 0 (by decide)).2.2.2 gx_tb.length 0 gw_at rfl y6 (by decide) y2 (by rw [y3]; show _ ≤ bs.length; omega) (by rw [y3]; show 0 + _ ≤ _; omega) (fun i _ => hby _) (Nat.le_of_ble_eq_true rfl) (Nat.le_of_ble_eq_true rfl) dJ7_copyOfRangeByte_39247_27 (fun H2 locs2 hP2 hD2 hS2 => ?_)
  rw [gw_set] at hP2
  have hc2 := hP2 gx_tb.length _ gw_at
  refine lv_aload hx hb dJ7_copyOfRangeByte_39247_30 (lv_at hl 0 rfl) ?_
  refine W.aret S.1 S.2.1 hr (Or.inr ⟨_, rfl⟩) (Or.inr ⟨_, rfl⟩) (fun t ht hwm => ⟨⟨(), H.size, rfl, trivial, by rw [ht]; exact hP2.lf, hw.2.1, ?_⟩, hS2.F ht⟩) hS2.2.2 dJ7_copyOfRangeByte_39247_32 hlk
  rw [ht]
  have hc3 : H2[H.size]? = some (vp_cell cA (10 - x.toNatClampNeg, .inl (va_cpy (fun j => bs.getD j 0) (fun _ => 0) x.toNatClampNeg (0 : Int32).toNatClampNeg (10 - x).toNatClampNeg))) := hc2
  rw [vp_cell_i] at hc3
  have hlt : H.size < H2.size := (Array.getElem?_eq_some_iff.mp hc3).1
  refine ⟨_, hc3, State.isArrayOf_alike hwm.alike (hArr _ _), (fun h => by cases h), by rw [arrV_size]; exact Nat.le_refl _, by rw [arrV_size], fun j hj => ?_, fun h => ?_⟩
  · rw [arrV_read _ _ hj]
    congr 1
    show Value.int (va_cpy _ _ _ _ _ j) = _
    unfold va_cpy
    rw [if_pos ⟨Nat.zero_le _, by rw [y3]; show j < 0 + _; omega⟩]
    rfl
  · rcases h with h | h
    · have h5 := gx_len_tb hw.1
      omega
    · omega
set_option maxHeartbeats 4000000 in
set_option maxRecDepth 100000 in
theorem c_Jcopy (l : Launch) {E : gE} (N : Nat) (σ : gI) (τ : gJ) (bs : List Int32) (hbs : bs.length = 10) (hby : ∀ j : Nat, fits .byte (.int (bs.getD j 0)) = true) (a v sz : Nat) (x : Int32) (h19 : x19 x) : Met l yJ7_copyOfRange_39247 (Cond.code yJ7_copyOfRange_39247 cJ7_copyOfRange_39247 3 (some (.array .byte)) :: gx_G) (gx_rc 3 1 10) (va_Pc [.ref v, .int x, .int 10] (zr_P E σ τ bs a v sz)) ((fun sz => va_Qr (fun (_ : Unit) => True) (fun _ ra t => gx_P gx_tb E σ τ t.heap ∧ sz ≤ ra ∧ va_T .byte ra (10 - x.toNatClampNeg) (fun j => .int (bs.getD (x.toNatClampNeg + j) 0)) (gx_A gx_tb.length E.2.2 t.heap.size) t t.heap) (gx_A gx_tb.length E.2.2 sz)) sz) 1 10 (gx_A gx_tb.length E.2.2 sz) := by
  refine gx_begin (Qc := (fun sz => va_Qr (fun (_ : Unit) => True) (fun _ ra t => gx_P gx_tb E σ τ t.heap ∧ sz ≤ ra ∧ va_T .byte ra (10 - x.toNatClampNeg) (fun j => .int (bs.getD (x.toNatClampNeg + j) 0)) (gx_A gx_tb.length E.2.2 t.heap.size) t t.heap) (gx_A gx_tb.length E.2.2 sz))) (A := fun sz => gx_A gx_tb.length E.2.2 sz) (by decide +kernel) (fun a U h => h.1) (Nat.le_of_ble_eq_true rfl) (fun a U h => h.2.1.1) ?_
  intro P9 e9 s m9 below meth C9 S hr hlk hnm hv hz ls hl
  obtain ⟨-, ⟨-, hP0, hK⟩, hZ⟩ := hv
  rw [← hz] at hZ
  obtain ⟨y1, y2, y3, y4, y5, y6, y7, y8, y9, y10⟩ := x19_f h19
  have hx := S.1
  have hb := S.2.1
  have hw : gx_W gx_tb gx_tb.length E s σ τ s.heap [] := ⟨hP0, va_S.rf⟩
  have hl : lv_has ls 3 [(0, .ref v), (1, .int x), (2, .int 10)] := hl
  refine lv_iload_n hx hb dJ7_copyOfRange_39247_0 rfl (lv_at hl 1 rfl) ?_
  refine lv_if_ne (tgt := 10) hx hb dJ7_copyOfRange_39247_1 (by decide) (fun _ => ?_) (fun h => absurd h y1)
  refine lv_aload_n hx hb dJ7_copyOfRange_39247_10 rfl (lv_at hl 0 rfl) ?_
  refine lv_iload_n hx hb dJ7_copyOfRange_39247_11 rfl (lv_at hl 1 rfl) ?_
  refine lv_iload_n hx hb dJ7_copyOfRange_39247_12 rfl (lv_at hl 2 rfl) ?_
  refine va_callr (va_runS (As := [.ref v, .int x, .int 10]) (rest := []) S (c_JcopyB l N σ τ bs hbs hby a v s.heap.size x h19) (va_cwS 3 S.2.2.2.2 (gx_goodS cw_J7_339) rfl rfl rfl cw_J7_339.2 ⟨Nat.le_of_ble_eq_true rfl, Nat.le_of_ble_eq_true rfl⟩) ⟨zs_blind, fun U hU hW9 => ⟨rfl, ⟨by rw [hU], by rw [hU]; exact hw.1, gx_K.move hW9 hU hw hK⟩, by rw [hU]; exact vk_S.moved hW9.alike (zs_h hZ hw)⟩⟩ rfl rfl hl.1 rfl (lv_room (Nat.le_of_ble_eq_true rfl)) dJ7_copyOfRange_39247_13 ⟨Nat.le_of_ble_eq_true rfl, Nat.le_of_ble_eq_true rfl⟩) hw.2 (fun q1 _ h => gx_sub gx_ok hw h) (fun q1 h => gx_sub gx_ok hw h) ?_
  intro u ra t H1 locs1 ht hvm hp hB hz1 hk hS
  obtain ⟨hB1, hB2, hB3⟩ := hB
  refine W.aret S.1 S.2.1 hr (Or.inr ⟨_, rfl⟩) (Or.inr ⟨_, rfl⟩) (fun t2 ht2 hwm => ⟨⟨(), ra, rfl, trivial, by rw [ht2, ← ht]; exact hB1, hB2, ?_⟩, hS.F ht2⟩) hS.2.2 dJ7_copyOfRange_39247_16 hlk
  rw [ht2, ← ht]
  exact va_T.moved (hvm.symm.trans hwm.alike) hB3
section GNW
variable {p : Program} {l : Launch} {e : Env} {R : Room} {s : State} {m : MethodId} {args : Array Value} {below : List Frame} {meth : Method} {c : Code} {H : Heap} {locs : List Loc} {cells slots : Nat} {Q : State → Prop} {cc : ByteArray} {pc nL idx : Nat} {ls : Array Slot} {rest : List Value} {own : String} {E : gE}
theorem gn_new (S : CallFix p m c cc nL s args gx_G own) (hK : gx_K E s) {ci N : Nat} {C : String} {T : u_T} (hC : gx_C ci C T N) (ty : Nat → FieldType) (hty : ∀ k, k < N → parseFieldDescriptor (T k).2.2.1 = some (ty k)) (fs : List Value) (hfs : ∀ j, j < N → defaultValue (ty j) = vp_V fs j) (hcl : Cond.classLink own idx C ∈ gx_G) (hin : Cond.instantiable C N ∈ gx_G) (hini : Cond.initialized C ∈ gx_G) (hf : cells + 1 ≤ R.cells ∧ slots + N ≤ R.slots) (hdg : decode cc pc = .ok (.new idx, 3))
    (kk : ∀ H1 : Heap, va_at E.1.1 vwCl (H.size, .inr (ci, fs)) H1 → H1.size = H.size + 1 → (∀ q, q < H.size → H1[q]? = H[q]?) → W p l e R s m args below meth c H1 locs (cells + 1) (slots + N) Q (F0 m (pc + 3) ls (.ref H.size :: rest))) : W p l e R s m args below meth c H locs cells slots Q (F0 m pc ls rest) := by
  obtain ⟨hx, hb, hml, hown, hts⟩ := S
  have hKn := hK.1.1 ci _ hC.1
  refine W.newcK hx hb hown (hts _ hcl) (hts _ hin) (hts _ hini) rfl hdg hf.1 hf.2 hKn.2.1 rfl fun H1 kC hkC e1 z1 o1 => ?_
  exact kk H1 ⟨_, hC.1, (u_born ty hts hC.2.1 hKn hkC e1 hty).to hfs⟩ z1 o1
theorem zs_make {bs : List Int32} {q ra : Nat} {A : Nat → Prop} (hts : ∀ w ∈ gx_G, w.before args s = true) (hK : gx_K E s) (hP : va_P E.1.1 vwCl [(q, .inr (0, [.ref ra, .int 0, .int 0, .int 0]))] H) (hA : ¬ A q) (hT : va_T .byte ra bs.length (fun j => .int (bs.getD j 0)) A s H) : vk_S 1 [bs.length] [bs] (fun _ => q) (fun _ => ra) A s H := by
  obtain ⟨r, h1, cell, q1, q2, q3, q4⟩ := hP 0 _ rfl
  have hr : r = (RJ0, TJ0, 4) := Option.some.inj (h1.symm.trans cl_0.1)
  subst hr
  obtain ⟨hS, hfc, kC, hkC, hkind⟩ := hK.1.1 0 _ cl_0.1
  have hv : cell.vm ≠ .unknown := by rw [q3]; exact fun h => by cases h
  refine ⟨fun i hi => ?_, fun i j hi hj _ => by omega⟩
  have hi0 : i = 0 := by omega
  subst hi0
  have fld : ∀ (k : Nat) (hk : k < 4) (w : Value), vp_V [.ref ra, .int 0, .int 0, .int 0] k = w → va_OF (TJ0 k).1 (TJ0 k).2.1 (TJ0 k).2.2.1 w q A s H := by
    intro k hk w hw
    obtain ⟨cf, kf, fi, f, hi, hsl⟩ := hS k hk
    have hst := (u_facts hfc hkC (u_lays hts cl_0.2.1 hk) hi).1
    exact ⟨cf, kf, fi, f, cell, hi, hst, q1, hv, by rw [hsl, ← hw]; exact q4 k hk, hA⟩
  refine ⟨⟨cell, q1, ?_, ?_, hA⟩, fld 1 (by decide) _ rfl, fld 0 (by decide) _ rfl, hT⟩
  · rw [q3]; rfl
  · rw [q2]; exact hfc
end GNW
theorem len10 : Int32.ofNat 10 >>> ((0 : Int32) &&& 31) = 10 := by decide
theorem va_P1 {D : va_G} {cl : List vw_C} {x : Nat × va_E} {H : Heap} (h : va_at D cl x H) : va_P D cl [x] H := fun k q hk => by
  have h1 : k < 1 := (List.getElem?_eq_some_iff.mp hk).1
  rw [show k = 0 by omega] at hk
  cases hk
  exact h
theorem zi_blind {av : List Value} {E : gE} {sz : Nat} {ws : va_W} : FrameBlind (va_Pc av (fun U => U.heap.size = sz ∧ va_P E.1.1 vwCl ws U.heap ∧ gx_K E U)) := by
  intro a U g mk q
  obtain ⟨q0, q1, qP, qK⟩ := q
  exact ⟨q0, q1, qP, ⟨va_K.moved (u := U) (U := U.calling g mk a) (Vm.Alike.refl U.vm) qK.1, gx_Z.same (s := U) (U := U.calling g mk a) rfl qK.2⟩⟩
theorem zs_T {bs : List Int32} {i ra : Nat} {A : Nat → Prop} {U : State} {H : Heap} (hbs : bs.length = 10) (h : va_T .byte ra (10 - i) (fun j => .int (bs.getD (i + j) 0)) A U H) : va_T .byte ra (bs.drop i).length (fun j => .int ((bs.drop i).getD j 0)) A U H := by
  have h1 : (bs.drop i).length = 10 - i := by rw [List.length_drop, hbs]
  have h2 : (fun j => Value.int ((bs.drop i).getD j 0)) = fun j => Value.int (bs.getD (i + j) 0) := by
    funext j
    rw [List.getD_eq_getElem?_getD, List.getD_eq_getElem?_getD, List.getElem?_drop]
  rw [h1, h2]
  exact h
set_option maxHeartbeats 4000000 in
set_option maxRecDepth 100000 in
theorem c_JnewS (l : Launch) {E : gE} (N : Nat) (σ : gI) (τ : gJ) (bs : List Int32) (hbs : bs.length = 10) (hby : ∀ j : Nat, fits .byte (.int (bs.getD j 0)) = true) (a v sz : Nat) (x : Int32) (h19 : x19 x) : Met l yJ1_newString_b4f7a (Cond.code yJ1_newString_b4f7a cJ1_newString_b4f7a 3 (some (.object "java/lang/String")) :: gx_G) (gx_rc 4 2 14) (va_Pc [.ref v, .int x, .int (10 - x)] (zr_P E σ τ bs a v sz)) ((fun sz => va_Qr (fun (_ : Unit) => True) (fun _ ra t => gx_P gx_tb E σ τ t.heap ∧ ∃ va : Nat, zs_A (bs.drop x.toNatClampNeg) ra va E t t.heap t.heap.size) (gx_A gx_tb.length E.2.2 sz)) sz) 2 14 (gx_A gx_tb.length E.2.2 sz) := by
  refine gx_begin (Qc := (fun sz => va_Qr (fun (_ : Unit) => True) (fun _ ra t => gx_P gx_tb E σ τ t.heap ∧ ∃ va : Nat, zs_A (bs.drop x.toNatClampNeg) ra va E t t.heap t.heap.size) (gx_A gx_tb.length E.2.2 sz))) (A := fun sz => gx_A gx_tb.length E.2.2 sz) (by decide +kernel) (fun a U h => h.1) (Nat.le_of_ble_eq_true rfl) (fun a U h => h.2.1.1) ?_
  intro P9 e9 s m9 below meth C9 S hr hlk hnm hv hz ls hl
  obtain ⟨-, ⟨-, hP0, hK⟩, hZ⟩ := hv
  rw [← hz] at hZ
  obtain ⟨y1, y2, y3, y4, y5, y6, y7, y8, y9, y10⟩ := x19_f h19
  have hx := S.1
  have hb := S.2.1
  have hw : gx_W gx_tb gx_tb.length E s σ τ s.heap [] := ⟨hP0, va_S.rf⟩
  have hl : lv_has ls 3 [(0, .ref v), (1, .int x), (2, .int (10 - x))] := hl
  have hl5 := gx_len_tb hw.1
  refine lv_iload_n hx hb dJ1_newString_b4f7a_0 rfl (lv_at hl 2 rfl) ?_
  refine lv_if_ne (tgt := 7) hx hb dJ1_newString_b4f7a_1 (by decide) (fun _ => ?_) (fun h => absurd h y8)
  refine gn_new S hK cl_0 tyJ0 tyJ0_ok [.null, .int 0, .int 0, .int 0] (by intro j hj; rcases (by omega : j = 0 ∨ j = 1 ∨ j = 2 ∨ j = 3) with rfl | rfl | rfl | rfl <;> rfl) mw_1671 mw_1672 mw_103 ⟨Nat.le_of_ble_eq_true rfl, Nat.le_of_ble_eq_true rfl⟩ dJ1_newString_b4f7a_7 (fun H1 a1 z1 o1 => ?_)
  have hw1 := gw_grow hw (by omega : s.heap.size ≤ H1.size) o1
  refine lv_dup hx hb dJ1_newString_b4f7a_10 rfl ?_
  refine lv_aload_n hx hb dJ1_newString_b4f7a_11 rfl (lv_at hl 0 rfl) ?_
  refine lv_iload_n hx hb dJ1_newString_b4f7a_12 rfl (lv_at hl 1 rfl) ?_
  refine lv_iload_n hx hb dJ1_newString_b4f7a_13 rfl (lv_at hl 1 rfl) ?_
  refine lv_iload_n hx hb dJ1_newString_b4f7a_14 rfl (lv_at hl 2 rfl) ?_
  refine lv_iadd hx hb dJ1_newString_b4f7a_15 ?_
  refine gx_top (v := 10) y9 ?_
  refine va_callr (va_runS (As := [.ref v, .int x, .int 10]) (rest := [.ref s.heap.size, .ref s.heap.size]) S (c_Jcopy l N σ τ bs hbs hby a v H1.size x h19) (va_cwS 3 S.2.2.2.2 (gx_goodS cw_J1_232) rfl rfl rfl cw_J1_232.2 ⟨Nat.le_of_ble_eq_true rfl, Nat.le_of_ble_eq_true rfl⟩) ⟨zs_blind, fun U hU hW9 => ⟨rfl, ⟨by rw [hU], by rw [hU]; exact hw1.1, gx_K.move hW9 hU hw1 hK⟩, by rw [hU]; exact vk_S.moved hW9.alike (zs_h hZ hw1)⟩⟩ rfl rfl hl.1 rfl (lv_room (Nat.le_of_ble_eq_true rfl)) dJ1_newString_b4f7a_16 ⟨Nat.le_of_ble_eq_true rfl, Nat.le_of_ble_eq_true rfl⟩) hw1.2 (fun q1 _ h => gx_sub gx_ok hw1 h) (fun q1 h => gx_sub gx_ok hw1 h) ?_
  intro u ra t H2 locs2 ht hvm hp hB hz1 hk hS
  obtain ⟨hB1, hB2, hB3⟩ := hB
  rw [ht] at hB1 hB3
  have hw2 : gx_W gx_tb gx_tb.length E s σ τ H2 locs2 := ⟨hB1, hS⟩
  have hq2 : H2[s.heap.size]? = H1[s.heap.size]? := hk _ (by omega) (fun h => by rcases h with h | h <;> omega)
  have ha2 : va_P E.1.1 vwCl [(s.heap.size, .inr (0, [.null, .int 0, .int 0, .int 0]))] H2 := (va_P1 a1).kept (fun k q hk => by
    have h1 : k < 1 := (List.getElem?_eq_some_iff.mp hk).1
    rw [show k = 0 by omega] at hk
    cases hk
    exact hq2)
  refine lv_iconst (v := 0) hx hb dJ1_newString_b4f7a_19 (by decide) ?_
  refine va_callv (va_runI (As := [.ref ra, .int 0]) (rest := [.ref s.heap.size]) (b := s.heap.size) S (c_Jinit l (E := E) s.heap.size ra H2.size) (cwI 2 S.2.2.2.2 (gx_goodM cw_J1_112.1.2.2.2) rfl rfl rfl (S.2.2.2.2 _ cw_J1_112.1.2.2.1) (S.2.2.2.2 _ cw_J1_112.1.1) (S.2.2.2.2 _ cw_J1_112.1.2.1) cw_J1_112.2.1 cw_J1_112.2.2 ⟨Nat.le_of_ble_eq_true rfl, Nat.le_of_ble_eq_true rfl⟩) ⟨zi_blind, fun U hU hW9 => ⟨rfl, by rw [hU], by rw [hU]; exact ha2, gx_K.move hW9 hU hw2 hK⟩⟩ rfl rfl hl.1 rfl (lv_room (Nat.le_of_ble_eq_true rfl)) dJ1_newString_b4f7a_20 ⟨Nat.le_of_ble_eq_true rfl, Nat.le_of_ble_eq_true rfl⟩) hS (fun q1 _ h => Or.inr (Or.elim h (fun h => Nat.le_of_eq h.symm) (fun h => Nat.le_trans (by omega : s.heap.size ≤ H2.size) h))) (fun q1 h => Or.inr (Or.elim h (fun h => Nat.le_of_eq h.symm) (fun h => Nat.le_trans (by omega : s.heap.size ≤ H2.size) h))) ?_
  intro u2 t2 H3 locs3 ht3 hvm3 hp3 hI hz3 hk3 hS3
  rw [ht3] at hI
  have hP3 : gx_P gx_tb E σ τ H3 := hB1.kept (fun k q hq => hk3 q.1 ((hB1 k q hq).lt) (fun h => by
    have g1 := (hw.1 k q hq).lt
    have g2 := (hB1 k q hq).lt
    rcases h with h | h <;> omega))
  obtain ⟨cell, c1, c2, c3, c4, c5, c6, c7⟩ := hB3
  have g3 : ra < H2.size := (Array.getElem?_eq_some_iff.mp c1).1
  have c1' : H3[ra]? = some cell := by rw [hk3 ra g3 (fun h => by rcases h with h | h <;> omega)]; exact c1
  refine W.aret S.1 S.2.1 hr (Or.inl ⟨_, rfl⟩) (Or.inr ⟨_, rfl⟩) (fun t4 ht4 hwm => ⟨⟨(), s.heap.size, rfl, trivial, by rw [ht4]; exact hP3, ra, ?_⟩, hS3.F ht4⟩) hS3.2.2 dJ1_newString_b4f7a_23 hlk
  rw [ht4]
  refine vk_S.moved hwm.alike (zs_make S.2.2.2.2 hK hI (fun h => by rcases h with h | h <;> omega) (zs_T hbs ⟨cell, c1', State.isArrayOf_alike hvm.symm c2, c3, c4, c5, c6, fun h => by rcases h with h | h <;> omega⟩))
set_option maxHeartbeats 4000000 in
set_option maxRecDepth 100000 in
theorem c_Jsub2 (l : Launch) {E : gE} (N : Nat) (σ : gI) (τ : gJ) (bs : List Int32) (hbs : bs.length = 10) (hby : ∀ j : Nat, fits .byte (.int (bs.getD j 0)) = true) (a v sz : Nat) (x : Int32) (h09 : x09 x) : Met l yJ0_substring_37a41 (Cond.code yJ0_substring_37a41 cJ0_substring_37a41 5 (some (.object "java/lang/String")) :: gx_G) (gx_rc 5 2 14) (va_Pc [.ref a, .int x, .int 10] (zr_P E σ τ bs a v sz)) ((fun sz => va_Qr (fun (_ : Unit) => True) (fun _ ra t => gx_P gx_tb E σ τ t.heap ∧ ∃ va : Nat, zs_A (bs.drop x.toNatClampNeg) ra va E t t.heap t.heap.size) (gx_A gx_tb.length E.2.2 sz)) sz) 2 14 (gx_A gx_tb.length E.2.2 sz) := by
  refine gx_begin (Qc := (fun sz => va_Qr (fun (_ : Unit) => True) (fun _ ra t => gx_P gx_tb E σ τ t.heap ∧ ∃ va : Nat, zs_A (bs.drop x.toNatClampNeg) ra va E t t.heap t.heap.size) (gx_A gx_tb.length E.2.2 sz))) (A := fun sz => gx_A gx_tb.length E.2.2 sz) (by decide +kernel) (fun a U h => h.1) (Nat.le_of_ble_eq_true rfl) (fun a U h => h.2.1.1) ?_
  intro P9 e9 s m9 below meth C9 S hr hlk hnm hv hz ls hl
  obtain ⟨-, ⟨-, hP0, hK⟩, hZ⟩ := hv
  rw [← hz] at hZ
  obtain ⟨y6, y10⟩ := x09_f h09
  have hx := S.1
  have hb := S.2.1
  have hw : gx_W gx_tb gx_tb.length E s σ τ s.heap [] := ⟨hP0, va_S.rf⟩
  have hl : lv_has ls 5 [(0, .ref a), (1, .int x), (2, .int 10)] := hl
  refine lv_aload_n hx hb dJ0_substring_37a41_0 rfl (lv_at hl 0 rfl) ?_
  refine zs_V (As := []) (rest := []) S hK hw (zs_h hZ hw) (c_J0_length_8abf5 l (E := E) N bs σ τ (r := 10) (σ1 := σ) (τ1 := τ) (by unfold B_J0_length_8abf5_0 B_J0_coder_7d493_0; rw [hbs]; exact congrArg (fun z => some (z, σ, τ)) len10)) rfl cw_J0_505 (zs_r (zs_h hZ hw) rfl) ⟨Nat.le_of_ble_eq_true rfl, Nat.le_of_ble_eq_true rfl⟩ rfl hl.1 rfl (Nat.le_of_ble_eq_true rfl) ⟨Nat.le_of_ble_eq_true rfl, Nat.le_of_ble_eq_true rfl⟩ dJ0_substring_37a41_1 (fun r9 σ9 τ9 H locs hp hw => ?_)
  obtain ⟨rfl, rfl, rfl⟩ := hp
  refine lv_istore_n (lv' := [(3, .int 10), (0, .ref a), (1, .int x), (2, .int 10)]) hx hb dJ0_substring_37a41_4 rfl hl (by decide) rfl (fun ls hl => ?_)
  refine lv_iload_n hx hb dJ0_substring_37a41_5 rfl (lv_at hl 2 rfl) ?_
  refine lv_iload_n hx hb dJ0_substring_37a41_6 rfl (lv_at hl 3 rfl) ?_
  refine lv_iload_n hx hb dJ0_substring_37a41_7 rfl (lv_at hl 0 rfl) ?_
  refine gx_cSv (As := [.int x, .int 10, .int 10]) (rest := []) S hK gx_ok hw (c_J0_checkBoundsBeginEnd_23922 l (E := E) N σ τ x 10 10 (r := ()) (σ1 := σ) (τ1 := τ) (by unfold B_J0_checkBoundsBeginEnd_23922_0 B_J3_checkFromToIndex_8c36e_0; rw [if_neg y6, if_neg y10, if_pos (by decide)]; rfl)) cw_J0_521 ⟨Nat.le_of_ble_eq_true rfl, Nat.le_of_ble_eq_true rfl⟩ rfl hl.1 rfl (Nat.le_of_ble_eq_true rfl) ⟨Nat.le_of_ble_eq_true rfl, Nat.le_of_ble_eq_true rfl⟩ dJ0_substring_37a41_8 (fun σ9 τ9 H locs hp hw => ?_)
  obtain ⟨rfl, rfl⟩ := hp
  refine lv_iload_n hx hb dJ0_substring_37a41_11 rfl (lv_at hl 2 rfl) ?_
  rcases h09 with rfl | h19
  · refine lv_if_ne (tgt := 22) hx hb dJ0_substring_37a41_12 (by decide) (fun h => absurd rfl h) (fun _ => ?_)
    refine lv_iload_n hx hb dJ0_substring_37a41_15 rfl (lv_at hl 3 rfl) ?_
    refine lv_iload_n hx hb dJ0_substring_37a41_16 rfl (lv_at hl 0 rfl) ?_
    refine lv_icmp_ne (tgt := 22) hx hb dJ0_substring_37a41_17 (by decide) (fun h => absurd rfl h) (fun _ => ?_)
    refine lv_aload_n hx hb dJ0_substring_37a41_20 rfl (lv_at hl 1 rfl) ?_
    refine W.widen (k := 2) (n := 14) (by decide) (by decide) ?_
    refine W.aret S.1 S.2.1 hr (Or.inl ⟨_, rfl⟩) (Or.inr ⟨_, rfl⟩) (fun t2 ht2 hwm => ⟨⟨(), a, rfl, trivial, by rw [ht2]; exact hw.1, v, ?_⟩, hw.2.F ht2⟩) hw.2.2.2 dJ0_substring_37a41_21 hlk
    rw [ht2, show (0 : Int32).toNatClampNeg = 0 from rfl, List.drop_zero]
    exact vk_S.moved hwm.alike (zs_h hZ hw)
  obtain ⟨y1, -, -, -, -, -, -, -, -, -⟩ := x19_f h19
  refine lv_if_ne (tgt := 22) hx hb dJ0_substring_37a41_12 (by decide) (fun _ => ?_) (fun h => absurd h y1)
  refine lv_iload_n hx hb dJ0_substring_37a41_22 rfl (lv_at hl 3 rfl) ?_
  refine lv_iload_n hx hb dJ0_substring_37a41_23 rfl (lv_at hl 2 rfl) ?_
  refine lv_isub hx hb dJ0_substring_37a41_24 ?_
  refine lv_istore (lv' := [(4, .int (10 - x)), (3, .int 10), (0, .ref a), (1, .int x), (2, .int 10)]) hx hb dJ0_substring_37a41_25 hl (by decide) rfl (fun ls hl => ?_)
  refine lv_aload_n hx hb dJ0_substring_37a41_27 rfl (lv_at hl 2 rfl) ?_
  refine zs_V (As := []) (rest := []) S hK hw (zs_h hZ hw) (c_J0_isLatin1_aae02 l (E := E) N bs σ τ (r := 1) (σ1 := σ) (τ1 := τ) rfl) rfl cw_J0_492 (zs_r (zs_h hZ hw) rfl) ⟨Nat.le_of_ble_eq_true rfl, Nat.le_of_ble_eq_true rfl⟩ rfl hl.1 rfl (Nat.le_of_ble_eq_true rfl) ⟨Nat.le_of_ble_eq_true rfl, Nat.le_of_ble_eq_true rfl⟩ dJ0_substring_37a41_28 (fun r9 σ9 τ9 H locs hp hw => ?_)
  obtain ⟨rfl, rfl, rfl⟩ := hp
  refine lv_if_eq (tgt := 47) hx hb dJ0_substring_37a41_31 (by decide) (fun h => absurd h (by decide)) (fun _ => ?_)
  refine lv_aload_n hx hb dJ0_substring_37a41_34 rfl (lv_at hl 2 rfl) ?_
  refine zs_val S hZ hw mw_1697 dJ0_substring_37a41_35 ?_
  refine lv_iload_n hx hb dJ0_substring_37a41_38 rfl (lv_at hl 3 rfl) ?_
  refine lv_iload hx hb dJ0_substring_37a41_39 (lv_at hl 0 rfl) ?_
  refine va_callr (va_runS (As := [.ref v, .int x, .int (10 - x)]) (rest := []) S (c_JnewS l N σ τ bs hbs hby a v H.size x h19) (va_cwS 3 S.2.2.2.2 (gx_goodS cw_J0_685) rfl rfl rfl cw_J0_685.2 ⟨Nat.le_of_ble_eq_true rfl, Nat.le_of_ble_eq_true rfl⟩) ⟨zs_blind, fun U hU hW9 => ⟨rfl, ⟨by rw [hU], by rw [hU]; exact hw.1, gx_K.move hW9 hU hw hK⟩, by rw [hU]; exact vk_S.moved hW9.alike (zs_h hZ hw)⟩⟩ rfl rfl hl.1 rfl (lv_room (Nat.le_of_ble_eq_true rfl)) dJ0_substring_37a41_41 ⟨Nat.le_of_ble_eq_true rfl, Nat.le_of_ble_eq_true rfl⟩) hw.2 (fun q1 _ h => gx_sub gx_ok hw h) (fun q1 h => gx_sub gx_ok hw h) ?_
  intro u ra t H1 locs1 ht hvm hp hB hz1 hk hS
  obtain ⟨hB1, va, hB2⟩ := hB
  refine lv_goto (tgt := 57) hx hb dJ0_substring_37a41_44 (by decide) ?_
  refine W.aret S.1 S.2.1 hr (Or.inl ⟨_, rfl⟩) (Or.inr ⟨_, rfl⟩) (fun t2 ht2 hwm => ⟨⟨(), ra, rfl, trivial, by rw [ht2, ← ht]; exact hB1, va, ?_⟩, hS.F ht2⟩) hS.2.2 dJ0_substring_37a41_57 hlk
  rw [ht2, ← ht]
  exact vk_S.moved (hvm.symm.trans hwm.alike) hB2
set_option maxHeartbeats 4000000 in
set_option maxRecDepth 100000 in
theorem c_Jsub1 (l : Launch) {E : gE} (N : Nat) (σ : gI) (τ : gJ) (bs : List Int32) (hbs : bs.length = 10) (hby : ∀ j : Nat, fits .byte (.int (bs.getD j 0)) = true) (a v sz : Nat) (x : Int32) (h09 : x09 x) : Met l yJ0_substring_b52d3 (Cond.code yJ0_substring_b52d3 cJ0_substring_b52d3 2 (some (.object "java/lang/String")) :: gx_G) (gx_rc 6 2 14) (va_Pc [.ref a, .int x] (zr_P E σ τ bs a v sz)) ((fun sz => va_Qr (fun (_ : Unit) => True) (fun _ ra t => gx_P gx_tb E σ τ t.heap ∧ ∃ va : Nat, zs_A (bs.drop x.toNatClampNeg) ra va E t t.heap t.heap.size) (gx_A gx_tb.length E.2.2 sz)) sz) 2 14 (gx_A gx_tb.length E.2.2 sz) := by
  refine gx_begin (Qc := (fun sz => va_Qr (fun (_ : Unit) => True) (fun _ ra t => gx_P gx_tb E σ τ t.heap ∧ ∃ va : Nat, zs_A (bs.drop x.toNatClampNeg) ra va E t t.heap t.heap.size) (gx_A gx_tb.length E.2.2 sz))) (A := fun sz => gx_A gx_tb.length E.2.2 sz) (by decide +kernel) (fun a U h => h.1) (Nat.le_of_ble_eq_true rfl) (fun a U h => h.2.1.1) ?_
  intro P9 e9 s m9 below meth C9 S hr hlk hnm hv hz ls hl
  obtain ⟨-, ⟨-, hP0, hK⟩, hZ⟩ := hv
  rw [← hz] at hZ
  obtain ⟨y6, y10⟩ := x09_f h09
  have hx := S.1
  have hb := S.2.1
  have hw : gx_W gx_tb gx_tb.length E s σ τ s.heap [] := ⟨hP0, va_S.rf⟩
  have hl : lv_has ls 2 [(0, .ref a), (1, .int x)] := hl
  refine lv_aload_n hx hb dJ0_substring_b52d3_0 rfl (lv_at hl 0 rfl) ?_
  refine lv_iload_n hx hb dJ0_substring_b52d3_1 rfl (lv_at hl 1 rfl) ?_
  refine lv_aload_n hx hb dJ0_substring_b52d3_2 rfl (lv_at hl 0 rfl) ?_
  refine zs_V (As := []) (rest := [.int x, .ref a]) S hK hw (zs_h hZ hw) (c_J0_length_8abf5 l (E := E) N bs σ τ (r := 10) (σ1 := σ) (τ1 := τ) (by unfold B_J0_length_8abf5_0 B_J0_coder_7d493_0; rw [hbs]; exact congrArg (fun z => some (z, σ, τ)) len10)) rfl cw_J0_505 (zs_r (zs_h hZ hw) rfl) ⟨Nat.le_of_ble_eq_true rfl, Nat.le_of_ble_eq_true rfl⟩ rfl hl.1 rfl (Nat.le_of_ble_eq_true rfl) ⟨Nat.le_of_ble_eq_true rfl, Nat.le_of_ble_eq_true rfl⟩ dJ0_substring_b52d3_3 (fun r9 σ9 τ9 H locs hp hw => ?_)
  obtain ⟨rfl, rfl, rfl⟩ := hp
  refine va_callr (va_runV (As := [.int x, .int 10]) (rest := []) (b := a) S (c_Jsub2 l N σ τ bs hbs hby a v H.size x h09) (cwV 2 S.2.2.2.2 (gx_goodV cw_J0_681) rfl rfl rfl ⟨rfl, cw_J0_681.2⟩ ⟨Nat.le_of_ble_eq_true rfl, Nat.le_of_ble_eq_true rfl⟩) ⟨zs_blind, zs_r (zs_h hZ hw) rfl, fun U hU hW9 => ⟨rfl, ⟨by rw [hU], by rw [hU]; exact hw.1, gx_K.move hW9 hU hw hK⟩, by rw [hU]; exact vk_S.moved hW9.alike (zs_h hZ hw)⟩⟩ rfl rfl hl.1 rfl (lv_room (Nat.le_of_ble_eq_true rfl)) dJ0_substring_b52d3_6 ⟨Nat.le_of_ble_eq_true rfl, Nat.le_of_ble_eq_true rfl⟩) hw.2 (fun q1 _ h => gx_sub gx_ok hw h) (fun q1 h => gx_sub gx_ok hw h) ?_
  intro u ra t H1 locs1 ht hvm hp hB hz1 hk hS
  obtain ⟨hB1, va, hB2⟩ := hB
  refine W.aret S.1 S.2.1 hr (Or.inl ⟨_, rfl⟩) (Or.inr ⟨_, rfl⟩) (fun t2 ht2 hwm => ⟨⟨(), ra, rfl, trivial, by rw [ht2, ← ht]; exact hB1, va, ?_⟩, hS.F ht2⟩) hS.2.2 dJ0_substring_b52d3_9 hlk
  rw [ht2, ← ht]
  exact vk_S.moved (hvm.symm.trans hwm.alike) hB2
section ZSB
variable {p : Program} {l : Launch} {e : Env} {R : Room} {s : State} {m : MethodId} {args : Array Value} {below : List Frame} {meth : Method} {c : Code} {H : Heap} {locs : List Loc} {cells slots : Nat} {Q : State → Prop} {cc cc' : ByteArray} {pc nL idx mL d mc ms n : Nat} {ls : Array Slot} {st rest As av : List Value} {own : String} {E : gE} {σ : gI} {τ : gJ} {bs : List Int32} {a v : Nat} {y : MethodName} {ret : Option FieldType} {tb : List gD} {n0 : Nat}
theorem zs_sub (S : CallFix p m c cc nL s args gx_G own) (hK : gx_K E s) (hw : gx_W gx_tb gx_tb.length E s σ τ H locs) (hz : zs_A bs a v E s H H.size) (hbs : bs.length = 10) (hby : ∀ j : Nat, fits .byte (.int (bs.getD j 0)) = true) (N : Nat) {x : Int32} (h09 : x09 x) (w : gx_Wv own idx yJ0_substring_b52d3 cJ0_substring_b52d3 2 (some (.object "java/lang/String")) 1) (hR : 6 + 1 ≤ R.frames ∧ 8 + (2 + 11) + 40 * 6 ≤ R.locals) (hls : ls.size = nL) (hW : (rest.map fun v => v.category).sum ≤ 8) (hf : cells + 2 ≤ R.cells ∧ slots + 14 ≤ R.slots) (hdg : decode cc pc = .ok (.invokevirtual idx, 3))
    (kk : ∀ (ra va : Nat) (H1 : Heap) (locs1 : List Loc), zs_A (bs.drop x.toNatClampNeg) ra va E s H1 H1.size → gx_W gx_tb gx_tb.length E s σ τ H1 locs1 → W p l e R s m args below meth c H1 locs1 (cells + 2) (slots + 14) Q (F0 m (pc + 3) ls (.ref ra :: rest))) : W p l e R s m args below meth c H locs cells slots Q (F0 m pc ls (.int x :: .ref a :: rest)) := by
  refine va_callr (va_runV (As := [.int x]) (rest := rest) (b := a) S (c_Jsub1 l N σ τ bs hbs hby a v H.size x h09) (cwV 1 S.2.2.2.2 (gx_goodV w) rfl rfl rfl ⟨rfl, w.2⟩ hR) ⟨zs_blind, zs_r hz rfl, fun U hU hW9 => ⟨rfl, ⟨by rw [hU], by rw [hU]; exact hw.1, gx_K.move hW9 hU hw hK⟩, by rw [hU]; exact vk_S.moved hW9.alike hz⟩⟩ rfl rfl hls rfl (lv_room hW) hdg hf) hw.2 (fun q1 _ h => gx_sub gx_ok hw h) (fun q1 h => gx_sub gx_ok hw h) ?_
  intro u ra t H1 locs1 ht hvm hp hB hz1 hk hS
  obtain ⟨hB1, va, hB2⟩ := hB
  rw [ht] at hB1 hB2
  exact kk ra va H1 locs1 (vk_S.moved hvm.symm hB2) ⟨hB1, hS⟩
def gx_Mk (l : Launch) (y : MethodName) (cc : ByteArray) (mL : Nat) (ret : Option FieldType) (d mc ms : Nat) (tb : List gD) (E : gE) (σ : gI) (τ : gJ) (av : List Value) (post : Int32 → gI → gJ → Prop) : Prop :=
  ∀ sz : Nat, Met l y (Cond.code y cc mL ret :: gx_G) (gx_rc d mc ms) (va_Pc av (gx_Pre tb E σ τ sz)) (va_Qi (fun r (u : gI × gJ) => post r u.1 u.2) (fun u t => gx_P tb E u.1 u.2 t.heap) (gx_A tb.length E.2.2 sz)) mc ms (gx_A tb.length E.2.2 sz)
theorem gc_bi {post : Int32 → gI → gJ → Prop} (hy : plainName y.cls = true) (hlen : (lg_sl av).length ≤ mL)
    (body : ∀ (p : Program) (e : Env) (s : State) (m : MethodId) (below : List Frame) (meth : Method) (c : Code), CallFix p m c cc mL s av.toArray gx_G y.cls → meth.sig.returnType = ret → meth.locks = false → gx_K E s → gx_W tb tb.length E s σ τ s.heap [] → ∀ ls : Array Slot, lv_has ls mL (lv_args 0 av) →
      W p l e (gx_rc d mc ms) s m av.toArray below meth c s.heap [] 0 0 (MQ below (va_Qi (fun r (u : gI × gJ) => post r u.1 u.2) (fun u t => gx_P tb E u.1 u.2 t.heap) (gx_A tb.length E.2.2 s.heap.size)) av.toArray s mc ms (gx_A tb.length E.2.2 s.heap.size)) (F0 m 0 ls [])) : gx_Mk l y cc mL ret d mc ms tb E σ τ av post := by
  intro sz
  refine gx_begin (Qc := fun sz => va_Qi (fun r (u : gI × gJ) => post r u.1 u.2) (fun u t => gx_P tb E u.1 u.2 t.heap) (gx_A tb.length E.2.2 sz)) (A := fun sz => gx_A tb.length E.2.2 sz) hy (fun a U h => h.1) hlen (fun a U h => h.2.1) ?_
  intro p e s m below meth c S hr hlk _ hv _ ls hl
  exact body p e s m below meth c S hr hlk hv.2.2.2 ⟨hv.2.2.1, va_S.rf⟩ ls hl
theorem gc_ri {post : Int32 → gI → gJ → Prop} {v : Int32} {ty : FieldType} (S : CallFix p m c cc nL s args gx_G own) (hr : meth.sig.returnType = some ty) (hlk : meth.locks = false) (hw : gx_W tb tb.length E s σ τ H locs) (hn : narrow ty (.int v) = .int v) (hdg : decode cc pc = .ok (.ireturn, 1)) (h1 : cells ≤ mc) (h2 : slots ≤ ms) (hp : post v σ τ) :
    W p l e R s m args below meth c H locs cells slots (MQ below (va_Qi (fun r (u : gI × gJ) => post r u.1 u.2) (fun u t => gx_P tb E u.1 u.2 t.heap) (gx_A tb.length E.2.2 s.heap.size)) args s mc ms (gx_A tb.length E.2.2 s.heap.size)) (F0 m pc ls [.int v]) :=
  W.widen h1 h2 (W.zret S.1 S.2.1 hr hn (fun t ht _ => ⟨⟨v, (σ, τ), rfl, hp, by subst ht; exact hw.1⟩, hw.2.F ht⟩) hw.2.2.2 hdg hlk)
theorem gc_cVi {post : Int32 → gI → gJ → Prop} {q : Nat} (S : CallFix p m c cc nL s args gx_G own) (hK : gx_K E s) (hA : gx_Ok tb n0 E s) (hw : gx_W tb n0 E s σ τ H locs) (M : gx_Mk l y cc' mL ret d mc ms tb E σ τ (.ref (E.2.2 + q) :: As) post) (w : gx_Wv own idx y cc' mL ret n) {ci N : Nat} {T : u_T} {fds : List (Option (Option Nat))} (hT : tb[q]? = some (.inl (ci, fds))) (hC : gx_C ci y.cls T N) (hR : d + 1 ≤ R.frames ∧ 8 + (mL + 11) + 40 * d ≤ R.locals) (hn : As.length = n) (hls : ls.size = nL) (hst : st = As.reverse ++ .ref (E.2.2 + q) :: rest) (hW : (rest.map fun v => v.category).sum ≤ 8) (hf : cells + mc ≤ R.cells ∧ slots + ms ≤ R.slots) (hdg : decode cc pc = .ok (.invokevirtual idx, 3))
    (kk : ∀ (r : Int32) (σ' : gI) (τ' : gJ) (H1 : Heap) (locs1 : List Loc), post r σ' τ' → gx_W tb n0 E s σ' τ' H1 locs1 → W p l e R s m args below meth c H1 locs1 (cells + mc) (slots + ms) Q (F0 m (pc + 3) ls (.int r :: rest))) : W p l e R s m args below meth c H locs cells slots Q (F0 m pc ls st) := by
  subst hst
  refine va_calli (va_runV (As := As) (rest := rest) (b := E.2.2 + q) S (M H.size) (cwV n S.2.2.2.2 (gx_goodV w) rfl rfl rfl ⟨rfl, w.2⟩ hR) ⟨gx_blind, va_recv hK.1 hw.1 hC.1 (gx_at hT), fun U hU hW9 => ⟨rfl, by rw [hU], by rw [hU]; exact hw.1, gx_K.move hW9 hU hw hK⟩⟩ rfl hn hls rfl (lv_room hW) hdg hf) hw.2 (fun q1 _ h => gx_sub hA hw h) (fun q1 h => gx_sub hA hw h) ?_
  intro r u t H1 locs1 ht hvm hp hB hz hk hS
  exact kk r u.1 u.2 H1 locs1 hp ⟨by rw [← ht]; exact hB, hS⟩
end ZSB
def sbx {β : Type} (x : Int32) (k : Option β) : Option β := if 0 ≤ x ∧ x ≤ 9 then k else none
theorem x09_of {x : Int32} (h : 0 ≤ x ∧ x ≤ 9) : x09 x := by
  have h1 := Int32.le_iff_toInt_le.mp h.1
  have h2 := Int32.le_iff_toInt_le.mp h.2
  have e0 : (0 : Int32).toInt = 0 := rfl
  have e9 : (9 : Int32).toInt = 9 := rfl
  have hh : ∀ k : Int32, x.toInt = k.toInt → x = k := fun k h => Int32.toInt_inj.mp h
  rcases (by omega : x.toInt = 0 ∨ x.toInt = 1 ∨ x.toInt = 2 ∨ x.toInt = 3 ∨ x.toInt = 4 ∨ x.toInt = 5 ∨ x.toInt = 6 ∨ x.toInt = 7 ∨ x.toInt = 8 ∨ x.toInt = 9) with g | g | g | g | g | g | g | g | g | g
  · exact Or.inl (hh 0 g)
  · exact Or.inr (Or.inl (hh 1 g))
  · exact Or.inr (Or.inr (Or.inl (hh 2 g)))
  · exact Or.inr (Or.inr (Or.inr (Or.inl (hh 3 g))))
  · exact Or.inr (Or.inr (Or.inr (Or.inr (Or.inl (hh 4 g)))))
  · exact Or.inr (Or.inr (Or.inr (Or.inr (Or.inr (Or.inl (hh 5 g))))))
  · exact Or.inr (Or.inr (Or.inr (Or.inr (Or.inr (Or.inr (Or.inl (hh 6 g)))))))
  · exact Or.inr (Or.inr (Or.inr (Or.inr (Or.inr (Or.inr (Or.inr (Or.inl (hh 7 g))))))))
  · exact Or.inr (Or.inr (Or.inr (Or.inr (Or.inr (Or.inr (Or.inr (Or.inr (Or.inl (hh 8 g)))))))))
  · exact Or.inr (Or.inr (Or.inr (Or.inr (Or.inr (Or.inr (Or.inr (Or.inr (Or.inr (hh 9 g)))))))))
theorem sbx_some {β : Type} {x : Int32} {k : Option β} {r : β} (h : sbx x k = some r) : x09 x ∧ k = some r := by
  unfold sbx at h
  split at h
  · next q => exact ⟨x09_of q, h⟩
  · cases h
