/-! methods that return, the picture as it was, or throw; their callers that catch -/
def gq_Ti (E : gE) (σ : gI) (τ : gJ) : Nat → Array Value → State → Outcome → State → Prop := fun sz => va_Qi (fun _ (_ : Unit) => True) (fun _ t => gx_P gx_tb E σ τ t.heap) (gx_A gx_tb.length E.2.2 sz)
def gq_Tl (E : gE) (σ : gI) (τ : gJ) : Nat → Array Value → State → Outcome → State → Prop := fun sz => va_Ql (fun _ (_ : Unit) => True) (fun _ t => gx_P gx_tb E σ τ t.heap) (gx_A gx_tb.length E.2.2 sz)
theorem gx_bt2 {l : Launch} {y : MethodName} {cc : ByteArray} {mL d : Nat} {ret : Option FieldType} {tb : List gD} {E : gE} {σ : gI} {τ : gJ} {av : List Value} {Qc : Nat → Array Value → State → Outcome → State → Prop} (hy : plainName y.cls = true) (hlen : (lg_sl av).length ≤ mL)
    (body : ∀ (p : Program) (e : Env) (s : State) (m : MethodId) (below : List Frame) (meth : Method) (c : Code), CallFix p m c cc mL s av.toArray gx_G y.cls → meth.sig.returnType = ret → meth.locks = false → (∀ x ∈ c.exceptionTable.toList, False) → gx_K E s → gx_T s → gx_W tb tb.length E s σ τ s.heap [] → ∀ ls : Array Slot, lv_has ls mL (lv_args 0 av) →
      W p l e (gx_rc d 1 6) s m av.toArray below meth c s.heap [] 0 0 (vx_MQ below (Qc s.heap.size) (gx_XC tb E σ τ s.heap.size) av.toArray s 1 6 (gx_A tb.length E.2.2 s.heap.size)) (F0 m 0 ls [])) : gx_Mt l y cc mL ret d tb E σ τ av Qc := by
  intro sz
  refine vx_ofW (cc := cc) (maxL := mL) (ret := ret) hy rfl ?_
  intro p e s m args below meth c s₁ B hml hex hv
  obtain ⟨rfl, ⟨rfl, hP, hK⟩, hT⟩ := hv
  have hts := atoms_spec (ws := Cond.code y cc mL ret :: gx_G) B.pre
  have hl := lv_entry av (n := mL) hlen
  rw [lg_entry_eq]
  exact body p e s m below meth c ⟨B.exec, B.bytes, hml, findClass_of_methodNamed B.named, fun w hw => hts w (List.mem_cons_of_mem _ hw)⟩ B.returns B.notSynchronized hex hK hT ⟨hP, va_S.rf⟩ _ hl
section GT3
variable {p : Program} {l : Launch} {e : Env} {R : Room} {s : State} {m : MethodId} {args : Array Value} {below : List Frame} {meth : Method} {c : Code} {H : Heap} {locs : List Loc} {cells slots : Nat} {Q : State → Prop}
variable {cc cc' : ByteArray} {pc nL mL d n idx n0 : Nat} {ls : Array Slot} {st rest As av : List Value} {own : String} {E : gE} {σ : gI} {τ : gJ} {y : MethodName} {ret : Option FieldType}
theorem gx_rti {v : Int32} {XC : String → State → State → Prop} (S : CallFix p m c cc nL s args gx_G own) (hr : meth.sig.returnType = some .int) (hlk : meth.locks = false) (hw : gx_W gx_tb gx_tb.length E s σ τ H locs) (hdg : decode cc pc = .ok (.ireturn, 1)) :
    W p l e R s m args below meth c H locs 0 0 (vx_MQ below (gq_Ti E σ τ s.heap.size) XC args s 1 6 (gx_A gx_tb.length E.2.2 s.heap.size)) (F0 m pc ls [.int v]) :=
  vx_ret (W.widen (k := 1) (n := 6) (by omega) (by omega) (W.zret S.1 S.2.1 hr rfl (fun t ht _ => ⟨⟨v, (), rfl, trivial, by subst ht; exact hw.1⟩, hw.2.F ht⟩) hw.2.2.2 hdg hlk))
theorem gx_rtl {v : Int64} {XC : String → State → State → Prop} (S : CallFix p m c cc nL s args gx_G own) (hr : meth.sig.returnType = some .long) (hlk : meth.locks = false) (hw : gx_W gx_tb gx_tb.length E s σ τ H locs) (hdg : decode cc pc = .ok (.lreturn, 1)) :
    W p l e R s m args below meth c H locs 0 0 (vx_MQ below (gq_Tl E σ τ s.heap.size) XC args s 1 6 (gx_A gx_tb.length E.2.2 s.heap.size)) (F0 m pc ls [.long v]) :=
  vx_ret (W.widen (k := 1) (n := 6) (by omega) (by omega) (W.lret S.1 S.2.1 hr (fun t ht _ => ⟨⟨v, (), rfl, trivial, by subst ht; exact hw.1⟩, hw.2.F ht⟩) hw.2.2.2 hdg hlk))
theorem gx_cYi {q : Nat} (S : CallFix p m c cc nL s args gx_G own) (hK : gx_K E s) (hT9 : gx_T s) (hA : gx_Ok gx_tb n0 E s) (hw : gx_W gx_tb n0 E s σ τ H locs) (M : gx_Mt l y cc' mL ret d gx_tb E σ τ (.ref (E.2.2 + q) :: As) (gq_Ti E σ τ)) (w : gx_Wv own idx y cc' mL ret n) {ci N : Nat} {T : u_T} {fds : List (Option (Option Nat))} (hT : gx_tb[q]? = some (.inl (ci, fds))) (hC : gx_C ci y.cls T N) (hR : d + 1 ≤ R.frames ∧ 8 + (mL + 11) + 40 * d ≤ R.locals) (hn : As.length = n) (hls : ls.size = nL) (hst : st = As.reverse ++ .ref (E.2.2 + q) :: rest) (hW : (rest.map fun v => v.category).sum ≤ 8) (hf : cells + 1 ≤ R.cells ∧ slots + 6 ≤ R.slots) (hdg : decode cc pc = .ok (.invokevirtual idx, 3))
    (x : ExceptionTableEntry) (suf : List ExceptionTableEntry) (hsplit : c.exceptionTable.toList = x :: suf) (hx : covers x pc = true) (h0 : x.catchType ≠ 0) (hlink : Cond.classLink own x.catchType gt_X ∈ gx_G)
    (kk : ∀ (q9 : Nat) (H1 : Heap) (locs1 : List Loc), gx_W gx_tb n0 E s σ τ H1 locs1 → W p l e R s m args below meth c H1 locs1 (cells + 1) (slots + 6) Q (F0 m x.handlerPc ls [.ref q9]))
    (k2 : ∀ (r : Int32) (H1 : Heap) (locs1 : List Loc), gx_W gx_tb n0 E s σ τ H1 locs1 → W p l e R s m args below meth c H1 locs1 (cells + 1) (slots + 6) Q (F0 m (pc + 3) ls (.int r :: rest))) : W p l e R s m args below meth c H locs cells slots Q (F0 m pc ls st) := by
  subst hst
  refine vx_calli (vx_runV (As := As) (rest := rest) (b := E.2.2 + q) S (M H.size) (cwV n S.2.2.2.2 (gx_goodV w) rfl rfl rfl ⟨rfl, w.2⟩ hR) ⟨gx_blindT, va_recv hK.1 hw.1 hC.1 (gx_at hT), fun U hU hW9 => ⟨rfl, ⟨by rw [hU], by rw [hU]; exact hw.1, gx_K.move hW9 hU hw hK⟩, gx_T.warm hW9 hT9⟩⟩ rfl hn hls rfl (lv_room hW) hdg hf) hw.2 (fun q1 _ h => gx_sub hA hw h) (fun q1 h => gx_sub hA hw h) (fun q1 _ h => gx_sub hA hw h) ?_ (fun r u t H1 locs1 ht _ _ hB _ _ hS => k2 r H1 locs1 ⟨by rw [← ht]; exact hB, hS⟩)
  intro E9 ce q9 u t H1 locs1 ht hvm hp hB hz hk hS hce hcv hcl
  obtain ⟨rfl, hB⟩ := hB
  exact vx_catch S.2.2.2.1 x suf hsplit hx h0 (S.2.2.2.2 _ hlink) (va_tabs rfl rfl hT9.2) hce hcv hcl (kk q9 H1 locs1 ⟨by rw [← ht]; exact hB, hS⟩)
theorem gx_cYl {q : Nat} (S : CallFix p m c cc nL s args gx_G own) (hK : gx_K E s) (hT9 : gx_T s) (hA : gx_Ok gx_tb n0 E s) (hw : gx_W gx_tb n0 E s σ τ H locs) (M : gx_Mt l y cc' mL ret d gx_tb E σ τ (.ref (E.2.2 + q) :: As) (gq_Tl E σ τ)) (w : gx_Wv own idx y cc' mL ret n) {ci N : Nat} {T : u_T} {fds : List (Option (Option Nat))} (hT : gx_tb[q]? = some (.inl (ci, fds))) (hC : gx_C ci y.cls T N) (hR : d + 1 ≤ R.frames ∧ 8 + (mL + 11) + 40 * d ≤ R.locals) (hn : As.length = n) (hls : ls.size = nL) (hst : st = As.reverse ++ .ref (E.2.2 + q) :: rest) (hW : (rest.map fun v => v.category).sum ≤ 8) (hf : cells + 1 ≤ R.cells ∧ slots + 6 ≤ R.slots) (hdg : decode cc pc = .ok (.invokevirtual idx, 3))
    (x : ExceptionTableEntry) (suf : List ExceptionTableEntry) (hsplit : c.exceptionTable.toList = x :: suf) (hx : covers x pc = true) (h0 : x.catchType ≠ 0) (hlink : Cond.classLink own x.catchType gt_X ∈ gx_G)
    (kk : ∀ (q9 : Nat) (H1 : Heap) (locs1 : List Loc), gx_W gx_tb n0 E s σ τ H1 locs1 → W p l e R s m args below meth c H1 locs1 (cells + 1) (slots + 6) Q (F0 m x.handlerPc ls [.ref q9]))
    (k2 : ∀ (r : Int64) (H1 : Heap) (locs1 : List Loc), gx_W gx_tb n0 E s σ τ H1 locs1 → W p l e R s m args below meth c H1 locs1 (cells + 1) (slots + 6) Q (F0 m (pc + 3) ls (.long r :: rest))) : W p l e R s m args below meth c H locs cells slots Q (F0 m pc ls st) := by
  subst hst
  refine vx_calll (vx_runV (As := As) (rest := rest) (b := E.2.2 + q) S (M H.size) (cwV n S.2.2.2.2 (gx_goodV w) rfl rfl rfl ⟨rfl, w.2⟩ hR) ⟨gx_blindT, va_recv hK.1 hw.1 hC.1 (gx_at hT), fun U hU hW9 => ⟨rfl, ⟨by rw [hU], by rw [hU]; exact hw.1, gx_K.move hW9 hU hw hK⟩, gx_T.warm hW9 hT9⟩⟩ rfl hn hls rfl (lv_room hW) hdg hf) hw.2 (fun q1 _ h => gx_sub hA hw h) (fun q1 h => gx_sub hA hw h) (fun q1 _ h => gx_sub hA hw h) ?_ (fun r u t H1 locs1 ht _ _ hB _ _ hS => k2 r H1 locs1 ⟨by rw [← ht]; exact hB, hS⟩)
  intro E9 ce q9 u t H1 locs1 ht hvm hp hB hz hk hS hce hcv hcl
  obtain ⟨rfl, hB⟩ := hB
  exact vx_catch S.2.2.2.1 x suf hsplit hx h0 (S.2.2.2.2 _ hlink) (va_tabs rfl rfl hT9.2) hce hcv hcl (kk q9 H1 locs1 ⟨by rw [← ht]; exact hB, hS⟩)
end GT3
set_option maxHeartbeats 4000000 in
set_option maxRecDepth 100000 in
theorem c_X11_place (l : Launch) (hl9 : l.stackTraces = false) {E : gE} (N : Nat) (hN : 4294967296 ≤ N) (σ : gI) (τ : gJ) (x1 : Int32) (x2 : Int32) (hI : IC σ) : gx_Mt l yX11_place cX11_place 3 (some .int) 6 gx_tb E σ τ [.ref (E.2.2 + 0), .int x1, .int x2] (gq_Ti E σ τ) := by
  refine gx_bt2 (by decide +kernel) (Nat.le_of_ble_eq_true rfl) ?_
  intro P9 e9 s m9 below meth C9 S hr hlk hex hK hT9 hw ls hl
  have hx := S.1
  have hb := S.2.1
  have hl : lv_has ls 3 [(0, .ref (E.2.2 + 0)), (1, .int x1), (2, .int x2)] := hl
  refine lv_aload_n hx hb dX11_place_0 rfl (lv_at hl 0 rfl) ?_
  refine gx_getr (j := 3) S hK hw t_0 cl_12 1 (by decide) rfl mw_448 rfl dX11_place_1 ?_
  refine lv_iload_n hx hb dX11_place_4 rfl (lv_at hl 1 rfl) ?_
  obtain ⟨r_1, σ_1, τ_1, q_1, -, h1_1, h2_1⟩ := s_B_X8_has_0 N hN σ τ x1 hI
  rw [h1_1, h2_1] at q_1
  refine gx_cVi (As := [.int x1]) (rest := []) S hK gx_ok hw (c_X8_has l (E := E) N σ τ x1 q_1) cw_X11_137 t_3 cl_9 ⟨Nat.le_of_ble_eq_true rfl, Nat.le_of_ble_eq_true rfl⟩ rfl hl.1 rfl (Nat.le_of_ble_eq_true rfl) ⟨Nat.le_of_ble_eq_true rfl, Nat.le_of_ble_eq_true rfl⟩ dX11_place_5 (fun r9 σ9 τ9 H locs hp hw => ?_)
  obtain ⟨rfl, rfl, rfl⟩ := hp
  refine lv_if_ne (tgt := 21) hx hb dX11_place_8 (by decide) (fun c_2 => ?_) (fun c_2 => ?_)
  · refine lv_iload_n hx hb dX11_place_21 rfl (lv_at hl 2 rfl) ?_
    by_cases c_3 : x2 = 0
    · refine gx_top (v := 0) c_3 ?_
      refine lv_tableIn (tgt := 60) hx hb dX11_place_22 (by decide) (by decide) rfl (by decide) ?_
      refine lv_aload_n hx hb dX11_place_60 rfl (lv_at hl 0 rfl) ?_
      refine gx_getr (j := 3) S hK hw t_0 cl_12 1 (by decide) rfl mw_448 rfl dX11_place_61 ?_
      refine lv_iload_n hx hb dX11_place_64 rfl (lv_at hl 1 rfl) ?_
      obtain ⟨r_4, σ_4, τ_4, q_4, -, h1_4, h2_4⟩ := s_B_X8_kindOf_0 N hN σ τ x1 hI
      rw [h1_4, h2_4] at q_4
      refine gx_cVi (As := [.int x1]) (rest := []) S hK gx_ok hw (c_X8_kindOf l (E := E) N σ τ x1 q_4) cw_X11_147 t_3 cl_9 ⟨Nat.le_of_ble_eq_true rfl, Nat.le_of_ble_eq_true rfl⟩ rfl hl.1 rfl (Nat.le_of_ble_eq_true rfl) ⟨Nat.le_of_ble_eq_true rfl, Nat.le_of_ble_eq_true rfl⟩ dX11_place_65 (fun r9 σ9 τ9 H locs hp hw => ?_)
      obtain ⟨rfl, rfl, rfl⟩ := hp
      exact gx_rti (v := r_4) S hr hlk hw dX11_place_68
    by_cases c_5 : x2 = 1
    · refine gx_top (v := 1) c_5 ?_
      refine lv_tableIn (tgt := 69) hx hb dX11_place_22 (by decide) (by decide) rfl (by decide) ?_
      refine lv_aload_n hx hb dX11_place_69 rfl (lv_at hl 0 rfl) ?_
      refine gx_getr (j := 3) S hK hw t_0 cl_12 1 (by decide) rfl mw_448 rfl dX11_place_70 ?_
      refine lv_iload_n hx hb dX11_place_73 rfl (lv_at hl 1 rfl) ?_
      obtain ⟨r_6, σ_6, τ_6, q_6, -, h1_6, h2_6⟩ := s_B_X8_nextOf_0 N hN σ τ x1 hI
      rw [h1_6, h2_6] at q_6
      refine gx_cVi (As := [.int x1]) (rest := []) S hK gx_ok hw (c_X8_nextOf l (E := E) N σ τ x1 q_6) cw_X11_151 t_3 cl_9 ⟨Nat.le_of_ble_eq_true rfl, Nat.le_of_ble_eq_true rfl⟩ rfl hl.1 rfl (Nat.le_of_ble_eq_true rfl) ⟨Nat.le_of_ble_eq_true rfl, Nat.le_of_ble_eq_true rfl⟩ dX11_place_74 (fun r9 σ9 τ9 H locs hp hw => ?_)
      obtain ⟨rfl, rfl, rfl⟩ := hp
      exact gx_rti (v := r_6) S hr hlk hw dX11_place_77
    by_cases c_7 : x2 = 2
    · refine gx_top (v := 2) c_7 ?_
      refine lv_tableIn (tgt := 78) hx hb dX11_place_22 (by decide) (by decide) rfl (by decide) ?_
      refine lv_aload_n hx hb dX11_place_78 rfl (lv_at hl 0 rfl) ?_
      refine gx_getr (j := 3) S hK hw t_0 cl_12 1 (by decide) rfl mw_448 rfl dX11_place_79 ?_
      refine lv_iload_n hx hb dX11_place_82 rfl (lv_at hl 1 rfl) ?_
      obtain ⟨r_8, σ_8, τ_8, q_8, -, h1_8, h2_8⟩ := s_B_X8_secondOf_0 N hN σ τ x1 hI
      rw [h1_8, h2_8] at q_8
      refine gx_cVi (As := [.int x1]) (rest := []) S hK gx_ok hw (c_X8_secondOf l (E := E) N σ τ x1 q_8) cw_X11_154 t_3 cl_9 ⟨Nat.le_of_ble_eq_true rfl, Nat.le_of_ble_eq_true rfl⟩ rfl hl.1 rfl (Nat.le_of_ble_eq_true rfl) ⟨Nat.le_of_ble_eq_true rfl, Nat.le_of_ble_eq_true rfl⟩ dX11_place_83 (fun r9 σ9 τ9 H locs hp hw => ?_)
      obtain ⟨rfl, rfl, rfl⟩ := hp
      exact gx_rti (v := r_8) S hr hlk hw dX11_place_86
    by_cases c_9 : x2 = 3
    · refine gx_top (v := 3) c_9 ?_
      refine lv_tableIn (tgt := 87) hx hb dX11_place_22 (by decide) (by decide) rfl (by decide) ?_
      refine lv_aload_n hx hb dX11_place_87 rfl (lv_at hl 0 rfl) ?_
      refine gx_getr (j := 30) S hK hw t_0 cl_12 7 (by decide) rfl mw_454 rfl dX11_place_88 ?_
      refine gx_get S hK hw t_30 cl_7 7 (by decide) rfl mw_276 rfl dX11_place_91 ?_
      refine lv_iload_n hx hb dX11_place_94 rfl (lv_at hl 1 rfl) ?_
      refine lv_ishr hx hb dX11_place_95 ?_
      refine lv_iconst (v := 1) hx hb dX11_place_96 (by decide) ?_
      refine lv_iand hx hb dX11_place_97 ?_
      exact gx_rti (v := ((σ 30 7) >>> (x1 &&& 31)) &&& 1) S hr hlk hw dX11_place_98
    by_cases c_10 : x2 = 4
    · refine gx_top (v := 4) c_10 ?_
      refine lv_tableIn (tgt := 99) hx hb dX11_place_22 (by decide) (by decide) rfl (by decide) ?_
      refine lv_aload_n hx hb dX11_place_99 rfl (lv_at hl 0 rfl) ?_
      refine gx_getr (j := 3) S hK hw t_0 cl_12 1 (by decide) rfl mw_448 rfl dX11_place_100 ?_
      refine lv_iload_n hx hb dX11_place_103 rfl (lv_at hl 1 rfl) ?_
      obtain ⟨r_11, σ_11, τ_11, q_11, -, h1_11, h2_11⟩ := s_B_X8_figureOf_0 N hN σ τ x1 hI
      rw [h1_11, h2_11] at q_11
      refine gx_cVi (As := [.int x1]) (rest := []) S hK gx_ok hw (c_X8_figureOf l (E := E) N σ τ x1 q_11) cw_X11_160 t_3 cl_9 ⟨Nat.le_of_ble_eq_true rfl, Nat.le_of_ble_eq_true rfl⟩ rfl hl.1 rfl (Nat.le_of_ble_eq_true rfl) ⟨Nat.le_of_ble_eq_true rfl, Nat.le_of_ble_eq_true rfl⟩ dX11_place_104 (fun r9 σ9 τ9 H locs hp hw => ?_)
      obtain ⟨rfl, rfl, rfl⟩ := hp
      exact gx_rti (v := r_11) S hr hlk hw dX11_place_107
    by_cases c_12 : x2 = 5
    · refine gx_top (v := 5) c_12 ?_
      refine lv_tableIn (tgt := 108) hx hb dX11_place_22 (by decide) (by decide) rfl (by decide) ?_
      refine lv_aload_n hx hb dX11_place_108 rfl (lv_at hl 0 rfl) ?_
      refine gx_getr (j := 30) S hK hw t_0 cl_12 7 (by decide) rfl mw_454 rfl dX11_place_109 ?_
      refine lv_iload_n hx hb dX11_place_112 rfl (lv_at hl 1 rfl) ?_
      obtain ⟨r_13, σ_13, τ_13, q_13, -, h1_13, h2_13⟩ := s_B_X6_at_0 N hN 30 is_30 σ τ x1 hI
      rw [h1_13, h2_13] at q_13
      refine gx_cVi (As := [.int x1]) (rest := []) S hK gx_ok hw (c_X6_at l (E := E) N 30 is_30 σ τ x1 q_13) cw_X11_163 t_30 cl_7 ⟨Nat.le_of_ble_eq_true rfl, Nat.le_of_ble_eq_true rfl⟩ rfl hl.1 rfl (Nat.le_of_ble_eq_true rfl) ⟨Nat.le_of_ble_eq_true rfl, Nat.le_of_ble_eq_true rfl⟩ dX11_place_113 (fun r9 σ9 τ9 H locs hp hw => ?_)
      obtain ⟨rfl, rfl, rfl⟩ := hp
      refine lv_aload_n hx hb dX11_place_116 rfl (lv_at hl 0 rfl) ?_
      refine gx_getr (j := 30) S hK hw t_0 cl_12 7 (by decide) rfl mw_454 rfl dX11_place_117 ?_
      obtain ⟨r_14, σ_14, τ_14, q_14, -, h1_14, h2_14⟩ := s_B_X6_onWay_0 N hN 30 is_30 σ τ hI
      rw [h1_14, h2_14] at q_14
      refine gx_cVi (As := []) (rest := [.int r_13]) S hK gx_ok hw (c_X6_onWay l (E := E) N 30 is_30 σ τ q_14) cw_X11_166 t_30 cl_7 ⟨Nat.le_of_ble_eq_true rfl, Nat.le_of_ble_eq_true rfl⟩ rfl hl.1 rfl (Nat.le_of_ble_eq_true rfl) ⟨Nat.le_of_ble_eq_true rfl, Nat.le_of_ble_eq_true rfl⟩ dX11_place_120 (fun r9 σ9 τ9 H locs hp hw => ?_)
      obtain ⟨rfl, rfl, rfl⟩ := hp
      refine lv_iand hx hb dX11_place_123 ?_
      exact gx_rti (v := r_13 &&& r_14) S hr hlk hw dX11_place_124
    refine lv_tableOut (tgt := 125) hx hb dX11_place_22 (by have t_3 := lv_neT (a := 0) c_3 rfl; have t_5 := lv_neT (a := 1) c_5 rfl; have t_7 := lv_neT (a := 2) c_7 rfl; have t_9 := lv_neT (a := 3) c_9 rfl; have t_10 := lv_neT (a := 4) c_10 rfl; have t_12 := lv_neT (a := 5) c_12 rfl; omega) (by decide) ?_
    exact gx_thr (i := 5) S hl9 hK hT9 hw ss_5 rfl hl.1 dX11_place_125 dX11_place_128 dX11_place_129 dX11_place_131 dX11_place_134 hex hlk (by decide) (by decide) (by decide) (by decide)
  · exact gx_thr (i := 4) S hl9 hK hT9 hw ss_4 rfl hl.1 dX11_place_11 dX11_place_14 dX11_place_15 dX11_place_17 dX11_place_20 hex hlk (by decide) (by decide) (by decide) (by decide)
set_option maxHeartbeats 4000000 in
set_option maxRecDepth 100000 in
theorem c_X11_of (l : Launch) (hl9 : l.stackTraces = false) {E : gE} (N : Nat) (hN : 4294967296 ≤ N) (σ : gI) (τ : gJ) (x1 : Int32) (x2 : Int32) (hI : IC σ) : gx_Mt l yX11_of cX11_of 3 (some .int) 6 gx_tb E σ τ [.ref (E.2.2 + 0), .int x1, .int x2] (gq_Ti E σ τ) := by
  refine gx_bt2 (by decide +kernel) (Nat.le_of_ble_eq_true rfl) ?_
  intro P9 e9 s m9 below meth C9 S hr hlk hex hK hT9 hw ls hl
  have hx := S.1
  have hb := S.2.1
  have hl : lv_has ls 3 [(0, .ref (E.2.2 + 0)), (1, .int x1), (2, .int x2)] := hl
  refine lv_aload_n hx hb dX11_of_0 rfl (lv_at hl 0 rfl) ?_
  refine gx_getr (j := 30) S hK hw t_0 cl_12 7 (by decide) rfl mw_454 rfl dX11_of_1 ?_
  refine lv_iload_n hx hb dX11_of_4 rfl (lv_at hl 1 rfl) ?_
  obtain ⟨r_1, σ_1, τ_1, q_1, -, h1_1, h2_1⟩ := s_B_X6_has_0 N hN 30 is_30 σ τ x1 hI
  rw [h1_1, h2_1] at q_1
  refine gx_cVi (As := [.int x1]) (rest := []) S hK gx_ok hw (c_X6_has l (E := E) N 30 is_30 σ τ x1 q_1) cw_X11_172 t_30 cl_7 ⟨Nat.le_of_ble_eq_true rfl, Nat.le_of_ble_eq_true rfl⟩ rfl hl.1 rfl (Nat.le_of_ble_eq_true rfl) ⟨Nat.le_of_ble_eq_true rfl, Nat.le_of_ble_eq_true rfl⟩ dX11_of_5 (fun r9 σ9 τ9 H locs hp hw => ?_)
  obtain ⟨rfl, rfl, rfl⟩ := hp
  refine lv_if_ne (tgt := 21) hx hb dX11_of_8 (by decide) (fun c_2 => ?_) (fun c_2 => ?_)
  · refine lv_iload_n hx hb dX11_of_21 rfl (lv_at hl 2 rfl) ?_
    by_cases c_3 : x2 = 0
    · refine gx_top (v := 0) c_3 ?_
      refine lv_tableIn (tgt := 64) hx hb dX11_of_22 (by decide) (by decide) rfl (by decide) ?_
      refine lv_aload_n hx hb dX11_of_64 rfl (lv_at hl 0 rfl) ?_
      refine gx_getr (j := 30) S hK hw t_0 cl_12 7 (by decide) rfl mw_454 rfl dX11_of_65 ?_
      refine lv_iload_n hx hb dX11_of_68 rfl (lv_at hl 1 rfl) ?_
      obtain ⟨r_4, σ_4, τ_4, q_4, -, h1_4, h2_4⟩ := s_B_X6_spotOf_0 N hN 30 is_30 σ τ x1 hI
      rw [h1_4, h2_4] at q_4
      refine gx_cVi (As := [.int x1]) (rest := []) S hK gx_ok hw (c_X6_spotOf l (E := E) N 30 is_30 σ τ x1 q_4) cw_X11_175 t_30 cl_7 ⟨Nat.le_of_ble_eq_true rfl, Nat.le_of_ble_eq_true rfl⟩ rfl hl.1 rfl (Nat.le_of_ble_eq_true rfl) ⟨Nat.le_of_ble_eq_true rfl, Nat.le_of_ble_eq_true rfl⟩ dX11_of_69 (fun r9 σ9 τ9 H locs hp hw => ?_)
      obtain ⟨rfl, rfl, rfl⟩ := hp
      exact gx_rti (v := r_4) S hr hlk hw dX11_of_72
    by_cases c_5 : x2 = 1
    · refine gx_top (v := 1) c_5 ?_
      refine lv_tableIn (tgt := 73) hx hb dX11_of_22 (by decide) (by decide) rfl (by decide) ?_
      refine lv_aload_n hx hb dX11_of_73 rfl (lv_at hl 0 rfl) ?_
      refine gx_getr (j := 30) S hK hw t_0 cl_12 7 (by decide) rfl mw_454 rfl dX11_of_74 ?_
      refine lv_iload_n hx hb dX11_of_77 rfl (lv_at hl 1 rfl) ?_
      obtain ⟨r_6, σ_6, τ_6, q_6, -, h1_6, h2_6⟩ := s_B_X6_paperOf_0 N hN 30 is_30 σ τ x1 hI
      rw [h1_6, h2_6] at q_6
      refine gx_cVi (As := [.int x1]) (rest := []) S hK gx_ok hw (c_X6_paperOf l (E := E) N 30 is_30 σ τ x1 q_6) cw_X11_178 t_30 cl_7 ⟨Nat.le_of_ble_eq_true rfl, Nat.le_of_ble_eq_true rfl⟩ rfl hl.1 rfl (Nat.le_of_ble_eq_true rfl) ⟨Nat.le_of_ble_eq_true rfl, Nat.le_of_ble_eq_true rfl⟩ dX11_of_78 (fun r9 σ9 τ9 H locs hp hw => ?_)
      obtain ⟨rfl, rfl, rfl⟩ := hp
      exact gx_rti (v := r_6) S hr hlk hw dX11_of_81
    by_cases c_7 : x2 = 2
    · refine gx_top (v := 2) c_7 ?_
      refine lv_tableIn (tgt := 82) hx hb dX11_of_22 (by decide) (by decide) rfl (by decide) ?_
      refine lv_aload_n hx hb dX11_of_82 rfl (lv_at hl 0 rfl) ?_
      refine gx_getr (j := 30) S hK hw t_0 cl_12 7 (by decide) rfl mw_454 rfl dX11_of_83 ?_
      refine lv_iload_n hx hb dX11_of_86 rfl (lv_at hl 1 rfl) ?_
      obtain ⟨r_8, σ_8, τ_8, q_8, -, h1_8, h2_8⟩ := s_B_X6_purseOf_0 N hN 30 is_30 σ τ x1 hI
      rw [h1_8, h2_8] at q_8
      refine gx_cVi (As := [.int x1]) (rest := []) S hK gx_ok hw (c_X6_purseOf l (E := E) N 30 is_30 σ τ x1 q_8) cw_X11_181 t_30 cl_7 ⟨Nat.le_of_ble_eq_true rfl, Nat.le_of_ble_eq_true rfl⟩ rfl hl.1 rfl (Nat.le_of_ble_eq_true rfl) ⟨Nat.le_of_ble_eq_true rfl, Nat.le_of_ble_eq_true rfl⟩ dX11_of_87 (fun r9 σ9 τ9 H locs hp hw => ?_)
      obtain ⟨rfl, rfl, rfl⟩ := hp
      exact gx_rti (v := r_8) S hr hlk hw dX11_of_90
    by_cases c_9 : x2 = 3
    · refine gx_top (v := 3) c_9 ?_
      refine lv_tableIn (tgt := 91) hx hb dX11_of_22 (by decide) (by decide) rfl (by decide) ?_
      refine lv_aload_n hx hb dX11_of_91 rfl (lv_at hl 0 rfl) ?_
      refine gx_getr (j := 30) S hK hw t_0 cl_12 7 (by decide) rfl mw_454 rfl dX11_of_92 ?_
      refine lv_iload_n hx hb dX11_of_95 rfl (lv_at hl 1 rfl) ?_
      obtain ⟨r_10, σ_10, τ_10, q_10, -, h1_10, h2_10⟩ := s_B_X6_trailOf_0 N hN 30 is_30 σ τ x1 hI
      rw [h1_10, h2_10] at q_10
      refine gx_cVi (As := [.int x1]) (rest := []) S hK gx_ok hw (c_X6_trailOf l (E := E) N 30 is_30 σ τ x1 q_10) cw_X11_184 t_30 cl_7 ⟨Nat.le_of_ble_eq_true rfl, Nat.le_of_ble_eq_true rfl⟩ rfl hl.1 rfl (Nat.le_of_ble_eq_true rfl) ⟨Nat.le_of_ble_eq_true rfl, Nat.le_of_ble_eq_true rfl⟩ dX11_of_96 (fun r9 σ9 τ9 H locs hp hw => ?_)
      obtain ⟨rfl, rfl, rfl⟩ := hp
      exact gx_rti (v := r_10) S hr hlk hw dX11_of_99
    by_cases c_11 : x2 = 4
    · refine gx_top (v := 4) c_11 ?_
      refine lv_tableIn (tgt := 100) hx hb dX11_of_22 (by decide) (by decide) rfl (by decide) ?_
      refine lv_aload_n hx hb dX11_of_100 rfl (lv_at hl 0 rfl) ?_
      refine gx_getr (j := 30) S hK hw t_0 cl_12 7 (by decide) rfl mw_454 rfl dX11_of_101 ?_
      refine lv_iload_n hx hb dX11_of_104 rfl (lv_at hl 1 rfl) ?_
      obtain ⟨r_12, σ_12, τ_12, q_12, -, h1_12, h2_12⟩ := s_B_X6_fateOf_0 N hN 30 is_30 σ τ x1 hI
      rw [h1_12, h2_12] at q_12
      refine gx_cVi (As := [.int x1]) (rest := []) S hK gx_ok hw (c_X6_fateOf l (E := E) N 30 is_30 σ τ x1 q_12) cw_X11_187 t_30 cl_7 ⟨Nat.le_of_ble_eq_true rfl, Nat.le_of_ble_eq_true rfl⟩ rfl hl.1 rfl (Nat.le_of_ble_eq_true rfl) ⟨Nat.le_of_ble_eq_true rfl, Nat.le_of_ble_eq_true rfl⟩ dX11_of_105 (fun r9 σ9 τ9 H locs hp hw => ?_)
      obtain ⟨rfl, rfl, rfl⟩ := hp
      exact gx_rti (v := r_12) S hr hlk hw dX11_of_108
    by_cases c_13 : x2 = 5
    · refine gx_top (v := 5) c_13 ?_
      refine lv_tableIn (tgt := 109) hx hb dX11_of_22 (by decide) (by decide) rfl (by decide) ?_
      refine lv_aload_n hx hb dX11_of_109 rfl (lv_at hl 0 rfl) ?_
      refine gx_getr (j := 30) S hK hw t_0 cl_12 7 (by decide) rfl mw_454 rfl dX11_of_110 ?_
      refine lv_iload_n hx hb dX11_of_113 rfl (lv_at hl 1 rfl) ?_
      obtain ⟨r_14, σ_14, τ_14, q_14, -, h1_14, h2_14⟩ := s_B_X6_startsIn_0 N hN 30 is_30 σ τ x1 hI
      rw [h1_14, h2_14] at q_14
      refine gx_cVi (As := [.int x1]) (rest := []) S hK gx_ok hw (c_X6_startsIn l (E := E) N 30 is_30 σ τ x1 q_14) cw_X11_190 t_30 cl_7 ⟨Nat.le_of_ble_eq_true rfl, Nat.le_of_ble_eq_true rfl⟩ rfl hl.1 rfl (Nat.le_of_ble_eq_true rfl) ⟨Nat.le_of_ble_eq_true rfl, Nat.le_of_ble_eq_true rfl⟩ dX11_of_114 (fun r9 σ9 τ9 H locs hp hw => ?_)
      obtain ⟨rfl, rfl, rfl⟩ := hp
      exact gx_rti (v := r_14) S hr hlk hw dX11_of_117
    by_cases c_15 : x2 = 6
    · refine gx_top (v := 6) c_15 ?_
      refine lv_tableIn (tgt := 118) hx hb dX11_of_22 (by decide) (by decide) rfl (by decide) ?_
      refine lv_aload_n hx hb dX11_of_118 rfl (lv_at hl 0 rfl) ?_
      refine gx_getr (j := 30) S hK hw t_0 cl_12 7 (by decide) rfl mw_454 rfl dX11_of_119 ?_
      refine lv_iload_n hx hb dX11_of_122 rfl (lv_at hl 1 rfl) ?_
      obtain ⟨r_16, σ_16, τ_16, q_16, -, h1_16, h2_16⟩ := s_B_X6_endedIn_0 N hN 30 is_30 σ τ x1 hI
      rw [h1_16, h2_16] at q_16
      refine gx_cVi (As := [.int x1]) (rest := []) S hK gx_ok hw (c_X6_endedIn l (E := E) N 30 is_30 σ τ x1 q_16) cw_X11_193 t_30 cl_7 ⟨Nat.le_of_ble_eq_true rfl, Nat.le_of_ble_eq_true rfl⟩ rfl hl.1 rfl (Nat.le_of_ble_eq_true rfl) ⟨Nat.le_of_ble_eq_true rfl, Nat.le_of_ble_eq_true rfl⟩ dX11_of_123 (fun r9 σ9 τ9 H locs hp hw => ?_)
      obtain ⟨rfl, rfl, rfl⟩ := hp
      exact gx_rti (v := r_16) S hr hlk hw dX11_of_126
    refine lv_tableOut (tgt := 127) hx hb dX11_of_22 (by have t_3 := lv_neT (a := 0) c_3 rfl; have t_5 := lv_neT (a := 1) c_5 rfl; have t_7 := lv_neT (a := 2) c_7 rfl; have t_9 := lv_neT (a := 3) c_9 rfl; have t_11 := lv_neT (a := 4) c_11 rfl; have t_13 := lv_neT (a := 5) c_13 rfl; have t_15 := lv_neT (a := 6) c_15 rfl; omega) (by decide) ?_
    exact gx_thr (i := 7) S hl9 hK hT9 hw ss_7 rfl hl.1 dX11_of_127 dX11_of_130 dX11_of_131 dX11_of_133 dX11_of_136 hex hlk (by decide) (by decide) (by decide) (by decide)
  · exact gx_thr (i := 6) S hl9 hK hT9 hw ss_6 rfl hl.1 dX11_of_11 dX11_of_14 dX11_of_15 dX11_of_17 dX11_of_20 hex hlk (by decide) (by decide) (by decide) (by decide)
set_option maxHeartbeats 4000000 in
set_option maxRecDepth 100000 in
theorem c_X11_row (l : Launch) (hl9 : l.stackTraces = false) {E : gE} (N : Nat) (hN : 4294967296 ≤ N) (σ : gI) (τ : gJ) (x1 : Int32) (hI : IC σ) : gx_Mt l yX11_row cX11_row 2 (some .long) 6 gx_tb E σ τ [.ref (E.2.2 + 0), .int x1] (gq_Tl E σ τ) := by
  refine gx_bt2 (by decide +kernel) (Nat.le_of_ble_eq_true rfl) ?_
  intro P9 e9 s m9 below meth C9 S hr hlk hex hK hT9 hw ls hl
  have hx := S.1
  have hb := S.2.1
  have hl : lv_has ls 2 [(0, .ref (E.2.2 + 0)), (1, .int x1)] := hl
  refine lv_iload_n hx hb dX11_row_0 rfl (lv_at hl 1 rfl) ?_
  refine lv_if_lt (tgt := 15) hx hb dX11_row_1 (by decide) (fun c_1 => ?_) (fun c_1 => ?_)
  · exact gx_thrW (i := 8) S hl9 hK hT9 hw ss_8 rfl hl.1 dX11_row_15 dX11_row_18 dX11_row_19 dX11_row_22 dX11_row_25 hex hlk (by decide) (by decide) (by decide) (by decide)
  · refine lv_iload_n hx hb dX11_row_4 rfl (lv_at hl 1 rfl) ?_
    refine lv_aload_n hx hb dX11_row_5 rfl (lv_at hl 0 rfl) ?_
    refine gx_getr (j := 156) S hK hw t_0 cl_12 13 (by decide) rfl mw_460 rfl dX11_row_6 ?_
    refine gx_get S hK hw t_156 cl_5 1 (by decide) rfl mw_358 rfl dX11_row_9 ?_
    refine lv_icmp_lt (tgt := 26) hx hb dX11_row_12 (by decide) (fun c_2 => ?_) (fun c_2 => ?_)
    · refine lv_aload_n hx hb dX11_row_26 rfl (lv_at hl 0 rfl) ?_
      refine gx_getr (j := 156) S hK hw t_0 cl_12 13 (by decide) rfl mw_460 rfl dX11_row_27 ?_
      refine lv_iload_n hx hb dX11_row_30 rfl (lv_at hl 1 rfl) ?_
      obtain ⟨r_3, σ_3, τ_3, q_3, -, h1_3, h2_3⟩ := s_B_X4_numberAt_0 N hN σ τ x1 hI
      rw [h1_3, h2_3] at q_3
      refine gx_cVl (As := [.int x1]) (rest := []) S hK gx_ok hw (c_X4_numberAt l (E := E) N σ τ x1 q_3) cw_X11_426 t_156 cl_5 ⟨Nat.le_of_ble_eq_true rfl, Nat.le_of_ble_eq_true rfl⟩ rfl hl.1 rfl (Nat.le_of_ble_eq_true rfl) ⟨Nat.le_of_ble_eq_true rfl, Nat.le_of_ble_eq_true rfl⟩ dX11_row_31 (fun r9 σ9 τ9 H locs hp hw => ?_)
      obtain ⟨rfl, rfl, rfl⟩ := hp
      exact gx_rtl (v := r_3) S hr hlk hw dX11_row_34
    · exact gx_thrW (i := 8) S hl9 hK hT9 hw ss_8 rfl hl.1 dX11_row_15 dX11_row_18 dX11_row_19 dX11_row_22 dX11_row_25 hex hlk (by decide) (by decide) (by decide) (by decide)
set_option maxHeartbeats 4000000 in
set_option maxRecDepth 100000 in
theorem c_L_place (l : Launch) (hl9 : l.stackTraces = false) {E : gE} (N : Nat) (hN : 4294967296 ≤ N) (σ : gI) (τ : gJ) (x1 x2 : Int32) (hI : IC σ) : gx_Mw l yL_place cL_place 5 [(0, 10, 13, 13)] 7 gx_tb E σ τ [.ref (E.2.2 + 0), .int x1, .int x2, .ref (E.2.2 + 233)] (fun _ σ1 τ1 => σ1 = σ ∧ ∀ c k : Nat, c ≠ 233 → τ1 c k = τ c k) := by
  refine gx_bw (by decide +kernel) (Nat.le_of_ble_eq_true rfl) ?_
  intro P9 e9 s m9 below meth C9 S hr hlk htab hK hT9 hw ls hl
  have S : CallFix P9 m9 C9 cL_place 5 s _ gx_G RL := S
  have hx := S.1
  have hb := S.2.1
  have hl : lv_has ls 5 [(0, .ref (E.2.2 + 0)), (1, .int x1), (2, .int x2), (3, .ref (E.2.2 + 233))] := hl
  refine lv_aload_n hx hb dL_place_0 rfl (lv_at hl 3 rfl) ?_
  refine lv_iconst (v := 0) hx hb dL_place_1 (by decide) ?_
  refine lv_aload_n hx hb dL_place_2 rfl (lv_at hl 0 rfl) ?_
  refine lv_iload_n hx hb dL_place_3 rfl (lv_at hl 1 rfl) ?_
  refine lv_iload_n hx hb dL_place_4 rfl (lv_at hl 2 rfl) ?_
  refine gx_cYi (As := [.int x1, .int x2]) (rest := [.int 0, .ref (E.2.2 + 233)]) S hK hT9 gx_ok hw (c_X11_place l hl9 (E := E) N hN σ τ x1 x2 hI) cw_L_7 t_0 cl_12 ⟨Nat.le_of_ble_eq_true rfl, Nat.le_of_ble_eq_true rfl⟩ rfl hl.1 rfl (Nat.le_of_ble_eq_true rfl) ⟨Nat.le_of_ble_eq_true rfl, Nat.le_of_ble_eq_true rfl⟩ dL_place_5 _ _ htab (by decide) (by decide) mw_1302 (fun q9 H locs hw => ?_) (fun r9 H locs hw => ?_)
  · refine lv_astore (lv' := [(4, .ref q9), (0, .ref (E.2.2 + 0)), (1, .int x1), (2, .int x2), (3, .ref (E.2.2 + 233))]) hx hb dL_place_13 hl (by decide) rfl (fun ls hl => ?_)
    refine lv_iconst (v := 1) hx hb dL_place_15 (by decide) ?_
    exact gx_ri9 (post := fun _ σ1 τ1 => σ1 = σ ∧ ∀ c k : Nat, c ≠ 233 → τ1 c k = τ c k) S hr hlk hw dL_place_16 ⟨rfl, fun _ _ _ => rfl⟩
  · refine lv_i2l (v := r9.toInt64) hx hb dL_place_8 rfl ?_
    refine gx_last S hK gx_ok hw t_233 0 rfl (gx_in rfl (by decide) (by decide)) dL_place_9 (fun H locs hw => ?_)
    refine lv_goto (tgt := 17) hx hb dL_place_10 (by decide) ?_
    refine lv_iconst (v := 0) hx hb dL_place_17 (by decide) ?_
    exact gx_ri9 (post := fun _ σ1 τ1 => σ1 = σ ∧ ∀ c k : Nat, c ≠ 233 → τ1 c k = τ c k) S hr hlk hw dL_place_18 ⟨rfl, fun c k h => by simp [upJ, h]⟩
set_option maxHeartbeats 4000000 in
set_option maxRecDepth 100000 in
theorem c_L_of (l : Launch) (hl9 : l.stackTraces = false) {E : gE} (N : Nat) (hN : 4294967296 ≤ N) (σ : gI) (τ : gJ) (x1 x2 : Int32) (hI : IC σ) : gx_Mw l yL_of cL_of 5 [(0, 10, 13, 13)] 7 gx_tb E σ τ [.ref (E.2.2 + 0), .int x1, .int x2, .ref (E.2.2 + 233)] (fun _ σ1 τ1 => σ1 = σ ∧ ∀ c k : Nat, c ≠ 233 → τ1 c k = τ c k) := by
  refine gx_bw (by decide +kernel) (Nat.le_of_ble_eq_true rfl) ?_
  intro P9 e9 s m9 below meth C9 S hr hlk htab hK hT9 hw ls hl
  have S : CallFix P9 m9 C9 cL_of 5 s _ gx_G RL := S
  have hx := S.1
  have hb := S.2.1
  have hl : lv_has ls 5 [(0, .ref (E.2.2 + 0)), (1, .int x1), (2, .int x2), (3, .ref (E.2.2 + 233))] := hl
  refine lv_aload_n hx hb dL_of_0 rfl (lv_at hl 3 rfl) ?_
  refine lv_iconst (v := 0) hx hb dL_of_1 (by decide) ?_
  refine lv_aload_n hx hb dL_of_2 rfl (lv_at hl 0 rfl) ?_
  refine lv_iload_n hx hb dL_of_3 rfl (lv_at hl 1 rfl) ?_
  refine lv_iload_n hx hb dL_of_4 rfl (lv_at hl 2 rfl) ?_
  refine gx_cYi (As := [.int x1, .int x2]) (rest := [.int 0, .ref (E.2.2 + 233)]) S hK hT9 gx_ok hw (c_X11_of l hl9 (E := E) N hN σ τ x1 x2 hI) cw_L_15 t_0 cl_12 ⟨Nat.le_of_ble_eq_true rfl, Nat.le_of_ble_eq_true rfl⟩ rfl hl.1 rfl (Nat.le_of_ble_eq_true rfl) ⟨Nat.le_of_ble_eq_true rfl, Nat.le_of_ble_eq_true rfl⟩ dL_of_5 _ _ htab (by decide) (by decide) mw_1302 (fun q9 H locs hw => ?_) (fun r9 H locs hw => ?_)
  · refine lv_astore (lv' := [(4, .ref q9), (0, .ref (E.2.2 + 0)), (1, .int x1), (2, .int x2), (3, .ref (E.2.2 + 233))]) hx hb dL_of_13 hl (by decide) rfl (fun ls hl => ?_)
    refine lv_iconst (v := 1) hx hb dL_of_15 (by decide) ?_
    exact gx_ri9 (post := fun _ σ1 τ1 => σ1 = σ ∧ ∀ c k : Nat, c ≠ 233 → τ1 c k = τ c k) S hr hlk hw dL_of_16 ⟨rfl, fun _ _ _ => rfl⟩
  · refine lv_i2l (v := r9.toInt64) hx hb dL_of_8 rfl ?_
    refine gx_last S hK gx_ok hw t_233 0 rfl (gx_in rfl (by decide) (by decide)) dL_of_9 (fun H locs hw => ?_)
    refine lv_goto (tgt := 17) hx hb dL_of_10 (by decide) ?_
    refine lv_iconst (v := 0) hx hb dL_of_17 (by decide) ?_
    exact gx_ri9 (post := fun _ σ1 τ1 => σ1 = σ ∧ ∀ c k : Nat, c ≠ 233 → τ1 c k = τ c k) S hr hlk hw dL_of_18 ⟨rfl, fun c k h => by simp [upJ, h]⟩
set_option maxHeartbeats 4000000 in
set_option maxRecDepth 100000 in
theorem c_L_row (l : Launch) (hl9 : l.stackTraces = false) {E : gE} (N : Nat) (hN : 4294967296 ≤ N) (σ : gI) (τ : gJ) (x1 : Int32) (hI : IC σ) : gx_Mw l yL_row cL_row 4 [(0, 8, 11, 13)] 7 gx_tb E σ τ [.ref (E.2.2 + 0), .int x1, .ref (E.2.2 + 233)] (fun _ σ1 τ1 => σ1 = σ ∧ ∀ c k : Nat, c ≠ 233 → τ1 c k = τ c k) := by
  refine gx_bw (by decide +kernel) (Nat.le_of_ble_eq_true rfl) ?_
  intro P9 e9 s m9 below meth C9 S hr hlk htab hK hT9 hw ls hl
  have S : CallFix P9 m9 C9 cL_row 4 s _ gx_G RL := S
  have hx := S.1
  have hb := S.2.1
  have hl : lv_has ls 4 [(0, .ref (E.2.2 + 0)), (1, .int x1), (2, .ref (E.2.2 + 233))] := hl
  refine lv_aload_n hx hb dL_row_0 rfl (lv_at hl 2 rfl) ?_
  refine lv_iconst (v := 0) hx hb dL_row_1 (by decide) ?_
  refine lv_aload_n hx hb dL_row_2 rfl (lv_at hl 0 rfl) ?_
  refine lv_iload_n hx hb dL_row_3 rfl (lv_at hl 1 rfl) ?_
  refine gx_cYl (As := [.int x1]) (rest := [.int 0, .ref (E.2.2 + 233)]) S hK hT9 gx_ok hw (c_X11_row l hl9 (E := E) N hN σ τ x1 hI) cw_L_18 t_0 cl_12 ⟨Nat.le_of_ble_eq_true rfl, Nat.le_of_ble_eq_true rfl⟩ rfl hl.1 rfl (Nat.le_of_ble_eq_true rfl) ⟨Nat.le_of_ble_eq_true rfl, Nat.le_of_ble_eq_true rfl⟩ dL_row_4 _ _ htab (by decide) (by decide) mw_1302 (fun q9 H locs hw => ?_) (fun r9 H locs hw => ?_)
  · refine lv_astore_n (lv' := [(3, .ref q9), (0, .ref (E.2.2 + 0)), (1, .int x1), (2, .ref (E.2.2 + 233))]) hx hb dL_row_11 rfl hl (by decide) rfl (fun ls hl => ?_)
    refine lv_iconst (v := 1) hx hb dL_row_12 (by decide) ?_
    exact gx_ri9 (post := fun _ σ1 τ1 => σ1 = σ ∧ ∀ c k : Nat, c ≠ 233 → τ1 c k = τ c k) S hr hlk hw dL_row_13 ⟨rfl, fun _ _ _ => rfl⟩
  · refine gx_last S hK gx_ok hw t_233 0 rfl (gx_in rfl (by decide) (by decide)) dL_row_7 (fun H locs hw => ?_)
    refine lv_goto (tgt := 14) hx hb dL_row_8 (by decide) ?_
    refine lv_iconst (v := 0) hx hb dL_row_14 (by decide) ?_
    exact gx_ri9 (post := fun _ σ1 τ1 => σ1 = σ ∧ ∀ c k : Nat, c ≠ 233 → τ1 c k = τ c k) S hr hlk hw dL_row_15 ⟨rfl, fun c k h => by simp [upJ, h]⟩
