/-! methods with a row that catches -/
def gx_Mw (l : Launch) (y : MethodName) (cc : ByteArray) (mL : Nat) (hh : List (Nat × Nat × Nat × Nat)) (d : Nat) (tb : List gD) (E : gE) (σ : gI) (τ : gJ) (av : List Value) (post : Int32 → gI → gJ → Prop) : Prop :=
  ∀ sz : Nat, Met l y (Cond.codeWith y cc mL (some .int) hh :: gx_G) (gx_rc d 1 6) (va_Pc av (gx_Pt tb E σ τ sz)) (va_Qi (fun r (u : gI × gJ) => post r u.1 u.2) (fun u t => gx_P tb E u.1 u.2 t.heap) (gx_A tb.length E.2.2 sz)) 1 6 (gx_A tb.length E.2.2 sz)
section GTW
variable {p : Program} {l : Launch} {e : Env} {R : Room} {s : State} {m : MethodId} {args : Array Value} {below : List Frame} {meth : Method} {c : Code} {H : Heap} {locs : List Loc} {cells slots : Nat} {Q : State → Prop}
variable {cc cc' : ByteArray} {pc nL mL d n idx n0 : Nat} {ls : Array Slot} {st rest As av : List Value} {own : String} {tb : List gD} {E : gE} {σ : gI} {τ : gJ} {y : MethodName} {ret : Option FieldType} {hh : List (Nat × Nat × Nat × Nat)}
theorem gx_bw {post : Int32 → gI → gJ → Prop} (hy : plainName y.cls = true) (hlen : (lg_sl av).length ≤ mL)
    (body : ∀ (p : Program) (e : Env) (s : State) (m : MethodId) (below : List Frame) (meth : Method) (c : Code), CallFix p m c cc mL s av.toArray gx_G y.cls → meth.sig.returnType = some .int → meth.locks = false → c.exceptionTable.toList = tableOf hh → gx_K E s → gx_T s → gx_W tb tb.length E s σ τ s.heap [] → ∀ ls : Array Slot, lv_has ls mL (lv_args 0 av) →
      W p l e (gx_rc d 1 6) s m av.toArray below meth c s.heap [] 0 0 (MQ below (va_Qi (fun r (u : gI × gJ) => post r u.1 u.2) (fun u t => gx_P tb E u.1 u.2 t.heap) (gx_A tb.length E.2.2 s.heap.size)) av.toArray s 1 6 (gx_A tb.length E.2.2 s.heap.size)) (F0 m 0 ls [])) : gx_Mw l y cc mL hh d tb E σ τ av post := by
  intro sz
  refine va_MetW (cc := cc) (maxL := mL) (ret := some .int) (hh := hh) hy rfl ?_
  intro p e s m args below meth c s₁ B hml hv
  obtain ⟨rfl, ⟨rfl, hP, hK⟩, hT⟩ := hv
  have hts := atoms_spec (ws := Cond.codeWith y cc mL (some .int) hh :: gx_G) B.pre
  have hl := lv_entry av (n := mL) hlen
  rw [lg_entry_eq]
  exact body p e s m below meth c ⟨B.exec, B.bytes, hml, findClass_of_methodNamed B.named, fun w hw => hts w (List.mem_cons_of_mem _ hw)⟩ B.returns B.notSynchronized (vx_table (x := y) B (hts _ List.mem_cons_self)) hK hT ⟨hP, va_S.rf⟩ _ hl
theorem gx_ri9 {post : Int32 → gI → gJ → Prop} {v : Int32} (S : CallFix p m c cc nL s args gx_G own) (hr : meth.sig.returnType = some .int) (hlk : meth.locks = false) (hw : gx_W tb tb.length E s σ τ H locs) (hdg : decode cc pc = .ok (.ireturn, 1)) (hp : post v σ τ) :
    W p l e R s m args below meth c H locs 1 6 (MQ below (va_Qi (fun r (u : gI × gJ) => post r u.1 u.2) (fun u t => gx_P tb E u.1 u.2 t.heap) (gx_A tb.length E.2.2 s.heap.size)) args s 1 6 (gx_A tb.length E.2.2 s.heap.size)) (F0 m pc ls [.int v]) :=
  W.zret S.1 S.2.1 hr rfl (fun t ht _ => ⟨⟨v, (σ, τ), rfl, hp, by subst ht; exact hw.1⟩, hw.2.F ht⟩) hw.2.2.2 hdg hlk
theorem gx_goodV0 {own : String} {idx : Nat} {y : MethodName} {cc : ByteArray} {mL : Nat} {ret : Option FieldType} {n : Nat} (w : gx_Wv own idx y cc mL ret n) : GoodIn gx_G (wsV own idx y.cls y (Cond.code y cc mL ret :: gx_G)) := gx_goodV w
/-- a call that throws for sure, caught by this method's one row (int) -/
theorem gx_cXi {q : Nat} (S : CallFix p m c cc nL s args gx_G own) (hK : gx_K E s) (hT9 : gx_T s) (hA : gx_Ok tb n0 E s) (hw : gx_W tb n0 E s σ τ H locs) (M : gx_Mt l y cc' mL ret d tb E σ τ (.ref (E.2.2 + q) :: As) (fun sz => va_Qi (fun _ (_ : Unit) => False) (fun _ _ => True) (gx_A tb.length E.2.2 sz))) (w : gx_Wv own idx y cc' mL ret n) {ci N : Nat} {T : u_T} {fds : List (Option (Option Nat))} (hT : tb[q]? = some (.inl (ci, fds))) (hC : gx_C ci y.cls T N) (hR : d + 1 ≤ R.frames ∧ 8 + (mL + 11) + 40 * d ≤ R.locals) (hn : As.length = n) (hls : ls.size = nL) (hst : st = As.reverse ++ .ref (E.2.2 + q) :: rest) (hW : (rest.map fun v => v.category).sum ≤ 8) (hf : cells + 1 ≤ R.cells ∧ slots + 6 ≤ R.slots) (hdg : decode cc pc = .ok (.invokevirtual idx, 3))
    (x : ExceptionTableEntry) (suf : List ExceptionTableEntry) (hsplit : c.exceptionTable.toList = x :: suf) (hx : covers x pc = true) (h0 : x.catchType ≠ 0) (hlink : Cond.classLink own x.catchType gt_X ∈ gx_G)
    (kk : ∀ (q9 : Nat) (H1 : Heap) (locs1 : List Loc), gx_W tb n0 E s σ τ H1 locs1 → W p l e R s m args below meth c H1 locs1 (cells + 1) (slots + 6) Q (F0 m x.handlerPc ls [.ref q9])) : W p l e R s m args below meth c H locs cells slots Q (F0 m pc ls st) := by
  subst hst
  refine vx_calli (vx_runV (As := As) (rest := rest) (b := E.2.2 + q) S (M H.size) (cwV n S.2.2.2.2 (gx_goodV w) rfl rfl rfl ⟨rfl, w.2⟩ hR) ⟨gx_blindT, va_recv hK.1 hw.1 hC.1 (gx_at hT), fun U hU hW9 => ⟨rfl, ⟨by rw [hU], by rw [hU]; exact hw.1, gx_K.move hW9 hU hw hK⟩, gx_T.warm hW9 hT9⟩⟩ rfl hn hls rfl (lv_room hW) hdg hf) hw.2 (fun q1 _ h => gx_sub hA hw h) (fun q1 h => gx_sub hA hw h) (fun q1 _ h => gx_sub hA hw h) ?_ (fun r u t H1 locs1 _ _ hp => False.elim hp)
  intro E9 ce q9 u t H1 locs1 ht hvm hp hB hz hk hS hce hcv hcl
  obtain ⟨rfl, hB⟩ := hB
  exact vx_catch S.2.2.2.1 x suf hsplit hx h0 (S.2.2.2.2 _ hlink) (va_tabs rfl rfl hT9.2) hce hcv hcl (kk q9 H1 locs1 ⟨by rw [← ht]; exact hB, hS⟩)
theorem gx_cXl {q : Nat} (S : CallFix p m c cc nL s args gx_G own) (hK : gx_K E s) (hT9 : gx_T s) (hA : gx_Ok tb n0 E s) (hw : gx_W tb n0 E s σ τ H locs) (M : gx_Mt l y cc' mL ret d tb E σ τ (.ref (E.2.2 + q) :: As) (fun sz => va_Ql (fun _ (_ : Unit) => False) (fun _ _ => True) (gx_A tb.length E.2.2 sz))) (w : gx_Wv own idx y cc' mL ret n) {ci N : Nat} {T : u_T} {fds : List (Option (Option Nat))} (hT : tb[q]? = some (.inl (ci, fds))) (hC : gx_C ci y.cls T N) (hR : d + 1 ≤ R.frames ∧ 8 + (mL + 11) + 40 * d ≤ R.locals) (hn : As.length = n) (hls : ls.size = nL) (hst : st = As.reverse ++ .ref (E.2.2 + q) :: rest) (hW : (rest.map fun v => v.category).sum ≤ 8) (hf : cells + 1 ≤ R.cells ∧ slots + 6 ≤ R.slots) (hdg : decode cc pc = .ok (.invokevirtual idx, 3))
    (x : ExceptionTableEntry) (suf : List ExceptionTableEntry) (hsplit : c.exceptionTable.toList = x :: suf) (hx : covers x pc = true) (h0 : x.catchType ≠ 0) (hlink : Cond.classLink own x.catchType gt_X ∈ gx_G)
    (kk : ∀ (q9 : Nat) (H1 : Heap) (locs1 : List Loc), gx_W tb n0 E s σ τ H1 locs1 → W p l e R s m args below meth c H1 locs1 (cells + 1) (slots + 6) Q (F0 m x.handlerPc ls [.ref q9])) : W p l e R s m args below meth c H locs cells slots Q (F0 m pc ls st) := by
  subst hst
  refine vx_calll (vx_runV (As := As) (rest := rest) (b := E.2.2 + q) S (M H.size) (cwV n S.2.2.2.2 (gx_goodV w) rfl rfl rfl ⟨rfl, w.2⟩ hR) ⟨gx_blindT, va_recv hK.1 hw.1 hC.1 (gx_at hT), fun U hU hW9 => ⟨rfl, ⟨by rw [hU], by rw [hU]; exact hw.1, gx_K.move hW9 hU hw hK⟩, gx_T.warm hW9 hT9⟩⟩ rfl hn hls rfl (lv_room hW) hdg hf) hw.2 (fun q1 _ h => gx_sub hA hw h) (fun q1 h => gx_sub hA hw h) (fun q1 _ h => gx_sub hA hw h) ?_ (fun r u t H1 locs1 _ _ hp => False.elim hp)
  intro E9 ce q9 u t H1 locs1 ht hvm hp hB hz hk hS hce hcv hcl
  obtain ⟨rfl, hB⟩ := hB
  exact vx_catch S.2.2.2.1 x suf hsplit hx h0 (S.2.2.2.2 _ hlink) (va_tabs rfl rfl hT9.2) hce hcv hcl (kk q9 H1 locs1 ⟨by rw [← ht]; exact hB, hS⟩)
def gx_Wsw (own : String) (idx : Nat) (y : MethodName) (cc : ByteArray) (mL : Nat) (hh : List (Nat × Nat × Nat × Nat)) (n : Nat) : Prop := (Cond.methodLink own idx y ∈ gx_G ∧ Cond.static y ∈ gx_G ∧ Cond.initialized y.cls ∈ gx_G ∧ Cond.codeWith y cc mL (some .int) hh ∈ gx_G) ∧ y.cls ≠ "java/lang/invoke/MethodHandle" ∧ y.cls ≠ "java/lang/invoke/VarHandle" ∧ (parseMethodDescriptor y.desc).map (fun d => d.parameters.length) = some n
theorem gx_goodSw (w : gx_Wsw own idx y cc mL hh n) : GoodIn gx_G (va_wsS own idx y (Cond.codeWith y cc mL (some .int) hh :: gx_G)) := by
  obtain ⟨⟨h1, h2, h3, h4⟩, -⟩ := w
  intro w9 hw9
  have h9 : w9 ∈ gx_G := by
    unfold va_wsS at hw9
    rcases List.mem_append.mp hw9 with h | h
    · simp only [List.mem_cons, List.not_mem_nil, or_false] at h
      rcases h with rfl | rfl | rfl <;> assumption
    · rcases List.mem_cons.mp h with rfl | h
      · exact h4
      · exact h
  exact ⟨h9, gx_good h9⟩
/-- a static call of a method with a row that catches -/
theorem gx_cSw {post : Int32 → gI → gJ → Prop} (S : CallFix p m c cc nL s args gx_G own) (hK : gx_K E s) (hT9 : gx_T s) (hA : gx_Ok tb n0 E s) (hw : gx_W tb n0 E s σ τ H locs) (M : gx_Mw l y cc' mL hh d tb E σ τ As post) (w : gx_Wsw own idx y cc' mL hh n) (hR : d + 1 ≤ R.frames ∧ 8 + (mL + 11) + 40 * d ≤ R.locals) (hn : As.length = n) (hls : ls.size = nL) (hst : st = As.reverse ++ rest) (hW : (rest.map fun v => v.category).sum ≤ 8) (hf : cells + 1 ≤ R.cells ∧ slots + 6 ≤ R.slots) (hdg : decode cc pc = .ok (.invokestatic idx, 3))
    (kk : ∀ (r : Int32) (σ' : gI) (τ' : gJ) (H1 : Heap) (locs1 : List Loc), post r σ' τ' → gx_W tb n0 E s σ' τ' H1 locs1 → W p l e R s m args below meth c H1 locs1 (cells + 1) (slots + 6) Q (F0 m (pc + 3) ls (.int r :: rest))) : W p l e R s m args below meth c H locs cells slots Q (F0 m pc ls st) := by
  subst hst
  refine va_calli (vx_runSW (As := As) (rest := rest) S (M H.size) (vx_cwSW n S.2.2.2.2 (gx_goodSw w) rfl rfl rfl w.2 hR) ⟨gx_blindT, fun U hU hW9 => ⟨rfl, ⟨by rw [hU], by rw [hU]; exact hw.1, gx_K.move hW9 hU hw hK⟩, gx_T.warm hW9 hT9⟩⟩ rfl hn hls rfl (lv_room hW) hdg hf) hw.2 (fun q1 _ h => gx_sub hA hw h) (fun q1 h => gx_sub hA hw h) ?_
  intro r u t H1 locs1 ht hvm hp hB hz hk hS
  exact kk r u.1 u.2 H1 locs1 hp ⟨by rw [← ht]; exact hB, hS⟩
end GTW
