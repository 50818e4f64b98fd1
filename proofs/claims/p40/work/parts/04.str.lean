/-! TEXTS at any address: a text's cell a, its bytes' cell v, neither among the cells that may change -/
def zs_A (bs : List Int32) (a v : Nat) (E : gE) (U : State) (H : Heap) (sz : Nat) : Prop := vk_S 1 [bs.length] [bs] (fun _ => a) (fun _ => v) (gx_A gx_tb.length E.2.2 sz) U H
def gx_Zi (l : Launch) (y : MethodName) (cc : ByteArray) (mL : Nat) (ret : Option FieldType) (d : Nat) (E : gE) (bs : List Int32) (σ : gI) (τ : gJ) (av : Nat → Nat → List Value) (post : Int32 → gI → gJ → Prop) : Prop :=
  ∀ a v sz : Nat, Met l y (Cond.code y cc mL ret :: gx_G) (gx_rm d) (va_Pc (av a v) (fun U => gx_Pre gx_tb E σ τ sz U ∧ zs_A bs a v E U U.heap sz)) (va_Qi (fun r (u : gI × gJ) => post r u.1 u.2) (fun u t => gx_P gx_tb E u.1 u.2 t.heap) (gx_A gx_tb.length E.2.2 sz)) 0 0 (gx_A gx_tb.length E.2.2 sz)
theorem zs_blind {av : List Value} {E : gE} {σ : gI} {τ : gJ} {sz a v : Nat} {bs : List Int32} : FrameBlind (va_Pc av (fun U => gx_Pre gx_tb E σ τ sz U ∧ zs_A bs a v E U U.heap sz)) := by
  intro a U g mk q
  obtain ⟨q0, ⟨q1, qP, qK⟩, qZ⟩ := q
  exact ⟨q0, ⟨q1, qP, ⟨va_K.moved (u := U) (U := U.calling g mk a) (Vm.Alike.refl U.vm) qK.1, gx_Z.same (s := U) (U := U.calling g mk a) rfl qK.2⟩⟩, vk_S.moved (u := U) (U := U.calling g mk a) (Vm.Alike.refl U.vm) qZ⟩
theorem zs_bi {l : Launch} {y : MethodName} {cc : ByteArray} {mL d : Nat} {ret : Option FieldType} {E : gE} {σ : gI} {τ : gJ} {bs : List Int32} {av : Nat → Nat → List Value} {post : Int32 → gI → gJ → Prop} (hy : plainName y.cls = true) (hlen : ∀ a v, (lg_sl (av a v)).length ≤ mL)
    (body : ∀ (a v : Nat) (p : Program) (e : Env) (s : State) (m : MethodId) (below : List Frame) (meth : Method) (c : Code), CallFix p m c cc mL s (av a v).toArray gx_G y.cls → meth.sig.returnType = ret → meth.locks = false → gx_K E s → zs_A bs a v E s s.heap s.heap.size → gx_W gx_tb gx_tb.length E s σ τ s.heap [] → ∀ ls : Array Slot, lv_has ls mL (lv_args 0 (av a v)) →
      W p l e (gx_rm d) s m (av a v).toArray below meth c s.heap [] 0 0 (MQ below (va_Qi (fun r (u : gI × gJ) => post r u.1 u.2) (fun u t => gx_P gx_tb E u.1 u.2 t.heap) (gx_A gx_tb.length E.2.2 s.heap.size)) (av a v).toArray s 0 0 (gx_A gx_tb.length E.2.2 s.heap.size)) (F0 m 0 ls [])) : gx_Zi l y cc mL ret d E bs σ τ av post := by
  intro a v sz
  refine gx_begin (Qc := fun sz => va_Qi (fun r (u : gI × gJ) => post r u.1 u.2) (fun u t => gx_P gx_tb E u.1 u.2 t.heap) (gx_A gx_tb.length E.2.2 sz)) (A := fun sz => gx_A gx_tb.length E.2.2 sz) hy (fun a U h => h.1) (hlen a v) (fun a U h => h.2.1.1) ?_
  intro p e s m below meth c S hr hlk _ hv hz ls hl
  exact body a v p e s m below meth c S hr hlk hv.2.1.2.2 (by rw [hz]; exact hv.2.2) ⟨hv.2.1.2.1, va_S.rf⟩ ls hl
section ZS
variable {p : Program} {l : Launch} {e : Env} {R : Room} {s : State} {m : MethodId} {args : Array Value} {below : List Frame} {meth : Method} {c : Code} {H : Heap} {locs : List Loc} {cells slots : Nat} {Q : State → Prop}
variable {cc cc' : ByteArray} {pc nL mL d n idx i a v : Nat} {ls : Array Slot} {st rest As : List Value} {own : String} {E : gE} {σ : gI} {τ : gJ} {y : MethodName} {ret : Option FieldType} {bs : List Int32} {av : Nat → Nat → List Value}
/-- the text as it lies in a later heap, for a callee that may change less -/
theorem zs_h (hZ : zs_A bs a v E s s.heap s.heap.size) (hw : gx_W gx_tb gx_tb.length E s σ τ H locs) : zs_A bs a v E s H H.size := by
  refine (vk_S.kept hZ (fun a h1 h2 => hw.2.2.1 a h1 h2)).narrow (fun q h => ?_)
  rcases h with h | h
  · exact Or.inl h
  · exact Or.inr (Nat.le_trans hw.2.1 h)
theorem zs_k {n0 : Nat} {q : String × Nat × String × List Int32} (hK : gx_K E s) (hw : gx_W gx_tb n0 E s σ τ H locs) (hq : gx_ss[i]? = some q) : zs_A q.2.2.2 (E.1.2.1 i) (E.1.2.2 i) E s H H.size := by
  have hS := gx_SB hK hw
  refine (vk_S.kept (hK.2.1 i q hq).1 (fun a h1 h2 => hS.2.1 a h1 h2)).narrow (fun q h => ?_)
  have hz : E.2.2 ≤ s.heap.size := hK.2.2.2.2.2.1
  rcases h with h | h
  · exact h.1
  · exact Nat.le_trans hz (Nat.le_trans hw.2.1 h)
theorem zs_r (hz : zs_A bs a v E s H n) (hy : y.cls = "java/lang/String") : ∃ cell : Cell, H[a]? = some cell ∧ cell.vm.isStatics = false ∧ s.vm.findClass y.cls = some cell.cls := by
  obtain ⟨cell, h1, h2, h3, -⟩ := (hz.1 0 (by decide)).1
  rw [hy]
  exact ⟨cell, h1, h2, h3⟩
theorem zs_cod (S : CallFix p m c cc nL s args gx_G own) (hZ : zs_A bs a v E s s.heap s.heap.size) (hw : gx_W gx_tb gx_tb.length E s σ τ H locs) (hl : Cond.fieldLink own idx "java/lang/String" "coder" "B" ∈ gx_G) (hdg : decode cc pc = .ok (.getfield idx, 3))
    (kk : W p l e R s m args below meth c H locs cells slots Q (F0 m (pc + 3) ls (.int 0 :: rest))) : W p l e R s m args below meth c H locs cells slots Q (F0 m pc ls (.ref a :: rest)) :=
  vk_getf S.1 S.2.1 (hZ.1 0 (by decide)).2.1 hw.2 S.2.2.2.1 (S.2.2.2.2 _ hl) (fun _ h => h) hdg kk
theorem zs_val (S : CallFix p m c cc nL s args gx_G own) (hZ : zs_A bs a v E s s.heap s.heap.size) (hw : gx_W gx_tb gx_tb.length E s σ τ H locs) (hl : Cond.fieldLink own idx "java/lang/String" "value" "[B" ∈ gx_G) (hdg : decode cc pc = .ok (.getfield idx, 3))
    (kk : W p l e R s m args below meth c H locs cells slots Q (F0 m (pc + 3) ls (.ref v :: rest))) : W p l e R s m args below meth c H locs cells slots Q (F0 m pc ls (.ref a :: rest)) :=
  vk_getf S.1 S.2.1 (hZ.1 0 (by decide)).2.2.1 hw.2 S.2.2.2.1 (S.2.2.2.2 _ hl) (fun _ h => h) hdg kk
theorem zs_len (S : CallFix p m c cc nL s args gx_G own) (hZ : zs_A bs a v E s s.heap s.heap.size) (hw : gx_W gx_tb gx_tb.length E s σ τ H locs) (hdg : decode cc pc = .ok (.arraylength, 1))
    (kk : W p l e R s m args below meth c H locs cells slots Q (F0 m (pc + 1) ls (.int (Int32.ofNat bs.length) :: rest))) : W p l e R s m args below meth c H locs cells slots Q (F0 m pc ls (.ref v :: rest)) :=
  va_tlen S.1 S.2.1 (hZ.1 0 (by decide)).2.2.2 hw.2 rfl hdg kk
theorem zs_bal {x : Int32} (S : CallFix p m c cc nL s args gx_G own) (hZ : zs_A bs a v E s s.heap s.heap.size) (hw : gx_W gx_tb gx_tb.length E s σ τ H locs) (j : Nat) (hj : x.toNatClampNeg = j) (hin : vp_in x bs.length) (hdg : decode cc pc = .ok (.baload, 1))
    (kk : W p l e R s m args below meth c H locs cells slots Q (F0 m (pc + 1) ls (.int (bs.getD j 0) :: rest))) : W p l e R s m args below meth c H locs cells slots Q (F0 m pc ls (.int x :: .ref v :: rest)) :=
  va_tb S.1 S.2.1 (hZ.1 0 (by decide)).2.2.2 hw.2 hin (by subst hj; rfl) hdg kk
theorem zs_V {rb : Nat} {post : Int32 → gI → gJ → Prop} (S : CallFix p m c cc nL s args gx_G own) (hK : gx_K E s) (hw : gx_W gx_tb gx_tb.length E s σ τ H locs) (hz : zs_A bs a v E s H H.size) (M : gx_Zi l y cc' mL ret d E bs σ τ av post) (hav : av a v = .ref rb :: As) (w : gx_Wv own idx y cc' mL ret n) (hrc : ∃ cell : Cell, H[rb]? = some cell ∧ cell.vm.isStatics = false ∧ s.vm.findClass y.cls = some cell.cls) (hR : d + 1 ≤ R.frames ∧ 8 + (mL + 11) + 40 * d ≤ R.locals) (hn : As.length = n) (hls : ls.size = nL) (hst : st = As.reverse ++ .ref rb :: rest) (hW : (rest.map fun v => v.category).sum ≤ 8) (hf : cells + 0 ≤ R.cells ∧ slots + 0 ≤ R.slots) (hdg : decode cc pc = .ok (.invokevirtual idx, 3))
    (kk : ∀ (r : Int32) (σ' : gI) (τ' : gJ) (H1 : Heap) (locs1 : List Loc), post r σ' τ' → gx_W gx_tb gx_tb.length E s σ' τ' H1 locs1 → W p l e R s m args below meth c H1 locs1 cells slots Q (F0 m (pc + 3) ls (.int r :: rest))) : W p l e R s m args below meth c H locs cells slots Q (F0 m pc ls st) := by
  subst hst
  have M9 := M a v H.size
  rw [hav] at M9
  refine va_calli (va_runV (As := As) (rest := rest) (b := rb) S M9 (cwV n S.2.2.2.2 (gx_goodV w) rfl rfl rfl ⟨rfl, w.2⟩ hR) ⟨zs_blind, hrc, fun U hU hW9 => ⟨rfl, ⟨by rw [hU], by rw [hU]; exact hw.1, gx_K.move hW9 hU hw hK⟩, by rw [hU]; exact vk_S.moved hW9.alike hz⟩⟩ rfl hn hls rfl (lv_room hW) hdg hf) hw.2 (fun q1 _ h => gx_sub gx_ok hw h) (fun q1 h => gx_sub gx_ok hw h) ?_
  intro r u t H1 locs1 ht hvm hp hB hz hk hS
  exact kk r u.1 u.2 H1 locs1 hp ⟨by rw [← ht]; exact hB, hS⟩
theorem zs_S {post : Int32 → gI → gJ → Prop} (S : CallFix p m c cc nL s args gx_G own) (hK : gx_K E s) (hw : gx_W gx_tb gx_tb.length E s σ τ H locs) (hz : zs_A bs a v E s H H.size) (M : gx_Zi l y cc' mL ret d E bs σ τ av post) (hav : av a v = As) (w : gx_Ws own idx y cc' mL ret n) (hR : d + 1 ≤ R.frames ∧ 8 + (mL + 11) + 40 * d ≤ R.locals) (hn : As.length = n) (hls : ls.size = nL) (hst : st = As.reverse ++ rest) (hW : (rest.map fun v => v.category).sum ≤ 8) (hf : cells + 0 ≤ R.cells ∧ slots + 0 ≤ R.slots) (hdg : decode cc pc = .ok (.invokestatic idx, 3))
    (kk : ∀ (r : Int32) (σ' : gI) (τ' : gJ) (H1 : Heap) (locs1 : List Loc), post r σ' τ' → gx_W gx_tb gx_tb.length E s σ' τ' H1 locs1 → W p l e R s m args below meth c H1 locs1 cells slots Q (F0 m (pc + 3) ls (.int r :: rest))) : W p l e R s m args below meth c H locs cells slots Q (F0 m pc ls st) := by
  subst hst
  have M9 := M a v H.size
  rw [hav] at M9
  refine va_calli (va_runS (As := As) (rest := rest) S M9 (va_cwS n S.2.2.2.2 (gx_goodS w) rfl rfl rfl w.2 hR) ⟨zs_blind, fun U hU hW9 => ⟨rfl, ⟨by rw [hU], by rw [hU]; exact hw.1, gx_K.move hW9 hU hw hK⟩, by rw [hU]; exact vk_S.moved hW9.alike hz⟩⟩ rfl hn hls rfl (lv_room hW) hdg hf) hw.2 (fun q1 _ h => gx_sub gx_ok hw h) (fun q1 h => gx_sub gx_ok hw h) ?_
  intro r u t H1 locs1 ht hvm hp hB hz hk hS
  exact kk r u.1 u.2 H1 locs1 hp ⟨by rw [← ht]; exact hB, hS⟩
end ZS
theorem nar_c (x : Int32) : narrow .char (.int (x.toUInt32 % 65536).toInt32) = .int (x.toUInt32 % 65536).toInt32 := by
  show Value.int _ = Value.int _
  congr 1
  apply Int32.toBitVec_inj.mp
  simp only [UInt32.toBitVec_toInt32, UInt32.toBitVec_mod]
  have h : ∀ z : BitVec 32, ((z % 65536#32).setWidth 16).setWidth 32 = z % 65536#32 := by
    intro z
    apply BitVec.eq_of_toNat_eq
    simp
    omega
  exact h _
