/-! THROWS: a maker of an exception whose own link has another index than the library's row for them asks -/
def gt_X : String := "java/util/NoSuchElementException"
def gt_b : ByteArray := ⟨#[0x2a, 0x2b, 0xb7, 0x00, 0x0d, 0xb1]⟩
theorem gt_b0 : decode gt_b 0 = .ok (.aload_n 0, 1) := by decide +kernel
theorem gt_b1 : decode gt_b 1 = .ok (.aload_n 1, 1) := by decide +kernel
theorem gt_b2 : decode gt_b 2 = .ok (.invokespecial 13, 3) := by decide +kernel
theorem gt_b5 : decode gt_b 5 = .ok (.return_, 1) := by decide +kernel
def gt_no (w : Cond) : Bool := decide (w ≠ .castable gt_X gt_X) && decide (w ≠ .code (Bundle.initS gt_X) Bundle.six 2 none) && decide (w ≠ .methodLink gt_X 7 (Bundle.initS "java/lang/RuntimeException"))
def gt_A : List Cond := (Bundle.ownAtoms RX11 144 gt_X ["java/lang/RuntimeException", "java/lang/Exception"]).filter gt_no
def gt_P : List Cond := Bundle.passSAtoms gt_X "java/lang/RuntimeException" 13 gt_b
theorem gt_1 : ∀ w ∈ Bundle.throwableAtoms, w ∈ gt_A := by decide +kernel
theorem gt_2 : ∀ w ∈ Bundle.throwableSAtoms, w ∈ gt_A := by decide +kernel
theorem gt_3 : ∀ w ∈ Bundle.chainSAtoms "java/lang/RuntimeException" ["java/lang/Exception"], w ∈ gt_A := by decide +kernel
theorem gt_all : ∀ w ∈ gt_A.filter vx_no, w ∈ lw_tbl := by decide +kernel
theorem gt_allP : ∀ w ∈ gt_P, w ∈ lw_tbl := by decide +kernel
theorem gt_A2 : ∀ w ∈ (gt_A.filter vx_no).filter (fun w => !goodWord w), w ∈ [Cond.declares (Bundle.initS "java/lang/RuntimeException"), Cond.declares (Bundle.initS "java/lang/Exception"), Cond.declares (Bundle.initS Bundle.tN)] := by decide +kernel
theorem gt_P2 : ∀ w ∈ gt_P.filter (fun w => !goodWord w), w ∈ [Cond.declares (Bundle.initS "java/lang/RuntimeException"), Cond.declares (Bundle.initS "java/lang/Exception"), Cond.declares (Bundle.initS Bundle.tN)] := by decide +kernel
theorem gt_goodP : gt_P.all vx_ot = true := by decide +kernel
theorem gt_c : Cond.classLink RX11 140 gt_X ∈ gx_G := List.mem_filter.mpr ⟨by decide +kernel, by decide +kernel⟩
theorem gt_i : Cond.initialized gt_X ∈ gx_G := List.mem_filter.mpr ⟨by decide +kernel, by decide +kernel⟩
/-- words of the tables that a warmed machine keeps, but that are no good words -/
def gx_T (U : State) : Prop := (∀ w ∈ [Cond.declares (Bundle.initS "java/lang/RuntimeException"), Cond.declares (Bundle.initS "java/lang/Exception"), Cond.declares (Bundle.initS Bundle.tN)], va_Nw w U) ∧ va_Nw (.castable gt_X gt_X) U
theorem gx_T.same {s U : State} (hV : s.vm = U.vm) (h : gx_T s) : gx_T U := by
  refine ⟨fun w hw => ?_, va_tabs rfl hV h.2⟩
  have h1 := h.1 w hw
  have h2 : w.onTables = true := by
    simp only [List.mem_cons, List.not_mem_nil, or_false] at hw
    rcases hw with rfl | rfl | rfl <;> rfl
  exact va_tabs h2 hV h1
theorem gx_T.warm {s U : State} (hW : s.WarmedH U.vm) (h : gx_T s) : gx_T U := by
  refine ⟨fun w hw => ?_, va_tabs rfl (rfl : (s.setVm U.vm).vm = U.vm) (by rw [Cond.castable_setVm hW.alike]; exact h.2)⟩
  have h1 := h.1 w hw
  simp only [List.mem_cons, List.not_mem_nil, or_false] at hw
  rcases hw with rfl | rfl | rfl
  · exact va_Nw.warmD hW h1
  · exact va_Nw.warmD hW h1
  · exact va_Nw.warmD hW h1
theorem gt_hat {args : Array Value} {s : State} {L : List Cond} (hg : ∀ w ∈ gx_G, w.before args s = true) (hL : ∀ w ∈ L, w ∈ lw_tbl) (h2 : ∀ w ∈ L.filter (fun w => !goodWord w), w ∈ [Cond.declares (Bundle.initS "java/lang/RuntimeException"), Cond.declares (Bundle.initS "java/lang/Exception"), Cond.declares (Bundle.initS Bundle.tN)]) (hT : gx_T s) : ∀ w ∈ L, w.before args s = true := by
  refine vx_hat (fun w hw => ?_) h2 (fun w hw => ?_)
  · have h1 := List.mem_filter.mp hw
    exact hg w (List.mem_filter.mpr ⟨hL w h1.1, h1.2⟩)
  · have h1 := hT.1 w hw
    have h3 : w.onTables = true := by
      simp only [List.mem_cons, List.not_mem_nil, or_false] at hw
      rcases hw with rfl | rfl | rfl <;> rfl
    exact va_tabs h3 rfl h1
theorem gt_good : (gt_A.filter vx_no).all vx_ot = true := by decide +kernel
section GT
variable {p : Program} {l : Launch} {e : Env} {R : Room} {s : State} {m : MethodId} {args : Array Value} {below : List Frame} {meth : Method} {c : Code} {U9 : State} {locs : List Loc} {cells slots : Nat}
set_option maxHeartbeats 1000000 in
/-- the maker runs, the new object is thrown and leaves the method -/
theorem gt_ctor (X : Stand p l e R s m args below meth c U9 locs cells slots) (hexec : p.tables.exec = Jvm.exec) (htr : e.platform.stackTraces = false) (hown : s.vm.findClass RX11 = some m.cls)
    (h : ∀ w ∈ gt_A, w.before args s = true) (h13 : ∀ w ∈ gt_P, w.before args s = true) (hlocs : ∀ x ∈ locs, ∀ cell, s.heap[x.base]? = some cell → cell.vm.isStatics = false)
    {a : Addr} {cX : ClassId} {kX : Class} (hfX : s.vm.findClass gt_X = some cX) (hkX : s.vm.classes[cX]? = some kX) (hcell : U9.heap[a]? = some (freshCell cX kX)) (hnew : s.heap.size ≤ a) {msg : Value} (hmsg : msg.isRef = true)
    {g : JFrame} (hg : g.method = m) (hsize : g.locals.size = c.maxLocals) (hlocked : g.locked = none) (hentered : g.entered = []) {rest : List Value} (hstack : g.stack = msg :: .ref a :: .ref a :: rest)
    (hd6 : decode c.code g.pc = .ok (.invokespecial 144, 3)) (hd9 : decode c.code (g.pc + 3) = .ok (.athrow, 1)) (hout : ∀ x ∈ c.exceptionTable.toList, covers x (g.pc + 3) = false)
    (hRf : 5 < R.frames) (hRl : 2 * g.monitorRoom + ((Value.ref a :: rest).map fun v => v.category).sum + 81 ≤ R.locals) (hlocks : meth.locks = false) :
    ∃ U : State, Steps p.tables e below (U9.setTop g) U ∧ U.status = .running ∧ Ended U below (.threw a) ∧ s.WarmedH U.vm ∧ s.sameButNew ({ U with vm := s.vm } : State) locs cells slots ∧
      ∃ ce, U.heap[a]? = some ce ∧ ce.vm = .none ∧ s.vm.findClass gt_X = some ce.cls := by
  have hpl : e.platform.magicAccessors = ({} : Platform).magicAccessors := by rw [X.admits.platform]
  have z : ∀ w, w ∈ gt_A → w.holds args s none s [] = true := fun w hw => h w hw
  obtain ⟨T, Z0, L, -, Y⟩ := ThrowableC.of_atoms (args := args) (by rw [X.admits.platform] : e.platform.frameOwnsMonitors = true) (by rw [X.admits.platform] : e.platform.finalization = false) hpl (fun w hw => h w (gt_1 w hw))
  obtain ⟨Z, M, LZ, LM, hnZ⟩ := Init0T.ofS_atoms (args := args) hpl L Y (fun w hw => h w (gt_2 w hw))
  obtain ⟨P1, L1, hP1m, hP1s⟩ := PassC.ofS_atoms (args := args) (s := s) hpl (X := gt_X) (Y := "java/lang/RuntimeException") (by decide +kernel) (by decide) gt_b0 gt_b1 gt_b2 gt_b5 h13
  obtain ⟨P2, Ps, hlen, L2, hL, hP2m, hlink1, hlink⟩ := Bundle.chainS (args := args) hpl hnZ ["java/lang/Exception"] "java/lang/RuntimeException" (by decide +kernel) (by decide +kernel) (fun w hw => h w (gt_3 w hw))
  have hfound : s.vm.findClass gt_X = some P1.m.cls := findClass_of_methodNamed hP1m
  cases Option.some.inj (hfX.symm.trans hfound)
  obtain ⟨c1, k1, hc1, hk, hord, -, -, hn6⟩ := Cond.instantiable_spec (z (.instantiable gt_X 6) (by decide +kernel))
  cases Option.some.inj (hc1.symm.trans hfound)
  cases Option.some.inj (hkX.symm.trans hk)
  have hsel : ∀ (y : MethodName) (id : MethodId), (y.cls ≠ "java/lang/invoke/MethodHandle" ∧ y.cls ≠ "java/lang/invoke/VarHandle") → s.methodNamed? y = some id → Cond.selects gt_X y y ∈ gt_A → selectMethod e.platform s.vm P1.m.cls id = .method id := by
    intro y id hy hyn hyw
    obtain ⟨c2, r2, m2, q1, q2, q3, q4, -⟩ := Cond.selects_spec (z _ hyw)
    cases Option.some.inj (q1.symm.trans hfound)
    cases Option.some.inj (q2.symm.trans (State.methodFound?_of_named hyn hy))
    cases Option.some.inj (q3.symm.trans hyn)
    rw [Launch.admits_selectMethod X.admits]; exact q4
  have hsel0 := hsel _ _ (by decide) Y.fill0 (by decide +kernel)
  have hselF := hsel _ _ (by decide) Y.fill (by decide +kernel)
  obtain ⟨cS0, hcS0, hiss⟩ := Y.statics
  obtain ⟨u0, hu0⟩ := Cond.staticRefV Y.unassigned L.unassignedStatic L.statics hcS0 hiss (z (.isRef (.static Bundle.tN "UNASSIGNED_STACK" Bundle.steD)) (by decide +kernel))
  obtain ⟨sen, hsen⟩ := Cond.staticRefV Y.sentinel L.sentinelStatic L.statics hcS0 hiss (z (.isRef (.static Bundle.tN "SUPPRESSED_SENTINEL" Bundle.listD)) (by decide +kernel))
  obtain ⟨ci198, i198, fB, hk198, hg198, ha198, hsB, -, hnB, htB, hffB⟩ := Cond.ownField (t := .object "java/lang/Object") Y.found L.cls (by decide +kernel) (z (.fieldLink Bundle.tN 198 Bundle.tN "backtrace" "Ljava/lang/Object;") (by decide +kernel)) (z (.lays Bundle.tN Bundle.tN "backtrace" "Ljava/lang/Object;") (by decide +kernel)) e.platform hpl
  obtain ⟨cS, hcS, heS, -, hkeep⟩ := X.same.2.2.2.2.2 T.aS cS0 hcS0
  have hout9 : ∀ i, (⟨T.aS, i⟩ : Loc) ∉ locs := fun i hm => by
    have q := hlocs _ hm cS0 hcS0
    rw [hiss] at q; cases q
  have hkS : cS.vm ≠ .unknown := by
    rw [heS]; intro q
    rw [show cS0.vm = .unknown from q] at hiss
    cases hiss
  have hneS : T.aS ≠ a := Nat.ne_of_lt (Nat.lt_of_lt_of_le (Array.getElem?_eq_some_iff.mp hcS0).1 hnew)
  obtain ⟨iM, hffM⟩ := Y.msg
  obtain ⟨tyC, dC, hdC, hdnC⟩ := Cond.laysAt hfound hk Y.cause (z (.lays gt_X Bundle.tN "cause" "Ljava/lang/Throwable;") (by decide +kernel))
  obtain ⟨tyS, dS, hdS, hdnS⟩ := Cond.laysAt hfound hk Y.stack (z (.lays gt_X Bundle.tN "stackTrace" Bundle.steD) (by decide +kernel))
  obtain ⟨tyP, dP, hdP, hdnP⟩ := Cond.laysAt hfound hk Y.supp (z (.lays gt_X Bundle.tN "suppressedExceptions" Bundle.listD) (by decide +kernel))
  obtain ⟨tyM, dM, hdM, hdnM⟩ := Cond.laysAt hfound hk hffM (z (.lays gt_X Bundle.tN "detailMessage" "Ljava/lang/String;") (by decide +kernel))
  obtain ⟨tyB, dB, hdB, hdnB⟩ := Cond.laysAt hfound hk hffB (z (.lays gt_X Bundle.tN "backtrace" "Ljava/lang/Object;") (by decide +kernel))
  have bC := Cond.laysApart hdB hdC hdnB hdnC (by rw [hnB, Y.causeName]; decide)
  have bS := Cond.laysApart hdB hdS hdnB hdnS (by rw [hnB, Y.stackName]; decide)
  have bP := Cond.laysApart hdB hdP hdnB hdnP (by rw [hnB, Y.suppName]; decide)
  have hskip : SkipFacts T e.platform s (fun u => u) u0 ((preparedCellV T.toThrowableT (freshCell P1.m.cls kX) a u0 sen).withEntry U9.cur) := by
    refine ⟨{ ci198 := ci198, i198 := i198, fBack := fB }, ⟨hk198, hg198, ha198, hsB⟩, ?_, fun _ _ => rfl⟩
    have q := fresh_default (c := P1.m.cls) tyB
    rw [htB] at q
    simpa [preparedCellV, Cell.setSlot, Cell.withEntry, Array.getElem?_setIfInBounds, bC, bS, bP, bC.symm, bS.symm, bP.symm, defaultValue] using q
  obtain ⟨tm, methC, cdC, kC, vm1, hnC, -, -, -, -, -, -, -, hW1, st1⟩ := Steps.initColdS (tb := p.tables) (e := e) (below := below) (s := s) (U := U9) X.here hexec X.warmed hpl hown (t := Bundle.initS gt_X) rfl rfl (by decide)
    (z (.methodLink RX11 144 (Bundle.initS gt_X)) (by decide +kernel)) (h13 (.instanceMethod (Bundle.initS gt_X)) (by decide +kernel)) (bytes := gt_b) (maxL := 2) (h13 (.code (Bundle.initS gt_X) gt_b 2 none) (by decide +kernel)) (f := g) hg (a := a) (msg := msg) (rest := .ref a :: rest) hstack hd6
  cases Option.some.inj (hnC.symm.trans hP1m)
  have hll : ∀ P, P ∈ P1 :: P2 :: Ps → P.LinksS e.platform s := fun P hP => by
    rcases List.mem_cons.mp hP with rfl | hP
    · exact L1
    · rcases List.mem_cons.mp hP with rfl | hP
      · exact L2
      · exact hL P hP
  obtain ⟨vm2, X2, st2⟩ := (X.noted hW1).ctorMessageOffV hexec (g := { g with stack := .ref a :: rest }) hg hsize T L Z LZ M LM (P1 :: P2 :: Ps) hll ⟨Option.some.inj (hP1s.symm.trans hP2m), hlink1, hlink⟩ (u0 := u0) (sen := sen) (self := a) hmsg (cell := freshCell P1.m.cls kX) (cellS := cS)
    hcell (fun _ => by simp) (by simp) rfl rfl hsel0 hselF hcS hneS hkS (by rw [hkeep _ (hout9 _)]; exact hu0) (by rw [hkeep _ (hout9 _)]; exact hsen)
    (Takes.of_laid hk hord tyC (by rw [Y.causeType]; rfl)) (Takes.of_laid hk hord tyS (by rw [Y.stackType]; exact fits_refV_array _ u0)) (Takes.of_laid hk hord tyP (by rw [Y.suppType]; exact fits_refV_object _ sen))
    (Takes.of_laid hk hord tyM (by rw [Y.msgType]; exact fits_refV_object _ ⟨msg, hmsg⟩)) Y.objLocals hskip htr [] hd6 (by simp only [List.length_cons, hlen, List.length_nil]; omega) (by simp only [List.length_cons, hlen, List.length_nil]; exact hRl)
  obtain ⟨hwalk, hrun, hended, hWU, hsame⟩ := X2.athrowLeaves hexec (g := { g with stack := .ref a :: rest, pc := g.pc + 3 }) hg hlocked hentered hout (a := a) (rest := rest) rfl hd9
  have hU := heapAt_setCell_self (s := (U9.setVm vm1).setVm vm2) (plainBareV T.toThrowableT (freshCell P1.m.cls kX) a u0 sen msg) (Array.getElem?_eq_some_iff.mp hcell).1
  refine ⟨_, st1 _ (fun acts => ?_), hrun, hended, hWU, hsame.weaken (fun y hy hlt => ?_) (Nat.le_refl _) (Nat.le_refl _), _, hU, rfl, hfound⟩
  · rw [doInvoke_state]
    exact st2 _ hwalk
  · rcases List.mem_append.mp hy with q | q
    · exact q
    · exfalso
      have hb : y.base = a := by
        simp only [List.mem_cons, List.not_mem_nil, or_false] at q
        rcases q with rfl | rfl | rfl | rfl | rfl <;> rfl
      rw [hb] at hlt
      exact Nat.not_lt.mpr hnew hlt
def gx_XC (tb : List gD) (E : gE) (σ : gI) (τ : gJ) (sz : Nat) : String → State → State → Prop := vx_X (fun (_ : Unit) => True) (fun N _ t => N = gt_X ∧ gx_P tb E σ τ t.heap) (gx_A tb.length E.2.2 sz)
variable {H : Heap} {cc : ByteArray} {pc nL : Nat} {ls : Array Slot} {tb : List gD} {E : gE} {σ : gI} {τ : gJ}
theorem gx_thr {i : Nat} {q : String × Nat × String × List Int32} {Qc : Array Value → State → Outcome → State → Prop} (S : CallFix p m c cc nL s args gx_G RX11) (hl9 : l.stackTraces = false) (hK : gx_K E s) (hT9 : gx_T s) (hw : gx_W tb tb.length E s σ τ H locs) (hq : gx_ss[i]? = some q) (hqo : q.1 = RX11) (hls : ls.size = nL)
    (d0 : decode cc pc = .ok (.new 140, 3)) (d3 : decode cc (pc + 3) = .ok (.dup, 1)) (d4 : decode cc (pc + 4) = .ok (.ldc q.2.1, 2)) (d6 : decode cc (pc + 6) = .ok (.invokespecial 144, 3)) (d9 : decode cc (pc + 9) = .ok (.athrow, 1)) (hout : ∀ x ∈ c.exceptionTable.toList, False) (hlk : meth.locks = false) (hRf : 5 < R.frames) (hRl : 82 ≤ R.locals) (hRc : 1 ≤ R.cells) (hRs : 6 ≤ R.slots) :
    W p l e R s m args below meth c H locs 0 0 (vx_MQ below Qc (gx_XC tb E σ τ s.heap.size) args s 1 6 (gx_A tb.length E.2.2 s.heap.size)) (F0 m pc ls []) := by
  intro T hT X
  have hexec := S.1
  have hb := S.2.1
  have htr : e.platform.stackTraces = false := (show e.platform.stackTraces = l.stackTraces by rw [X.admits.platform]).trans hl9
  have Y := vx_rebase X (R' := { frames := R.frames, locals := R.locals, cells := 1, slots := 6 }) (Nat.le_refl _) (Nat.le_refl _) (by omega) (by omega)
  obtain ⟨s', hA⟩ : ∃ z, z = (T.setVm s.vm).setFrames (.invoking m args :: below) := ⟨_, rfl⟩
  rw [← hA] at Y
  have hvm : s'.vm = s.vm := by rw [hA]; rfl
  have hhp : s'.heap = H := by rw [hA]; exact hT
  have hW0 : s.WarmedH s'.vm := by rw [hvm]; exact State.WarmedH.refl s
  have hSB := gx_SB hK hw
  have hU9 : vx_Zq Bundle.tN "UNASSIGNED_STACK" Bundle.steD (gx_B E) s' s'.heap := by rw [hhp]; exact vx_Zq.moved hW0.alike (hK.2.2.2.1.kept hSB.2.1)
  have hN9 : vx_Zq Bundle.tN "SUPPRESSED_SENTINEL" Bundle.listD (gx_B E) s' s'.heap := by rw [hhp]; exact vx_Zq.moved hW0.alike (hK.2.2.2.2.1.kept hSB.2.1)
  have tr : ∀ {w : Cond}, vx_ot w = true → w.before args s = true → w.before args s' = true := fun hg h => vx_ot_at hW0 hvm.symm hg h
  have h : ∀ w ∈ gt_A, w.before args s' = true := vx_own (fun w hw9 => tr (List.all_eq_true.mp gt_good w hw9) (gt_hat S.2.2.2.2 gt_all gt_A2 hT9 w hw9)) (vx_isRefq hU9.1) (vx_isRefq hN9.1) hU9.2.word hN9.2.word
  have h13 : ∀ w ∈ gt_P, w.before args s' = true := fun w hw9 => tr (List.all_eq_true.mp gt_goodP w hw9) (gt_hat S.2.2.2.2 gt_allP gt_P2 hT9 w hw9)
  have hown' : s'.vm.findClass RX11 = some m.cls := by rw [hvm]; exact S.2.2.2.1
  obtain ⟨vm1, cX, kX, hfX, hkX, -, -, X1, st1⟩ := Y.newCold hexec (own := RX11) (C := gt_X) (index := 140) (n := 6) hown' (tr (by decide +kernel) (S.2.2.2.2 _ gt_c)) (h (.instantiable gt_X 6) (by decide +kernel)) (tr (by decide +kernel) (S.2.2.2.2 _ gt_i)) (g := F0 m pc ls []) rfl (by rw [hb]; exact d0) (Nat.le_refl _) (Nat.le_refl _)
  generalize hT1 : (T.setVm vm1).pushCell { cls := cX, slots := kX.instanceTypes.map defaultValue, vm := .none } = T1 at X1 st1
  have hcellA : T1.heap[T.heap.size]? = some (freshCell cX kX) := by rw [← hT1]; exact State.heap_pushCell_size _ _
  have d3' : decode c.code (pc + 3) = .ok (.dup, 1) := by rw [hb]; exact d3
  have d4' : decode c.code (pc + 4) = .ok (.ldc q.2.1, 2) := by rw [hb]; exact d4
  have hstr := vk_R.warm hW0 (hK.2.1 i q hq).2
  obtain ⟨U, hsteps, hrun, hend, hW, hsame, ce, hce, hcv, hcl⟩ := gt_ctor X1 hexec htr hown' h h13 (fun x hx => nomatch hx) hfX hkX hcellA (by rw [hhp, hT]; exact Nat.le_refl _) (msg := .ref (E.1.2.1 i)) rfl
    (g := { method := m, pc := pc + 6, locals := ls, stack := .ref (E.1.2.1 i) :: .ref T.heap.size :: .ref T.heap.size :: [], locked := none }) rfl (hls.trans S.2.2.1.symm) rfl rfl (rest := []) rfl
    (by rw [hb]; exact d6) (by rw [hb]; exact d9) (fun x hx => (hout x hx).elim) hRf (show 2 * 0 + (1 + 0) + 81 ≤ R.locals from hRl) hlk
  obtain ⟨f1, f2⟩ := vx_frame hsame
  rw [hhp] at f1 f2
  have f3 : ∀ q9 : Nat, q9 < H.size → U.heap[q9]? = H[q9]? := fun q9 hq9 => f2 q9 hq9 (fun z hz => nomatch hz)
  have hWs : s.WarmedH U.vm := State.WarmedH.trans hW0 hW
  rw [hvm] at hcl
  have hall : s.sameButNew ({ U with vm := s.vm } : State) locs 1 6 := by
    subst hA
    obtain ⟨e1, e2⟩ := hsame
    rw [State.setFrames_setFrames] at e1
    have h3 := X.same.trans (⟨e1, e2⟩ : (T.setVm s.vm).sameButNew ({ U with vm := s.vm } : State) [] (0 + 1) (0 + 6))
    rw [List.append_nil] at h3
    exact h3.mono (by omega) (by omega)
  refine ⟨U, ?_, .threw T.heap.size, hrun, hend, Or.inr ⟨T.heap.size, rfl, gt_X, ce, locs, ⟨(), trivial, ⟨rfl, hw.1.kept (fun k x hx => f3 x.1 ((hw.1 k x hx).lt))⟩, Nat.le_trans hw.2.1 f1, fun q9 h1 h2 => (f3 q9 (Nat.lt_of_lt_of_le h1 hw.2.1)).trans (hw.2.2.1 q9 h1 h2)⟩, hce, hcv, hcl, hWs, hall, hw.2.2.2⟩⟩
  refine st1 _ ?_
  show Steps p.tables e below (T1.setTop { method := m, pc := pc + 3, locals := ls, stack := .ref T.heap.size :: [], locked := none }) _
  jvm_step X1.here [X1.here.top, hexec, d3', Value.category]
  exact X1.ldcString hexec (own := RX11) (text := q.2.2.1) (index := q.2.1) (a := E.1.2.1 i) hown' (hqo ▸ hstr.1) (hqo ▸ hstr.2)
    (g := { method := m, pc := pc + 4, locals := ls, stack := .ref T.heap.size :: .ref T.heap.size :: [], locked := none }) rfl d4' _ hsteps
theorem gx_thrW {i : Nat} {q : String × Nat × String × List Int32} {Qc : Array Value → State → Outcome → State → Prop} (S : CallFix p m c cc nL s args gx_G RX11) (hl9 : l.stackTraces = false) (hK : gx_K E s) (hT9 : gx_T s) (hw : gx_W tb tb.length E s σ τ H locs) (hq : gx_ss[i]? = some q) (hqo : q.1 = RX11) (hls : ls.size = nL)
    (d0 : decode cc pc = .ok (.new 140, 3)) (d3 : decode cc (pc + 3) = .ok (.dup, 1)) (d4 : decode cc (pc + 4) = .ok (.ldc_w q.2.1, 3)) (d6 : decode cc (pc + 7) = .ok (.invokespecial 144, 3)) (d9 : decode cc (pc + 10) = .ok (.athrow, 1)) (hout : ∀ x ∈ c.exceptionTable.toList, False) (hlk : meth.locks = false) (hRf : 5 < R.frames) (hRl : 82 ≤ R.locals) (hRc : 1 ≤ R.cells) (hRs : 6 ≤ R.slots) :
    W p l e R s m args below meth c H locs 0 0 (vx_MQ below Qc (gx_XC tb E σ τ s.heap.size) args s 1 6 (gx_A tb.length E.2.2 s.heap.size)) (F0 m pc ls []) := by
  intro T hT X
  have hexec := S.1
  have hb := S.2.1
  have htr : e.platform.stackTraces = false := (show e.platform.stackTraces = l.stackTraces by rw [X.admits.platform]).trans hl9
  have Y := vx_rebase X (R' := { frames := R.frames, locals := R.locals, cells := 1, slots := 6 }) (Nat.le_refl _) (Nat.le_refl _) (by omega) (by omega)
  obtain ⟨s', hA⟩ : ∃ z, z = (T.setVm s.vm).setFrames (.invoking m args :: below) := ⟨_, rfl⟩
  rw [← hA] at Y
  have hvm : s'.vm = s.vm := by rw [hA]; rfl
  have hhp : s'.heap = H := by rw [hA]; exact hT
  have hW0 : s.WarmedH s'.vm := by rw [hvm]; exact State.WarmedH.refl s
  have hSB := gx_SB hK hw
  have hU9 : vx_Zq Bundle.tN "UNASSIGNED_STACK" Bundle.steD (gx_B E) s' s'.heap := by rw [hhp]; exact vx_Zq.moved hW0.alike (hK.2.2.2.1.kept hSB.2.1)
  have hN9 : vx_Zq Bundle.tN "SUPPRESSED_SENTINEL" Bundle.listD (gx_B E) s' s'.heap := by rw [hhp]; exact vx_Zq.moved hW0.alike (hK.2.2.2.2.1.kept hSB.2.1)
  have tr : ∀ {w : Cond}, vx_ot w = true → w.before args s = true → w.before args s' = true := fun hg h => vx_ot_at hW0 hvm.symm hg h
  have h : ∀ w ∈ gt_A, w.before args s' = true := vx_own (fun w hw9 => tr (List.all_eq_true.mp gt_good w hw9) (gt_hat S.2.2.2.2 gt_all gt_A2 hT9 w hw9)) (vx_isRefq hU9.1) (vx_isRefq hN9.1) hU9.2.word hN9.2.word
  have h13 : ∀ w ∈ gt_P, w.before args s' = true := fun w hw9 => tr (List.all_eq_true.mp gt_goodP w hw9) (gt_hat S.2.2.2.2 gt_allP gt_P2 hT9 w hw9)
  have hown' : s'.vm.findClass RX11 = some m.cls := by rw [hvm]; exact S.2.2.2.1
  obtain ⟨vm1, cX, kX, hfX, hkX, -, -, X1, st1⟩ := Y.newCold hexec (own := RX11) (C := gt_X) (index := 140) (n := 6) hown' (tr (by decide +kernel) (S.2.2.2.2 _ gt_c)) (h (.instantiable gt_X 6) (by decide +kernel)) (tr (by decide +kernel) (S.2.2.2.2 _ gt_i)) (g := F0 m pc ls []) rfl (by rw [hb]; exact d0) (Nat.le_refl _) (Nat.le_refl _)
  generalize hT1 : (T.setVm vm1).pushCell { cls := cX, slots := kX.instanceTypes.map defaultValue, vm := .none } = T1 at X1 st1
  have hcellA : T1.heap[T.heap.size]? = some (freshCell cX kX) := by rw [← hT1]; exact State.heap_pushCell_size _ _
  have d3' : decode c.code (pc + 3) = .ok (.dup, 1) := by rw [hb]; exact d3
  have d4' : decode c.code (pc + 4) = .ok (.ldc_w q.2.1, 3) := by rw [hb]; exact d4
  have hstr := vk_R.warm hW0 (hK.2.1 i q hq).2
  obtain ⟨U, hsteps, hrun, hend, hW, hsame, ce, hce, hcv, hcl⟩ := gt_ctor X1 hexec htr hown' h h13 (fun x hx => nomatch hx) hfX hkX hcellA (by rw [hhp, hT]; exact Nat.le_refl _) (msg := .ref (E.1.2.1 i)) rfl
    (g := { method := m, pc := pc + 7, locals := ls, stack := .ref (E.1.2.1 i) :: .ref T.heap.size :: .ref T.heap.size :: [], locked := none }) rfl (hls.trans S.2.2.1.symm) rfl rfl (rest := []) rfl
    (by rw [hb]; exact d6) (by rw [hb]; exact d9) (fun x hx => (hout x hx).elim) hRf (show 2 * 0 + (1 + 0) + 81 ≤ R.locals from hRl) hlk
  obtain ⟨f1, f2⟩ := vx_frame hsame
  rw [hhp] at f1 f2
  have f3 : ∀ q9 : Nat, q9 < H.size → U.heap[q9]? = H[q9]? := fun q9 hq9 => f2 q9 hq9 (fun z hz => nomatch hz)
  have hWs : s.WarmedH U.vm := State.WarmedH.trans hW0 hW
  rw [hvm] at hcl
  have hall : s.sameButNew ({ U with vm := s.vm } : State) locs 1 6 := by
    subst hA
    obtain ⟨e1, e2⟩ := hsame
    rw [State.setFrames_setFrames] at e1
    have h3 := X.same.trans (⟨e1, e2⟩ : (T.setVm s.vm).sameButNew ({ U with vm := s.vm } : State) [] (0 + 1) (0 + 6))
    rw [List.append_nil] at h3
    exact h3.mono (by omega) (by omega)
  refine ⟨U, ?_, .threw T.heap.size, hrun, hend, Or.inr ⟨T.heap.size, rfl, gt_X, ce, locs, ⟨(), trivial, ⟨rfl, hw.1.kept (fun k x hx => f3 x.1 ((hw.1 k x hx).lt))⟩, Nat.le_trans hw.2.1 f1, fun q9 h1 h2 => (f3 q9 (Nat.lt_of_lt_of_le h1 hw.2.1)).trans (hw.2.2.1 q9 h1 h2)⟩, hce, hcv, hcl, hWs, hall, hw.2.2.2⟩⟩
  refine st1 _ ?_
  show Steps p.tables e below (T1.setTop { method := m, pc := pc + 3, locals := ls, stack := .ref T.heap.size :: [], locked := none }) _
  jvm_step X1.here [X1.here.top, hexec, d3', Value.category]
  exact X1.ldcStringW hexec (own := RX11) (text := q.2.2.1) (index := q.2.1) (a := E.1.2.1 i) hown' (hqo ▸ hstr.1) (hqo ▸ hstr.2)
    (g := { method := m, pc := pc + 4, locals := ls, stack := .ref T.heap.size :: .ref T.heap.size :: [], locked := none }) rfl d4' _ hsteps
end GT
/-! contracts of methods that always throw on the picture -/
def gx_Pt (tb : List gD) (E : gE) (σ : gI) (τ : gJ) (sz : Nat) (U : State) : Prop := gx_Pre tb E σ τ sz U ∧ gx_T U
def gx_Mt (l : Launch) (y : MethodName) (cc : ByteArray) (mL : Nat) (ret : Option FieldType) (d : Nat) (tb : List gD) (E : gE) (σ : gI) (τ : gJ) (av : List Value) (Qc : Nat → Array Value → State → Outcome → State → Prop) : Prop :=
  ∀ sz : Nat, vx_Met l y (Cond.code y cc mL ret :: gx_G) (gx_rc d 1 6) (va_Pc av (gx_Pt tb E σ τ sz)) (Qc sz) (gx_XC tb E σ τ sz) 1 6 (gx_A tb.length E.2.2 sz)
theorem gx_blindT {av : List Value} {tb : List gD} {E : gE} {σ : gI} {τ : gJ} {sz : Nat} : FrameBlind (va_Pc av (gx_Pt tb E σ τ sz)) := by
  intro a U g mk q
  obtain ⟨q0, ⟨q1, qP, qK⟩, qT⟩ := q
  exact ⟨q0, ⟨q1, qP, ⟨va_K.moved (u := U) (U := U.calling g mk a) (Vm.Alike.refl U.vm) qK.1, gx_Z.same (s := U) (U := U.calling g mk a) rfl qK.2⟩⟩, gx_T.same (s := U) (U := U.calling g mk a) rfl qT⟩
theorem gx_bt {l : Launch} {y : MethodName} {cc : ByteArray} {mL d : Nat} {ret : Option FieldType} {tb : List gD} {E : gE} {σ : gI} {τ : gJ} {av : List Value} {Qc : Nat → Array Value → State → Outcome → State → Prop} (hy : plainName y.cls = true) (hlen : (lg_sl av).length ≤ mL)
    (body : ∀ (p : Program) (e : Env) (s : State) (m : MethodId) (below : List Frame) (meth : Method) (c : Code), CallFix p m c cc mL s av.toArray gx_G y.cls → meth.locks = false → (∀ x ∈ c.exceptionTable.toList, False) → gx_K E s → gx_T s → gx_W tb tb.length E s σ τ s.heap [] → ∀ ls : Array Slot, lv_has ls mL (lv_args 0 av) →
      W p l e (gx_rc d 1 6) s m av.toArray below meth c s.heap [] 0 0 (vx_MQ below (Qc s.heap.size) (gx_XC tb E σ τ s.heap.size) av.toArray s 1 6 (gx_A tb.length E.2.2 s.heap.size)) (F0 m 0 ls [])) : gx_Mt l y cc mL ret d tb E σ τ av Qc := by
  intro sz
  refine vx_ofW (cc := cc) (maxL := mL) (ret := ret) hy rfl ?_
  intro p e s m args below meth c s₁ B hml hex hv
  obtain ⟨rfl, ⟨rfl, hP, hK⟩, hT⟩ := hv
  have hts := atoms_spec (ws := Cond.code y cc mL ret :: gx_G) B.pre
  have hl := lv_entry av (n := mL) hlen
  rw [lg_entry_eq]
  exact body p e s m below meth c ⟨B.exec, B.bytes, hml, findClass_of_methodNamed B.named, fun w hw => hts w (List.mem_cons_of_mem _ hw)⟩ B.notSynchronized hex hK hT ⟨hP, va_S.rf⟩ _ hl
