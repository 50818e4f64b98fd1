/-! THE CLAIM OUT OF ONE WALK OF THE LAW'S BODY. Your part is whole_start (and what it stands on); all else here is the same for every law, but numbers. -/
def R_law : String := "DownTheGutterLaw"
def lw_P (b : Addr) (xs : List Int32) (args : Array Value) (s : State) : Prop := args = #[.ref b] ∧ s.IntsAt b xs ∧ xs.length ≤ 6 ∧ (Jvm.Cond.and given_1 narrow_1).before args s = true
def lw_Q (_ : Array Value) (s : State) (o : Outcome) (t : State) : Prop := o = .returned (some (.int 1)) ∧ Framed s o t [] 600002 7302232
def lw_Z (below : List Frame) (a : Array Value) (s : State) : State → Prop := fun t => ∃ o, t.status = .running ∧ Ended t below o ∧ lw_Q a s o t
/-- the law's own end, with 1 on the stack, nothing written that was there before, its room as the claim has it -/
theorem lw_ret {p : Program} {l : Launch} {e : Env} {s : State} {m : MethodId} {below : List Frame} {meth : Method} {c : Code} {b : Nat} (hx : p.tables.exec = Jvm.exec) (hb : c.code = code) (hr : meth.sig.returnType = ret) (hlocks : meth.locks = false) {pc : Nat} {H : Heap} {ls : Array Slot} (hdg : decode code pc = .ok (.ireturn, 1)) : W p l e room_1 s m #[Value.ref b] below meth c H [] 600002 7302232 (lw_Z below #[Value.ref b] s) (F0 m pc ls [.int 1]) := by
  intro T hT X
  obtain ⟨fs, hret, hrun, hended, hW, hframe⟩ := X.leave (v := some (.int 1)) (hlocks := hlocks) (fun h => by rw [hr] at h; cases h)
  have hmeth' : T.vm.method? m = some meth := X.method'
  refine ⟨T.setFrames fs, ?_, .returned (some (.int 1)), hrun, hended, rfl, ⟨_, rfl⟩, hW, hframe⟩
  jvm_step X.here [X.here.top, hx, hb, hdg, hmeth', hr, ret, narrow_b1]
  (try refine ⟨rfl, ?_⟩); (try refine ⟨rfl, ?_⟩)
  first | (intro acts; rw [hret _ acts rfl rfl rfl]) | rw [hret _ _ rfl rfl rfl]
  exact Steps.refl _
/-- what holds at the law's entry: the machine, the code, the tables' words (any of lw_tbl by 'hts w (by decide +kernel)'), the script of L ints xs at the cell b, what the Statement gives of the start (any of its parts by flat_of_before) -/
def lw_At (p : Program) (s : State) (m : MethodId) (meth : Method) (c : Code) (b L : Nat) (xs : Nat → Int32) : Prop :=
  p.tables.exec = Jvm.exec ∧ c.code = code ∧ meth.sig.returnType = ret ∧ c.maxLocals = 8 ∧ s.vm.findClass R_law = some m.cls ∧ (∀ w ∈ lw_tbl, w.before #[Value.ref b] s = true) ∧ va_X b L xs s s.heap ∧ b < s.heap.size ∧ meth.locks = false ∧ (Jvm.Cond.and given_1 narrow_1).before #[Value.ref b] s = true
section LCZ
variable {P9 : Program} {e9 : Env} {s : State} {m9 : MethodId} {below : List Frame} {meth : Method} {C9 : Code} {E : gE} {b : Nat} {xs : Nat → Int32} {H : Heap} {locs : List Loc} {ls : Array Slot}
set_option maxHeartbeats 4000000 in
set_option maxRecDepth 100000 in
theorem lc_end (l : Launch) (S : CallFix P9 m9 C9 cL_law 8 s #[Value.ref b] gx_G RL) (hr : meth.sig.returnType = ret) (hlk : meth.locks = false) (hE : E.2.2 = s.heap.size) {σ : gI} {τ : gJ} (hw : gx_W gx_tb 0 E s σ τ H locs) {cells slots : Nat} (hc : cells ≤ 235) (hs : slots ≤ 20159) : W P9 l e9 room_1 s m9 #[Value.ref b] below meth C9 H locs cells slots (lw_Z below #[Value.ref b] s) (F0 m9 1751 ls []) := by
  have hx := S.1
  have hb := S.2.1
  refine lv_iconst (v := 1) hx hb dL_law_1751 (by decide) ?_
  refine va_forget (fun q hq => ?_) ?_
  · rcases hw.2.2.2 q hq with h | h
    · omega
    · exact h
  · refine W.widen (k := 600002) (n := 7302232) (by omega) (by omega) ?_
    exact lw_ret hx hb hr hlk dL_law_1752
set_option maxHeartbeats 4000000 in
set_option maxRecDepth 100000 in
theorem lc_on (l : Launch) (S : CallFix P9 m9 C9 cL_law 8 s #[Value.ref b] gx_G RL) (hr : meth.sig.returnType = ret) (hlk : meth.locks = false) (hE : E.2.2 = s.heap.size) {σ : gI} {τ : gJ} (hw : gx_W gx_tb 0 E s σ τ H locs) (hX : va_X b 6 xs s s.heap) (hbl : b < s.heap.size) (hbA : ¬ gx_A 0 E.2.2 s.heap.size b) (hl : lv_has ls 8 [(4, .int 0), (3, .ref (E.2.2 + 233)), (2, .ref (E.2.2 + 199)), (1, .ref (E.2.2 + 0)), (0, .ref b)]) : W P9 l e9 room_1 s m9 #[Value.ref b] below meth C9 H locs 235 20159 (lw_Z below #[Value.ref b] s) (F0 m9 1745 ls []) := by
  have hx := S.1
  have hb := S.2.1
  refine lv_iinc (v := 6) (lv' := [(4, .int 6), (3, .ref (E.2.2 + 233)), (2, .ref (E.2.2 + 199)), (1, .ref (E.2.2 + 0)), (0, .ref b)]) hx hb dL_law_1745 hl (k := 0) rfl (by decide) (by decide) rfl (fun ls hl => ?_)
  refine lv_goto (tgt := 23) hx hb dL_law_1748 (by decide) ?_
  refine lv_iload hx hb dL_law_23 (lv_at hl 0 rfl) ?_
  refine lv_aload_n hx hb dL_law_25 rfl (lv_at hl 4 rfl) ?_
  refine va_slen hx hb hX hbl hbA hw.2 dL_law_26 ?_
  refine lv_bipush (v := 6) hx hb dL_law_27 (by decide) ?_
  refine lv_isub hx hb dL_law_29 ?_
  refine gx_top (v := 0) (by decide) ?_
  refine lv_icmp_gt (tgt := 1751) hx hb dL_law_30 (by decide) (fun _ => ?_) (fun h => absurd (by decide) h)
  exact lc_end l S hr hlk hE hw (Nat.le_refl _) (Nat.le_refl _)
set_option maxHeartbeats 4000000 in
set_option maxRecDepth 100000 in
theorem lc_sw {Q : State → Prop} (l : Launch) (hl9 : l.stackTraces = false) (S : CallFix P9 m9 C9 cL_law 8 s #[Value.ref b] gx_G RL) (hK : gx_K E s) (hT9 : gx_T s) (hA : gx_Ok gx_tb 0 E s) (hX : va_X b 6 xs s s.heap) (hbl : b < s.heap.size) (hbA : ¬ gx_A 0 E.2.2 s.heap.size b) (hw : gx_W gx_tb 0 E s gs0 gt0 H locs) (hl : lv_has ls 8 [(4, .int 0), (3, .ref (E.2.2 + 233)), (2, .ref (E.2.2 + 199)), (1, .ref (E.2.2 + 0)), (0, .ref b)]) (kk : ∀ (σ : gI) (τ : gJ) (H : Heap) (locs : List Loc) (ls : Array Slot), gx_W gx_tb 0 E s σ τ H locs → lv_has ls 8 [(4, .int 0), (3, .ref (E.2.2 + 233)), (2, .ref (E.2.2 + 199)), (1, .ref (E.2.2 + 0)), (0, .ref b)] → W P9 l e9 room_1 s m9 #[Value.ref b] below meth C9 H locs 235 20159 Q (F0 m9 1745 ls [])) : W P9 l e9 room_1 s m9 #[Value.ref b] below meth C9 H locs 234 20153 Q (F0 m9 33 ls []) := by
  have hx := S.1
  have hb := S.2.1
  refine lv_aload_n hx hb dL_law_33 rfl (lv_at hl 4 rfl) ?_
  refine lv_iload hx hb dL_law_34 (lv_at hl 0 rfl) ?_
  refine va_sld (i := 0) hx hb hX hbl hbA hw.2 (gx_in rfl (by decide) (by decide)) dL_law_36 ?_
  refine gx_top (v := xs 0) rfl ?_
  refine lv_bipush (v := 63) hx hb dL_law_37 (by decide) ?_
  refine lv_iand hx hb dL_law_39 ?_
  generalize xs 0 &&& 63 = z
  by_cases c_0 : z = 0
  · refine gx_top (v := 0) c_0 ?_
    refine lv_tableIn (tgt := 220) hx hb dL_law_40 (by decide) (by decide) rfl (by decide) ?_
    exact lc_0 l hl9 S hK hT9 hA hX hbl hbA hw hl kk
  by_cases c_1 : z = 1
  · refine gx_top (v := 1) c_1 ?_
    refine lv_tableIn (tgt := 245) hx hb dL_law_40 (by decide) (by decide) rfl (by decide) ?_
    exact lc_1 l hl9 S hK hT9 hA hX hbl hbA hw hl kk
  by_cases c_2 : z = 2
  · refine gx_top (v := 2) c_2 ?_
    refine lv_tableIn (tgt := 270) hx hb dL_law_40 (by decide) (by decide) rfl (by decide) ?_
    exact lc_2 l hl9 S hK hT9 hA hX hbl hbA hw hl kk
  by_cases c_3 : z = 3
  · refine gx_top (v := 3) c_3 ?_
    refine lv_tableIn (tgt := 283) hx hb dL_law_40 (by decide) (by decide) rfl (by decide) ?_
    exact lc_3 l hl9 S hK hT9 hA hX hbl hbA hw hl kk
  by_cases c_4 : z = 4
  · refine gx_top (v := 4) c_4 ?_
    refine lv_tableIn (tgt := 296) hx hb dL_law_40 (by decide) (by decide) rfl (by decide) ?_
    exact lc_4 l hl9 S hK hT9 hA hX hbl hbA hw hl kk
  by_cases c_5 : z = 5
  · refine gx_top (v := 5) c_5 ?_
    refine lv_tableIn (tgt := 309) hx hb dL_law_40 (by decide) (by decide) rfl (by decide) ?_
    exact lc_5 l hl9 S hK hT9 hA hX hbl hbA hw hl kk
  by_cases c_6 : z = 6
  · refine gx_top (v := 6) c_6 ?_
    refine lv_tableIn (tgt := 377) hx hb dL_law_40 (by decide) (by decide) rfl (by decide) ?_
    exact lc_6 l hl9 S hK hT9 hA hX hbl hbA hw hl kk
  by_cases c_7 : z = 7
  · refine gx_top (v := 7) c_7 ?_
    refine lv_tableIn (tgt := 445) hx hb dL_law_40 (by decide) (by decide) rfl (by decide) ?_
    exact lc_7 l hl9 S hK hT9 hA hX hbl hbA hw hl kk
  by_cases c_8 : z = 8
  · refine gx_top (v := 8) c_8 ?_
    refine lv_tableIn (tgt := 470) hx hb dL_law_40 (by decide) (by decide) rfl (by decide) ?_
    exact lc_8 l hl9 S hK hT9 hA hX hbl hbA hw hl kk
  by_cases c_9 : z = 9
  · refine gx_top (v := 9) c_9 ?_
    refine lv_tableIn (tgt := 507) hx hb dL_law_40 (by decide) (by decide) rfl (by decide) ?_
    exact lc_9 l hl9 S hK hT9 hA hX hbl hbA hw hl kk
  by_cases c_10 : z = 10
  · refine gx_top (v := 10) c_10 ?_
    refine lv_tableIn (tgt := 568) hx hb dL_law_40 (by decide) (by decide) rfl (by decide) ?_
    exact lc_10 l hl9 S hK hT9 hA hX hbl hbA hw hl kk
  by_cases c_11 : z = 11
  · refine gx_top (v := 11) c_11 ?_
    refine lv_tableIn (tgt := 629) hx hb dL_law_40 (by decide) (by decide) rfl (by decide) ?_
    exact lc_11 l hl9 S hK hT9 hA hX hbl hbA hw hl kk
  by_cases c_12 : z = 12
  · refine gx_top (v := 12) c_12 ?_
    refine lv_tableIn (tgt := 666) hx hb dL_law_40 (by decide) (by decide) rfl (by decide) ?_
    exact lc_12 l hl9 S hK hT9 hA hX hbl hbA hw hl kk
  by_cases c_13 : z = 13
  · refine gx_top (v := 13) c_13 ?_
    refine lv_tableIn (tgt := 691) hx hb dL_law_40 (by decide) (by decide) rfl (by decide) ?_
    exact lc_13 l hl9 S hK hT9 hA hX hbl hbA hw hl kk
  by_cases c_14 : z = 14
  · refine gx_top (v := 14) c_14 ?_
    refine lv_tableIn (tgt := 704) hx hb dL_law_40 (by decide) (by decide) rfl (by decide) ?_
    exact lc_14 l hl9 S hK hT9 hA hX hbl hbA hw hl kk
  by_cases c_15 : z = 15
  · refine gx_top (v := 15) c_15 ?_
    refine lv_tableIn (tgt := 717) hx hb dL_law_40 (by decide) (by decide) rfl (by decide) ?_
    exact lc_15 l hl9 S hK hT9 hA hX hbl hbA hw hl kk
  by_cases c_16 : z = 16
  · refine gx_top (v := 16) c_16 ?_
    refine lv_tableIn (tgt := 754) hx hb dL_law_40 (by decide) (by decide) rfl (by decide) ?_
    exact lc_16 l hl9 S hK hT9 hA hX hbl hbA hw hl kk
  by_cases c_17 : z = 17
  · refine gx_top (v := 17) c_17 ?_
    refine lv_tableIn (tgt := 779) hx hb dL_law_40 (by decide) (by decide) rfl (by decide) ?_
    exact lc_17 l hl9 S hK hT9 hA hX hbl hbA hw hl kk
  by_cases c_18 : z = 18
  · refine gx_top (v := 18) c_18 ?_
    refine lv_tableIn (tgt := 804) hx hb dL_law_40 (by decide) (by decide) rfl (by decide) ?_
    exact lc_18 l hl9 S hK hT9 hA hX hbl hbA hw hl kk
  by_cases c_19 : z = 19
  · refine gx_top (v := 19) c_19 ?_
    refine lv_tableIn (tgt := 829) hx hb dL_law_40 (by decide) (by decide) rfl (by decide) ?_
    exact lc_19 l hl9 S hK hT9 hA hX hbl hbA hw hl kk
  by_cases c_20 : z = 20
  · refine gx_top (v := 20) c_20 ?_
    refine lv_tableIn (tgt := 902) hx hb dL_law_40 (by decide) (by decide) rfl (by decide) ?_
    exact lc_20 l hl9 S hK hT9 hA hX hbl hbA hw hl kk
  by_cases c_21 : z = 21
  · refine gx_top (v := 21) c_21 ?_
    refine lv_tableIn (tgt := 951) hx hb dL_law_40 (by decide) (by decide) rfl (by decide) ?_
    exact lc_21 l hl9 S hK hT9 hA hX hbl hbA hw hl kk
  by_cases c_22 : z = 22
  · refine gx_top (v := 22) c_22 ?_
    refine lv_tableIn (tgt := 1000) hx hb dL_law_40 (by decide) (by decide) rfl (by decide) ?_
    exact lc_22 l hl9 S hK hT9 hA hX hbl hbA hw hl kk
  by_cases c_23 : z = 23
  · refine gx_top (v := 23) c_23 ?_
    refine lv_tableIn (tgt := 1049) hx hb dL_law_40 (by decide) (by decide) rfl (by decide) ?_
    exact lc_23 l hl9 S hK hT9 hA hX hbl hbA hw hl kk
  by_cases c_24 : z = 24
  · refine gx_top (v := 24) c_24 ?_
    refine lv_tableIn (tgt := 1098) hx hb dL_law_40 (by decide) (by decide) rfl (by decide) ?_
    exact lc_24 l hl9 S hK hT9 hA hX hbl hbA hw hl kk
  by_cases c_25 : z = 25
  · refine gx_top (v := 25) c_25 ?_
    refine lv_tableIn (tgt := 1159) hx hb dL_law_40 (by decide) (by decide) rfl (by decide) ?_
    exact lc_25 l hl9 S hK hT9 hA hX hbl hbA hw hl kk
  by_cases c_26 : z = 26
  · refine gx_top (v := 26) c_26 ?_
    refine lv_tableIn (tgt := 1184) hx hb dL_law_40 (by decide) (by decide) rfl (by decide) ?_
    exact lc_26 l hl9 S hK hT9 hA hX hbl hbA hw hl kk
  by_cases c_27 : z = 27
  · refine gx_top (v := 27) c_27 ?_
    refine lv_tableIn (tgt := 1209) hx hb dL_law_40 (by decide) (by decide) rfl (by decide) ?_
    exact lc_27 l hl9 S hK hT9 hA hX hbl hbA hw hl kk
  by_cases c_28 : z = 28
  · refine gx_top (v := 28) c_28 ?_
    refine lv_tableIn (tgt := 1246) hx hb dL_law_40 (by decide) (by decide) rfl (by decide) ?_
    exact lc_28 l hl9 S hK hT9 hA hX hbl hbA hw hl kk
  by_cases c_29 : z = 29
  · refine gx_top (v := 29) c_29 ?_
    refine lv_tableIn (tgt := 1307) hx hb dL_law_40 (by decide) (by decide) rfl (by decide) ?_
    exact lc_29 l hl9 S hK hT9 hA hX hbl hbA hw hl kk
  by_cases c_30 : z = 30
  · refine gx_top (v := 30) c_30 ?_
    refine lv_tableIn (tgt := 1380) hx hb dL_law_40 (by decide) (by decide) rfl (by decide) ?_
    exact lc_30 l hl9 S hK hT9 hA hX hbl hbA hw hl kk
  by_cases c_31 : z = 31
  · refine gx_top (v := 31) c_31 ?_
    refine lv_tableIn (tgt := 1429) hx hb dL_law_40 (by decide) (by decide) rfl (by decide) ?_
    exact lc_31 l hl9 S hK hT9 hA hX hbl hbA hw hl kk
  by_cases c_32 : z = 32
  · refine gx_top (v := 32) c_32 ?_
    refine lv_tableIn (tgt := 1442) hx hb dL_law_40 (by decide) (by decide) rfl (by decide) ?_
    exact lc_32 l hl9 S hK hT9 hA hX hbl hbA hw hl kk
  by_cases c_33 : z = 33
  · refine gx_top (v := 33) c_33 ?_
    refine lv_tableIn (tgt := 1455) hx hb dL_law_40 (by decide) (by decide) rfl (by decide) ?_
    exact lc_33 l hl9 S hK hT9 hA hX hbl hbA hw hl kk
  by_cases c_34 : z = 34
  · refine gx_top (v := 34) c_34 ?_
    refine lv_tableIn (tgt := 1480) hx hb dL_law_40 (by decide) (by decide) rfl (by decide) ?_
    exact lc_34 l hl9 S hK hT9 hA hX hbl hbA hw hl kk
  by_cases c_35 : z = 35
  · refine gx_top (v := 35) c_35 ?_
    refine lv_tableIn (tgt := 1529) hx hb dL_law_40 (by decide) (by decide) rfl (by decide) ?_
    exact lc_35 l hl9 S hK hT9 hA hX hbl hbA hw hl kk
  by_cases c_36 : z = 36
  · refine gx_top (v := 36) c_36 ?_
    refine lv_tableIn (tgt := 1578) hx hb dL_law_40 (by decide) (by decide) rfl (by decide) ?_
    exact lc_36 l hl9 S hK hT9 hA hX hbl hbA hw hl kk
  by_cases c_37 : z = 37
  · refine gx_top (v := 37) c_37 ?_
    refine lv_tableIn (tgt := 1615) hx hb dL_law_40 (by decide) (by decide) rfl (by decide) ?_
    exact lc_37 l hl9 S hK hT9 hA hX hbl hbA hw hl kk
  by_cases c_38 : z = 38
  · refine gx_top (v := 38) c_38 ?_
    refine lv_tableIn (tgt := 1640) hx hb dL_law_40 (by decide) (by decide) rfl (by decide) ?_
    exact lc_38 l hl9 S hK hT9 hA hX hbl hbA hw hl kk
  by_cases c_39 : z = 39
  · refine gx_top (v := 39) c_39 ?_
    refine lv_tableIn (tgt := 1665) hx hb dL_law_40 (by decide) (by decide) rfl (by decide) ?_
    exact lc_39 l hl9 S hK hT9 hA hX hbl hbA hw hl kk
  by_cases c_40 : z = 40
  · refine gx_top (v := 40) c_40 ?_
    refine lv_tableIn (tgt := 1690) hx hb dL_law_40 (by decide) (by decide) rfl (by decide) ?_
    exact lc_40 l hl9 S hK hT9 hA hX hbl hbA hw hl kk
  refine lv_tableOut (tgt := 1745) hx hb dL_law_40 ?_ (by decide) ?_
  · have t_0 := lv_neT (a := 0) c_0 rfl
    have t_1 := lv_neT (a := 1) c_1 rfl
    have t_2 := lv_neT (a := 2) c_2 rfl
    have t_3 := lv_neT (a := 3) c_3 rfl
    have t_4 := lv_neT (a := 4) c_4 rfl
    have t_5 := lv_neT (a := 5) c_5 rfl
    have t_6 := lv_neT (a := 6) c_6 rfl
    have t_7 := lv_neT (a := 7) c_7 rfl
    have t_8 := lv_neT (a := 8) c_8 rfl
    have t_9 := lv_neT (a := 9) c_9 rfl
    have t_10 := lv_neT (a := 10) c_10 rfl
    have t_11 := lv_neT (a := 11) c_11 rfl
    have t_12 := lv_neT (a := 12) c_12 rfl
    have t_13 := lv_neT (a := 13) c_13 rfl
    have t_14 := lv_neT (a := 14) c_14 rfl
    have t_15 := lv_neT (a := 15) c_15 rfl
    have t_16 := lv_neT (a := 16) c_16 rfl
    have t_17 := lv_neT (a := 17) c_17 rfl
    have t_18 := lv_neT (a := 18) c_18 rfl
    have t_19 := lv_neT (a := 19) c_19 rfl
    have t_20 := lv_neT (a := 20) c_20 rfl
    have t_21 := lv_neT (a := 21) c_21 rfl
    have t_22 := lv_neT (a := 22) c_22 rfl
    have t_23 := lv_neT (a := 23) c_23 rfl
    have t_24 := lv_neT (a := 24) c_24 rfl
    have t_25 := lv_neT (a := 25) c_25 rfl
    have t_26 := lv_neT (a := 26) c_26 rfl
    have t_27 := lv_neT (a := 27) c_27 rfl
    have t_28 := lv_neT (a := 28) c_28 rfl
    have t_29 := lv_neT (a := 29) c_29 rfl
    have t_30 := lv_neT (a := 30) c_30 rfl
    have t_31 := lv_neT (a := 31) c_31 rfl
    have t_32 := lv_neT (a := 32) c_32 rfl
    have t_33 := lv_neT (a := 33) c_33 rfl
    have t_34 := lv_neT (a := 34) c_34 rfl
    have t_35 := lv_neT (a := 35) c_35 rfl
    have t_36 := lv_neT (a := 36) c_36 rfl
    have t_37 := lv_neT (a := 37) c_37 rfl
    have t_38 := lv_neT (a := 38) c_38 rfl
    have t_39 := lv_neT (a := 39) c_39 rfl
    have t_40 := lv_neT (a := 40) c_40 rfl
    omega
  · refine W.widen (k := 235) (n := 20159) (by omega) (by omega) ?_
    exact kk _ _ _ _ _ hw hl
end LCZ
