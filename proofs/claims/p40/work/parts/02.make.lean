/-! MAKERS over a table that is a part known by its length, and a part told -/
def gx_Y (tb ds : List gD) (n0 : Nat) (E : gE) (s : State) (σ : gI) (τ : gJ) (H : Heap) (locs : List Loc) : Prop := gx_W (tb ++ ds) n0 E s σ τ H locs ∧ H.size = E.2.2 + (tb.length + ds.length)
theorem gx_ap {tb ds : List gD} {n k : Nat} {d : gD} (hn : tb.length = n) (h : ds[k]? = some d) : (tb ++ ds)[n + k]? = some d := by
  subst hn
  rw [List.getElem?_append_right (by omega), Nat.add_sub_cancel_left]
  exact h
theorem gx_aps {tb ds : List gD} {n k : Nat} {d : gD} (hn : tb.length = n) : (tb ++ ds).set (n + k) d = tb ++ ds.set k d := by
  subst hn
  rw [List.set_append_right _ _ (by omega), Nat.add_sub_cancel_left]
theorem y_ln {tb ds : List gD} {n K : Nat} (hn : tb.length = n) (h : ds.length = K) : (tb ++ ds).length = n + K := by
  rw [List.length_append, hn, h]
theorem y_l1 {o : gD} {M : List gD} {k : Nat} (h : M.length = k) : (o :: M).length = k + 1 := by rw [List.length_cons, h]
theorem y_l2 {o o2 : gD} {M : List gD} {k : Nat} (h : M.length = k) : (o :: o2 :: M).length = k + 1 + 1 := by rw [List.length_cons, List.length_cons, h]
theorem y_at {A B : List gD} {k : Nat} {d : gD} (h : A.length = k) (hB : B[0]? = some d) : (A ++ B)[k]? = some d := by
  rw [List.getElem?_append_right (by omega), h, Nat.sub_self]
  exact hB
theorem y_lm {A B : List gD} {k : gD} {a b : Nat} (h : A.length = a) (hB : B.length = b) : (A ++ (k :: B)).length = a + b + 1 := by rw [List.length_append, List.length_cons, h, hB]; omega
theorem y_cv {tb ds ds' : List gD} {n0 : Nat} {E : gE} {s : State} {σ : gI} {τ : gJ} {H : Heap} {locs : List Loc} (e : ds = ds') (hY : gx_Y tb ds n0 E s σ τ H locs) : gx_Y tb ds' n0 E s σ τ H locs := e ▸ hY
theorem y_setm {o k k' : gD} {A B X : List gD} {a : Nat} (h : A.length = a) : ((o :: (A ++ (k :: B))) ++ X).set (a + 1) k' = o :: (A ++ (k' :: (B ++ X))) := by
  subst h
  rw [List.cons_append, List.set_cons_succ, List.append_assoc, List.set_append_right _ _ (Nat.le_refl _), Nat.sub_self, List.cons_append, List.set_cons_zero]
theorem y_getm {o k : gD} {A B X : List gD} {a : Nat} (h : A.length = a) : ((o :: (A ++ (k :: B))) ++ X)[a + 1]? = some k := by
  subst h
  rw [List.cons_append, List.getElem?_cons_succ, List.append_assoc, List.getElem?_append_right (Nat.le_refl _), Nat.sub_self]
  rfl
theorem y_midB {tb A X : List gD} {o k : gD} {n0 j : Nat} {E : gE} {s : State} {σ : gI} {τ : gJ} {H : Heap} {locs : List Loc} (hX : X.length = j) (hY : gx_Y tb (o :: (A ++ (k :: X))) n0 E s σ τ H locs) : ∃ B : List gD, B = X ∧ B.length = j ∧ gx_Y tb (o :: (A ++ (k :: B))) n0 E s σ τ H locs := ⟨X, rfl, hX, hY⟩
theorem y_midA {tb A B X : List gD} {o k : gD} {n0 b j : Nat} {E : gE} {s : State} {σ : gI} {τ : gJ} {H : Heap} {locs : List Loc} (h : B.length = b) (hX : X.length = j) (hY : gx_Y tb (o :: (A ++ (k :: (B ++ X)))) n0 E s σ τ H locs) : ∃ B' : List gD, B' = B ++ X ∧ B'.length = b + j ∧ gx_Y tb (o :: (A ++ (k :: B'))) n0 E s σ τ H locs := ⟨B ++ X, rfl, by rw [List.length_append, h, hX], hY⟩
theorem y_beg1 {tb : List gD} (o : gD) {n0 : Nat} {E : gE} {s : State} {σ : gI} {τ : gJ} {H : Heap} {locs : List Loc} (hY : gx_Y tb [o] n0 E s σ τ H locs) : ∃ M : List gD, M = [] ∧ M.length = 0 ∧ gx_Y tb (o :: M) n0 E s σ τ H locs := ⟨[], rfl, rfl, hY⟩
theorem y_beg2 {tb : List gD} (o o2 : gD) {n0 : Nat} {E : gE} {s : State} {σ : gI} {τ : gJ} {H : Heap} {locs : List Loc} (hY : gx_Y tb [o, o2] n0 E s σ τ H locs) : ∃ M : List gD, M = [] ∧ M.length = 0 ∧ gx_Y tb (o :: o2 :: M) n0 E s σ τ H locs := ⟨[], rfl, rfl, hY⟩
theorem y_abs1 {tb M X : List gD} {o : gD} {n0 k j : Nat} {E : gE} {s : State} {σ : gI} {τ : gJ} {H : Heap} {locs : List Loc} (h : M.length = k) (hX : X.length = j) (hY : gx_Y tb (o :: (M ++ X)) n0 E s σ τ H locs) : ∃ M' : List gD, M' = M ++ X ∧ M'.length = k + j ∧ gx_Y tb (o :: M') n0 E s σ τ H locs :=
  ⟨M ++ X, rfl, by rw [List.length_append, h, hX], hY⟩
theorem y_abs2 {tb M X : List gD} {o o2 : gD} {n0 k j : Nat} {E : gE} {s : State} {σ : gI} {τ : gJ} {H : Heap} {locs : List Loc} (h : M.length = k) (hX : X.length = j) (hY : gx_Y tb (o :: o2 :: (M ++ X)) n0 E s σ τ H locs) : ∃ M' : List gD, M' = M ++ X ∧ M'.length = k + j ∧ gx_Y tb (o :: o2 :: M') n0 E s σ τ H locs :=
  ⟨M ++ X, rfl, by rw [List.length_append, h, hX], hY⟩
section GY
variable {p : Program} {l : Launch} {e : Env} {R : Room} {s : State} {m : MethodId} {args : Array Value} {below : List Frame} {meth : Method} {c : Code} {H : Heap} {locs : List Loc} {cells slots : Nat} {Q : State → Prop}
variable {cc cc' : ByteArray} {pc nL mL d idx n0 n mc ms : Nat} {ls : Array Slot} {st rest As : List Value} {own : String} {tb ds : List gD} {E : gE} {σ σ' : gI} {τ : gJ} {y : MethodName}
theorem y_sz (hY : gx_Y tb ds n0 E s σ τ H locs) : H.size = E.2.2 + (tb ++ ds).length := by rw [List.length_append]; exact hY.2
theorem y_of {D : gD} {H1 : Heap} (h : gx_W (tb ++ ds ++ [D]) n0 E s σ τ H1 locs) (hz : H1.size = E.2.2 + (tb ++ ds ++ [D]).length) : gx_Y tb (ds ++ [D]) n0 E s σ τ H1 locs := by
  rw [List.append_assoc] at h hz
  rw [List.length_append] at hz
  exact ⟨h, hz⟩
theorem y_newI (S : CallFix p m c cc nL s args gx_G own) (hK : gx_K E s) (hY : gx_Y tb ds n0 E s σ τ H locs) (hn : tb.length = n) (K : Nat) (hK9 : ds.length = K) {k : Int32} {N : Nat} (hk : ¬ k < 0) (hN : k.toNatClampNeg = N) (hby : N ≤ 100000) (h0 : ∀ c9 k9 : Nat, n + K ≤ c9 → σ c9 k9 = 0) (har : Cond.arrayClass .int ∈ gx_G) (hf : cells + 1 ≤ R.cells ∧ slots + N ≤ R.slots) (hdg : decode cc pc = .ok (.newarray .int, 2))
    (kk : ∀ H1 : Heap, gx_Y tb (ds ++ [.inr (0, N, [])]) n0 E s σ τ H1 locs → W p l e R s m args below meth c H1 locs (cells + 1) (slots + N) Q (F0 m (pc + 2) ls (.ref (E.2.2 + (n + K)) :: rest))) : W p l e R s m args below meth c H locs cells slots Q (F0 m pc ls (.int k :: rest)) := by
  subst hn; subst hK9
  refine gx_newI S hK hY.1 (y_sz hY) hk hN hby ?_ har hf hdg (fun H1 h1 h2 => ?_)
  · funext k9; exact h0 _ _ (by rw [List.length_append]; exact Nat.le_refl _)
  · rw [List.length_append]; exact kk H1 (y_of h1 h2)
theorem y_newZ (S : CallFix p m c cc nL s args gx_G own) (hK : gx_K E s) (hY : gx_Y tb ds n0 E s σ τ H locs) (hn : tb.length = n) (K : Nat) (hK9 : ds.length = K) {k : Int32} {N : Nat} (hk : ¬ k < 0) (hN : k.toNatClampNeg = N) (hby : N ≤ 100000) (h0 : ∀ c9 k9 : Nat, n + K ≤ c9 → σ c9 k9 = 0) (har : Cond.arrayClass .boolean ∈ gx_G) (hf : cells + 1 ≤ R.cells ∧ slots + N ≤ R.slots) (hdg : decode cc pc = .ok (.newarray .boolean, 2))
    (kk : ∀ H1 : Heap, gx_Y tb (ds ++ [.inr (2, N, [])]) n0 E s σ τ H1 locs → W p l e R s m args below meth c H1 locs (cells + 1) (slots + N) Q (F0 m (pc + 2) ls (.ref (E.2.2 + (n + K)) :: rest))) : W p l e R s m args below meth c H locs cells slots Q (F0 m pc ls (.int k :: rest)) := by
  subst hn; subst hK9
  refine gx_newZ S hK hY.1 (y_sz hY) hk hN hby ?_ har hf hdg (fun H1 h1 h2 => ?_)
  · funext k9; exact h0 _ _ (by rw [List.length_append]; exact Nat.le_refl _)
  · rw [List.length_append]; exact kk H1 (y_of h1 h2)
theorem y_newJ (S : CallFix p m c cc nL s args gx_G own) (hK : gx_K E s) (hY : gx_Y tb ds n0 E s σ τ H locs) (hn : tb.length = n) (K : Nat) (hK9 : ds.length = K) {k : Int32} {N : Nat} (hk : ¬ k < 0) (hN : k.toNatClampNeg = N) (hby : N ≤ 100000) (h0 : ∀ c9 k9 : Nat, n + K ≤ c9 → τ c9 k9 = 0) (har : Cond.arrayClass .long ∈ gx_G) (hf : cells + 1 ≤ R.cells ∧ slots + N ≤ R.slots) (hdg : decode cc pc = .ok (.newarray .long, 2))
    (kk : ∀ H1 : Heap, gx_Y tb (ds ++ [.inr (1, N, [])]) n0 E s σ τ H1 locs → W p l e R s m args below meth c H1 locs (cells + 1) (slots + N) Q (F0 m (pc + 2) ls (.ref (E.2.2 + (n + K)) :: rest))) : W p l e R s m args below meth c H locs cells slots Q (F0 m pc ls (.int k :: rest)) := by
  subst hn; subst hK9
  refine gx_newJ S hK hY.1 (y_sz hY) hk hN hby ?_ har hf hdg (fun H1 h1 h2 => ?_)
  · funext k9; exact h0 _ _ (by rw [List.length_append]; exact Nat.le_refl _)
  · rw [List.length_append]; exact kk H1 (y_of h1 h2)
theorem y_newS (S : CallFix p m c cc nL s args gx_G own) (hK : gx_K E s) (hN9 : gx_N s) (hY : gx_Y tb ds n0 E s σ τ H locs) (hn : tb.length = n) (K : Nat) (hK9 : ds.length = K) {k : Int32} {N : Nat} (hk : ¬ k < 0) (hN : k.toNatClampNeg = N) (hby : N ≤ 100000) (hcl : Cond.classLink own idx "DownTheGutter$Scene" ∈ gx_G) (hf : cells + 1 ≤ R.cells ∧ slots + N ≤ R.slots) (hdg : decode cc pc = .ok (.anewarray idx, 3))
    (kk : ∀ H1 : Heap, gx_Y tb (ds ++ [.inr (3, N, List.replicate N none)]) n0 E s σ τ H1 locs → W p l e R s m args below meth c H1 locs (cells + 1) (slots + N) Q (F0 m (pc + 3) ls (.ref (E.2.2 + (n + K)) :: rest))) : W p l e R s m args below meth c H locs cells slots Q (F0 m pc ls (.int k :: rest)) := by
  subst hn; subst hK9
  refine gx_newS S hK hN9 hY.1 (y_sz hY) hk hN hby hcl hf hdg (fun H1 h1 h2 => ?_)
  rw [List.length_append]; exact kk H1 (y_of h1 h2)
theorem y_new (S : CallFix p m c cc nL s args gx_G own) (hK : gx_K E s) (hY : gx_Y tb ds n0 E s σ τ H locs) (hn : tb.length = n) (K : Nat) (hK9 : ds.length = K) {ci N : Nat} {C : String} {T : u_T} (hC : gx_C ci C T N) (ty : Nat → FieldType) (hty : ∀ k, k < N → parseFieldDescriptor (T k).2.2.1 = some (ty k)) (fds : List (Option (Option Nat))) (hfs : ∀ j, j < N → defaultValue (ty j) = vp_V (gx_fv E.2.2 (fun _ => 0) 0 fds) j) (h0 : ∀ c9 k9 : Nat, n + K ≤ c9 → σ c9 k9 = 0) (hcl : Cond.classLink own idx C ∈ gx_G) (hin : Cond.instantiable C N ∈ gx_G) (hini : Cond.initialized C ∈ gx_G) (hf : cells + 1 ≤ R.cells ∧ slots + N ≤ R.slots) (hdg : decode cc pc = .ok (.new idx, 3))
    (kk : ∀ H1 : Heap, gx_Y tb (ds ++ [.inl (ci, fds)]) n0 E s σ τ H1 locs → W p l e R s m args below meth c H1 locs (cells + 1) (slots + N) Q (F0 m (pc + 3) ls (.ref (E.2.2 + (n + K)) :: rest))) : W p l e R s m args below meth c H locs cells slots Q (F0 m pc ls rest) := by
  subst hn; subst hK9
  refine gx_new S hK hY.1 (y_sz hY) hC ty hty fds hfs ?_ hcl hin hini hf hdg (fun H1 h1 h2 => ?_)
  · funext k9; exact h0 _ _ (by rw [List.length_append]; exact Nat.le_refl _)
  · rw [List.length_append]; exact kk H1 (y_of h1 h2)
theorem y_putF (S : CallFix p m c cc nL s args gx_G own) (hK : gx_K E s) (hA : ∀ t, gx_Ok t n0 E s) (hY : gx_Y tb ds n0 E s σ τ H locs) (hn : tb.length = n) (q : Nat) {ci : Nat} {fds : List (Option (Option Nat))} (hT : ds[q]? = some (.inl (ci, fds))) {C : String} {T : u_T} {N : Nat} (hC : gx_C ci C T N) (k : Nat) (hk : k < N) (hkf : k < fds.length) {ref : String} (hlink : Cond.fieldLink own idx ref (T k).2.1 (T k).2.2.1 ∈ gx_G) (href : (T k).1 = ref) (hfin : (T k).2.2.2 = true ∧ meth.name = "<init>" ∧ (T k).1 = own) {ty : FieldType} {j : Nat} (hd : parseFieldDescriptor (T k).2.2.1 = some ty) (hna : narrow ty (.ref (E.2.2 + j)) = .ref (E.2.2 + j)) (hfit : fits ty (.ref (E.2.2 + j)) = true) (hdg : decode cc pc = .ok (.putfield idx, 3))
    (kk : ∀ (H1 : Heap) (locs1 : List Loc), gx_Y tb (ds.set q (.inl (ci, fds.set k (some (some j))))) n0 E s σ τ H1 locs1 → W p l e R s m args below meth c H1 locs1 cells slots Q (F0 m (pc + 3) ls rest)) : W p l e R s m args below meth c H locs cells slots Q (F0 m pc ls (.ref (E.2.2 + j) :: .ref (E.2.2 + (n + q)) :: rest)) := by
  refine gx_putF S hK (hA _) hY.1 (gx_ap hn hT) hC k hk hkf hlink href hfin hd hna hfit hdg (fun H1 locs1 h1 h2 => kk H1 locs1 ⟨?_, ?_⟩)
  · rw [gx_aps hn] at h1; exact h1
  · rw [h2, List.length_set]; exact hY.2
theorem y_putI (S : CallFix p m c cc nL s args gx_G own) (hK : gx_K E s) (hA : ∀ t, gx_Ok t n0 E s) (hY : gx_Y tb ds n0 E s σ τ H locs) (hn : tb.length = n) (q : Nat) {ci : Nat} {fds : List (Option (Option Nat))} (hT : ds[q]? = some (.inl (ci, fds))) {C : String} {T : u_T} {N : Nat} (hC : gx_C ci C T N) (k : Nat) (hk : k < N) (hf : fds[k]? = some none) {ref : String} (hlink : Cond.fieldLink own idx ref (T k).2.1 (T k).2.2.1 ∈ gx_G) (href : (T k).1 = ref) (hfin : (T k).2.2.2 = false) {ty : FieldType} {v : Int32} (hd : parseFieldDescriptor (T k).2.2.1 = some ty) (hna : narrow ty (.int v) = .int v) (hfit : fits ty (.int v) = true) (hdg : decode cc pc = .ok (.putfield idx, 3))
    (kk : ∀ (H1 : Heap) (locs1 : List Loc), gx_Y tb ds n0 E s (up2 σ (n + q) k v) τ H1 locs1 → W p l e R s m args below meth c H1 locs1 cells slots Q (F0 m (pc + 3) ls rest)) : W p l e R s m args below meth c H locs cells slots Q (F0 m pc ls (.int v :: .ref (E.2.2 + (n + q)) :: rest)) :=
  gx_putI S hK (hA _) hY.1 (gx_ap hn hT) hC k hk hf hlink href hfin hd hna hfit hdg (fun H1 locs1 h1 h2 => kk H1 locs1 ⟨h1, by rw [h2]; exact hY.2⟩)
theorem y_iast (S : CallFix p m c cc nL s args gx_G own) (hK : gx_K E s) (hA : ∀ t, gx_Ok t n0 E s) (hY : gx_Y tb ds n0 E s σ τ H locs) (hn : tb.length = n) (q : Nat) {N : Nat} {rs : List (Option Nat)} (hT : ds[q]? = some (.inr (0, N, rs))) {i x : Int32} (j : Nat) (hj : i.toNatClampNeg = j) (hin : vp_in i N) (hdg : decode cc pc = .ok (.iastore, 1))
    (kk : ∀ (H1 : Heap) (locs1 : List Loc), gx_Y tb ds n0 E s (up2 σ (n + q) j x) τ H1 locs1 → W p l e R s m args below meth c H1 locs1 cells slots Q (F0 m (pc + 1) ls rest)) : W p l e R s m args below meth c H locs cells slots Q (F0 m pc ls (.int x :: .int i :: .ref (E.2.2 + (n + q)) :: rest)) :=
  gx_iastC S hK (hA _) hY.1 (gx_ap hn hT) j hj hin hdg (fun H1 locs1 h1 h2 => kk H1 locs1 ⟨h1, by rw [h2]; exact hY.2⟩)
theorem y_aast (S : CallFix p m c cc nL s args gx_G own) (hK : gx_K E s) (hA : ∀ t, gx_Ok t n0 E s) (hY : gx_Y tb ds n0 E s σ τ H locs) (hn : tb.length = n) (q v : Nat) {N : Nat} {rs : List (Option Nat)} (hT : ds[q]? = some (.inr (3, N, rs))) {fds : List (Option (Option Nat))} (hv : ds[v]? = some (.inl (7, fds))) {i : Int32} (j : Nat) (hj : i.toNatClampNeg = j) (hin : vp_in i N) (hrs : j < rs.length) (hdg : decode cc pc = .ok (.aastore, 1))
    (kk : ∀ (H1 : Heap) (locs1 : List Loc), gx_Y tb (ds.set q (.inr (3, N, rs.set j (some (n + v))))) n0 E s σ τ H1 locs1 → W p l e R s m args below meth c H1 locs1 cells slots Q (F0 m (pc + 1) ls rest)) : W p l e R s m args below meth c H locs cells slots Q (F0 m pc ls (.ref (E.2.2 + (n + v)) :: .int i :: .ref (E.2.2 + (n + q)) :: rest)) := by
  refine gx_aastC S hK (hA _) hY.1 (gx_ap hn hT) (gx_ap hn hv) j hj hin hrs hdg (fun H1 locs1 h1 h2 => kk H1 locs1 ⟨?_, ?_⟩)
  · rw [gx_aps hn] at h1; exact h1
  · rw [h2, List.length_set]; exact hY.2
theorem y_getr (S : CallFix p m c cc nL s args gx_G own) (hK : gx_K E s) (hY : gx_Y tb ds n0 E s σ τ H locs) (hn : tb.length = n) (q : Nat) {ci j : Nat} {fds : List (Option (Option Nat))} (hT : ds[q]? = some (.inl (ci, fds))) {C : String} {T : u_T} {N : Nat} (hC : gx_C ci C T N) (k : Nat) (hk : k < N) (hf : fds[k]? = some (some (some j))) {ref : String} (hlink : Cond.fieldLink own idx ref (T k).2.1 (T k).2.2.1 ∈ gx_G) (href : (T k).1 = ref) (hdg : decode cc pc = .ok (.getfield idx, 3))
    (kk : W p l e R s m args below meth c H locs cells slots Q (F0 m (pc + 3) ls (.ref (E.2.2 + j) :: rest))) : W p l e R s m args below meth c H locs cells slots Q (F0 m pc ls (.ref (E.2.2 + (n + q)) :: rest)) :=
  gx_getr S hK hY.1 (gx_ap hn hT) hC k hk hf hlink href hdg kk
/-- a maker's own maker is called: its object is the last cell -/
theorem y_cI {b : gD} {dsp news : List gD} {na K : Nat} (S : CallFix p m c cc nL s args gx_G own) (hK : gx_K E s) (hN9 : gx_N s) (hA : ∀ t, gx_Ok t n0 E s) (hY : gx_Y tb (dsp ++ [b]) n0 E s σ τ H locs) (hn : tb.length = n) (hK9 : dsp.length = K) (M : gx_Mc l y cc' mL d mc ms (tb ++ dsp ++ [b]) (tb ++ dsp ++ news) E σ σ' τ (.ref (E.2.2 + (n + K)) :: As)) (w : gx_Wi own idx y cc' mL na) (hR : d + 1 ≤ R.frames ∧ 8 + (mL + 11) + 40 * d ≤ R.locals) (hna : As.length = na) (hls : ls.size = nL) (hst : st = As.reverse ++ .ref (E.2.2 + (n + K)) :: rest) (hW : (rest.map fun v => v.category).sum ≤ 8) (hf : cells + mc ≤ R.cells ∧ slots + ms ≤ R.slots) (hdg : decode cc pc = .ok (.invokespecial idx, 3))
    (kk : ∀ (H1 : Heap) (locs1 : List Loc), gx_Y tb (dsp ++ news) n0 E s σ' τ H1 locs1 → W p l e R s m args below meth c H1 locs1 (cells + mc) (slots + ms) Q (F0 m (pc + 3) ls rest)) : W p l e R s m args below meth c H locs cells slots Q (F0 m pc ls st) := by
  refine gx_cI S hK hN9 (hA _) (by rw [List.append_assoc]; exact hY.1) (by rw [List.append_assoc]; exact y_sz hY) M w hR hna hls hst hW hf hdg (fun H1 locs1 h1 h2 => kk H1 locs1 ⟨?_, ?_⟩)
  · rw [List.append_assoc] at h1; exact h1
  · rw [List.append_assoc, List.length_append] at h2; exact h2
theorem y_cN {b : gD} {dsp news : List gD} {na K : Nat} {host : String} (S : CallFix p m c cc nL s args gx_G own) (hK : gx_K E s) (hN9 : gx_N s) (hA : ∀ t, gx_Ok t n0 E s) (hY : gx_Y tb (dsp ++ [b]) n0 E s σ τ H locs) (hn : tb.length = n) (hK9 : dsp.length = K) (M : gx_Mc l y cc' mL d mc ms (tb ++ dsp ++ [b]) (tb ++ dsp ++ news) E σ σ' τ (.ref (E.2.2 + (n + K)) :: As)) (w : gx_Wn own idx y host cc' mL na) (hR : d + 1 ≤ R.frames ∧ 8 + (mL + 11) + 40 * d ≤ R.locals) (hna : As.length = na) (hls : ls.size = nL) (hst : st = As.reverse ++ .ref (E.2.2 + (n + K)) :: rest) (hW : (rest.map fun v => v.category).sum ≤ 8) (hf : cells + mc ≤ R.cells ∧ slots + ms ≤ R.slots) (hdg : decode cc pc = .ok (.invokespecial idx, 3))
    (kk : ∀ (H1 : Heap) (locs1 : List Loc), gx_Y tb (dsp ++ news) n0 E s σ' τ H1 locs1 → W p l e R s m args below meth c H1 locs1 (cells + mc) (slots + ms) Q (F0 m (pc + 3) ls rest)) : W p l e R s m args below meth c H locs cells slots Q (F0 m pc ls st) := by
  refine gx_cN S hK hN9 (hA _) (by rw [List.append_assoc]; exact hY.1) (by rw [List.append_assoc]; exact y_sz hY) M w hR hna hls hst hW hf hdg (fun H1 locs1 h1 h2 => kk H1 locs1 ⟨?_, ?_⟩)
  · rw [List.append_assoc] at h1; exact h1
  · rw [List.append_assoc, List.length_append] at h2; exact h2
/-- a maker's body and its end -/
theorem y_b {b : gD} {news : List gD} {av : List Value} (hy : plainName y.cls = true) (hlen : (lg_sl av).length ≤ mL)
    (body : ∀ (p : Program) (e : Env) (s : State) (m : MethodId) (below : List Frame) (meth : Method) (c : Code), CallFix p m c cc mL s av.toArray gx_G y.cls → meth.sig.returnType = none → meth.locks = false → meth.name = y.name → gx_K E s → gx_N s → (∀ t, gx_Ok t (tb ++ [b]).length E s) → gx_Y tb [b] (tb ++ [b]).length E s σ τ s.heap [] → ∀ ls : Array Slot, lv_has ls mL (lv_args 0 av) →
      W p l e (gx_rc d mc ms) s m av.toArray below meth c s.heap [] 0 0 (MQ below (va_Qv (fun (_ : Unit) => True) (fun _ t => gx_P (tb ++ news) E σ' τ t.heap ∧ t.heap.size = E.2.2 + (tb ++ news).length) (gx_A (tb ++ [b]).length E.2.2 s.heap.size)) av.toArray s mc ms (gx_A (tb ++ [b]).length E.2.2 s.heap.size)) (F0 m 0 ls [])) : gx_Mc l y cc mL d mc ms (tb ++ [b]) (tb ++ news) E σ σ' τ av := by
  refine gx_bc hy hlen ?_
  intro p e s m below meth c S hr hlk hnm hK hN hz hw ls hl
  exact body p e s m below meth c S hr hlk hnm hK hN (fun t => gx_okc hz) ⟨hw, by rw [List.length_append] at hz; exact hz⟩ ls hl
theorem y_r {b : gD} {news : List gD} (S : CallFix p m c cc nL s args gx_G own) (hr : meth.sig.returnType = none) (hlk : meth.locks = false) (hY : gx_Y tb news (tb ++ [b]).length E s σ' τ H locs) (hdg : decode cc pc = .ok (.return_, 1)) :
    W p l e R s m args below meth c H locs mc ms (MQ below (va_Qv (fun (_ : Unit) => True) (fun _ t => gx_P (tb ++ news) E σ' τ t.heap ∧ t.heap.size = E.2.2 + (tb ++ news).length) (gx_A (tb ++ [b]).length E.2.2 s.heap.size)) args s mc ms (gx_A (tb ++ [b]).length E.2.2 s.heap.size)) (F0 m pc ls []) :=
  gx_rc9 S hr hlk hY.1 (y_sz hY) hdg
end GY
