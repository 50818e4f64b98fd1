/-! THE LAYER: the heap's picture is two functions of numbers: a cell's number and a place in it (field or element) give what stands there; the shape (classes, references, lengths) is a table. -/
/-- the words that may be handed on -/
def gx_G : List Cond := lw_tbl.filter goodWord
theorem gx_mem (i : Nat) {w : Cond} (h : lw_tbl[i]? = some w) (g : goodWord w = true) : w ∈ gx_G := List.mem_filter.mpr ⟨List.mem_of_getElem? h, g⟩
theorem gx_mems (ws : List Cond) (ps : List Nat) (hp : ws = ps.filterMap (fun i => lw_tbl[i]?)) (h : ws.all goodWord = true) : ∀ w ∈ ws, w ∈ gx_G := by
  intro w hw
  have h1 := List.all_eq_true.mp h w hw
  rw [hp] at hw
  obtain ⟨i, -, hi⟩ := List.mem_filterMap.mp hw
  exact gx_mem i hi h1
theorem gx_good {w : Cond} (h : w ∈ gx_G) : (w.onTables && w.keeps) = true ∨ ∃ ty, w = .arrayClass ty := good_of_word (List.mem_filter.mp h).2
abbrev gI : Type := Nat → Nat → Int32
abbrev gJ : Type := Nat → Nat → Int64
/-- an object: its class's number, its fields (a number; a null; a reference to a cell); an array: its kind (0 int, 1 long, 2 boolean, 3 Scene), its length, its references -/
abbrev gD : Type := (Nat × List (Option (Option Nat))) ⊕ (Nat × Nat × List (Option Nat))
/-- the tables' numbers, the addresses of the text constants and of their bytes; the array classes; the address of cell 0 -/
abbrev gE : Type := (va_G × (Nat → Nat) × (Nat → Nat)) × (Nat → ClassId) × Nat
def up2 (σ : gI) (c k : Nat) (v : Int32) : gI := fun c' k' => if c' = c ∧ k' = k then v else σ c' k'
def upJ (τ : gJ) (c k : Nat) (v : Int64) : gJ := fun c' k' => if c' = c ∧ k' = k then v else τ c' k'
def gx_v (b : Nat) (x : Int32) : Option (Option Nat) → Value
  | none => .int x
  | some none => .null
  | some (some j) => .ref (b + j)
def gx_fv (b : Nat) (f : Nat → Int32) : Nat → List (Option (Option Nat)) → List Value
  | _, [] => []
  | k, d :: r => gx_v b (f k) d :: gx_fv b f (k + 1) r
def gx_cell (E : gE) (σ : gI) (τ : gJ) (c : Nat) : gD → va_E
  | .inl (ci, fds) => .inr (ci, gx_fv E.2.2 (σ c) 0 fds)
  | .inr (0, n, _) => .inl (E.2.1 0, n, .inl (σ c))
  | .inr (1, n, _) => .inl (E.2.1 1, n, .inr (.inl (τ c)))
  | .inr (2, n, _) => .inl (E.2.1 2, n, .inl (σ c))
  | .inr (_, n, rs) => .inl (E.2.1 3, n, .inr (.inr (.inr (.inr (fun i => (rs[i]?.getD none).map (fun j => E.2.2 + j))))))
def gx_wf (E : gE) (σ : gI) (τ : gJ) : Nat → List gD → va_W
  | _, [] => []
  | c, d :: r => (E.2.2 + c, gx_cell E σ τ c d) :: gx_wf E σ τ (c + 1) r
def gx_w (tb : List gD) (E : gE) (σ : gI) (τ : gJ) : va_W := gx_wf E σ τ 0 tb
theorem gx_wf_at (E : gE) (σ : gI) (τ : gJ) : ∀ (tb : List gD) (c k : Nat), (gx_wf E σ τ c tb)[k]? = tb[k]?.map (fun d => (E.2.2 + (c + k), gx_cell E σ τ (c + k) d))
  | [], c, k => by simp [gx_wf]
  | d :: r, c, 0 => by simp [gx_wf]
  | d :: r, c, k + 1 => by
    have h := gx_wf_at E σ τ r (c + 1) k
    simp only [gx_wf, List.getElem?_cons_succ, h]
    rw [show c + 1 + k = c + (k + 1) by omega]
theorem gx_at {tb : List gD} {E : gE} {σ : gI} {τ : gJ} {c : Nat} {d : gD} (h : tb[c]? = some d) : (gx_w tb E σ τ)[c]? = some (E.2.2 + c, gx_cell E σ τ c d) := by
  have h1 := gx_wf_at E σ τ tb 0 c
  rw [h, Nat.zero_add] at h1
  exact h1
theorem gx_wf_len (E : gE) (σ : gI) (τ : gJ) : ∀ (tb : List gD) (c : Nat), (gx_wf E σ τ c tb).length = tb.length
  | [], c => rfl
  | d :: r, c => by simp [gx_wf, gx_wf_len E σ τ r (c + 1)]
theorem gx_wf_app (E : gE) (σ : gI) (τ : gJ) : ∀ (tb t2 : List gD) (c : Nat), gx_wf E σ τ c (tb ++ t2) = gx_wf E σ τ c tb ++ gx_wf E σ τ (c + tb.length) t2
  | [], t2, c => by simp [gx_wf]
  | d :: r, t2, c => by
    simp only [List.cons_append, gx_wf, List.length_cons, gx_wf_app E σ τ r t2 (c + 1)]
    rw [show c + 1 + r.length = c + (r.length + 1) by omega]
theorem gx_w_push (E : gE) (σ : gI) (τ : gJ) (tb : List gD) (d : gD) : gx_w (tb ++ [d]) E σ τ = gx_w tb E σ τ ++ [(E.2.2 + tb.length, gx_cell E σ τ tb.length d)] := by
  unfold gx_w
  rw [gx_wf_app, Nat.zero_add]
  rfl
theorem gx_w_set {tb : List gD} {E : gE} {σ σ' : gI} {τ τ' : gJ} {c : Nat} {d' : gD} (hc : c < tb.length) (ho : ∀ c' d1, c' ≠ c → gx_cell E σ' τ' c' d1 = gx_cell E σ τ c' d1) :
    (gx_w tb E σ τ).set c (E.2.2 + c, gx_cell E σ' τ' c d') = gx_w (tb.set c d') E σ' τ' := by
  apply List.ext_getElem?
  intro k
  have h1 := gx_wf_at E σ τ tb 0 k
  have h2 := gx_wf_at E σ' τ' (tb.set c d') 0 k
  rw [Nat.zero_add] at h1 h2
  have hl : c < (gx_w tb E σ τ).length := by unfold gx_w; rw [gx_wf_len]; exact hc
  by_cases hk : k = c
  · subst hk
    rw [List.getElem?_set_self hl]
    unfold gx_w
    rw [h2, List.getElem?_set_self hc]
    rfl
  · rw [List.getElem?_set_ne (Ne.symm hk)]
    unfold gx_w
    rw [h1, h2, List.getElem?_set_ne (Ne.symm hk)]
    cases tb[k]? with
    | none => rfl
    | some d1 => simp only [Option.map_some]; rw [ho k d1 hk]
theorem gx_set_same {α : Type} {l : List α} {c : Nat} {d : α} (h : l[c]? = some d) : l.set c d = l := by
  apply List.ext_getElem?
  intro k
  by_cases hk : k = c
  · subst hk
    rw [List.getElem?_set_self (List.getElem?_eq_some_iff.mp h).1, h]
  · rw [List.getElem?_set_ne (Ne.symm hk)]
theorem gx_fv_at (b : Nat) (f : Nat → Int32) : ∀ (fds : List (Option (Option Nat))) (c k : Nat), (gx_fv b f c fds)[k]? = fds[k]?.map (fun d => gx_v b (f (c + k)) d)
  | [], c, k => by simp [gx_fv]
  | d :: r, c, 0 => by simp [gx_fv]
  | d :: r, c, k + 1 => by
    have h := gx_fv_at b f r (c + 1) k
    simp only [gx_fv, List.getElem?_cons_succ, h]
    rw [show c + 1 + k = c + (k + 1) by omega]
theorem gx_fv_len (b : Nat) (f : Nat → Int32) : ∀ (fds : List (Option (Option Nat))) (c : Nat), (gx_fv b f c fds).length = fds.length
  | [], c => rfl
  | d :: r, c => by simp [gx_fv, gx_fv_len b f r (c + 1)]
theorem gx_fv_set (b : Nat) (f g : Nat → Int32) (fds : List (Option (Option Nat))) (k : Nat) (d : Option (Option Nat)) (hk : k < fds.length) (hg : ∀ j, j ≠ k → g j = f j) : (gx_fv b f 0 fds).set k (gx_v b (g k) d) = gx_fv b g 0 (fds.set k d) := by
  apply List.ext_getElem?
  intro j
  have hl : k < (gx_fv b f 0 fds).length := by rw [gx_fv_len]; exact hk
  by_cases hj : j = k
  · subst hj
    rw [List.getElem?_set_self hl, gx_fv_at, List.getElem?_set_self hk, Nat.zero_add]
    rfl
  · rw [List.getElem?_set_ne (Ne.symm hj), gx_fv_at, gx_fv_at, List.getElem?_set_ne (Ne.symm hj), Nat.zero_add, hg j hj]
theorem gx_cell_other {E : gE} {σ : gI} {τ : gJ} {c k : Nat} {v : Int32} (c' : Nat) (d : gD) (h : c' ≠ c) : gx_cell E (up2 σ c k v) τ c' d = gx_cell E σ τ c' d := by
  have h1 : up2 σ c k v c' = σ c' := by funext j; simp [up2, h]
  rcases d with ⟨ci, fds⟩ | ⟨n, m, rs⟩
  · simp only [gx_cell, h1]
  · match n with
    | 0 => simp only [gx_cell, h1]
    | 1 => rfl
    | 2 => simp only [gx_cell, h1]
    | n + 3 => rfl
theorem gx_cell_otherJ {E : gE} {σ : gI} {τ : gJ} {c k : Nat} {v : Int64} (c' : Nat) (d : gD) (h : c' ≠ c) : gx_cell E σ (upJ τ c k v) c' d = gx_cell E σ τ c' d := by
  have h1 : upJ τ c k v c' = τ c' := by funext j; simp [upJ, h]
  rcases d with ⟨ci, fds⟩ | ⟨n, m, rs⟩
  · rfl
  · match n with
    | 0 => rfl
    | 1 => simp only [gx_cell, h1]
    | 2 => rfl
    | n + 3 => rfl
theorem up2_upd (σ : gI) (c k : Nat) (v : Int32) : up2 σ c k v c = upd (σ c) k v := by
  funext j; by_cases h : j = k <;> simp [up2, upd, h]
theorem upJ_upd (τ : gJ) (c k : Nat) (v : Int64) : upJ τ c k v c = vp_updL (τ c) k v := by
  funext j; by_cases h : j = k <;> simp [upJ, vp_updL, h]
/-- the addresses that a method may change -/
def gx_A (n : Nat) (b sz : Nat) : Nat → Prop := fun q => (b ≤ q ∧ q < b + n) ∨ sz ≤ q
def gx_ty (E : gE) : List (ClassId × FieldType) := [(E.2.1 0, .int), (E.2.1 1, .long), (E.2.1 2, .boolean), (E.2.1 3, .object "DownTheGutter$Scene")]
abbrev gx_P (tb : List gD) (E : gE) (σ : gI) (τ : gJ) (H : Heap) : Prop := va_P E.1.1 vwCl (gx_w tb E σ τ) H
/-- what lies below cell 0 and stays: the text constants, statics that are read -/
def gx_ss : List (String × Nat × String × List Int32) := [(RX8, 65, "gdfrmik", [103, 100, 102, 114, 109, 105, 107]), (RX5, 75, "pmwibcnf", [112, 109, 119, 105, 98, 99, 110, 102]), (RX5, 101, "+-*/<>=", [43, 45, 42, 47, 60, 62, 61]), (RX2, 47, "tpnc", [116, 112, 110, 99]), (RX11, 142, "no such place", [110, 111, 32, 115, 117, 99, 104, 32, 112, 108, 97, 99, 101]), (RX11, 170, "a place has no such number", [97, 32, 112, 108, 97, 99, 101, 32, 104, 97, 115, 32, 110, 111, 32, 115, 117, 99, 104, 32, 110, 117, 109, 98, 101, 114]), (RX11, 173, "no such thing", [110, 111, 32, 115, 117, 99, 104, 32, 116, 104, 105, 110, 103]), (RX11, 196, "a thing has no such number", [97, 32, 116, 104, 105, 110, 103, 32, 104, 97, 115, 32, 110, 111, 32, 115, 117, 99, 104, 32, 110, 117, 109, 98, 101, 114]), (RX11, 424, "the row has no such number", [116, 104, 101, 32, 114, 111, 119, 32, 104, 97, 115, 32, 110, 111, 32, 115, 117, 99, 104, 32, 110, 117, 109, 98, 101, 114]), (RX12, 192, "gdfrmik", [103, 100, 102, 114, 109, 105, 107]), (RX12, 181, "abcdefghijkl", [97, 98, 99, 100, 101, 102, 103, 104, 105, 106, 107, 108]), (RX12, 197, "0123456789", [48, 49, 50, 51, 52, 53, 54, 55, 56, 57]), (RJ1, 151, "", []), (RJ2, 295, "", []), (RX12, 223, "0123", [48, 49, 50, 51]), (RX12, 241, "pmwibcnf", [112, 109, 119, 105, 98, 99, 110, 102]), (RX12, 246, "<>=", [60, 62, 61]), (RX12, 248, "+-", [43, 45]), (RX12, 250, "*/", [42, 47]), (RX12, 361, "tpnc", [116, 112, 110, 99]), (RX12, 363, "123456789", [49, 50, 51, 52, 53, 54, 55, 56, 57])]
def gx_B (E : gE) : Nat → Prop := fun q => E.2.2 ≤ q
def gx_isNest : Cond → Bool
  | .methodLinkNest _ _ _ _ => true
  | _ => false
def gx_nest : List Cond := [Cond.methodLinkNest RX11 11 yX7_init RX11, Cond.methodLinkNest RX11 18 yX8_init RX11, Cond.methodLinkNest RX11 28 yX10_init RX11, Cond.methodLinkNest RX11 45 yX2_init RX11, Cond.methodLinkNest RX11 52 yX6_init RX11, Cond.methodLinkNest RX3 15 yX6_init RX11, Cond.methodLinkNest RX11 73 yX0_init RX11, Cond.methodLinkNest RX11 80 yX4_init RX11, Cond.methodLinkNest RX9 24 yX6_init RX11, Cond.methodLinkNest RX9 155 yX11_kitchenOf RX11]
theorem gx_nest_ok : gx_nest.all gx_isNest = true := by decide +kernel
theorem gx_nw_warm {s U : State} (hW : s.WarmedH U.vm) (h : ∀ w ∈ gx_nest, va_Nw w s) : ∀ w ∈ gx_nest, va_Nw w U := by
  intro w hw
  have h1 := h w hw
  have h2 : gx_isNest w = true := List.all_eq_true.mp gx_nest_ok w hw
  cases w <;> first | exact va_Nw.warmM hW h1 | (exfalso; revert h2; simp [gx_isNest])
theorem gx_nw_same {s U : State} (hV : s.vm = U.vm) (h : ∀ w ∈ gx_nest, va_Nw w s) : ∀ w ∈ gx_nest, va_Nw w U := by
  intro w hw
  have h1 := h w hw
  have h2 : gx_isNest w = true := List.all_eq_true.mp gx_nest_ok w hw
  cases w <;> first | exact va_Nw.same rfl hV h1 | (exfalso; revert h2; simp [gx_isNest])
def gx_Z (E : gE) (U : State) (H : Heap) : Prop := (∀ (i : Nat) (q : String × Nat × String × List Int32), gx_ss[i]? = some q → vk_S 1 [q.2.2.2.length] [q.2.2.2] (fun _ => E.1.2.1 i) (fun _ => E.1.2.2 i) (gx_B E) U H ∧ vk_R q.1 q.2.1 q.2.2.1 (E.1.2.1 i) U) ∧ va_Z "java/lang/String" "COMPACT_STRINGS" "Z" (.int 1) (gx_B E) U H ∧ vx_Zq Bundle.tN "UNASSIGNED_STACK" Bundle.steD (gx_B E) U H ∧ vx_Zq Bundle.tN "SUPPRESSED_SENTINEL" Bundle.listD (gx_B E) U H ∧ E.2.2 ≤ H.size ∧ va_Zq "jdk/internal/util/Preconditions" "SIOOBE_FORMATTER" "Ljava/util/function/BiFunction;" (gx_B E) U H ∧ (∀ w ∈ gx_nest, va_Nw w U)
theorem gx_Z.warm {E : gE} {s U : State} {H : Heap} (hW : s.WarmedH U.vm) (h : gx_Z E s H) : gx_Z E U H :=
  ⟨fun i q hi => ⟨vk_S.moved hW.alike (h.1 i q hi).1, vk_R.warm hW (h.1 i q hi).2⟩, va_Z.moved hW.alike h.2.1, vx_Zq.moved hW.alike h.2.2.1, vx_Zq.moved hW.alike h.2.2.2.1, h.2.2.2.2.1, va_Zq.moved hW.alike h.2.2.2.2.2.1, gx_nw_warm hW h.2.2.2.2.2.2⟩
theorem gx_Z.same {E : gE} {s U : State} {H : Heap} (hV : U.vm = s.vm) (h : gx_Z E s H) : gx_Z E U H := by
  have hA : s.vm.Alike U.vm := by rw [hV]; exact Vm.Alike.refl _
  exact ⟨fun i q hi => ⟨vk_S.moved hA (h.1 i q hi).1, vk_R.same hV (h.1 i q hi).2⟩, va_Z.moved hA h.2.1, vx_Zq.moved hA h.2.2.1, vx_Zq.moved hA h.2.2.2.1, h.2.2.2.2.1, va_Zq.moved hA h.2.2.2.2.2.1, gx_nw_same hV.symm h.2.2.2.2.2.2⟩
theorem gx_Z.kept {E : gE} {U : State} {H H1 : Heap} (h : gx_Z E U H) (hq : ∀ a : Nat, a < H.size → ¬ gx_B E a → H1[a]? = H[a]?) (hz : H.size ≤ H1.size) : gx_Z E U H1 :=
  ⟨fun i q hi => ⟨vk_S.kept (h.1 i q hi).1 hq, (h.1 i q hi).2⟩, va_Z.kept h.2.1 hq, vx_Zq.kept h.2.2.1 hq, vx_Zq.kept h.2.2.2.1 hq, Nat.le_trans h.2.2.2.2.1 hz, va_Zq.kept h.2.2.2.2.2.1 hq, h.2.2.2.2.2.2⟩
def gx_K (E : gE) (U : State) : Prop := va_K E.1.1 vwCl (gx_ty E) U ∧ gx_Z E U U.heap
theorem gx_D {tb : List gD} {E : gE} {σ : gI} {τ : gJ} {sz : Nat} : va_D (gx_A tb.length E.2.2 sz) (gx_w tb E σ τ) := by
  have key : ∀ (k : Nat) (q : Nat × va_E), (gx_w tb E σ τ)[k]? = some q → q.1 = E.2.2 + k ∧ k < tb.length := by
    intro k q h
    have h1 := gx_wf_at E σ τ tb 0 k
    unfold gx_w at h
    rw [h1] at h
    cases hk : tb[k]? with
    | none => rw [hk] at h; cases h
    | some d =>
      rw [hk] at h
      simp only [Option.map_some, Option.some.injEq] at h
      subst h
      exact ⟨by simp, (List.getElem?_eq_some_iff.mp hk).1⟩
  refine ⟨fun i j x y hi hj hxy => ?_, fun k q hk => ?_⟩
  · have h1 := (key i x hi).1
    have h2 := (key j y hj).1
    omega
  · obtain ⟨h1, h2⟩ := key k q hk
    exact Or.inl ⟨by omega, by omega⟩
/-- the world in a method's frame: the picture, and what changed since its start -/
def gx_W (tb : List gD) (n0 : Nat) (E : gE) (s : State) (σ : gI) (τ : gJ) (H : Heap) (locs : List Loc) : Prop := gx_P tb E σ τ H ∧ va_S (gx_A n0 E.2.2 s.heap.size) s.heap H locs
/-- the world's cells are all among those that the method may change -/
def gx_Ok (tb : List gD) (n0 : Nat) (E : gE) (s : State) : Prop := ∀ k, k < tb.length → gx_A n0 E.2.2 s.heap.size (E.2.2 + k)
theorem gx_ok {tb : List gD} {E : gE} {s : State} : gx_Ok tb tb.length E s := fun k h => Or.inl ⟨by omega, by omega⟩
theorem gx_okc {tb : List gD} {n0 : Nat} {E : gE} {s : State} (h : s.heap.size = E.2.2 + n0) : gx_Ok tb n0 E s := fun k _ => by
  by_cases hk : k < n0
  · exact Or.inl ⟨by omega, by omega⟩
  · exact Or.inr (by omega)
/-- a class of the tables: its number, name, fields -/
def gx_C (ci : Nat) (C : String) (T : u_T) (N : Nat) : Prop := vwCl[ci]? = some (C, T, N) ∧ (∀ w ∈ u_ws C T N, w ∈ gx_G) ∧ (∀ a, a < N → ∀ b, b < N → a ≠ b → (T a).2.1 ≠ (T b).2.1) ∧ ∃ ty : Nat → FieldType, ∀ k, k < N → parseFieldDescriptor (T k).2.2.1 = some (ty k)
theorem gx_K.move {tb : List gD} {n0 : Nat} {E : gE} {s U : State} {σ : gI} {τ : gJ} {H : Heap} {locs : List Loc} (hW : s.WarmedH U.vm) (hU : U.heap = H) (hw : gx_W tb n0 E s σ τ H locs) (hK : gx_K E s) : gx_K E U := by
  refine ⟨va_K.moved hW.alike hK.1, ?_⟩
  rw [hU]
  refine gx_Z.warm hW (gx_Z.kept hK.2 (fun a h1 h2 => hw.2.2.1 a h1 (fun h3 => ?_)) hw.2.1)
  rcases h3 with h3 | h3
  · exact h2 h3.1
  · omega
section GX
variable {p : Program} {l : Launch} {e : Env} {R : Room} {s : State} {m : MethodId} {args : Array Value} {below : List Frame} {meth : Method} {c : Code} {H : Heap} {locs : List Loc} {cells slots : Nat} {Q : State → Prop}
variable {cc : ByteArray} {pc nL : Nat} {ls : Array Slot} {rest : List Value} {own : String} {tb : List gD} {n0 : Nat} {E : gE} {σ : gI} {τ : gJ}
theorem gx_top {x v : Int32} (h : x = v) (k : W p l e R s m args below meth c H locs cells slots Q (F0 m pc ls (.int v :: rest))) : W p l e R s m args below meth c H locs cells slots Q (F0 m pc ls (.int x :: rest)) := h ▸ k
theorem gx_topl {x v : Int64} (h : x = v) (k : W p l e R s m args below meth c H locs cells slots Q (F0 m pc ls (.long v :: rest))) : W p l e R s m args below meth c H locs cells slots Q (F0 m pc ls (.long x :: rest)) := h ▸ k
/-- a number in a field -/
theorem gx_get (S : CallFix p m c cc nL s args gx_G own) (hK : gx_K E s) (hw : gx_W tb n0 E s σ τ H locs) {q ci : Nat} {fds : List (Option (Option Nat))} (hT : tb[q]? = some (.inl (ci, fds))) {C : String} {T : u_T} {N : Nat} (hC : gx_C ci C T N) (k : Nat) (hk : k < N) (hf : fds[k]? = some none) {index : Nat} {ref : String} (hlink : Cond.fieldLink own index ref (T k).2.1 (T k).2.2.1 ∈ gx_G) (href : (T k).1 = ref) (hdg : decode cc pc = .ok (.getfield index, 3))
    (kk : W p l e R s m args below meth c H locs cells slots Q (F0 m (pc + 3) ls (.int (σ q k) :: rest))) : W p l e R s m args below meth c H locs cells slots Q (F0 m pc ls (.ref (E.2.2 + q) :: rest)) := by
  obtain ⟨hx, hb, hml, hown, hts⟩ := S
  subst href
  refine va_get (v := .int (σ q k)) (ci := ci) hx hb hts hC.2.1 hown hK.1 hw.1 q (gx_at hT) hC.1 k hk (hts _ hlink) (fun _ h9 => h9) ?_ hdg kk
  rw [gx_fv_at, hf, Nat.zero_add]
  rfl
/-- a reference in a field -/
theorem gx_getr (S : CallFix p m c cc nL s args gx_G own) (hK : gx_K E s) (hw : gx_W tb n0 E s σ τ H locs) {q ci j : Nat} {fds : List (Option (Option Nat))} (hT : tb[q]? = some (.inl (ci, fds))) {C : String} {T : u_T} {N : Nat} (hC : gx_C ci C T N) (k : Nat) (hk : k < N) (hf : fds[k]? = some (some (some j))) {index : Nat} {ref : String} (hlink : Cond.fieldLink own index ref (T k).2.1 (T k).2.2.1 ∈ gx_G) (href : (T k).1 = ref) (hdg : decode cc pc = .ok (.getfield index, 3))
    (kk : W p l e R s m args below meth c H locs cells slots Q (F0 m (pc + 3) ls (.ref (E.2.2 + j) :: rest))) : W p l e R s m args below meth c H locs cells slots Q (F0 m pc ls (.ref (E.2.2 + q) :: rest)) := by
  obtain ⟨hx, hb, hml, hown, hts⟩ := S
  subst href
  refine va_get (v := .ref (E.2.2 + j)) (ci := ci) hx hb hts hC.2.1 hown hK.1 hw.1 q (gx_at hT) hC.1 k hk (hts _ hlink) (fun _ h9 => h9) ?_ hdg kk
  rw [gx_fv_at, hf, Nat.zero_add]
  rfl
theorem gx_len {α : Type} {l : List α} {c : Nat} {d : α} (h : l[c]? = some d) : c < l.length := (List.getElem?_eq_some_iff.mp h).1
theorem gx_Dn (hA : gx_Ok tb n0 E s) : va_D (gx_A n0 E.2.2 s.heap.size) (gx_w tb E σ τ) := by
  refine ⟨(gx_D (sz := s.heap.size)).1, fun k1 q1 h1 => ?_⟩
  have h2 := gx_wf_at E σ τ tb 0 k1
  unfold gx_w at h1
  rw [h2] at h1
  cases hk : tb[k1]? with
  | none => rw [hk] at h1; cases h1
  | some d =>
    rw [hk] at h1
    simp only [Option.map_some, Option.some.injEq, Nat.zero_add] at h1
    subst h1
    exact hA k1 (List.getElem?_eq_some_iff.mp hk).1
/-- a number into a field -/
theorem gx_put (S : CallFix p m c cc nL s args gx_G own) (hK : gx_K E s) (hA : gx_Ok tb n0 E s) (hw : gx_W tb n0 E s σ τ H locs) {q ci : Nat} {fds : List (Option (Option Nat))} (hT : tb[q]? = some (.inl (ci, fds))) {C : String} {T : u_T} {N : Nat} (hC : gx_C ci C T N) (k : Nat) (hk : k < N) (hf : fds[k]? = some none) {index : Nat} {ref : String} (hlink : Cond.fieldLink own index ref (T k).2.1 (T k).2.2.1 ∈ gx_G) (href : (T k).1 = ref) (hfin : (T k).2.2.2 = false) {ty : FieldType} {v : Int32} (hd : parseFieldDescriptor (T k).2.2.1 = some ty) (hn : narrow ty (.int v) = .int v) (hfit : fits ty (.int v) = true) (hdg : decode cc pc = .ok (.putfield index, 3))
    (kk : ∀ (H1 : Heap) (locs1 : List Loc), gx_W tb n0 E s (up2 σ q k v) τ H1 locs1 → W p l e R s m args below meth c H1 locs1 cells slots Q (F0 m (pc + 3) ls rest)) : W p l e R s m args below meth c H locs cells slots Q (F0 m pc ls (.int v :: .ref (E.2.2 + q) :: rest)) := by
  obtain ⟨hx, hb, hml, hown, hts⟩ := S
  subst href
  obtain ⟨ty0, hty⟩ := hC.2.2.2
  have hk1 := gx_len hf
  refine va_put (ci := ci) (v := .int v) hx hb hts hC.2.1 ty0 hty hC.2.2.1 hown hK.1 hw.1 (gx_Dn hA) hw.2 q (gx_at hT) hC.1 k hk (hts _ hlink) (fun _ h9 => h9) hfin hd hn hfit (by rw [gx_fv_len]; exact hk1) hdg (fun H1 locs1 hP _ hS => kk H1 locs1 ⟨?_, hS⟩)
  have e1 : gx_cell E (up2 σ q k v) τ q (.inl (ci, fds)) = .inr (ci, (gx_fv E.2.2 (σ q) 0 fds).set k (.int v)) := by
    show (Sum.inr (ci, gx_fv E.2.2 (up2 σ q k v q) 0 fds) : va_E) = _
    have h2 := gx_fv_set E.2.2 (σ q) (up2 σ q k v q) fds k none hk1 (fun j hj => by simp [up2, hj])
    rw [gx_set_same hf] at h2
    rw [← h2]
    simp [gx_v, up2]
  rw [← e1, gx_w_set (gx_len hT) (fun c' d1 h => gx_cell_other c' d1 h), gx_set_same hT] at hP
  exact hP
theorem gx_in {i : Int32} {n j : Nat} (h : i.toNatClampNeg = j) (h0 : ¬ i < 0) (hj : j < n) : vp_in i n := by
  intro h1
  rcases h1 with h1 | h1
  · exact h0 h1
  · omega
/-- an element of an int array -/
theorem gx_iald (S : CallFix p m c cc nL s args gx_G own) (hK : gx_K E s) (hw : gx_W tb n0 E s σ τ H locs) {q n : Nat} {rs : List (Option Nat)} (hT : tb[q]? = some (.inr (0, n, rs))) {i : Int32} (j : Nat) (hj : i.toNatClampNeg = j) (hin : vp_in i n) (hdg : decode cc pc = .ok (.iaload, 1))
    (kk : W p l e R s m args below meth c H locs cells slots Q (F0 m (pc + 1) ls (.int (σ q j) :: rest))) : W p l e R s m args below meth c H locs cells slots Q (F0 m pc ls (.int i :: .ref (E.2.2 + q) :: rest)) := by
  subst hj
  exact va_iald S.1 S.2.1 hK.1 hw.1 q 0 (gx_at hT) rfl hin hdg kk
theorem gx_iast (S : CallFix p m c cc nL s args gx_G own) (hK : gx_K E s) (hA : gx_Ok tb n0 E s) (hw : gx_W tb n0 E s σ τ H locs) {q n : Nat} {rs : List (Option Nat)} (hT : tb[q]? = some (.inr (0, n, rs))) {i x : Int32} (j : Nat) (hj : i.toNatClampNeg = j) (hin : vp_in i n) (hdg : decode cc pc = .ok (.iastore, 1))
    (kk : ∀ (H1 : Heap) (locs1 : List Loc), gx_W tb n0 E s (up2 σ q j x) τ H1 locs1 → W p l e R s m args below meth c H1 locs1 cells slots Q (F0 m (pc + 1) ls rest)) : W p l e R s m args below meth c H locs cells slots Q (F0 m pc ls (.int x :: .int i :: .ref (E.2.2 + q) :: rest)) := by
  subst hj
  refine va_iast S.1 S.2.1 hK.1 hw.1 (gx_Dn hA) hw.2 q 0 (gx_at hT) rfl hin hdg (fun H1 locs1 hP _ hS => kk H1 locs1 ⟨?_, hS⟩)
  have e1 : gx_cell E (up2 σ q i.toNatClampNeg x) τ q (.inr (0, n, rs)) = .inl (E.2.1 0, n, .inl (upd (σ q) i.toNatClampNeg x)) := by
    show (Sum.inl (E.2.1 0, n, Sum.inl (up2 σ q i.toNatClampNeg x q)) : va_E) = _
    rw [up2_upd]
  rw [← e1, gx_w_set (gx_len hT) (fun c' d1 h => gx_cell_other c' d1 h), gx_set_same hT] at hP
  exact hP
/-- an element of a boolean array -/
theorem gx_zald (S : CallFix p m c cc nL s args gx_G own) (hK : gx_K E s) (hw : gx_W tb n0 E s σ τ H locs) {q n : Nat} {rs : List (Option Nat)} (hT : tb[q]? = some (.inr (2, n, rs))) {i : Int32} (j : Nat) (hj : i.toNatClampNeg = j) (hin : vp_in i n) (hdg : decode cc pc = .ok (.baload, 1))
    (kk : W p l e R s m args below meth c H locs cells slots Q (F0 m (pc + 1) ls (.int (σ q j) :: rest))) : W p l e R s m args below meth c H locs cells slots Q (F0 m pc ls (.int i :: .ref (E.2.2 + q) :: rest)) := by
  subst hj
  exact va_zald S.1 S.2.1 hK.1 hw.1 q 2 (gx_at hT) rfl hin hdg kk
theorem gx_zast (S : CallFix p m c cc nL s args gx_G own) (hK : gx_K E s) (hA : gx_Ok tb n0 E s) (hw : gx_W tb n0 E s σ τ H locs) {q n : Nat} {rs : List (Option Nat)} (hT : tb[q]? = some (.inr (2, n, rs))) {i x : Int32} (j : Nat) (hj : i.toNatClampNeg = j) (hin : vp_in i n) (hx : vp_nar .boolean x = x) (hdg : decode cc pc = .ok (.bastore, 1))
    (kk : ∀ (H1 : Heap) (locs1 : List Loc), gx_W tb n0 E s (up2 σ q j x) τ H1 locs1 → W p l e R s m args below meth c H1 locs1 cells slots Q (F0 m (pc + 1) ls rest)) : W p l e R s m args below meth c H locs cells slots Q (F0 m pc ls (.int x :: .int i :: .ref (E.2.2 + q) :: rest)) := by
  subst hj
  refine va_zast S.1 S.2.1 hK.1 hw.1 (gx_Dn hA) hw.2 q 2 (gx_at hT) rfl hin hdg (fun H1 locs1 hP _ hS => kk H1 locs1 ⟨?_, hS⟩)
  rw [hx] at hP
  have e1 : gx_cell E (up2 σ q i.toNatClampNeg x) τ q (.inr (2, n, rs)) = .inl (E.2.1 2, n, .inl (upd (σ q) i.toNatClampNeg x)) := by
    show (Sum.inl (E.2.1 2, n, Sum.inl (up2 σ q i.toNatClampNeg x q)) : va_E) = _
    rw [up2_upd]
  rw [← e1, gx_w_set (gx_len hT) (fun c' d1 h => gx_cell_other c' d1 h), gx_set_same hT] at hP
  exact hP
/-- an element of a long array -/
theorem gx_lald (S : CallFix p m c cc nL s args gx_G own) (hK : gx_K E s) (hw : gx_W tb n0 E s σ τ H locs) {q n : Nat} {rs : List (Option Nat)} (hT : tb[q]? = some (.inr (1, n, rs))) {i : Int32} (j : Nat) (hj : i.toNatClampNeg = j) (hin : vp_in i n) (hdg : decode cc pc = .ok (.laload, 1))
    (kk : W p l e R s m args below meth c H locs cells slots Q (F0 m (pc + 1) ls (.long (τ q j) :: rest))) : W p l e R s m args below meth c H locs cells slots Q (F0 m pc ls (.int i :: .ref (E.2.2 + q) :: rest)) := by
  subst hj
  exact va_lald S.1 S.2.1 hK.1 hw.1 q 1 (gx_at hT) rfl hin hdg kk
theorem gx_last (S : CallFix p m c cc nL s args gx_G own) (hK : gx_K E s) (hA : gx_Ok tb n0 E s) (hw : gx_W tb n0 E s σ τ H locs) {q n : Nat} {rs : List (Option Nat)} (hT : tb[q]? = some (.inr (1, n, rs))) {i : Int32} {x : Int64} (j : Nat) (hj : i.toNatClampNeg = j) (hin : vp_in i n) (hdg : decode cc pc = .ok (.lastore, 1))
    (kk : ∀ (H1 : Heap) (locs1 : List Loc), gx_W tb n0 E s σ (upJ τ q j x) H1 locs1 → W p l e R s m args below meth c H1 locs1 cells slots Q (F0 m (pc + 1) ls rest)) : W p l e R s m args below meth c H locs cells slots Q (F0 m pc ls (.long x :: .int i :: .ref (E.2.2 + q) :: rest)) := by
  subst hj
  refine va_last S.1 S.2.1 hK.1 hw.1 (gx_Dn hA) hw.2 q 1 (gx_at hT) rfl hin hdg (fun H1 locs1 hP _ hS => kk H1 locs1 ⟨?_, hS⟩)
  have e1 : gx_cell E σ (upJ τ q i.toNatClampNeg x) q (.inr (1, n, rs)) = .inl (E.2.1 1, n, .inr (.inl (vp_updL (τ q) i.toNatClampNeg x))) := by
    show (Sum.inl (E.2.1 1, n, Sum.inr (Sum.inl (upJ τ q i.toNatClampNeg x q))) : va_E) = _
    rw [upJ_upd]
  rw [← e1, gx_w_set (gx_len hT) (fun c' d1 h => gx_cell_otherJ c' d1 h), gx_set_same hT] at hP
  exact hP
/-- an element of an array of references -/
theorem gx_aald (S : CallFix p m c cc nL s args gx_G own) (hK : gx_K E s) (hw : gx_W tb n0 E s σ τ H locs) {q n r : Nat} {rs : List (Option Nat)} (hT : tb[q]? = some (.inr (3, n, rs))) {i : Int32} (j : Nat) (hj : i.toNatClampNeg = j) (hin : vp_in i n) (hr : rs[j]? = some (some r)) (hdg : decode cc pc = .ok (.aaload, 1))
    (kk : W p l e R s m args below meth c H locs cells slots Q (F0 m (pc + 1) ls (.ref (E.2.2 + r) :: rest))) : W p l e R s m args below meth c H locs cells slots Q (F0 m pc ls (.int i :: .ref (E.2.2 + q) :: rest)) := by
  subst hj
  refine va_aldq S.1 S.2.1 hK.1 hw.1 q 3 (gx_at hT) rfl hin hdg ?_
  rw [hr]
  exact kk
end GX
/-- the room of a method that makes nothing: by the depth of its calls -/
def gx_rm (d : Nat) : Room := { frames := d, cells := 0, slots := 0, locals := 40 * d }
/-- a contract: on this picture the method returns, and tells of its answer and of the picture behind it -/
def gx_Pre (tb : List gD) (E : gE) (σ : gI) (τ : gJ) (sz : Nat) (U : State) : Prop := U.heap.size = sz ∧ gx_P tb E σ τ U.heap ∧ gx_K E U
def gx_Mi (l : Launch) (y : MethodName) (cc : ByteArray) (mL : Nat) (ret : Option FieldType) (d : Nat) (tb : List gD) (E : gE) (σ : gI) (τ : gJ) (av : List Value) (post : Int32 → gI → gJ → Prop) : Prop :=
  ∀ sz : Nat, Met l y (Cond.code y cc mL ret :: gx_G) (gx_rm d) (va_Pc av (gx_Pre tb E σ τ sz)) (va_Qi (fun r (u : gI × gJ) => post r u.1 u.2) (fun u t => gx_P tb E u.1 u.2 t.heap) (gx_A tb.length E.2.2 sz)) 0 0 (gx_A tb.length E.2.2 sz)
def gx_Ml (l : Launch) (y : MethodName) (cc : ByteArray) (mL : Nat) (ret : Option FieldType) (d : Nat) (tb : List gD) (E : gE) (σ : gI) (τ : gJ) (av : List Value) (post : Int64 → gI → gJ → Prop) : Prop :=
  ∀ sz : Nat, Met l y (Cond.code y cc mL ret :: gx_G) (gx_rm d) (va_Pc av (gx_Pre tb E σ τ sz)) (va_Ql (fun r (u : gI × gJ) => post r u.1 u.2) (fun u t => gx_P tb E u.1 u.2 t.heap) (gx_A tb.length E.2.2 sz)) 0 0 (gx_A tb.length E.2.2 sz)
def gx_Mv (l : Launch) (y : MethodName) (cc : ByteArray) (mL : Nat) (ret : Option FieldType) (d : Nat) (tb : List gD) (E : gE) (σ : gI) (τ : gJ) (av : List Value) (post : gI → gJ → Prop) : Prop :=
  ∀ sz : Nat, Met l y (Cond.code y cc mL ret :: gx_G) (gx_rm d) (va_Pc av (gx_Pre tb E σ τ sz)) (va_Qv (fun (u : gI × gJ) => post u.1 u.2) (fun u t => gx_P tb E u.1 u.2 t.heap) (gx_A tb.length E.2.2 sz)) 0 0 (gx_A tb.length E.2.2 sz)
theorem gx_blind {av : List Value} {tb : List gD} {E : gE} {σ : gI} {τ : gJ} {sz : Nat} : FrameBlind (va_Pc av (gx_Pre tb E σ τ sz)) := by
  intro a U g mk q
  obtain ⟨q0, q1, qP, qK⟩ := q
  exact ⟨q0, q1, qP, ⟨va_K.moved (u := U) (U := U.calling g mk a) (Vm.Alike.refl U.vm) qK.1, gx_Z.same (s := U) (U := U.calling g mk a) rfl qK.2⟩⟩
section GB
variable {l : Launch} {y : MethodName} {cc : ByteArray} {mL d : Nat} {ret : Option FieldType} {tb : List gD} {E : gE} {σ : gI} {τ : gJ} {av : List Value}
/-- what a body has at its entry -/
theorem gx_begin {Pc : Array Value → State → Prop} {Qc : Nat → Array Value → State → Outcome → State → Prop} {rm : Room} {mc ms : Nat} {A : Nat → Nat → Prop} (hy : plainName y.cls = true) (hPc : ∀ a U, Pc a U → a = av.toArray) (hlen : (lg_sl av).length ≤ mL)
    {sz : Nat} (hsz : ∀ a U, Pc a U → U.heap.size = sz)
    (body : ∀ (p : Program) (e : Env) (s : State) (m : MethodId) (below : List Frame) (meth : Method) (c : Code), CallFix p m c cc mL s av.toArray gx_G y.cls → meth.sig.returnType = ret → meth.locks = false → meth.name = y.name → Pc av.toArray s → s.heap.size = sz → ∀ ls : Array Slot, lv_has ls mL (lv_args 0 av) →
      W p l e rm s m av.toArray below meth c s.heap [] 0 0 (MQ below (Qc s.heap.size) av.toArray s mc ms (A s.heap.size)) (F0 m 0 ls [])) : Met l y (Cond.code y cc mL ret :: gx_G) rm Pc (Qc sz) mc ms (A sz) := by
  refine Met.ofW (cc := cc) (maxL := mL) (ret := ret) hy rfl ?_
  intro p e s m args below meth c s₁ B hml hv
  obtain rfl := hPc _ _ hv
  have hz := hsz _ _ hv
  subst hz
  have hts := atoms_spec (ws := Cond.code y cc mL ret :: gx_G) B.pre
  have hl := lv_entry av (n := mL) hlen
  rw [lg_entry_eq]
  exact body p e s m below meth c ⟨B.exec, B.bytes, hml, findClass_of_methodNamed B.named, fun w hw => hts w (List.mem_cons_of_mem _ hw)⟩ B.returns B.notSynchronized (name_of_methodNamed B.named B.method).1 hv rfl _ hl
theorem gx_bi {post : Int32 → gI → gJ → Prop} (hy : plainName y.cls = true) (hlen : (lg_sl av).length ≤ mL)
    (body : ∀ (p : Program) (e : Env) (s : State) (m : MethodId) (below : List Frame) (meth : Method) (c : Code), CallFix p m c cc mL s av.toArray gx_G y.cls → meth.sig.returnType = ret → meth.locks = false → gx_K E s → gx_W tb tb.length E s σ τ s.heap [] → ∀ ls : Array Slot, lv_has ls mL (lv_args 0 av) →
      W p l e (gx_rm d) s m av.toArray below meth c s.heap [] 0 0 (MQ below (va_Qi (fun r (u : gI × gJ) => post r u.1 u.2) (fun u t => gx_P tb E u.1 u.2 t.heap) (gx_A tb.length E.2.2 s.heap.size)) av.toArray s 0 0 (gx_A tb.length E.2.2 s.heap.size)) (F0 m 0 ls [])) : gx_Mi l y cc mL ret d tb E σ τ av post := by
  intro sz
  refine gx_begin (Qc := fun sz => va_Qi (fun r (u : gI × gJ) => post r u.1 u.2) (fun u t => gx_P tb E u.1 u.2 t.heap) (gx_A tb.length E.2.2 sz)) (A := fun sz => gx_A tb.length E.2.2 sz) hy (fun a U h => h.1) hlen (fun a U h => h.2.1) ?_
  intro p e s m below meth c S hr hlk _ hv _ ls hl
  exact body p e s m below meth c S hr hlk hv.2.2.2 ⟨hv.2.2.1, va_S.rf⟩ ls hl
theorem gx_bl {post : Int64 → gI → gJ → Prop} (hy : plainName y.cls = true) (hlen : (lg_sl av).length ≤ mL)
    (body : ∀ (p : Program) (e : Env) (s : State) (m : MethodId) (below : List Frame) (meth : Method) (c : Code), CallFix p m c cc mL s av.toArray gx_G y.cls → meth.sig.returnType = ret → meth.locks = false → gx_K E s → gx_W tb tb.length E s σ τ s.heap [] → ∀ ls : Array Slot, lv_has ls mL (lv_args 0 av) →
      W p l e (gx_rm d) s m av.toArray below meth c s.heap [] 0 0 (MQ below (va_Ql (fun r (u : gI × gJ) => post r u.1 u.2) (fun u t => gx_P tb E u.1 u.2 t.heap) (gx_A tb.length E.2.2 s.heap.size)) av.toArray s 0 0 (gx_A tb.length E.2.2 s.heap.size)) (F0 m 0 ls [])) : gx_Ml l y cc mL ret d tb E σ τ av post := by
  intro sz
  refine gx_begin (Qc := fun sz => va_Ql (fun r (u : gI × gJ) => post r u.1 u.2) (fun u t => gx_P tb E u.1 u.2 t.heap) (gx_A tb.length E.2.2 sz)) (A := fun sz => gx_A tb.length E.2.2 sz) hy (fun a U h => h.1) hlen (fun a U h => h.2.1) ?_
  intro p e s m below meth c S hr hlk _ hv _ ls hl
  exact body p e s m below meth c S hr hlk hv.2.2.2 ⟨hv.2.2.1, va_S.rf⟩ ls hl
theorem gx_bv {post : gI → gJ → Prop} (hy : plainName y.cls = true) (hlen : (lg_sl av).length ≤ mL)
    (body : ∀ (p : Program) (e : Env) (s : State) (m : MethodId) (below : List Frame) (meth : Method) (c : Code), CallFix p m c cc mL s av.toArray gx_G y.cls → meth.sig.returnType = ret → meth.locks = false → gx_K E s → gx_W tb tb.length E s σ τ s.heap [] → ∀ ls : Array Slot, lv_has ls mL (lv_args 0 av) →
      W p l e (gx_rm d) s m av.toArray below meth c s.heap [] 0 0 (MQ below (va_Qv (fun (u : gI × gJ) => post u.1 u.2) (fun u t => gx_P tb E u.1 u.2 t.heap) (gx_A tb.length E.2.2 s.heap.size)) av.toArray s 0 0 (gx_A tb.length E.2.2 s.heap.size)) (F0 m 0 ls [])) : gx_Mv l y cc mL ret d tb E σ τ av post := by
  intro sz
  refine gx_begin (Qc := fun sz => va_Qv (fun (u : gI × gJ) => post u.1 u.2) (fun u t => gx_P tb E u.1 u.2 t.heap) (gx_A tb.length E.2.2 sz)) (A := fun sz => gx_A tb.length E.2.2 sz) hy (fun a U h => h.1) hlen (fun a U h => h.2.1) ?_
  intro p e s m below meth c S hr hlk _ hv _ ls hl
  exact body p e s m below meth c S hr hlk hv.2.2.2 ⟨hv.2.2.1, va_S.rf⟩ ls hl
end GB
section GR
variable {p : Program} {l : Launch} {e : Env} {R : Room} {s : State} {m : MethodId} {args : Array Value} {below : List Frame} {meth : Method} {c : Code} {H : Heap} {locs : List Loc} {Q : State → Prop}
variable {cc : ByteArray} {pc nL : Nat} {ls : Array Slot} {rest : List Value} {own : String} {tb : List gD} {E : gE} {σ : gI} {τ : gJ}
theorem gx_ri {post : Int32 → gI → gJ → Prop} {v : Int32} {ty : FieldType} (S : CallFix p m c cc nL s args gx_G own) (hr : meth.sig.returnType = some ty) (hlk : meth.locks = false) (hw : gx_W tb tb.length E s σ τ H locs) (hn : narrow ty (.int v) = .int v) (hdg : decode cc pc = .ok (.ireturn, 1)) (hp : post v σ τ) :
    W p l e R s m args below meth c H locs 0 0 (MQ below (va_Qi (fun r (u : gI × gJ) => post r u.1 u.2) (fun u t => gx_P tb E u.1 u.2 t.heap) (gx_A tb.length E.2.2 s.heap.size)) args s 0 0 (gx_A tb.length E.2.2 s.heap.size)) (F0 m pc ls [.int v]) :=
  W.zret S.1 S.2.1 hr hn (fun t ht _ => ⟨⟨v, (σ, τ), rfl, hp, by subst ht; exact hw.1⟩, hw.2.F ht⟩) hw.2.2.2 hdg hlk
theorem gx_rl {post : Int64 → gI → gJ → Prop} {v : Int64} (S : CallFix p m c cc nL s args gx_G own) (hr : meth.sig.returnType = some .long) (hlk : meth.locks = false) (hw : gx_W tb tb.length E s σ τ H locs) (hdg : decode cc pc = .ok (.lreturn, 1)) (hp : post v σ τ) :
    W p l e R s m args below meth c H locs 0 0 (MQ below (va_Ql (fun r (u : gI × gJ) => post r u.1 u.2) (fun u t => gx_P tb E u.1 u.2 t.heap) (gx_A tb.length E.2.2 s.heap.size)) args s 0 0 (gx_A tb.length E.2.2 s.heap.size)) (F0 m pc ls [.long v]) :=
  W.lret S.1 S.2.1 hr (fun t ht _ => ⟨⟨v, (σ, τ), rfl, hp, by subst ht; exact hw.1⟩, hw.2.F ht⟩) hw.2.2.2 hdg hlk
theorem gx_rv {post : gI → gJ → Prop} (S : CallFix p m c cc nL s args gx_G own) (hr : meth.sig.returnType = none) (hlk : meth.locks = false) (hw : gx_W tb tb.length E s σ τ H locs) (hdg : decode cc pc = .ok (.return_, 1)) (hp : post σ τ) :
    W p l e R s m args below meth c H locs 0 0 (MQ below (va_Qv (fun (u : gI × gJ) => post u.1 u.2) (fun u t => gx_P tb E u.1 u.2 t.heap) (gx_A tb.length E.2.2 s.heap.size)) args s 0 0 (gx_A tb.length E.2.2 s.heap.size)) (F0 m pc ls []) :=
  W.vret S.1 S.2.1 hr (fun t ht _ => ⟨⟨(σ, τ), rfl, hp, by subst ht; exact hw.1⟩, hw.2.F ht⟩) hw.2.2.2 hdg hlk
end GR
/-- the words of a virtual call, of a static call -/
def gx_Wv (own : String) (idx : Nat) (y : MethodName) (cc : ByteArray) (mL : Nat) (ret : Option FieldType) (n : Nat) : Prop := (Cond.methodLink own idx y ∈ gx_G ∧ Cond.instanceMethod y ∈ gx_G ∧ Cond.selects y.cls y y ∈ gx_G ∧ Cond.initialized y.cls ∈ gx_G ∧ Cond.code y cc mL ret ∈ gx_G) ∧ y.cls ≠ "java/lang/invoke/MethodHandle" ∧ y.cls ≠ "java/lang/invoke/VarHandle" ∧ (parseMethodDescriptor y.desc).map (fun d => d.parameters.length) = some n
def gx_Ws (own : String) (idx : Nat) (y : MethodName) (cc : ByteArray) (mL : Nat) (ret : Option FieldType) (n : Nat) : Prop := (Cond.methodLink own idx y ∈ gx_G ∧ Cond.static y ∈ gx_G ∧ Cond.initialized y.cls ∈ gx_G ∧ Cond.code y cc mL ret ∈ gx_G) ∧ y.cls ≠ "java/lang/invoke/MethodHandle" ∧ y.cls ≠ "java/lang/invoke/VarHandle" ∧ (parseMethodDescriptor y.desc).map (fun d => d.parameters.length) = some n
theorem gx_goodV {own : String} {idx : Nat} {y : MethodName} {cc : ByteArray} {mL : Nat} {ret : Option FieldType} {n : Nat} (w : gx_Wv own idx y cc mL ret n) : GoodIn gx_G (wsV own idx y.cls y (Cond.code y cc mL ret :: gx_G)) := by
  obtain ⟨⟨h1, h2, h3, h4, h5⟩, -⟩ := w
  intro w hw
  simp only [wsV, List.cons_append, List.nil_append, List.mem_cons] at hw
  rcases hw with rfl | rfl | rfl | rfl | rfl | hw
  · exact ⟨h1, gx_good h1⟩
  · exact ⟨h2, gx_good h2⟩
  · exact ⟨h3, gx_good h3⟩
  · exact ⟨h4, gx_good h4⟩
  · exact ⟨h5, gx_good h5⟩
  · exact ⟨hw, gx_good hw⟩
theorem gx_goodS {own : String} {idx : Nat} {y : MethodName} {cc : ByteArray} {mL : Nat} {ret : Option FieldType} {n : Nat} (w : gx_Ws own idx y cc mL ret n) : GoodIn gx_G (va_wsS own idx y (Cond.code y cc mL ret :: gx_G)) := by
  obtain ⟨⟨h1, h2, h4, h5⟩, -⟩ := w
  intro w hw
  simp only [va_wsS, List.cons_append, List.nil_append, List.mem_cons] at hw
  rcases hw with rfl | rfl | rfl | rfl | hw
  · exact ⟨h1, gx_good h1⟩
  · exact ⟨h2, gx_good h2⟩
  · exact ⟨h4, gx_good h4⟩
  · exact ⟨h5, gx_good h5⟩
  · exact ⟨hw, gx_good hw⟩
section GK
variable {p : Program} {l : Launch} {e : Env} {R : Room} {s : State} {m : MethodId} {args : Array Value} {below : List Frame} {meth : Method} {c : Code} {H : Heap} {locs : List Loc} {cells slots : Nat} {Q : State → Prop}
variable {cc cc' : ByteArray} {pc nL mL d n idx n0 : Nat} {ls : Array Slot} {st rest As : List Value} {own : String} {tb : List gD} {E : gE} {σ : gI} {τ : gJ} {y : MethodName} {ret : Option FieldType}
theorem gx_sub {q : Nat} (hA : gx_Ok tb n0 E s) (hw : gx_W tb n0 E s σ τ H locs) : gx_A tb.length E.2.2 H.size q → gx_A n0 E.2.2 s.heap.size q := by
  intro h
  rcases h with h | h
  · have h1 := hA (q - E.2.2) (by omega)
    rwa [show E.2.2 + (q - E.2.2) = q by omega] at h1
  · exact Or.inr (Nat.le_trans hw.2.1 h)
theorem gx_cVi {post : Int32 → gI → gJ → Prop} {q : Nat} (S : CallFix p m c cc nL s args gx_G own) (hK : gx_K E s) (hA : gx_Ok tb n0 E s) (hw : gx_W tb n0 E s σ τ H locs) (M : gx_Mi l y cc' mL ret d tb E σ τ (.ref (E.2.2 + q) :: As) post) (w : gx_Wv own idx y cc' mL ret n) {ci N : Nat} {T : u_T} {fds : List (Option (Option Nat))} (hT : tb[q]? = some (.inl (ci, fds))) (hC : gx_C ci y.cls T N) (hR : d + 1 ≤ R.frames ∧ 8 + (mL + 11) + 40 * d ≤ R.locals) (hn : As.length = n) (hls : ls.size = nL) (hst : st = As.reverse ++ .ref (E.2.2 + q) :: rest) (hW : (rest.map fun v => v.category).sum ≤ 8) (hf : cells + 0 ≤ R.cells ∧ slots + 0 ≤ R.slots) (hdg : decode cc pc = .ok (.invokevirtual idx, 3))
    (kk : ∀ (r : Int32) (σ' : gI) (τ' : gJ) (H1 : Heap) (locs1 : List Loc), post r σ' τ' → gx_W tb n0 E s σ' τ' H1 locs1 → W p l e R s m args below meth c H1 locs1 cells slots Q (F0 m (pc + 3) ls (.int r :: rest))) : W p l e R s m args below meth c H locs cells slots Q (F0 m pc ls st) := by
  subst hst
  refine va_calli (va_runV (As := As) (rest := rest) (b := E.2.2 + q) S (M H.size) (cwV n S.2.2.2.2 (gx_goodV w) rfl rfl rfl ⟨rfl, w.2⟩ hR) ⟨gx_blind, va_recv hK.1 hw.1 hC.1 (gx_at hT), fun U hU hW9 => ⟨rfl, by rw [hU], by rw [hU]; exact hw.1, gx_K.move hW9 hU hw hK⟩⟩ rfl hn hls rfl (lv_room hW) hdg hf) hw.2 (fun q1 _ h => gx_sub hA hw h) (fun q1 h => gx_sub hA hw h) ?_
  intro r u t H1 locs1 ht hvm hp hB hz hk hS
  exact kk r u.1 u.2 H1 locs1 hp ⟨by rw [← ht]; exact hB, hS⟩
theorem gx_cSi {post : Int32 → gI → gJ → Prop} (S : CallFix p m c cc nL s args gx_G own) (hK : gx_K E s) (hA : gx_Ok tb n0 E s) (hw : gx_W tb n0 E s σ τ H locs) (M : gx_Mi l y cc' mL ret d tb E σ τ As post) (w : gx_Ws own idx y cc' mL ret n) (hR : d + 1 ≤ R.frames ∧ 8 + (mL + 11) + 40 * d ≤ R.locals) (hn : As.length = n) (hls : ls.size = nL) (hst : st = As.reverse ++ rest) (hW : (rest.map fun v => v.category).sum ≤ 8) (hf : cells + 0 ≤ R.cells ∧ slots + 0 ≤ R.slots) (hdg : decode cc pc = .ok (.invokestatic idx, 3))
    (kk : ∀ (r : Int32) (σ' : gI) (τ' : gJ) (H1 : Heap) (locs1 : List Loc), post r σ' τ' → gx_W tb n0 E s σ' τ' H1 locs1 → W p l e R s m args below meth c H1 locs1 cells slots Q (F0 m (pc + 3) ls (.int r :: rest))) : W p l e R s m args below meth c H locs cells slots Q (F0 m pc ls st) := by
  subst hst
  refine va_calli (va_runS (As := As) (rest := rest) S (M H.size) (va_cwS n S.2.2.2.2 (gx_goodS w) rfl rfl rfl w.2 hR) ⟨gx_blind, fun U hU hW9 => ⟨rfl, by rw [hU], by rw [hU]; exact hw.1, gx_K.move hW9 hU hw hK⟩⟩ rfl hn hls rfl (lv_room hW) hdg hf) hw.2 (fun q1 _ h => gx_sub hA hw h) (fun q1 h => gx_sub hA hw h) ?_
  intro r u t H1 locs1 ht hvm hp hB hz hk hS
  exact kk r u.1 u.2 H1 locs1 hp ⟨by rw [← ht]; exact hB, hS⟩
theorem gx_cVl {post : Int64 → gI → gJ → Prop} {q : Nat} (S : CallFix p m c cc nL s args gx_G own) (hK : gx_K E s) (hA : gx_Ok tb n0 E s) (hw : gx_W tb n0 E s σ τ H locs) (M : gx_Ml l y cc' mL ret d tb E σ τ (.ref (E.2.2 + q) :: As) post) (w : gx_Wv own idx y cc' mL ret n) {ci N : Nat} {T : u_T} {fds : List (Option (Option Nat))} (hT : tb[q]? = some (.inl (ci, fds))) (hC : gx_C ci y.cls T N) (hR : d + 1 ≤ R.frames ∧ 8 + (mL + 11) + 40 * d ≤ R.locals) (hn : As.length = n) (hls : ls.size = nL) (hst : st = As.reverse ++ .ref (E.2.2 + q) :: rest) (hW : (rest.map fun v => v.category).sum ≤ 8) (hf : cells + 0 ≤ R.cells ∧ slots + 0 ≤ R.slots) (hdg : decode cc pc = .ok (.invokevirtual idx, 3))
    (kk : ∀ (r : Int64) (σ' : gI) (τ' : gJ) (H1 : Heap) (locs1 : List Loc), post r σ' τ' → gx_W tb n0 E s σ' τ' H1 locs1 → W p l e R s m args below meth c H1 locs1 cells slots Q (F0 m (pc + 3) ls (.long r :: rest))) : W p l e R s m args below meth c H locs cells slots Q (F0 m pc ls st) := by
  subst hst
  refine va_calll (va_runV (As := As) (rest := rest) (b := E.2.2 + q) S (M H.size) (cwV n S.2.2.2.2 (gx_goodV w) rfl rfl rfl ⟨rfl, w.2⟩ hR) ⟨gx_blind, va_recv hK.1 hw.1 hC.1 (gx_at hT), fun U hU hW9 => ⟨rfl, by rw [hU], by rw [hU]; exact hw.1, gx_K.move hW9 hU hw hK⟩⟩ rfl hn hls rfl (lv_room hW) hdg hf) hw.2 (fun q1 _ h => gx_sub hA hw h) (fun q1 h => gx_sub hA hw h) ?_
  intro r u t H1 locs1 ht hvm hp hB hz hk hS
  exact kk r u.1 u.2 H1 locs1 hp ⟨by rw [← ht]; exact hB, hS⟩
theorem gx_cSl {post : Int64 → gI → gJ → Prop} (S : CallFix p m c cc nL s args gx_G own) (hK : gx_K E s) (hA : gx_Ok tb n0 E s) (hw : gx_W tb n0 E s σ τ H locs) (M : gx_Ml l y cc' mL ret d tb E σ τ As post) (w : gx_Ws own idx y cc' mL ret n) (hR : d + 1 ≤ R.frames ∧ 8 + (mL + 11) + 40 * d ≤ R.locals) (hn : As.length = n) (hls : ls.size = nL) (hst : st = As.reverse ++ rest) (hW : (rest.map fun v => v.category).sum ≤ 8) (hf : cells + 0 ≤ R.cells ∧ slots + 0 ≤ R.slots) (hdg : decode cc pc = .ok (.invokestatic idx, 3))
    (kk : ∀ (r : Int64) (σ' : gI) (τ' : gJ) (H1 : Heap) (locs1 : List Loc), post r σ' τ' → gx_W tb n0 E s σ' τ' H1 locs1 → W p l e R s m args below meth c H1 locs1 cells slots Q (F0 m (pc + 3) ls (.long r :: rest))) : W p l e R s m args below meth c H locs cells slots Q (F0 m pc ls st) := by
  subst hst
  refine va_calll (va_runS (As := As) (rest := rest) S (M H.size) (va_cwS n S.2.2.2.2 (gx_goodS w) rfl rfl rfl w.2 hR) ⟨gx_blind, fun U hU hW9 => ⟨rfl, by rw [hU], by rw [hU]; exact hw.1, gx_K.move hW9 hU hw hK⟩⟩ rfl hn hls rfl (lv_room hW) hdg hf) hw.2 (fun q1 _ h => gx_sub hA hw h) (fun q1 h => gx_sub hA hw h) ?_
  intro r u t H1 locs1 ht hvm hp hB hz hk hS
  exact kk r u.1 u.2 H1 locs1 hp ⟨by rw [← ht]; exact hB, hS⟩
theorem gx_cVv {post : gI → gJ → Prop} {q : Nat} (S : CallFix p m c cc nL s args gx_G own) (hK : gx_K E s) (hA : gx_Ok tb n0 E s) (hw : gx_W tb n0 E s σ τ H locs) (M : gx_Mv l y cc' mL ret d tb E σ τ (.ref (E.2.2 + q) :: As) post) (w : gx_Wv own idx y cc' mL ret n) {ci N : Nat} {T : u_T} {fds : List (Option (Option Nat))} (hT : tb[q]? = some (.inl (ci, fds))) (hC : gx_C ci y.cls T N) (hR : d + 1 ≤ R.frames ∧ 8 + (mL + 11) + 40 * d ≤ R.locals) (hn : As.length = n) (hls : ls.size = nL) (hst : st = As.reverse ++ .ref (E.2.2 + q) :: rest) (hW : (rest.map fun v => v.category).sum ≤ 8) (hf : cells + 0 ≤ R.cells ∧ slots + 0 ≤ R.slots) (hdg : decode cc pc = .ok (.invokevirtual idx, 3))
    (kk : ∀ (σ' : gI) (τ' : gJ) (H1 : Heap) (locs1 : List Loc), post σ' τ' → gx_W tb n0 E s σ' τ' H1 locs1 → W p l e R s m args below meth c H1 locs1 cells slots Q (F0 m (pc + 3) ls (rest))) : W p l e R s m args below meth c H locs cells slots Q (F0 m pc ls st) := by
  subst hst
  refine va_callv (va_runV (As := As) (rest := rest) (b := E.2.2 + q) S (M H.size) (cwV n S.2.2.2.2 (gx_goodV w) rfl rfl rfl ⟨rfl, w.2⟩ hR) ⟨gx_blind, va_recv hK.1 hw.1 hC.1 (gx_at hT), fun U hU hW9 => ⟨rfl, by rw [hU], by rw [hU]; exact hw.1, gx_K.move hW9 hU hw hK⟩⟩ rfl hn hls rfl (lv_room hW) hdg hf) hw.2 (fun q1 _ h => gx_sub hA hw h) (fun q1 h => gx_sub hA hw h) ?_
  intro u t H1 locs1 ht hvm hp hB hz hk hS
  exact kk u.1 u.2 H1 locs1 hp ⟨by rw [← ht]; exact hB, hS⟩
theorem gx_cSv {post : gI → gJ → Prop} (S : CallFix p m c cc nL s args gx_G own) (hK : gx_K E s) (hA : gx_Ok tb n0 E s) (hw : gx_W tb n0 E s σ τ H locs) (M : gx_Mv l y cc' mL ret d tb E σ τ As post) (w : gx_Ws own idx y cc' mL ret n) (hR : d + 1 ≤ R.frames ∧ 8 + (mL + 11) + 40 * d ≤ R.locals) (hn : As.length = n) (hls : ls.size = nL) (hst : st = As.reverse ++ rest) (hW : (rest.map fun v => v.category).sum ≤ 8) (hf : cells + 0 ≤ R.cells ∧ slots + 0 ≤ R.slots) (hdg : decode cc pc = .ok (.invokestatic idx, 3))
    (kk : ∀ (σ' : gI) (τ' : gJ) (H1 : Heap) (locs1 : List Loc), post σ' τ' → gx_W tb n0 E s σ' τ' H1 locs1 → W p l e R s m args below meth c H1 locs1 cells slots Q (F0 m (pc + 3) ls (rest))) : W p l e R s m args below meth c H locs cells slots Q (F0 m pc ls st) := by
  subst hst
  refine va_callv (va_runS (As := As) (rest := rest) S (M H.size) (va_cwS n S.2.2.2.2 (gx_goodS w) rfl rfl rfl w.2 hR) ⟨gx_blind, fun U hU hW9 => ⟨rfl, by rw [hU], by rw [hU]; exact hw.1, gx_K.move hW9 hU hw hK⟩⟩ rfl hn hls rfl (lv_room hW) hdg hf) hw.2 (fun q1 _ h => gx_sub hA hw h) (fun q1 h => gx_sub hA hw h) ?_
  intro u t H1 locs1 ht hvm hp hB hz hk hS
  exact kk u.1 u.2 H1 locs1 hp ⟨by rw [← ht]; exact hB, hS⟩
def gx_Wsn (own : String) (idx : Nat) (y : MethodName) (host : String) (cc : ByteArray) (mL : Nat) (ret : Option FieldType) (n : Nat) : Prop := (Cond.methodLinkNest own idx y host ∈ gx_nest ∧ Cond.static y ∈ gx_G ∧ Cond.initialized y.cls ∈ gx_G ∧ Cond.code y cc mL ret ∈ gx_G) ∧ y.cls ≠ "java/lang/invoke/MethodHandle" ∧ y.cls ≠ "java/lang/invoke/VarHandle" ∧ (parseMethodDescriptor y.desc).map (fun d => d.parameters.length) = some n
theorem gx_goodMr {y : MethodName} {cc : ByteArray} {mL : Nat} {ret : Option FieldType} (h : Cond.code y cc mL ret ∈ gx_G) : GoodIn gx_G (Cond.code y cc mL ret :: gx_G) := by
  intro w hw
  rcases List.mem_cons.mp hw with rfl | hw
  · exact ⟨h, gx_good h⟩
  · exact ⟨hw, gx_good hw⟩
theorem gx_cNi {post : Int32 → gI → gJ → Prop} {host : String} (S : CallFix p m c cc nL s args gx_G own) (hK : gx_K E s) (hA : gx_Ok tb n0 E s) (hw : gx_W tb n0 E s σ τ H locs) (M : gx_Mi l y cc' mL ret d tb E σ τ As post) (w : gx_Wsn own idx y host cc' mL ret n) (hR : d + 1 ≤ R.frames ∧ 8 + (mL + 11) + 40 * d ≤ R.locals) (hn : As.length = n) (hls : ls.size = nL) (hst : st = As.reverse ++ rest) (hW : (rest.map fun v => v.category).sum ≤ 8) (hf : cells + 0 ≤ R.cells ∧ slots + 0 ≤ R.slots) (hdg : decode cc pc = .ok (.invokestatic idx, 3))
    (kk : ∀ (r : Int32) (σ' : gI) (τ' : gJ) (H1 : Heap) (locs1 : List Loc), post r σ' τ' → gx_W tb n0 E s σ' τ' H1 locs1 → W p l e R s m args below meth c H1 locs1 cells slots Q (F0 m (pc + 3) ls (.int r :: rest))) : W p l e R s m args below meth c H locs cells slots Q (F0 m pc ls st) := by
  subst hst
  obtain ⟨⟨h1, h2, h3, h4⟩, h6⟩ := w
  refine va_calli (va_runSN (As := As) (rest := rest) S (M H.size) ⟨va_cnB n S.2.2.2.2 (gx_goodMr h4) rfl rfl rfl (hK.2.2.2.2.2.2.2 _ h1) (S.2.2.2.2 _ h3) h6 hR, S.2.2.2.2 _ h2, trivial⟩ ⟨gx_blind, fun U hU hW9 => ⟨rfl, by rw [hU], by rw [hU]; exact hw.1, gx_K.move hW9 hU hw hK⟩⟩ rfl hn hls rfl (lv_room hW) hdg hf) hw.2 (fun q1 _ h => gx_sub hA hw h) (fun q1 h => gx_sub hA hw h) ?_
  intro r u t H1 locs1 ht hvm hp hB hz hk hS
  exact kk r u.1 u.2 H1 locs1 hp ⟨by rw [← ht]; exact hB, hS⟩
theorem gx_max {x v : Int32} {w : Int32} (S : CallFix p m c cc nL s args gx_G own) (hls : ls.size = nL) (hl : Cond.methodLink own idx Lib.Math.max.name ∈ gx_G) (hs : Cond.static Lib.Math.max.name ∈ gx_G) (hi : Cond.initialized "java/lang/Math" ∈ gx_G) (hc : Cond.code Lib.Math.max.name Lib.Math.max.code 2 (some .int) ∈ gx_G) (hR : 1 ≤ R.frames ∧ (rest.map fun v => v.category).sum + 13 ≤ R.locals) (hf : cells ≤ R.cells ∧ slots ≤ R.slots) (hdg : decode cc pc = .ok (.invokestatic idx, 3)) (hv : (if x < v then v else x) = w)
    (kk : W p l e R s m args below meth c H locs cells slots Q (F0 m (pc + 3) ls (.int w :: rest))) : W p l e R s m args below meth c H locs cells slots Q (F0 m pc ls (.int v :: .int x :: rest)) := by
  subst hv
  exact va_mmax S.1 S.2.1 (S.2.2.1.trans hls.symm) S.2.2.2.1 (S.2.2.2.2 _ hl) (S.2.2.2.2 _ hs) (S.2.2.2.2 _ hi) (S.2.2.2.2 _ hc) hR.1 hR.2 hf.1 hf.2 hdg kk
theorem gx_min {x v : Int32} {w : Int32} (S : CallFix p m c cc nL s args gx_G own) (hls : ls.size = nL) (hl : Cond.methodLink own idx Lib.Math.min.name ∈ gx_G) (hs : Cond.static Lib.Math.min.name ∈ gx_G) (hi : Cond.initialized "java/lang/Math" ∈ gx_G) (hc : Cond.code Lib.Math.min.name Lib.Math.min.code 2 (some .int) ∈ gx_G) (hR : 1 ≤ R.frames ∧ (rest.map fun v => v.category).sum + 13 ≤ R.locals) (hf : cells ≤ R.cells ∧ slots ≤ R.slots) (hdg : decode cc pc = .ok (.invokestatic idx, 3)) (hv : (if v < x then v else x) = w)
    (kk : W p l e R s m args below meth c H locs cells slots Q (F0 m (pc + 3) ls (.int w :: rest))) : W p l e R s m args below meth c H locs cells slots Q (F0 m pc ls (.int v :: .int x :: rest)) := by
  subst hv
  exact va_mmin S.1 S.2.1 (S.2.2.1.trans hls.symm) S.2.2.2.1 (S.2.2.2.2 _ hl) (S.2.2.2.2 _ hs) (S.2.2.2.2 _ hi) (S.2.2.2.2 _ hc) hR.1 hR.2 hf.1 hf.2 hdg kk
end GK
/-! MAKING: the cells come one behind the other -/
/-- what only the makers need of the tables -/
def gx_N (U : State) : Prop := (∀ w ∈ gx_nest, va_Nw w U) ∧ va_AO "DownTheGutter$Scene" U
theorem gx_N.warm {s U : State} (hW : s.WarmedH U.vm) (h : gx_N s) : gx_N U := by
  refine ⟨fun w hw => ?_, va_AO.moved hW.alike h.2⟩
  have h1 := h.1 w hw
  have h2 : gx_isNest w = true := List.all_eq_true.mp gx_nest_ok w hw
  cases w <;> first | exact va_Nw.warmM hW h1 | (exfalso; revert h2; simp [gx_isNest])
theorem gx_N.same {s U : State} (hV : s.vm = U.vm) (h : gx_N s) : gx_N U := by
  refine ⟨fun w hw => ?_, va_AO.moved (by rw [hV]; exact Vm.Alike.refl _) h.2⟩
  have h1 := h.1 w hw
  have h2 : gx_isNest w = true := List.all_eq_true.mp gx_nest_ok w hw
  cases w <;> first | exact va_Nw.same rfl hV h1 | (exfalso; revert h2; simp [gx_isNest])
section GN
variable {p : Program} {l : Launch} {e : Env} {R : Room} {s : State} {m : MethodId} {args : Array Value} {below : List Frame} {meth : Method} {c : Code} {H : Heap} {locs : List Loc} {cells slots : Nat} {Q : State → Prop}
variable {cc cc' : ByteArray} {pc nL mL d n idx n0 : Nat} {ls : Array Slot} {st rest As : List Value} {own : String} {tb tb' : List gD} {E : gE} {σ σ' : gI} {τ : gJ} {y : MethodName}
theorem gx_grow {H1 : Heap} {D : gD} (hw : gx_W tb n0 E s σ τ H locs) (hz : H.size = E.2.2 + tb.length) (z1 : H1.size = H.size + 1) (o1 : ∀ q, q < H.size → H1[q]? = H[q]?) (hn : va_at E.1.1 vwCl (E.2.2 + tb.length, gx_cell E σ τ tb.length D) H1) : gx_W (tb ++ [D]) n0 E s σ τ H1 locs ∧ H1.size = E.2.2 + (tb ++ [D]).length := by
  refine ⟨⟨?_, Nat.le_trans hw.2.1 (by omega), fun q h1 h2 => (o1 q (Nat.lt_of_lt_of_le h1 hw.2.1)).trans (hw.2.2.1 q h1 h2), hw.2.2.2⟩, by simp; omega⟩
  show va_P E.1.1 vwCl (gx_w (tb ++ [D]) E σ τ) H1
  rw [gx_w_push]
  refine (hw.1.kept (fun k x hx => o1 x.1 ((hw.1 k x hx).lt))).app (fun k x hx => ?_)
  have hz : k < 1 := (List.getElem?_eq_some_iff.mp hx).1
  rw [show k = 0 by omega] at hx
  cases hx
  exact hn
/-- new -/
theorem gx_new (S : CallFix p m c cc nL s args gx_G own) (hK : gx_K E s) (hw : gx_W tb n0 E s σ τ H locs) (hz : H.size = E.2.2 + tb.length) {ci N : Nat} {C : String} {T : u_T} (hC : gx_C ci C T N) (ty : Nat → FieldType) (hty : ∀ k, k < N → parseFieldDescriptor (T k).2.2.1 = some (ty k)) (fds : List (Option (Option Nat))) (hfs : ∀ j, j < N → defaultValue (ty j) = vp_V (gx_fv E.2.2 (fun _ => 0) 0 fds) j) (h0 : σ tb.length = fun _ => 0) (hcl : Cond.classLink own idx C ∈ gx_G) (hin : Cond.instantiable C N ∈ gx_G) (hini : Cond.initialized C ∈ gx_G) (hf : cells + 1 ≤ R.cells ∧ slots + N ≤ R.slots) (hdg : decode cc pc = .ok (.new idx, 3))
    (kk : ∀ H1 : Heap, gx_W (tb ++ [(Sum.inl (ci, fds) : gD)]) n0 E s σ τ H1 locs → H1.size = E.2.2 + (tb ++ [(Sum.inl (ci, fds) : gD)]).length → W p l e R s m args below meth c H1 locs (cells + 1) (slots + N) Q (F0 m (pc + 3) ls (.ref (E.2.2 + tb.length) :: rest))) : W p l e R s m args below meth c H locs cells slots Q (F0 m pc ls rest) := by
  obtain ⟨hx, hb, hml, hown, hts⟩ := S
  have hKn := hK.1.1 ci _ hC.1
  refine W.newcK hx hb hown (hts _ hcl) (hts _ hin) (hts _ hini) rfl hdg hf.1 hf.2 hKn.2.1 rfl fun H1 kC hkC e1 z1 o1 => ?_
  have h9 := gx_grow (D := .inl (ci, fds)) hw hz z1 o1 ?_
  · rw [hz]
    exact kk H1 h9.1 h9.2
  · refine ⟨_, hC.1, ?_⟩
    rw [hz] at e1
    rw [h0]
    exact (u_born ty hts hC.2.1 hKn hkC e1 hty).to hfs
theorem gx_cyI (hK : gx_K E s) {cA : ClassId} {k : Nat} {ty : FieldType} (h : (gx_ty E)[k]? = some (E.2.1 k, ty)) (hn : va_RA s (E.2.1 k) ty → s.vm.findClass ("[" ++ ty.toString) = some (E.2.1 k)) (hA : s.vm.findClass ("[" ++ ty.toString) = some cA) : cA = E.2.1 k :=
  Option.some.inj (hA.symm.trans (hn (hK.1.2 k _ h).2))
/-- an array of numbers -/
theorem gx_newI (S : CallFix p m c cc nL s args gx_G own) (hK : gx_K E s) (hw : gx_W tb n0 E s σ τ H locs) (hz : H.size = E.2.2 + tb.length) {k : Int32} {N : Nat} (hn : ¬ k < 0) (hN : k.toNatClampNeg = N) (hby : N ≤ 100000) (h0 : σ tb.length = fun _ => 0) (har : Cond.arrayClass .int ∈ gx_G) (hf : cells + 1 ≤ R.cells ∧ slots + N ≤ R.slots) (hdg : decode cc pc = .ok (.newarray .int, 2))
    (kk : ∀ H1 : Heap, gx_W (tb ++ [(Sum.inr (0, N, []) : gD)]) n0 E s σ τ H1 locs → H1.size = E.2.2 + (tb ++ [(Sum.inr (0, N, []) : gD)]).length → W p l e R s m args below meth c H1 locs (cells + 1) (slots + N) Q (F0 m (pc + 2) ls (.ref (E.2.2 + tb.length) :: rest))) : W p l e R s m args below meth c H locs cells slots Q (F0 m pc ls (.int k :: rest)) := by
  obtain ⟨hx, hb, hml, hown, hts⟩ := S
  refine va_newaK hx hb (atype := .int) (hts _ har) rfl hdg rfl hn hN (by show N * 4 ≤ _; omega) hf.1 hf.2 rfl fun H1 cA e1 z1 o1 _ hNm => ?_
  obtain rfl := gx_cyI hK (k := 0) (ty := .int) rfl (fun h => h) hNm
  have h9 := gx_grow (D := .inr (0, N, [])) hw hz z1 o1 ?_
  · rw [hz]
    exact kk H1 h9.1 h9.2
  · rw [hz] at e1
    show H1[E.2.2 + tb.length]? = some (vp_cell _ (N, .inl (σ tb.length)))
    rw [h0, vp_cell_i]
    exact e1
theorem gx_newZ (S : CallFix p m c cc nL s args gx_G own) (hK : gx_K E s) (hw : gx_W tb n0 E s σ τ H locs) (hz : H.size = E.2.2 + tb.length) {k : Int32} {N : Nat} (hn : ¬ k < 0) (hN : k.toNatClampNeg = N) (hby : N ≤ 100000) (h0 : σ tb.length = fun _ => 0) (har : Cond.arrayClass .boolean ∈ gx_G) (hf : cells + 1 ≤ R.cells ∧ slots + N ≤ R.slots) (hdg : decode cc pc = .ok (.newarray .boolean, 2))
    (kk : ∀ H1 : Heap, gx_W (tb ++ [(Sum.inr (2, N, []) : gD)]) n0 E s σ τ H1 locs → H1.size = E.2.2 + (tb ++ [(Sum.inr (2, N, []) : gD)]).length → W p l e R s m args below meth c H1 locs (cells + 1) (slots + N) Q (F0 m (pc + 2) ls (.ref (E.2.2 + tb.length) :: rest))) : W p l e R s m args below meth c H locs cells slots Q (F0 m pc ls (.int k :: rest)) := by
  obtain ⟨hx, hb, hml, hown, hts⟩ := S
  refine va_newaK hx hb (atype := .boolean) (hts _ har) rfl hdg rfl hn hN (by show N * 1 ≤ _; omega) hf.1 hf.2 rfl fun H1 cA e1 z1 o1 _ hNm => ?_
  obtain rfl := gx_cyI hK (k := 2) (ty := .boolean) rfl (fun h => h) hNm
  have h9 := gx_grow (D := .inr (2, N, [])) hw hz z1 o1 ?_
  · rw [hz]
    exact kk H1 h9.1 h9.2
  · rw [hz] at e1
    show H1[E.2.2 + tb.length]? = some (vp_cell _ (N, .inl (σ tb.length)))
    rw [h0, vp_cell_i]
    exact e1
theorem gx_newJ (S : CallFix p m c cc nL s args gx_G own) (hK : gx_K E s) (hw : gx_W tb n0 E s σ τ H locs) (hz : H.size = E.2.2 + tb.length) {k : Int32} {N : Nat} (hn : ¬ k < 0) (hN : k.toNatClampNeg = N) (hby : N ≤ 100000) (h0 : τ tb.length = fun _ => 0) (har : Cond.arrayClass .long ∈ gx_G) (hf : cells + 1 ≤ R.cells ∧ slots + N ≤ R.slots) (hdg : decode cc pc = .ok (.newarray .long, 2))
    (kk : ∀ H1 : Heap, gx_W (tb ++ [(Sum.inr (1, N, []) : gD)]) n0 E s σ τ H1 locs → H1.size = E.2.2 + (tb ++ [(Sum.inr (1, N, []) : gD)]).length → W p l e R s m args below meth c H1 locs (cells + 1) (slots + N) Q (F0 m (pc + 2) ls (.ref (E.2.2 + tb.length) :: rest))) : W p l e R s m args below meth c H locs cells slots Q (F0 m pc ls (.int k :: rest)) := by
  obtain ⟨hx, hb, hml, hown, hts⟩ := S
  refine va_newaK hx hb (atype := .long) (hts _ har) rfl hdg rfl hn hN (by show N * 8 ≤ _; omega) hf.1 hf.2 rfl fun H1 cA e1 z1 o1 _ hNm => ?_
  obtain rfl := gx_cyI hK (k := 1) (ty := .long) rfl (fun h => h) hNm
  have h9 := gx_grow (D := .inr (1, N, [])) hw hz z1 o1 ?_
  · rw [hz]
    exact kk H1 h9.1 h9.2
  · rw [hz] at e1
    show H1[E.2.2 + tb.length]? = some (vp_cell _ (N, .inr (.inl (τ tb.length))))
    rw [h0]
    exact e1
/-- a field is written in a maker: the table may change, the heap's size stays -/
theorem gx_putC (S : CallFix p m c cc nL s args gx_G own) (hK : gx_K E s) (hA : gx_Ok tb n0 E s) (hw : gx_W tb n0 E s σ τ H locs) {q ci : Nat} {fds : List (Option (Option Nat))} (hT : tb[q]? = some (.inl (ci, fds))) {C : String} {T : u_T} {N : Nat} (hC : gx_C ci C T N) (k : Nat) (hk : k < N) (hkf : k < fds.length) {ref : String} (hlink : Cond.fieldLink own idx ref (T k).2.1 (T k).2.2.1 ∈ gx_G) (href : (T k).1 = ref) (hfin : (T k).2.2.2 = false ∨ ((T k).2.2.2 = true ∧ meth.name = "<init>" ∧ (T k).1 = own)) {ty : FieldType} {v : Value} (hd : parseFieldDescriptor (T k).2.2.1 = some ty) (hn : narrow ty v = v) (hfit : fits ty v = true) (D' : gD) (hD' : gx_cell E σ' τ q D' = .inr (ci, (gx_fv E.2.2 (σ q) 0 fds).set k v)) (ho : ∀ c' d1, c' ≠ q → gx_cell E σ' τ c' d1 = gx_cell E σ τ c' d1) (hdg : decode cc pc = .ok (.putfield idx, 3))
    (kk : ∀ (H1 : Heap) (locs1 : List Loc), gx_W (tb.set q D') n0 E s σ' τ H1 locs1 → H1.size = H.size → W p l e R s m args below meth c H1 locs1 cells slots Q (F0 m (pc + 3) ls rest)) : W p l e R s m args below meth c H locs cells slots Q (F0 m pc ls (v :: .ref (E.2.2 + q) :: rest)) := by
  obtain ⟨hx, hb, hml, hown, hts⟩ := S
  subst href
  obtain ⟨ty0, hty⟩ := hC.2.2.2
  have hap := va_apart (own := own) hts hC.2.1 ty0 hty hC.2.2.1 hK.1 hC.1
  obtain ⟨r, h1, cell, q1, q2, q3, q4⟩ := hw.1 q _ (gx_at hT)
  have hr : r = (C, T, N) := Option.some.inj (h1.symm.trans hC.1)
  subst hr
  obtain ⟨hS, hfc, kC, hkC, hkind⟩ := hK.1.1 ci _ hC.1
  obtain ⟨cf, kf, fi, f, hi, hsl⟩ := hS k hk
  have hlay := hts _ (hC.2.1 _ (u_in_lay hk))
  have hst := (u_facts hfc hkC (u_lays hts hC.2.1 hk) hi).1
  have hl : k < (gx_fv E.2.2 (σ q) 0 fds).length := by rw [gx_fv_len]; exact hkf
  have fin : ∀ (H' : Heap) (L : List Loc), H'[E.2.2 + q]? = some (cell.setSlot f.slot v) → H'.size = H.size → (∀ q9, q9 ≠ E.2.2 + q → H'[q9]? = H[q9]?) → L = locs ++ [⟨E.2.2 + q, f.slot⟩] → W p l e R s m args below meth c H' L cells slots Q (F0 m (pc + 3) ls rest) := by
    intro H' L e1 e2 e3 eL
    subst eL
    rw [hsl] at e1
    refine kk H' _ ⟨?_, ?_⟩ e2
    · have hP := hw.1.set (gx_Dn hA) (gx_at hT) (e := .inr (ci, (gx_fv E.2.2 (σ q) 0 fds).set k v)) ⟨_, hC.1, t_OB.to (V := updV (vp_V (gx_fv E.2.2 (σ q) 0 fds)) k v) ⟨_, e1, q2, q3, t_set q4 hap hk v⟩ (fun j _ => vp_updV_set hl v j)⟩ e3
      rw [← hD', gx_w_set (gx_len hT) ho] at hP
      exact hP
    · exact hw.2.put e2 e3 (hA q (gx_len hT))
  rcases hfin with hfin | ⟨hfin, hin2, hdecl⟩
  · unfold u_lay at hlay
    rw [if_neg (by rw [hfin]; decide)] at hlay
    have h6 := u_store hfc hkC hkind hlay hi hd hn hfit
    exact W.putK hx hb (f := f) ⟨hown, hts _ hlink, ⟨_, _, _, hi⟩, hst⟩ (by rw [q2]; exact h6) q1 q3 (by rw [hsl]; exact k2_hasslot (q4 k hk)) rfl rfl hdg fun H' e1 e2 e3 => fin H' _ e1 e2 e3 rfl
  · unfold u_lay at hlay
    rw [if_pos hfin] at hlay
    have hcf : m.cls = cf := by
      obtain ⟨_, _, c', _, _, _, -, -, hf', -, -, -, hown2, -⟩ := Cond.laysFinal_spec hlay
      have e1 : c' = cf := by have := hi.symm.trans hf'; simp at this; exact this.1.symm
      rw [hdecl] at hown2
      rw [← e1]; exact Option.some.inj (hown.symm.trans hown2)
    have h6 := u_fits hfc hkC hkind (Or.inr hlay) hi hd hn hfit
    exact W.putFinK hx hb hown (hts _ hlink) hi hst hcf hin2 (by rw [q2]; exact h6) q1 q3 (by rw [hsl]; exact k2_hasslot (q4 k hk)) rfl rfl hdg fun H' e1 e2 e3 => fin H' _ e1 e2 e3 rfl
theorem gx_cellr {fds : List (Option (Option Nat))} {k j q ci : Nat} (hk : k < fds.length) : gx_cell E σ τ q (.inl (ci, fds.set k (some (some j)))) = .inr (ci, (gx_fv E.2.2 (σ q) 0 fds).set k (.ref (E.2.2 + j))) := by
  show (Sum.inr (ci, gx_fv E.2.2 (σ q) 0 (fds.set k (some (some j)))) : va_E) = _
  rw [← gx_fv_set E.2.2 (σ q) (σ q) fds k (some (some j)) hk (fun _ _ => rfl)]
  rfl
theorem gx_celli {fds : List (Option (Option Nat))} {k q ci : Nat} {v : Int32} (hf : fds[k]? = some none) : gx_cell E (up2 σ q k v) τ q (.inl (ci, fds)) = .inr (ci, (gx_fv E.2.2 (σ q) 0 fds).set k (.int v)) := by
  show (Sum.inr (ci, gx_fv E.2.2 (up2 σ q k v q) 0 fds) : va_E) = _
  have h2 := gx_fv_set E.2.2 (σ q) (up2 σ q k v q) fds k none (gx_len hf) (fun j hj => by simp [up2, hj])
  rw [gx_set_same hf] at h2
  rw [← h2]
  simp [gx_v, up2]
/-- a reference into a field, in a maker -/
theorem gx_putF (S : CallFix p m c cc nL s args gx_G own) (hK : gx_K E s) (hA : gx_Ok tb n0 E s) (hw : gx_W tb n0 E s σ τ H locs) {q ci : Nat} {fds : List (Option (Option Nat))} (hT : tb[q]? = some (.inl (ci, fds))) {C : String} {T : u_T} {N : Nat} (hC : gx_C ci C T N) (k : Nat) (hk : k < N) (hkf : k < fds.length) {ref : String} (hlink : Cond.fieldLink own idx ref (T k).2.1 (T k).2.2.1 ∈ gx_G) (href : (T k).1 = ref) (hfin : (T k).2.2.2 = true ∧ meth.name = "<init>" ∧ (T k).1 = own) {ty : FieldType} {j : Nat} (hd : parseFieldDescriptor (T k).2.2.1 = some ty) (hn : narrow ty (.ref (E.2.2 + j)) = .ref (E.2.2 + j)) (hfit : fits ty (.ref (E.2.2 + j)) = true) (hdg : decode cc pc = .ok (.putfield idx, 3))
    (kk : ∀ (H1 : Heap) (locs1 : List Loc), gx_W (tb.set q (.inl (ci, fds.set k (some (some j))))) n0 E s σ τ H1 locs1 → H1.size = H.size → W p l e R s m args below meth c H1 locs1 cells slots Q (F0 m (pc + 3) ls rest)) : W p l e R s m args below meth c H locs cells slots Q (F0 m pc ls (.ref (E.2.2 + j) :: .ref (E.2.2 + q) :: rest)) :=
  gx_putC S hK hA hw hT hC k hk hkf hlink href (Or.inr hfin) hd hn hfit _ (gx_cellr hkf) (fun _ _ _ => rfl) hdg kk
/-- a number into a field, in a maker -/
theorem gx_putI (S : CallFix p m c cc nL s args gx_G own) (hK : gx_K E s) (hA : gx_Ok tb n0 E s) (hw : gx_W tb n0 E s σ τ H locs) {q ci : Nat} {fds : List (Option (Option Nat))} (hT : tb[q]? = some (.inl (ci, fds))) {C : String} {T : u_T} {N : Nat} (hC : gx_C ci C T N) (k : Nat) (hk : k < N) (hf : fds[k]? = some none) {ref : String} (hlink : Cond.fieldLink own idx ref (T k).2.1 (T k).2.2.1 ∈ gx_G) (href : (T k).1 = ref) (hfin : (T k).2.2.2 = false) {ty : FieldType} {v : Int32} (hd : parseFieldDescriptor (T k).2.2.1 = some ty) (hn : narrow ty (.int v) = .int v) (hfit : fits ty (.int v) = true) (hdg : decode cc pc = .ok (.putfield idx, 3))
    (kk : ∀ (H1 : Heap) (locs1 : List Loc), gx_W tb n0 E s (up2 σ q k v) τ H1 locs1 → H1.size = H.size → W p l e R s m args below meth c H1 locs1 cells slots Q (F0 m (pc + 3) ls rest)) : W p l e R s m args below meth c H locs cells slots Q (F0 m pc ls (.int v :: .ref (E.2.2 + q) :: rest)) := by
  refine gx_putC S hK hA hw hT hC k hk (gx_len hf) hlink href (Or.inl hfin) hd hn hfit (.inl (ci, fds)) (gx_celli hf) (fun c' d1 h => gx_cell_other c' d1 h) hdg (fun H1 locs1 h1 h2 => kk H1 locs1 ?_ h2)
  rw [gx_set_same hT] at h1
  exact h1
theorem gx_iastC (S : CallFix p m c cc nL s args gx_G own) (hK : gx_K E s) (hA : gx_Ok tb n0 E s) (hw : gx_W tb n0 E s σ τ H locs) {q n : Nat} {rs : List (Option Nat)} (hT : tb[q]? = some (.inr (0, n, rs))) {i x : Int32} (j : Nat) (hj : i.toNatClampNeg = j) (hin : vp_in i n) (hdg : decode cc pc = .ok (.iastore, 1))
    (kk : ∀ (H1 : Heap) (locs1 : List Loc), gx_W tb n0 E s (up2 σ q j x) τ H1 locs1 → H1.size = H.size → W p l e R s m args below meth c H1 locs1 cells slots Q (F0 m (pc + 1) ls rest)) : W p l e R s m args below meth c H locs cells slots Q (F0 m pc ls (.int x :: .int i :: .ref (E.2.2 + q) :: rest)) := by
  subst hj
  refine W.iast S.1 S.2.1 (hw.1 q _ (gx_at hT)) ((hK.1.2 0 _ rfl).1 n (fun j => .int (σ q j))) (fun q => by cases q) (by show ¬ (i < 0 ∨ (arrV _ _ _).slots.size ≤ _); rw [arrV_size]; exact hin) rfl rfl hdg fun H1 e z oq => ?_
  refine kk H1 _ ⟨?_, hw.2.put z oq (hA q (gx_len hT))⟩ z
  have e1 : gx_cell E (up2 σ q i.toNatClampNeg x) τ q (.inr (0, n, rs)) = .inl (E.2.1 0, n, .inl (upd (σ q) i.toNatClampNeg x)) := by
    show (Sum.inl (E.2.1 0, n, Sum.inl (up2 σ q i.toNatClampNeg x q)) : va_E) = _
    rw [up2_upd]
  have hP := hw.1.set (gx_Dn hA) (gx_at hT) (e := .inl (E.2.1 0, n, .inl (upd (σ q) i.toNatClampNeg x))) (H1 := H1) ?_ oq
  · rw [← e1, gx_w_set (gx_len hT) (fun c' d1 h => gx_cell_other c' d1 h), gx_set_same hT] at hP
    exact hP
  · show H1[E.2.2 + q]? = some (vp_cell _ _)
    rw [e]
    show some ((vp_cell (E.2.1 0) (n, .inl (σ q))).setSlot _ _) = _
    rw [vp_cell_i, vp_cell_i, arrV_store]
    congr 2
    funext k
    by_cases hq : k = i.toNatClampNeg
    · subst hq
      simp [updV, upd]
    · simp [updV, upd, hq]
/-- an array of Scenes -/
theorem gx_newS (S : CallFix p m c cc nL s args gx_G own) (hK : gx_K E s) (hN9 : gx_N s) (hw : gx_W tb n0 E s σ τ H locs) (hz : H.size = E.2.2 + tb.length) {k : Int32} {N : Nat} (hn : ¬ k < 0) (hN : k.toNatClampNeg = N) (hby : N ≤ 100000) (hcl : Cond.classLink own idx "DownTheGutter$Scene" ∈ gx_G) (hf : cells + 1 ≤ R.cells ∧ slots + N ≤ R.slots) (hdg : decode cc pc = .ok (.anewarray idx, 3))
    (kk : ∀ H1 : Heap, gx_W (tb ++ [(Sum.inr (3, N, List.replicate N none) : gD)]) n0 E s σ τ H1 locs → H1.size = E.2.2 + (tb ++ [(Sum.inr (3, N, List.replicate N none) : gD)]).length → W p l e R s m args below meth c H1 locs (cells + 1) (slots + N) Q (F0 m (pc + 3) ls (.ref (E.2.2 + tb.length) :: rest))) : W p l e R s m args below meth c H locs cells slots Q (F0 m pc ls (.int k :: rest)) := by
  obtain ⟨hx, hb, hml, hown, hts⟩ := S
  subst hN
  refine W.anew hx hb hown (hts _ hcl) (va_AO.use hN9.2) rfl hdg rfl hn (by omega) hf.1 hf.2 fun cA kA comp f1 f2 f3 f4 => ?_
  obtain ⟨kA', comp', g1, g2, g3, g4⟩ := (hK.1.2 3 _ rfl).2
  have hcA : cA = E.2.1 3 := Option.some.inj (f1.symm.trans g4)
  subst hcA
  generalize hH1 : H.push ({ cls := E.2.1 3, slots := Array.replicate k.toNatClampNeg .null, vm := .none } : Cell) = H1
  have z1 : H1.size = H.size + 1 := by rw [← hH1, Array.size_push]
  have e1 : H1[H.size]? = some (arrV (E.2.1 3) k.toNatClampNeg (fun _ => .null)) := by rw [← hH1, Array.getElem?_push_size, ← arrV_new]
  have o1 : ∀ q : Nat, q < H.size → H1[q]? = H[q]? := fun q hq => by rw [← hH1, Array.getElem?_push, if_neg (Nat.ne_of_lt hq)]
  have h9 := gx_grow (D := .inr (3, k.toNatClampNeg, List.replicate k.toNatClampNeg none)) hw hz z1 o1 ?_
  · rw [hz]
    exact kk H1 h9.1 h9.2
  · rw [hz] at e1
    show H1[E.2.2 + tb.length]? = some (vp_cell _ _)
    rw [e1]
    show _ = some (vp_cell (E.2.1 3) (k.toNatClampNeg, .inr (.inr (.inr (.inr (fun i => (((List.replicate k.toNatClampNeg (none : Option Nat))[i]?).getD none).map (fun j => E.2.2 + j)))))))
    rw [vp_cell_q]
    congr 2
    funext j
    have h8 : ((List.replicate k.toNatClampNeg (none : Option Nat))[j]?).getD none = none := by
      rw [List.getElem?_replicate]
      split <;> rfl
    rw [h8]
    rfl
/-- a Scene into an array of Scenes -/
theorem gx_aastC (S : CallFix p m c cc nL s args gx_G own) (hK : gx_K E s) (hA : gx_Ok tb n0 E s) (hw : gx_W tb n0 E s σ τ H locs) {q n v : Nat} {rs : List (Option Nat)} (hT : tb[q]? = some (.inr (3, n, rs))) {fds : List (Option (Option Nat))} (hv : tb[v]? = some (.inl (7, fds))) {i : Int32} (j : Nat) (hj : i.toNatClampNeg = j) (hin : vp_in i n) (hrs : j < rs.length) (hdg : decode cc pc = .ok (.aastore, 1))
    (kk : ∀ (H1 : Heap) (locs1 : List Loc), gx_W (tb.set q (.inr (3, n, rs.set j (some v)))) n0 E s σ τ H1 locs1 → H1.size = H.size → W p l e R s m args below meth c H1 locs1 cells slots Q (F0 m (pc + 1) ls rest)) : W p l e R s m args below meth c H locs cells slots Q (F0 m pc ls (.ref (E.2.2 + v) :: .int i :: .ref (E.2.2 + q) :: rest)) := by
  subst hj
  have hlt : i.toNatClampNeg < n := Nat.not_le.mp fun q => hin (Or.inr q)
  have h0 : ¬ i < 0 := fun q => hin (Or.inl q)
  obtain ⟨r', hr', cellV, g1, g2, g3, -⟩ := hw.1 v _ (gx_at hv)
  have hcls := (hK.1.1 7 (RX6, TX6, 11) rfl).2
  obtain ⟨kA, comp, k1, k2, k3, -⟩ := (hK.1.2 3 _ rfl).2
  have hcomp : comp = E.1.1.1 7 := Option.some.inj (k3.symm.trans hcls.1)
  subst hcomp
  obtain ⟨kC, hkC, -⟩ := hcls.2
  refine W.aast S.1 S.2.1 (hw.1 q _ (gx_at hT)) (fun q h => by cases h) (fun h => by cases h) k1 k2 rfl hkC ⟨h0, by show _ < (arrV _ _ _).slots.size; rw [arrV_size]; exact hlt⟩ g1 (fun q h => by rw [g3] at h; cases h) (by rw [g2]; exact hkC) (by rw [g2]; exact va_assign hcls) rfl rfl hdg fun H1 e z oq => ?_
  refine kk H1 _ ⟨?_, hw.2.put z oq (hA q (gx_len hT))⟩ z
  have hP := hw.1.set (gx_Dn hA) (gx_at hT) (e := gx_cell E σ τ q (.inr (3, n, rs.set i.toNatClampNeg (some v)))) (H1 := H1) ?_ oq
  · rw [gx_w_set (gx_len hT) (fun c' d1 _ => rfl)] at hP
    exact hP
  · show H1[E.2.2 + q]? = some (vp_cell _ _)
    rw [e]
    show some ((vp_cell (E.2.1 3) (n, .inr (.inr (.inr (.inr (fun i => (rs[i]?.getD none).map (fun j => E.2.2 + j))))))).setSlot _ _) = some (vp_cell (E.2.1 3) (n, .inr (.inr (.inr (.inr (fun k => ((rs.set i.toNatClampNeg (some v))[k]?.getD none).map (fun j => E.2.2 + j)))))))
    rw [vp_cell_q, vp_cell_q, arrV_store]
    congr 2
    funext k
    by_cases hq : k = i.toNatClampNeg
    · subst hq
      rw [List.getElem?_set_self hrs]
      simp [updV, va_rf]
    · rw [List.getElem?_set_ne (Ne.symm hq)]
      simp [updV, hq]
end GN
/-- a maker's contract: from a table, a picture to a table, a picture -/
def gx_rc (d mc ms : Nat) : Room := { frames := d, cells := mc, slots := ms, locals := 40 * d }
def gx_Pc (tb : List gD) (E : gE) (σ : gI) (τ : gJ) (U : State) : Prop := gx_Pre tb E σ τ (E.2.2 + tb.length) U ∧ gx_N U
def gx_Mc (l : Launch) (y : MethodName) (cc : ByteArray) (mL d mc ms : Nat) (tb tb' : List gD) (E : gE) (σ σ' : gI) (τ : gJ) (av : List Value) : Prop :=
  Met l y (Cond.code y cc mL none :: gx_G) (gx_rc d mc ms) (va_Pc av (gx_Pc tb E σ τ)) (va_Qv (fun (_ : Unit) => True) (fun _ t => gx_P tb' E σ' τ t.heap ∧ t.heap.size = E.2.2 + tb'.length) (gx_A tb.length E.2.2 (E.2.2 + tb.length))) mc ms (gx_A tb.length E.2.2 (E.2.2 + tb.length))
theorem gx_blindC {av : List Value} {tb : List gD} {E : gE} {σ : gI} {τ : gJ} : FrameBlind (va_Pc av (gx_Pc tb E σ τ)) := by
  intro a U g mk q
  obtain ⟨q0, ⟨q1, qP, qK⟩, qN⟩ := q
  exact ⟨q0, ⟨q1, qP, ⟨va_K.moved (u := U) (U := U.calling g mk a) (Vm.Alike.refl U.vm) qK.1, gx_Z.same (s := U) (U := U.calling g mk a) rfl qK.2⟩⟩, gx_N.same (s := U) (U := U.calling g mk a) rfl qN⟩
section GC
variable {p : Program} {l : Launch} {e : Env} {R : Room} {s : State} {m : MethodId} {args : Array Value} {below : List Frame} {meth : Method} {c : Code} {H : Heap} {locs : List Loc} {cells slots : Nat} {Q : State → Prop}
variable {cc cc' : ByteArray} {pc nL mL d n idx n0 mc ms : Nat} {ls : Array Slot} {st rest As av : List Value} {own : String} {tb tb' : List gD} {E : gE} {σ σ' : gI} {τ : gJ} {y : MethodName}
theorem gx_bc (hy : plainName y.cls = true) (hlen : (lg_sl av).length ≤ mL)
    (body : ∀ (p : Program) (e : Env) (s : State) (m : MethodId) (below : List Frame) (meth : Method) (c : Code), CallFix p m c cc mL s av.toArray gx_G y.cls → meth.sig.returnType = none → meth.locks = false → meth.name = y.name → gx_K E s → gx_N s → s.heap.size = E.2.2 + tb.length → gx_W tb tb.length E s σ τ s.heap [] → ∀ ls : Array Slot, lv_has ls mL (lv_args 0 av) →
      W p l e (gx_rc d mc ms) s m av.toArray below meth c s.heap [] 0 0 (MQ below (va_Qv (fun (_ : Unit) => True) (fun _ t => gx_P tb' E σ' τ t.heap ∧ t.heap.size = E.2.2 + tb'.length) (gx_A tb.length E.2.2 s.heap.size)) av.toArray s mc ms (gx_A tb.length E.2.2 s.heap.size)) (F0 m 0 ls [])) : gx_Mc l y cc mL d mc ms tb tb' E σ σ' τ av := by
  refine gx_begin (Qc := fun sz => va_Qv (fun (_ : Unit) => True) (fun _ t => gx_P tb' E σ' τ t.heap ∧ t.heap.size = E.2.2 + tb'.length) (gx_A tb.length E.2.2 sz)) (A := fun sz => gx_A tb.length E.2.2 sz) hy (fun a U h => h.1) hlen (fun a U h => h.2.1.1) ?_
  intro p e s m below meth c S hr hlk hnm hv hz ls hl
  exact body p e s m below meth c S hr hlk hnm hv.2.1.2.2 hv.2.2 hz ⟨hv.2.1.2.1, va_S.rf⟩ ls hl
theorem gx_rc9 (S : CallFix p m c cc nL s args gx_G own) (hr : meth.sig.returnType = none) (hlk : meth.locks = false) (hw : gx_W tb' tb.length E s σ' τ H locs) (hz : H.size = E.2.2 + tb'.length) (hdg : decode cc pc = .ok (.return_, 1)) :
    W p l e R s m args below meth c H locs mc ms (MQ below (va_Qv (fun (_ : Unit) => True) (fun _ t => gx_P tb' E σ' τ t.heap ∧ t.heap.size = E.2.2 + tb'.length) (gx_A tb.length E.2.2 s.heap.size)) args s mc ms (gx_A tb.length E.2.2 s.heap.size)) (F0 m pc ls []) :=
  W.vret S.1 S.2.1 hr (fun t ht _ => ⟨⟨(), rfl, trivial, by rw [ht]; exact hw.1, by rw [ht]; exact hz⟩, hw.2.F ht⟩) hw.2.2.2 hdg hlk
theorem gx_goodM {y : MethodName} {cc : ByteArray} {mL : Nat} (h : Cond.code y cc mL none ∈ gx_G) : GoodIn gx_G (Cond.code y cc mL none :: gx_G) := by
  intro w hw
  rcases List.mem_cons.mp hw with rfl | hw
  · exact ⟨h, gx_good h⟩
  · exact ⟨hw, gx_good hw⟩
def gx_Wi (own : String) (idx : Nat) (y : MethodName) (cc : ByteArray) (mL : Nat) (n : Nat) : Prop := (Cond.methodLink own idx y ∈ gx_G ∧ Cond.instanceMethod y ∈ gx_G ∧ Cond.initialized y.cls ∈ gx_G ∧ Cond.code y cc mL none ∈ gx_G) ∧ y.name = "<init>" ∧ y.cls ≠ "java/lang/invoke/MethodHandle" ∧ y.cls ≠ "java/lang/invoke/VarHandle" ∧ (parseMethodDescriptor y.desc).map (fun d => d.parameters.length) = some n
def gx_Wn (own : String) (idx : Nat) (y : MethodName) (host : String) (cc : ByteArray) (mL : Nat) (n : Nat) : Prop := (Cond.methodLinkNest own idx y host ∈ gx_nest ∧ Cond.instanceMethod y ∈ gx_G ∧ Cond.initialized y.cls ∈ gx_G ∧ Cond.code y cc mL none ∈ gx_G) ∧ y.name = "<init>" ∧ y.cls ≠ "java/lang/invoke/MethodHandle" ∧ y.cls ≠ "java/lang/invoke/VarHandle" ∧ (parseMethodDescriptor y.desc).map (fun d => d.parameters.length) = some n
/-- a maker is called -/
theorem gx_cI {q : Nat} (S : CallFix p m c cc nL s args gx_G own) (hK : gx_K E s) (hN9 : gx_N s) (hA : gx_Ok tb n0 E s) (hw : gx_W tb n0 E s σ τ H locs) (hz : H.size = E.2.2 + tb.length) (M : gx_Mc l y cc' mL d mc ms tb tb' E σ σ' τ (.ref (E.2.2 + q) :: As)) (w : gx_Wi own idx y cc' mL n) (hR : d + 1 ≤ R.frames ∧ 8 + (mL + 11) + 40 * d ≤ R.locals) (hn : As.length = n) (hls : ls.size = nL) (hst : st = As.reverse ++ .ref (E.2.2 + q) :: rest) (hW : (rest.map fun v => v.category).sum ≤ 8) (hf : cells + mc ≤ R.cells ∧ slots + ms ≤ R.slots) (hdg : decode cc pc = .ok (.invokespecial idx, 3))
    (kk : ∀ (H1 : Heap) (locs1 : List Loc), gx_W tb' n0 E s σ' τ H1 locs1 → H1.size = E.2.2 + tb'.length → W p l e R s m args below meth c H1 locs1 (cells + mc) (slots + ms) Q (F0 m (pc + 3) ls rest)) : W p l e R s m args below meth c H locs cells slots Q (F0 m pc ls st) := by
  subst hst
  obtain ⟨⟨h1, h2, h3, h4⟩, h5, h6⟩ := w
  refine va_callv (va_runI (As := As) (rest := rest) (b := E.2.2 + q) S M (cwI n S.2.2.2.2 (gx_goodM h4) rfl rfl rfl (S.2.2.2.2 _ h3) (S.2.2.2.2 _ h1) (S.2.2.2.2 _ h2) h5 h6 hR) ⟨gx_blindC, fun U hU hW9 => ⟨rfl, ⟨by rw [hU]; exact hz, by rw [hU]; exact hw.1, gx_K.move hW9 hU hw hK⟩, gx_N.warm hW9 hN9⟩⟩ rfl hn hls rfl (lv_room hW) hdg hf) hw.2 (fun q1 _ h => gx_sub hA hw (by rw [hz]; exact h)) (fun q1 h => gx_sub hA hw (by rw [hz]; exact h)) ?_
  intro u t H1 locs1 ht hvm hp hB _ hk hS
  exact kk H1 locs1 ⟨by rw [← ht]; exact hB.1, hS⟩ (by rw [← ht]; exact hB.2)
theorem gx_cN {q : Nat} {host : String} (S : CallFix p m c cc nL s args gx_G own) (hK : gx_K E s) (hN9 : gx_N s) (hA : gx_Ok tb n0 E s) (hw : gx_W tb n0 E s σ τ H locs) (hz : H.size = E.2.2 + tb.length) (M : gx_Mc l y cc' mL d mc ms tb tb' E σ σ' τ (.ref (E.2.2 + q) :: As)) (w : gx_Wn own idx y host cc' mL n) (hR : d + 1 ≤ R.frames ∧ 8 + (mL + 11) + 40 * d ≤ R.locals) (hn : As.length = n) (hls : ls.size = nL) (hst : st = As.reverse ++ .ref (E.2.2 + q) :: rest) (hW : (rest.map fun v => v.category).sum ≤ 8) (hf : cells + mc ≤ R.cells ∧ slots + ms ≤ R.slots) (hdg : decode cc pc = .ok (.invokespecial idx, 3))
    (kk : ∀ (H1 : Heap) (locs1 : List Loc), gx_W tb' n0 E s σ' τ H1 locs1 → H1.size = E.2.2 + tb'.length → W p l e R s m args below meth c H1 locs1 (cells + mc) (slots + ms) Q (F0 m (pc + 3) ls rest)) : W p l e R s m args below meth c H locs cells slots Q (F0 m pc ls st) := by
  subst hst
  obtain ⟨⟨h1, h2, h3, h4⟩, h5, h6⟩ := w
  refine va_callv (va_runIN (As := As) (rest := rest) (b := E.2.2 + q) S M ⟨va_cnB n S.2.2.2.2 (gx_goodM h4) rfl rfl rfl (hN9.1 _ h1) (S.2.2.2.2 _ h3) h6 hR, h5, S.2.2.2.2 _ h2⟩ ⟨gx_blindC, fun U hU hW9 => ⟨rfl, ⟨by rw [hU]; exact hz, by rw [hU]; exact hw.1, gx_K.move hW9 hU hw hK⟩, gx_N.warm hW9 hN9⟩⟩ rfl hn hls rfl (lv_room hW) hdg hf) hw.2 (fun q1 _ h => gx_sub hA hw (by rw [hz]; exact h)) (fun q1 h => gx_sub hA hw (by rw [hz]; exact h)) ?_
  intro u t H1 locs1 ht hvm hp hB _ hk hS
  exact kk H1 locs1 ⟨by rw [← ht]; exact hB.1, hS⟩ (by rw [← ht]; exact hB.2)
/-- Object.<init> -/
theorem gx_obj {q : Nat} (S : CallFix p m c cc nL s args gx_G own) (hl : Cond.methodLink own idx objectInit ∈ gx_G) (hi : Cond.instanceMethod objectInit ∈ gx_G) (hc : Cond.code objectInit ⟨#[0xb1]⟩ 1 none ∈ gx_G) (hls : ls.size = nL) (hdg : decode cc pc = .ok (.invokespecial idx, 3)) (hR : 1 ≤ R.frames ∧ (rest.map fun v => v.category).sum + 12 ≤ R.locals) (kk : W p l e R s m args below meth c H locs cells slots Q (F0 m (pc + 3) ls rest)) : W p l e R s m args below meth c H locs cells slots Q (F0 m pc ls (.ref q :: rest)) :=
  W.objInit S.1 S.2.1 S.2.2.2.1 (S.2.2.2.2 _ hl) (S.2.2.2.2 _ hi) (S.2.2.2.2 _ hc) rfl (hls.trans S.2.2.1.symm) rfl hdg hR.1 (by show 2 * 0 + _ + 12 ≤ _; rw [Nat.mul_zero, Nat.zero_add]; exact hR.2) kk
end GC
/-! TEXT CONSTANTS -/
section GS
variable {p : Program} {l : Launch} {e : Env} {R : Room} {s : State} {m : MethodId} {args : Array Value} {below : List Frame} {meth : Method} {c : Code} {H : Heap} {locs : List Loc} {cells slots : Nat} {Q : State → Prop}
variable {cc cc' : ByteArray} {pc nL mL d n idx n0 i : Nat} {ls : Array Slot} {st rest As : List Value} {own : String} {tb : List gD} {E : gE} {σ : gI} {τ : gJ} {y : MethodName} {ret : Option FieldType} {q : String × Nat × String × List Int32}
theorem gx_SB (hK : gx_K E s) (hw : gx_W tb n0 E s σ τ H locs) : va_S (gx_B E) s.heap H locs := by
  have hz : E.2.2 ≤ s.heap.size := hK.2.2.2.2.2.1
  have hAB : ∀ a, gx_A n0 E.2.2 s.heap.size a → gx_B E a := fun a h => by
    rcases h with h | h
    · exact h.1
    · exact Nat.le_trans hz h
  exact ⟨hw.2.1, fun a h1 h2 => hw.2.2.1 a h1 (fun h => h2 (hAB a h)), fun a h => hAB _ (hw.2.2.2 a h)⟩
theorem gx_lds (S : CallFix p m c cc nL s args gx_G own) (hK : gx_K E s) (hq : gx_ss[i]? = some q) (hown : q.1 = own) (hdg : decode cc pc = .ok (.ldc q.2.1, 2))
    (kk : W p l e R s m args below meth c H locs cells slots Q (F0 m (pc + 2) ls (.ref (E.1.2.1 i) :: rest))) : W p l e R s m args below meth c H locs cells slots Q (F0 m pc ls rest) := by
  subst hown
  exact va_ldcS S.1 S.2.1 S.2.2.2.1 (hK.2.1 i q hq).2 hdg kk
theorem gx_ldsw (S : CallFix p m c cc nL s args gx_G own) (hK : gx_K E s) (hq : gx_ss[i]? = some q) (hown : q.1 = own) (hdg : decode cc pc = .ok (.ldc_w q.2.1, 3))
    (kk : W p l e R s m args below meth c H locs cells slots Q (F0 m (pc + 3) ls (.ref (E.1.2.1 i) :: rest))) : W p l e R s m args below meth c H locs cells slots Q (F0 m pc ls rest) := by
  subst hown
  intro T hT X
  obtain ⟨t, a1, b1⟩ := kk T hT X
  exact ⟨t, X.ldcStringW S.1 S.2.2.2.1 (text := q.2.2.1) (a := E.1.2.1 i) (hK.2.1 i q hq).2.1 (hK.2.1 i q hq).2.2 (g := F0 m pc ls rest) rfl (by rw [S.2.1]; exact hdg) t a1, b1⟩
theorem gx_fmt (S : CallFix p m c cc nL s args gx_G own) (hK : gx_K E s) (hw : gx_W tb n0 E s σ τ H locs) (hl : Cond.fieldLink own idx "jdk/internal/util/Preconditions" "SIOOBE_FORMATTER" "Ljava/util/function/BiFunction;" ∈ gx_G) (hdg : decode cc pc = .ok (.getstatic idx, 3))
    (kk : ∀ w : Value, (w = .null ∨ ∃ t, w = .ref t) → W p l e R s m args below meth c H locs cells slots Q (F0 m (pc + 3) ls (w :: rest))) : W p l e R s m args below meth c H locs cells slots Q (F0 m pc ls rest) := by
  rcases hK.2.2.2.2.2.2.1 with h | ⟨t, h⟩
  · exact va_gets S.1 S.2.1 h (gx_SB hK hw) S.2.2.2.1 (S.2.2.2.2 _ hl) (fun _ h => h) hdg (kk .null (Or.inl rfl))
  · exact va_gets S.1 S.2.1 h (gx_SB hK hw) S.2.2.2.1 (S.2.2.2.2 _ hl) (fun _ h => h) hdg (kk (.ref t) (Or.inr ⟨t, rfl⟩))
theorem gx_alen {n : Nat} {rs : List (Option Nat)} {qq : Nat} {v : Int32} (S : CallFix p m c cc nL s args gx_G own) (hK : gx_K E s) (hw : gx_W tb n0 E s σ τ H locs) (hT : tb[qq]? = some (.inr (0, n, rs))) (hv : Int32.ofNat n = v) (hdg : decode cc pc = .ok (.arraylength, 1))
    (kk : W p l e R s m args below meth c H locs cells slots Q (F0 m (pc + 1) ls (.int v :: rest))) : W p l e R s m args below meth c H locs cells slots Q (F0 m pc ls (.ref (E.2.2 + qq) :: rest)) := by
  subst hv
  exact va_alen S.1 S.2.1 hK.1 hw.1 qq 0 (gx_at hT) rfl rfl hdg kk
theorem gx_scod (S : CallFix p m c cc nL s args gx_G own) (hK : gx_K E s) (hw : gx_W tb n0 E s σ τ H locs) (hq : gx_ss[i]? = some q) (hl : Cond.fieldLink own idx "java/lang/String" "coder" "B" ∈ gx_G) (hdg : decode cc pc = .ok (.getfield idx, 3))
    (kk : W p l e R s m args below meth c H locs cells slots Q (F0 m (pc + 3) ls (.int 0 :: rest))) : W p l e R s m args below meth c H locs cells slots Q (F0 m pc ls (.ref (E.1.2.1 i) :: rest)) :=
  vk_getf S.1 S.2.1 ((hK.2.1 i q hq).1.1 0 (by decide)).2.1 (gx_SB hK hw) S.2.2.2.1 (S.2.2.2.2 _ hl) (fun _ h => h) hdg kk
theorem gx_sval (S : CallFix p m c cc nL s args gx_G own) (hK : gx_K E s) (hw : gx_W tb n0 E s σ τ H locs) (hq : gx_ss[i]? = some q) (hl : Cond.fieldLink own idx "java/lang/String" "value" "[B" ∈ gx_G) (hdg : decode cc pc = .ok (.getfield idx, 3))
    (kk : W p l e R s m args below meth c H locs cells slots Q (F0 m (pc + 3) ls (.ref (E.1.2.2 i) :: rest))) : W p l e R s m args below meth c H locs cells slots Q (F0 m pc ls (.ref (E.1.2.1 i) :: rest)) :=
  vk_getf S.1 S.2.1 ((hK.2.1 i q hq).1.1 0 (by decide)).2.2.1 (gx_SB hK hw) S.2.2.2.1 (S.2.2.2.2 _ hl) (fun _ h => h) hdg kk
theorem gx_slen {v : Int32} (S : CallFix p m c cc nL s args gx_G own) (hK : gx_K E s) (hw : gx_W tb n0 E s σ τ H locs) (hq : gx_ss[i]? = some q) (hv : Int32.ofNat q.2.2.2.length = v) (hdg : decode cc pc = .ok (.arraylength, 1))
    (kk : W p l e R s m args below meth c H locs cells slots Q (F0 m (pc + 1) ls (.int v :: rest))) : W p l e R s m args below meth c H locs cells slots Q (F0 m pc ls (.ref (E.1.2.2 i) :: rest)) :=
  va_tlen S.1 S.2.1 ((hK.2.1 i q hq).1.1 0 (by decide)).2.2.2 (gx_SB hK hw) hv hdg kk
theorem gx_cs (S : CallFix p m c cc nL s args gx_G own) (hK : gx_K E s) (hw : gx_W tb n0 E s σ τ H locs) (hl : Cond.fieldLink own idx "java/lang/String" "COMPACT_STRINGS" "Z" ∈ gx_G) (hdg : decode cc pc = .ok (.getstatic idx, 3))
    (kk : W p l e R s m args below meth c H locs cells slots Q (F0 m (pc + 3) ls (.int 1 :: rest))) : W p l e R s m args below meth c H locs cells slots Q (F0 m pc ls rest) :=
  va_gets S.1 S.2.1 hK.2.2.1 (gx_SB hK hw) S.2.2.2.1 (S.2.2.2.2 _ hl) (fun _ h => h) hdg kk
/-- a call on a text constant -/
theorem gx_cTi {post : Int32 → gI → gJ → Prop} (S : CallFix p m c cc nL s args gx_G own) (hK : gx_K E s) (hA : gx_Ok tb n0 E s) (hw : gx_W tb n0 E s σ τ H locs) (M : gx_Mi l y cc' mL ret d tb E σ τ (.ref (E.1.2.1 i) :: As) post) (w : gx_Wv own idx y cc' mL ret n) (hq : gx_ss[i]? = some q) (hy : y.cls = "java/lang/String") (hR : d + 1 ≤ R.frames ∧ 8 + (mL + 11) + 40 * d ≤ R.locals) (hn : As.length = n) (hls : ls.size = nL) (hst : st = As.reverse ++ .ref (E.1.2.1 i) :: rest) (hW : (rest.map fun v => v.category).sum ≤ 8) (hf : cells + 0 ≤ R.cells ∧ slots + 0 ≤ R.slots) (hdg : decode cc pc = .ok (.invokevirtual idx, 3))
    (kk : ∀ (r : Int32) (σ' : gI) (τ' : gJ) (H1 : Heap) (locs1 : List Loc), post r σ' τ' → gx_W tb n0 E s σ' τ' H1 locs1 → W p l e R s m args below meth c H1 locs1 cells slots Q (F0 m (pc + 3) ls (.int r :: rest))) : W p l e R s m args below meth c H locs cells slots Q (F0 m pc ls st) := by
  subst hst
  have hrc : ∃ cell : Cell, H[E.1.2.1 i]? = some cell ∧ cell.vm.isStatics = false ∧ s.vm.findClass y.cls = some cell.cls := by
    rw [hy]
    exact vk_recv (i := 0) (hK.2.1 i q hq).1 (by decide) (gx_SB hK hw)
  refine va_calli (va_runV (As := As) (rest := rest) (b := E.1.2.1 i) S (M H.size) (cwV n S.2.2.2.2 (gx_goodV w) rfl rfl rfl ⟨rfl, w.2⟩ hR) ⟨gx_blind, hrc, fun U hU hW9 => ⟨rfl, by rw [hU], by rw [hU]; exact hw.1, gx_K.move hW9 hU hw hK⟩⟩ rfl hn hls rfl (lv_room hW) hdg hf) hw.2 (fun q1 _ h => gx_sub hA hw h) (fun q1 h => gx_sub hA hw h) ?_
  intro r u t H1 locs1 ht hvm hp hB hz hk hS
  exact kk r u.1 u.2 H1 locs1 hp ⟨by rw [← ht]; exact hB, hS⟩
end GS
theorem up2_hi {σ : gI} {c k c9 k9 n : Nat} {v : Int32} (h : c < n) (h9 : n ≤ c9) : up2 σ c k v c9 k9 = σ c9 k9 := by
  unfold up2
  rw [if_neg (by omega)]
theorem gx_cl (x y : Int64) : lg_cmp x y < 0 ↔ x.toInt < y.toInt := by
  unfold lg_cmp
  split
  · next h => exact ⟨fun q => absurd q (by decide), fun q => by have := Int64.lt_iff_toInt_lt.mp h; omega⟩
  · next h =>
    split
    · next h2 => subst h2; exact ⟨fun q => absurd q (by decide), fun q => by omega⟩
    · next h2 => exact ⟨fun _ => by
        have h3 : ¬ y.toInt < x.toInt := fun q => h (Int64.lt_iff_toInt_lt.mpr q)
        have h4 : ¬ x.toInt = y.toInt := fun q => h2 (Int64.toInt_inj.mp q)
        omega, fun _ => by decide⟩
theorem gx_cg (x y : Int64) : 0 < lg_cmp x y ↔ y.toInt < x.toInt := by
  unfold lg_cmp
  split
  · next h => exact ⟨fun _ => Int64.lt_iff_toInt_lt.mp h, fun _ => by decide⟩
  · next h =>
    split
    · next h2 => subst h2; exact ⟨fun q => absurd q (by decide), fun q => by omega⟩
    · next h2 => exact ⟨fun q => absurd q (by decide), fun q => absurd (Int64.lt_iff_toInt_lt.mpr q) h⟩
theorem fa_lt (a b : Int32) : a < b ↔ a.toInt < b.toInt := Int32.lt_iff_toInt_lt
theorem fa_le (a b : Int32) : a ≤ b ↔ a.toInt ≤ b.toInt := Int32.le_iff_toInt_le
theorem fa_eq (a b : Int32) : a = b ↔ a.toInt = b.toInt := Int32.toInt_inj.symm
theorem gx_0shr (y : Int32) : (0 : Int32) >>> (y &&& 31) = 0 := by
  apply Int32.toBitVec_inj.mp
  simp
theorem gx_0shl (y : Int32) : (0 : Int32) <<< (y &&& 31) = 0 := by
  apply Int32.toBitVec_inj.mp
  simp
theorem gx_ilt {i k : Nat} {x : Int32} (hk : x = nI k) (hi : i < 2 ^ 31) (h : ¬ x ≤ nI i) : i < k := by
  subst hk
  exact Nat.not_le.mp fun q => h (nI_le q hi)
theorem gx_ige {i k : Nat} {x : Int32} (hk : x = nI k) (hi : i < 2 ^ 31) (hk2 : k < 2 ^ 31) (h : x ≤ nI i) : k ≤ i := by
  subst hk
  exact (nI_leI hk2 hi).mp h
theorem gx_nat {n : Int32} {M : Nat} (h0 : 0 ≤ n.toInt) (h1 : n.toInt ≤ M) : ∃ j : Nat, j ≤ M ∧ n = nI j := by
  obtain ⟨j, hj, rfl⟩ := nI_of (x := n) (fun q => by
    have h2 := Int32.lt_iff_toInt_lt.mp q
    have e0 : (0 : Int32).toInt = 0 := rfl
    omega)
  rw [nI_toInt hj] at h1
  exact ⟨j, by omega, rfl⟩
theorem gx_inl {i k : Nat} {x : Int32} (hk : x = nI k) (hi : i < 2 ^ 31) (hk2 : k < 2 ^ 31) (h : ¬ x < nI i) : i ≤ k := by
  subst hk
  exact Nat.not_lt.mp fun q => h (nI_lt q hi)
theorem up2_id {σ : gI} {c k : Nat} {v : Int32} (h : σ c k = v) : up2 σ c k v = σ := by
  funext c9 k9
  unfold up2
  split
  · next q => rw [q.1, q.2, h]
  · rfl
