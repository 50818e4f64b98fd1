/-! PURE FUNCTIONS: what a method does to the picture; none where the machine would throw, or the fuel is out -/
def nm {α β : Type} (x : α) (k : α → Option β) : Option β := k x
theorem nm_some {α β : Type} {x : α} {k : α → Option β} {r : β} (h : nm x k = some r) : ∃ y, y = x ∧ k y = some r := ⟨x, rfl, h⟩
def ck {β : Type} (i : Int32) (n : Nat) (k : Nat → Option β) : Option β := if i < 0 ∨ n ≤ i.toNatClampNeg then none else k i.toNatClampNeg
theorem ck_some {β : Type} {i : Int32} {n : Nat} {k : Nat → Option β} {r : β} (h : ck i n k = some r) : ∃ j, i.toNatClampNeg = j ∧ vp_in i n ∧ k j = some r := by
  unfold ck at h
  by_cases c : i < 0 ∨ n ≤ i.toNatClampNeg
  · rw [if_pos c] at h; cases h
  · rw [if_neg c] at h; exact ⟨_, rfl, c, h⟩
def dz {β : Type} (y : Int32) (k : Option β) : Option β := if y = 0 then none else k
theorem dz_some {β : Type} {y : Int32} {k : Option β} {r : β} (h : dz y k = some r) : ¬ y = 0 ∧ k = some r := by
  unfold dz at h
  by_cases c : y = 0
  · rw [if_pos c] at h; cases h
  · rw [if_neg c] at h; exact ⟨c, h⟩
def dzl {β : Type} (y : Int64) (k : Option β) : Option β := if y = 0 then none else k
theorem dzl_some {β : Type} {y : Int64} {k : Option β} {r : β} (h : dzl y k = some r) : ¬ y = 0 ∧ k = some r := by
  unfold dzl at h
  by_cases c : y = 0
  · rw [if_pos c] at h; cases h
  · rw [if_neg c] at h; exact ⟨c, h⟩
def cb {β : Type} (v : Int32) (k : Option β) : Option β := if v = 0 ∨ v = 1 then k else none
theorem cb_some {β : Type} {v : Int32} {k : Option β} {r : β} (h : cb v k = some r) : (v = 0 ∨ v = 1) ∧ k = some r := by
  unfold cb at h
  by_cases c : v = 0 ∨ v = 1
  · rw [if_pos c] at h; exact ⟨c, h⟩
  · rw [if_neg c] at h; cases h
theorem cb_nar {v : Int32} (h : v = 0 ∨ v = 1) : narrow .boolean (.int v) = .int v := by
  rcases h with rfl | rfl <;> rfl
theorem cb_fit {v : Int32} (h : v = 0 ∨ v = 1) : fits .boolean (.int v) = true := by
  rcases h with rfl | rfl <;> rfl
theorem cb_vp {v : Int32} (h : v = 0 ∨ v = 1) : vp_nar .boolean v = v := by
  rcases h with rfl | rfl <;> decide
def cch {β : Type} (v : Int32) (k : Option β) : Option β := if (v.toUInt32 % 65536).toInt32 = v then k else none
theorem cch_some {β : Type} {v : Int32} {k : Option β} {r : β} (h : cch v k = some r) : (v.toUInt32 % 65536).toInt32 = v ∧ k = some r := by
  unfold cch at h
  by_cases c : (v.toUInt32 % 65536).toInt32 = v
  · rw [if_pos c] at h; exact ⟨c, h⟩
  · rw [if_neg c] at h; cases h
theorem cch_nar {v : Int32} (h : (v.toUInt32 % 65536).toInt32 = v) : narrow .char (.int v) = .int v := by
  have h1 := nar_c v
  rw [h] at h1
  exact h1
theorem gw_m {n D : Nat} (a : 1 ≤ D) (b : n + 13 ≤ 40 * D) : 1 ≤ (gx_rm D).frames ∧ n + 13 ≤ (gx_rm D).locals := ⟨a, b⟩
def bd {α β : Type} (x : Option (α × gI × gJ)) (k : α → gI → gJ → Option β) : Option β := match x with
  | none => none
  | some u => k u.1 u.2.1 u.2.2
theorem bd_some {α β : Type} {x : Option (α × gI × gJ)} {k : α → gI → gJ → Option β} {r : β} (h : bd x k = some r) : ∃ a σ τ, x = some (a, σ, τ) ∧ k a σ τ = some r := by
  cases x with
  | none => cases h
  | some u => exact ⟨u.1, u.2.1, u.2.2, rfl, h⟩
theorem sm_inj {α : Type} {a a' : α} {b b' : gI} {c c' : gJ} (h : some (a, b, c) = some (a', b', c')) : a = a' ∧ b = b' ∧ c = c' := by
  cases h
  exact ⟨rfl, rfl, rfl⟩
def itn {α : Type} (f : α → α) (z : α) : Nat → α
  | 0 => z
  | n + 1 => f (itn f z n)
def imax (x y : Int32) : Int32 := if x < y then y else x
def imin (x y : Int32) : Int32 := if y < x then y else x
def ius (x y : Int32) : Int32 := (x.toUInt32 >>> (y.toUInt32 &&& Int32.toUInt32 31)).toInt32
def gq_p {α : Type} (r : α) (σ : gI) (τ : gJ) : α → gI → gJ → Prop := fun r' σ' τ' => r = r' ∧ σ = σ' ∧ τ = τ'
def gq_v (σ : gI) (τ : gJ) : gI → gJ → Prop := fun σ' τ' => σ = σ' ∧ τ = τ'
abbrev gq_Qi (below : List Frame) (av : List Value) (s : State) (E : gE) (r : Int32) (σ : gI) (τ : gJ) : State → Prop := MQ below (va_Qi (fun r' (u : gI × gJ) => gq_p r σ τ r' u.1 u.2) (fun u t => gx_P gx_tb E u.1 u.2 t.heap) (gx_A gx_tb.length E.2.2 s.heap.size)) av.toArray s 0 0 (gx_A gx_tb.length E.2.2 s.heap.size)
abbrev gq_Ql (below : List Frame) (av : List Value) (s : State) (E : gE) (r : Int64) (σ : gI) (τ : gJ) : State → Prop := MQ below (va_Ql (fun r' (u : gI × gJ) => gq_p r σ τ r' u.1 u.2) (fun u t => gx_P gx_tb E u.1 u.2 t.heap) (gx_A gx_tb.length E.2.2 s.heap.size)) av.toArray s 0 0 (gx_A gx_tb.length E.2.2 s.heap.size)
abbrev gq_Qv (below : List Frame) (av : List Value) (s : State) (E : gE) (σ : gI) (τ : gJ) : State → Prop := MQ below (va_Qv (fun (u : gI × gJ) => gq_v σ τ u.1 u.2) (fun u t => gx_P gx_tb E u.1 u.2 t.heap) (gx_A gx_tb.length E.2.2 s.heap.size)) av.toArray s 0 0 (gx_A gx_tb.length E.2.2 s.heap.size)
theorem in_lt {i : Int32} {n j : Nat} (h : vp_in i n) (e : i.toNatClampNeg = j) : j < n := by
  subst e
  exact Nat.not_le.mp fun q => h (Or.inr q)
theorem gw_ok {d mL D : Nat} (a : d + 1 ≤ D) (b : 8 + (mL + 11) + 40 * d ≤ 40 * D) : d + 1 ≤ (gx_rm D).frames ∧ 8 + (mL + 11) + 40 * d ≤ (gx_rm D).locals := ⟨a, b⟩
def gx_scn (c : Nat) : gD := .inl (7, [some (some (c + 1)), some (some (c + 2)), some (some (c + 3)), some (some (c + 4)), some (some (c + 5)), some (some (c + 6)), none, none, none, none, none])
def gx_a6 : gD := .inr (0, 6, [])
def gx_isS (c : Nat) : Prop := gx_tb[c]? = some (gx_scn c) ∧ gx_tb[c + 1]? = some gx_a6 ∧ gx_tb[c + 2]? = some gx_a6 ∧ gx_tb[c + 3]? = some gx_a6 ∧ gx_tb[c + 4]? = some gx_a6 ∧ gx_tb[c + 5]? = some gx_a6 ∧ gx_tb[c + 6]? = some gx_a6
theorem iS_1 {c : Nat} (h : gx_isS c) : gx_tb[c + 1]? = some (.inr (0, 6, [])) := h.2.1
theorem iS_2 {c : Nat} (h : gx_isS c) : gx_tb[c + 2]? = some (.inr (0, 6, [])) := h.2.2.1
theorem iS_3 {c : Nat} (h : gx_isS c) : gx_tb[c + 3]? = some (.inr (0, 6, [])) := h.2.2.2.1
theorem iS_4 {c : Nat} (h : gx_isS c) : gx_tb[c + 4]? = some (.inr (0, 6, [])) := h.2.2.2.2.1
theorem iS_5 {c : Nat} (h : gx_isS c) : gx_tb[c + 5]? = some (.inr (0, 6, [])) := h.2.2.2.2.2.1
theorem iS_6 {c : Nat} (h : gx_isS c) : gx_tb[c + 6]? = some (.inr (0, 6, [])) := h.2.2.2.2.2.2
theorem is_30 : gx_isS 30 := ⟨rfl, rfl, rfl, rfl, rfl, rfl, rfl⟩
theorem is_37 : gx_isS 37 := ⟨rfl, rfl, rfl, rfl, rfl, rfl, rfl⟩
theorem is_164 : gx_isS 164 := ⟨rfl, rfl, rfl, rfl, rfl, rfl, rfl⟩
theorem is_171 : gx_isS 171 := ⟨rfl, rfl, rfl, rfl, rfl, rfl, rfl⟩
theorem ra_past {j : Nat} (h : j < 15) : ([some 46, some 53, some 60, some 67, some 74, some 81, some 88, some 95, some 102, some 109, some 116, some 123, some 130, some 137, some 144] : List (Option Nat))[j]? = some (some (46 + 7 * j)) := by
  rcases (show j = 0 ∨ j = 1 ∨ j = 2 ∨ j = 3 ∨ j = 4 ∨ j = 5 ∨ j = 6 ∨ j = 7 ∨ j = 8 ∨ j = 9 ∨ j = 10 ∨ j = 11 ∨ j = 12 ∨ j = 13 ∨ j = 14 by omega) with rfl | rfl | rfl | rfl | rfl | rfl | rfl | rfl | rfl | rfl | rfl | rfl | rfl | rfl | rfl <;> rfl
theorem ra_kept {j : Nat} (h : j < 3) : ([some 178, some 185, some 192] : List (Option Nat))[j]? = some (some (178 + 7 * j)) := by
  rcases (show j = 0 ∨ j = 1 ∨ j = 2 by omega) with rfl | rfl | rfl <;> rfl
theorem tb_past {j : Nat} (h : j < 15) : gx_isS (46 + 7 * j) := by
  rcases (show j = 0 ∨ j = 1 ∨ j = 2 ∨ j = 3 ∨ j = 4 ∨ j = 5 ∨ j = 6 ∨ j = 7 ∨ j = 8 ∨ j = 9 ∨ j = 10 ∨ j = 11 ∨ j = 12 ∨ j = 13 ∨ j = 14 by omega) with rfl | rfl | rfl | rfl | rfl | rfl | rfl | rfl | rfl | rfl | rfl | rfl | rfl | rfl | rfl <;> exact ⟨rfl, rfl, rfl, rfl, rfl, rfl, rfl⟩
theorem tb_kept {j : Nat} (h : j < 3) : gx_isS (178 + 7 * j) := by
  rcases (show j = 0 ∨ j = 1 ∨ j = 2 by omega) with rfl | rfl | rfl <;> exact ⟨rfl, rfl, rfl, rfl, rfl, rfl, rfl⟩
