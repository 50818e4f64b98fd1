/-! THE REFERENCE'S BOAT (row 224, thing 0) -/
def wtr (L : Int32) (d : Nat → Int32) (x : Int32) : Int32 := if L = 0 then 1 else d ((x / 10) - (x / 10) / L * L).toNatClampNeg
def Fq (pl t fl : Int32) (s : SB) (w : Int32) : Int32 := if w = 0 then (pl >>> (s.1 &&& 31)) &&& 1 else if w = 1 then t else if w = 2 then fl else if w = 3 then 0 else if w = 4 then s.2.1 else if w = 5 then s.2.2 else if w = 6 then 0 else s.1
/-- the boat's row -/
def BR (σ : gI) (pl t : Int32) (how : Int32) (s : SB) : Prop := σ 224 0 = s.1 ∧ σ 224 1 = s.2.1 ∧ σ 224 2 = s.2.2 ∧ σ 224 4 = how ∧ σ 224 42 = pl ∧ σ 224 43 = t ∧ σ 224 44 = 1
section SIM34R
variable {N : Nat} {σ σ1 : gI} {τ τ1 : gJ} {r : Int32}
theorem x_waterIn {x1 : Int32} (h31 : σ 199 31 = 0) (h : B_X12_waterIn_0 N σ τ x1 = some (r, σ1, τ1)) : σ = σ1 ∧ r = wtr (σ 199 4) (σ 205) x1 := by
  have f := fr_B_X12_waterIn_0 N σ τ x1 h
  refine ⟨funext fun c => funext fun k => (f.1 c k id).symm, ?_⟩
  unfold B_X12_waterIn_0 at h
  obtain ⟨v1, e1, h⟩ := nm_some h
  unfold wtr
  by_cases c : σ 199 4 = 0
  · rw [if_pos c] at h ⊢
    exact x_wi27 h31 h
  · rw [if_neg c] at h ⊢
    obtain ⟨-, h⟩ := dz_some h
    obtain ⟨j, ej, -, h⟩ := ck_some h
    rw [e1] at ej
    rw [ej]
    exact x_wi27 h31 h
theorem x_others {pl t how : Int32} {s : SB} (hB : BR σ pl t how s) (h : B_X12_othersAt_0 N 224 σ τ 0 = some (r, σ1, τ1)) : σ = σ1 ∧ r = 0 := by
  have f := fr_B_X12_othersAt_0 N 224 σ τ 0 h
  refine ⟨funext fun c => funext fun k => (f.1 c k (by intro z; exact z)).symm, ?_⟩
  have e44 := hB.2.2.2.2.2.2
  unfold B_X12_othersAt_0 at h
  have G : ∀ (n : Nat) (s : gI) (t : gJ) (x2 x3 r : Int32) (σ1 : gI) (τ1 : gJ), H_X12_othersAt_4 N 224 n s t 0 x2 x3 = some (r, σ1, τ1) → s 224 44 = 1 → x2 = 0 → (x3 = 0 ∨ x3 = 1) → r = 0 := by
    intro n
    induction n with
    | zero => intro s t x2 x3 r σ1 τ1 h; cases h
    | succ n ih =>
      intro s t x2 x3 r σ1 τ1 h e e2 h3
      have h : C_X12_othersAt_4 N 224 (H_X12_othersAt_4 N 224 n) s t 0 x2 x3 = some (r, σ1, τ1) := h
      unfold C_X12_othersAt_4 at h
      rw [e] at h
      rcases h3 with rfl | rfl
      · rw [if_neg (by decide), if_pos rfl] at h
        obtain ⟨r3, s3, t3, q3, h⟩ := bd_some h
        have k3 : s = s3 ∧ r3 = 0 := by
          unfold B_X12_flag_0 at q3
          rw [if_pos (show (0 : Int32) = 0 from rfl)] at q3
          obtain ⟨a, b, -⟩ := sm_inj q3
          exact ⟨b, a.symm⟩
        obtain ⟨v4, e4, h⟩ := nm_some h
        obtain ⟨v5, e5, h⟩ := nm_some h
        exact ih s3 t3 v4 v5 r σ1 τ1 h (by rw [← k3.1]; exact e) (by rw [e4, e2, k3.2]; decide) (Or.inr (by rw [e5]; decide))
      · rw [if_pos (by decide)] at h
        rw [← (sm_inj h).1]
        exact e2
  exact G N σ τ 0 0 r σ1 τ1 h e44 rfl (Or.inl rfl)
theorem x_asked {pl t how : Int32} {s : SB} (h31 : σ 199 31 = 0) (hB : BR σ pl t how s) {w : Int32} (hw : 0 ≤ w.toInt ∧ w.toInt ≤ 7) (h : B_X12_askedOf_0 N 224 σ τ 0 w = some (r, σ1, τ1)) : σ = σ1 ∧ r = Fq pl t (wtr (σ 199 4) (σ 205) t) s w := by
  obtain ⟨b0, b1, b2, -, b42, b43, -⟩ := id hB
  have c0 : ((0 : Int32)).toNatClampNeg = 0 := rfl
  have z7 : (7 : Int32) * 0 = 0 := rfl
  unfold B_X12_askedOf_0 at h
  obtain ⟨v1, e1, h⟩ := nm_some h
  have ev : v1 = 0 := e1
  unfold Fq
  by_cases d0 : w = 0
  · rw [if_pos d0] at h ⊢
    obtain ⟨j, ej, -, h⟩ := ck_some h
    have hj : j = 0 := by rw [← ej, ev]; rfl
    rw [hj, b0, b42] at h
    obtain ⟨rfl, w, -⟩ := sm_inj h
    exact ⟨w, rfl⟩
  rw [if_neg d0] at h ⊢
  by_cases d1 : w = 1
  · rw [if_pos d1] at h ⊢
    rw [b43] at h
    obtain ⟨rfl, w, -⟩ := sm_inj h
    exact ⟨w, rfl⟩
  rw [if_neg d1] at h ⊢
  by_cases d2 : w = 2
  · rw [if_pos d2] at h ⊢
    obtain ⟨r6, s6, t6, q6, h⟩ := bd_some h
    rw [b43] at q6
    obtain ⟨g1, g2⟩ := x_waterIn h31 q6
    obtain ⟨rfl, w, -⟩ := sm_inj h
    exact ⟨g1.trans w, g2⟩
  rw [if_neg d2] at h ⊢
  by_cases d3 : w = 3
  · rw [if_pos d3] at h ⊢
    obtain ⟨rfl, w, -⟩ := sm_inj h
    exact ⟨w, rfl⟩
  rw [if_neg d3] at h ⊢
  by_cases d4 : w = 4
  · rw [if_pos d4] at h ⊢
    obtain ⟨j, ej, -, h⟩ := ck_some h
    have hj : j = 1 := by rw [← ej, ev]; rfl
    rw [hj, b1] at h
    obtain ⟨rfl, w, -⟩ := sm_inj h
    exact ⟨w, rfl⟩
  rw [if_neg d4] at h ⊢
  by_cases d5 : w = 5
  · rw [if_pos d5] at h ⊢
    obtain ⟨j, ej, -, h⟩ := ck_some h
    have hj : j = 2 := by rw [← ej, ev]; rfl
    rw [hj, b2] at h
    obtain ⟨rfl, w, -⟩ := sm_inj h
    exact ⟨w, rfl⟩
  rw [if_neg d5] at h ⊢
  by_cases d6 : w = 6
  · rw [if_pos d6] at h ⊢
    obtain ⟨r13, s13, t13, q13, h⟩ := bd_some h
    obtain ⟨g1, g2⟩ := x_others hB q13
    obtain ⟨rfl, w, -⟩ := sm_inj h
    exact ⟨g1.trans w, g2⟩
  rw [if_neg d6] at h ⊢
  obtain ⟨j, ej, -, h⟩ := ck_some h
  have hj : j = 0 := by rw [← ej, ev]; rfl
  rw [hj, b0] at h
  obtain ⟨rfl, w, -⟩ := sm_inj h
  exact ⟨w, rfl⟩
/-- the value of the rule at a boat -/
def RVL (c : Nat → Int32) (L : Int) (pl t fl : Int32) (s : SB) : Int32 := if L = 0 then (pl >>> (s.1 &&& 31)) &&& 1 else sa (Fq pl t fl s) c L.toNat 0
theorem x_ruled0 {pl t how : Int32} {s : SB} {c : Nat → Int32} {L : Int} (h31 : σ 199 31 = 0) (hB : BR σ pl t how s) (hL : 0 ≤ L ∧ L ≤ 80) (hW : CW c L) (e28 : (σ 199 28).toInt = L) (e216 : ∀ k : Nat, (k : Int) < L → σ 216 k = c k) (h : B_X12_ruled_0 N 224 σ τ 0 = some (r, σ1, τ1)) : r = RVL c L pl t (wtr (σ 199 4) (σ 205) t) s ∧ ∀ c k : Nat, ¬ (c = 218) → σ1 c k = σ c k := by
  have l0 : (0 : Int32).toInt = 0 := rfl
  unfold B_X12_ruled_0 at h
  unfold RVL
  by_cases c0 : σ 199 28 = 0
  · rw [if_pos c0] at h
    rw [fa_eq, l0] at c0
    rw [if_pos (by omega)]
    obtain ⟨j, ej, -, h⟩ := ck_some h
    have hj : j = 0 := by rw [← ej]; rfl
    rw [hj, hB.1, hB.2.2.2.2.1] at h
    obtain ⟨rfl, rfl, -⟩ := sm_inj h
    exact ⟨rfl, fun _ _ _ => rfl⟩
  · rw [if_neg c0] at h
    rw [fa_eq, l0] at c0
    rw [if_neg (by omega)]
    refine x_ruled (F := Fq pl t (wtr (σ 199 4) (σ 205) t) s) (σ := σ) (by decide) hL hW (fun s2 t2 w v s3 t3 f hw q => ?_) N σ τ 0 0 r σ1 τ1 h (fun _ _ _ => rfl) e28 e216 (by omega) (by omega) rfl (fun j hj => absurd hj (by omega))
    have B2 : BR s2 pl t how s := by
      obtain ⟨b0, b1, b2, b4, b42, b43, b44⟩ := hB
      exact ⟨by rw [f 224 0 (by omega)]; exact b0, by rw [f 224 1 (by omega)]; exact b1, by rw [f 224 2 (by omega)]; exact b2, by rw [f 224 4 (by omega)]; exact b4, by rw [f 224 42 (by omega)]; exact b42, by rw [f 224 43 (by omega)]; exact b43, by rw [f 224 44 (by omega)]; exact b44⟩
    have q := x_asked (by rw [f 199 31 (by omega)]; exact h31) B2 hw q
    rw [f 199 4 (by omega), show s2 205 = σ 205 from funext fun k => f 205 k (by omega)] at q
    exact q
end SIM34R
