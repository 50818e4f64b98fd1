/-! THE DUEL: what is played out stays as it was played out -/
section DUEL
variable {g : Nat → Int32} {σ : gI} {τ : gJ} {N : Nat}
def tp (pl : Int32) (p : Nat) : Int32 := pl ^^^ ((1 : Int32) <<< (Int32.ofInt (p : Int) &&& 31))
def bst (σ : gI) (val : Int32 → Int32) (pl mx : Int32) : Nat → Int32 → Int32
  | 0, b => b
  | m + 1, b => if σ 201 m = 1 then (if mx = 0 then imin (bst σ val pl mx m b) (val (tp pl m)) else imax (bst σ val pl mx m b) (val (tp pl m))) else bst σ val pl mx m b
def mxf (all : Int32) (l : Nat) : Int32 := if (all - Int32.ofInt ((l : Int) + 1)) - (all - Int32.ofInt ((l : Int) + 1)) / 2 * 2 = 0 then 1 else 0
def vl (σ : gI) (all : Int32) : Nat → Int32 → Int32
  | 0, pl => σ 225 pl.toInt.toNat
  | l + 1, pl => bst σ (vl σ all l) pl (mxf all l) (σ 199 3).toInt.toNat (vl σ all l pl)
def rdy (σ : gI) : Nat → Int32 → Prop
  | 0, pl => 0 ≤ (σ 225 pl.toInt.toNat).toInt
  | l + 1, pl => rdy σ l pl ∧ ∀ p : Nat, (p : Int) < (σ 199 3).toInt → σ 201 p = 1 → rdy σ l (tp pl p)
def MO (σ σ1 : gI) : Prop := σ1 199 3 = σ 199 3 ∧ (∀ k, σ1 201 k = σ 201 k) ∧ ∀ k : Nat, 0 ≤ (σ 225 k).toInt → σ1 225 k = σ 225 k
theorem mo_rf (σ : gI) : MO σ σ := ⟨rfl, fun _ => rfl, fun _ _ => rfl⟩
theorem mo_tr {a b c : gI} (h : MO a b) (k : MO b c) : MO a c := ⟨k.1.trans h.1, fun i => (k.2.1 i).trans (h.2.1 i), fun i hi => (k.2.2 i (by rw [h.2.2 i hi]; exact hi)).trans (h.2.2 i hi)⟩
theorem mo_rdy {σ σ1 : gI} (h : MO σ σ1) : ∀ (l : Nat) (pl : Int32), rdy σ l pl → rdy σ1 l pl
  | 0, pl, hr => by
    show 0 ≤ (σ1 225 pl.toInt.toNat).toInt
    rw [h.2.2 _ hr]
    exact hr
  | l + 1, pl, hr => by
    refine ⟨mo_rdy h l pl hr.1, fun p hp h2 => ?_⟩
    rw [h.1] at hp
    rw [h.2.1] at h2
    exact mo_rdy h l _ (hr.2 p hp h2)
theorem bst_eq {σ σ1 : gI} {val val1 : Int32 → Int32} {pl mx : Int32} {m : Nat} {b : Int32} (h : ∀ k, σ1 201 k = σ 201 k) (hv : ∀ p : Nat, p < m → σ 201 p = 1 → val1 (tp pl p) = val (tp pl p)) : bst σ1 val1 pl mx m b = bst σ val pl mx m b := by
  induction m with
  | zero => rfl
  | succ m ih =>
    simp only [bst]
    rw [h m, ih (fun p hp => hv p (by omega))]
    by_cases c : σ 201 m = 1
    · rw [if_pos c, if_pos c, hv m (by omega) c]
    · rw [if_neg c, if_neg c]
theorem mo_vl {σ σ1 : gI} (h : MO σ σ1) (all : Int32) : ∀ (l : Nat) (pl : Int32), rdy σ l pl → vl σ1 all l pl = vl σ all l pl
  | 0, pl, hr => h.2.2 _ hr
  | l + 1, pl, hr => by
    show bst σ1 (vl σ1 all l) pl (mxf all l) (σ1 199 3).toInt.toNat (vl σ1 all l pl) = bst σ (vl σ all l) pl (mxf all l) (σ 199 3).toInt.toNat (vl σ all l pl)
    rw [h.1, mo_vl h all l pl hr.1]
    exact bst_eq h.2.1 (fun p hp h2 => mo_vl h all l _ (hr.2 p (by omega) h2))
theorem imin_or (a b : Int32) : imin a b = a ∨ imin a b = b := by
  unfold imin
  split
  · exact Or.inr rfl
  · exact Or.inl rfl
theorem imax_or (a b : Int32) : imax a b = a ∨ imax a b = b := by
  unfold imax
  split
  · exact Or.inr rfl
  · exact Or.inl rfl
theorem bst_mem (σ : gI) (val : Int32 → Int32) (pl mx : Int32) (b : Int32) : ∀ m : Nat, bst σ val pl mx m b = b ∨ ∃ p : Nat, p < m ∧ σ 201 p = 1 ∧ bst σ val pl mx m b = val (tp pl p)
  | 0 => Or.inl rfl
  | m + 1 => by
    have ih := bst_mem σ val pl mx b m
    have low : ∀ r : Int32, (r = bst σ val pl mx m b ∨ r = val (tp pl m)) → σ 201 m = 1 → (r = b ∨ ∃ p : Nat, p < m + 1 ∧ σ 201 p = 1 ∧ r = val (tp pl p)) := by
      intro r hr c
      rcases hr with hr | hr
      · rw [hr]
        rcases ih with q | ⟨p, q1, q2, q3⟩
        · exact Or.inl q
        · exact Or.inr ⟨p, by omega, q2, q3⟩
      · exact Or.inr ⟨m, by omega, c, hr⟩
    simp only [bst]
    by_cases c : σ 201 m = 1
    · rw [if_pos c]
      by_cases c2 : mx = 0
      · rw [if_pos c2]; exact low _ (imin_or _ _) c
      · rw [if_neg c2]; exact low _ (imax_or _ _) c
    · rw [if_neg c]
      rcases ih with q | ⟨p, q1, q2, q3⟩
      · exact Or.inl q
      · exact Or.inr ⟨p, by omega, q2, q3⟩
/-- what stands while it is played -/
def DB (σ : gI) (g : Nat → Int32) : Prop := QB 16 σ g ∧ 0 ≤ (σ 199 48).toInt ∧ (σ 199 48).toInt < (g 0).toInt
theorem db_fr {σ1 : gI} (h : DB σ g) (hQ : QB 16 σ1 g) (e : σ1 199 48 = σ 199 48) : DB σ1 g := ⟨hQ, by rw [e]; exact h.2⟩
theorem qb_mo {σ1 : gI} (h : QB 16 σ g) (h1 : QB 16 σ1 g) (f : ∀ k, σ1 201 k = σ 201 k) (m : ∀ k : Nat, 0 ≤ (σ 225 k).toInt → σ1 225 k = σ 225 k) : MO σ σ1 := ⟨h1.2.2.2.2.2.2.2.1.trans h.2.2.2.2.2.2.2.1.symm, f, m⟩
theorem w_playsOut (hN : 4294967296 ≤ N) {x1 : Int32} (h : DB σ g) (h1 : 0 ≤ x1.toInt ∧ x1.toInt < 4096) : okp (fun (r : Int32) σ1 τ1 => DB σ1 g ∧ MO σ σ1 ∧ 0 ≤ (σ1 225 x1.toInt.toNat).toInt ∧ r = σ1 225 x1.toInt.toNat) (B_X12_playsOut_0 N σ τ x1) := by
  unfold B_X12_playsOut_0
  have l0 : (0 : Int32).toInt = 0 := rfl
  refine ok_ck ⟨by omega, by omega⟩ (fun j hj lj => ?_)
  rw [show x1.toInt.toNat = j by omega]
  refine ok_ite (fun c => ?_) (fun c => ok_nm (fun s3 e3 => ?_))
  · rw [fa_le] at c
    exact ok_r ⟨h, mo_rf σ, by omega, rfl⟩
  · rw [fa_le] at c
    have q3 := qb_up h.1 e3 (by omega)
    have f3 : ∀ c k : Nat, ¬ (c = 199 ∧ k = 45) → s3 c k = σ c k := fun c k hh => by rw [e3]; exact up2_ne hh
    have e48 := f3 199 48 (by omega)
    refine ok_bd2 (w_B_X12_sails_0 hN q3 (by rw [e48]; exact h.2)) (fun r4 σ4 τ4 e4 h4 => ?_)
    have f4 := (fr_B_X12_sails_0 N s3 τ _ _ _ _ _ e4).1
    have F4 : ∀ c k : Nat, ¬ (c = 218 ∨ c = 224 ∨ (c = 199 ∧ (k = 34 ∨ k = 45))) → σ4 c k = σ c k := fun c k hh => (f4 c k (by omega)).trans (f3 c k (by omega))
    have fin : ∀ (s7 : gI) (r6 : Int32), s7 = up2 σ4 225 j r6 → 0 ≤ r6.toInt → DB s7 g ∧ MO σ s7 ∧ 0 ≤ (s7 225 j).toInt ∧ s7 225 j = s7 225 j := by
      intro s7 r6 e7 h6
      have q7 := qb_up h4.1 e7 (by omega)
      have f7 : ∀ c k : Nat, ¬ (c = 225 ∧ k = j) → s7 c k = σ4 c k := fun c k hh => by rw [e7]; exact up2_ne hh
      have z7 : s7 225 j = r6 := by rw [e7]; unfold up2; rw [if_pos ⟨rfl, rfl⟩]
      refine ⟨db_fr h q7 ((f7 199 48 (by omega)).trans (F4 199 48 (by omega))), qb_mo h.1 q7 (fun k => (f7 201 k (by omega)).trans (F4 201 k (by omega))) (fun k hk => ?_), by rw [z7]; exact h6, rfl⟩
      by_cases hkj : k = j
      · rw [hkj] at hk; omega
      · rw [f7 225 k (by omega), F4 225 k (by omega)]
    refine ok_ite (fun _ => ?_) (fun _ => ?_)
    · refine ok_bd (w_B_X12_flag_0 hN) (fun r6 σ6 τ6 h6 => ok_nm (fun s7 e7 => ?_))
      obtain ⟨h9, h6⟩ := h6
      subst h9
      exact ok_r (fin s7 r6 e7 (by omega))
    · refine ok_bd (w_B_X12_flag_0 hN) (fun r6 σ6 τ6 h6 => ok_nm (fun s7 e7 => ?_))
      obtain ⟨h9, h6⟩ := h6
      subst h9
      exact ok_r (fin s7 r6 e7 (by omega))
theorem tp_rg {pl : Int32} {p : Nat} (h : 0 ≤ pl.toInt ∧ pl.toInt < 4096) (hp : p < 12) : 0 ≤ (tp pl p).toInt ∧ (tp pl p).toInt < 4096 := by
  have sz : (Int32.size : Int) = 4294967296 := rfl
  have e : (Int32.ofInt (p : Int)).toInt = p := by rw [Int32.toInt_ofInt]; exact Int.bmod_eq_of_le (by omega) (by omega)
  have hs := shl_12 (p := Int32.ofInt (p : Int)) (by omega)
  have hx := xor_rg (a := pl) (b := (1 : Int32) <<< (Int32.ofInt (p : Int) &&& 31)) 12 (by omega) (by omega) hs
  unfold tp
  omega
theorem tp_x {pl x6 : Int32} (h : 0 ≤ x6.toInt) : pl ^^^ ((1 : Int32) <<< (x6 &&& 31)) = tp pl x6.toInt.toNat := by
  unfold tp
  rw [show ((x6.toInt.toNat : Nat) : Int) = x6.toInt by omega, Int32.ofInt_toInt]
theorem w_plays (hN : 4294967296 ≤ N) {all : Int32} : ∀ (D l : Nat) (σ : gI) (τ : gJ) (x1 x2 : Int32), l < D → x2.toInt = l → l ≤ 3 → (0 ≤ x1.toInt ∧ x1.toInt < 4096) → DB σ g → okp (fun (r : Int32) σ1 τ1 => DB σ1 g ∧ MO σ σ1 ∧ rdy σ1 l x1 ∧ r = vl σ1 all l x1) (R_X12_plays N D σ τ x1 x2 all) := by
  intro D
  induction D with
  | zero => intro l σ τ x1 x2 hl; omega
  | succ D ih =>
    intro l σ τ x1 x2 hl h2 h3 h1 h
    show okp _ (B_X12_plays_0 (R_X12_plays N D) N σ τ x1 x2 all)
    unfold B_X12_plays_0
    have l0 : (0 : Int32).toInt = 0 := rfl
    have l1 : (1 : Int32).toInt = 1 := rfl
    refine ok_ite (fun c => ?_) (fun c => ?_)
    · rw [fa_eq] at c
      have lz : l = 0 := by omega
      subst lz
      exact ok_bd (w_playsOut hN h h1) (fun r σ1 τ1 hp => ok_r hp)
    · rw [fa_eq] at c
      obtain ⟨l9, rfl⟩ : ∃ l9, l = l9 + 1 := ⟨l - 1, by omega⟩
      have e2 : x2 = Int32.ofInt ((l9 : Int) + 1) := i32_of (by rw [h2]; omega)
      have es : (x2 - 1).toInt = l9 := by rw [ti_sub (by omega) (by omega), l1]; omega
      have go : ∀ y0 : Int32, y0 = mxf all l9 → okp (fun (r : Int32) σ1 τ1 => DB σ1 g ∧ MO σ σ1 ∧ rdy σ1 (l9 + 1) x1 ∧ r = vl σ1 all (l9 + 1) x1) (B_X12_plays_23 (R_X12_plays N D) N σ τ x1 x2 all y0) := by
        intro y0 hy
        unfold B_X12_plays_23
        refine ok_bd (ih l9 σ τ x1 (x2 - 1) (by omega) es (by omega) h1 h) (fun r1 σ1 τ1 hp => ?_)
        obtain ⟨d1, mo1, rd1, v1⟩ := hp
        suffices H : ∀ (n : Nat) (σ2 : gI) (τ2 : gJ) (x5 x6 : Int32), DB σ2 g → MO σ σ2 → rdy σ2 l9 x1 → (∀ p : Nat, (p : Int) < x6.toInt → σ2 201 p = 1 → rdy σ2 l9 (tp x1 p)) → (0 ≤ x6.toInt ∧ x6.toInt ≤ (g 0).toInt) → x5 = bst σ2 (vl σ2 all l9) x1 y0 x6.toInt.toNat (vl σ2 all l9 x1) → (13 - x6.toInt).toNat < n → okp (fun (r : Int32) σ1 τ1 => DB σ1 g ∧ MO σ σ1 ∧ rdy σ1 (l9 + 1) x1 ∧ r = vl σ1 all (l9 + 1) x1) (H_X12_plays_39 (R_X12_plays N D) N n σ2 τ2 x1 x2 all y0 x5 x6) from H N σ1 τ1 r1 0 d1 mo1 rd1 (fun p hp => absurd hp (by omega)) (by have := qb_rng d1.1; omega) (by rw [v1]; rfl) (by omega)
        intro n
        induction n with
        | zero => intro σ2 τ2 x5 x6 _ _ _ _ _ _ hm; exact absurd hm (Nat.not_lt_zero _)
        | succ n ih2 =>
          intro σ2 τ2 x5 x6 d2 mo2 rd2 R2 h6 h5 hm
          show okp _ (C_X12_plays_39 (R_X12_plays N D) N (H_X12_plays_39 (R_X12_plays N D) N n) σ2 τ2 x1 x2 all y0 x5 x6)
          unfold C_X12_plays_39
          have pl := qb_pl d2.1
          have hg := qb_rng d2.1
          refine ok_ite (fun c6 => ok_r ⟨d2, mo2, ⟨rd2, fun p hp hk => R2 p (by rw [fa_le] at c6; omega) hk⟩, ?_⟩) (fun c6 => ?_)
          · rw [fa_le] at c6
            show x5 = bst σ2 (vl σ2 all l9) x1 (mxf all l9) (σ2 199 3).toInt.toNat (vl σ2 all l9 x1)
            rw [h5, hy, show (σ2 199 3).toInt.toNat = x6.toInt.toNat by omega]
          · rw [fa_le] at c6
            refine ok_ck ⟨by omega, by omega⟩ (fun j hj lj => ?_)
            have ej : x6.toInt.toNat = j := by omega
            refine ok_ite (fun ck => ?_) (fun ck => ok_nm (fun v ev => ?_))
            · rw [tp_x (by omega), ej]
              refine ok_bd (ih l9 σ2 τ2 (tp x1 j) (x2 - 1) (by omega) es (by omega) (tp_rg h1 lj) d2) (fun r5 σ5 τ5 hp => ?_)
              obtain ⟨d5, mo5, rd5, v5⟩ := hp
              have rd5' := mo_rdy mo5 l9 x1 rd2
              have R5 : ∀ p : Nat, (p : Int) < x6.toInt + 1 → σ5 201 p = 1 → rdy σ5 l9 (tp x1 p) := fun p hp hk => by
                by_cases hpj : p = j
                · rw [hpj]; exact rd5
                · exact mo_rdy mo5 l9 _ (R2 p (by omega) (by rw [← mo5.2.1]; exact hk))
              have b5 : bst σ5 (vl σ5 all l9) x1 y0 j (vl σ5 all l9 x1) = x5 := by
                rw [h5, ej, mo_vl mo5 all l9 x1 rd2]
                exact bst_eq mo5.2.1 (fun p hp hk => mo_vl mo5 all l9 _ (R2 p (by omega) hk))
              have ck5 : σ5 201 j = 1 := by rw [mo5.2.1]; exact ck
              refine ok_ite (fun cy => ok_nm (fun v7 e7 => ok_nm (fun v8 e8 => ?_))) (fun cy => ok_nm (fun v7 e7 => ok_nm (fun v8 e8 => ?_)))
              · have eu : v8.toInt = x6.toInt + 1 := by rw [e8, ti_add (by omega) (by omega), l1]
                refine ih2 σ5 τ5 v7 v8 d5 (mo_tr mo2 mo5) rd5' (fun p hp hk => R5 p (by omega) hk) (by omega) ?_ (by omega)
                rw [show v8.toInt.toNat = j + 1 by omega]
                simp only [bst]
                rw [if_pos ck5, if_pos cy, b5, e7, v5]
              · have eu : v8.toInt = x6.toInt + 1 := by rw [e8, ti_add (by omega) (by omega), l1]
                refine ih2 σ5 τ5 v7 v8 d5 (mo_tr mo2 mo5) rd5' (fun p hp hk => R5 p (by omega) hk) (by omega) ?_ (by omega)
                rw [show v8.toInt.toNat = j + 1 by omega]
                simp only [bst]
                rw [if_pos ck5, if_neg cy, b5, e7, v5]
            · have eu : v.toInt = x6.toInt + 1 := by rw [ev, ti_add (by omega) (by omega), l1]
              refine ih2 σ2 τ2 x5 v d2 mo2 rd2 (fun p hp hk => ?_) (by omega) ?_ (by omega)
              · by_cases hpj : p = j
                · rw [hpj] at hk; exact absurd hk ck
                · exact R2 p (by omega) hk
              · rw [show v.toInt.toNat = j + 1 by omega]
                simp only [bst]
                rw [if_neg ck, h5, ej]
      refine ok_ite (fun cm => go 1 ?_) (fun cm => go 0 ?_)
      · unfold mxf; rw [← e2, if_pos cm]
      · unfold mxf; rw [← e2, if_neg cm]
theorem w_duel170 (hN : 4294967296 ≤ N) {x7 x8 : Int32} (h : QB 16 σ g) : okp (fun (r : Int32) σ1 τ1 => QB 16 σ1 g) (B_X12_duel_170 N σ τ x7 x8) := by
  unfold B_X12_duel_170
  exact ok_nm (fun s1 e1 => ok_bd (w_B_X12_enters_0 hN (qb_r0 h e1) (by omega)) (fun _ σ2 τ2 h2 => ok_r (qb_w h2.1 (by omega))))
theorem w_B_X12_duel_0 (hN : 4294967296 ≤ N) {x1 x2 x3 x4 x5 : Int32} (hQ : QB 16 σ g) : okp (fun (a : Int32) σ1 τ1 => QB 16 σ1 g) (B_X12_duel_0 N σ τ x1 x2 x3 x4 x5) := by
  unfold B_X12_duel_0
  have hg := qb_rng hQ
  have l0 : (0 : Int32).toInt = 0 := rfl
  have l1 : (1 : Int32).toInt = 1 := rfl
  have l4096 : (4096 : Int32).toInt = 4096 := rfl
  refine ok_nm (fun s1 e1 => ?_)
  have q1 := qb_up hQ e1 (by omega)
  refine ok_bd (w_B_X12_canSail_0 hN q1) (fun r2 σ2 τ2 h2 => ?_)
  obtain ⟨h9, h2⟩ := h2
  subst h9
  refine ok_ite (fun _ => ok_r q1) (fun c2 => ?_)
  rw [fa_eq] at c2
  refine ok_bd (w_B_X12_in_0 hN) (fun r4 σ4 τ4 h4 => ?_)
  obtain ⟨h9, h4⟩ := h4
  subst h9
  have k4 := h4.2
  simp only [Int32.toInt_toInt64, show (0 : Int64).toInt = 0 from rfl, show (3 : Int64).toInt = 3 from rfl] at k4
  refine ok_ite (fun _ => ok_r q1) (fun c4 => ?_)
  rw [fa_eq] at c4
  refine ok_bd (w_B_X12_thinksNow_0 hN q1) (fun _ σ6 τ6 q6 => ok_nm (fun s7 e7 => ok_nm (fun s8 e8 => ok_nm (fun s9 e9 => ok_nm (fun s10 e10 => ?_)))))
  have q10 := qb_up (qb_up (qb_up (qb_up q6 e7 (by omega)) e8 (by omega)) e9 (by omega)) e10 (by omega)
  have e48 : s10 199 48 = x1 := by rw [e10, up2_ne (by omega), e9, up2_ne (by omega), e8, up2_ne (by omega), e7]; unfold up2; rw [if_pos ⟨rfl, rfl⟩]
  have d10 : DB s10 g := ⟨q10, by rw [e48]; omega⟩
  suffices H : ∀ (n : Nat) (σ : gI) (τ : gJ) (x6 : Int32), DB σ g → (0 ≤ x6.toInt ∧ x6.toInt ≤ 4096) → (4097 - x6.toInt).toNat < n → okp (fun (a : Int32) σ1 τ1 => QB 16 σ1 g) (H_X12_duel_60 N n σ τ x5 x6) from H N s10 _ 0 d10 (by omega) (by omega)
  intro n
  induction n with
  | zero => intro σ τ x6 _ _ hm; exact absurd hm (Nat.not_lt_zero _)
  | succ n ih =>
    intro σ τ x6 d h6 hm
    show okp _ (C_X12_duel_60 N (H_X12_duel_60 N n) σ τ x5 x6)
    unfold C_X12_duel_60
    refine ok_ite (fun _ => ok_nm (fun v2 e2 => ?_)) (fun c6 => ?_)
    · have pP := qb_P d.1
      have hv2 : 0 ≤ v2.toInt ∧ v2.toInt < 4096 := by rw [e2]; omega
      refine ok_bd (w_plays hN 5 x5.toInt.toNat σ τ v2 x5 (by omega) (by omega) (by omega) hv2 d) (fun r3 σ3 τ3 h3 => ?_)
      obtain ⟨d3, mo3, rd3, v3⟩ := h3
      refine ok_ite (fun _ => w_duel170 hN d3.1) (fun c5 => ?_)
      rw [fa_le] at c5
      obtain ⟨l9, hl9⟩ : ∃ l9, x5.toInt.toNat = l9 + 1 := ⟨x5.toInt.toNat - 1, by omega⟩
      rw [hl9] at rd3 v3
      have es : (x5 - 1).toInt = l9 := by rw [ti_sub (by omega) (by omega), l1]; omega
      refine ok_bd (w_plays hN 5 l9 σ3 τ3 v2 (x5 - 1) (by omega) es (by omega) hv2 d3) (fun r5 σ5 τ5 h5 => ?_)
      obtain ⟨d5, mo5, rd5, v5⟩ := h5
      refine ok_ite (fun _ => w_duel170 hN d5.1) (fun cne => ?_)
      have pl3 := qb_pl d3.1
      have hg3 := qb_rng d3.1
      -- somebody gives what was won
      have ex : ∃ p : Nat, (p : Int) < (g 0).toInt ∧ σ3 201 p = 1 ∧ r3 = vl σ3 x5 l9 (tp v2 p) := by
        rcases bst_mem σ3 (vl σ3 x5 l9) v2 (mxf x5 l9) (vl σ3 x5 l9 v2) (σ3 199 3).toInt.toNat with q | ⟨p, q1, q2, q3⟩
        · exfalso
          apply cne
          rw [v5, v3, mo_vl mo5 x5 l9 v2 rd3.1]
          exact q.symm
        · exact ⟨p, by omega, q2, by rw [v3]; exact q3⟩
      obtain ⟨p9, hp9, hk9, hv9⟩ := ex
      suffices H2 : ∀ (n2 : Nat) (σ : gI) (τ : gJ) (x8 : Int32), DB σ g → MO σ3 σ → (0 ≤ x8.toInt ∧ x8.toInt ≤ p9) → (13 - x8.toInt).toNat < n2 → okp (fun (a : Int32) σ1 τ1 => QB 16 σ1 g) (H_X12_duel_131 N n2 σ τ x5 v2 r3 x8) from H2 N σ5 τ5 0 d5 mo5 (by omega) (by omega)
      intro n2
      induction n2 with
      | zero => intro σ τ x8 _ _ _ hm; exact absurd hm (Nat.not_lt_zero _)
      | succ n2 ih2 =>
        intro σ τ x8 d8 mo8 h8 hm2
        show okp _ (C_X12_duel_131 N (H_X12_duel_131 N n2) σ τ x5 v2 r3 x8)
        unfold C_X12_duel_131
        refine ok_ck ⟨by omega, by omega⟩ (fun j hj lj => ?_)
        have ej : x8.toInt.toNat = j := by omega
        refine ok_ite (fun ck => ?_) (fun ck => ok_nm (fun v ev => ?_))
        · rw [tp_x (by omega), ej]
          refine ok_bd (w_plays hN 5 l9 σ τ (tp v2 j) (x5 - 1) (by omega) es (by omega) (tp_rg hv2 lj) d8) (fun r4 σ4 τ4 h4 => ?_)
          obtain ⟨d4, mo4, rd4, v4⟩ := h4
          refine ok_ite (fun _ => w_duel170 hN d4.1) (fun cn => ok_nm (fun v ev => ?_))
          have eu : v.toInt = x8.toInt + 1 := by rw [ev, ti_add (by omega) (by omega), l1]
          have hne : j ≠ p9 := fun q => cn (by
            have ck3 : σ3 201 j = 1 := by rw [q]; exact hk9
            rw [v4, hv9, ← q]
            exact mo_vl (mo_tr mo8 mo4) x5 l9 _ (rd3.2 j (by omega) ck3))
          exact ih2 σ4 τ4 v d4 (mo_tr mo8 mo4) (by omega) (by omega)
        · have eu : v.toInt = x8.toInt + 1 := by rw [ev, ti_add (by omega) (by omega), l1]
          have hne : j ≠ p9 := fun q => ck (by rw [mo8.2.1, q]; exact hk9)
          exact ih2 σ τ v d8 mo8 (by omega) (by omega)
    · rw [fa_le] at c6
      refine ok_ck ⟨by omega, by omega⟩ (fun j hj lj => ok_nm (fun s8 e8 => ok_nm (fun v ev => ?_)))
      have eu : v.toInt = x6.toInt + 1 := by rw [ev, ti_add (by omega) (by omega), l1]
      exact ih s8 τ v (db_fr d (qb_up d.1 e8 (by omega)) (by rw [e8]; exact up2_ne (by omega))) (by omega) (by omega)
end DUEL
