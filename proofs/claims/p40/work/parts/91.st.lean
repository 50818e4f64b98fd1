/-! WHAT THE LAW'S START GIVES -/
def gs_sw (q : String × Nat × String × List Int32) : List Cond :=
  [Cond.exactly (Term.string q.1 q.2.1) "java/lang/String", Cond.eq (.field (Term.string q.1 q.2.1) "java/lang/String" "coder" "B") (.int 0), Cond.arrayOf (.field (Term.string q.1 q.2.1) "java/lang/String" "value" "[B") .byte, Cond.eq (.length (.field (Term.string q.1 q.2.1) "java/lang/String" "value" "[B")) (.int (Int32.ofNat q.2.2.2.length))] ++
  (List.range q.2.2.2.length).map (fun j => Cond.eq (.elem (.field (Term.string q.1 q.2.1) "java/lang/String" "value" "[B") (.int (Int32.ofNat j))) (.int (q.2.2.2.getD j 0)))
def gs_F : List Cond := flatC (Jvm.Cond.and given_1 narrow_1)
theorem gs_pos {α : Type} {ws F : List α} (ps : List Nat) (h : ws = ps.filterMap (fun i => F[i]?)) : ∀ w ∈ ws, w ∈ F := by
  intro w hw
  rw [h] at hw
  obtain ⟨i, -, hi⟩ := List.mem_filterMap.mp hw
  exact List.mem_of_getElem? hi
theorem gs_sin0 : gx_ss.flatMap gs_sw = ([25, 26, 27, 28, 29, 30, 31, 32, 33, 34, 35, 36, 37, 38, 39, 40, 41, 42, 43, 44, 45, 46, 47, 49, 50, 51, 52, 53, 54, 55, 56, 57, 58, 59, 62, 63, 64, 65, 66, 67, 68, 69, 73, 74, 75, 76, 77, 78, 79, 80, 81, 82, 83, 84, 85, 86, 87, 88, 89, 94, 95, 96, 97, 98, 99, 100, 101, 102, 103, 104, 105, 106, 107, 108, 109, 110, 111, 112, 113, 114, 115, 116, 117, 118, 119, 120, 121, 122, 123, 129, 130, 131, 132, 133, 134, 135, 136, 137, 138, 139, 140, 141, 142, 143, 144, 145, 152, 153, 154, 155, 156, 157, 158, 159, 160, 161, 162, 163, 164, 165, 166, 167, 168, 169, 170, 171, 172, 173, 174, 175, 176, 177, 178, 179, 180, 181, 189, 190, 191, 192, 193, 194, 195, 196, 197, 198, 199, 200, 201, 202, 203, 204, 205, 206, 207, 208, 209, 210, 211, 212, 213, 214, 215, 216, 217, 218, 227, 228, 229, 230, 231, 232, 233, 234, 235, 236, 237, 247, 248, 249, 250, 251, 252, 253, 254, 255, 256, 257, 258, 259, 260, 261, 262, 273, 274, 275, 276, 277, 278, 279, 280, 281, 282, 283, 284, 285, 286, 298, 299, 300, 301, 314, 315, 316, 317, 331, 332, 333, 334, 335, 336, 337, 338, 353, 354, 355, 356, 357, 358, 359, 360, 361, 362, 363, 364, 380, 381, 382, 383, 384, 385, 386, 403, 404, 405, 406, 407, 408, 426, 427, 428, 429, 430, 431, 450, 451, 452, 453, 454, 455, 456, 457, 477, 478, 479, 480, 481, 482, 483, 484, 485, 486, 487, 488, 489] : List Nat).filterMap (fun i => gs_F[i]?) := by decide +kernel
theorem gs_sin : ∀ q ∈ gx_ss, ∀ w ∈ gs_sw q, w ∈ flatC (Jvm.Cond.and given_1 narrow_1) := fun q hq w hw => gs_pos _ gs_sin0 w (List.mem_flatMap.mpr ⟨q, hq, hw⟩)
theorem gs_srf0 : gx_ss.map (fun q => Cond.stringRef q.1 q.2.1 q.2.2.1) = ([539, 730, 751, 948, 1346, 1377, 1385, 1395, 1403, 1619, 1656, 1657, 1670, 1711, 1750, 1777, 1778, 1779, 1780, 1913, 1914] : List Nat).filterMap (fun i => lw_tbl[i]?) := by decide +kernel
theorem gs_srf : ∀ q ∈ gx_ss, Cond.stringRef q.1 q.2.1 q.2.2.1 ∈ lw_tbl := fun q hq => gs_pos _ gs_srf0 _ (List.mem_map.mpr ⟨q, hq, rfl⟩)
theorem gs_slen : ∀ q ∈ gx_ss, q.2.2.2.length < 2 ^ 31 := by decide +kernel
theorem gs_str {args : Array Value} {s : State} {A : Nat → Prop} (hts : ∀ w ∈ lw_tbl, w.before args s = true) (hgv : (Jvm.Cond.and given_1 narrow_1).before args s = true) (hA : ∀ a : Nat, a < s.heap.size → ¬ A a) (q : String × Nat × String × List Int32) (hq : q ∈ gx_ss) :
    ∃ aK aV : Nat, vk_S 1 [q.2.2.2.length] [q.2.2.2] (fun _ => aK) (fun _ => aV) A s s.heap ∧ vk_R q.1 q.2.1 q.2.2.1 aK s := by
  have hf := flat_of_before _ hgv
  have hw : ∀ w ∈ gs_sw q, w.before args s = true := fun w h => hf w (gs_sin q hq w h)
  have h0 : ∀ i : Nat, i < 1 → i = 0 := fun i h => by omega
  obtain ⟨adK, adV, h1, h2⟩ := vk_Sof (args := args) (s := s) (N := 1) (tm := fun _ => Term.string q.1 q.2.1) (len := [q.2.2.2.length]) (byt := [q.2.2.2]) (A := A)
    (fun i hi => by rw [h0 i hi]; exact gs_slen q hq) (fun i hi => hw _ (by simp [gs_sw])) (fun i hi => hw _ (by simp [gs_sw])) (fun i hi => hw _ (by simp [gs_sw])) (fun i hi => by rw [h0 i hi]; exact hw _ (by simp [gs_sw]))
    (fun i hi j hj => by
      rw [h0 i hi] at hj ⊢
      refine hw _ (List.mem_append_right _ (List.mem_map.mpr ⟨j, List.mem_range.mpr hj, rfl⟩)))
    (fun i j hi hj hne => absurd ((h0 i hi).trans (h0 j hj).symm) hne) hA
  have e0 : ∀ i : Nat, i < 1 → adK i = adK 0 ∧ adV i = adV 0 := fun i hi => by rw [h0 i hi]; exact ⟨rfl, rfl⟩
  refine ⟨adK 0, adV 0, ?_, ?_⟩
  · refine ⟨fun i hi => ?_, fun i j hi hj _ => (h0 i hi).trans (h0 j hj).symm⟩
    have h3 := h1.1 i hi
    rw [(e0 i hi).1, (e0 i hi).2] at h3
    exact h3
  · exact vk_R.of (A := args) (hts _ (gs_srf q hq)) (h2 0 (by decide))
def gs_need : List Cond := [Cond.laysStatic "java/lang/String" "COMPACT_STRINGS" "Z", Cond.initialized "java/lang/String", Cond.laysStatic Bundle.tN "UNASSIGNED_STACK" Bundle.steD, Cond.laysStatic Bundle.tN "SUPPRESSED_SENTINEL" Bundle.listD, Cond.initialized Bundle.tN, Cond.arrayClass .int, Cond.arrayClass .long, Cond.arrayClass .boolean, Cond.arrayOver (.object "DownTheGutter$Scene"), Cond.declares (Bundle.initS "java/lang/RuntimeException"), Cond.declares (Bundle.initS "java/lang/Exception"), Cond.declares (Bundle.initS Bundle.tN), Cond.castable gt_X gt_X, Cond.laysStatic "jdk/internal/util/Preconditions" "SIOOBE_FORMATTER" "Ljava/util/function/BiFunction;", Cond.initialized "jdk/internal/util/Preconditions"]
theorem gs_need_in : ∀ w ∈ gs_need, w ∈ lw_tbl := gs_pos ([561, 103, 1334, 1336, 110, 141, 364, 446, 317, 1311, 1313, 1315, 1309, 602, 106] : List Nat) (by decide +kernel)
theorem gs_nest_in : ∀ w ∈ gx_nest, w ∈ lw_tbl := gs_pos ([125, 144, 183, 238, 260, 318, 332, 352, 415, 1260] : List Nat) (by decide +kernel)
def gs_given : List Cond := [Cond.eq (.static "java/lang/String" "COMPACT_STRINGS" "Z") (.int 1), Cond.isRef (.static Bundle.tN "UNASSIGNED_STACK" Bundle.steD), Cond.isRef (.static Bundle.tN "SUPPRESSED_SENTINEL" Bundle.listD), Cond.isRef (.static "jdk/internal/util/Preconditions" "SIOOBE_FORMATTER" "Ljava/util/function/BiFunction;")]
theorem gs_given_in : ∀ w ∈ gs_given, w ∈ flatC (Jvm.Cond.and given_1 narrow_1) := gs_pos (F := gs_F) ([4, 9, 10, 5] : List Nat) (by decide +kernel)
theorem gs_cls1 : vwCl.flatMap (fun q => u_ws q.1 q.2.1 q.2.2) = ([1699, 1701, 1703, 1705, 341, 343, 345, 347, 387, 389, 391, 393, 395, 397, 399, 401, 403, 405, 247, 249, 251, 253, 255, 323, 325, 327, 359, 361, 213, 215, 217, 219, 221, 223, 225, 227, 229, 231, 233, 287, 289, 291, 293, 295, 297, 299, 301, 303, 305, 307, 134, 136, 138, 162, 164, 166, 168, 170, 172, 174, 176, 178, 427, 429, 431, 433, 435, 437, 439, 441, 443, 189, 191, 463, 465, 467, 469, 471, 473, 475, 477, 479, 481, 483, 485, 487, 489, 491, 493, 1474, 1476, 1478, 1480, 1482, 1484, 1486, 1488, 1490, 1492, 1494, 1496, 1498, 1500, 1502, 1504, 1506, 1508, 1510, 1512, 1514, 1516, 1518, 1520, 1522, 1524, 1526, 1528, 1530, 1532, 1534, 1536, 1538, 1540, 1542, 1544, 1546, 1548, 1550, 1552, 1554, 1556, 1558, 1560, 1562, 1564, 1566, 1568, 1570, 1572, 1574, 1576, 1578, 1580, 1582, 1584, 1586, 1588, 1590, 1592] : List Nat).filterMap (fun i => lw_tbl[i]?) := by decide +kernel
theorem gs_cls2 : vwCl.map (fun q => Cond.instantiable q.1 q.2.2) = ([1672, 331, 366, 237, 311, 351, 195, 259, 124, 143, 409, 182, 116, 1409] : List Nat).filterMap (fun i => lw_tbl[i]?) := by decide +kernel
theorem gs_cls : ∀ q ∈ vwCl, (∀ w ∈ u_ws q.1 q.2.1 q.2.2, w ∈ lw_tbl) ∧ Cond.instantiable q.1 q.2.2 ∈ lw_tbl := fun q hq => ⟨fun w hw => gs_pos _ gs_cls1 w (List.mem_flatMap.mpr ⟨q, hq, hw⟩), gs_pos _ gs_cls2 _ (List.mem_map.mpr ⟨q, hq, rfl⟩)⟩
theorem gs_pick {α β : Type} {P : Nat → α → β → Prop} [Inhabited α] [Inhabited β] (h : ∀ i, ∃ a b, P i a b) : ∃ (f : Nat → α) (g : Nat → β), ∀ i, P i (f i) (g i) :=
  ⟨fun i => Classical.choose (h i), fun i => Classical.choose (Classical.choose_spec (h i)), fun i => Classical.choose_spec (Classical.choose_spec (h i))⟩
theorem gs_arr {args : Array Value} {s : State} {ty : FieldType} (h : (Cond.arrayClass ty).before args s = true) (hp : ∀ cA : ClassId, s.vm.findClass ("[" ++ ty.toString) = some cA → va_RA s cA ty) : ∃ cA : ClassId, ArrOfT s cA ty ∧ va_RA s cA ty := by
  obtain ⟨cA, k, comp, h1, h2, h3⟩ := Cond.arrayClass_spec h
  exact ⟨cA, fun n z => ⟨fun k h => (by cases h), k, h2, comp, h3⟩, hp cA h1⟩
theorem gs_know {args : Array Value} {s : State} (hts : ∀ w ∈ lw_tbl, w.before args s = true) (hgv : (Jvm.Cond.and given_1 narrow_1).before args s = true) : ∃ E : gE, E.2.2 = s.heap.size ∧ gx_K E s ∧ gx_N s ∧ gx_T s := by
  have hn : ∀ w ∈ gs_need, w.before args s = true := fun w h => hts w (gs_need_in w h)
  have hg : ∀ w ∈ gs_given, w.before args s = true := fun w h => flat_of_before _ hgv w (gs_given_in w h)
  have hA : ∀ a : Nat, a < s.heap.size → ¬ (fun q => s.heap.size ≤ q) a := fun a h1 h2 => absurd h1 (Nat.not_lt.mpr h2)
  obtain ⟨D1, D2, hD⟩ : ∃ (D1 : Nat → ClassId) (D2 : Nat → Nat → Nat), ∀ i, ∀ q, vwCl[i]? = some q → u_Kn s q.1 q.2.1 q.2.2 (D1 i) (D2 i) := by
    refine gs_pick (P := fun i a b => ∀ q, vwCl[i]? = some q → u_Kn s q.1 q.2.1 q.2.2 a b) (fun i => ?_)
    cases hi : vwCl[i]? with
    | none => exact ⟨default, fun _ => 0, fun q h => by cases h⟩
    | some q =>
      have hc := gs_cls q (List.mem_of_getElem? hi)
      obtain ⟨cC, iS, hk⟩ := u_known (T := q.2.1) (N := q.2.2) hts hc.1 (hts _ hc.2)
      exact ⟨cC, iS, fun q9 h => by cases h; exact hk⟩
  obtain ⟨adK, adV, hS⟩ : ∃ (adK adV : Nat → Nat), ∀ i, ∀ q, gx_ss[i]? = some q → vk_S 1 [q.2.2.2.length] [q.2.2.2] (fun _ => adK i) (fun _ => adV i) (fun q => s.heap.size ≤ q) s s.heap ∧ vk_R q.1 q.2.1 q.2.2.1 (adK i) s := by
    refine gs_pick (P := fun i a b => ∀ q, gx_ss[i]? = some q → vk_S 1 [q.2.2.2.length] [q.2.2.2] (fun _ => a) (fun _ => b) (fun q => s.heap.size ≤ q) s s.heap ∧ vk_R q.1 q.2.1 q.2.2.1 a s) (fun i => ?_)
    cases hi : gx_ss[i]? with
    | none => exact ⟨0, 0, fun q h => by cases h⟩
    | some q =>
      obtain ⟨aK, aV, h1, h2⟩ := gs_str (A := fun q => s.heap.size ≤ q) hts hgv hA q (List.mem_of_getElem? hi)
      exact ⟨aK, aV, fun q9 h => by cases h; exact ⟨h1, h2⟩⟩
  obtain ⟨cI, aI, rI⟩ := gs_arr (ty := .int) (hn _ (by simp [gs_need])) (fun _ h => h)
  obtain ⟨cJ, aJ, rJ⟩ := gs_arr (ty := .long) (hn _ (by simp [gs_need])) (fun _ h => h)
  obtain ⟨cZ, aZ, rZ⟩ := gs_arr (ty := .boolean) (hn _ (by simp [gs_need])) (fun _ h => h)
  have hov : (Cond.arrayOver (.object "DownTheGutter$Scene")).before args s = true := hn _ (by simp [gs_need])
  obtain ⟨comp, cS, kS, o1, o2, o3, o4, o5⟩ := Cond.arrayOver_spec hov
  have aS : ArrOfT s cS (.object "DownTheGutter$Scene") := fun n z => ⟨fun k h => (by cases h), kS, o3, comp, o4⟩
  have rS : va_RA s cS (.object "DownTheGutter$Scene") := ⟨kS, comp, o3, o4, o1, o5⟩
  refine ⟨(((D1, D2), adK, adV), (fun k => if k = 0 then cI else if k = 1 then cJ else if k = 2 then cZ else cS), s.heap.size), rfl, ⟨⟨hD, ?_⟩, hS, ?_, ?_, ?_, Nat.le_refl _, ?_, ?_⟩, ⟨?_, va_AO.of (A := args) hov⟩, ?_, ?_⟩
  · intro k q hk
    have h4 : k < 4 := (List.getElem?_eq_some_iff.mp hk).1
    rcases (show k = 0 ∨ k = 1 ∨ k = 2 ∨ k = 3 by omega) with rfl | rfl | rfl | rfl <;> cases hk
    · exact ⟨aI, rI⟩
    · exact ⟨aJ, rJ⟩
    · exact ⟨aZ, rZ⟩
    · exact ⟨aS, rS⟩
  · exact va_Zof (args := args) (hn _ (by simp [gs_need])) (hn _ (by simp [gs_need])) (va_eqi (hg _ (by simp [gs_given]))) hA
  · exact vx_Zqof (args := args) (hn _ (by simp [gs_need])) (hn _ (by simp [gs_need])) (hg _ (by simp [gs_given])) hA
  · exact vx_Zqof (args := args) (hn _ (by simp [gs_need])) (hn _ (by simp [gs_need])) (hg _ (by simp [gs_given])) hA
  · exact (vx_Zqof (args := args) (hn _ (by simp [gs_need])) (hn _ (by simp [gs_need])) (hg _ (by simp [gs_given])) hA).1
  · intro w hw
    have h1 := hts w (gs_nest_in w hw)
    have h2 : gx_isNest w = true := List.all_eq_true.mp gx_nest_ok w hw
    cases w <;> first | exact va_tabs rfl rfl h1 | (exfalso; revert h2; simp [gx_isNest])
  · intro w hw
    have h1 := hts w (gs_nest_in w hw)
    have h2 : gx_isNest w = true := List.all_eq_true.mp gx_nest_ok w hw
    cases w <;> first | exact va_tabs rfl rfl h1 | (exfalso; revert h2; simp [gx_isNest])
  · intro w hw
    have h1 : w.before args s = true := hn w (by
      simp only [List.mem_cons, List.not_mem_nil, or_false] at hw
      rcases hw with rfl | rfl | rfl <;> simp [gs_need])
    have h3 : w.onTables = true := by
      simp only [List.mem_cons, List.not_mem_nil, or_false] at hw
      rcases hw with rfl | rfl | rfl <;> rfl
    exact va_tabs h3 rfl h1
  · exact va_tabs (A := args) rfl rfl (hn _ (by simp [gs_need]))
