section LG20
variable {P9 : Program} {e9 : Env} {s : State} {m9 : MethodId} {below : List Frame} {meth : Method} {C9 : Code} {E : gE} {b L n cells slots : Nat} {xs : Nat → Int32} {H : Heap} {locs : List Loc} {Q : State → Prop} {ls : Array Slot} {σ : gI} {τ : gJ} {Z : gI → gJ → Prop}
set_option maxHeartbeats 4000000 in
set_option maxRecDepth 100000 in
theorem lc_20 (l : Launch) (hl9 : l.stackTraces = false) (S : CallFix P9 m9 C9 cL_law 8 s #[Value.ref b] gx_G RL) (hK : gx_K E s) (hT9 : gx_T s) (hA : gx_Ok gx_tb 0 E s) (hX : va_X b L xs s s.heap) (hbl : b < s.heap.size) (hbA : ¬ gx_A 0 E.2.2 s.heap.size b) (N : Nat) (hN : 4294967296 ≤ N) (hL : L ≤ 3072) (hn : n + 6 ≤ L) (hc : cells + 60 ≤ 601024) (hs : slots + 1000 ≤ 7293034) (hw : gx_W gx_tb 0 E s σ τ H locs) (hl : lv_has ls 8 [(4, .int (nI n)), (3, .ref (E.2.2 + 233)), (2, .ref (E.2.2 + 199)), (1, .ref (E.2.2 + 0)), (0, .ref b)]) (kk : ∀ (σ : gI) (τ : gJ) (H : Heap) (locs : List Loc) (ls : Array Slot), Z σ τ → gx_W gx_tb 0 E s σ τ H locs → lv_has ls 8 [(4, .int (nI n)), (3, .ref (E.2.2 + 233)), (2, .ref (E.2.2 + 199)), (1, .ref (E.2.2 + 0)), (0, .ref b)] → W P9 l e9 room_1 s m9 #[Value.ref b] below meth C9 H locs (cells + 60) (slots + 1000) Q (F0 m9 1662 ls [])) (hq : okp (fun r1 σ1 τ1 => okp (fun r2 σ2 τ2 => Z σ2 τ2) (B_X12_soonest_0 N σ1 τ1 (xs (n + 1)) (xs (n + 2)) (xs (n + 3)))) (B_X11_soonest_0 N σ τ (xs (n + 1)) (xs (n + 2)) (xs (n + 3)))) : W P9 l e9 room_1 s m9 #[Value.ref b] below meth C9 H locs cells slots Q (F0 m9 846 ls []) := by
  have hx := S.1
  have hb := S.2.1
  obtain ⟨r_1, σ_1, τ_1, q_1, h_1⟩ := hq
  obtain ⟨r_2, σ_2, τ_2, q_2, hZ⟩ := h_1
  refine lv_aload_n hx hb dL_law_846 rfl (lv_at hl 3 rfl) ?_
  refine lv_aload_n hx hb dL_law_847 rfl (lv_at hl 4 rfl) ?_
  refine lv_iload hx hb dL_law_848 (lv_at hl 0 rfl) ?_
  refine lv_iconst (v := 1) hx hb dL_law_850 (by decide) ?_
  refine lv_iadd hx hb dL_law_851 ?_
  refine gx_top (v := nI (n + 1)) (by rw [show (1 : Int32) = nI 1 from rfl, nI_add]) ?_
  refine va_sld (i := nI (n + 1)) hx hb hX hbl hbA hw.2 (vp_in_nI (by omega) (by omega)) dL_law_852 ?_
  refine gx_top (v := xs (n + 1)) (by rw [nI_clamp (by omega)]) ?_
  refine lv_aload_n hx hb dL_law_853 rfl (lv_at hl 4 rfl) ?_
  refine lv_iload hx hb dL_law_854 (lv_at hl 0 rfl) ?_
  refine lv_iconst (v := 2) hx hb dL_law_856 (by decide) ?_
  refine lv_iadd hx hb dL_law_857 ?_
  refine gx_top (v := nI (n + 2)) (by rw [show (2 : Int32) = nI 2 from rfl, nI_add]) ?_
  refine va_sld (i := nI (n + 2)) hx hb hX hbl hbA hw.2 (vp_in_nI (by omega) (by omega)) dL_law_858 ?_
  refine gx_top (v := xs (n + 2)) (by rw [nI_clamp (by omega)]) ?_
  refine lv_aload_n hx hb dL_law_859 rfl (lv_at hl 4 rfl) ?_
  refine lv_iload hx hb dL_law_860 (lv_at hl 0 rfl) ?_
  refine lv_iconst (v := 3) hx hb dL_law_862 (by decide) ?_
  refine lv_iadd hx hb dL_law_863 ?_
  refine gx_top (v := nI (n + 3)) (by rw [show (3 : Int32) = nI 3 from rfl, nI_add]) ?_
  refine va_sld (i := nI (n + 3)) hx hb hX hbl hbA hw.2 (vp_in_nI (by omega) (by omega)) dL_law_864 ?_
  refine gx_top (v := xs (n + 3)) (by rw [nI_clamp (by omega)]) ?_
  refine gx_cVi (As := [.int (xs (n + 1)), .int (xs (n + 2)), .int (xs (n + 3))]) (rest := []) S hK hA hw (c_X11_soonest l (E := E) N σ τ (xs (n + 1)) (xs (n + 2)) (xs (n + 3)) q_1) cw_L_113 t_0 cl_12 ⟨Nat.le_of_ble_eq_true rfl, Nat.le_of_ble_eq_true rfl⟩ rfl hl.1 rfl (Nat.le_of_ble_eq_true rfl) ⟨by show cells + 0 ≤ 601024; omega, by show slots + 0 ≤ 7293034; omega⟩ dL_law_865 (fun r9 σ9 τ9 H locs hp hw => ?_)
  obtain ⟨rfl, rfl, rfl⟩ := hp
  refine lv_pop hx hb dL_law_868 rfl ?_
  refine lv_aload_n hx hb dL_law_869 rfl (lv_at hl 2 rfl) ?_
  refine lv_aload_n hx hb dL_law_870 rfl (lv_at hl 4 rfl) ?_
  refine lv_iload hx hb dL_law_871 (lv_at hl 0 rfl) ?_
  refine lv_iconst (v := 1) hx hb dL_law_873 (by decide) ?_
  refine lv_iadd hx hb dL_law_874 ?_
  refine gx_top (v := nI (n + 1)) (by rw [show (1 : Int32) = nI 1 from rfl, nI_add]) ?_
  refine va_sld (i := nI (n + 1)) hx hb hX hbl hbA hw.2 (vp_in_nI (by omega) (by omega)) dL_law_875 ?_
  refine gx_top (v := xs (n + 1)) (by rw [nI_clamp (by omega)]) ?_
  refine lv_aload_n hx hb dL_law_876 rfl (lv_at hl 4 rfl) ?_
  refine lv_iload hx hb dL_law_877 (lv_at hl 0 rfl) ?_
  refine lv_iconst (v := 2) hx hb dL_law_879 (by decide) ?_
  refine lv_iadd hx hb dL_law_880 ?_
  refine gx_top (v := nI (n + 2)) (by rw [show (2 : Int32) = nI 2 from rfl, nI_add]) ?_
  refine va_sld (i := nI (n + 2)) hx hb hX hbl hbA hw.2 (vp_in_nI (by omega) (by omega)) dL_law_881 ?_
  refine gx_top (v := xs (n + 2)) (by rw [nI_clamp (by omega)]) ?_
  refine lv_aload_n hx hb dL_law_882 rfl (lv_at hl 4 rfl) ?_
  refine lv_iload hx hb dL_law_883 (lv_at hl 0 rfl) ?_
  refine lv_iconst (v := 3) hx hb dL_law_885 (by decide) ?_
  refine lv_iadd hx hb dL_law_886 ?_
  refine gx_top (v := nI (n + 3)) (by rw [show (3 : Int32) = nI 3 from rfl, nI_add]) ?_
  refine va_sld (i := nI (n + 3)) hx hb hX hbl hbA hw.2 (vp_in_nI (by omega) (by omega)) dL_law_887 ?_
  refine gx_top (v := xs (n + 3)) (by rw [nI_clamp (by omega)]) ?_
  refine gx_cVi (As := [.int (xs (n + 1)), .int (xs (n + 2)), .int (xs (n + 3))]) (rest := []) S hK hA hw (c_X12_soonest l (E := E) N σ_1 τ_1 (xs (n + 1)) (xs (n + 2)) (xs (n + 3)) q_2) cw_L_117 t_199 cl_13 ⟨Nat.le_of_ble_eq_true rfl, Nat.le_of_ble_eq_true rfl⟩ rfl hl.1 rfl (Nat.le_of_ble_eq_true rfl) ⟨by show cells + 0 ≤ 601024; omega, by show slots + 0 ≤ 7293034; omega⟩ dL_law_888 (fun r9 σ9 τ9 H locs hp hw => ?_)
  obtain ⟨rfl, rfl, rfl⟩ := hp
  refine lv_pop hx hb dL_law_891 rfl ?_
  refine lv_goto (tgt := 1662) hx hb dL_law_892 (by decide) ?_
  refine W.widen (k := cells + 60) (n := slots + 1000) (by omega) (by omega) ?_
  exact kk _ _ _ _ _ hZ hw (lv_sub hl [0, 1, 2, 3, 4] rfl)
set_option maxHeartbeats 4000000 in
set_option maxRecDepth 100000 in
theorem lc_21 (l : Launch) (hl9 : l.stackTraces = false) (S : CallFix P9 m9 C9 cL_law 8 s #[Value.ref b] gx_G RL) (hK : gx_K E s) (hT9 : gx_T s) (hA : gx_Ok gx_tb 0 E s) (hX : va_X b L xs s s.heap) (hbl : b < s.heap.size) (hbA : ¬ gx_A 0 E.2.2 s.heap.size b) (N : Nat) (hN : 4294967296 ≤ N) (hL : L ≤ 3072) (hn : n + 6 ≤ L) (hc : cells + 60 ≤ 601024) (hs : slots + 1000 ≤ 7293034) (hw : gx_W gx_tb 0 E s σ τ H locs) (hl : lv_has ls 8 [(4, .int (nI n)), (3, .ref (E.2.2 + 233)), (2, .ref (E.2.2 + 199)), (1, .ref (E.2.2 + 0)), (0, .ref b)]) (kk : ∀ (σ : gI) (τ : gJ) (H : Heap) (locs : List Loc) (ls : Array Slot), Z σ τ → gx_W gx_tb 0 E s σ τ H locs → lv_has ls 8 [(4, .int (nI n)), (3, .ref (E.2.2 + 233)), (2, .ref (E.2.2 + 199)), (1, .ref (E.2.2 + 0)), (0, .ref b)] → W P9 l e9 room_1 s m9 #[Value.ref b] below meth C9 H locs (cells + 60) (slots + 1000) Q (F0 m9 1662 ls [])) (hq : okp (fun r1 σ1 τ1 => okp (fun r2 σ2 τ2 => Z σ2 τ2) (B_X12_basin_0 N σ1 τ1 (xs (n + 1)) (xs (n + 2)) (xs (n + 3)))) (B_X11_basin_0 N σ τ (xs (n + 1)) (xs (n + 2)) (xs (n + 3)))) : W P9 l e9 room_1 s m9 #[Value.ref b] below meth C9 H locs cells slots Q (F0 m9 895 ls []) := by
  have hx := S.1
  have hb := S.2.1
  obtain ⟨r_1, σ_1, τ_1, q_1, h_1⟩ := hq
  obtain ⟨r_2, σ_2, τ_2, q_2, hZ⟩ := h_1
  refine lv_aload_n hx hb dL_law_895 rfl (lv_at hl 3 rfl) ?_
  refine lv_aload_n hx hb dL_law_896 rfl (lv_at hl 4 rfl) ?_
  refine lv_iload hx hb dL_law_897 (lv_at hl 0 rfl) ?_
  refine lv_iconst (v := 1) hx hb dL_law_899 (by decide) ?_
  refine lv_iadd hx hb dL_law_900 ?_
  refine gx_top (v := nI (n + 1)) (by rw [show (1 : Int32) = nI 1 from rfl, nI_add]) ?_
  refine va_sld (i := nI (n + 1)) hx hb hX hbl hbA hw.2 (vp_in_nI (by omega) (by omega)) dL_law_901 ?_
  refine gx_top (v := xs (n + 1)) (by rw [nI_clamp (by omega)]) ?_
  refine lv_aload_n hx hb dL_law_902 rfl (lv_at hl 4 rfl) ?_
  refine lv_iload hx hb dL_law_903 (lv_at hl 0 rfl) ?_
  refine lv_iconst (v := 2) hx hb dL_law_905 (by decide) ?_
  refine lv_iadd hx hb dL_law_906 ?_
  refine gx_top (v := nI (n + 2)) (by rw [show (2 : Int32) = nI 2 from rfl, nI_add]) ?_
  refine va_sld (i := nI (n + 2)) hx hb hX hbl hbA hw.2 (vp_in_nI (by omega) (by omega)) dL_law_907 ?_
  refine gx_top (v := xs (n + 2)) (by rw [nI_clamp (by omega)]) ?_
  refine lv_aload_n hx hb dL_law_908 rfl (lv_at hl 4 rfl) ?_
  refine lv_iload hx hb dL_law_909 (lv_at hl 0 rfl) ?_
  refine lv_iconst (v := 3) hx hb dL_law_911 (by decide) ?_
  refine lv_iadd hx hb dL_law_912 ?_
  refine gx_top (v := nI (n + 3)) (by rw [show (3 : Int32) = nI 3 from rfl, nI_add]) ?_
  refine va_sld (i := nI (n + 3)) hx hb hX hbl hbA hw.2 (vp_in_nI (by omega) (by omega)) dL_law_913 ?_
  refine gx_top (v := xs (n + 3)) (by rw [nI_clamp (by omega)]) ?_
  refine gx_cVi (As := [.int (xs (n + 1)), .int (xs (n + 2)), .int (xs (n + 3))]) (rest := []) S hK hA hw (c_X11_basin l (E := E) N σ τ (xs (n + 1)) (xs (n + 2)) (xs (n + 3)) q_1) cw_L_118 t_0 cl_12 ⟨Nat.le_of_ble_eq_true rfl, Nat.le_of_ble_eq_true rfl⟩ rfl hl.1 rfl (Nat.le_of_ble_eq_true rfl) ⟨by show cells + 0 ≤ 601024; omega, by show slots + 0 ≤ 7293034; omega⟩ dL_law_914 (fun r9 σ9 τ9 H locs hp hw => ?_)
  obtain ⟨rfl, rfl, rfl⟩ := hp
  refine lv_pop hx hb dL_law_917 rfl ?_
  refine lv_aload_n hx hb dL_law_918 rfl (lv_at hl 2 rfl) ?_
  refine lv_aload_n hx hb dL_law_919 rfl (lv_at hl 4 rfl) ?_
  refine lv_iload hx hb dL_law_920 (lv_at hl 0 rfl) ?_
  refine lv_iconst (v := 1) hx hb dL_law_922 (by decide) ?_
  refine lv_iadd hx hb dL_law_923 ?_
  refine gx_top (v := nI (n + 1)) (by rw [show (1 : Int32) = nI 1 from rfl, nI_add]) ?_
  refine va_sld (i := nI (n + 1)) hx hb hX hbl hbA hw.2 (vp_in_nI (by omega) (by omega)) dL_law_924 ?_
  refine gx_top (v := xs (n + 1)) (by rw [nI_clamp (by omega)]) ?_
  refine lv_aload_n hx hb dL_law_925 rfl (lv_at hl 4 rfl) ?_
  refine lv_iload hx hb dL_law_926 (lv_at hl 0 rfl) ?_
  refine lv_iconst (v := 2) hx hb dL_law_928 (by decide) ?_
  refine lv_iadd hx hb dL_law_929 ?_
  refine gx_top (v := nI (n + 2)) (by rw [show (2 : Int32) = nI 2 from rfl, nI_add]) ?_
  refine va_sld (i := nI (n + 2)) hx hb hX hbl hbA hw.2 (vp_in_nI (by omega) (by omega)) dL_law_930 ?_
  refine gx_top (v := xs (n + 2)) (by rw [nI_clamp (by omega)]) ?_
  refine lv_aload_n hx hb dL_law_931 rfl (lv_at hl 4 rfl) ?_
  refine lv_iload hx hb dL_law_932 (lv_at hl 0 rfl) ?_
  refine lv_iconst (v := 3) hx hb dL_law_934 (by decide) ?_
  refine lv_iadd hx hb dL_law_935 ?_
  refine gx_top (v := nI (n + 3)) (by rw [show (3 : Int32) = nI 3 from rfl, nI_add]) ?_
  refine va_sld (i := nI (n + 3)) hx hb hX hbl hbA hw.2 (vp_in_nI (by omega) (by omega)) dL_law_936 ?_
  refine gx_top (v := xs (n + 3)) (by rw [nI_clamp (by omega)]) ?_
  refine gx_cVi (As := [.int (xs (n + 1)), .int (xs (n + 2)), .int (xs (n + 3))]) (rest := []) S hK hA hw (c_X12_basin l (E := E) N σ_1 τ_1 (xs (n + 1)) (xs (n + 2)) (xs (n + 3)) q_2) cw_L_121 t_199 cl_13 ⟨Nat.le_of_ble_eq_true rfl, Nat.le_of_ble_eq_true rfl⟩ rfl hl.1 rfl (Nat.le_of_ble_eq_true rfl) ⟨by show cells + 0 ≤ 601024; omega, by show slots + 0 ≤ 7293034; omega⟩ dL_law_937 (fun r9 σ9 τ9 H locs hp hw => ?_)
  obtain ⟨rfl, rfl, rfl⟩ := hp
  refine lv_pop hx hb dL_law_940 rfl ?_
  refine lv_goto (tgt := 1662) hx hb dL_law_941 (by decide) ?_
  refine W.widen (k := cells + 60) (n := slots + 1000) (by omega) (by omega) ?_
  exact kk _ _ _ _ _ hZ hw (lv_sub hl [0, 1, 2, 3, 4] rfl)
set_option maxHeartbeats 4000000 in
set_option maxRecDepth 100000 in
theorem lc_22 (l : Launch) (hl9 : l.stackTraces = false) (S : CallFix P9 m9 C9 cL_law 8 s #[Value.ref b] gx_G RL) (hK : gx_K E s) (hT9 : gx_T s) (hA : gx_Ok gx_tb 0 E s) (hX : va_X b L xs s s.heap) (hbl : b < s.heap.size) (hbA : ¬ gx_A 0 E.2.2 s.heap.size b) (N : Nat) (hN : 4294967296 ≤ N) (hL : L ≤ 3072) (hn : n + 6 ≤ L) (hc : cells + 60 ≤ 601024) (hs : slots + 1000 ≤ 7293034) (hw : gx_W gx_tb 0 E s σ τ H locs) (hl : lv_has ls 8 [(4, .int (nI n)), (3, .ref (E.2.2 + 233)), (2, .ref (E.2.2 + 199)), (1, .ref (E.2.2 + 0)), (0, .ref b)]) (kk : ∀ (σ : gI) (τ : gJ) (H : Heap) (locs : List Loc) (ls : Array Slot), Z σ τ → gx_W gx_tb 0 E s σ τ H locs → lv_has ls 8 [(4, .int (nI n)), (3, .ref (E.2.2 + 233)), (2, .ref (E.2.2 + 199)), (1, .ref (E.2.2 + 0)), (0, .ref b)] → W P9 l e9 room_1 s m9 #[Value.ref b] below meth C9 H locs (cells + 60) (slots + 1000) Q (F0 m9 1662 ls [])) (hq : okp (fun r1 σ1 τ1 => okp (fun r2 σ2 τ2 => Z σ2 τ2) (B_X12_boat_0 N σ1 τ1 (xs (n + 1)) (xs (n + 2)) (xs (n + 3)))) (B_X11_boat_0 N σ τ (xs (n + 1)) (xs (n + 2)) (xs (n + 3)))) : W P9 l e9 room_1 s m9 #[Value.ref b] below meth C9 H locs cells slots Q (F0 m9 944 ls []) := by
  have hx := S.1
  have hb := S.2.1
  obtain ⟨r_1, σ_1, τ_1, q_1, h_1⟩ := hq
  obtain ⟨r_2, σ_2, τ_2, q_2, hZ⟩ := h_1
  refine lv_aload_n hx hb dL_law_944 rfl (lv_at hl 3 rfl) ?_
  refine lv_aload_n hx hb dL_law_945 rfl (lv_at hl 4 rfl) ?_
  refine lv_iload hx hb dL_law_946 (lv_at hl 0 rfl) ?_
  refine lv_iconst (v := 1) hx hb dL_law_948 (by decide) ?_
  refine lv_iadd hx hb dL_law_949 ?_
  refine gx_top (v := nI (n + 1)) (by rw [show (1 : Int32) = nI 1 from rfl, nI_add]) ?_
  refine va_sld (i := nI (n + 1)) hx hb hX hbl hbA hw.2 (vp_in_nI (by omega) (by omega)) dL_law_950 ?_
  refine gx_top (v := xs (n + 1)) (by rw [nI_clamp (by omega)]) ?_
  refine lv_aload_n hx hb dL_law_951 rfl (lv_at hl 4 rfl) ?_
  refine lv_iload hx hb dL_law_952 (lv_at hl 0 rfl) ?_
  refine lv_iconst (v := 2) hx hb dL_law_954 (by decide) ?_
  refine lv_iadd hx hb dL_law_955 ?_
  refine gx_top (v := nI (n + 2)) (by rw [show (2 : Int32) = nI 2 from rfl, nI_add]) ?_
  refine va_sld (i := nI (n + 2)) hx hb hX hbl hbA hw.2 (vp_in_nI (by omega) (by omega)) dL_law_956 ?_
  refine gx_top (v := xs (n + 2)) (by rw [nI_clamp (by omega)]) ?_
  refine lv_aload_n hx hb dL_law_957 rfl (lv_at hl 4 rfl) ?_
  refine lv_iload hx hb dL_law_958 (lv_at hl 0 rfl) ?_
  refine lv_iconst (v := 3) hx hb dL_law_960 (by decide) ?_
  refine lv_iadd hx hb dL_law_961 ?_
  refine gx_top (v := nI (n + 3)) (by rw [show (3 : Int32) = nI 3 from rfl, nI_add]) ?_
  refine va_sld (i := nI (n + 3)) hx hb hX hbl hbA hw.2 (vp_in_nI (by omega) (by omega)) dL_law_962 ?_
  refine gx_top (v := xs (n + 3)) (by rw [nI_clamp (by omega)]) ?_
  refine gx_cVi (As := [.int (xs (n + 1)), .int (xs (n + 2)), .int (xs (n + 3))]) (rest := []) S hK hA hw (c_X11_boat l (E := E) N σ τ (xs (n + 1)) (xs (n + 2)) (xs (n + 3)) q_1) cw_L_122 t_0 cl_12 ⟨Nat.le_of_ble_eq_true rfl, Nat.le_of_ble_eq_true rfl⟩ rfl hl.1 rfl (Nat.le_of_ble_eq_true rfl) ⟨by show cells + 0 ≤ 601024; omega, by show slots + 0 ≤ 7293034; omega⟩ dL_law_963 (fun r9 σ9 τ9 H locs hp hw => ?_)
  obtain ⟨rfl, rfl, rfl⟩ := hp
  refine lv_pop hx hb dL_law_966 rfl ?_
  refine lv_aload_n hx hb dL_law_967 rfl (lv_at hl 2 rfl) ?_
  refine lv_aload_n hx hb dL_law_968 rfl (lv_at hl 4 rfl) ?_
  refine lv_iload hx hb dL_law_969 (lv_at hl 0 rfl) ?_
  refine lv_iconst (v := 1) hx hb dL_law_971 (by decide) ?_
  refine lv_iadd hx hb dL_law_972 ?_
  refine gx_top (v := nI (n + 1)) (by rw [show (1 : Int32) = nI 1 from rfl, nI_add]) ?_
  refine va_sld (i := nI (n + 1)) hx hb hX hbl hbA hw.2 (vp_in_nI (by omega) (by omega)) dL_law_973 ?_
  refine gx_top (v := xs (n + 1)) (by rw [nI_clamp (by omega)]) ?_
  refine lv_aload_n hx hb dL_law_974 rfl (lv_at hl 4 rfl) ?_
  refine lv_iload hx hb dL_law_975 (lv_at hl 0 rfl) ?_
  refine lv_iconst (v := 2) hx hb dL_law_977 (by decide) ?_
  refine lv_iadd hx hb dL_law_978 ?_
  refine gx_top (v := nI (n + 2)) (by rw [show (2 : Int32) = nI 2 from rfl, nI_add]) ?_
  refine va_sld (i := nI (n + 2)) hx hb hX hbl hbA hw.2 (vp_in_nI (by omega) (by omega)) dL_law_979 ?_
  refine gx_top (v := xs (n + 2)) (by rw [nI_clamp (by omega)]) ?_
  refine lv_aload_n hx hb dL_law_980 rfl (lv_at hl 4 rfl) ?_
  refine lv_iload hx hb dL_law_981 (lv_at hl 0 rfl) ?_
  refine lv_iconst (v := 3) hx hb dL_law_983 (by decide) ?_
  refine lv_iadd hx hb dL_law_984 ?_
  refine gx_top (v := nI (n + 3)) (by rw [show (3 : Int32) = nI 3 from rfl, nI_add]) ?_
  refine va_sld (i := nI (n + 3)) hx hb hX hbl hbA hw.2 (vp_in_nI (by omega) (by omega)) dL_law_985 ?_
  refine gx_top (v := xs (n + 3)) (by rw [nI_clamp (by omega)]) ?_
  refine gx_cVi (As := [.int (xs (n + 1)), .int (xs (n + 2)), .int (xs (n + 3))]) (rest := []) S hK hA hw (c_X12_boat l (E := E) N σ_1 τ_1 (xs (n + 1)) (xs (n + 2)) (xs (n + 3)) q_2) cw_L_125 t_199 cl_13 ⟨Nat.le_of_ble_eq_true rfl, Nat.le_of_ble_eq_true rfl⟩ rfl hl.1 rfl (Nat.le_of_ble_eq_true rfl) ⟨by show cells + 0 ≤ 601024; omega, by show slots + 0 ≤ 7293034; omega⟩ dL_law_986 (fun r9 σ9 τ9 H locs hp hw => ?_)
  obtain ⟨rfl, rfl, rfl⟩ := hp
  refine lv_pop hx hb dL_law_989 rfl ?_
  refine lv_goto (tgt := 1662) hx hb dL_law_990 (by decide) ?_
  refine W.widen (k := cells + 60) (n := slots + 1000) (by omega) (by omega) ?_
  exact kk _ _ _ _ _ hZ hw (lv_sub hl [0, 1, 2, 3, 4] rfl)
set_option maxHeartbeats 4000000 in
set_option maxRecDepth 100000 in
theorem lc_23 (l : Launch) (hl9 : l.stackTraces = false) (S : CallFix P9 m9 C9 cL_law 8 s #[Value.ref b] gx_G RL) (hK : gx_K E s) (hT9 : gx_T s) (hA : gx_Ok gx_tb 0 E s) (hX : va_X b L xs s s.heap) (hbl : b < s.heap.size) (hbA : ¬ gx_A 0 E.2.2 s.heap.size b) (N : Nat) (hN : 4294967296 ≤ N) (hL : L ≤ 3072) (hn : n + 6 ≤ L) (hc : cells + 60 ≤ 601024) (hs : slots + 1000 ≤ 7293034) (hw : gx_W gx_tb 0 E s σ τ H locs) (hl : lv_has ls 8 [(4, .int (nI n)), (3, .ref (E.2.2 + 233)), (2, .ref (E.2.2 + 199)), (1, .ref (E.2.2 + 0)), (0, .ref b)]) (kk : ∀ (σ : gI) (τ : gJ) (H : Heap) (locs : List Loc) (ls : Array Slot), Z σ τ → gx_W gx_tb 0 E s σ τ H locs → lv_has ls 8 [(4, .int (nI n)), (3, .ref (E.2.2 + 233)), (2, .ref (E.2.2 + 199)), (1, .ref (E.2.2 + 0)), (0, .ref b)] → W P9 l e9 room_1 s m9 #[Value.ref b] below meth C9 H locs (cells + 60) (slots + 1000) Q (F0 m9 1662 ls [])) (hq : okp (fun r1 σ1 τ1 => okp (fun r2 σ2 τ2 => Z σ2 τ2) (B_X12_coins_0 N σ1 τ1 (xs (n + 1)) (xs (n + 2)) (xs (n + 3)))) (B_X11_coins_0 N σ τ (xs (n + 1)) (xs (n + 2)) (xs (n + 3)))) : W P9 l e9 room_1 s m9 #[Value.ref b] below meth C9 H locs cells slots Q (F0 m9 993 ls []) := by
  have hx := S.1
  have hb := S.2.1
  obtain ⟨r_1, σ_1, τ_1, q_1, h_1⟩ := hq
  obtain ⟨r_2, σ_2, τ_2, q_2, hZ⟩ := h_1
  refine lv_aload_n hx hb dL_law_993 rfl (lv_at hl 3 rfl) ?_
  refine lv_aload_n hx hb dL_law_994 rfl (lv_at hl 4 rfl) ?_
  refine lv_iload hx hb dL_law_995 (lv_at hl 0 rfl) ?_
  refine lv_iconst (v := 1) hx hb dL_law_997 (by decide) ?_
  refine lv_iadd hx hb dL_law_998 ?_
  refine gx_top (v := nI (n + 1)) (by rw [show (1 : Int32) = nI 1 from rfl, nI_add]) ?_
  refine va_sld (i := nI (n + 1)) hx hb hX hbl hbA hw.2 (vp_in_nI (by omega) (by omega)) dL_law_999 ?_
  refine gx_top (v := xs (n + 1)) (by rw [nI_clamp (by omega)]) ?_
  refine lv_aload_n hx hb dL_law_1000 rfl (lv_at hl 4 rfl) ?_
  refine lv_iload hx hb dL_law_1001 (lv_at hl 0 rfl) ?_
  refine lv_iconst (v := 2) hx hb dL_law_1003 (by decide) ?_
  refine lv_iadd hx hb dL_law_1004 ?_
  refine gx_top (v := nI (n + 2)) (by rw [show (2 : Int32) = nI 2 from rfl, nI_add]) ?_
  refine va_sld (i := nI (n + 2)) hx hb hX hbl hbA hw.2 (vp_in_nI (by omega) (by omega)) dL_law_1005 ?_
  refine gx_top (v := xs (n + 2)) (by rw [nI_clamp (by omega)]) ?_
  refine lv_aload_n hx hb dL_law_1006 rfl (lv_at hl 4 rfl) ?_
  refine lv_iload hx hb dL_law_1007 (lv_at hl 0 rfl) ?_
  refine lv_iconst (v := 3) hx hb dL_law_1009 (by decide) ?_
  refine lv_iadd hx hb dL_law_1010 ?_
  refine gx_top (v := nI (n + 3)) (by rw [show (3 : Int32) = nI 3 from rfl, nI_add]) ?_
  refine va_sld (i := nI (n + 3)) hx hb hX hbl hbA hw.2 (vp_in_nI (by omega) (by omega)) dL_law_1011 ?_
  refine gx_top (v := xs (n + 3)) (by rw [nI_clamp (by omega)]) ?_
  refine gx_cVi (As := [.int (xs (n + 1)), .int (xs (n + 2)), .int (xs (n + 3))]) (rest := []) S hK hA hw (c_X11_coins l (E := E) N σ τ (xs (n + 1)) (xs (n + 2)) (xs (n + 3)) q_1) cw_L_126 t_0 cl_12 ⟨Nat.le_of_ble_eq_true rfl, Nat.le_of_ble_eq_true rfl⟩ rfl hl.1 rfl (Nat.le_of_ble_eq_true rfl) ⟨by show cells + 0 ≤ 601024; omega, by show slots + 0 ≤ 7293034; omega⟩ dL_law_1012 (fun r9 σ9 τ9 H locs hp hw => ?_)
  obtain ⟨rfl, rfl, rfl⟩ := hp
  refine lv_pop hx hb dL_law_1015 rfl ?_
  refine lv_aload_n hx hb dL_law_1016 rfl (lv_at hl 2 rfl) ?_
  refine lv_aload_n hx hb dL_law_1017 rfl (lv_at hl 4 rfl) ?_
  refine lv_iload hx hb dL_law_1018 (lv_at hl 0 rfl) ?_
  refine lv_iconst (v := 1) hx hb dL_law_1020 (by decide) ?_
  refine lv_iadd hx hb dL_law_1021 ?_
  refine gx_top (v := nI (n + 1)) (by rw [show (1 : Int32) = nI 1 from rfl, nI_add]) ?_
  refine va_sld (i := nI (n + 1)) hx hb hX hbl hbA hw.2 (vp_in_nI (by omega) (by omega)) dL_law_1022 ?_
  refine gx_top (v := xs (n + 1)) (by rw [nI_clamp (by omega)]) ?_
  refine lv_aload_n hx hb dL_law_1023 rfl (lv_at hl 4 rfl) ?_
  refine lv_iload hx hb dL_law_1024 (lv_at hl 0 rfl) ?_
  refine lv_iconst (v := 2) hx hb dL_law_1026 (by decide) ?_
  refine lv_iadd hx hb dL_law_1027 ?_
  refine gx_top (v := nI (n + 2)) (by rw [show (2 : Int32) = nI 2 from rfl, nI_add]) ?_
  refine va_sld (i := nI (n + 2)) hx hb hX hbl hbA hw.2 (vp_in_nI (by omega) (by omega)) dL_law_1028 ?_
  refine gx_top (v := xs (n + 2)) (by rw [nI_clamp (by omega)]) ?_
  refine lv_aload_n hx hb dL_law_1029 rfl (lv_at hl 4 rfl) ?_
  refine lv_iload hx hb dL_law_1030 (lv_at hl 0 rfl) ?_
  refine lv_iconst (v := 3) hx hb dL_law_1032 (by decide) ?_
  refine lv_iadd hx hb dL_law_1033 ?_
  refine gx_top (v := nI (n + 3)) (by rw [show (3 : Int32) = nI 3 from rfl, nI_add]) ?_
  refine va_sld (i := nI (n + 3)) hx hb hX hbl hbA hw.2 (vp_in_nI (by omega) (by omega)) dL_law_1034 ?_
  refine gx_top (v := xs (n + 3)) (by rw [nI_clamp (by omega)]) ?_
  refine gx_cVi (As := [.int (xs (n + 1)), .int (xs (n + 2)), .int (xs (n + 3))]) (rest := []) S hK hA hw (c_X12_coins l (E := E) N σ_1 τ_1 (xs (n + 1)) (xs (n + 2)) (xs (n + 3)) q_2) cw_L_129 t_199 cl_13 ⟨Nat.le_of_ble_eq_true rfl, Nat.le_of_ble_eq_true rfl⟩ rfl hl.1 rfl (Nat.le_of_ble_eq_true rfl) ⟨by show cells + 0 ≤ 601024; omega, by show slots + 0 ≤ 7293034; omega⟩ dL_law_1035 (fun r9 σ9 τ9 H locs hp hw => ?_)
  obtain ⟨rfl, rfl, rfl⟩ := hp
  refine lv_pop hx hb dL_law_1038 rfl ?_
  refine lv_goto (tgt := 1662) hx hb dL_law_1039 (by decide) ?_
  refine W.widen (k := cells + 60) (n := slots + 1000) (by omega) (by omega) ?_
  exact kk _ _ _ _ _ hZ hw (lv_sub hl [0, 1, 2, 3, 4] rfl)
set_option maxHeartbeats 4000000 in
set_option maxRecDepth 100000 in
theorem lc_24 (l : Launch) (hl9 : l.stackTraces = false) (S : CallFix P9 m9 C9 cL_law 8 s #[Value.ref b] gx_G RL) (hK : gx_K E s) (hT9 : gx_T s) (hA : gx_Ok gx_tb 0 E s) (hX : va_X b L xs s s.heap) (hbl : b < s.heap.size) (hbA : ¬ gx_A 0 E.2.2 s.heap.size b) (N : Nat) (hN : 4294967296 ≤ N) (hL : L ≤ 3072) (hn : n + 6 ≤ L) (hc : cells + 60 ≤ 601024) (hs : slots + 1000 ≤ 7293034) (hw : gx_W gx_tb 0 E s σ τ H locs) (hl : lv_has ls 8 [(4, .int (nI n)), (3, .ref (E.2.2 + 233)), (2, .ref (E.2.2 + 199)), (1, .ref (E.2.2 + 0)), (0, .ref b)]) (kk : ∀ (σ : gI) (τ : gJ) (H : Heap) (locs : List Loc) (ls : Array Slot), Z σ τ → gx_W gx_tb 0 E s σ τ H locs → lv_has ls 8 [(4, .int (nI n)), (3, .ref (E.2.2 + 233)), (2, .ref (E.2.2 + 199)), (1, .ref (E.2.2 + 0)), (0, .ref b)] → W P9 l e9 room_1 s m9 #[Value.ref b] below meth C9 H locs (cells + 60) (slots + 1000) Q (F0 m9 1662 ls [])) (hq : okp (fun r1 σ1 τ1 => okp (fun r2 σ2 τ2 => Z σ2 τ2) (B_X12_waits_0 N σ1 τ1 (xs (n + 1)) (xs (n + 2)) (xs (n + 3)) (xs (n + 4)))) (B_X11_waits_0 N σ τ (xs (n + 1)) (xs (n + 2)) (xs (n + 3)) (xs (n + 4)))) : W P9 l e9 room_1 s m9 #[Value.ref b] below meth C9 H locs cells slots Q (F0 m9 1042 ls []) := by
  have hx := S.1
  have hb := S.2.1
  obtain ⟨r_1, σ_1, τ_1, q_1, h_1⟩ := hq
  obtain ⟨r_2, σ_2, τ_2, q_2, hZ⟩ := h_1
  refine lv_aload_n hx hb dL_law_1042 rfl (lv_at hl 3 rfl) ?_
  refine lv_aload_n hx hb dL_law_1043 rfl (lv_at hl 4 rfl) ?_
  refine lv_iload hx hb dL_law_1044 (lv_at hl 0 rfl) ?_
  refine lv_iconst (v := 1) hx hb dL_law_1046 (by decide) ?_
  refine lv_iadd hx hb dL_law_1047 ?_
  refine gx_top (v := nI (n + 1)) (by rw [show (1 : Int32) = nI 1 from rfl, nI_add]) ?_
  refine va_sld (i := nI (n + 1)) hx hb hX hbl hbA hw.2 (vp_in_nI (by omega) (by omega)) dL_law_1048 ?_
  refine gx_top (v := xs (n + 1)) (by rw [nI_clamp (by omega)]) ?_
  refine lv_aload_n hx hb dL_law_1049 rfl (lv_at hl 4 rfl) ?_
  refine lv_iload hx hb dL_law_1050 (lv_at hl 0 rfl) ?_
  refine lv_iconst (v := 2) hx hb dL_law_1052 (by decide) ?_
  refine lv_iadd hx hb dL_law_1053 ?_
  refine gx_top (v := nI (n + 2)) (by rw [show (2 : Int32) = nI 2 from rfl, nI_add]) ?_
  refine va_sld (i := nI (n + 2)) hx hb hX hbl hbA hw.2 (vp_in_nI (by omega) (by omega)) dL_law_1054 ?_
  refine gx_top (v := xs (n + 2)) (by rw [nI_clamp (by omega)]) ?_
  refine lv_aload_n hx hb dL_law_1055 rfl (lv_at hl 4 rfl) ?_
  refine lv_iload hx hb dL_law_1056 (lv_at hl 0 rfl) ?_
  refine lv_iconst (v := 3) hx hb dL_law_1058 (by decide) ?_
  refine lv_iadd hx hb dL_law_1059 ?_
  refine gx_top (v := nI (n + 3)) (by rw [show (3 : Int32) = nI 3 from rfl, nI_add]) ?_
  refine va_sld (i := nI (n + 3)) hx hb hX hbl hbA hw.2 (vp_in_nI (by omega) (by omega)) dL_law_1060 ?_
  refine gx_top (v := xs (n + 3)) (by rw [nI_clamp (by omega)]) ?_
  refine lv_aload_n hx hb dL_law_1061 rfl (lv_at hl 4 rfl) ?_
  refine lv_iload hx hb dL_law_1062 (lv_at hl 0 rfl) ?_
  refine lv_iconst (v := 4) hx hb dL_law_1064 (by decide) ?_
  refine lv_iadd hx hb dL_law_1065 ?_
  refine gx_top (v := nI (n + 4)) (by rw [show (4 : Int32) = nI 4 from rfl, nI_add]) ?_
  refine va_sld (i := nI (n + 4)) hx hb hX hbl hbA hw.2 (vp_in_nI (by omega) (by omega)) dL_law_1066 ?_
  refine gx_top (v := xs (n + 4)) (by rw [nI_clamp (by omega)]) ?_
  refine gx_cVi (As := [.int (xs (n + 1)), .int (xs (n + 2)), .int (xs (n + 3)), .int (xs (n + 4))]) (rest := []) S hK hA hw (c_X11_waits l (E := E) N σ τ (xs (n + 1)) (xs (n + 2)) (xs (n + 3)) (xs (n + 4)) q_1) cw_L_130 t_0 cl_12 ⟨Nat.le_of_ble_eq_true rfl, Nat.le_of_ble_eq_true rfl⟩ rfl hl.1 rfl (Nat.le_of_ble_eq_true rfl) ⟨by show cells + 0 ≤ 601024; omega, by show slots + 0 ≤ 7293034; omega⟩ dL_law_1067 (fun r9 σ9 τ9 H locs hp hw => ?_)
  obtain ⟨rfl, rfl, rfl⟩ := hp
  refine lv_pop hx hb dL_law_1070 rfl ?_
  refine lv_aload_n hx hb dL_law_1071 rfl (lv_at hl 2 rfl) ?_
  refine lv_aload_n hx hb dL_law_1072 rfl (lv_at hl 4 rfl) ?_
  refine lv_iload hx hb dL_law_1073 (lv_at hl 0 rfl) ?_
  refine lv_iconst (v := 1) hx hb dL_law_1075 (by decide) ?_
  refine lv_iadd hx hb dL_law_1076 ?_
  refine gx_top (v := nI (n + 1)) (by rw [show (1 : Int32) = nI 1 from rfl, nI_add]) ?_
  refine va_sld (i := nI (n + 1)) hx hb hX hbl hbA hw.2 (vp_in_nI (by omega) (by omega)) dL_law_1077 ?_
  refine gx_top (v := xs (n + 1)) (by rw [nI_clamp (by omega)]) ?_
  refine lv_aload_n hx hb dL_law_1078 rfl (lv_at hl 4 rfl) ?_
  refine lv_iload hx hb dL_law_1079 (lv_at hl 0 rfl) ?_
  refine lv_iconst (v := 2) hx hb dL_law_1081 (by decide) ?_
  refine lv_iadd hx hb dL_law_1082 ?_
  refine gx_top (v := nI (n + 2)) (by rw [show (2 : Int32) = nI 2 from rfl, nI_add]) ?_
  refine va_sld (i := nI (n + 2)) hx hb hX hbl hbA hw.2 (vp_in_nI (by omega) (by omega)) dL_law_1083 ?_
  refine gx_top (v := xs (n + 2)) (by rw [nI_clamp (by omega)]) ?_
  refine lv_aload_n hx hb dL_law_1084 rfl (lv_at hl 4 rfl) ?_
  refine lv_iload hx hb dL_law_1085 (lv_at hl 0 rfl) ?_
  refine lv_iconst (v := 3) hx hb dL_law_1087 (by decide) ?_
  refine lv_iadd hx hb dL_law_1088 ?_
  refine gx_top (v := nI (n + 3)) (by rw [show (3 : Int32) = nI 3 from rfl, nI_add]) ?_
  refine va_sld (i := nI (n + 3)) hx hb hX hbl hbA hw.2 (vp_in_nI (by omega) (by omega)) dL_law_1089 ?_
  refine gx_top (v := xs (n + 3)) (by rw [nI_clamp (by omega)]) ?_
  refine lv_aload_n hx hb dL_law_1090 rfl (lv_at hl 4 rfl) ?_
  refine lv_iload hx hb dL_law_1091 (lv_at hl 0 rfl) ?_
  refine lv_iconst (v := 4) hx hb dL_law_1093 (by decide) ?_
  refine lv_iadd hx hb dL_law_1094 ?_
  refine gx_top (v := nI (n + 4)) (by rw [show (4 : Int32) = nI 4 from rfl, nI_add]) ?_
  refine va_sld (i := nI (n + 4)) hx hb hX hbl hbA hw.2 (vp_in_nI (by omega) (by omega)) dL_law_1095 ?_
  refine gx_top (v := xs (n + 4)) (by rw [nI_clamp (by omega)]) ?_
  refine gx_cVi (As := [.int (xs (n + 1)), .int (xs (n + 2)), .int (xs (n + 3)), .int (xs (n + 4))]) (rest := []) S hK hA hw (c_X12_waits l (E := E) N σ_1 τ_1 (xs (n + 1)) (xs (n + 2)) (xs (n + 3)) (xs (n + 4)) q_2) cw_L_133 t_199 cl_13 ⟨Nat.le_of_ble_eq_true rfl, Nat.le_of_ble_eq_true rfl⟩ rfl hl.1 rfl (Nat.le_of_ble_eq_true rfl) ⟨by show cells + 0 ≤ 601024; omega, by show slots + 0 ≤ 7293034; omega⟩ dL_law_1096 (fun r9 σ9 τ9 H locs hp hw => ?_)
  obtain ⟨rfl, rfl, rfl⟩ := hp
  refine lv_pop hx hb dL_law_1099 rfl ?_
  refine lv_goto (tgt := 1662) hx hb dL_law_1100 (by decide) ?_
  refine W.widen (k := cells + 60) (n := slots + 1000) (by omega) (by omega) ?_
  exact kk _ _ _ _ _ hZ hw (lv_sub hl [0, 1, 2, 3, 4] rfl)
set_option maxHeartbeats 4000000 in
set_option maxRecDepth 100000 in
theorem lc_25 (l : Launch) (hl9 : l.stackTraces = false) (S : CallFix P9 m9 C9 cL_law 8 s #[Value.ref b] gx_G RL) (hK : gx_K E s) (hT9 : gx_T s) (hA : gx_Ok gx_tb 0 E s) (hX : va_X b L xs s s.heap) (hbl : b < s.heap.size) (hbA : ¬ gx_A 0 E.2.2 s.heap.size b) (N : Nat) (hN : 4294967296 ≤ N) (hL : L ≤ 3072) (hn : n + 6 ≤ L) (hc : cells + 60 ≤ 601024) (hs : slots + 1000 ≤ 7293034) (hw : gx_W gx_tb 0 E s σ τ H locs) (hl : lv_has ls 8 [(4, .int (nI n)), (3, .ref (E.2.2 + 233)), (2, .ref (E.2.2 + 199)), (1, .ref (E.2.2 + 0)), (0, .ref b)]) (kk : ∀ (σ : gI) (τ : gJ) (H : Heap) (locs : List Loc) (ls : Array Slot), Z σ τ → gx_W gx_tb 0 E s σ τ H locs → lv_has ls 8 [(4, .int (nI n)), (3, .ref (E.2.2 + 233)), (2, .ref (E.2.2 + 199)), (1, .ref (E.2.2 + 0)), (0, .ref b)] → W P9 l e9 room_1 s m9 #[Value.ref b] below meth C9 H locs (cells + 60) (slots + 1000) Q (F0 m9 1662 ls [])) (hq : okp (fun r1 σ1 τ1 => okp (fun r2 σ2 τ2 => Z σ2 τ2) (B_X12_round_0 N σ1 τ1 (xs (n + 1)))) (B_X11_round_0 N σ τ (xs (n + 1)))) : W P9 l e9 room_1 s m9 #[Value.ref b] below meth C9 H locs cells slots Q (F0 m9 1103 ls []) := by
  have hx := S.1
  have hb := S.2.1
  obtain ⟨r_1, σ_1, τ_1, q_1, h_1⟩ := hq
  obtain ⟨r_2, σ_2, τ_2, q_2, hZ⟩ := h_1
  refine lv_aload_n hx hb dL_law_1103 rfl (lv_at hl 3 rfl) ?_
  refine lv_aload_n hx hb dL_law_1104 rfl (lv_at hl 4 rfl) ?_
  refine lv_iload hx hb dL_law_1105 (lv_at hl 0 rfl) ?_
  refine lv_iconst (v := 1) hx hb dL_law_1107 (by decide) ?_
  refine lv_iadd hx hb dL_law_1108 ?_
  refine gx_top (v := nI (n + 1)) (by rw [show (1 : Int32) = nI 1 from rfl, nI_add]) ?_
  refine va_sld (i := nI (n + 1)) hx hb hX hbl hbA hw.2 (vp_in_nI (by omega) (by omega)) dL_law_1109 ?_
  refine gx_top (v := xs (n + 1)) (by rw [nI_clamp (by omega)]) ?_
  refine gx_cVi (As := [.int (xs (n + 1))]) (rest := []) S hK hA hw (c_X11_round l (E := E) N σ τ (xs (n + 1)) q_1) cw_L_134 t_0 cl_12 ⟨Nat.le_of_ble_eq_true rfl, Nat.le_of_ble_eq_true rfl⟩ rfl hl.1 rfl (Nat.le_of_ble_eq_true rfl) ⟨by show cells + 0 ≤ 601024; omega, by show slots + 0 ≤ 7293034; omega⟩ dL_law_1110 (fun r9 σ9 τ9 H locs hp hw => ?_)
  obtain ⟨rfl, rfl, rfl⟩ := hp
  refine lv_pop hx hb dL_law_1113 rfl ?_
  refine lv_aload_n hx hb dL_law_1114 rfl (lv_at hl 2 rfl) ?_
  refine lv_aload_n hx hb dL_law_1115 rfl (lv_at hl 4 rfl) ?_
  refine lv_iload hx hb dL_law_1116 (lv_at hl 0 rfl) ?_
  refine lv_iconst (v := 1) hx hb dL_law_1118 (by decide) ?_
  refine lv_iadd hx hb dL_law_1119 ?_
  refine gx_top (v := nI (n + 1)) (by rw [show (1 : Int32) = nI 1 from rfl, nI_add]) ?_
  refine va_sld (i := nI (n + 1)) hx hb hX hbl hbA hw.2 (vp_in_nI (by omega) (by omega)) dL_law_1120 ?_
  refine gx_top (v := xs (n + 1)) (by rw [nI_clamp (by omega)]) ?_
  refine gx_cVi (As := [.int (xs (n + 1))]) (rest := []) S hK hA hw (c_X12_round l (E := E) N σ_1 τ_1 (xs (n + 1)) q_2) cw_L_137 t_199 cl_13 ⟨Nat.le_of_ble_eq_true rfl, Nat.le_of_ble_eq_true rfl⟩ rfl hl.1 rfl (Nat.le_of_ble_eq_true rfl) ⟨by show cells + 0 ≤ 601024; omega, by show slots + 0 ≤ 7293034; omega⟩ dL_law_1121 (fun r9 σ9 τ9 H locs hp hw => ?_)
  obtain ⟨rfl, rfl, rfl⟩ := hp
  refine lv_pop hx hb dL_law_1124 rfl ?_
  refine lv_goto (tgt := 1662) hx hb dL_law_1125 (by decide) ?_
  refine W.widen (k := cells + 60) (n := slots + 1000) (by omega) (by omega) ?_
  exact kk _ _ _ _ _ hZ hw (lv_sub hl [0, 1, 2, 3, 4] rfl)
set_option maxHeartbeats 4000000 in
set_option maxRecDepth 100000 in
theorem lc_26 (l : Launch) (hl9 : l.stackTraces = false) (S : CallFix P9 m9 C9 cL_law 8 s #[Value.ref b] gx_G RL) (hK : gx_K E s) (hT9 : gx_T s) (hA : gx_Ok gx_tb 0 E s) (hX : va_X b L xs s s.heap) (hbl : b < s.heap.size) (hbA : ¬ gx_A 0 E.2.2 s.heap.size b) (N : Nat) (hN : 4294967296 ≤ N) (hL : L ≤ 3072) (hn : n + 6 ≤ L) (hc : cells + 60 ≤ 601024) (hs : slots + 1000 ≤ 7293034) (hw : gx_W gx_tb 0 E s σ τ H locs) (hl : lv_has ls 8 [(4, .int (nI n)), (3, .ref (E.2.2 + 233)), (2, .ref (E.2.2 + 199)), (1, .ref (E.2.2 + 0)), (0, .ref b)]) (kk : ∀ (σ : gI) (τ : gJ) (H : Heap) (locs : List Loc) (ls : Array Slot), Z σ τ → gx_W gx_tb 0 E s σ τ H locs → lv_has ls 8 [(4, .int (nI n)), (3, .ref (E.2.2 + 233)), (2, .ref (E.2.2 + 199)), (1, .ref (E.2.2 + 0)), (0, .ref b)] → W P9 l e9 room_1 s m9 #[Value.ref b] below meth C9 H locs (cells + 60) (slots + 1000) Q (F0 m9 1662 ls [])) (hq : okp (fun r1 σ1 τ1 => okp (fun r2 σ2 τ2 => Z σ2 τ2) (B_X12_save_0 N σ1 τ1 (xs (n + 1)))) (B_X11_save_0 N σ τ (xs (n + 1)))) : W P9 l e9 room_1 s m9 #[Value.ref b] below meth C9 H locs cells slots Q (F0 m9 1128 ls []) := by
  have hx := S.1
  have hb := S.2.1
  obtain ⟨r_1, σ_1, τ_1, q_1, h_1⟩ := hq
  obtain ⟨r_2, σ_2, τ_2, q_2, hZ⟩ := h_1
  refine lv_aload_n hx hb dL_law_1128 rfl (lv_at hl 3 rfl) ?_
  refine lv_aload_n hx hb dL_law_1129 rfl (lv_at hl 4 rfl) ?_
  refine lv_iload hx hb dL_law_1130 (lv_at hl 0 rfl) ?_
  refine lv_iconst (v := 1) hx hb dL_law_1132 (by decide) ?_
  refine lv_iadd hx hb dL_law_1133 ?_
  refine gx_top (v := nI (n + 1)) (by rw [show (1 : Int32) = nI 1 from rfl, nI_add]) ?_
  refine va_sld (i := nI (n + 1)) hx hb hX hbl hbA hw.2 (vp_in_nI (by omega) (by omega)) dL_law_1134 ?_
  refine gx_top (v := xs (n + 1)) (by rw [nI_clamp (by omega)]) ?_
  refine gx_cVi (As := [.int (xs (n + 1))]) (rest := []) S hK hA hw (c_X11_save l (E := E) N σ τ (xs (n + 1)) q_1) cw_L_138 t_0 cl_12 ⟨Nat.le_of_ble_eq_true rfl, Nat.le_of_ble_eq_true rfl⟩ rfl hl.1 rfl (Nat.le_of_ble_eq_true rfl) ⟨by show cells + 0 ≤ 601024; omega, by show slots + 0 ≤ 7293034; omega⟩ dL_law_1135 (fun r9 σ9 τ9 H locs hp hw => ?_)
  obtain ⟨rfl, rfl, rfl⟩ := hp
  refine lv_pop hx hb dL_law_1138 rfl ?_
  refine lv_aload_n hx hb dL_law_1139 rfl (lv_at hl 2 rfl) ?_
  refine lv_aload_n hx hb dL_law_1140 rfl (lv_at hl 4 rfl) ?_
  refine lv_iload hx hb dL_law_1141 (lv_at hl 0 rfl) ?_
  refine lv_iconst (v := 1) hx hb dL_law_1143 (by decide) ?_
  refine lv_iadd hx hb dL_law_1144 ?_
  refine gx_top (v := nI (n + 1)) (by rw [show (1 : Int32) = nI 1 from rfl, nI_add]) ?_
  refine va_sld (i := nI (n + 1)) hx hb hX hbl hbA hw.2 (vp_in_nI (by omega) (by omega)) dL_law_1145 ?_
  refine gx_top (v := xs (n + 1)) (by rw [nI_clamp (by omega)]) ?_
  refine gx_cVi (As := [.int (xs (n + 1))]) (rest := []) S hK hA hw (c_X12_save l (E := E) N σ_1 τ_1 (xs (n + 1)) q_2) cw_L_141 t_199 cl_13 ⟨Nat.le_of_ble_eq_true rfl, Nat.le_of_ble_eq_true rfl⟩ rfl hl.1 rfl (Nat.le_of_ble_eq_true rfl) ⟨by show cells + 0 ≤ 601024; omega, by show slots + 0 ≤ 7293034; omega⟩ dL_law_1146 (fun r9 σ9 τ9 H locs hp hw => ?_)
  obtain ⟨rfl, rfl, rfl⟩ := hp
  refine lv_pop hx hb dL_law_1149 rfl ?_
  refine lv_goto (tgt := 1662) hx hb dL_law_1150 (by decide) ?_
  refine W.widen (k := cells + 60) (n := slots + 1000) (by omega) (by omega) ?_
  exact kk _ _ _ _ _ hZ hw (lv_sub hl [0, 1, 2, 3, 4] rfl)
set_option maxHeartbeats 4000000 in
set_option maxRecDepth 100000 in
theorem lc_27 (l : Launch) (hl9 : l.stackTraces = false) (S : CallFix P9 m9 C9 cL_law 8 s #[Value.ref b] gx_G RL) (hK : gx_K E s) (hT9 : gx_T s) (hA : gx_Ok gx_tb 0 E s) (hX : va_X b L xs s s.heap) (hbl : b < s.heap.size) (hbA : ¬ gx_A 0 E.2.2 s.heap.size b) (N : Nat) (hN : 4294967296 ≤ N) (hL : L ≤ 3072) (hn : n + 6 ≤ L) (hc : cells + 60 ≤ 601024) (hs : slots + 1000 ≤ 7293034) (hw : gx_W gx_tb 0 E s σ τ H locs) (hl : lv_has ls 8 [(4, .int (nI n)), (3, .ref (E.2.2 + 233)), (2, .ref (E.2.2 + 199)), (1, .ref (E.2.2 + 0)), (0, .ref b)]) (kk : ∀ (σ : gI) (τ : gJ) (H : Heap) (locs : List Loc) (ls : Array Slot), Z σ τ → gx_W gx_tb 0 E s σ τ H locs → lv_has ls 8 [(4, .int (nI n)), (3, .ref (E.2.2 + 233)), (2, .ref (E.2.2 + 199)), (1, .ref (E.2.2 + 0)), (0, .ref b)] → W P9 l e9 room_1 s m9 #[Value.ref b] below meth C9 H locs (cells + 60) (slots + 1000) Q (F0 m9 1662 ls [])) (hq : okp (fun r1 σ1 τ1 => okp (fun r2 σ2 τ2 => Z σ2 τ2) (B_X12_steer_0 N σ1 τ1 (xs (n + 1)) (xs (n + 2)))) (B_X11_steer_0 N σ τ (xs (n + 1)) (xs (n + 2)))) : W P9 l e9 room_1 s m9 #[Value.ref b] below meth C9 H locs cells slots Q (F0 m9 1153 ls []) := by
  have hx := S.1
  have hb := S.2.1
  obtain ⟨r_1, σ_1, τ_1, q_1, h_1⟩ := hq
  obtain ⟨r_2, σ_2, τ_2, q_2, hZ⟩ := h_1
  refine lv_aload_n hx hb dL_law_1153 rfl (lv_at hl 3 rfl) ?_
  refine lv_aload_n hx hb dL_law_1154 rfl (lv_at hl 4 rfl) ?_
  refine lv_iload hx hb dL_law_1155 (lv_at hl 0 rfl) ?_
  refine lv_iconst (v := 1) hx hb dL_law_1157 (by decide) ?_
  refine lv_iadd hx hb dL_law_1158 ?_
  refine gx_top (v := nI (n + 1)) (by rw [show (1 : Int32) = nI 1 from rfl, nI_add]) ?_
  refine va_sld (i := nI (n + 1)) hx hb hX hbl hbA hw.2 (vp_in_nI (by omega) (by omega)) dL_law_1159 ?_
  refine gx_top (v := xs (n + 1)) (by rw [nI_clamp (by omega)]) ?_
  refine lv_aload_n hx hb dL_law_1160 rfl (lv_at hl 4 rfl) ?_
  refine lv_iload hx hb dL_law_1161 (lv_at hl 0 rfl) ?_
  refine lv_iconst (v := 2) hx hb dL_law_1163 (by decide) ?_
  refine lv_iadd hx hb dL_law_1164 ?_
  refine gx_top (v := nI (n + 2)) (by rw [show (2 : Int32) = nI 2 from rfl, nI_add]) ?_
  refine va_sld (i := nI (n + 2)) hx hb hX hbl hbA hw.2 (vp_in_nI (by omega) (by omega)) dL_law_1165 ?_
  refine gx_top (v := xs (n + 2)) (by rw [nI_clamp (by omega)]) ?_
  refine gx_cVi (As := [.int (xs (n + 1)), .int (xs (n + 2))]) (rest := []) S hK hA hw (c_X11_steer l (E := E) N σ τ (xs (n + 1)) (xs (n + 2)) q_1) cw_L_142 t_0 cl_12 ⟨Nat.le_of_ble_eq_true rfl, Nat.le_of_ble_eq_true rfl⟩ rfl hl.1 rfl (Nat.le_of_ble_eq_true rfl) ⟨by show cells + 0 ≤ 601024; omega, by show slots + 0 ≤ 7293034; omega⟩ dL_law_1166 (fun r9 σ9 τ9 H locs hp hw => ?_)
  obtain ⟨rfl, rfl, rfl⟩ := hp
  refine lv_pop hx hb dL_law_1169 rfl ?_
  refine lv_aload_n hx hb dL_law_1170 rfl (lv_at hl 2 rfl) ?_
  refine lv_aload_n hx hb dL_law_1171 rfl (lv_at hl 4 rfl) ?_
  refine lv_iload hx hb dL_law_1172 (lv_at hl 0 rfl) ?_
  refine lv_iconst (v := 1) hx hb dL_law_1174 (by decide) ?_
  refine lv_iadd hx hb dL_law_1175 ?_
  refine gx_top (v := nI (n + 1)) (by rw [show (1 : Int32) = nI 1 from rfl, nI_add]) ?_
  refine va_sld (i := nI (n + 1)) hx hb hX hbl hbA hw.2 (vp_in_nI (by omega) (by omega)) dL_law_1176 ?_
  refine gx_top (v := xs (n + 1)) (by rw [nI_clamp (by omega)]) ?_
  refine lv_aload_n hx hb dL_law_1177 rfl (lv_at hl 4 rfl) ?_
  refine lv_iload hx hb dL_law_1178 (lv_at hl 0 rfl) ?_
  refine lv_iconst (v := 2) hx hb dL_law_1180 (by decide) ?_
  refine lv_iadd hx hb dL_law_1181 ?_
  refine gx_top (v := nI (n + 2)) (by rw [show (2 : Int32) = nI 2 from rfl, nI_add]) ?_
  refine va_sld (i := nI (n + 2)) hx hb hX hbl hbA hw.2 (vp_in_nI (by omega) (by omega)) dL_law_1182 ?_
  refine gx_top (v := xs (n + 2)) (by rw [nI_clamp (by omega)]) ?_
  refine gx_cVi (As := [.int (xs (n + 1)), .int (xs (n + 2))]) (rest := []) S hK hA hw (c_X12_steer l (E := E) N σ_1 τ_1 (xs (n + 1)) (xs (n + 2)) q_2) cw_L_145 t_199 cl_13 ⟨Nat.le_of_ble_eq_true rfl, Nat.le_of_ble_eq_true rfl⟩ rfl hl.1 rfl (Nat.le_of_ble_eq_true rfl) ⟨by show cells + 0 ≤ 601024; omega, by show slots + 0 ≤ 7293034; omega⟩ dL_law_1183 (fun r9 σ9 τ9 H locs hp hw => ?_)
  obtain ⟨rfl, rfl, rfl⟩ := hp
  refine lv_pop hx hb dL_law_1186 rfl ?_
  refine lv_goto (tgt := 1662) hx hb dL_law_1187 (by decide) ?_
  refine W.widen (k := cells + 60) (n := slots + 1000) (by omega) (by omega) ?_
  exact kk _ _ _ _ _ hZ hw (lv_sub hl [0, 1, 2, 3, 4] rfl)
set_option maxHeartbeats 4000000 in
set_option maxRecDepth 100000 in
theorem lc_28 (l : Launch) (hl9 : l.stackTraces = false) (S : CallFix P9 m9 C9 cL_law 8 s #[Value.ref b] gx_G RL) (hK : gx_K E s) (hT9 : gx_T s) (hA : gx_Ok gx_tb 0 E s) (hX : va_X b L xs s s.heap) (hbl : b < s.heap.size) (hbA : ¬ gx_A 0 E.2.2 s.heap.size b) (N : Nat) (hN : 4294967296 ≤ N) (hL : L ≤ 3072) (hn : n + 6 ≤ L) (hc : cells + 60 ≤ 601024) (hs : slots + 1000 ≤ 7293034) (hw : gx_W gx_tb 0 E s σ τ H locs) (hl : lv_has ls 8 [(4, .int (nI n)), (3, .ref (E.2.2 + 233)), (2, .ref (E.2.2 + 199)), (1, .ref (E.2.2 + 0)), (0, .ref b)]) (kk : ∀ (σ : gI) (τ : gJ) (H : Heap) (locs : List Loc) (ls : Array Slot), Z σ τ → gx_W gx_tb 0 E s σ τ H locs → lv_has ls 8 [(4, .int (nI n)), (3, .ref (E.2.2 + 233)), (2, .ref (E.2.2 + 199)), (1, .ref (E.2.2 + 0)), (0, .ref b)] → W P9 l e9 room_1 s m9 #[Value.ref b] below meth C9 H locs (cells + 60) (slots + 1000) Q (F0 m9 1662 ls [])) (hq : okp (fun r1 σ1 τ1 => okp (fun r2 σ2 τ2 => Z σ2 τ2) (B_X12_ways_0 N σ1 τ1 (xs (n + 1)) (xs (n + 2)) (xs (n + 3)) (xs (n + 4)))) (B_X11_ways_0 N σ τ (xs (n + 1)) (xs (n + 2)) (xs (n + 3)) (xs (n + 4)))) : W P9 l e9 room_1 s m9 #[Value.ref b] below meth C9 H locs cells slots Q (F0 m9 1190 ls []) := by
  have hx := S.1
  have hb := S.2.1
  obtain ⟨r_1, σ_1, τ_1, q_1, h_1⟩ := hq
  obtain ⟨r_2, σ_2, τ_2, q_2, hZ⟩ := h_1
  refine lv_aload_n hx hb dL_law_1190 rfl (lv_at hl 3 rfl) ?_
  refine lv_aload_n hx hb dL_law_1191 rfl (lv_at hl 4 rfl) ?_
  refine lv_iload hx hb dL_law_1192 (lv_at hl 0 rfl) ?_
  refine lv_iconst (v := 1) hx hb dL_law_1194 (by decide) ?_
  refine lv_iadd hx hb dL_law_1195 ?_
  refine gx_top (v := nI (n + 1)) (by rw [show (1 : Int32) = nI 1 from rfl, nI_add]) ?_
  refine va_sld (i := nI (n + 1)) hx hb hX hbl hbA hw.2 (vp_in_nI (by omega) (by omega)) dL_law_1196 ?_
  refine gx_top (v := xs (n + 1)) (by rw [nI_clamp (by omega)]) ?_
  refine lv_aload_n hx hb dL_law_1197 rfl (lv_at hl 4 rfl) ?_
  refine lv_iload hx hb dL_law_1198 (lv_at hl 0 rfl) ?_
  refine lv_iconst (v := 2) hx hb dL_law_1200 (by decide) ?_
  refine lv_iadd hx hb dL_law_1201 ?_
  refine gx_top (v := nI (n + 2)) (by rw [show (2 : Int32) = nI 2 from rfl, nI_add]) ?_
  refine va_sld (i := nI (n + 2)) hx hb hX hbl hbA hw.2 (vp_in_nI (by omega) (by omega)) dL_law_1202 ?_
  refine gx_top (v := xs (n + 2)) (by rw [nI_clamp (by omega)]) ?_
  refine lv_aload_n hx hb dL_law_1203 rfl (lv_at hl 4 rfl) ?_
  refine lv_iload hx hb dL_law_1204 (lv_at hl 0 rfl) ?_
  refine lv_iconst (v := 3) hx hb dL_law_1206 (by decide) ?_
  refine lv_iadd hx hb dL_law_1207 ?_
  refine gx_top (v := nI (n + 3)) (by rw [show (3 : Int32) = nI 3 from rfl, nI_add]) ?_
  refine va_sld (i := nI (n + 3)) hx hb hX hbl hbA hw.2 (vp_in_nI (by omega) (by omega)) dL_law_1208 ?_
  refine gx_top (v := xs (n + 3)) (by rw [nI_clamp (by omega)]) ?_
  refine lv_aload_n hx hb dL_law_1209 rfl (lv_at hl 4 rfl) ?_
  refine lv_iload hx hb dL_law_1210 (lv_at hl 0 rfl) ?_
  refine lv_iconst (v := 4) hx hb dL_law_1212 (by decide) ?_
  refine lv_iadd hx hb dL_law_1213 ?_
  refine gx_top (v := nI (n + 4)) (by rw [show (4 : Int32) = nI 4 from rfl, nI_add]) ?_
  refine va_sld (i := nI (n + 4)) hx hb hX hbl hbA hw.2 (vp_in_nI (by omega) (by omega)) dL_law_1214 ?_
  refine gx_top (v := xs (n + 4)) (by rw [nI_clamp (by omega)]) ?_
  refine gx_cVi (As := [.int (xs (n + 1)), .int (xs (n + 2)), .int (xs (n + 3)), .int (xs (n + 4))]) (rest := []) S hK hA hw (c_X11_ways l (E := E) N σ τ (xs (n + 1)) (xs (n + 2)) (xs (n + 3)) (xs (n + 4)) q_1) cw_L_146 t_0 cl_12 ⟨Nat.le_of_ble_eq_true rfl, Nat.le_of_ble_eq_true rfl⟩ rfl hl.1 rfl (Nat.le_of_ble_eq_true rfl) ⟨by show cells + 0 ≤ 601024; omega, by show slots + 0 ≤ 7293034; omega⟩ dL_law_1215 (fun r9 σ9 τ9 H locs hp hw => ?_)
  obtain ⟨rfl, rfl, rfl⟩ := hp
  refine lv_pop hx hb dL_law_1218 rfl ?_
  refine lv_aload_n hx hb dL_law_1219 rfl (lv_at hl 2 rfl) ?_
  refine lv_aload_n hx hb dL_law_1220 rfl (lv_at hl 4 rfl) ?_
  refine lv_iload hx hb dL_law_1221 (lv_at hl 0 rfl) ?_
  refine lv_iconst (v := 1) hx hb dL_law_1223 (by decide) ?_
  refine lv_iadd hx hb dL_law_1224 ?_
  refine gx_top (v := nI (n + 1)) (by rw [show (1 : Int32) = nI 1 from rfl, nI_add]) ?_
  refine va_sld (i := nI (n + 1)) hx hb hX hbl hbA hw.2 (vp_in_nI (by omega) (by omega)) dL_law_1225 ?_
  refine gx_top (v := xs (n + 1)) (by rw [nI_clamp (by omega)]) ?_
  refine lv_aload_n hx hb dL_law_1226 rfl (lv_at hl 4 rfl) ?_
  refine lv_iload hx hb dL_law_1227 (lv_at hl 0 rfl) ?_
  refine lv_iconst (v := 2) hx hb dL_law_1229 (by decide) ?_
  refine lv_iadd hx hb dL_law_1230 ?_
  refine gx_top (v := nI (n + 2)) (by rw [show (2 : Int32) = nI 2 from rfl, nI_add]) ?_
  refine va_sld (i := nI (n + 2)) hx hb hX hbl hbA hw.2 (vp_in_nI (by omega) (by omega)) dL_law_1231 ?_
  refine gx_top (v := xs (n + 2)) (by rw [nI_clamp (by omega)]) ?_
  refine lv_aload_n hx hb dL_law_1232 rfl (lv_at hl 4 rfl) ?_
  refine lv_iload hx hb dL_law_1233 (lv_at hl 0 rfl) ?_
  refine lv_iconst (v := 3) hx hb dL_law_1235 (by decide) ?_
  refine lv_iadd hx hb dL_law_1236 ?_
  refine gx_top (v := nI (n + 3)) (by rw [show (3 : Int32) = nI 3 from rfl, nI_add]) ?_
  refine va_sld (i := nI (n + 3)) hx hb hX hbl hbA hw.2 (vp_in_nI (by omega) (by omega)) dL_law_1237 ?_
  refine gx_top (v := xs (n + 3)) (by rw [nI_clamp (by omega)]) ?_
  refine lv_aload_n hx hb dL_law_1238 rfl (lv_at hl 4 rfl) ?_
  refine lv_iload hx hb dL_law_1239 (lv_at hl 0 rfl) ?_
  refine lv_iconst (v := 4) hx hb dL_law_1241 (by decide) ?_
  refine lv_iadd hx hb dL_law_1242 ?_
  refine gx_top (v := nI (n + 4)) (by rw [show (4 : Int32) = nI 4 from rfl, nI_add]) ?_
  refine va_sld (i := nI (n + 4)) hx hb hX hbl hbA hw.2 (vp_in_nI (by omega) (by omega)) dL_law_1243 ?_
  refine gx_top (v := xs (n + 4)) (by rw [nI_clamp (by omega)]) ?_
  refine gx_cVi (As := [.int (xs (n + 1)), .int (xs (n + 2)), .int (xs (n + 3)), .int (xs (n + 4))]) (rest := []) S hK hA hw (c_X12_ways l (E := E) N σ_1 τ_1 (xs (n + 1)) (xs (n + 2)) (xs (n + 3)) (xs (n + 4)) q_2) cw_L_149 t_199 cl_13 ⟨Nat.le_of_ble_eq_true rfl, Nat.le_of_ble_eq_true rfl⟩ rfl hl.1 rfl (Nat.le_of_ble_eq_true rfl) ⟨by show cells + 0 ≤ 601024; omega, by show slots + 0 ≤ 7293034; omega⟩ dL_law_1244 (fun r9 σ9 τ9 H locs hp hw => ?_)
  obtain ⟨rfl, rfl, rfl⟩ := hp
  refine lv_pop hx hb dL_law_1247 rfl ?_
  refine lv_goto (tgt := 1662) hx hb dL_law_1248 (by decide) ?_
  refine W.widen (k := cells + 60) (n := slots + 1000) (by omega) (by omega) ?_
  exact kk _ _ _ _ _ hZ hw (lv_sub hl [0, 1, 2, 3, 4] rfl)
set_option maxHeartbeats 4000000 in
set_option maxRecDepth 100000 in
theorem lc_29 (l : Launch) (hl9 : l.stackTraces = false) (S : CallFix P9 m9 C9 cL_law 8 s #[Value.ref b] gx_G RL) (hK : gx_K E s) (hT9 : gx_T s) (hA : gx_Ok gx_tb 0 E s) (hX : va_X b L xs s s.heap) (hbl : b < s.heap.size) (hbA : ¬ gx_A 0 E.2.2 s.heap.size b) (N : Nat) (hN : 4294967296 ≤ N) (hL : L ≤ 3072) (hn : n + 6 ≤ L) (hc : cells + 60 ≤ 601024) (hs : slots + 1000 ≤ 7293034) (hw : gx_W gx_tb 0 E s σ τ H locs) (hl : lv_has ls 8 [(4, .int (nI n)), (3, .ref (E.2.2 + 233)), (2, .ref (E.2.2 + 199)), (1, .ref (E.2.2 + 0)), (0, .ref b)]) (kk : ∀ (σ : gI) (τ : gJ) (H : Heap) (locs : List Loc) (ls : Array Slot), Z σ τ → gx_W gx_tb 0 E s σ τ H locs → lv_has ls 8 [(4, .int (nI n)), (3, .ref (E.2.2 + 233)), (2, .ref (E.2.2 + 199)), (1, .ref (E.2.2 + 0)), (0, .ref b)] → W P9 l e9 room_1 s m9 #[Value.ref b] below meth C9 H locs (cells + 60) (slots + 1000) Q (F0 m9 1662 ls [])) (hq : okp (fun r1 σ1 τ1 => okp (fun r2 σ2 τ2 => Z σ2 τ2) (B_X12_duel_0 N σ1 τ1 (xs (n + 1)) (xs (n + 2)) (xs (n + 3)) (xs (n + 4)) (xs (n + 5)))) (B_X11_duel_0 N σ τ (xs (n + 1)) (xs (n + 2)) (xs (n + 3)) (xs (n + 4)) (xs (n + 5)))) : W P9 l e9 room_1 s m9 #[Value.ref b] below meth C9 H locs cells slots Q (F0 m9 1251 ls []) := by
  have hx := S.1
  have hb := S.2.1
  obtain ⟨r_1, σ_1, τ_1, q_1, h_1⟩ := hq
  obtain ⟨r_2, σ_2, τ_2, q_2, hZ⟩ := h_1
  refine lv_aload_n hx hb dL_law_1251 rfl (lv_at hl 3 rfl) ?_
  refine lv_aload_n hx hb dL_law_1252 rfl (lv_at hl 4 rfl) ?_
  refine lv_iload hx hb dL_law_1253 (lv_at hl 0 rfl) ?_
  refine lv_iconst (v := 1) hx hb dL_law_1255 (by decide) ?_
  refine lv_iadd hx hb dL_law_1256 ?_
  refine gx_top (v := nI (n + 1)) (by rw [show (1 : Int32) = nI 1 from rfl, nI_add]) ?_
  refine va_sld (i := nI (n + 1)) hx hb hX hbl hbA hw.2 (vp_in_nI (by omega) (by omega)) dL_law_1257 ?_
  refine gx_top (v := xs (n + 1)) (by rw [nI_clamp (by omega)]) ?_
  refine lv_aload_n hx hb dL_law_1258 rfl (lv_at hl 4 rfl) ?_
  refine lv_iload hx hb dL_law_1259 (lv_at hl 0 rfl) ?_
  refine lv_iconst (v := 2) hx hb dL_law_1261 (by decide) ?_
  refine lv_iadd hx hb dL_law_1262 ?_
  refine gx_top (v := nI (n + 2)) (by rw [show (2 : Int32) = nI 2 from rfl, nI_add]) ?_
  refine va_sld (i := nI (n + 2)) hx hb hX hbl hbA hw.2 (vp_in_nI (by omega) (by omega)) dL_law_1263 ?_
  refine gx_top (v := xs (n + 2)) (by rw [nI_clamp (by omega)]) ?_
  refine lv_aload_n hx hb dL_law_1264 rfl (lv_at hl 4 rfl) ?_
  refine lv_iload hx hb dL_law_1265 (lv_at hl 0 rfl) ?_
  refine lv_iconst (v := 3) hx hb dL_law_1267 (by decide) ?_
  refine lv_iadd hx hb dL_law_1268 ?_
  refine gx_top (v := nI (n + 3)) (by rw [show (3 : Int32) = nI 3 from rfl, nI_add]) ?_
  refine va_sld (i := nI (n + 3)) hx hb hX hbl hbA hw.2 (vp_in_nI (by omega) (by omega)) dL_law_1269 ?_
  refine gx_top (v := xs (n + 3)) (by rw [nI_clamp (by omega)]) ?_
  refine lv_aload_n hx hb dL_law_1270 rfl (lv_at hl 4 rfl) ?_
  refine lv_iload hx hb dL_law_1271 (lv_at hl 0 rfl) ?_
  refine lv_iconst (v := 4) hx hb dL_law_1273 (by decide) ?_
  refine lv_iadd hx hb dL_law_1274 ?_
  refine gx_top (v := nI (n + 4)) (by rw [show (4 : Int32) = nI 4 from rfl, nI_add]) ?_
  refine va_sld (i := nI (n + 4)) hx hb hX hbl hbA hw.2 (vp_in_nI (by omega) (by omega)) dL_law_1275 ?_
  refine gx_top (v := xs (n + 4)) (by rw [nI_clamp (by omega)]) ?_
  refine lv_aload_n hx hb dL_law_1276 rfl (lv_at hl 4 rfl) ?_
  refine lv_iload hx hb dL_law_1277 (lv_at hl 0 rfl) ?_
  refine lv_iconst (v := 5) hx hb dL_law_1279 (by decide) ?_
  refine lv_iadd hx hb dL_law_1280 ?_
  refine gx_top (v := nI (n + 5)) (by rw [show (5 : Int32) = nI 5 from rfl, nI_add]) ?_
  refine va_sld (i := nI (n + 5)) hx hb hX hbl hbA hw.2 (vp_in_nI (by omega) (by omega)) dL_law_1281 ?_
  refine gx_top (v := xs (n + 5)) (by rw [nI_clamp (by omega)]) ?_
  refine gx_cVi (As := [.int (xs (n + 1)), .int (xs (n + 2)), .int (xs (n + 3)), .int (xs (n + 4)), .int (xs (n + 5))]) (rest := []) S hK hA hw (c_X11_duel l (E := E) N σ τ (xs (n + 1)) (xs (n + 2)) (xs (n + 3)) (xs (n + 4)) (xs (n + 5)) q_1) cw_L_150 t_0 cl_12 ⟨Nat.le_of_ble_eq_true rfl, Nat.le_of_ble_eq_true rfl⟩ rfl hl.1 rfl (Nat.le_of_ble_eq_true rfl) ⟨by show cells + 0 ≤ 601024; omega, by show slots + 0 ≤ 7293034; omega⟩ dL_law_1282 (fun r9 σ9 τ9 H locs hp hw => ?_)
  obtain ⟨rfl, rfl, rfl⟩ := hp
  refine lv_pop hx hb dL_law_1285 rfl ?_
  refine lv_aload_n hx hb dL_law_1286 rfl (lv_at hl 2 rfl) ?_
  refine lv_aload_n hx hb dL_law_1287 rfl (lv_at hl 4 rfl) ?_
  refine lv_iload hx hb dL_law_1288 (lv_at hl 0 rfl) ?_
  refine lv_iconst (v := 1) hx hb dL_law_1290 (by decide) ?_
  refine lv_iadd hx hb dL_law_1291 ?_
  refine gx_top (v := nI (n + 1)) (by rw [show (1 : Int32) = nI 1 from rfl, nI_add]) ?_
  refine va_sld (i := nI (n + 1)) hx hb hX hbl hbA hw.2 (vp_in_nI (by omega) (by omega)) dL_law_1292 ?_
  refine gx_top (v := xs (n + 1)) (by rw [nI_clamp (by omega)]) ?_
  refine lv_aload_n hx hb dL_law_1293 rfl (lv_at hl 4 rfl) ?_
  refine lv_iload hx hb dL_law_1294 (lv_at hl 0 rfl) ?_
  refine lv_iconst (v := 2) hx hb dL_law_1296 (by decide) ?_
  refine lv_iadd hx hb dL_law_1297 ?_
  refine gx_top (v := nI (n + 2)) (by rw [show (2 : Int32) = nI 2 from rfl, nI_add]) ?_
  refine va_sld (i := nI (n + 2)) hx hb hX hbl hbA hw.2 (vp_in_nI (by omega) (by omega)) dL_law_1298 ?_
  refine gx_top (v := xs (n + 2)) (by rw [nI_clamp (by omega)]) ?_
  refine lv_aload_n hx hb dL_law_1299 rfl (lv_at hl 4 rfl) ?_
  refine lv_iload hx hb dL_law_1300 (lv_at hl 0 rfl) ?_
  refine lv_iconst (v := 3) hx hb dL_law_1302 (by decide) ?_
  refine lv_iadd hx hb dL_law_1303 ?_
  refine gx_top (v := nI (n + 3)) (by rw [show (3 : Int32) = nI 3 from rfl, nI_add]) ?_
  refine va_sld (i := nI (n + 3)) hx hb hX hbl hbA hw.2 (vp_in_nI (by omega) (by omega)) dL_law_1304 ?_
  refine gx_top (v := xs (n + 3)) (by rw [nI_clamp (by omega)]) ?_
  refine lv_aload_n hx hb dL_law_1305 rfl (lv_at hl 4 rfl) ?_
  refine lv_iload hx hb dL_law_1306 (lv_at hl 0 rfl) ?_
  refine lv_iconst (v := 4) hx hb dL_law_1308 (by decide) ?_
  refine lv_iadd hx hb dL_law_1309 ?_
  refine gx_top (v := nI (n + 4)) (by rw [show (4 : Int32) = nI 4 from rfl, nI_add]) ?_
  refine va_sld (i := nI (n + 4)) hx hb hX hbl hbA hw.2 (vp_in_nI (by omega) (by omega)) dL_law_1310 ?_
  refine gx_top (v := xs (n + 4)) (by rw [nI_clamp (by omega)]) ?_
  refine lv_aload_n hx hb dL_law_1311 rfl (lv_at hl 4 rfl) ?_
  refine lv_iload hx hb dL_law_1312 (lv_at hl 0 rfl) ?_
  refine lv_iconst (v := 5) hx hb dL_law_1314 (by decide) ?_
  refine lv_iadd hx hb dL_law_1315 ?_
  refine gx_top (v := nI (n + 5)) (by rw [show (5 : Int32) = nI 5 from rfl, nI_add]) ?_
  refine va_sld (i := nI (n + 5)) hx hb hX hbl hbA hw.2 (vp_in_nI (by omega) (by omega)) dL_law_1316 ?_
  refine gx_top (v := xs (n + 5)) (by rw [nI_clamp (by omega)]) ?_
  refine gx_cVi (As := [.int (xs (n + 1)), .int (xs (n + 2)), .int (xs (n + 3)), .int (xs (n + 4)), .int (xs (n + 5))]) (rest := []) S hK hA hw (c_X12_duel l (E := E) N σ_1 τ_1 (xs (n + 1)) (xs (n + 2)) (xs (n + 3)) (xs (n + 4)) (xs (n + 5)) q_2) cw_L_153 t_199 cl_13 ⟨Nat.le_of_ble_eq_true rfl, Nat.le_of_ble_eq_true rfl⟩ rfl hl.1 rfl (Nat.le_of_ble_eq_true rfl) ⟨by show cells + 0 ≤ 601024; omega, by show slots + 0 ≤ 7293034; omega⟩ dL_law_1317 (fun r9 σ9 τ9 H locs hp hw => ?_)
  obtain ⟨rfl, rfl, rfl⟩ := hp
  refine lv_pop hx hb dL_law_1320 rfl ?_
  refine lv_goto (tgt := 1662) hx hb dL_law_1321 (by decide) ?_
  refine W.widen (k := cells + 60) (n := slots + 1000) (by omega) (by omega) ?_
  exact kk _ _ _ _ _ hZ hw (lv_sub hl [0, 1, 2, 3, 4] rfl)
set_option maxHeartbeats 4000000 in
set_option maxRecDepth 100000 in
theorem lc_30 (l : Launch) (hl9 : l.stackTraces = false) (S : CallFix P9 m9 C9 cL_law 8 s #[Value.ref b] gx_G RL) (hK : gx_K E s) (hT9 : gx_T s) (hA : gx_Ok gx_tb 0 E s) (hX : va_X b L xs s s.heap) (hbl : b < s.heap.size) (hbA : ¬ gx_A 0 E.2.2 s.heap.size b) (N : Nat) (hN : 4294967296 ≤ N) (hL : L ≤ 3072) (hn : n + 6 ≤ L) (hc : cells + 60 ≤ 601024) (hs : slots + 1000 ≤ 7293034) (hw : gx_W gx_tb 0 E s σ τ H locs) (hl : lv_has ls 8 [(4, .int (nI n)), (3, .ref (E.2.2 + 233)), (2, .ref (E.2.2 + 199)), (1, .ref (E.2.2 + 0)), (0, .ref b)]) (kk : ∀ (σ : gI) (τ : gJ) (H : Heap) (locs : List Loc) (ls : Array Slot), Z σ τ → gx_W gx_tb 0 E s σ τ H locs → lv_has ls 8 [(4, .int (nI n)), (3, .ref (E.2.2 + 233)), (2, .ref (E.2.2 + 199)), (1, .ref (E.2.2 + 0)), (0, .ref b)] → W P9 l e9 room_1 s m9 #[Value.ref b] below meth C9 H locs (cells + 60) (slots + 1000) Q (F0 m9 1662 ls [])) (hq : okp (fun r1 σ1 τ1 => okp (fun r2 σ2 τ2 => Z σ2 τ2) (B_X12_cork_0 N σ1 τ1 (xs (n + 1)) (xs (n + 2)) (xs (n + 3)))) (B_X11_cork_0 N σ τ (xs (n + 1)) (xs (n + 2)) (xs (n + 3)))) : W P9 l e9 room_1 s m9 #[Value.ref b] below meth C9 H locs cells slots Q (F0 m9 1324 ls []) := by
  have hx := S.1
  have hb := S.2.1
  obtain ⟨r_1, σ_1, τ_1, q_1, h_1⟩ := hq
  obtain ⟨r_2, σ_2, τ_2, q_2, hZ⟩ := h_1
  refine lv_aload_n hx hb dL_law_1324 rfl (lv_at hl 3 rfl) ?_
  refine lv_aload_n hx hb dL_law_1325 rfl (lv_at hl 4 rfl) ?_
  refine lv_iload hx hb dL_law_1326 (lv_at hl 0 rfl) ?_
  refine lv_iconst (v := 1) hx hb dL_law_1328 (by decide) ?_
  refine lv_iadd hx hb dL_law_1329 ?_
  refine gx_top (v := nI (n + 1)) (by rw [show (1 : Int32) = nI 1 from rfl, nI_add]) ?_
  refine va_sld (i := nI (n + 1)) hx hb hX hbl hbA hw.2 (vp_in_nI (by omega) (by omega)) dL_law_1330 ?_
  refine gx_top (v := xs (n + 1)) (by rw [nI_clamp (by omega)]) ?_
  refine lv_aload_n hx hb dL_law_1331 rfl (lv_at hl 4 rfl) ?_
  refine lv_iload hx hb dL_law_1332 (lv_at hl 0 rfl) ?_
  refine lv_iconst (v := 2) hx hb dL_law_1334 (by decide) ?_
  refine lv_iadd hx hb dL_law_1335 ?_
  refine gx_top (v := nI (n + 2)) (by rw [show (2 : Int32) = nI 2 from rfl, nI_add]) ?_
  refine va_sld (i := nI (n + 2)) hx hb hX hbl hbA hw.2 (vp_in_nI (by omega) (by omega)) dL_law_1336 ?_
  refine gx_top (v := xs (n + 2)) (by rw [nI_clamp (by omega)]) ?_
  refine lv_aload_n hx hb dL_law_1337 rfl (lv_at hl 4 rfl) ?_
  refine lv_iload hx hb dL_law_1338 (lv_at hl 0 rfl) ?_
  refine lv_iconst (v := 3) hx hb dL_law_1340 (by decide) ?_
  refine lv_iadd hx hb dL_law_1341 ?_
  refine gx_top (v := nI (n + 3)) (by rw [show (3 : Int32) = nI 3 from rfl, nI_add]) ?_
  refine va_sld (i := nI (n + 3)) hx hb hX hbl hbA hw.2 (vp_in_nI (by omega) (by omega)) dL_law_1342 ?_
  refine gx_top (v := xs (n + 3)) (by rw [nI_clamp (by omega)]) ?_
  refine gx_cVi (As := [.int (xs (n + 1)), .int (xs (n + 2)), .int (xs (n + 3))]) (rest := []) S hK hA hw (c_X11_cork l (E := E) N σ τ (xs (n + 1)) (xs (n + 2)) (xs (n + 3)) q_1) cw_L_154 t_0 cl_12 ⟨Nat.le_of_ble_eq_true rfl, Nat.le_of_ble_eq_true rfl⟩ rfl hl.1 rfl (Nat.le_of_ble_eq_true rfl) ⟨by show cells + 0 ≤ 601024; omega, by show slots + 0 ≤ 7293034; omega⟩ dL_law_1343 (fun r9 σ9 τ9 H locs hp hw => ?_)
  obtain ⟨rfl, rfl, rfl⟩ := hp
  refine lv_pop hx hb dL_law_1346 rfl ?_
  refine lv_aload_n hx hb dL_law_1347 rfl (lv_at hl 2 rfl) ?_
  refine lv_aload_n hx hb dL_law_1348 rfl (lv_at hl 4 rfl) ?_
  refine lv_iload hx hb dL_law_1349 (lv_at hl 0 rfl) ?_
  refine lv_iconst (v := 1) hx hb dL_law_1351 (by decide) ?_
  refine lv_iadd hx hb dL_law_1352 ?_
  refine gx_top (v := nI (n + 1)) (by rw [show (1 : Int32) = nI 1 from rfl, nI_add]) ?_
  refine va_sld (i := nI (n + 1)) hx hb hX hbl hbA hw.2 (vp_in_nI (by omega) (by omega)) dL_law_1353 ?_
  refine gx_top (v := xs (n + 1)) (by rw [nI_clamp (by omega)]) ?_
  refine lv_aload_n hx hb dL_law_1354 rfl (lv_at hl 4 rfl) ?_
  refine lv_iload hx hb dL_law_1355 (lv_at hl 0 rfl) ?_
  refine lv_iconst (v := 2) hx hb dL_law_1357 (by decide) ?_
  refine lv_iadd hx hb dL_law_1358 ?_
  refine gx_top (v := nI (n + 2)) (by rw [show (2 : Int32) = nI 2 from rfl, nI_add]) ?_
  refine va_sld (i := nI (n + 2)) hx hb hX hbl hbA hw.2 (vp_in_nI (by omega) (by omega)) dL_law_1359 ?_
  refine gx_top (v := xs (n + 2)) (by rw [nI_clamp (by omega)]) ?_
  refine lv_aload_n hx hb dL_law_1360 rfl (lv_at hl 4 rfl) ?_
  refine lv_iload hx hb dL_law_1361 (lv_at hl 0 rfl) ?_
  refine lv_iconst (v := 3) hx hb dL_law_1363 (by decide) ?_
  refine lv_iadd hx hb dL_law_1364 ?_
  refine gx_top (v := nI (n + 3)) (by rw [show (3 : Int32) = nI 3 from rfl, nI_add]) ?_
  refine va_sld (i := nI (n + 3)) hx hb hX hbl hbA hw.2 (vp_in_nI (by omega) (by omega)) dL_law_1365 ?_
  refine gx_top (v := xs (n + 3)) (by rw [nI_clamp (by omega)]) ?_
  refine gx_cVi (As := [.int (xs (n + 1)), .int (xs (n + 2)), .int (xs (n + 3))]) (rest := []) S hK hA hw (c_X12_cork l (E := E) N σ_1 τ_1 (xs (n + 1)) (xs (n + 2)) (xs (n + 3)) q_2) cw_L_157 t_199 cl_13 ⟨Nat.le_of_ble_eq_true rfl, Nat.le_of_ble_eq_true rfl⟩ rfl hl.1 rfl (Nat.le_of_ble_eq_true rfl) ⟨by show cells + 0 ≤ 601024; omega, by show slots + 0 ≤ 7293034; omega⟩ dL_law_1366 (fun r9 σ9 τ9 H locs hp hw => ?_)
  obtain ⟨rfl, rfl, rfl⟩ := hp
  refine lv_pop hx hb dL_law_1369 rfl ?_
  refine lv_goto (tgt := 1662) hx hb dL_law_1370 (by decide) ?_
  refine W.widen (k := cells + 60) (n := slots + 1000) (by omega) (by omega) ?_
  exact kk _ _ _ _ _ hZ hw (lv_sub hl [0, 1, 2, 3, 4] rfl)
end LG20
