theorem mw_108 : (Cond.initialized RJ7) ∈ gx_G := gx_mem 108 (by decide +kernel) (by decide +kernel)
theorem mw_109 : (Cond.initialized RJ10) ∈ gx_G := gx_mem 109 (by decide +kernel) (by decide +kernel)
theorem mw_121 : (Cond.instanceMethod objectInit) ∈ gx_G := gx_mem 121 (by decide +kernel) (by decide +kernel)
theorem mw_122 : (Cond.code objectInit ⟨#[0xb1]⟩ 1 none) ∈ gx_G := gx_mem 122 (by decide +kernel) (by decide +kernel)
theorem mw_599 : (Cond.static yJ0_checkBoundsBeginEnd_23922) ∈ gx_G := gx_mem 599 (by decide +kernel) (by decide +kernel)
theorem mw_600 : (Cond.code yJ0_checkBoundsBeginEnd_23922 cJ0_checkBoundsBeginEnd_23922 3 none) ∈ gx_G := gx_mem 600 (by decide +kernel) (by decide +kernel)
theorem mw_680 : (Cond.arrayClass .byte) ∈ gx_G := gx_mem 680 (by decide +kernel) (by decide +kernel)
theorem mw_1662 : (Cond.methodLink RJ0 681 yJ0_substring_37a41) ∈ gx_G := gx_mem 1662 (by decide +kernel) (by decide +kernel)
theorem mw_1663 : (Cond.instanceMethod yJ0_substring_37a41) ∈ gx_G := gx_mem 1663 (by decide +kernel) (by decide +kernel)
theorem mw_1664 : (Cond.selects RJ0 yJ0_substring_37a41 yJ0_substring_37a41) ∈ gx_G := gx_mem 1664 (by decide +kernel) (by decide +kernel)
theorem mw_1665 : (Cond.code yJ0_substring_37a41 cJ0_substring_37a41 5 (some (.object "java/lang/String"))) ∈ gx_G := gx_mem 1665 (by decide +kernel) (by decide +kernel)
theorem mw_1666 : (Cond.methodLink RJ0 521 yJ0_checkBoundsBeginEnd_23922) ∈ gx_G := gx_mem 1666 (by decide +kernel) (by decide +kernel)
theorem mw_1667 : (Cond.methodLink RJ0 685 yJ1_newString_b4f7a) ∈ gx_G := gx_mem 1667 (by decide +kernel) (by decide +kernel)
theorem mw_1668 : (Cond.static yJ1_newString_b4f7a) ∈ gx_G := gx_mem 1668 (by decide +kernel) (by decide +kernel)
theorem mw_1669 : (Cond.code yJ1_newString_b4f7a cJ1_newString_b4f7a 3 (some (.object "java/lang/String"))) ∈ gx_G := gx_mem 1669 (by decide +kernel) (by decide +kernel)
theorem mw_1671 : (Cond.classLink RJ1 1 RJ0) ∈ gx_G := gx_mem 1671 (by decide +kernel) (by decide +kernel)
theorem mw_1672 : (Cond.instantiable RJ0 4) ∈ gx_G := gx_mem 1672 (by decide +kernel) (by decide +kernel)
theorem mw_1673 : (Cond.methodLink RJ1 232 yJ7_copyOfRange_39247) ∈ gx_G := gx_mem 1673 (by decide +kernel) (by decide +kernel)
theorem mw_1674 : (Cond.static yJ7_copyOfRange_39247) ∈ gx_G := gx_mem 1674 (by decide +kernel) (by decide +kernel)
theorem mw_1675 : (Cond.code yJ7_copyOfRange_39247 cJ7_copyOfRange_39247 3 (some (.array .byte))) ∈ gx_G := gx_mem 1675 (by decide +kernel) (by decide +kernel)
theorem mw_1676 : (Cond.methodLink RJ7 339 yJ7_copyOfRangeByte_39247) ∈ gx_G := gx_mem 1676 (by decide +kernel) (by decide +kernel)
theorem mw_1677 : (Cond.static yJ7_copyOfRangeByte_39247) ∈ gx_G := gx_mem 1677 (by decide +kernel) (by decide +kernel)
theorem mw_1678 : (Cond.code yJ7_copyOfRangeByte_39247 cJ7_copyOfRangeByte_39247 5 (some (.array .byte))) ∈ gx_G := gx_mem 1678 (by decide +kernel) (by decide +kernel)
theorem mw_1679 : (Cond.methodLink RJ7 343 yJ7_checkLength_df160) ∈ gx_G := gx_mem 1679 (by decide +kernel) (by decide +kernel)
theorem mw_1680 : (Cond.static yJ7_checkLength_df160) ∈ gx_G := gx_mem 1680 (by decide +kernel) (by decide +kernel)
theorem mw_1681 : (Cond.code yJ7_checkLength_df160 cJ7_checkLength_df160 2 none) ∈ gx_G := gx_mem 1681 (by decide +kernel) (by decide +kernel)
theorem mw_1682 : (Cond.methodLink RJ7 304 Lib.Math.min.name) ∈ gx_G := gx_mem 1682 (by decide +kernel) (by decide +kernel)
theorem mw_1683 : (Cond.methodLink RJ7 150 arraycopyName) ∈ gx_G := gx_mem 1683 (by decide +kernel) (by decide +kernel)
theorem mw_1684 : (Cond.static arraycopyName) ∈ gx_G := gx_mem 1684 (by decide +kernel) (by decide +kernel)
theorem mw_1685 : (Cond.native arraycopyName) ∈ gx_G := gx_mem 1685 (by decide +kernel) (by decide +kernel)
theorem mw_1693 : (Cond.methodLink RJ1 112 yJ0_init_031fb) ∈ gx_G := gx_mem 1693 (by decide +kernel) (by decide +kernel)
theorem mw_1694 : (Cond.instanceMethod yJ0_init_031fb) ∈ gx_G := gx_mem 1694 (by decide +kernel) (by decide +kernel)
theorem mw_1695 : (Cond.code yJ0_init_031fb cJ0_init_031fb 3 none) ∈ gx_G := gx_mem 1695 (by decide +kernel) (by decide +kernel)
theorem mw_1696 : (Cond.methodLink RJ0 1 objectInit) ∈ gx_G := gx_mem 1696 (by decide +kernel) (by decide +kernel)
theorem cw_J7_343 : gx_Ws RJ7 343 yJ7_checkLength_df160 cJ7_checkLength_df160 2 none 2 := ⟨⟨mw_1679, mw_1680, mw_108, mw_1681⟩, by decide +kernel⟩
theorem cw_J7_339 : gx_Ws RJ7 339 yJ7_copyOfRangeByte_39247 cJ7_copyOfRangeByte_39247 5 (some (.array .byte)) 3 := ⟨⟨mw_1676, mw_1677, mw_108, mw_1678⟩, by decide +kernel⟩
theorem cw_J1_232 : gx_Ws RJ1 232 yJ7_copyOfRange_39247 cJ7_copyOfRange_39247 3 (some (.array .byte)) 3 := ⟨⟨mw_1673, mw_1674, mw_108, mw_1675⟩, by decide +kernel⟩
theorem cw_J1_112 : gx_Wi RJ1 112 yJ0_init_031fb cJ0_init_031fb 3 2 := ⟨⟨mw_1693, mw_1694, mw_103, mw_1695⟩, by decide +kernel⟩
theorem cw_J0_521 : gx_Ws RJ0 521 yJ0_checkBoundsBeginEnd_23922 cJ0_checkBoundsBeginEnd_23922 3 none 3 := ⟨⟨mw_1666, mw_599, mw_103, mw_600⟩, by decide +kernel⟩
theorem cw_J0_685 : gx_Ws RJ0 685 yJ1_newString_b4f7a cJ1_newString_b4f7a 3 (some (.object "java/lang/String")) 3 := ⟨⟨mw_1667, mw_1668, mw_104, mw_1669⟩, by decide +kernel⟩
theorem cw_J0_681 : gx_Wv RJ0 681 yJ0_substring_37a41 cJ0_substring_37a41 5 (some (.object "java/lang/String")) 2 := ⟨⟨mw_1662, mw_1663, mw_1664, mw_103, mw_1665⟩, by decide +kernel⟩
theorem dJ0_init_031fb_0 : decode cJ0_init_031fb 0 = .ok (.aload_n 0, 1) := by decide +kernel
theorem dJ0_init_031fb_1 : decode cJ0_init_031fb 1 = .ok (.invokespecial 1, 3) := by decide +kernel
theorem dJ0_init_031fb_4 : decode cJ0_init_031fb 4 = .ok (.aload_n 0, 1) := by decide +kernel
theorem dJ0_init_031fb_5 : decode cJ0_init_031fb 5 = .ok (.aload_n 1, 1) := by decide +kernel
theorem dJ0_init_031fb_6 : decode cJ0_init_031fb 6 = .ok (.putfield 9, 3) := by decide +kernel
theorem dJ0_init_031fb_9 : decode cJ0_init_031fb 9 = .ok (.aload_n 0, 1) := by decide +kernel
theorem dJ0_init_031fb_10 : decode cJ0_init_031fb 10 = .ok (.iload_n 2, 1) := by decide +kernel
theorem dJ0_init_031fb_11 : decode cJ0_init_031fb 11 = .ok (.putfield 15, 3) := by decide +kernel
theorem dJ0_init_031fb_14 : decode cJ0_init_031fb 14 = .ok (.return_, 1) := by decide +kernel
theorem dJ0_substring_37a41_0 : decode cJ0_substring_37a41 0 = .ok (.aload_n 0, 1) := by decide +kernel
theorem dJ0_substring_37a41_1 : decode cJ0_substring_37a41 1 = .ok (.invokevirtual 505, 3) := by decide +kernel
theorem dJ0_substring_37a41_4 : decode cJ0_substring_37a41 4 = .ok (.istore_n 3, 1) := by decide +kernel
theorem dJ0_substring_37a41_5 : decode cJ0_substring_37a41 5 = .ok (.iload_n 1, 1) := by decide +kernel
theorem dJ0_substring_37a41_6 : decode cJ0_substring_37a41 6 = .ok (.iload_n 2, 1) := by decide +kernel
theorem dJ0_substring_37a41_7 : decode cJ0_substring_37a41 7 = .ok (.iload_n 3, 1) := by decide +kernel
theorem dJ0_substring_37a41_8 : decode cJ0_substring_37a41 8 = .ok (.invokestatic 521, 3) := by decide +kernel
theorem dJ0_substring_37a41_11 : decode cJ0_substring_37a41 11 = .ok (.iload_n 1, 1) := by decide +kernel
theorem dJ0_substring_37a41_12 : decode cJ0_substring_37a41 12 = .ok (.ifCond .ne 10, 3) := by decide +kernel
theorem dJ0_substring_37a41_15 : decode cJ0_substring_37a41 15 = .ok (.iload_n 2, 1) := by decide +kernel
theorem dJ0_substring_37a41_16 : decode cJ0_substring_37a41 16 = .ok (.iload_n 3, 1) := by decide +kernel
theorem dJ0_substring_37a41_17 : decode cJ0_substring_37a41 17 = .ok (.if_icmp .ne 5, 3) := by decide +kernel
theorem dJ0_substring_37a41_20 : decode cJ0_substring_37a41 20 = .ok (.aload_n 0, 1) := by decide +kernel
theorem dJ0_substring_37a41_21 : decode cJ0_substring_37a41 21 = .ok (.areturn, 1) := by decide +kernel
theorem dJ0_substring_37a41_22 : decode cJ0_substring_37a41 22 = .ok (.iload_n 2, 1) := by decide +kernel
theorem dJ0_substring_37a41_23 : decode cJ0_substring_37a41 23 = .ok (.iload_n 1, 1) := by decide +kernel
theorem dJ0_substring_37a41_24 : decode cJ0_substring_37a41 24 = .ok (.isub, 1) := by decide +kernel
theorem dJ0_substring_37a41_25 : decode cJ0_substring_37a41 25 = .ok (.istore 4, 2) := by decide +kernel
theorem dJ0_substring_37a41_27 : decode cJ0_substring_37a41 27 = .ok (.aload_n 0, 1) := by decide +kernel
theorem dJ0_substring_37a41_28 : decode cJ0_substring_37a41 28 = .ok (.invokevirtual 492, 3) := by decide +kernel
theorem dJ0_substring_37a41_31 : decode cJ0_substring_37a41 31 = .ok (.ifCond .eq 16, 3) := by decide +kernel
theorem dJ0_substring_37a41_34 : decode cJ0_substring_37a41 34 = .ok (.aload_n 0, 1) := by decide +kernel
theorem dJ0_substring_37a41_35 : decode cJ0_substring_37a41 35 = .ok (.getfield 9, 3) := by decide +kernel
theorem dJ0_substring_37a41_38 : decode cJ0_substring_37a41 38 = .ok (.iload_n 1, 1) := by decide +kernel
theorem dJ0_substring_37a41_39 : decode cJ0_substring_37a41 39 = .ok (.iload 4, 2) := by decide +kernel
theorem dJ0_substring_37a41_41 : decode cJ0_substring_37a41 41 = .ok (.invokestatic 685, 3) := by decide +kernel
theorem dJ0_substring_37a41_44 : decode cJ0_substring_37a41 44 = .ok (.goto 13, 3) := by decide +kernel
theorem dJ0_substring_37a41_57 : decode cJ0_substring_37a41 57 = .ok (.areturn, 1) := by decide +kernel
theorem dJ0_substring_b52d3_0 : decode cJ0_substring_b52d3 0 = .ok (.aload_n 0, 1) := by decide +kernel
theorem dJ0_substring_b52d3_1 : decode cJ0_substring_b52d3 1 = .ok (.iload_n 1, 1) := by decide +kernel
theorem dJ0_substring_b52d3_2 : decode cJ0_substring_b52d3 2 = .ok (.aload_n 0, 1) := by decide +kernel
theorem dJ0_substring_b52d3_3 : decode cJ0_substring_b52d3 3 = .ok (.invokevirtual 505, 3) := by decide +kernel
theorem dJ0_substring_b52d3_6 : decode cJ0_substring_b52d3 6 = .ok (.invokevirtual 681, 3) := by decide +kernel
theorem dJ0_substring_b52d3_9 : decode cJ0_substring_b52d3 9 = .ok (.areturn, 1) := by decide +kernel
theorem dJ1_newString_b4f7a_0 : decode cJ1_newString_b4f7a 0 = .ok (.iload_n 2, 1) := by decide +kernel
theorem dJ1_newString_b4f7a_1 : decode cJ1_newString_b4f7a 1 = .ok (.ifCond .ne 6, 3) := by decide +kernel
theorem dJ1_newString_b4f7a_7 : decode cJ1_newString_b4f7a 7 = .ok (.new 1, 3) := by decide +kernel
theorem dJ1_newString_b4f7a_10 : decode cJ1_newString_b4f7a 10 = .ok (.dup, 1) := by decide +kernel
theorem dJ1_newString_b4f7a_11 : decode cJ1_newString_b4f7a 11 = .ok (.aload_n 0, 1) := by decide +kernel
theorem dJ1_newString_b4f7a_12 : decode cJ1_newString_b4f7a 12 = .ok (.iload_n 1, 1) := by decide +kernel
theorem dJ1_newString_b4f7a_13 : decode cJ1_newString_b4f7a 13 = .ok (.iload_n 1, 1) := by decide +kernel
theorem dJ1_newString_b4f7a_14 : decode cJ1_newString_b4f7a 14 = .ok (.iload_n 2, 1) := by decide +kernel
theorem dJ1_newString_b4f7a_15 : decode cJ1_newString_b4f7a 15 = .ok (.iadd, 1) := by decide +kernel
theorem dJ1_newString_b4f7a_16 : decode cJ1_newString_b4f7a 16 = .ok (.invokestatic 232, 3) := by decide +kernel
theorem dJ1_newString_b4f7a_19 : decode cJ1_newString_b4f7a 19 = .ok (.iconst 0, 1) := by decide +kernel
theorem dJ1_newString_b4f7a_20 : decode cJ1_newString_b4f7a 20 = .ok (.invokespecial 112, 3) := by decide +kernel
theorem dJ1_newString_b4f7a_23 : decode cJ1_newString_b4f7a 23 = .ok (.areturn, 1) := by decide +kernel
theorem dJ7_checkLength_df160_0 : decode cJ7_checkLength_df160 0 = .ok (.iload_n 1, 1) := by decide +kernel
theorem dJ7_checkLength_df160_1 : decode cJ7_checkLength_df160 1 = .ok (.iload_n 0, 1) := by decide +kernel
theorem dJ7_checkLength_df160_2 : decode cJ7_checkLength_df160 2 = .ok (.if_icmp .ge 35, 3) := by decide +kernel
theorem dJ7_checkLength_df160_5 : decode cJ7_checkLength_df160 5 = .ok (.new 43, 3) := by decide +kernel
theorem dJ7_checkLength_df160_37 : decode cJ7_checkLength_df160 37 = .ok (.return_, 1) := by decide +kernel
theorem dJ7_copyOfRangeByte_39247_0 : decode cJ7_copyOfRangeByte_39247 0 = .ok (.iload_n 1, 1) := by decide +kernel
theorem dJ7_copyOfRangeByte_39247_1 : decode cJ7_copyOfRangeByte_39247 1 = .ok (.iload_n 2, 1) := by decide +kernel
theorem dJ7_copyOfRangeByte_39247_2 : decode cJ7_copyOfRangeByte_39247 2 = .ok (.invokestatic 343, 3) := by decide +kernel
theorem dJ7_copyOfRangeByte_39247_5 : decode cJ7_copyOfRangeByte_39247 5 = .ok (.iload_n 2, 1) := by decide +kernel
theorem dJ7_copyOfRangeByte_39247_6 : decode cJ7_copyOfRangeByte_39247 6 = .ok (.iload_n 1, 1) := by decide +kernel
theorem dJ7_copyOfRangeByte_39247_7 : decode cJ7_copyOfRangeByte_39247 7 = .ok (.isub, 1) := by decide +kernel
theorem dJ7_copyOfRangeByte_39247_8 : decode cJ7_copyOfRangeByte_39247 8 = .ok (.istore_n 3, 1) := by decide +kernel
theorem dJ7_copyOfRangeByte_39247_9 : decode cJ7_copyOfRangeByte_39247 9 = .ok (.iload_n 3, 1) := by decide +kernel
theorem dJ7_copyOfRangeByte_39247_10 : decode cJ7_copyOfRangeByte_39247 10 = .ok (.newarray .byte, 2) := by decide +kernel
theorem dJ7_copyOfRangeByte_39247_12 : decode cJ7_copyOfRangeByte_39247 12 = .ok (.astore 4, 2) := by decide +kernel
theorem dJ7_copyOfRangeByte_39247_14 : decode cJ7_copyOfRangeByte_39247 14 = .ok (.aload_n 0, 1) := by decide +kernel
theorem dJ7_copyOfRangeByte_39247_15 : decode cJ7_copyOfRangeByte_39247 15 = .ok (.iload_n 1, 1) := by decide +kernel
theorem dJ7_copyOfRangeByte_39247_16 : decode cJ7_copyOfRangeByte_39247 16 = .ok (.aload 4, 2) := by decide +kernel
theorem dJ7_copyOfRangeByte_39247_18 : decode cJ7_copyOfRangeByte_39247 18 = .ok (.iconst 0, 1) := by decide +kernel
theorem dJ7_copyOfRangeByte_39247_19 : decode cJ7_copyOfRangeByte_39247 19 = .ok (.aload_n 0, 1) := by decide +kernel
theorem dJ7_copyOfRangeByte_39247_20 : decode cJ7_copyOfRangeByte_39247 20 = .ok (.arraylength, 1) := by decide +kernel
theorem dJ7_copyOfRangeByte_39247_21 : decode cJ7_copyOfRangeByte_39247 21 = .ok (.iload_n 1, 1) := by decide +kernel
theorem dJ7_copyOfRangeByte_39247_22 : decode cJ7_copyOfRangeByte_39247 22 = .ok (.isub, 1) := by decide +kernel
theorem dJ7_copyOfRangeByte_39247_23 : decode cJ7_copyOfRangeByte_39247 23 = .ok (.iload_n 3, 1) := by decide +kernel
theorem dJ7_copyOfRangeByte_39247_24 : decode cJ7_copyOfRangeByte_39247 24 = .ok (.invokestatic 304, 3) := by decide +kernel
theorem dJ7_copyOfRangeByte_39247_27 : decode cJ7_copyOfRangeByte_39247 27 = .ok (.invokestatic 150, 3) := by decide +kernel
theorem dJ7_copyOfRangeByte_39247_30 : decode cJ7_copyOfRangeByte_39247 30 = .ok (.aload 4, 2) := by decide +kernel
theorem dJ7_copyOfRangeByte_39247_32 : decode cJ7_copyOfRangeByte_39247 32 = .ok (.areturn, 1) := by decide +kernel
theorem dJ7_copyOfRange_39247_0 : decode cJ7_copyOfRange_39247 0 = .ok (.iload_n 1, 1) := by decide +kernel
theorem dJ7_copyOfRange_39247_1 : decode cJ7_copyOfRange_39247 1 = .ok (.ifCond .ne 9, 3) := by decide +kernel
theorem dJ7_copyOfRange_39247_10 : decode cJ7_copyOfRange_39247 10 = .ok (.aload_n 0, 1) := by decide +kernel
theorem dJ7_copyOfRange_39247_11 : decode cJ7_copyOfRange_39247 11 = .ok (.iload_n 1, 1) := by decide +kernel
theorem dJ7_copyOfRange_39247_12 : decode cJ7_copyOfRange_39247 12 = .ok (.iload_n 2, 1) := by decide +kernel
theorem dJ7_copyOfRange_39247_13 : decode cJ7_copyOfRange_39247 13 = .ok (.invokestatic 339, 3) := by decide +kernel
theorem dJ7_copyOfRange_39247_16 : decode cJ7_copyOfRange_39247 16 = .ok (.areturn, 1) := by decide +kernel
