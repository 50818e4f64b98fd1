theorem dX8_isKitchen_11 : decode cX8_isKitchen 11 = .ok (.getfield 37, 3) := by decide +kernel
theorem dX8_isKitchen_14 : decode cX8_isKitchen 14 = .ok (.iload_n 1, 1) := by decide +kernel
theorem dX8_isKitchen_15 : decode cX8_isKitchen 15 = .ok (.ishr, 1) := by decide +kernel
theorem dX8_isKitchen_16 : decode cX8_isKitchen 16 = .ok (.iconst 1, 1) := by decide +kernel
theorem dX8_isKitchen_17 : decode cX8_isKitchen 17 = .ok (.iand, 1) := by decide +kernel
theorem dX8_isKitchen_18 : decode cX8_isKitchen 18 = .ok (.ifCond .eq 7, 3) := by decide +kernel
theorem dX8_isKitchen_25 : decode cX8_isKitchen 25 = .ok (.iconst 0, 1) := by decide +kernel
theorem dX8_isKitchen_26 : decode cX8_isKitchen 26 = .ok (.ireturn, 1) := by decide +kernel
theorem dX8_nextSet_0 : decode cX8_nextSet 0 = .ok (.iload_n 1, 1) := by decide +kernel
theorem dX8_nextSet_1 : decode cX8_nextSet 1 = .ok (.aload_n 0, 1) := by decide +kernel
theorem dX8_nextSet_2 : decode cX8_nextSet 2 = .ok (.getfield 34, 3) := by decide +kernel
theorem dX8_nextSet_5 : decode cX8_nextSet 5 = .ok (.isub, 1) := by decide +kernel
theorem dX8_nextSet_6 : decode cX8_nextSet 6 = .ok (.aload_n 0, 1) := by decide +kernel
theorem dX8_nextSet_7 : decode cX8_nextSet 7 = .ok (.getfield 34, 3) := by decide +kernel
theorem dX8_nextSet_10 : decode cX8_nextSet 10 = .ok (.iand, 1) := by decide +kernel
theorem dX8_nextSet_11 : decode cX8_nextSet 11 = .ok (.ireturn, 1) := by decide +kernel
theorem dX8_read_0 : decode cX8_read 0 = .ok (.aload_n 0, 1) := by decide +kernel
theorem dX8_read_1 : decode cX8_read 1 = .ok (.invokevirtual 40, 3) := by decide +kernel
theorem dX8_read_4 : decode cX8_read 4 = .ok (.aload_n 1, 1) := by decide +kernel
theorem dX8_read_5 : decode cX8_read 5 = .ok (.bipush 76, 2) := by decide +kernel
theorem dX8_read_7 : decode cX8_read 7 = .ok (.invokevirtual 43, 3) := by decide +kernel
theorem dX8_read_10 : decode cX8_read 10 = .ok (.aload_n 1, 1) := by decide +kernel
theorem dX8_read_11 : decode cX8_read 11 = .ok (.iconst 0, 1) := by decide +kernel
theorem dX8_read_12 : decode cX8_read 12 = .ok (.invokevirtual 49, 3) := by decide +kernel
theorem dX8_read_15 : decode cX8_read 15 = .ok (.ifCond .eq 5, 3) := by decide +kernel
theorem dX8_read_18 : decode cX8_read 18 = .ok (.iconst 0, 1) := by decide +kernel
theorem dX8_read_19 : decode cX8_read 19 = .ok (.ireturn, 1) := by decide +kernel
theorem dX9_begin_0 : decode cX9_begin 0 = .ok (.aload_n 0, 1) := by decide +kernel
theorem dX9_begin_1 : decode cX9_begin 1 = .ok (.getfield 29, 3) := by decide +kernel
theorem dX9_begin_4 : decode cX9_begin 4 = .ok (.aload_n 0, 1) := by decide +kernel
theorem dX9_begin_5 : decode cX9_begin 5 = .ok (.getfield 25, 3) := by decide +kernel
theorem dX9_begin_8 : decode cX9_begin 8 = .ok (.invokevirtual 63, 3) := by decide +kernel
theorem dX9_begin_11 : decode cX9_begin 11 = .ok (.aload_n 0, 1) := by decide +kernel
theorem dX9_begin_12 : decode cX9_begin 12 = .ok (.getfield 29, 3) := by decide +kernel
theorem dX9_begin_15 : decode cX9_begin 15 = .ok (.iload_n 1, 1) := by decide +kernel
theorem dX9_begin_16 : decode cX9_begin 16 = .ok (.putfield 77, 3) := by decide +kernel
theorem dX9_begin_19 : decode cX9_begin 19 = .ok (.aload_n 0, 1) := by decide +kernel
theorem dX9_begin_20 : decode cX9_begin 20 = .ok (.getfield 36, 3) := by decide +kernel
theorem dX9_begin_23 : decode cX9_begin 23 = .ok (.iconst 0, 1) := by decide +kernel
theorem dX9_begin_24 : decode cX9_begin 24 = .ok (.putfield 80, 3) := by decide +kernel
theorem dX9_begin_27 : decode cX9_begin 27 = .ok (.aload_n 0, 1) := by decide +kernel
theorem dX9_begin_28 : decode cX9_begin 28 = .ok (.getfield 36, 3) := by decide +kernel
theorem dX9_begin_31 : decode cX9_begin 31 = .ok (.iconst 0, 1) := by decide +kernel
theorem dX9_begin_32 : decode cX9_begin 32 = .ok (.putfield 83, 3) := by decide +kernel
theorem dX9_begin_35 : decode cX9_begin 35 = .ok (.return_, 1) := by decide +kernel
theorem dX9_fitAll_0 : decode cX9_fitAll 0 = .ok (.iconst 0, 1) := by decide +kernel
theorem dX9_fitAll_1 : decode cX9_fitAll 1 = .ok (.istore_n 1, 1) := by decide +kernel
theorem dX9_fitAll_2 : decode cX9_fitAll 2 = .ok (.iconst 0, 1) := by decide +kernel
theorem dX9_fitAll_3 : decode cX9_fitAll 3 = .ok (.istore_n 2, 1) := by decide +kernel
theorem dX9_fitAll_4 : decode cX9_fitAll 4 = .ok (.iload_n 2, 1) := by decide +kernel
theorem dX9_fitAll_5 : decode cX9_fitAll 5 = .ok (.aload_n 0, 1) := by decide +kernel
theorem dX9_fitAll_6 : decode cX9_fitAll 6 = .ok (.getfield 32, 3) := by decide +kernel
theorem dX9_fitAll_9 : decode cX9_fitAll 9 = .ok (.getfield 118, 3) := by decide +kernel
theorem dX9_fitAll_12 : decode cX9_fitAll 12 = .ok (.if_icmp .ge 24, 3) := by decide +kernel
theorem dX9_fitAll_15 : decode cX9_fitAll 15 = .ok (.aload_n 0, 1) := by decide +kernel
theorem dX9_fitAll_16 : decode cX9_fitAll 16 = .ok (.iload_n 1, 1) := by decide +kernel
theorem dX9_fitAll_17 : decode cX9_fitAll 17 = .ok (.iconst 1, 1) := by decide +kernel
theorem dX9_fitAll_18 : decode cX9_fitAll 18 = .ok (.invokevirtual 142, 3) := by decide +kernel
theorem dX9_fitAll_21 : decode cX9_fitAll 21 = .ok (.aload_n 0, 1) := by decide +kernel
theorem dX9_fitAll_22 : decode cX9_fitAll 22 = .ok (.getfield 32, 3) := by decide +kernel
theorem dX9_fitAll_25 : decode cX9_fitAll 25 = .ok (.iload_n 1, 1) := by decide +kernel
theorem dX9_fitAll_26 : decode cX9_fitAll 26 = .ok (.invokevirtual 125, 3) := by decide +kernel
theorem dX9_fitAll_29 : decode cX9_fitAll 29 = .ok (.istore_n 1, 1) := by decide +kernel
theorem dX9_fitAll_30 : decode cX9_fitAll 30 = .ok (.iinc 2 1, 3) := by decide +kernel
theorem dX9_fitAll_33 : decode cX9_fitAll 33 = .ok (.goto (-29), 3) := by decide +kernel
theorem dX9_fitAll_36 : decode cX9_fitAll 36 = .ok (.return_, 1) := by decide +kernel
theorem dX9_fits_0 : decode cX9_fits 0 = .ok (.iload_n 1, 1) := by decide +kernel
theorem dX9_fits_1 : decode cX9_fits 1 = .ok (.ifCond .lt 23, 3) := by decide +kernel
theorem dX9_fits_4 : decode cX9_fits 4 = .ok (.iload_n 1, 1) := by decide +kernel
theorem dX9_fits_5 : decode cX9_fits 5 = .ok (.sipush 4096, 3) := by decide +kernel
theorem dX9_fits_8 : decode cX9_fits 8 = .ok (.if_icmp .ge 16, 3) := by decide +kernel
theorem dX9_fits_11 : decode cX9_fits 11 = .ok (.aload_n 0, 1) := by decide +kernel
theorem dX9_fits_12 : decode cX9_fits 12 = .ok (.getfield 15, 3) := by decide +kernel
theorem dX9_fits_15 : decode cX9_fits 15 = .ok (.iload_n 1, 1) := by decide +kernel
theorem dX9_fits_16 : decode cX9_fits 16 = .ok (.baload, 1) := by decide +kernel
theorem dX9_fits_17 : decode cX9_fits 17 = .ok (.ifCond .eq 7, 3) := by decide +kernel
theorem dX9_fits_20 : decode cX9_fits 20 = .ok (.iconst 1, 1) := by decide +kernel
theorem dX9_fits_21 : decode cX9_fits 21 = .ok (.goto 4, 3) := by decide +kernel
theorem dX9_fits_25 : decode cX9_fits 25 = .ok (.ireturn, 1) := by decide +kernel
theorem dX9_forgetSets_0 : decode cX9_forgetSets 0 = .ok (.iconst 0, 1) := by decide +kernel
theorem dX9_forgetSets_1 : decode cX9_forgetSets 1 = .ok (.istore_n 1, 1) := by decide +kernel
theorem dX9_forgetSets_2 : decode cX9_forgetSets 2 = .ok (.iconst 0, 1) := by decide +kernel
theorem dX9_forgetSets_3 : decode cX9_forgetSets 3 = .ok (.istore_n 2, 1) := by decide +kernel
theorem dX9_forgetSets_4 : decode cX9_forgetSets 4 = .ok (.iload_n 2, 1) := by decide +kernel
theorem dX9_forgetSets_5 : decode cX9_forgetSets 5 = .ok (.aload_n 0, 1) := by decide +kernel
theorem dX9_forgetSets_6 : decode cX9_forgetSets 6 = .ok (.getfield 32, 3) := by decide +kernel
theorem dX9_forgetSets_9 : decode cX9_forgetSets 9 = .ok (.getfield 118, 3) := by decide +kernel
theorem dX9_forgetSets_12 : decode cX9_forgetSets 12 = .ok (.if_icmp .ge 25, 3) := by decide +kernel
theorem dX9_forgetSets_15 : decode cX9_forgetSets 15 = .ok (.aload_n 0, 1) := by decide +kernel
theorem dX9_forgetSets_16 : decode cX9_forgetSets 16 = .ok (.iload_n 1, 1) := by decide +kernel
theorem dX9_forgetSets_17 : decode cX9_forgetSets 17 = .ok (.bipush (-2), 2) := by decide +kernel
theorem dX9_forgetSets_19 : decode cX9_forgetSets 19 = .ok (.invokevirtual 121, 3) := by decide +kernel
theorem dX9_forgetSets_22 : decode cX9_forgetSets 22 = .ok (.aload_n 0, 1) := by decide +kernel
theorem dX9_forgetSets_23 : decode cX9_forgetSets 23 = .ok (.getfield 32, 3) := by decide +kernel
theorem dX9_forgetSets_26 : decode cX9_forgetSets 26 = .ok (.iload_n 1, 1) := by decide +kernel
theorem dX9_forgetSets_27 : decode cX9_forgetSets 27 = .ok (.invokevirtual 125, 3) := by decide +kernel
theorem dX9_forgetSets_30 : decode cX9_forgetSets 30 = .ok (.istore_n 1, 1) := by decide +kernel
theorem dX9_forgetSets_31 : decode cX9_forgetSets 31 = .ok (.iinc 2 1, 3) := by decide +kernel
theorem dX9_forgetSets_34 : decode cX9_forgetSets 34 = .ok (.goto (-30), 3) := by decide +kernel
theorem dX9_forgetSets_37 : decode cX9_forgetSets 37 = .ok (.return_, 1) := by decide +kernel
theorem dX9_go_0 : decode cX9_go 0 = .ok (.aload_n 0, 1) := by decide +kernel
theorem dX9_go_1 : decode cX9_go 1 = .ok (.iload_n 1, 1) := by decide +kernel
theorem dX9_go_2 : decode cX9_go 2 = .ok (.invokevirtual 86, 3) := by decide +kernel
theorem dX9_go_5 : decode cX9_go 5 = .ok (.iconst 0, 1) := by decide +kernel
theorem dX9_go_6 : decode cX9_go 6 = .ok (.istore_n 2, 1) := by decide +kernel
theorem dX9_go_7 : decode cX9_go 7 = .ok (.iload_n 2, 1) := by decide +kernel
theorem dX9_go_8 : decode cX9_go 8 = .ok (.sipush 300, 3) := by decide +kernel
theorem dX9_go_11 : decode cX9_go 11 = .ok (.if_icmp .gt 92, 3) := by decide +kernel
theorem dX9_go_14 : decode cX9_go 14 = .ok (.aload_n 0, 1) := by decide +kernel
theorem dX9_go_15 : decode cX9_go 15 = .ok (.getfield 29, 3) := by decide +kernel
theorem dX9_go_18 : decode cX9_go 18 = .ok (.getfield 89, 3) := by decide +kernel
theorem dX9_go_21 : decode cX9_go 21 = .ok (.aload_n 0, 1) := by decide +kernel
theorem dX9_go_22 : decode cX9_go 22 = .ok (.getfield 36, 3) := by decide +kernel
theorem dX9_go_25 : decode cX9_go 25 = .ok (.getfield 83, 3) := by decide +kernel
theorem dX9_go_28 : decode cX9_go 28 = .ok (.ior, 1) := by decide +kernel
theorem dX9_go_29 : decode cX9_go 29 = .ok (.aload_n 0, 1) := by decide +kernel
theorem dX9_go_30 : decode cX9_go 30 = .ok (.getfield 57, 3) := by decide +kernel
theorem dX9_go_33 : decode cX9_go 33 = .ok (.iand, 1) := by decide +kernel
theorem dX9_go_34 : decode cX9_go 34 = .ok (.ifCond .eq 5, 3) := by decide +kernel
theorem dX9_go_39 : decode cX9_go 39 = .ok (.aload_n 0, 1) := by decide +kernel
theorem dX9_go_40 : decode cX9_go 40 = .ok (.getfield 29, 3) := by decide +kernel
theorem dX9_go_43 : decode cX9_go 43 = .ok (.getfield 92, 3) := by decide +kernel
theorem dX9_go_46 : decode cX9_go 46 = .ok (.aload_n 0, 1) := by decide +kernel
theorem dX9_go_47 : decode cX9_go 47 = .ok (.getfield 57, 3) := by decide +kernel
theorem dX9_go_50 : decode cX9_go 50 = .ok (.iand, 1) := by decide +kernel
theorem dX9_go_51 : decode cX9_go 51 = .ok (.aload_n 0, 1) := by decide +kernel
theorem dX9_go_52 : decode cX9_go 52 = .ok (.getfield 57, 3) := by decide +kernel
theorem dX9_go_55 : decode cX9_go 55 = .ok (.if_icmp .ne 24, 3) := by decide +kernel
theorem dX9_go_58 : decode cX9_go 58 = .ok (.iload_n 2, 1) := by decide +kernel
theorem dX9_go_59 : decode cX9_go 59 = .ok (.bipush 16, 2) := by decide +kernel
theorem dX9_go_61 : decode cX9_go 61 = .ok (.imul, 1) := by decide +kernel
theorem dX9_go_62 : decode cX9_go 62 = .ok (.iconst 0, 1) := by decide +kernel
theorem dX9_go_63 : decode cX9_go 63 = .ok (.aload_n 0, 1) := by decide +kernel
theorem dX9_go_64 : decode cX9_go 64 = .ok (.getfield 29, 3) := by decide +kernel
theorem dX9_go_67 : decode cX9_go 67 = .ok (.aload_n 0, 1) := by decide +kernel
theorem dX9_go_68 : decode cX9_go 68 = .ok (.getfield 60, 3) := by decide +kernel
theorem dX9_go_71 : decode cX9_go 71 = .ok (.invokevirtual 95, 3) := by decide +kernel
theorem dX9_go_74 : decode cX9_go 74 = .ok (.invokestatic 99, 3) := by decide +kernel
theorem dX9_go_77 : decode cX9_go 77 = .ok (.iadd, 1) := by decide +kernel
theorem dX9_go_78 : decode cX9_go 78 = .ok (.ireturn, 1) := by decide +kernel
theorem dX9_goOn_0 : decode cX9_goOn 0 = .ok (.aload_n 0, 1) := by decide +kernel
theorem dX9_goOn_1 : decode cX9_goOn 1 = .ok (.getfield 29, 3) := by decide +kernel
theorem dX9_goOn_4 : decode cX9_goOn 4 = .ok (.aload_n 1, 1) := by decide +kernel
theorem dX9_goOn_5 : decode cX9_goOn 5 = .ok (.invokevirtual 63, 3) := by decide +kernel
theorem dX9_goOn_8 : decode cX9_goOn 8 = .ok (.iconst 0, 1) := by decide +kernel
theorem dX9_goOn_9 : decode cX9_goOn 9 = .ok (.istore_n 3, 1) := by decide +kernel
theorem dX9_goOn_10 : decode cX9_goOn 10 = .ok (.iload_n 3, 1) := by decide +kernel
theorem dX9_goOn_11 : decode cX9_goOn 11 = .ok (.iload_n 2, 1) := by decide +kernel
theorem dX9_goOn_12 : decode cX9_goOn 12 = .ok (.if_icmp .ge 30, 3) := by decide +kernel
theorem dX9_goOn_15 : decode cX9_goOn 15 = .ok (.aload_n 0, 1) := by decide +kernel
theorem dX9_goOn_16 : decode cX9_goOn 16 = .ok (.getfield 29, 3) := by decide +kernel
theorem dX9_goOn_19 : decode cX9_goOn 19 = .ok (.invokevirtual 108, 3) := by decide +kernel
theorem dX9_goOn_22 : decode cX9_goOn 22 = .ok (.ifCond .eq 20, 3) := by decide +kernel
theorem dX9_goOn_42 : decode cX9_goOn 42 = .ok (.return_, 1) := by decide +kernel
theorem dX9_outcome_0 : decode cX9_outcome 0 = .ok (.iload_n 1, 1) := by decide +kernel
theorem dX9_outcome_1 : decode cX9_outcome 1 = .ok (.ifCond .lt 10, 3) := by decide +kernel
theorem dX9_outcome_4 : decode cX9_outcome 4 = .ok (.iload_n 1, 1) := by decide +kernel
theorem dX9_outcome_5 : decode cX9_outcome 5 = .ok (.sipush 4096, 3) := by decide +kernel
theorem dX9_outcome_8 : decode cX9_outcome 8 = .ok (.if_icmp .lt 5, 3) := by decide +kernel
theorem dX9_outcome_13 : decode cX9_outcome 13 = .ok (.aload_n 0, 1) := by decide +kernel
theorem dX9_outcome_14 : decode cX9_outcome 14 = .ok (.getfield 9, 3) := by decide +kernel
theorem dX9_outcome_17 : decode cX9_outcome 17 = .ok (.iload_n 1, 1) := by decide +kernel
theorem dX9_outcome_18 : decode cX9_outcome 18 = .ok (.iaload, 1) := by decide +kernel
theorem dX9_outcome_19 : decode cX9_outcome 19 = .ok (.bipush (-2), 2) := by decide +kernel
theorem dX9_outcome_21 : decode cX9_outcome 21 = .ok (.if_icmp .ne 13, 3) := by decide +kernel
theorem dX9_outcome_24 : decode cX9_outcome 24 = .ok (.aload_n 0, 1) := by decide +kernel
theorem dX9_outcome_25 : decode cX9_outcome 25 = .ok (.iload_n 1, 1) := by decide +kernel
theorem dX9_outcome_26 : decode cX9_outcome 26 = .ok (.aload_n 0, 1) := by decide +kernel
theorem dX9_outcome_27 : decode cX9_outcome 27 = .ok (.iload_n 1, 1) := by decide +kernel
theorem dX9_outcome_28 : decode cX9_outcome 28 = .ok (.invokevirtual 128, 3) := by decide +kernel
theorem dX9_outcome_31 : decode cX9_outcome 31 = .ok (.invokevirtual 131, 3) := by decide +kernel
theorem dX9_outcome_34 : decode cX9_outcome 34 = .ok (.aload_n 0, 1) := by decide +kernel
theorem dX9_outcome_35 : decode cX9_outcome 35 = .ok (.getfield 9, 3) := by decide +kernel
theorem dX9_outcome_38 : decode cX9_outcome 38 = .ok (.iload_n 1, 1) := by decide +kernel
theorem dX9_outcome_39 : decode cX9_outcome 39 = .ok (.iaload, 1) := by decide +kernel
theorem dX9_outcome_40 : decode cX9_outcome 40 = .ok (.ireturn, 1) := by decide +kernel
theorem dX9_remember_0 : decode cX9_remember 0 = .ok (.iload_n 1, 1) := by decide +kernel
theorem dX9_remember_1 : decode cX9_remember 1 = .ok (.ifCond .lt 17, 3) := by decide +kernel
theorem dX9_remember_4 : decode cX9_remember 4 = .ok (.iload_n 1, 1) := by decide +kernel
theorem dX9_remember_5 : decode cX9_remember 5 = .ok (.sipush 4096, 3) := by decide +kernel
theorem dX9_remember_8 : decode cX9_remember 8 = .ok (.if_icmp .ge 10, 3) := by decide +kernel
theorem dX9_remember_11 : decode cX9_remember 11 = .ok (.aload_n 0, 1) := by decide +kernel
theorem dX9_remember_12 : decode cX9_remember 12 = .ok (.getfield 9, 3) := by decide +kernel
theorem dX9_remember_15 : decode cX9_remember 15 = .ok (.iload_n 1, 1) := by decide +kernel
theorem dX9_remember_16 : decode cX9_remember 16 = .ok (.iload_n 2, 1) := by decide +kernel
theorem dX9_remember_17 : decode cX9_remember 17 = .ok (.iastore, 1) := by decide +kernel
theorem dX9_remember_18 : decode cX9_remember 18 = .ok (.return_, 1) := by decide +kernel
theorem dX9_setFitting_0 : decode cX9_setFitting 0 = .ok (.iload_n 1, 1) := by decide +kernel
theorem dX9_setFitting_1 : decode cX9_setFitting 1 = .ok (.ifCond .lt 17, 3) := by decide +kernel
theorem dX9_setFitting_4 : decode cX9_setFitting 4 = .ok (.iload_n 1, 1) := by decide +kernel
theorem dX9_setFitting_5 : decode cX9_setFitting 5 = .ok (.sipush 4096, 3) := by decide +kernel
theorem dX9_setFitting_8 : decode cX9_setFitting 8 = .ok (.if_icmp .ge 10, 3) := by decide +kernel
theorem dX9_setFitting_11 : decode cX9_setFitting 11 = .ok (.aload_n 0, 1) := by decide +kernel
theorem dX9_setFitting_12 : decode cX9_setFitting 12 = .ok (.getfield 15, 3) := by decide +kernel
theorem dX9_setFitting_15 : decode cX9_setFitting 15 = .ok (.iload_n 1, 1) := by decide +kernel
theorem dX9_setFitting_16 : decode cX9_setFitting 16 = .ok (.iload_n 2, 1) := by decide +kernel
theorem dX9_setFitting_17 : decode cX9_setFitting 17 = .ok (.bastore, 1) := by decide +kernel
theorem dX9_setFitting_18 : decode cX9_setFitting 18 = .ok (.return_, 1) := by decide +kernel
theorem dX9_spread_0 : decode cX9_spread 0 = .ok (.aload_n 0, 1) := by decide +kernel
theorem dX9_spread_1 : decode cX9_spread 1 = .ok (.getfield 32, 3) := by decide +kernel
theorem dX9_spread_4 : decode cX9_spread 4 = .ok (.getfield 134, 3) := by decide +kernel
theorem dX9_spread_7 : decode cX9_spread 7 = .ok (.aload_n 0, 1) := by decide +kernel
theorem dX9_spread_8 : decode cX9_spread 8 = .ok (.getfield 36, 3) := by decide +kernel
theorem dX9_spread_11 : decode cX9_spread 11 = .ok (.getfield 80, 3) := by decide +kernel
theorem dX9_spread_14 : decode cX9_spread 14 = .ok (.iconst (-1), 1) := by decide +kernel
theorem dX9_spread_15 : decode cX9_spread 15 = .ok (.ixor, 1) := by decide +kernel
theorem dX9_spread_16 : decode cX9_spread 16 = .ok (.iand, 1) := by decide +kernel
theorem dX9_spread_17 : decode cX9_spread 17 = .ok (.istore_n 3, 1) := by decide +kernel
theorem dX9_spread_18 : decode cX9_spread 18 = .ok (.iconst 1, 1) := by decide +kernel
theorem dX9_spread_19 : decode cX9_spread 19 = .ok (.iload_n 3, 1) := by decide +kernel
theorem dX9_spread_20 : decode cX9_spread 20 = .ok (.invokestatic 137, 3) := by decide +kernel
theorem dX9_spread_23 : decode cX9_spread 23 = .ok (.ishl, 1) := by decide +kernel
theorem dX9_spread_24 : decode cX9_spread 24 = .ok (.istore 4, 2) := by decide +kernel
theorem dX9_spread_26 : decode cX9_spread 26 = .ok (.iconst 0, 1) := by decide +kernel
theorem dX9_spread_27 : decode cX9_spread 27 = .ok (.istore 5, 2) := by decide +kernel
theorem dX9_spread_29 : decode cX9_spread 29 = .ok (.iconst 0, 1) := by decide +kernel
theorem dX9_spread_30 : decode cX9_spread 30 = .ok (.istore 6, 2) := by decide +kernel
theorem dX9_spread_32 : decode cX9_spread 32 = .ok (.iload 6, 2) := by decide +kernel
theorem dX9_spread_34 : decode cX9_spread 34 = .ok (.iload 4, 2) := by decide +kernel
theorem dX9_spread_36 : decode cX9_spread 36 = .ok (.if_icmp .ge 30, 3) := by decide +kernel
theorem dX9_spread_39 : decode cX9_spread 39 = .ok (.aload_n 0, 1) := by decide +kernel
theorem dX9_spread_40 : decode cX9_spread 40 = .ok (.iload_n 1, 1) := by decide +kernel
theorem dX9_spread_41 : decode cX9_spread 41 = .ok (.iload_n 3, 1) := by decide +kernel
theorem dX9_spread_42 : decode cX9_spread 42 = .ok (.iconst (-1), 1) := by decide +kernel
theorem dX9_spread_43 : decode cX9_spread 43 = .ok (.ixor, 1) := by decide +kernel
theorem dX9_spread_44 : decode cX9_spread 44 = .ok (.iand, 1) := by decide +kernel
theorem dX9_spread_45 : decode cX9_spread 45 = .ok (.iload 5, 2) := by decide +kernel
theorem dX9_spread_47 : decode cX9_spread 47 = .ok (.ior, 1) := by decide +kernel
theorem dX9_spread_48 : decode cX9_spread 48 = .ok (.iload_n 2, 1) := by decide +kernel
theorem dX9_spread_49 : decode cX9_spread 49 = .ok (.invokevirtual 121, 3) := by decide +kernel
theorem dX9_spread_52 : decode cX9_spread 52 = .ok (.iload 5, 2) := by decide +kernel
theorem dX9_spread_54 : decode cX9_spread 54 = .ok (.iload_n 3, 1) := by decide +kernel
theorem dX9_spread_55 : decode cX9_spread 55 = .ok (.isub, 1) := by decide +kernel
theorem dX9_spread_56 : decode cX9_spread 56 = .ok (.iload_n 3, 1) := by decide +kernel
theorem dX9_spread_57 : decode cX9_spread 57 = .ok (.iand, 1) := by decide +kernel
theorem dX9_spread_58 : decode cX9_spread 58 = .ok (.istore 5, 2) := by decide +kernel
theorem dX9_spread_60 : decode cX9_spread 60 = .ok (.iinc 6 1, 3) := by decide +kernel
theorem dX9_spread_63 : decode cX9_spread 63 = .ok (.goto (-31), 3) := by decide +kernel
theorem dX9_spread_66 : decode cX9_spread 66 = .ok (.return_, 1) := by decide +kernel
theorem dX9_startFrom_0 : decode cX9_startFrom 0 = .ok (.aload_n 0, 1) := by decide +kernel
theorem dX9_startFrom_1 : decode cX9_startFrom 1 = .ok (.getfield 25, 3) := by decide +kernel
theorem dX9_startFrom_4 : decode cX9_startFrom 4 = .ok (.aload_n 1, 1) := by decide +kernel
theorem dX9_startFrom_5 : decode cX9_startFrom 5 = .ok (.invokevirtual 63, 3) := by decide +kernel
theorem dX9_startFrom_8 : decode cX9_startFrom 8 = .ok (.aload_n 0, 1) := by decide +kernel
theorem dX9_startFrom_9 : decode cX9_startFrom 9 = .ok (.iload_n 2, 1) := by decide +kernel
theorem dX9_startFrom_10 : decode cX9_startFrom 10 = .ok (.putfield 57, 3) := by decide +kernel
theorem dX9_startFrom_13 : decode cX9_startFrom 13 = .ok (.aload_n 0, 1) := by decide +kernel
theorem dX9_startFrom_14 : decode cX9_startFrom 14 = .ok (.iload_n 3, 1) := by decide +kernel
theorem dX9_startFrom_15 : decode cX9_startFrom 15 = .ok (.putfield 60, 3) := by decide +kernel
theorem dX9_startFrom_18 : decode cX9_startFrom 18 = .ok (.aload_n 0, 1) := by decide +kernel
theorem dX9_startFrom_19 : decode cX9_startFrom 19 = .ok (.getfield 36, 3) := by decide +kernel
theorem dX9_startFrom_22 : decode cX9_startFrom 22 = .ok (.invokevirtual 67, 3) := by decide +kernel
theorem dX9_startFrom_25 : decode cX9_startFrom 25 = .ok (.ifCond .ne 13, 3) := by decide +kernel
theorem dX9_startFrom_28 : decode cX9_startFrom 28 = .ok (.aload_n 0, 1) := by decide +kernel
theorem dX9_startFrom_29 : decode cX9_startFrom 29 = .ok (.getfield 25, 3) := by decide +kernel
theorem dX9_startFrom_32 : decode cX9_startFrom 32 = .ok (.iload_n 2, 1) := by decide +kernel
theorem dX9_startFrom_33 : decode cX9_startFrom 33 = .ok (.iconst (-1), 1) := by decide +kernel
theorem dX9_startFrom_34 : decode cX9_startFrom 34 = .ok (.ixor, 1) := by decide +kernel
theorem dX9_startFrom_35 : decode cX9_startFrom 35 = .ok (.invokevirtual 73, 3) := by decide +kernel
theorem dX9_startFrom_38 : decode cX9_startFrom 38 = .ok (.return_, 1) := by decide +kernel
