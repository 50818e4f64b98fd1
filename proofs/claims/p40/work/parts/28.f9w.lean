theorem mw_1390 : (Cond.methodLink RX6 46 Lib.Math.max.name) ∈ gx_G := gx_mem 1390 (by decide +kernel) (by decide +kernel)
theorem dX12_ways_0 : decode cX12_ways 0 = .ok (.aload_n 0, 1) := by decide +kernel
theorem dX12_ways_1 : decode cX12_ways 1 = .ok (.iconst 0, 1) := by decide +kernel
theorem dX12_ways_2 : decode cX12_ways 2 = .ok (.putfield 111, 3) := by decide +kernel
theorem dX12_ways_5 : decode cX12_ways 5 = .ok (.aload_n 0, 1) := by decide +kernel
theorem dX12_ways_6 : decode cX12_ways 6 = .ok (.iload_n 1, 1) := by decide +kernel
theorem dX12_ways_7 : decode cX12_ways 7 = .ok (.iload_n 2, 1) := by decide +kernel
theorem dX12_ways_8 : decode cX12_ways 8 = .ok (.iload_n 3, 1) := by decide +kernel
theorem dX12_ways_9 : decode cX12_ways 9 = .ok (.iload 4, 2) := by decide +kernel
theorem dX12_ways_11 : decode cX12_ways 11 = .ok (.invokevirtual 405, 3) := by decide +kernel
theorem dX12_ways_14 : decode cX12_ways 14 = .ok (.ifCond .ne 5, 3) := by decide +kernel
theorem dX12_ways_17 : decode cX12_ways 17 = .ok (.iconst (-1), 1) := by decide +kernel
theorem dX12_ways_18 : decode cX12_ways 18 = .ok (.ireturn, 1) := by decide +kernel
theorem dX12_ways_19 : decode cX12_ways 19 = .ok (.aload_n 0, 1) := by decide +kernel
theorem dX12_ways_20 : decode cX12_ways 20 = .ok (.invokevirtual 409, 3) := by decide +kernel
theorem dX12_ways_23 : decode cX12_ways 23 = .ok (.aload_n 0, 1) := by decide +kernel
theorem dX12_ways_24 : decode cX12_ways 24 = .ok (.invokevirtual 416, 3) := by decide +kernel
theorem dX12_ways_27 : decode cX12_ways 27 = .ok (.istore 5, 2) := by decide +kernel
theorem dX12_ways_29 : decode cX12_ways 29 = .ok (.iconst 0, 1) := by decide +kernel
theorem dX12_ways_30 : decode cX12_ways 30 = .ok (.istore 6, 2) := by decide +kernel
theorem dX12_ways_32 : decode cX12_ways 32 = .ok (.iconst (-1), 1) := by decide +kernel
theorem dX12_ways_33 : decode cX12_ways 33 = .ok (.istore 7, 2) := by decide +kernel
theorem dX12_ways_35 : decode cX12_ways 35 = .ok (.iconst (-1), 1) := by decide +kernel
theorem dX12_ways_36 : decode cX12_ways 36 = .ok (.istore 8, 2) := by decide +kernel
theorem dX12_ways_38 : decode cX12_ways 38 = .ok (.iconst 0, 1) := by decide +kernel
theorem dX12_ways_39 : decode cX12_ways 39 = .ok (.istore 9, 2) := by decide +kernel
theorem dX12_ways_41 : decode cX12_ways 41 = .ok (.iload 9, 2) := by decide +kernel
theorem dX12_ways_43 : decode cX12_ways 43 = .ok (.iload 5, 2) := by decide +kernel
theorem dX12_ways_45 : decode cX12_ways 45 = .ok (.if_icmp .gt 59, 3) := by decide +kernel
theorem dX12_ways_48 : decode cX12_ways 48 = .ok (.iload 9, 2) := by decide +kernel
theorem dX12_ways_50 : decode cX12_ways 50 = .ok (.iload 5, 2) := by decide +kernel
theorem dX12_ways_52 : decode cX12_ways 52 = .ok (.iconst (-1), 1) := by decide +kernel
theorem dX12_ways_53 : decode cX12_ways 53 = .ok (.ixor, 1) := by decide +kernel
theorem dX12_ways_54 : decode cX12_ways 54 = .ok (.iand, 1) := by decide +kernel
theorem dX12_ways_55 : decode cX12_ways 55 = .ok (.ifCond .ne 43, 3) := by decide +kernel
theorem dX12_ways_58 : decode cX12_ways 58 = .ok (.aload_n 0, 1) := by decide +kernel
theorem dX12_ways_59 : decode cX12_ways 59 = .ok (.iload 9, 2) := by decide +kernel
theorem dX12_ways_61 : decode cX12_ways 61 = .ok (.putfield 389, 3) := by decide +kernel
theorem dX12_ways_64 : decode cX12_ways 64 = .ok (.aload_n 0, 1) := by decide +kernel
theorem dX12_ways_65 : decode cX12_ways 65 = .ok (.iload_n 1, 1) := by decide +kernel
theorem dX12_ways_66 : decode cX12_ways 66 = .ok (.iload_n 2, 1) := by decide +kernel
theorem dX12_ways_67 : decode cX12_ways 67 = .ok (.iload_n 3, 1) := by decide +kernel
theorem dX12_ways_68 : decode cX12_ways 68 = .ok (.iconst 0, 1) := by decide +kernel
theorem dX12_ways_69 : decode cX12_ways 69 = .ok (.iload 4, 2) := by decide +kernel
theorem dX12_ways_71 : decode cX12_ways 71 = .ok (.invokevirtual 412, 3) := by decide +kernel
theorem dX12_ways_74 : decode cX12_ways 74 = .ok (.ifCond .lt 24, 3) := by decide +kernel
theorem dX12_ways_77 : decode cX12_ways 77 = .ok (.iload 7, 2) := by decide +kernel
theorem dX12_ways_79 : decode cX12_ways 79 = .ok (.ifCond .ge 8, 3) := by decide +kernel
theorem dX12_ways_82 : decode cX12_ways 82 = .ok (.iload 9, 2) := by decide +kernel
theorem dX12_ways_84 : decode cX12_ways 84 = .ok (.goto 5, 3) := by decide +kernel
theorem dX12_ways_87 : decode cX12_ways 87 = .ok (.iload 7, 2) := by decide +kernel
theorem dX12_ways_89 : decode cX12_ways 89 = .ok (.istore 7, 2) := by decide +kernel
theorem dX12_ways_91 : decode cX12_ways 91 = .ok (.iload 9, 2) := by decide +kernel
theorem dX12_ways_93 : decode cX12_ways 93 = .ok (.istore 8, 2) := by decide +kernel
theorem dX12_ways_95 : decode cX12_ways 95 = .ok (.iinc 6 1, 3) := by decide +kernel
theorem dX12_ways_98 : decode cX12_ways 98 = .ok (.iinc 9 1, 3) := by decide +kernel
theorem dX12_ways_101 : decode cX12_ways 101 = .ok (.goto (-60), 3) := by decide +kernel
theorem dX12_ways_104 : decode cX12_ways 104 = .ok (.aload_n 0, 1) := by decide +kernel
theorem dX12_ways_105 : decode cX12_ways 105 = .ok (.iconst 0, 1) := by decide +kernel
theorem dX12_ways_106 : decode cX12_ways 106 = .ok (.putfield 119, 3) := by decide +kernel
theorem dX12_ways_109 : decode cX12_ways 109 = .ok (.aload_n 0, 1) := by decide +kernel
theorem dX12_ways_110 : decode cX12_ways 110 = .ok (.iload 7, 2) := by decide +kernel
theorem dX12_ways_112 : decode cX12_ways 112 = .ok (.i2l, 1) := by decide +kernel
theorem dX12_ways_113 : decode cX12_ways 113 = .ok (.invokevirtual 122, 3) := by decide +kernel
theorem dX12_ways_116 : decode cX12_ways 116 = .ok (.aload_n 0, 1) := by decide +kernel
theorem dX12_ways_117 : decode cX12_ways 117 = .ok (.iload 8, 2) := by decide +kernel
theorem dX12_ways_119 : decode cX12_ways 119 = .ok (.i2l, 1) := by decide +kernel
theorem dX12_ways_120 : decode cX12_ways 120 = .ok (.invokevirtual 122, 3) := by decide +kernel
theorem dX12_ways_123 : decode cX12_ways 123 = .ok (.iload 6, 2) := by decide +kernel
theorem dX12_ways_125 : decode cX12_ways 125 = .ok (.ireturn, 1) := by decide +kernel
theorem dX12_where_0 : decode cX12_where 0 = .ok (.aload_n 0, 1) := by decide +kernel
theorem dX12_where_1 : decode cX12_where 1 = .ok (.iconst 0, 1) := by decide +kernel
theorem dX12_where_2 : decode cX12_where 2 = .ok (.putfield 111, 3) := by decide +kernel
theorem dX12_where_5 : decode cX12_where 5 = .ok (.aload_n 0, 1) := by decide +kernel
theorem dX12_where_6 : decode cX12_where 6 = .ok (.iload_n 1, 1) := by decide +kernel
theorem dX12_where_7 : decode cX12_where 7 = .ok (.invokevirtual 309, 3) := by decide +kernel
theorem dX12_where_10 : decode cX12_where 10 = .ok (.ifCond .eq 15, 3) := by decide +kernel
theorem dX12_where_13 : decode cX12_where 13 = .ok (.iload_n 2, 1) := by decide +kernel
theorem dX12_where_14 : decode cX12_where 14 = .ok (.i2l, 1) := by decide +kernel
theorem dX12_where_15 : decode cX12_where 15 = .ok (.lconst 0, 1) := by decide +kernel
theorem dX12_where_16 : decode cX12_where 16 = .ok (.ldc2_w 378, 3) := by decide +kernel
theorem dX12_where_19 : decode cX12_where 19 = .ok (.invokestatic 129, 3) := by decide +kernel
theorem dX12_where_22 : decode cX12_where 22 = .ok (.ifCond .ne 5, 3) := by decide +kernel
theorem dX12_where_25 : decode cX12_where 25 = .ok (.iconst (-1), 1) := by decide +kernel
theorem dX12_where_26 : decode cX12_where 26 = .ok (.ireturn, 1) := by decide +kernel
theorem dX12_where_27 : decode cX12_where 27 = .ok (.aload_n 0, 1) := by decide +kernel
theorem dX12_where_28 : decode cX12_where 28 = .ok (.iload_n 2, 1) := by decide +kernel
theorem dX12_where_29 : decode cX12_where 29 = .ok (.invokevirtual 380, 3) := by decide +kernel
theorem dX12_where_32 : decode cX12_where 32 = .ok (.aload_n 0, 1) := by decide +kernel
theorem dX12_where_33 : decode cX12_where 33 = .ok (.iconst 0, 1) := by decide +kernel
theorem dX12_where_34 : decode cX12_where 34 = .ok (.putfield 119, 3) := by decide +kernel
theorem dX12_where_37 : decode cX12_where 37 = .ok (.aload_n 0, 1) := by decide +kernel
theorem dX12_where_38 : decode cX12_where 38 = .ok (.aload_n 0, 1) := by decide +kernel
theorem dX12_where_39 : decode cX12_where 39 = .ok (.getfield 32, 3) := by decide +kernel
theorem dX12_where_42 : decode cX12_where 42 = .ok (.bipush 7, 2) := by decide +kernel
theorem dX12_where_44 : decode cX12_where 44 = .ok (.iload_n 1, 1) := by decide +kernel
theorem dX12_where_45 : decode cX12_where 45 = .ok (.imul, 1) := by decide +kernel
theorem dX12_where_46 : decode cX12_where 46 = .ok (.iconst 4, 1) := by decide +kernel
theorem dX12_where_47 : decode cX12_where 47 = .ok (.iadd, 1) := by decide +kernel
theorem dX12_where_48 : decode cX12_where 48 = .ok (.iaload, 1) := by decide +kernel
theorem dX12_where_49 : decode cX12_where 49 = .ok (.i2l, 1) := by decide +kernel
theorem dX12_where_50 : decode cX12_where 50 = .ok (.invokevirtual 122, 3) := by decide +kernel
theorem dX12_where_53 : decode cX12_where 53 = .ok (.aload_n 0, 1) := by decide +kernel
theorem dX12_where_54 : decode cX12_where 54 = .ok (.aload_n 0, 1) := by decide +kernel
theorem dX12_where_55 : decode cX12_where 55 = .ok (.getfield 32, 3) := by decide +kernel
theorem dX12_where_58 : decode cX12_where 58 = .ok (.bipush 7, 2) := by decide +kernel
theorem dX12_where_60 : decode cX12_where 60 = .ok (.iload_n 1, 1) := by decide +kernel
theorem dX12_where_61 : decode cX12_where 61 = .ok (.imul, 1) := by decide +kernel
theorem dX12_where_62 : decode cX12_where 62 = .ok (.iconst 1, 1) := by decide +kernel
theorem dX12_where_63 : decode cX12_where 63 = .ok (.iadd, 1) := by decide +kernel
theorem dX12_where_64 : decode cX12_where 64 = .ok (.iaload, 1) := by decide +kernel
theorem dX12_where_65 : decode cX12_where 65 = .ok (.i2l, 1) := by decide +kernel
theorem dX12_where_66 : decode cX12_where 66 = .ok (.invokevirtual 122, 3) := by decide +kernel
theorem dX12_where_69 : decode cX12_where 69 = .ok (.aload_n 0, 1) := by decide +kernel
theorem dX12_where_70 : decode cX12_where 70 = .ok (.aload_n 0, 1) := by decide +kernel
theorem dX12_where_71 : decode cX12_where 71 = .ok (.getfield 32, 3) := by decide +kernel
theorem dX12_where_74 : decode cX12_where 74 = .ok (.bipush 7, 2) := by decide +kernel
theorem dX12_where_76 : decode cX12_where 76 = .ok (.iload_n 1, 1) := by decide +kernel
theorem dX12_where_77 : decode cX12_where 77 = .ok (.imul, 1) := by decide +kernel
theorem dX12_where_78 : decode cX12_where 78 = .ok (.iconst 2, 1) := by decide +kernel
theorem dX12_where_79 : decode cX12_where 79 = .ok (.iadd, 1) := by decide +kernel
theorem dX12_where_80 : decode cX12_where 80 = .ok (.iaload, 1) := by decide +kernel
theorem dX12_where_81 : decode cX12_where 81 = .ok (.i2l, 1) := by decide +kernel
theorem dX12_where_82 : decode cX12_where 82 = .ok (.invokevirtual 122, 3) := by decide +kernel
theorem dX12_where_85 : decode cX12_where 85 = .ok (.aload_n 0, 1) := by decide +kernel
theorem dX12_where_86 : decode cX12_where 86 = .ok (.getfield 32, 3) := by decide +kernel
theorem dX12_where_89 : decode cX12_where 89 = .ok (.bipush 7, 2) := by decide +kernel
theorem dX12_where_91 : decode cX12_where 91 = .ok (.iload_n 1, 1) := by decide +kernel
theorem dX12_where_92 : decode cX12_where 92 = .ok (.imul, 1) := by decide +kernel
theorem dX12_where_93 : decode cX12_where 93 = .ok (.iconst 0, 1) := by decide +kernel
theorem dX12_where_94 : decode cX12_where 94 = .ok (.iadd, 1) := by decide +kernel
theorem dX12_where_95 : decode cX12_where 95 = .ok (.iaload, 1) := by decide +kernel
theorem dX12_where_96 : decode cX12_where 96 = .ok (.ireturn, 1) := by decide +kernel
theorem dX4_numberAt_0 : decode cX4_numberAt 0 = .ok (.iload_n 1, 1) := by decide +kernel
theorem dX4_numberAt_1 : decode cX4_numberAt 1 = .ok (.ifCond .lt 25, 3) := by decide +kernel
theorem dX4_numberAt_4 : decode cX4_numberAt 4 = .ok (.iload_n 1, 1) := by decide +kernel
theorem dX4_numberAt_5 : decode cX4_numberAt 5 = .ok (.aload_n 0, 1) := by decide +kernel
theorem dX4_numberAt_6 : decode cX4_numberAt 6 = .ok (.getfield 13, 3) := by decide +kernel
theorem dX4_numberAt_9 : decode cX4_numberAt 9 = .ok (.if_icmp .ge 17, 3) := by decide +kernel
theorem dX4_numberAt_12 : decode cX4_numberAt 12 = .ok (.iload_n 1, 1) := by decide +kernel
theorem dX4_numberAt_13 : decode cX4_numberAt 13 = .ok (.iconst 3, 1) := by decide +kernel
theorem dX4_numberAt_14 : decode cX4_numberAt 14 = .ok (.if_icmp .ge 12, 3) := by decide +kernel
theorem dX4_numberAt_17 : decode cX4_numberAt 17 = .ok (.aload_n 0, 1) := by decide +kernel
theorem dX4_numberAt_18 : decode cX4_numberAt 18 = .ok (.getfield 9, 3) := by decide +kernel
theorem dX4_numberAt_21 : decode cX4_numberAt 21 = .ok (.iload_n 1, 1) := by decide +kernel
theorem dX4_numberAt_22 : decode cX4_numberAt 22 = .ok (.laload, 1) := by decide +kernel
theorem dX4_numberAt_23 : decode cX4_numberAt 23 = .ok (.goto 4, 3) := by decide +kernel
theorem dX4_numberAt_26 : decode cX4_numberAt 26 = .ok (.lconst 0, 1) := by decide +kernel
theorem dX4_numberAt_27 : decode cX4_numberAt 27 = .ok (.lreturn, 1) := by decide +kernel
theorem dX6_endedIn_0 : decode cX6_endedIn 0 = .ok (.iload_n 1, 1) := by decide +kernel
theorem dX6_endedIn_1 : decode cX6_endedIn 1 = .ok (.ifCond .lt 18, 3) := by decide +kernel
theorem dX6_endedIn_4 : decode cX6_endedIn 4 = .ok (.iload_n 1, 1) := by decide +kernel
theorem dX6_endedIn_5 : decode cX6_endedIn 5 = .ok (.bipush 6, 2) := by decide +kernel
theorem dX6_endedIn_7 : decode cX6_endedIn 7 = .ok (.if_icmp .ge 12, 3) := by decide +kernel
theorem dX6_endedIn_10 : decode cX6_endedIn 10 = .ok (.aload_n 0, 1) := by decide +kernel
theorem dX6_endedIn_11 : decode cX6_endedIn 11 = .ok (.getfield 27, 3) := by decide +kernel
theorem dX6_endedIn_14 : decode cX6_endedIn 14 = .ok (.iload_n 1, 1) := by decide +kernel
theorem dX6_endedIn_15 : decode cX6_endedIn 15 = .ok (.iaload, 1) := by decide +kernel
theorem dX6_endedIn_16 : decode cX6_endedIn 16 = .ok (.goto 4, 3) := by decide +kernel
theorem dX6_endedIn_19 : decode cX6_endedIn 19 = .ok (.iconst (-1), 1) := by decide +kernel
theorem dX6_endedIn_20 : decode cX6_endedIn 20 = .ok (.ireturn, 1) := by decide +kernel
theorem dX6_startsIn_0 : decode cX6_startsIn 0 = .ok (.iload_n 1, 1) := by decide +kernel
theorem dX6_startsIn_1 : decode cX6_startsIn 1 = .ok (.ifCond .lt 27, 3) := by decide +kernel
theorem dX6_startsIn_4 : decode cX6_startsIn 4 = .ok (.iload_n 1, 1) := by decide +kernel
theorem dX6_startsIn_5 : decode cX6_startsIn 5 = .ok (.bipush 6, 2) := by decide +kernel
theorem dX6_startsIn_7 : decode cX6_startsIn 7 = .ok (.if_icmp .ge 21, 3) := by decide +kernel
theorem dX6_startsIn_10 : decode cX6_startsIn 10 = .ok (.iconst 0, 1) := by decide +kernel
theorem dX6_startsIn_11 : decode cX6_startsIn 11 = .ok (.aload_n 0, 1) := by decide +kernel
theorem dX6_startsIn_12 : decode cX6_startsIn 12 = .ok (.getfield 24, 3) := by decide +kernel
theorem dX6_startsIn_15 : decode cX6_startsIn 15 = .ok (.iload_n 1, 1) := by decide +kernel
theorem dX6_startsIn_16 : decode cX6_startsIn 16 = .ok (.iaload, 1) := by decide +kernel
theorem dX6_startsIn_17 : decode cX6_startsIn 17 = .ok (.aload_n 0, 1) := by decide +kernel
theorem dX6_startsIn_18 : decode cX6_startsIn 18 = .ok (.getfield 37, 3) := by decide +kernel
theorem dX6_startsIn_21 : decode cX6_startsIn 21 = .ok (.isub, 1) := by decide +kernel
theorem dX6_startsIn_22 : decode cX6_startsIn 22 = .ok (.invokestatic 46, 3) := by decide +kernel
theorem dX6_startsIn_25 : decode cX6_startsIn 25 = .ok (.goto 4, 3) := by decide +kernel
theorem dX6_startsIn_28 : decode cX6_startsIn 28 = .ok (.iconst 0, 1) := by decide +kernel
theorem dX6_startsIn_29 : decode cX6_startsIn 29 = .ok (.ireturn, 1) := by decide +kernel
