theorem dJ6_bitCount_0f7a4_0 : decode cJ6_bitCount_0f7a4 0 = .ok (.iload_n 0, 1) := by decide +kernel
theorem dJ6_bitCount_0f7a4_1 : decode cJ6_bitCount_0f7a4 1 = .ok (.iload_n 0, 1) := by decide +kernel
theorem dJ6_bitCount_0f7a4_2 : decode cJ6_bitCount_0f7a4 2 = .ok (.iconst 1, 1) := by decide +kernel
theorem dJ6_bitCount_0f7a4_3 : decode cJ6_bitCount_0f7a4 3 = .ok (.iushr, 1) := by decide +kernel
theorem dJ6_bitCount_0f7a4_4 : decode cJ6_bitCount_0f7a4 4 = .ok (.ldc_w 265, 3) := by decide +kernel
theorem dJ6_bitCount_0f7a4_7 : decode cJ6_bitCount_0f7a4 7 = .ok (.iand, 1) := by decide +kernel
theorem dJ6_bitCount_0f7a4_8 : decode cJ6_bitCount_0f7a4 8 = .ok (.isub, 1) := by decide +kernel
theorem dJ6_bitCount_0f7a4_9 : decode cJ6_bitCount_0f7a4 9 = .ok (.istore_n 0, 1) := by decide +kernel
theorem dJ6_bitCount_0f7a4_10 : decode cJ6_bitCount_0f7a4 10 = .ok (.iload_n 0, 1) := by decide +kernel
theorem dJ6_bitCount_0f7a4_11 : decode cJ6_bitCount_0f7a4 11 = .ok (.ldc_w 266, 3) := by decide +kernel
theorem dJ6_bitCount_0f7a4_14 : decode cJ6_bitCount_0f7a4 14 = .ok (.iand, 1) := by decide +kernel
theorem dJ6_bitCount_0f7a4_15 : decode cJ6_bitCount_0f7a4 15 = .ok (.iload_n 0, 1) := by decide +kernel
theorem dJ6_bitCount_0f7a4_16 : decode cJ6_bitCount_0f7a4 16 = .ok (.iconst 2, 1) := by decide +kernel
theorem dJ6_bitCount_0f7a4_17 : decode cJ6_bitCount_0f7a4 17 = .ok (.iushr, 1) := by decide +kernel
theorem dJ6_bitCount_0f7a4_18 : decode cJ6_bitCount_0f7a4 18 = .ok (.ldc_w 266, 3) := by decide +kernel
theorem dJ6_bitCount_0f7a4_21 : decode cJ6_bitCount_0f7a4 21 = .ok (.iand, 1) := by decide +kernel
theorem dJ6_bitCount_0f7a4_22 : decode cJ6_bitCount_0f7a4 22 = .ok (.iadd, 1) := by decide +kernel
theorem dJ6_bitCount_0f7a4_23 : decode cJ6_bitCount_0f7a4 23 = .ok (.istore_n 0, 1) := by decide +kernel
theorem dJ6_bitCount_0f7a4_24 : decode cJ6_bitCount_0f7a4 24 = .ok (.iload_n 0, 1) := by decide +kernel
theorem dJ6_bitCount_0f7a4_25 : decode cJ6_bitCount_0f7a4 25 = .ok (.iload_n 0, 1) := by decide +kernel
theorem dJ6_bitCount_0f7a4_26 : decode cJ6_bitCount_0f7a4 26 = .ok (.iconst 4, 1) := by decide +kernel
theorem dJ6_bitCount_0f7a4_27 : decode cJ6_bitCount_0f7a4 27 = .ok (.iushr, 1) := by decide +kernel
theorem dJ6_bitCount_0f7a4_28 : decode cJ6_bitCount_0f7a4 28 = .ok (.iadd, 1) := by decide +kernel
theorem dJ6_bitCount_0f7a4_29 : decode cJ6_bitCount_0f7a4 29 = .ok (.ldc_w 267, 3) := by decide +kernel
theorem dJ6_bitCount_0f7a4_32 : decode cJ6_bitCount_0f7a4 32 = .ok (.iand, 1) := by decide +kernel
theorem dJ6_bitCount_0f7a4_33 : decode cJ6_bitCount_0f7a4 33 = .ok (.istore_n 0, 1) := by decide +kernel
theorem dJ6_bitCount_0f7a4_34 : decode cJ6_bitCount_0f7a4 34 = .ok (.iload_n 0, 1) := by decide +kernel
theorem dJ6_bitCount_0f7a4_35 : decode cJ6_bitCount_0f7a4 35 = .ok (.iload_n 0, 1) := by decide +kernel
theorem dJ6_bitCount_0f7a4_36 : decode cJ6_bitCount_0f7a4 36 = .ok (.bipush 8, 2) := by decide +kernel
theorem dJ6_bitCount_0f7a4_38 : decode cJ6_bitCount_0f7a4 38 = .ok (.iushr, 1) := by decide +kernel
theorem dJ6_bitCount_0f7a4_39 : decode cJ6_bitCount_0f7a4 39 = .ok (.iadd, 1) := by decide +kernel
theorem dJ6_bitCount_0f7a4_40 : decode cJ6_bitCount_0f7a4 40 = .ok (.istore_n 0, 1) := by decide +kernel
theorem dJ6_bitCount_0f7a4_41 : decode cJ6_bitCount_0f7a4 41 = .ok (.iload_n 0, 1) := by decide +kernel
theorem dJ6_bitCount_0f7a4_42 : decode cJ6_bitCount_0f7a4 42 = .ok (.iload_n 0, 1) := by decide +kernel
theorem dJ6_bitCount_0f7a4_43 : decode cJ6_bitCount_0f7a4 43 = .ok (.bipush 16, 2) := by decide +kernel
theorem dJ6_bitCount_0f7a4_45 : decode cJ6_bitCount_0f7a4 45 = .ok (.iushr, 1) := by decide +kernel
theorem dJ6_bitCount_0f7a4_46 : decode cJ6_bitCount_0f7a4 46 = .ok (.iadd, 1) := by decide +kernel
theorem dJ6_bitCount_0f7a4_47 : decode cJ6_bitCount_0f7a4 47 = .ok (.istore_n 0, 1) := by decide +kernel
theorem dJ6_bitCount_0f7a4_48 : decode cJ6_bitCount_0f7a4 48 = .ok (.iload_n 0, 1) := by decide +kernel
theorem dJ6_bitCount_0f7a4_49 : decode cJ6_bitCount_0f7a4 49 = .ok (.bipush 63, 2) := by decide +kernel
theorem dJ6_bitCount_0f7a4_51 : decode cJ6_bitCount_0f7a4 51 = .ok (.iand, 1) := by decide +kernel
theorem dJ6_bitCount_0f7a4_52 : decode cJ6_bitCount_0f7a4 52 = .ok (.ireturn, 1) := by decide +kernel
theorem dX10_in_0 : decode cX10_in 0 = .ok (.aload_n 0, 1) := by decide +kernel
theorem dX10_in_1 : decode cX10_in 1 = .ok (.getfield 15, 3) := by decide +kernel
theorem dX10_in_4 : decode cX10_in 4 = .ok (.ifCond .le 16, 3) := by decide +kernel
theorem dX10_in_20 : decode cX10_in 20 = .ok (.iconst 1, 1) := by decide +kernel
theorem dX10_in_21 : decode cX10_in 21 = .ok (.ireturn, 1) := by decide +kernel
theorem dX10_read_0 : decode cX10_read 0 = .ok (.aload_n 1, 1) := by decide +kernel
theorem dX10_read_1 : decode cX10_read 1 = .ok (.bipush 40, 2) := by decide +kernel
theorem dX10_read_3 : decode cX10_read 3 = .ok (.invokevirtual 19, 3) := by decide +kernel
theorem dX10_read_6 : decode cX10_read 6 = .ok (.iconst 0, 1) := by decide +kernel
theorem dX10_read_7 : decode cX10_read 7 = .ok (.istore_n 2, 1) := by decide +kernel
theorem dX10_read_8 : decode cX10_read 8 = .ok (.iload_n 2, 1) := by decide +kernel
theorem dX10_read_9 : decode cX10_read 9 = .ok (.bipush 40, 2) := by decide +kernel
theorem dX10_read_11 : decode cX10_read 11 = .ok (.if_icmp .gt 36, 3) := by decide +kernel
theorem dX10_read_14 : decode cX10_read 14 = .ok (.aload_n 1, 1) := by decide +kernel
theorem dX10_read_15 : decode cX10_read 15 = .ok (.iload_n 2, 1) := by decide +kernel
theorem dX10_read_16 : decode cX10_read 16 = .ok (.invokevirtual 25, 3) := by decide +kernel
theorem dX10_read_19 : decode cX10_read 19 = .ok (.ifCond .ne 28, 3) := by decide +kernel
theorem dX10_read_47 : decode cX10_read 47 = .ok (.aload_n 0, 1) := by decide +kernel
theorem dX10_read_48 : decode cX10_read 48 = .ok (.aload_n 1, 1) := by decide +kernel
theorem dX10_read_49 : decode cX10_read 49 = .ok (.getfield 33, 3) := by decide +kernel
theorem dX10_read_52 : decode cX10_read 52 = .ok (.bipush 40, 2) := by decide +kernel
theorem dX10_read_54 : decode cX10_read 54 = .ok (.invokestatic 34, 3) := by decide +kernel
theorem dX10_read_57 : decode cX10_read 57 = .ok (.putfield 15, 3) := by decide +kernel
theorem dX10_read_60 : decode cX10_read 60 = .ok (.iconst 0, 1) := by decide +kernel
theorem dX10_read_61 : decode cX10_read 61 = .ok (.istore_n 2, 1) := by decide +kernel
theorem dX10_read_62 : decode cX10_read 62 = .ok (.iload_n 2, 1) := by decide +kernel
theorem dX10_read_63 : decode cX10_read 63 = .ok (.aload_n 0, 1) := by decide +kernel
theorem dX10_read_64 : decode cX10_read 64 = .ok (.getfield 15, 3) := by decide +kernel
theorem dX10_read_67 : decode cX10_read 67 = .ok (.if_icmp .ge 20, 3) := by decide +kernel
theorem dX10_read_87 : decode cX10_read 87 = .ok (.aload_n 0, 1) := by decide +kernel
theorem dX10_read_88 : decode cX10_read 88 = .ok (.getfield 15, 3) := by decide +kernel
theorem dX10_read_91 : decode cX10_read 91 = .ok (.ireturn, 1) := by decide +kernel
theorem dX11_again_0 : decode cX11_again 0 = .ok (.iload_n 1, 1) := by decide +kernel
theorem dX11_again_1 : decode cX11_again 1 = .ok (.ifCond .lt 19, 3) := by decide +kernel
theorem dX11_again_4 : decode cX11_again 4 = .ok (.iload_n 1, 1) := by decide +kernel
theorem dX11_again_5 : decode cX11_again 5 = .ok (.iconst 3, 1) := by decide +kernel
theorem dX11_again_6 : decode cX11_again 6 = .ok (.if_icmp .ge 14, 3) := by decide +kernel
theorem dX11_again_9 : decode cX11_again 9 = .ok (.aload_n 0, 1) := by decide +kernel
theorem dX11_again_10 : decode cX11_again 10 = .ok (.getfield 129, 3) := by decide +kernel
theorem dX11_again_13 : decode cX11_again 13 = .ok (.iload_n 1, 1) := by decide +kernel
theorem dX11_again_14 : decode cX11_again 14 = .ok (.ishr, 1) := by decide +kernel
theorem dX11_again_15 : decode cX11_again 15 = .ok (.iconst 1, 1) := by decide +kernel
theorem dX11_again_16 : decode cX11_again 16 = .ok (.iand, 1) := by decide +kernel
theorem dX11_again_17 : decode cX11_again 17 = .ok (.ifCond .ne 5, 3) := by decide +kernel
theorem dX11_again_20 : decode cX11_again 20 = .ok (.iconst 0, 1) := by decide +kernel
theorem dX11_again_21 : decode cX11_again 21 = .ok (.ireturn, 1) := by decide +kernel
theorem dX11_basin_0 : decode cX11_basin 0 = .ok (.iload_n 1, 1) := by decide +kernel
theorem dX11_basin_1 : decode cX11_basin 1 = .ok (.iload_n 2, 1) := by decide +kernel
theorem dX11_basin_2 : decode cX11_basin 2 = .ok (.invokestatic 227, 3) := by decide +kernel
theorem dX11_basin_5 : decode cX11_basin 5 = .ok (.ifCond .eq 14, 3) := by decide +kernel
theorem dX11_basin_8 : decode cX11_basin 8 = .ok (.aload_n 0, 1) := by decide +kernel
theorem dX11_basin_9 : decode cX11_basin 9 = .ok (.getfield 19, 3) := by decide +kernel
theorem dX11_basin_12 : decode cX11_basin 12 = .ok (.iload_n 3, 1) := by decide +kernel
theorem dX11_basin_13 : decode cX11_basin 13 = .ok (.invokevirtual 234, 3) := by decide +kernel
theorem dX11_basin_16 : decode cX11_basin 16 = .ok (.ifCond .ne 5, 3) := by decide +kernel
theorem dX11_basin_19 : decode cX11_basin 19 = .ok (.iconst (-1), 1) := by decide +kernel
theorem dX11_basin_20 : decode cX11_basin 20 = .ok (.ireturn, 1) := by decide +kernel
theorem dX11_boat_0 : decode cX11_boat 0 = .ok (.aload_n 0, 1) := by decide +kernel
theorem dX11_boat_1 : decode cX11_boat 1 = .ok (.getfield 19, 3) := by decide +kernel
theorem dX11_boat_4 : decode cX11_boat 4 = .ok (.iload_n 1, 1) := by decide +kernel
theorem dX11_boat_5 : decode cX11_boat 5 = .ok (.invokevirtual 137, 3) := by decide +kernel
theorem dX11_boat_8 : decode cX11_boat 8 = .ok (.ifCond .eq 22, 3) := by decide +kernel
theorem dX11_boat_30 : decode cX11_boat 30 = .ok (.iconst (-1), 1) := by decide +kernel
theorem dX11_boat_31 : decode cX11_boat 31 = .ok (.ireturn, 1) := by decide +kernel
theorem dX11_coins_0 : decode cX11_coins 0 = .ok (.aload_n 0, 1) := by decide +kernel
theorem dX11_coins_1 : decode cX11_coins 1 = .ok (.getfield 19, 3) := by decide +kernel
theorem dX11_coins_4 : decode cX11_coins 4 = .ok (.iload_n 1, 1) := by decide +kernel
theorem dX11_coins_5 : decode cX11_coins 5 = .ok (.invokevirtual 137, 3) := by decide +kernel
theorem dX11_coins_8 : decode cX11_coins 8 = .ok (.ifCond .eq 22, 3) := by decide +kernel
theorem dX11_coins_30 : decode cX11_coins 30 = .ok (.iconst (-1), 1) := by decide +kernel
theorem dX11_coins_31 : decode cX11_coins 31 = .ok (.ireturn, 1) := by decide +kernel
theorem dX11_comes_0 : decode cX11_comes 0 = .ok (.aload_n 0, 1) := by decide +kernel
theorem dX11_comes_1 : decode cX11_comes 1 = .ok (.getfield 53, 3) := by decide +kernel
theorem dX11_comes_4 : decode cX11_comes 4 = .ok (.iload_n 1, 1) := by decide +kernel
theorem dX11_comes_5 : decode cX11_comes 5 = .ok (.invokevirtual 172, 3) := by decide +kernel
theorem dX11_comes_8 : decode cX11_comes 8 = .ok (.ifCond .ne 5, 3) := by decide +kernel
theorem dX11_comes_11 : decode cX11_comes 11 = .ok (.iconst (-1), 1) := by decide +kernel
theorem dX11_comes_12 : decode cX11_comes 12 = .ok (.ireturn, 1) := by decide +kernel
theorem dX11_cork_0 : decode cX11_cork 0 = .ok (.iload_n 3, 1) := by decide +kernel
theorem dX11_cork_1 : decode cX11_cork 1 = .ok (.iconst (-1), 1) := by decide +kernel
theorem dX11_cork_2 : decode cX11_cork 2 = .ok (.if_icmp .eq 14, 3) := by decide +kernel
theorem dX11_cork_5 : decode cX11_cork 5 = .ok (.aload_n 0, 1) := by decide +kernel
theorem dX11_cork_6 : decode cX11_cork 6 = .ok (.getfield 19, 3) := by decide +kernel
theorem dX11_cork_9 : decode cX11_cork 9 = .ok (.iload_n 3, 1) := by decide +kernel
theorem dX11_cork_10 : decode cX11_cork 10 = .ok (.invokevirtual 234, 3) := by decide +kernel
theorem dX11_cork_13 : decode cX11_cork 13 = .ok (.ifCond .eq 7, 3) := by decide +kernel
theorem dX11_cork_16 : decode cX11_cork 16 = .ok (.iconst 1, 1) := by decide +kernel
theorem dX11_cork_17 : decode cX11_cork 17 = .ok (.goto 4, 3) := by decide +kernel
theorem dX11_cork_20 : decode cX11_cork 20 = .ok (.iconst 0, 1) := by decide +kernel
theorem dX11_cork_21 : decode cX11_cork 21 = .ok (.istore 4, 2) := by decide +kernel
theorem dX11_cork_23 : decode cX11_cork 23 = .ok (.aload_n 0, 1) := by decide +kernel
theorem dX11_cork_24 : decode cX11_cork 24 = .ok (.getfield 19, 3) := by decide +kernel
theorem dX11_cork_27 : decode cX11_cork 27 = .ok (.iload_n 1, 1) := by decide +kernel
theorem dX11_cork_28 : decode cX11_cork 28 = .ok (.invokevirtual 137, 3) := by decide +kernel
theorem dX11_cork_31 : decode cX11_cork 31 = .ok (.ifCond .eq 15, 3) := by decide +kernel
theorem dX11_cork_46 : decode cX11_cork 46 = .ok (.iconst (-1), 1) := by decide +kernel
theorem dX11_cork_47 : decode cX11_cork 47 = .ok (.ireturn, 1) := by decide +kernel
theorem dX11_count_0 : decode cX11_count 0 = .ok (.iload_n 1, 1) := by decide +kernel
theorem dX11_count_1 : decode cX11_count 1 = .ok (.tableswitch 159 0 11 #[63, 71, 79, 87, 95, 103, 111, 119, 127, 135, 143, 151], 63) := by decide +kernel
theorem dX11_count_64 : decode cX11_count 64 = .ok (.aload_n 0, 1) := by decide +kernel
theorem dX11_count_65 : decode cX11_count 65 = .ok (.getfield 19, 3) := by decide +kernel
theorem dX11_count_68 : decode cX11_count 68 = .ok (.getfield 323, 3) := by decide +kernel
theorem dX11_count_71 : decode cX11_count 71 = .ok (.ireturn, 1) := by decide +kernel
theorem dX11_count_72 : decode cX11_count 72 = .ok (.aload_n 0, 1) := by decide +kernel
theorem dX11_count_73 : decode cX11_count 73 = .ok (.getfield 53, 3) := by decide +kernel
theorem dX11_count_76 : decode cX11_count 76 = .ok (.getfield 208, 3) := by decide +kernel
theorem dX11_count_79 : decode cX11_count 79 = .ok (.ireturn, 1) := by decide +kernel
theorem dX11_count_80 : decode cX11_count 80 = .ok (.aload_n 0, 1) := by decide +kernel
theorem dX11_count_81 : decode cX11_count 81 = .ok (.getfield 53, 3) := by decide +kernel
theorem dX11_count_84 : decode cX11_count 84 = .ok (.getfield 324, 3) := by decide +kernel
theorem dX11_count_87 : decode cX11_count 87 = .ok (.ireturn, 1) := by decide +kernel
theorem dX11_count_88 : decode cX11_count 88 = .ok (.aload_n 0, 1) := by decide +kernel
theorem dX11_count_89 : decode cX11_count 89 = .ok (.getfield 19, 3) := by decide +kernel
theorem dX11_count_92 : decode cX11_count 92 = .ok (.getfield 375, 3) := by decide +kernel
theorem dX11_count_95 : decode cX11_count 95 = .ok (.ireturn, 1) := by decide +kernel
theorem dX11_count_96 : decode cX11_count 96 = .ok (.aload_n 0, 1) := by decide +kernel
theorem dX11_count_97 : decode cX11_count 97 = .ok (.getfield 53, 3) := by decide +kernel
theorem dX11_count_100 : decode cX11_count 100 = .ok (.getfield 157, 3) := by decide +kernel
theorem dX11_count_103 : decode cX11_count 103 = .ok (.ireturn, 1) := by decide +kernel
theorem dX11_count_104 : decode cX11_count 104 = .ok (.aload_n 0, 1) := by decide +kernel
theorem dX11_count_105 : decode cX11_count 105 = .ok (.getfield 53, 3) := by decide +kernel
theorem dX11_count_108 : decode cX11_count 108 = .ok (.invokevirtual 166, 3) := by decide +kernel
theorem dX11_count_111 : decode cX11_count 111 = .ok (.ireturn, 1) := by decide +kernel
theorem dX11_count_112 : decode cX11_count 112 = .ok (.aload_n 0, 1) := by decide +kernel
theorem dX11_count_113 : decode cX11_count 113 = .ok (.getfield 53, 3) := by decide +kernel
theorem dX11_count_116 : decode cX11_count 116 = .ok (.getfield 247, 3) := by decide +kernel
theorem dX11_count_119 : decode cX11_count 119 = .ok (.ireturn, 1) := by decide +kernel
theorem dX11_count_120 : decode cX11_count 120 = .ok (.aload_n 0, 1) := by decide +kernel
theorem dX11_count_121 : decode cX11_count 121 = .ok (.getfield 53, 3) := by decide +kernel
theorem dX11_count_124 : decode cX11_count 124 = .ok (.getfield 250, 3) := by decide +kernel
theorem dX11_count_127 : decode cX11_count 127 = .ok (.ireturn, 1) := by decide +kernel
theorem dX11_count_128 : decode cX11_count 128 = .ok (.aload_n 0, 1) := by decide +kernel
theorem dX11_count_129 : decode cX11_count 129 = .ok (.getfield 63, 3) := by decide +kernel
theorem dX11_count_132 : decode cX11_count 132 = .ok (.getfield 287, 3) := by decide +kernel
theorem dX11_count_135 : decode cX11_count 135 = .ok (.ireturn, 1) := by decide +kernel
theorem dX11_count_136 : decode cX11_count 136 = .ok (.aload_n 0, 1) := by decide +kernel
theorem dX11_count_137 : decode cX11_count 137 = .ok (.getfield 74, 3) := by decide +kernel
theorem dX11_count_140 : decode cX11_count 140 = .ok (.getfield 126, 3) := by decide +kernel
theorem dX11_count_143 : decode cX11_count 143 = .ok (.ireturn, 1) := by decide +kernel
theorem dX11_count_144 : decode cX11_count 144 = .ok (.aload_n 0, 1) := by decide +kernel
theorem dX11_count_145 : decode cX11_count 145 = .ok (.getfield 81, 3) := by decide +kernel
theorem dX11_count_148 : decode cX11_count 148 = .ok (.getfield 423, 3) := by decide +kernel
theorem dX11_count_151 : decode cX11_count 151 = .ok (.ireturn, 1) := by decide +kernel
theorem dX11_count_152 : decode cX11_count 152 = .ok (.aload_n 0, 1) := by decide +kernel
theorem dX11_count_153 : decode cX11_count 153 = .ok (.getfield 12, 3) := by decide +kernel
theorem dX11_count_156 : decode cX11_count 156 = .ok (.getfield 107, 3) := by decide +kernel
theorem dX11_count_159 : decode cX11_count 159 = .ok (.ireturn, 1) := by decide +kernel
theorem dX11_count_160 : decode cX11_count 160 = .ok (.bipush (-100), 2) := by decide +kernel
theorem dX11_count_162 : decode cX11_count 162 = .ok (.ireturn, 1) := by decide +kernel
theorem dX11_day_0 : decode cX11_day 0 = .ok (.aload_n 0, 1) := by decide +kernel
theorem dX11_day_1 : decode cX11_day 1 = .ok (.getfield 46, 3) := by decide +kernel
theorem dX11_day_4 : decode cX11_day 4 = .ok (.aload_n 0, 1) := by decide +kernel
theorem dX11_day_5 : decode cX11_day 5 = .ok (.getfield 12, 3) := by decide +kernel
theorem dX11_day_8 : decode cX11_day 8 = .ok (.invokevirtual 269, 3) := by decide +kernel
theorem dX11_day_11 : decode cX11_day 11 = .ok (.istore_n 1, 1) := by decide +kernel
theorem dX11_day_12 : decode cX11_day 12 = .ok (.aload_n 0, 1) := by decide +kernel
theorem dX11_day_13 : decode cX11_day 13 = .ok (.getfield 12, 3) := by decide +kernel
theorem dX11_day_16 : decode cX11_day 16 = .ok (.iconst 0, 1) := by decide +kernel
theorem dX11_day_17 : decode cX11_day 17 = .ok (.invokevirtual 111, 3) := by decide +kernel
theorem dX11_day_20 : decode cX11_day 20 = .ok (.pop, 1) := by decide +kernel
theorem dX11_day_21 : decode cX11_day 21 = .ok (.iload_n 1, 1) := by decide +kernel
theorem dX11_day_22 : decode cX11_day 22 = .ok (.ifCond .ge 5, 3) := by decide +kernel
theorem dX11_day_27 : decode cX11_day 27 = .ok (.aload_n 0, 1) := by decide +kernel
theorem dX11_day_28 : decode cX11_day 28 = .ok (.getfield 57, 3) := by decide +kernel
theorem dX11_day_31 : decode cX11_day 31 = .ok (.aload_n 0, 1) := by decide +kernel
theorem dX11_day_32 : decode cX11_day 32 = .ok (.getfield 53, 3) := by decide +kernel
theorem dX11_day_35 : decode cX11_day 35 = .ok (.invokevirtual 270, 3) := by decide +kernel
theorem dX11_day_38 : decode cX11_day 38 = .ok (.iconst 0, 1) := by decide +kernel
theorem dX11_day_39 : decode cX11_day 39 = .ok (.istore_n 2, 1) := by decide +kernel
theorem dX11_day_40 : decode cX11_day 40 = .ok (.iconst 0, 1) := by decide +kernel
theorem dX11_day_41 : decode cX11_day 41 = .ok (.istore_n 3, 1) := by decide +kernel
theorem dX11_day_42 : decode cX11_day 42 = .ok (.iconst 1, 1) := by decide +kernel
theorem dX11_day_43 : decode cX11_day 43 = .ok (.istore 4, 2) := by decide +kernel
theorem dX11_day_45 : decode cX11_day 45 = .ok (.iconst 0, 1) := by decide +kernel
theorem dX11_day_46 : decode cX11_day 46 = .ok (.istore 5, 2) := by decide +kernel
theorem dX11_day_48 : decode cX11_day 48 = .ok (.iload 5, 2) := by decide +kernel
theorem dX11_day_50 : decode cX11_day 50 = .ok (.iload_n 1, 1) := by decide +kernel
theorem dX11_day_51 : decode cX11_day 51 = .ok (.if_icmp .ge 47, 3) := by decide +kernel
theorem dX11_day_98 : decode cX11_day 98 = .ok (.iload_n 2, 1) := by decide +kernel
theorem dX11_day_99 : decode cX11_day 99 = .ok (.ifCond .le 14, 3) := by decide +kernel
theorem dX11_day_113 : decode cX11_day 113 = .ok (.aload_n 0, 1) := by decide +kernel
theorem dX11_day_114 : decode cX11_day 114 = .ok (.getfield 81, 3) := by decide +kernel
theorem dX11_day_117 : decode cX11_day 117 = .ok (.iload 4, 2) := by decide +kernel
theorem dX11_day_119 : decode cX11_day 119 = .ok (.ifCond .eq 7, 3) := by decide +kernel
theorem dX11_day_122 : decode cX11_day 122 = .ok (.lconst 0, 1) := by decide +kernel
theorem dX11_day_123 : decode cX11_day 123 = .ok (.goto 4, 3) := by decide +kernel
theorem dX11_day_127 : decode cX11_day 127 = .ok (.iload_n 3, 1) := by decide +kernel
theorem dX11_day_128 : decode cX11_day 128 = .ok (.i2l, 1) := by decide +kernel
theorem dX11_day_129 : decode cX11_day 129 = .ok (.invokevirtual 257, 3) := by decide +kernel
theorem dX11_day_132 : decode cX11_day 132 = .ok (.iload_n 2, 1) := by decide +kernel
theorem dX11_day_133 : decode cX11_day 133 = .ok (.ireturn, 1) := by decide +kernel
theorem dX11_duel_0 : decode cX11_duel 0 = .ok (.aload_n 0, 1) := by decide +kernel
theorem dX11_duel_1 : decode cX11_duel 1 = .ok (.getfield 19, 3) := by decide +kernel
theorem dX11_duel_4 : decode cX11_duel 4 = .ok (.iload_n 1, 1) := by decide +kernel
theorem dX11_duel_5 : decode cX11_duel 5 = .ok (.invokevirtual 137, 3) := by decide +kernel
theorem dX11_duel_8 : decode cX11_duel 8 = .ok (.ifCond .eq 34, 3) := by decide +kernel
theorem dX11_duel_42 : decode cX11_duel 42 = .ok (.iconst (-1), 1) := by decide +kernel
theorem dX11_duel_43 : decode cX11_duel 43 = .ok (.ireturn, 1) := by decide +kernel
theorem dX11_end_0 : decode cX11_end 0 = .ok (.aload_n 0, 1) := by decide +kernel
theorem dX11_end_1 : decode cX11_end 1 = .ok (.getfield 12, 3) := by decide +kernel
theorem dX11_end_4 : decode cX11_end 4 = .ok (.iload_n 1, 1) := by decide +kernel
theorem dX11_end_5 : decode cX11_end 5 = .ok (.invokevirtual 111, 3) := by decide +kernel
theorem dX11_end_8 : decode cX11_end 8 = .ok (.ireturn, 1) := by decide +kernel
theorem dX11_fewestTurns_0 : decode cX11_fewestTurns 0 = .ok (.aload_n 0, 1) := by decide +kernel
theorem dX11_fewestTurns_1 : decode cX11_fewestTurns 1 = .ok (.getfield 99, 3) := by decide +kernel
theorem dX11_fewestTurns_4 : decode cX11_fewestTurns 4 = .ok (.invokevirtual 350, 3) := by decide +kernel
theorem dX11_fewestTurns_7 : decode cX11_fewestTurns 7 = .ok (.bipush 13, 2) := by decide +kernel
theorem dX11_fewestTurns_9 : decode cX11_fewestTurns 9 = .ok (.istore_n 2, 1) := by decide +kernel
theorem dX11_fewestTurns_10 : decode cX11_fewestTurns 10 = .ok (.iconst (-1), 1) := by decide +kernel
theorem dX11_fewestTurns_11 : decode cX11_fewestTurns 11 = .ok (.istore_n 3, 1) := by decide +kernel
theorem dX11_fewestTurns_12 : decode cX11_fewestTurns 12 = .ok (.iconst 0, 1) := by decide +kernel
theorem dX11_fewestTurns_13 : decode cX11_fewestTurns 13 = .ok (.istore 4, 2) := by decide +kernel
theorem dX11_fewestTurns_15 : decode cX11_fewestTurns 15 = .ok (.iconst 0, 1) := by decide +kernel
theorem dX11_fewestTurns_16 : decode cX11_fewestTurns 16 = .ok (.istore 5, 2) := by decide +kernel
theorem dX11_fewestTurns_18 : decode cX11_fewestTurns 18 = .ok (.iconst 0, 1) := by decide +kernel
theorem dX11_fewestTurns_19 : decode cX11_fewestTurns 19 = .ok (.istore 6, 2) := by decide +kernel
theorem dX11_fewestTurns_21 : decode cX11_fewestTurns 21 = .ok (.iload 6, 2) := by decide +kernel
theorem dX11_fewestTurns_23 : decode cX11_fewestTurns 23 = .ok (.aload_n 0, 1) := by decide +kernel
theorem dX11_fewestTurns_24 : decode cX11_fewestTurns 24 = .ok (.getfield 19, 3) := by decide +kernel
theorem dX11_fewestTurns_27 : decode cX11_fewestTurns 27 = .ok (.getfield 353, 3) := by decide +kernel
theorem dX11_fewestTurns_30 : decode cX11_fewestTurns 30 = .ok (.if_icmp .ge 89, 3) := by decide +kernel
theorem dX11_fewestTurns_33 : decode cX11_fewestTurns 33 = .ok (.iload 5, 2) := by decide +kernel
theorem dX11_fewestTurns_35 : decode cX11_fewestTurns 35 = .ok (.invokestatic 261, 3) := by decide +kernel
theorem dX11_fewestTurns_38 : decode cX11_fewestTurns 38 = .ok (.istore 7, 2) := by decide +kernel
theorem dX11_fewestTurns_40 : decode cX11_fewestTurns 40 = .ok (.iload 7, 2) := by decide +kernel
theorem dX11_fewestTurns_42 : decode cX11_fewestTurns 42 = .ok (.iload_n 2, 1) := by decide +kernel
theorem dX11_fewestTurns_43 : decode cX11_fewestTurns 43 = .ok (.if_icmp .ge 23, 3) := by decide +kernel
theorem dX11_fewestTurns_46 : decode cX11_fewestTurns 46 = .ok (.aload_n 0, 1) := by decide +kernel
theorem dX11_fewestTurns_47 : decode cX11_fewestTurns 47 = .ok (.getfield 99, 3) := by decide +kernel
theorem dX11_fewestTurns_50 : decode cX11_fewestTurns 50 = .ok (.aload_n 0, 1) := by decide +kernel
theorem dX11_fewestTurns_51 : decode cX11_fewestTurns 51 = .ok (.getfield 53, 3) := by decide +kernel
theorem dX11_fewestTurns_54 : decode cX11_fewestTurns 54 = .ok (.getfield 157, 3) := by decide +kernel
theorem dX11_fewestTurns_57 : decode cX11_fewestTurns 57 = .ok (.iload 5, 2) := by decide +kernel
theorem dX11_fewestTurns_59 : decode cX11_fewestTurns 59 = .ok (.ixor, 1) := by decide +kernel
theorem dX11_fewestTurns_60 : decode cX11_fewestTurns 60 = .ok (.invokevirtual 356, 3) := by decide +kernel
theorem dX11_fewestTurns_63 : decode cX11_fewestTurns 63 = .ok (.goto 4, 3) := by decide +kernel
theorem dX11_fewestTurns_67 : decode cX11_fewestTurns 67 = .ok (.istore 8, 2) := by decide +kernel
theorem dX11_fewestTurns_69 : decode cX11_fewestTurns 69 = .ok (.iload 8, 2) := by decide +kernel
theorem dX11_fewestTurns_71 : decode cX11_fewestTurns 71 = .ok (.iconst (-1), 1) := by decide +kernel
theorem dX11_fewestTurns_72 : decode cX11_fewestTurns 72 = .ok (.if_icmp .eq 30, 3) := by decide +kernel
theorem dX11_fewestTurns_75 : decode cX11_fewestTurns 75 = .ok (.iload_n 1, 1) := by decide +kernel
theorem dX11_fewestTurns_76 : decode cX11_fewestTurns 76 = .ok (.iconst (-1), 1) := by decide +kernel
theorem dX11_fewestTurns_77 : decode cX11_fewestTurns 77 = .ok (.if_icmp .eq 12, 3) := by decide +kernel
theorem dX11_fewestTurns_89 : decode cX11_fewestTurns 89 = .ok (.iload 7, 2) := by decide +kernel
theorem dX11_fewestTurns_91 : decode cX11_fewestTurns 91 = .ok (.istore_n 2, 1) := by decide +kernel
theorem dX11_fewestTurns_92 : decode cX11_fewestTurns 92 = .ok (.iload 5, 2) := by decide +kernel
theorem dX11_fewestTurns_94 : decode cX11_fewestTurns 94 = .ok (.istore_n 3, 1) := by decide +kernel
theorem dX11_fewestTurns_95 : decode cX11_fewestTurns 95 = .ok (.iload 8, 2) := by decide +kernel
theorem dX11_fewestTurns_97 : decode cX11_fewestTurns 97 = .ok (.invokestatic 320, 3) := by decide +kernel
theorem dX11_fewestTurns_100 : decode cX11_fewestTurns 100 = .ok (.istore 4, 2) := by decide +kernel
theorem dX11_fewestTurns_102 : decode cX11_fewestTurns 102 = .ok (.aload_n 0, 1) := by decide +kernel
theorem dX11_fewestTurns_103 : decode cX11_fewestTurns 103 = .ok (.getfield 19, 3) := by decide +kernel
theorem dX11_fewestTurns_106 : decode cX11_fewestTurns 106 = .ok (.iload 5, 2) := by decide +kernel
theorem dX11_fewestTurns_108 : decode cX11_fewestTurns 108 = .ok (.invokevirtual 359, 3) := by decide +kernel
theorem dX11_fewestTurns_111 : decode cX11_fewestTurns 111 = .ok (.istore 5, 2) := by decide +kernel
theorem dX11_fewestTurns_113 : decode cX11_fewestTurns 113 = .ok (.iinc 6 1, 3) := by decide +kernel
theorem dX11_fewestTurns_116 : decode cX11_fewestTurns 116 = .ok (.goto (-95), 3) := by decide +kernel
theorem dX11_fewestTurns_119 : decode cX11_fewestTurns 119 = .ok (.iload_n 3, 1) := by decide +kernel
theorem dX11_fewestTurns_120 : decode cX11_fewestTurns 120 = .ok (.iconst (-1), 1) := by decide +kernel
theorem dX11_fewestTurns_121 : decode cX11_fewestTurns 121 = .ok (.if_icmp .ne 6, 3) := by decide +kernel
theorem dX11_fewestTurns_127 : decode cX11_fewestTurns 127 = .ok (.aload_n 0, 1) := by decide +kernel
theorem dX11_fewestTurns_128 : decode cX11_fewestTurns 128 = .ok (.getfield 81, 3) := by decide +kernel
theorem dX11_fewestTurns_131 : decode cX11_fewestTurns 131 = .ok (.iload_n 3, 1) := by decide +kernel
theorem dX11_fewestTurns_132 : decode cX11_fewestTurns 132 = .ok (.i2l, 1) := by decide +kernel
theorem dX11_fewestTurns_133 : decode cX11_fewestTurns 133 = .ok (.iload 4, 2) := by decide +kernel
theorem dX11_fewestTurns_135 : decode cX11_fewestTurns 135 = .ok (.i2l, 1) := by decide +kernel
theorem dX11_fewestTurns_136 : decode cX11_fewestTurns 136 = .ok (.invokevirtual 257, 3) := by decide +kernel
theorem dX11_fewestTurns_139 : decode cX11_fewestTurns 139 = .ok (.iload_n 2, 1) := by decide +kernel
theorem dX11_fewestTurns_140 : decode cX11_fewestTurns 140 = .ok (.ireturn, 1) := by decide +kernel
theorem dX11_findFits_0 : decode cX11_findFits 0 = .ok (.aload_n 0, 1) := by decide +kernel
theorem dX11_findFits_1 : decode cX11_findFits 1 = .ok (.getfield 99, 3) := by decide +kernel
theorem dX11_findFits_4 : decode cX11_findFits 4 = .ok (.invokevirtual 384, 3) := by decide +kernel
theorem dX11_findFits_7 : decode cX11_findFits 7 = .ok (.iconst 0, 1) := by decide +kernel
theorem dX11_findFits_8 : decode cX11_findFits 8 = .ok (.istore_n 1, 1) := by decide +kernel
theorem dX11_findFits_9 : decode cX11_findFits 9 = .ok (.iload_n 1, 1) := by decide +kernel
theorem dX11_findFits_10 : decode cX11_findFits 10 = .ok (.aload_n 0, 1) := by decide +kernel
theorem dX11_findFits_11 : decode cX11_findFits 11 = .ok (.getfield 74, 3) := by decide +kernel
theorem dX11_findFits_14 : decode cX11_findFits 14 = .ok (.getfield 126, 3) := by decide +kernel
theorem dX11_findFits_17 : decode cX11_findFits 17 = .ok (.if_icmp .ge 119, 3) := by decide +kernel
theorem dX11_findFits_136 : decode cX11_findFits 136 = .ok (.return_, 1) := by decide +kernel
theorem dX11_flow_0 : decode cX11_flow 0 = .ok (.iload_n 1, 1) := by decide +kernel
theorem dX11_flow_1 : decode cX11_flow 1 = .ok (.ifCond .lt 21, 3) := by decide +kernel
theorem dX11_flow_4 : decode cX11_flow 4 = .ok (.iload_n 1, 1) := by decide +kernel
theorem dX11_flow_5 : decode cX11_flow 5 = .ok (.sipush 9999, 3) := by decide +kernel
theorem dX11_flow_8 : decode cX11_flow 8 = .ok (.if_icmp .gt 14, 3) := by decide +kernel
theorem dX11_flow_11 : decode cX11_flow 11 = .ok (.aload_n 0, 1) := by decide +kernel
theorem dX11_flow_12 : decode cX11_flow 12 = .ok (.getfield 29, 3) := by decide +kernel
theorem dX11_flow_15 : decode cX11_flow 15 = .ok (.iload_n 1, 1) := by decide +kernel
theorem dX11_flow_16 : decode cX11_flow 16 = .ok (.invokevirtual 198, 3) := by decide +kernel
theorem dX11_flow_19 : decode cX11_flow 19 = .ok (.goto 4, 3) := by decide +kernel
theorem dX11_flow_22 : decode cX11_flow 22 = .ok (.iconst (-1), 1) := by decide +kernel
theorem dX11_flow_23 : decode cX11_flow 23 = .ok (.ireturn, 1) := by decide +kernel
theorem dX11_forget_0 : decode cX11_forget 0 = .ok (.aload_n 0, 1) := by decide +kernel
theorem dX11_forget_1 : decode cX11_forget 1 = .ok (.getfield 74, 3) := by decide +kernel
theorem dX11_forget_4 : decode cX11_forget 4 = .ok (.getfield 126, 3) := by decide +kernel
theorem dX11_forget_7 : decode cX11_forget 7 = .ok (.istore_n 1, 1) := by decide +kernel
theorem dX11_forget_8 : decode cX11_forget 8 = .ok (.aload_n 0, 1) := by decide +kernel
theorem dX11_forget_9 : decode cX11_forget 9 = .ok (.getfield 74, 3) := by decide +kernel
theorem dX11_forget_12 : decode cX11_forget 12 = .ok (.iconst 0, 1) := by decide +kernel
theorem dX11_forget_13 : decode cX11_forget 13 = .ok (.putfield 126, 3) := by decide +kernel
theorem dX11_forget_16 : decode cX11_forget 16 = .ok (.iload_n 1, 1) := by decide +kernel
theorem dX11_forget_17 : decode cX11_forget 17 = .ok (.ireturn, 1) := by decide +kernel
theorem dX11_give_0 : decode cX11_give 0 = .ok (.aload_n 0, 1) := by decide +kernel
theorem dX11_give_1 : decode cX11_give 1 = .ok (.getfield 53, 3) := by decide +kernel
theorem dX11_give_4 : decode cX11_give 4 = .ok (.iload_n 1, 1) := by decide +kernel
theorem dX11_give_5 : decode cX11_give 5 = .ok (.invokevirtual 241, 3) := by decide +kernel
theorem dX11_give_8 : decode cX11_give 8 = .ok (.ifCond .eq 14, 3) := by decide +kernel
theorem dX11_give_22 : decode cX11_give 22 = .ok (.iconst (-1), 1) := by decide +kernel
theorem dX11_give_23 : decode cX11_give 23 = .ok (.ireturn, 1) := by decide +kernel
theorem dX11_homes_0 : decode cX11_homes 0 = .ok (.iload_n 1, 1) := by decide +kernel
theorem dX11_homes_1 : decode cX11_homes 1 = .ok (.invokestatic 290, 3) := by decide +kernel
theorem dX11_homes_4 : decode cX11_homes 4 = .ok (.ifCond .ne 5, 3) := by decide +kernel
theorem dX11_homes_7 : decode cX11_homes 7 = .ok (.iconst (-1), 1) := by decide +kernel
theorem dX11_homes_8 : decode cX11_homes 8 = .ok (.ireturn, 1) := by decide +kernel
theorem dX11_homes_9 : decode cX11_homes 9 = .ok (.aload_n 0, 1) := by decide +kernel
theorem dX11_homes_10 : decode cX11_homes 10 = .ok (.getfield 99, 3) := by decide +kernel
theorem dX11_homes_13 : decode cX11_homes 13 = .ok (.aload_n 0, 1) := by decide +kernel
theorem dX11_homes_14 : decode cX11_homes 14 = .ok (.getfield 53, 3) := by decide +kernel
theorem dX11_homes_17 : decode cX11_homes 17 = .ok (.iload_n 1, 1) := by decide +kernel
theorem dX11_homes_18 : decode cX11_homes 18 = .ok (.invokevirtual 293, 3) := by decide +kernel
theorem dX11_homes_21 : decode cX11_homes 21 = .ok (.aload_n 0, 1) := by decide +kernel
theorem dX11_homes_22 : decode cX11_homes 22 = .ok (.getfield 81, 3) := by decide +kernel
theorem dX11_homes_25 : decode cX11_homes 25 = .ok (.aload_n 0, 1) := by decide +kernel
theorem dX11_homes_26 : decode cX11_homes 26 = .ok (.getfield 99, 3) := by decide +kernel
theorem dX11_homes_29 : decode cX11_homes 29 = .ok (.getfield 297, 3) := by decide +kernel
theorem dX11_homes_32 : decode cX11_homes 32 = .ok (.getfield 250, 3) := by decide +kernel
theorem dX11_homes_35 : decode cX11_homes 35 = .ok (.i2l, 1) := by decide +kernel
theorem dX11_homes_36 : decode cX11_homes 36 = .ok (.aload_n 0, 1) := by decide +kernel
theorem dX11_homes_37 : decode cX11_homes 37 = .ok (.getfield 99, 3) := by decide +kernel
theorem dX11_homes_40 : decode cX11_homes 40 = .ok (.getfield 297, 3) := by decide +kernel
theorem dX11_homes_43 : decode cX11_homes 43 = .ok (.invokevirtual 166, 3) := by decide +kernel
theorem dX11_homes_46 : decode cX11_homes 46 = .ok (.i2l, 1) := by decide +kernel
theorem dX11_homes_47 : decode cX11_homes 47 = .ok (.invokevirtual 257, 3) := by decide +kernel
theorem dX11_homes_50 : decode cX11_homes 50 = .ok (.aload_n 0, 1) := by decide +kernel
theorem dX11_homes_51 : decode cX11_homes 51 = .ok (.getfield 99, 3) := by decide +kernel
theorem dX11_homes_54 : decode cX11_homes 54 = .ok (.getfield 297, 3) := by decide +kernel
theorem dX11_homes_57 : decode cX11_homes 57 = .ok (.getfield 247, 3) := by decide +kernel
theorem dX11_homes_60 : decode cX11_homes 60 = .ok (.ireturn, 1) := by decide +kernel
theorem dX11_isAhead_0 : decode cX11_isAhead 0 = .ok (.iload_n 0, 1) := by decide +kernel
theorem dX11_isAhead_1 : decode cX11_isAhead 1 = .ok (.ifCond .lt 14, 3) := by decide +kernel
theorem dX11_isAhead_4 : decode cX11_isAhead 4 = .ok (.iload_n 0, 1) := by decide +kernel
theorem dX11_isAhead_5 : decode cX11_isAhead 5 = .ok (.sipush 300, 3) := by decide +kernel
theorem dX11_isAhead_8 : decode cX11_isAhead 8 = .ok (.if_icmp .gt 7, 3) := by decide +kernel
theorem dX11_isAhead_11 : decode cX11_isAhead 11 = .ok (.iconst 1, 1) := by decide +kernel
theorem dX11_isAhead_12 : decode cX11_isAhead 12 = .ok (.goto 4, 3) := by decide +kernel
theorem dX11_isAhead_15 : decode cX11_isAhead 15 = .ok (.iconst 0, 1) := by decide +kernel
theorem dX11_isAhead_16 : decode cX11_isAhead 16 = .ok (.ireturn, 1) := by decide +kernel
theorem dX11_isLoad_0 : decode cX11_isLoad 0 = .ok (.iload_n 0, 1) := by decide +kernel
theorem dX11_isLoad_1 : decode cX11_isLoad 1 = .ok (.ifCond .lt 23, 3) := by decide +kernel
theorem dX11_isLoad_4 : decode cX11_isLoad 4 = .ok (.iload_n 0, 1) := by decide +kernel
theorem dX11_isLoad_5 : decode cX11_isLoad 5 = .ok (.bipush 99, 2) := by decide +kernel
theorem dX11_isLoad_7 : decode cX11_isLoad 7 = .ok (.if_icmp .gt 17, 3) := by decide +kernel
theorem dX11_isLoad_10 : decode cX11_isLoad 10 = .ok (.iload_n 1, 1) := by decide +kernel
theorem dX11_isLoad_11 : decode cX11_isLoad 11 = .ok (.ifCond .lt 13, 3) := by decide +kernel
theorem dX11_isLoad_14 : decode cX11_isLoad 14 = .ok (.iload_n 1, 1) := by decide +kernel
theorem dX11_isLoad_15 : decode cX11_isLoad 15 = .ok (.bipush 9, 2) := by decide +kernel
theorem dX11_isLoad_17 : decode cX11_isLoad 17 = .ok (.if_icmp .gt 7, 3) := by decide +kernel
theorem dX11_isLoad_20 : decode cX11_isLoad 20 = .ok (.iconst 1, 1) := by decide +kernel
theorem dX11_isLoad_21 : decode cX11_isLoad 21 = .ok (.goto 4, 3) := by decide +kernel
theorem dX11_isLoad_24 : decode cX11_isLoad 24 = .ok (.iconst 0, 1) := by decide +kernel
theorem dX11_isLoad_25 : decode cX11_isLoad 25 = .ok (.ireturn, 1) := by decide +kernel
theorem dX11_keep_0 : decode cX11_keep 0 = .ok (.iload_n 1, 1) := by decide +kernel
theorem dX11_keep_1 : decode cX11_keep 1 = .ok (.ifCond .lt 8, 3) := by decide +kernel
theorem dX11_keep_4 : decode cX11_keep 4 = .ok (.iload_n 1, 1) := by decide +kernel
theorem dX11_keep_5 : decode cX11_keep 5 = .ok (.iconst 3, 1) := by decide +kernel
theorem dX11_keep_6 : decode cX11_keep 6 = .ok (.if_icmp .lt 5, 3) := by decide +kernel
theorem dX11_keep_9 : decode cX11_keep 9 = .ok (.iconst 0, 1) := by decide +kernel
theorem dX11_keep_10 : decode cX11_keep 10 = .ok (.ireturn, 1) := by decide +kernel
theorem dX11_keep_11 : decode cX11_keep 11 = .ok (.aload_n 0, 1) := by decide +kernel
theorem dX11_keep_12 : decode cX11_keep 12 = .ok (.getfield 67, 3) := by decide +kernel
theorem dX11_keep_15 : decode cX11_keep 15 = .ok (.iload_n 1, 1) := by decide +kernel
theorem dX11_keep_16 : decode cX11_keep 16 = .ok (.aaload, 1) := by decide +kernel
theorem dX11_keep_17 : decode cX11_keep 17 = .ok (.aload_n 0, 1) := by decide +kernel
theorem dX11_keep_18 : decode cX11_keep 18 = .ok (.getfield 53, 3) := by decide +kernel
theorem dX11_keep_21 : decode cX11_keep 21 = .ok (.invokevirtual 270, 3) := by decide +kernel
theorem dX11_keep_24 : decode cX11_keep 24 = .ok (.aload_n 0, 1) := by decide +kernel
theorem dX11_keep_25 : decode cX11_keep 25 = .ok (.dup, 1) := by decide +kernel
theorem dX11_keep_26 : decode cX11_keep 26 = .ok (.getfield 129, 3) := by decide +kernel
theorem dX11_keep_29 : decode cX11_keep 29 = .ok (.iconst 1, 1) := by decide +kernel
theorem dX11_keep_30 : decode cX11_keep 30 = .ok (.iload_n 1, 1) := by decide +kernel
theorem dX11_keep_31 : decode cX11_keep 31 = .ok (.ishl, 1) := by decide +kernel
theorem dX11_keep_32 : decode cX11_keep 32 = .ok (.ior, 1) := by decide +kernel
theorem dX11_keep_33 : decode cX11_keep 33 = .ok (.putfield 129, 3) := by decide +kernel
theorem dX11_keep_36 : decode cX11_keep 36 = .ok (.iconst 1, 1) := by decide +kernel
theorem dX11_keep_37 : decode cX11_keep 37 = .ok (.ireturn, 1) := by decide +kernel
theorem dX11_lost_0 : decode cX11_lost 0 = .ok (.iload_n 1, 1) := by decide +kernel
theorem dX11_lost_1 : decode cX11_lost 1 = .ok (.invokestatic 290, 3) := by decide +kernel
theorem dX11_lost_4 : decode cX11_lost 4 = .ok (.ifCond .ne 5, 3) := by decide +kernel
theorem dX11_lost_7 : decode cX11_lost 7 = .ok (.iconst (-1), 1) := by decide +kernel
theorem dX11_lost_8 : decode cX11_lost 8 = .ok (.ireturn, 1) := by decide +kernel
theorem dX11_lost_9 : decode cX11_lost 9 = .ok (.aload_n 0, 1) := by decide +kernel
theorem dX11_lost_10 : decode cX11_lost 10 = .ok (.getfield 99, 3) := by decide +kernel
theorem dX11_lost_13 : decode cX11_lost 13 = .ok (.getfield 297, 3) := by decide +kernel
theorem dX11_lost_16 : decode cX11_lost 16 = .ok (.astore_n 2, 1) := by decide +kernel
theorem dX11_lost_17 : decode cX11_lost 17 = .ok (.aload_n 2, 1) := by decide +kernel
theorem dX11_lost_18 : decode cX11_lost 18 = .ok (.aload_n 0, 1) := by decide +kernel
theorem dX11_lost_19 : decode cX11_lost 19 = .ok (.getfield 53, 3) := by decide +kernel
theorem dX11_lost_22 : decode cX11_lost 22 = .ok (.invokevirtual 270, 3) := by decide +kernel
theorem dX11_lost_25 : decode cX11_lost 25 = .ok (.iconst 1, 1) := by decide +kernel
theorem dX11_lost_26 : decode cX11_lost 26 = .ok (.istore_n 3, 1) := by decide +kernel
theorem dX11_lost_27 : decode cX11_lost 27 = .ok (.iload_n 3, 1) := by decide +kernel
theorem dX11_lost_28 : decode cX11_lost 28 = .ok (.iload_n 1, 1) := by decide +kernel
theorem dX11_lost_29 : decode cX11_lost 29 = .ok (.if_icmp .gt 71, 3) := by decide +kernel
theorem dX11_lost_32 : decode cX11_lost 32 = .ok (.aload_n 2, 1) := by decide +kernel
theorem dX11_lost_33 : decode cX11_lost 33 = .ok (.invokevirtual 166, 3) := by decide +kernel
theorem dX11_lost_36 : decode cX11_lost 36 = .ok (.ifCond .eq 64, 3) := by decide +kernel
theorem dX11_lost_100 : decode cX11_lost 100 = .ok (.bipush (-2), 2) := by decide +kernel
theorem dX11_lost_102 : decode cX11_lost 102 = .ok (.ireturn, 1) := by decide +kernel
theorem dX11_maps_0 : decode cX11_maps 0 = .ok (.aload_n 0, 1) := by decide +kernel
theorem dX11_maps_1 : decode cX11_maps 1 = .ok (.invokevirtual 372, 3) := by decide +kernel
theorem dX11_maps_4 : decode cX11_maps 4 = .ok (.iconst 0, 1) := by decide +kernel
theorem dX11_maps_5 : decode cX11_maps 5 = .ok (.istore_n 1, 1) := by decide +kernel
theorem dX11_maps_6 : decode cX11_maps 6 = .ok (.iconst (-1), 1) := by decide +kernel
theorem dX11_maps_7 : decode cX11_maps 7 = .ok (.istore_n 2, 1) := by decide +kernel
theorem dX11_maps_8 : decode cX11_maps 8 = .ok (.aload_n 0, 1) := by decide +kernel
theorem dX11_maps_9 : decode cX11_maps 9 = .ok (.getfield 19, 3) := by decide +kernel
theorem dX11_maps_12 : decode cX11_maps 12 = .ok (.getfield 375, 3) := by decide +kernel
theorem dX11_maps_15 : decode cX11_maps 15 = .ok (.istore_n 3, 1) := by decide +kernel
theorem dX11_maps_16 : decode cX11_maps 16 = .ok (.aload_n 0, 1) := by decide +kernel
theorem dX11_maps_17 : decode cX11_maps 17 = .ok (.getfield 19, 3) := by decide +kernel
theorem dX11_maps_20 : decode cX11_maps 20 = .ok (.getfield 375, 3) := by decide +kernel
theorem dX11_maps_23 : decode cX11_maps 23 = .ok (.istore 4, 2) := by decide +kernel
theorem dX11_maps_25 : decode cX11_maps 25 = .ok (.iconst 0, 1) := by decide +kernel
theorem dX11_maps_26 : decode cX11_maps 26 = .ok (.istore 5, 2) := by decide +kernel
theorem dX11_maps_28 : decode cX11_maps 28 = .ok (.iconst 0, 1) := by decide +kernel
theorem dX11_maps_29 : decode cX11_maps 29 = .ok (.istore 6, 2) := by decide +kernel
theorem dX11_maps_31 : decode cX11_maps 31 = .ok (.iload 6, 2) := by decide +kernel
theorem dX11_maps_33 : decode cX11_maps 33 = .ok (.aload_n 0, 1) := by decide +kernel
theorem dX11_maps_34 : decode cX11_maps 34 = .ok (.getfield 19, 3) := by decide +kernel
theorem dX11_maps_37 : decode cX11_maps 37 = .ok (.getfield 353, 3) := by decide +kernel
theorem dX11_maps_40 : decode cX11_maps 40 = .ok (.if_icmp .ge 61, 3) := by decide +kernel
theorem dX11_maps_43 : decode cX11_maps 43 = .ok (.aload_n 0, 1) := by decide +kernel
theorem dX11_maps_44 : decode cX11_maps 44 = .ok (.getfield 99, 3) := by decide +kernel
theorem dX11_maps_47 : decode cX11_maps 47 = .ok (.iload 5, 2) := by decide +kernel
theorem dX11_maps_49 : decode cX11_maps 49 = .ok (.invokevirtual 378, 3) := by decide +kernel
theorem dX11_maps_52 : decode cX11_maps 52 = .ok (.ifCond .eq 32, 3) := by decide +kernel
theorem dX11_maps_55 : decode cX11_maps 55 = .ok (.iinc 1 1, 3) := by decide +kernel
theorem dX11_maps_58 : decode cX11_maps 58 = .ok (.iload_n 2, 1) := by decide +kernel
theorem dX11_maps_59 : decode cX11_maps 59 = .ok (.iconst (-1), 1) := by decide +kernel
theorem dX11_maps_60 : decode cX11_maps 60 = .ok (.if_icmp .ne 8, 3) := by decide +kernel
theorem dX11_maps_63 : decode cX11_maps 63 = .ok (.iload 5, 2) := by decide +kernel
theorem dX11_maps_65 : decode cX11_maps 65 = .ok (.goto 4, 3) := by decide +kernel
theorem dX11_maps_69 : decode cX11_maps 69 = .ok (.istore_n 2, 1) := by decide +kernel
theorem dX11_maps_70 : decode cX11_maps 70 = .ok (.iload_n 3, 1) := by decide +kernel
theorem dX11_maps_71 : decode cX11_maps 71 = .ok (.iload 5, 2) := by decide +kernel
theorem dX11_maps_73 : decode cX11_maps 73 = .ok (.iand, 1) := by decide +kernel
theorem dX11_maps_74 : decode cX11_maps 74 = .ok (.istore_n 3, 1) := by decide +kernel
theorem dX11_maps_75 : decode cX11_maps 75 = .ok (.iload 4, 2) := by decide +kernel
theorem dX11_maps_77 : decode cX11_maps 77 = .ok (.iload 5, 2) := by decide +kernel
theorem dX11_maps_79 : decode cX11_maps 79 = .ok (.iconst (-1), 1) := by decide +kernel
theorem dX11_maps_80 : decode cX11_maps 80 = .ok (.ixor, 1) := by decide +kernel
theorem dX11_maps_81 : decode cX11_maps 81 = .ok (.iand, 1) := by decide +kernel
theorem dX11_maps_82 : decode cX11_maps 82 = .ok (.istore 4, 2) := by decide +kernel
theorem dX11_maps_84 : decode cX11_maps 84 = .ok (.aload_n 0, 1) := by decide +kernel
theorem dX11_maps_85 : decode cX11_maps 85 = .ok (.getfield 19, 3) := by decide +kernel
theorem dX11_maps_88 : decode cX11_maps 88 = .ok (.iload 5, 2) := by decide +kernel
theorem dX11_maps_90 : decode cX11_maps 90 = .ok (.invokevirtual 359, 3) := by decide +kernel
theorem dX11_maps_93 : decode cX11_maps 93 = .ok (.istore 5, 2) := by decide +kernel
theorem dX11_maps_95 : decode cX11_maps 95 = .ok (.iinc 6 1, 3) := by decide +kernel
theorem dX11_maps_98 : decode cX11_maps 98 = .ok (.goto (-67), 3) := by decide +kernel
theorem dX11_maps_101 : decode cX11_maps 101 = .ok (.aload_n 0, 1) := by decide +kernel
theorem dX11_maps_102 : decode cX11_maps 102 = .ok (.getfield 81, 3) := by decide +kernel
theorem dX11_maps_105 : decode cX11_maps 105 = .ok (.iload_n 2, 1) := by decide +kernel
theorem dX11_maps_106 : decode cX11_maps 106 = .ok (.i2l, 1) := by decide +kernel
theorem dX11_maps_107 : decode cX11_maps 107 = .ok (.iload_n 3, 1) := by decide +kernel
theorem dX11_maps_108 : decode cX11_maps 108 = .ok (.i2l, 1) := by decide +kernel
theorem dX11_maps_109 : decode cX11_maps 109 = .ok (.iload 4, 2) := by decide +kernel
theorem dX11_maps_111 : decode cX11_maps 111 = .ok (.i2l, 1) := by decide +kernel
theorem dX11_maps_112 : decode cX11_maps 112 = .ok (.invokevirtual 300, 3) := by decide +kernel
theorem dX11_maps_115 : decode cX11_maps 115 = .ok (.iload_n 1, 1) := by decide +kernel
theorem dX11_maps_116 : decode cX11_maps 116 = .ok (.ireturn, 1) := by decide +kernel
theorem dX11_marks_0 : decode cX11_marks 0 = .ok (.iload_n 1, 1) := by decide +kernel
theorem dX11_marks_1 : decode cX11_marks 1 = .ok (.iload_n 2, 1) := by decide +kernel
theorem dX11_marks_2 : decode cX11_marks 2 = .ok (.invokestatic 227, 3) := by decide +kernel
theorem dX11_marks_5 : decode cX11_marks 5 = .ok (.ifCond .eq 14, 3) := by decide +kernel
theorem dX11_marks_8 : decode cX11_marks 8 = .ok (.iload_n 3, 1) := by decide +kernel
theorem dX11_marks_9 : decode cX11_marks 9 = .ok (.ifCond .lt 10, 3) := by decide +kernel
theorem dX11_marks_12 : decode cX11_marks 12 = .ok (.iload_n 3, 1) := by decide +kernel
theorem dX11_marks_13 : decode cX11_marks 13 = .ok (.sipush 4096, 3) := by decide +kernel
theorem dX11_marks_16 : decode cX11_marks 16 = .ok (.if_icmp .lt 5, 3) := by decide +kernel
theorem dX11_marks_19 : decode cX11_marks 19 = .ok (.iconst (-1), 1) := by decide +kernel
theorem dX11_marks_20 : decode cX11_marks 20 = .ok (.ireturn, 1) := by decide +kernel
theorem dX11_marks_21 : decode cX11_marks 21 = .ok (.iconst 0, 1) := by decide +kernel
theorem dX11_marks_22 : decode cX11_marks 22 = .ok (.istore 4, 2) := by decide +kernel
theorem dX11_marks_24 : decode cX11_marks 24 = .ok (.iconst 0, 1) := by decide +kernel
theorem dX11_marks_25 : decode cX11_marks 25 = .ok (.istore 5, 2) := by decide +kernel
theorem dX11_marks_27 : decode cX11_marks 27 = .ok (.iconst (-1), 1) := by decide +kernel
theorem dX11_marks_28 : decode cX11_marks 28 = .ok (.istore 6, 2) := by decide +kernel
theorem dX11_marks_30 : decode cX11_marks 30 = .ok (.iconst 0, 1) := by decide +kernel
theorem dX11_marks_31 : decode cX11_marks 31 = .ok (.istore 7, 2) := by decide +kernel
theorem dX11_marks_33 : decode cX11_marks 33 = .ok (.iload 7, 2) := by decide +kernel
theorem dX11_marks_35 : decode cX11_marks 35 = .ok (.aload_n 0, 1) := by decide +kernel
theorem dX11_marks_36 : decode cX11_marks 36 = .ok (.getfield 19, 3) := by decide +kernel
theorem dX11_marks_39 : decode cX11_marks 39 = .ok (.getfield 323, 3) := by decide +kernel
theorem dX11_marks_42 : decode cX11_marks 42 = .ok (.if_icmp .ge 84, 3) := by decide +kernel
theorem dX11_marks_126 : decode cX11_marks 126 = .ok (.iload 4, 2) := by decide +kernel
theorem dX11_marks_128 : decode cX11_marks 128 = .ok (.ifCond .ne 14, 3) := by decide +kernel
theorem dX11_marks_131 : decode cX11_marks 131 = .ok (.aload_n 0, 1) := by decide +kernel
theorem dX11_marks_132 : decode cX11_marks 132 = .ok (.getfield 81, 3) := by decide +kernel
theorem dX11_marks_135 : decode cX11_marks 135 = .ok (.lconst 0, 1) := by decide +kernel
theorem dX11_marks_136 : decode cX11_marks 136 = .ok (.invokevirtual 307, 3) := by decide +kernel
theorem dX11_marks_139 : decode cX11_marks 139 = .ok (.goto 22, 3) := by decide +kernel
theorem dX11_marks_161 : decode cX11_marks 161 = .ok (.iload 4, 2) := by decide +kernel
theorem dX11_marks_163 : decode cX11_marks 163 = .ok (.ireturn, 1) := by decide +kernel
theorem dX11_minutesOf_0 : decode cX11_minutesOf 0 = .ok (.iload_n 0, 1) := by decide +kernel
theorem dX11_minutesOf_1 : decode cX11_minutesOf 1 = .ok (.bipush 16, 2) := by decide +kernel
theorem dX11_minutesOf_3 : decode cX11_minutesOf 3 = .ok (.idiv, 1) := by decide +kernel
theorem dX11_minutesOf_4 : decode cX11_minutesOf 4 = .ok (.ireturn, 1) := by decide +kernel
theorem dX11_next_0 : decode cX11_next 0 = .ok (.aload_n 0, 1) := by decide +kernel
theorem dX11_next_1 : decode cX11_next 1 = .ok (.getfield 19, 3) := by decide +kernel
theorem dX11_next_4 : decode cX11_next 4 = .ok (.getfield 323, 3) := by decide +kernel
theorem dX11_next_7 : decode cX11_next 7 = .ok (.ifCond .eq 10, 3) := by decide +kernel
theorem dX11_next_17 : decode cX11_next 17 = .ok (.iconst (-1), 1) := by decide +kernel
theorem dX11_next_18 : decode cX11_next 18 = .ok (.ireturn, 1) := by decide +kernel
theorem dX11_odds_0 : decode cX11_odds 0 = .ok (.aload_n 0, 1) := by decide +kernel
theorem dX11_odds_1 : decode cX11_odds 1 = .ok (.getfield 53, 3) := by decide +kernel
theorem dX11_odds_4 : decode cX11_odds 4 = .ok (.iload_n 1, 1) := by decide +kernel
theorem dX11_odds_5 : decode cX11_odds 5 = .ok (.invokevirtual 172, 3) := by decide +kernel
theorem dX11_odds_8 : decode cX11_odds 8 = .ok (.ifCond .eq 23, 3) := by decide +kernel
theorem dX11_odds_31 : decode cX11_odds 31 = .ok (.iconst (-1), 1) := by decide +kernel
theorem dX11_odds_32 : decode cX11_odds 32 = .ok (.ireturn, 1) := by decide +kernel
theorem dX11_order_0 : decode cX11_order 0 = .ok (.iload_n 1, 1) := by decide +kernel
theorem dX11_order_1 : decode cX11_order 1 = .ok (.iload_n 2, 1) := by decide +kernel
theorem dX11_order_2 : decode cX11_order 2 = .ok (.if_icmp .eq 25, 3) := by decide +kernel
theorem dX11_order_5 : decode cX11_order 5 = .ok (.aload_n 0, 1) := by decide +kernel
theorem dX11_order_6 : decode cX11_order 6 = .ok (.getfield 53, 3) := by decide +kernel
theorem dX11_order_9 : decode cX11_order 9 = .ok (.iload_n 1, 1) := by decide +kernel
theorem dX11_order_10 : decode cX11_order 10 = .ok (.invokevirtual 241, 3) := by decide +kernel
theorem dX11_order_13 : decode cX11_order 13 = .ok (.ifCond .eq 14, 3) := by decide +kernel
theorem dX11_order_27 : decode cX11_order 27 = .ok (.iconst (-1), 1) := by decide +kernel
theorem dX11_order_28 : decode cX11_order 28 = .ok (.ireturn, 1) := by decide +kernel
theorem dX11_passMinutes_0 : decode cX11_passMinutes 0 = .ok (.iconst 0, 1) := by decide +kernel
theorem dX11_passMinutes_1 : decode cX11_passMinutes 1 = .ok (.istore_n 2, 1) := by decide +kernel
theorem dX11_passMinutes_2 : decode cX11_passMinutes 2 = .ok (.iload_n 2, 1) := by decide +kernel
theorem dX11_passMinutes_3 : decode cX11_passMinutes 3 = .ok (.iload_n 1, 1) := by decide +kernel
theorem dX11_passMinutes_4 : decode cX11_passMinutes 4 = .ok (.if_icmp .ge 20, 3) := by decide +kernel
theorem dX11_passMinutes_7 : decode cX11_passMinutes 7 = .ok (.aload_n 0, 1) := by decide +kernel
theorem dX11_passMinutes_8 : decode cX11_passMinutes 8 = .ok (.getfield 90, 3) := by decide +kernel
theorem dX11_passMinutes_11 : decode cX11_passMinutes 11 = .ok (.aload_n 0, 1) := by decide +kernel
theorem dX11_passMinutes_12 : decode cX11_passMinutes 12 = .ok (.getfield 53, 3) := by decide +kernel
theorem dX11_passMinutes_15 : decode cX11_passMinutes 15 = .ok (.invokevirtual 266, 3) := by decide +kernel
theorem dX11_passMinutes_18 : decode cX11_passMinutes 18 = .ok (.iinc 2 1, 3) := by decide +kernel
theorem dX11_passMinutes_21 : decode cX11_passMinutes 21 = .ok (.goto (-19), 3) := by decide +kernel
theorem dX11_passMinutes_24 : decode cX11_passMinutes 24 = .ok (.return_, 1) := by decide +kernel
theorem dX11_plank_0 : decode cX11_plank 0 = .ok (.aload_n 0, 1) := by decide +kernel
theorem dX11_plank_1 : decode cX11_plank 1 = .ok (.getfield 19, 3) := by decide +kernel
theorem dX11_plank_4 : decode cX11_plank 4 = .ok (.iload_n 1, 1) := by decide +kernel
theorem dX11_plank_5 : decode cX11_plank 5 = .ok (.invokevirtual 201, 3) := by decide +kernel
theorem dX11_plank_8 : decode cX11_plank 8 = .ok (.ifCond .eq 12, 3) := by decide +kernel
theorem dX11_plank_20 : decode cX11_plank 20 = .ok (.iconst 0, 1) := by decide +kernel
theorem dX11_plank_21 : decode cX11_plank 21 = .ok (.ireturn, 1) := by decide +kernel
theorem dX11_put_0 : decode cX11_put 0 = .ok (.aload_n 0, 1) := by decide +kernel
theorem dX11_put_1 : decode cX11_put 1 = .ok (.getfield 19, 3) := by decide +kernel
theorem dX11_put_4 : decode cX11_put 4 = .ok (.iload_n 1, 1) := by decide +kernel
theorem dX11_put_5 : decode cX11_put 5 = .ok (.invokevirtual 137, 3) := by decide +kernel
theorem dX11_put_8 : decode cX11_put 8 = .ok (.ifCond .eq 19, 3) := by decide +kernel
theorem dX11_put_27 : decode cX11_put 27 = .ok (.iconst (-1), 1) := by decide +kernel
theorem dX11_put_28 : decode cX11_put 28 = .ok (.ireturn, 1) := by decide +kernel
theorem dX11_round_0 : decode cX11_round 0 = .ok (.aload_n 0, 1) := by decide +kernel
theorem dX11_round_1 : decode cX11_round 1 = .ok (.getfield 19, 3) := by decide +kernel
theorem dX11_round_4 : decode cX11_round 4 = .ok (.iload_n 1, 1) := by decide +kernel
theorem dX11_round_5 : decode cX11_round 5 = .ok (.invokevirtual 137, 3) := by decide +kernel
theorem dX11_round_8 : decode cX11_round 8 = .ok (.ifCond .ne 5, 3) := by decide +kernel
theorem dX11_round_11 : decode cX11_round 11 = .ok (.iconst (-1), 1) := by decide +kernel
theorem dX11_round_12 : decode cX11_round 12 = .ok (.ireturn, 1) := by decide +kernel
theorem dX11_rule_0 : decode cX11_rule 0 = .ok (.aload_n 0, 1) := by decide +kernel
theorem dX11_rule_1 : decode cX11_rule 1 = .ok (.getfield 40, 3) := by decide +kernel
theorem dX11_rule_4 : decode cX11_rule 4 = .ok (.aload_n 0, 1) := by decide +kernel
theorem dX11_rule_5 : decode cX11_rule 5 = .ok (.getfield 12, 3) := by decide +kernel
theorem dX11_rule_8 : decode cX11_rule 8 = .ok (.invokevirtual 133, 3) := by decide +kernel
theorem dX11_rule_11 : decode cX11_rule 11 = .ok (.istore_n 1, 1) := by decide +kernel
theorem dX11_rule_12 : decode cX11_rule 12 = .ok (.aload_n 0, 1) := by decide +kernel
theorem dX11_rule_13 : decode cX11_rule 13 = .ok (.getfield 12, 3) := by decide +kernel
theorem dX11_rule_16 : decode cX11_rule 16 = .ok (.iconst 0, 1) := by decide +kernel
theorem dX11_rule_17 : decode cX11_rule 17 = .ok (.invokevirtual 111, 3) := by decide +kernel
theorem dX11_rule_20 : decode cX11_rule 20 = .ok (.pop, 1) := by decide +kernel
theorem dX11_rule_21 : decode cX11_rule 21 = .ok (.iload_n 1, 1) := by decide +kernel
theorem dX11_rule_22 : decode cX11_rule 22 = .ok (.ifCond .lt 14, 3) := by decide +kernel
theorem dX11_rule_25 : decode cX11_rule 25 = .ok (.aload_n 0, 1) := by decide +kernel
theorem dX11_rule_26 : decode cX11_rule 26 = .ok (.getfield 36, 3) := by decide +kernel
theorem dX11_rule_29 : decode cX11_rule 29 = .ok (.aload_n 0, 1) := by decide +kernel
theorem dX11_rule_30 : decode cX11_rule 30 = .ok (.getfield 40, 3) := by decide +kernel
theorem dX11_rule_33 : decode cX11_rule 33 = .ok (.invokevirtual 134, 3) := by decide +kernel
theorem dX11_rule_36 : decode cX11_rule 36 = .ok (.iload_n 1, 1) := by decide +kernel
theorem dX11_rule_37 : decode cX11_rule 37 = .ok (.ireturn, 1) := by decide +kernel
theorem dX11_run_0 : decode cX11_run 0 = .ok (.iload_n 1, 1) := by decide +kernel
theorem dX11_run_1 : decode cX11_run 1 = .ok (.ifCond .lt 9, 3) := by decide +kernel
theorem dX11_run_4 : decode cX11_run 4 = .ok (.iload_n 1, 1) := by decide +kernel
theorem dX11_run_5 : decode cX11_run 5 = .ok (.bipush 99, 2) := by decide +kernel
theorem dX11_run_7 : decode cX11_run 7 = .ok (.if_icmp .le 5, 3) := by decide +kernel
theorem dX11_run_10 : decode cX11_run 10 = .ok (.iconst (-1), 1) := by decide +kernel
theorem dX11_run_11 : decode cX11_run 11 = .ok (.ireturn, 1) := by decide +kernel
theorem dX11_run_12 : decode cX11_run 12 = .ok (.iload_n 1, 1) := by decide +kernel
theorem dX11_run_13 : decode cX11_run 13 = .ok (.ifCond .le 14, 3) := by decide +kernel
theorem dX11_run_16 : decode cX11_run 16 = .ok (.aload_n 0, 1) := by decide +kernel
theorem dX11_run_17 : decode cX11_run 17 = .ok (.getfield 63, 3) := by decide +kernel
theorem dX11_run_20 : decode cX11_run 20 = .ok (.aload_n 0, 1) := by decide +kernel
theorem dX11_run_21 : decode cX11_run 21 = .ok (.getfield 53, 3) := by decide +kernel
theorem dX11_run_24 : decode cX11_run 24 = .ok (.invokevirtual 204, 3) := by decide +kernel
theorem dX11_run_27 : decode cX11_run 27 = .ok (.aload_n 0, 1) := by decide +kernel
theorem dX11_run_28 : decode cX11_run 28 = .ok (.getfield 53, 3) := by decide +kernel
theorem dX11_run_31 : decode cX11_run 31 = .ok (.getfield 247, 3) := by decide +kernel
theorem dX11_run_34 : decode cX11_run 34 = .ok (.istore_n 2, 1) := by decide +kernel
theorem dX11_run_35 : decode cX11_run 35 = .ok (.aload_n 0, 1) := by decide +kernel
theorem dX11_run_36 : decode cX11_run 36 = .ok (.getfield 53, 3) := by decide +kernel
theorem dX11_run_39 : decode cX11_run 39 = .ok (.getfield 250, 3) := by decide +kernel
theorem dX11_run_42 : decode cX11_run 42 = .ok (.istore_n 3, 1) := by decide +kernel
theorem dX11_run_43 : decode cX11_run 43 = .ok (.aload_n 0, 1) := by decide +kernel
theorem dX11_run_44 : decode cX11_run 44 = .ok (.iload_n 1, 1) := by decide +kernel
theorem dX11_run_45 : decode cX11_run 45 = .ok (.invokevirtual 253, 3) := by decide +kernel
theorem dX11_run_48 : decode cX11_run 48 = .ok (.aload_n 0, 1) := by decide +kernel
theorem dX11_run_49 : decode cX11_run 49 = .ok (.getfield 53, 3) := by decide +kernel
theorem dX11_run_52 : decode cX11_run 52 = .ok (.getfield 247, 3) := by decide +kernel
theorem dX11_run_55 : decode cX11_run 55 = .ok (.iload_n 2, 1) := by decide +kernel
theorem dX11_run_56 : decode cX11_run 56 = .ok (.iconst (-1), 1) := by decide +kernel
theorem dX11_run_57 : decode cX11_run 57 = .ok (.ixor, 1) := by decide +kernel
theorem dX11_run_58 : decode cX11_run 58 = .ok (.iand, 1) := by decide +kernel
theorem dX11_run_59 : decode cX11_run 59 = .ok (.istore 4, 2) := by decide +kernel
theorem dX11_run_61 : decode cX11_run 61 = .ok (.aload_n 0, 1) := by decide +kernel
theorem dX11_run_62 : decode cX11_run 62 = .ok (.getfield 81, 3) := by decide +kernel
theorem dX11_run_65 : decode cX11_run 65 = .ok (.iload 4, 2) := by decide +kernel
theorem dX11_run_67 : decode cX11_run 67 = .ok (.i2l, 1) := by decide +kernel
theorem dX11_run_68 : decode cX11_run 68 = .ok (.aload_n 0, 1) := by decide +kernel
theorem dX11_run_69 : decode cX11_run 69 = .ok (.getfield 53, 3) := by decide +kernel
theorem dX11_run_72 : decode cX11_run 72 = .ok (.getfield 250, 3) := by decide +kernel
theorem dX11_run_75 : decode cX11_run 75 = .ok (.iload_n 3, 1) := by decide +kernel
theorem dX11_run_76 : decode cX11_run 76 = .ok (.iconst (-1), 1) := by decide +kernel
theorem dX11_run_77 : decode cX11_run 77 = .ok (.ixor, 1) := by decide +kernel
theorem dX11_run_78 : decode cX11_run 78 = .ok (.iand, 1) := by decide +kernel
theorem dX11_run_79 : decode cX11_run 79 = .ok (.i2l, 1) := by decide +kernel
theorem dX11_run_80 : decode cX11_run 80 = .ok (.invokevirtual 257, 3) := by decide +kernel
theorem dX11_run_83 : decode cX11_run 83 = .ok (.iload 4, 2) := by decide +kernel
theorem dX11_run_85 : decode cX11_run 85 = .ok (.invokestatic 261, 3) := by decide +kernel
theorem dX11_run_88 : decode cX11_run 88 = .ok (.ireturn, 1) := by decide +kernel
theorem dX11_sail_0 : decode cX11_sail 0 = .ok (.aload_n 0, 1) := by decide +kernel
theorem dX11_sail_1 : decode cX11_sail 1 = .ok (.getfield 19, 3) := by decide +kernel
theorem dX11_sail_4 : decode cX11_sail 4 = .ok (.iload_n 1, 1) := by decide +kernel
theorem dX11_sail_5 : decode cX11_sail 5 = .ok (.invokevirtual 137, 3) := by decide +kernel
theorem dX11_sail_8 : decode cX11_sail 8 = .ok (.ifCond .eq 31, 3) := by decide +kernel
theorem dX11_sail_39 : decode cX11_sail 39 = .ok (.iconst (-1), 1) := by decide +kernel
theorem dX11_sail_40 : decode cX11_sail 40 = .ok (.ireturn, 1) := by decide +kernel
theorem dX11_save_0 : decode cX11_save 0 = .ok (.iload_n 1, 1) := by decide +kernel
theorem dX11_save_1 : decode cX11_save 1 = .ok (.ifCond .lt 16, 3) := by decide +kernel
theorem dX11_save_4 : decode cX11_save 4 = .ok (.iload_n 1, 1) := by decide +kernel
theorem dX11_save_5 : decode cX11_save 5 = .ok (.iconst 1, 1) := by decide +kernel
theorem dX11_save_6 : decode cX11_save 6 = .ok (.aload_n 0, 1) := by decide +kernel
theorem dX11_save_7 : decode cX11_save 7 = .ok (.getfield 53, 3) := by decide +kernel
theorem dX11_save_10 : decode cX11_save 10 = .ok (.getfield 208, 3) := by decide +kernel
theorem dX11_save_13 : decode cX11_save 13 = .ok (.ishl, 1) := by decide +kernel
theorem dX11_save_14 : decode cX11_save 14 = .ok (.if_icmp .lt 5, 3) := by decide +kernel
theorem dX11_save_17 : decode cX11_save 17 = .ok (.iconst (-1), 1) := by decide +kernel
theorem dX11_save_18 : decode cX11_save 18 = .ok (.ireturn, 1) := by decide +kernel
theorem dX11_save_19 : decode cX11_save 19 = .ok (.aload_n 0, 1) := by decide +kernel
theorem dX11_save_20 : decode cX11_save 20 = .ok (.getfield 99, 3) := by decide +kernel
theorem dX11_save_23 : decode cX11_save 23 = .ok (.aload_n 0, 1) := by decide +kernel
theorem dX11_save_24 : decode cX11_save 24 = .ok (.getfield 53, 3) := by decide +kernel
theorem dX11_save_27 : decode cX11_save 27 = .ok (.iload_n 1, 1) := by decide +kernel
theorem dX11_save_28 : decode cX11_save 28 = .ok (.iconst 0, 1) := by decide +kernel
