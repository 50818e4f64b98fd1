theorem dL_law_23 : decode cL_law 23 = .ok (.iload 4, 2) := by decide +kernel
theorem dL_law_25 : decode cL_law 25 = .ok (.aload_n 0, 1) := by decide +kernel
theorem dL_law_26 : decode cL_law 26 = .ok (.arraylength, 1) := by decide +kernel
theorem dL_law_27 : decode cL_law 27 = .ok (.bipush 6, 2) := by decide +kernel
theorem dL_law_29 : decode cL_law 29 = .ok (.isub, 1) := by decide +kernel
theorem dL_law_30 : decode cL_law 30 = .ok (.if_icmp .gt 1638, 3) := by decide +kernel
theorem dL_law_33 : decode cL_law 33 = .ok (.aload_n 0, 1) := by decide +kernel
theorem dL_law_34 : decode cL_law 34 = .ok (.iload 4, 2) := by decide +kernel
theorem dL_law_36 : decode cL_law 36 = .ok (.iaload, 1) := by decide +kernel
theorem dL_law_37 : decode cL_law 37 = .ok (.bipush 63, 2) := by decide +kernel
theorem dL_law_39 : decode cL_law 39 = .ok (.iand, 1) := by decide +kernel
theorem dL_law_40 : decode cL_law 40 = .ok (.tableswitch 1622 0 40 #[180, 205, 230, 243, 256, 269, 309, 349, 374, 411, 472, 533, 570, 595, 608, 621, 658, 683, 708, 733, 806, 855, 904, 953, 1002, 1063, 1088, 1113, 1150, 1211, 1284, 1333, 1346, 1359, 1384, 1433, 1482, 1519, 1544, 1569, 1594], 180) := by decide +kernel
theorem dL_law_1662 : decode cL_law 1662 = .ok (.iinc 4 6, 3) := by decide +kernel
theorem dL_law_1665 : decode cL_law 1665 = .ok (.goto (-1642), 3) := by decide +kernel
