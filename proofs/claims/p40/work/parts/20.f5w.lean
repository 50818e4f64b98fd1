theorem mw_53 : (Cond.selects RX12 yX12_isPlace yX12_isPlace) ∈ gx_G := gx_mem 53 (by decide +kernel) (by decide +kernel)
theorem mw_56 : (Cond.selects RX12 yX12_waterIn yX12_waterIn) ∈ gx_G := gx_mem 56 (by decide +kernel) (by decide +kernel)
theorem mw_61 : (Cond.selects RX12 yX12_canPut yX12_canPut) ∈ gx_G := gx_mem 61 (by decide +kernel) (by decide +kernel)
theorem mw_62 : (Cond.selects RX12 yX12_lays yX12_lays) ∈ gx_G := gx_mem 62 (by decide +kernel) (by decide +kernel)
theorem mw_64 : (Cond.selects RX12 yX12_minuteGoes yX12_minuteGoes) ∈ gx_G := gx_mem 64 (by decide +kernel) (by decide +kernel)
theorem mw_65 : (Cond.selects RX12 yX12_steps yX12_steps) ∈ gx_G := gx_mem 65 (by decide +kernel) (by decide +kernel)
theorem mw_66 : (Cond.selects RX12 yX12_ends yX12_ends) ∈ gx_G := gx_mem 66 (by decide +kernel) (by decide +kernel)
theorem mw_67 : (Cond.selects RX12 yX12_ruled yX12_ruled) ∈ gx_G := gx_mem 67 (by decide +kernel) (by decide +kernel)
theorem mw_68 : (Cond.selects RX12 yX12_askedOf yX12_askedOf) ∈ gx_G := gx_mem 68 (by decide +kernel) (by decide +kernel)
theorem mw_73 : (Cond.selects RX12 yX12_endsAfter yX12_endsAfter) ∈ gx_G := gx_mem 73 (by decide +kernel) (by decide +kernel)
theorem mw_75 : (Cond.selects RX12 yX12_isKitchen yX12_isKitchen) ∈ gx_G := gx_mem 75 (by decide +kernel) (by decide +kernel)
theorem mw_78 : (Cond.selects RX12 yX12_goesAlone yX12_goesAlone) ∈ gx_G := gx_mem 78 (by decide +kernel) (by decide +kernel)
theorem mw_79 : (Cond.selects RX12 yX12_laysAlone yX12_laysAlone) ∈ gx_G := gx_mem 79 (by decide +kernel) (by decide +kernel)
theorem mw_101 : (Cond.initialized RX12) ∈ gx_G := gx_mem 101 (by decide +kernel) (by decide +kernel)
theorem mw_685 : (Cond.methodLink RX11 132 yX10_read) ∈ gx_G := gx_mem 685 (by decide +kernel) (by decide +kernel)
theorem mw_686 : (Cond.instanceMethod yX10_read) ∈ gx_G := gx_mem 686 (by decide +kernel) (by decide +kernel)
theorem mw_687 : (Cond.selects RX10 yX10_read yX10_read) ∈ gx_G := gx_mem 687 (by decide +kernel) (by decide +kernel)
theorem mw_688 : (Cond.code yX10_read cX10_read 4 (some .int)) ∈ gx_G := gx_mem 688 (by decide +kernel) (by decide +kernel)
theorem mw_1037 : (Cond.methodLink RX11 178 yX6_paperOf) ∈ gx_G := gx_mem 1037 (by decide +kernel) (by decide +kernel)
theorem mw_1038 : (Cond.methodLink RX11 181 yX6_purseOf) ∈ gx_G := gx_mem 1038 (by decide +kernel) (by decide +kernel)
theorem mw_1414 : (Cond.fieldLink RX12 111 "DownTheGutterModel" "thrown" "I") ∈ gx_G := gx_mem 1414 (by decide +kernel) (by decide +kernel)
theorem mw_1417 : (Cond.fieldLink RX12 126 "DownTheGutterModel" "places" "I") ∈ gx_G := gx_mem 1417 (by decide +kernel) (by decide +kernel)
theorem mw_1418 : (Cond.fieldLink RX12 225 "DownTheGutterModel" "waterLong" "I") ∈ gx_G := gx_mem 1418 (by decide +kernel) (by decide +kernel)
theorem mw_1419 : (Cond.fieldLink RX12 13 "DownTheGutterModel" "kind" "[I") ∈ gx_G := gx_mem 1419 (by decide +kernel) (by decide +kernel)
theorem mw_1420 : (Cond.fieldLink RX12 17 "DownTheGutterModel" "goes" "[I") ∈ gx_G := gx_mem 1420 (by decide +kernel) (by decide +kernel)
theorem mw_1421 : (Cond.fieldLink RX12 20 "DownTheGutterModel" "second" "[I") ∈ gx_G := gx_mem 1421 (by decide +kernel) (by decide +kernel)
theorem mw_1422 : (Cond.fieldLink RX12 23 "DownTheGutterModel" "number" "[I") ∈ gx_G := gx_mem 1422 (by decide +kernel) (by decide +kernel)
theorem mw_1423 : (Cond.fieldLink RX12 26 "DownTheGutterModel" "waters" "[I") ∈ gx_G := gx_mem 1423 (by decide +kernel) (by decide +kernel)
theorem mw_1424 : (Cond.fieldLink RX12 29 "DownTheGutterModel" "now" "[I") ∈ gx_G := gx_mem 1424 (by decide +kernel) (by decide +kernel)
theorem mw_1426 : (Cond.fieldLink RX12 35 "DownTheGutterModel" "tape" "[I") ∈ gx_G := gx_mem 1426 (by decide +kernel) (by decide +kernel)
theorem mw_1428 : (Cond.fieldLink RX12 140 "DownTheGutterModel" "at" "I") ∈ gx_G := gx_mem 1428 (by decide +kernel) (by decide +kernel)
theorem mw_1429 : (Cond.fieldLink RX12 152 "DownTheGutterModel" "to" "I") ∈ gx_G := gx_mem 1429 (by decide +kernel) (by decide +kernel)
theorem mw_1440 : (Cond.fieldLink RX12 59 "DownTheGutterModel" "code" "[I") ∈ gx_G := gx_mem 1440 (by decide +kernel) (by decide +kernel)
theorem mw_1442 : (Cond.fieldLink RX12 252 "DownTheGutterModel" "codeLong" "I") ∈ gx_G := gx_mem 1442 (by decide +kernel) (by decide +kernel)
theorem mw_1444 : (Cond.fieldLink RX12 65 "DownTheGutterModel" "stack" "[I") ∈ gx_G := gx_mem 1444 (by decide +kernel) (by decide +kernel)
theorem mw_1445 : (Cond.fieldLink RX12 258 "DownTheGutterModel" "rains" "I") ∈ gx_G := gx_mem 1445 (by decide +kernel) (by decide +kernel)
theorem mw_1446 : (Cond.fieldLink RX12 255 "DownTheGutterModel" "rainsFrom" "I") ∈ gx_G := gx_mem 1446 (by decide +kernel) (by decide +kernel)
theorem mw_1447 : (Cond.fieldLink RX12 283 "DownTheGutterModel" "isForever" "Z") ∈ gx_G := gx_mem 1447 (by decide +kernel) (by decide +kernel)
theorem mw_1448 : (Cond.fieldLink RX12 294 "DownTheGutterModel" "hasLeft" "Z") ∈ gx_G := gx_mem 1448 (by decide +kernel) (by decide +kernel)
theorem mw_1449 : (Cond.fieldLink RX12 297 "DownTheGutterModel" "leaves" "I") ∈ gx_G := gx_mem 1449 (by decide +kernel) (by decide +kernel)
theorem mw_1450 : (Cond.fieldLink RX12 220 "DownTheGutterModel" "undos" "I") ∈ gx_G := gx_mem 1450 (by decide +kernel) (by decide +kernel)
theorem mw_1451 : (Cond.fieldLink RX12 68 "DownTheGutterModel" "undone" "[I") ∈ gx_G := gx_mem 1451 (by decide +kernel) (by decide +kernel)
theorem mw_1458 : (Cond.fieldLink RX12 83 "DownTheGutterModel" "alone" "[I") ∈ gx_G := gx_mem 1458 (by decide +kernel) (by decide +kernel)
theorem mw_1459 : (Cond.fieldLink RX12 389 "DownTheGutterModel" "soloPlanks" "I") ∈ gx_G := gx_mem 1459 (by decide +kernel) (by decide +kernel)
theorem mw_1460 : (Cond.fieldLink RX12 392 "DownTheGutterModel" "soloNow" "I") ∈ gx_G := gx_mem 1460 (by decide +kernel) (by decide +kernel)
theorem mw_1472 : (Cond.fieldLink RX12 105 "DownTheGutterModel" "isKept" "[Z") ∈ gx_G := gx_mem 1472 (by decide +kernel) (by decide +kernel)
theorem mw_1473 : (Cond.fieldLink RX12 108 "DownTheGutterModel" "kept" "[I") ∈ gx_G := gx_mem 1473 (by decide +kernel) (by decide +kernel)
theorem mw_1603 : (Cond.methodLink RX12 129 yX12_in) ∈ gx_G := gx_mem 1603 (by decide +kernel) (by decide +kernel)
theorem mw_1604 : (Cond.static yX12_in) ∈ gx_G := gx_mem 1604 (by decide +kernel) (by decide +kernel)
theorem mw_1605 : (Cond.code yX12_in cX12_in 6 (some .boolean)) ∈ gx_G := gx_mem 1605 (by decide +kernel) (by decide +kernel)
theorem mw_1614 : (Cond.methodLink RX12 146 Lib.Math.min.name) ∈ gx_G := gx_mem 1614 (by decide +kernel) (by decide +kernel)
theorem mw_1628 : (Cond.methodLink RX12 163 yJ0_length_8abf5) ∈ gx_G := gx_mem 1628 (by decide +kernel) (by decide +kernel)
theorem mw_1629 : (Cond.methodLink RX12 169 yJ0_charAt_5068e) ∈ gx_G := gx_mem 1629 (by decide +kernel) (by decide +kernel)
theorem mw_1630 : (Cond.instanceMethod yJ0_charAt_5068e) ∈ gx_G := gx_mem 1630 (by decide +kernel) (by decide +kernel)
theorem mw_1631 : (Cond.selects RJ0 yJ0_charAt_5068e yJ0_charAt_5068e) ∈ gx_G := gx_mem 1631 (by decide +kernel) (by decide +kernel)
theorem mw_1632 : (Cond.code yJ0_charAt_5068e cJ0_charAt_5068e 2 (some .char)) ∈ gx_G := gx_mem 1632 (by decide +kernel) (by decide +kernel)
theorem mw_1633 : (Cond.methodLink RJ0 495 yJ1_charAt_3b067) ∈ gx_G := gx_mem 1633 (by decide +kernel) (by decide +kernel)
theorem mw_1634 : (Cond.static yJ1_charAt_3b067) ∈ gx_G := gx_mem 1634 (by decide +kernel) (by decide +kernel)
theorem mw_1635 : (Cond.code yJ1_charAt_3b067 cJ1_charAt_3b067 2 (some .char)) ∈ gx_G := gx_mem 1635 (by decide +kernel) (by decide +kernel)
theorem mw_1636 : (Cond.methodLink RJ1 9 yJ0_checkIndex_df160) ∈ gx_G := gx_mem 1636 (by decide +kernel) (by decide +kernel)
theorem mw_1637 : (Cond.static yJ0_checkIndex_df160) ∈ gx_G := gx_mem 1637 (by decide +kernel) (by decide +kernel)
theorem mw_1638 : (Cond.code yJ0_checkIndex_df160 cJ0_checkIndex_df160 2 none) ∈ gx_G := gx_mem 1638 (by decide +kernel) (by decide +kernel)
theorem mw_1639 : (Cond.methodLink RJ0 1059 yJ3_checkIndex_8e157) ∈ gx_G := gx_mem 1639 (by decide +kernel) (by decide +kernel)
theorem mw_1640 : (Cond.static yJ3_checkIndex_8e157) ∈ gx_G := gx_mem 1640 (by decide +kernel) (by decide +kernel)
theorem mw_1641 : (Cond.code yJ3_checkIndex_8e157 cJ3_checkIndex_8e157 3 (some .int)) ∈ gx_G := gx_mem 1641 (by decide +kernel) (by decide +kernel)
theorem mw_1649 : (Cond.methodLink RX12 155 yX12_flag) ∈ gx_G := gx_mem 1649 (by decide +kernel) (by decide +kernel)
theorem mw_1650 : (Cond.static yX12_flag) ∈ gx_G := gx_mem 1650 (by decide +kernel) (by decide +kernel)
theorem mw_1651 : (Cond.code yX12_flag cX12_flag 1 (some .int)) ∈ gx_G := gx_mem 1651 (by decide +kernel) (by decide +kernel)
theorem mw_1785 : (Cond.methodLink RX12 133 yX12_isPlace) ∈ gx_G := gx_mem 1785 (by decide +kernel) (by decide +kernel)
theorem mw_1787 : (Cond.instanceMethod yX12_isPlace) ∈ gx_G := gx_mem 1787 (by decide +kernel) (by decide +kernel)
theorem mw_1788 : (Cond.code yX12_isPlace cX12_isPlace 2 (some .boolean)) ∈ gx_G := gx_mem 1788 (by decide +kernel) (by decide +kernel)
theorem mw_1803 : (Cond.methodLink RX12 261 Lib.Math.max.name) ∈ gx_G := gx_mem 1803 (by decide +kernel) (by decide +kernel)
theorem mw_1809 : (Cond.methodLink RX12 268 yX12_waterIn) ∈ gx_G := gx_mem 1809 (by decide +kernel) (by decide +kernel)
theorem mw_1811 : (Cond.instanceMethod yX12_waterIn) ∈ gx_G := gx_mem 1811 (by decide +kernel) (by decide +kernel)
theorem mw_1812 : (Cond.code yX12_waterIn cX12_waterIn 5 (some .int)) ∈ gx_G := gx_mem 1812 (by decide +kernel) (by decide +kernel)
theorem mw_1813 : (Cond.methodLink RX12 264 yX12_has) ∈ gx_G := gx_mem 1813 (by decide +kernel) (by decide +kernel)
theorem mw_1814 : (Cond.static yX12_has) ∈ gx_G := gx_mem 1814 (by decide +kernel) (by decide +kernel)
theorem mw_1815 : (Cond.code yX12_has cX12_has 2 (some .boolean)) ∈ gx_G := gx_mem 1815 (by decide +kernel) (by decide +kernel)
theorem mw_1849 : (Cond.methodLink RX12 331 yX12_canPut) ∈ gx_G := gx_mem 1849 (by decide +kernel) (by decide +kernel)
theorem mw_1851 : (Cond.instanceMethod yX12_canPut) ∈ gx_G := gx_mem 1851 (by decide +kernel) (by decide +kernel)
theorem mw_1852 : (Cond.code yX12_canPut cX12_canPut 4 (some .boolean)) ∈ gx_G := gx_mem 1852 (by decide +kernel) (by decide +kernel)
theorem mw_1853 : (Cond.constantLong RX12 327 (99)) ∈ gx_G := gx_mem 1853 (by decide +kernel) (by decide +kernel)
theorem mw_1854 : (Cond.constantLong RX12 329 (9)) ∈ gx_G := gx_mem 1854 (by decide +kernel) (by decide +kernel)
theorem mw_1855 : (Cond.methodLink RX12 335 yX12_lays) ∈ gx_G := gx_mem 1855 (by decide +kernel) (by decide +kernel)
theorem mw_1857 : (Cond.instanceMethod yX12_lays) ∈ gx_G := gx_mem 1857 (by decide +kernel) (by decide +kernel)
theorem mw_1858 : (Cond.code yX12_lays cX12_lays 8 none) ∈ gx_G := gx_mem 1858 (by decide +kernel) (by decide +kernel)
theorem mw_1874 : (Cond.methodLink RX12 349 yX12_minuteGoes) ∈ gx_G := gx_mem 1874 (by decide +kernel) (by decide +kernel)
theorem mw_1876 : (Cond.instanceMethod yX12_minuteGoes) ∈ gx_G := gx_mem 1876 (by decide +kernel) (by decide +kernel)
theorem mw_1877 : (Cond.code yX12_minuteGoes cX12_minuteGoes 6 none) ∈ gx_G := gx_mem 1877 (by decide +kernel) (by decide +kernel)
theorem mw_1878 : (Cond.methodLink RX12 300 yX12_steps) ∈ gx_G := gx_mem 1878 (by decide +kernel) (by decide +kernel)
theorem mw_1880 : (Cond.instanceMethod yX12_steps) ∈ gx_G := gx_mem 1880 (by decide +kernel) (by decide +kernel)
theorem mw_1881 : (Cond.code yX12_steps cX12_steps 6 (some .boolean)) ∈ gx_G := gx_mem 1881 (by decide +kernel) (by decide +kernel)
theorem mw_1882 : (Cond.methodLink RX12 287 yX12_ends) ∈ gx_G := gx_mem 1882 (by decide +kernel) (by decide +kernel)
theorem mw_1884 : (Cond.instanceMethod yX12_ends) ∈ gx_G := gx_mem 1884 (by decide +kernel) (by decide +kernel)
theorem mw_1885 : (Cond.code yX12_ends cX12_ends 4 none) ∈ gx_G := gx_mem 1885 (by decide +kernel) (by decide +kernel)
theorem mw_1886 : (Cond.methodLink RX12 291 yX12_ruled) ∈ gx_G := gx_mem 1886 (by decide +kernel) (by decide +kernel)
theorem mw_1888 : (Cond.instanceMethod yX12_ruled) ∈ gx_G := gx_mem 1888 (by decide +kernel) (by decide +kernel)
theorem mw_1889 : (Cond.code yX12_ruled cX12_ruled 6 (some .int)) ∈ gx_G := gx_mem 1889 (by decide +kernel) (by decide +kernel)
theorem mw_1890 : (Cond.methodLink RX12 275 yX12_worked) ∈ gx_G := gx_mem 1890 (by decide +kernel) (by decide +kernel)
theorem mw_1891 : (Cond.static yX12_worked) ∈ gx_G := gx_mem 1891 (by decide +kernel) (by decide +kernel)
theorem mw_1892 : (Cond.code yX12_worked cX12_worked 3 (some .int)) ∈ gx_G := gx_mem 1892 (by decide +kernel) (by decide +kernel)
theorem mw_1893 : (Cond.methodLink RX12 279 yX12_askedOf) ∈ gx_G := gx_mem 1893 (by decide +kernel) (by decide +kernel)
theorem mw_1895 : (Cond.instanceMethod yX12_askedOf) ∈ gx_G := gx_mem 1895 (by decide +kernel) (by decide +kernel)
theorem mw_1896 : (Cond.code yX12_askedOf cX12_askedOf 5 (some .int)) ∈ gx_G := gx_mem 1896 (by decide +kernel) (by decide +kernel)
theorem mw_1897 : (Cond.methodLink RX12 271 yX12_othersAt) ∈ gx_G := gx_mem 1897 (by decide +kernel) (by decide +kernel)
theorem mw_1898 : (Cond.static yX12_othersAt) ∈ gx_G := gx_mem 1898 (by decide +kernel) (by decide +kernel)
theorem mw_1899 : (Cond.code yX12_othersAt cX12_othersAt 4 (some .int)) ∈ gx_G := gx_mem 1899 (by decide +kernel) (by decide +kernel)
theorem mw_1935 : (Cond.methodLink RX12 383 yX12_endsAfter) ∈ gx_G := gx_mem 1935 (by decide +kernel) (by decide +kernel)
theorem mw_1937 : (Cond.instanceMethod yX12_endsAfter) ∈ gx_G := gx_mem 1937 (by decide +kernel) (by decide +kernel)
theorem mw_1938 : (Cond.code yX12_endsAfter cX12_endsAfter 5 (some .int)) ∈ gx_G := gx_mem 1938 (by decide +kernel) (by decide +kernel)
theorem mw_1959 : (Cond.methodLink RX12 402 yX12_isKitchen) ∈ gx_G := gx_mem 1959 (by decide +kernel) (by decide +kernel)
theorem mw_1961 : (Cond.instanceMethod yX12_isKitchen) ∈ gx_G := gx_mem 1961 (by decide +kernel) (by decide +kernel)
theorem mw_1962 : (Cond.code yX12_isKitchen cX12_isKitchen 2 (some .boolean)) ∈ gx_G := gx_mem 1962 (by decide +kernel) (by decide +kernel)
theorem mw_1971 : (Cond.methodLink RX12 399 yX12_goesAlone) ∈ gx_G := gx_mem 1971 (by decide +kernel) (by decide +kernel)
theorem mw_1973 : (Cond.instanceMethod yX12_goesAlone) ∈ gx_G := gx_mem 1973 (by decide +kernel) (by decide +kernel)
theorem mw_1974 : (Cond.code yX12_goesAlone cX12_goesAlone 5 (some .int)) ∈ gx_G := gx_mem 1974 (by decide +kernel) (by decide +kernel)
theorem mw_1975 : (Cond.methodLink RX12 395 yX12_laysAlone) ∈ gx_G := gx_mem 1975 (by decide +kernel) (by decide +kernel)
theorem mw_1977 : (Cond.instanceMethod yX12_laysAlone) ∈ gx_G := gx_mem 1977 (by decide +kernel) (by decide +kernel)
theorem mw_1978 : (Cond.code yX12_laysAlone cX12_laysAlone 6 none) ∈ gx_G := gx_mem 1978 (by decide +kernel) (by decide +kernel)
theorem mw_2090 : (Cond.constantLong RX12 461 (2)) ∈ gx_G := gx_mem 2090 (by decide +kernel) (by decide +kernel)
theorem cw_X11_132 : gx_Wv RX11 132 yX10_read cX10_read 4 (some .int) 1 := ⟨⟨mw_685, mw_686, mw_687, mw_92, mw_688⟩, by decide +kernel⟩
theorem cw_X11_178 : gx_Wv RX11 178 yX6_paperOf cX6_paperOf 2 (some .int) 1 := ⟨⟨mw_1037, mw_884, mw_885, mw_95, mw_886⟩, by decide +kernel⟩
theorem cw_X11_181 : gx_Wv RX11 181 yX6_purseOf cX6_purseOf 2 (some .int) 1 := ⟨⟨mw_1038, mw_888, mw_889, mw_95, mw_890⟩, by decide +kernel⟩
theorem cw_X12_129 : gx_Ws RX12 129 yX12_in cX12_in 6 (some .boolean) 3 := ⟨⟨mw_1603, mw_1604, mw_101, mw_1605⟩, by decide +kernel⟩
theorem cw_J0_1059 : gx_Ws RJ0 1059 yJ3_checkIndex_8e157 cJ3_checkIndex_8e157 3 (some .int) 3 := ⟨⟨mw_1639, mw_1640, mw_106, mw_1641⟩, by decide +kernel⟩
theorem cw_J1_9 : gx_Ws RJ1 9 yJ0_checkIndex_df160 cJ0_checkIndex_df160 2 none 2 := ⟨⟨mw_1636, mw_1637, mw_103, mw_1638⟩, by decide +kernel⟩
theorem cw_J0_495 : gx_Ws RJ0 495 yJ1_charAt_3b067 cJ1_charAt_3b067 2 (some .char) 2 := ⟨⟨mw_1633, mw_1634, mw_104, mw_1635⟩, by decide +kernel⟩
theorem cw_X12_163 : gx_Wv RX12 163 yJ0_length_8abf5 cJ0_length_8abf5 1 (some .int) 0 := ⟨⟨mw_1628, mw_563, mw_564, mw_103, mw_565⟩, by decide +kernel⟩
theorem cw_X12_169 : gx_Wv RX12 169 yJ0_charAt_5068e cJ0_charAt_5068e 2 (some .char) 1 := ⟨⟨mw_1629, mw_1630, mw_1631, mw_103, mw_1632⟩, by decide +kernel⟩
theorem cw_X12_264 : gx_Ws RX12 264 yX12_has cX12_has 2 (some .boolean) 2 := ⟨⟨mw_1813, mw_1814, mw_101, mw_1815⟩, by decide +kernel⟩
theorem cw_X12_155 : gx_Ws RX12 155 yX12_flag cX12_flag 1 (some .int) 1 := ⟨⟨mw_1649, mw_1650, mw_101, mw_1651⟩, by decide +kernel⟩
theorem cw_X12_268 : gx_Wv RX12 268 yX12_waterIn cX12_waterIn 5 (some .int) 1 := ⟨⟨mw_1809, mw_1811, mw_56, mw_101, mw_1812⟩, by decide +kernel⟩
theorem cw_X12_271 : gx_Ws RX12 271 yX12_othersAt cX12_othersAt 4 (some .int) 2 := ⟨⟨mw_1897, mw_1898, mw_101, mw_1899⟩, by decide +kernel⟩
theorem cw_X12_133 : gx_Wv RX12 133 yX12_isPlace cX12_isPlace 2 (some .boolean) 1 := ⟨⟨mw_1785, mw_1787, mw_53, mw_101, mw_1788⟩, by decide +kernel⟩
theorem cw_X12_331 : gx_Wv RX12 331 yX12_canPut cX12_canPut 4 (some .boolean) 3 := ⟨⟨mw_1849, mw_1851, mw_61, mw_101, mw_1852⟩, by decide +kernel⟩
theorem cw_X12_402 : gx_Wv RX12 402 yX12_isKitchen cX12_isKitchen 2 (some .boolean) 1 := ⟨⟨mw_1959, mw_1961, mw_75, mw_101, mw_1962⟩, by decide +kernel⟩
theorem cw_X12_335 : gx_Wv RX12 335 yX12_lays cX12_lays 8 none 6 := ⟨⟨mw_1855, mw_1857, mw_62, mw_101, mw_1858⟩, by decide +kernel⟩
theorem cw_X12_279 : gx_Wv RX12 279 yX12_askedOf cX12_askedOf 5 (some .int) 3 := ⟨⟨mw_1893, mw_1895, mw_68, mw_101, mw_1896⟩, by decide +kernel⟩
theorem cw_X12_275 : gx_Ws RX12 275 yX12_worked cX12_worked 3 (some .int) 3 := ⟨⟨mw_1890, mw_1891, mw_101, mw_1892⟩, by decide +kernel⟩
theorem cw_X12_287 : gx_Wv RX12 287 yX12_ends cX12_ends 4 none 3 := ⟨⟨mw_1882, mw_1884, mw_66, mw_101, mw_1885⟩, by decide +kernel⟩
theorem cw_X12_291 : gx_Wv RX12 291 yX12_ruled cX12_ruled 6 (some .int) 2 := ⟨⟨mw_1886, mw_1888, mw_67, mw_101, mw_1889⟩, by decide +kernel⟩
theorem cw_X12_300 : gx_Wv RX12 300 yX12_steps cX12_steps 6 (some .boolean) 2 := ⟨⟨mw_1878, mw_1880, mw_65, mw_101, mw_1881⟩, by decide +kernel⟩
theorem cw_X12_349 : gx_Wv RX12 349 yX12_minuteGoes cX12_minuteGoes 6 none 1 := ⟨⟨mw_1874, mw_1876, mw_64, mw_101, mw_1877⟩, by decide +kernel⟩
theorem cw_X12_395 : gx_Wv RX12 395 yX12_laysAlone cX12_laysAlone 6 none 4 := ⟨⟨mw_1975, mw_1977, mw_79, mw_101, mw_1978⟩, by decide +kernel⟩
theorem cw_X12_383 : gx_Wv RX12 383 yX12_endsAfter cX12_endsAfter 5 (some .int) 3 := ⟨⟨mw_1935, mw_1937, mw_73, mw_101, mw_1938⟩, by decide +kernel⟩
theorem cw_X12_399 : gx_Wv RX12 399 yX12_goesAlone cX12_goesAlone 5 (some .int) 4 := ⟨⟨mw_1971, mw_1973, mw_78, mw_101, mw_1974⟩, by decide +kernel⟩
theorem t_199 : gx_tb[199]? = some (.inl (13, [none, none, some (some 200), none, none, some (some 201), some (some 202), some (some 203), some (some 204), some (some 205), some (some 206), some (some 207), some (some 208), none, none, none, none, some (some 209), some (some 210), some (some 211), some (some 212), none, some (some 213), some (some 214), none, some (some 215), some (some 216), some (some 217), none, none, some (some 218), none, none, none, none, none, none, some (some 219), some (some 220), some (some 221), some (some 222), some (some 223), none, none, some (some 224), none, none, some (some 225), none, none, none, none, none, some (some 226), some (some 227), some (some 228), some (some 229), some (some 230), some (some 231), some (some 232)])) := rfl
theorem t_201 : gx_tb[201]? = some (.inr (0, 12, [])) := rfl
theorem t_202 : gx_tb[202]? = some (.inr (0, 12, [])) := rfl
theorem t_203 : gx_tb[203]? = some (.inr (0, 12, [])) := rfl
theorem t_204 : gx_tb[204]? = some (.inr (0, 12, [])) := rfl
theorem t_205 : gx_tb[205]? = some (.inr (0, 40, [])) := rfl
theorem t_206 : gx_tb[206]? = some (.inr (0, 45, [])) := rfl
theorem t_208 : gx_tb[208]? = some (.inr (0, 80, [])) := rfl
theorem t_216 : gx_tb[216]? = some (.inr (0, 80, [])) := rfl
theorem t_218 : gx_tb[218]? = some (.inr (0, 80, [])) := rfl
theorem t_219 : gx_tb[219]? = some (.inr (0, 720, [])) := rfl
theorem t_224 : gx_tb[224]? = some (.inr (0, 45, [])) := rfl
theorem t_231 : gx_tb[231]? = some (.inr (2, 3, [])) := rfl
theorem t_232 : gx_tb[232]? = some (.inr (0, 135, [])) := rfl
theorem dJ0_charAt_5068e_0 : decode cJ0_charAt_5068e 0 = .ok (.aload_n 0, 1) := by decide +kernel
theorem dJ0_charAt_5068e_1 : decode cJ0_charAt_5068e 1 = .ok (.invokevirtual 492, 3) := by decide +kernel
theorem dJ0_charAt_5068e_4 : decode cJ0_charAt_5068e 4 = .ok (.ifCond .eq 12, 3) := by decide +kernel
theorem dJ0_charAt_5068e_7 : decode cJ0_charAt_5068e 7 = .ok (.aload_n 0, 1) := by decide +kernel
theorem dJ0_charAt_5068e_8 : decode cJ0_charAt_5068e 8 = .ok (.getfield 9, 3) := by decide +kernel
theorem dJ0_charAt_5068e_11 : decode cJ0_charAt_5068e 11 = .ok (.iload_n 1, 1) := by decide +kernel
theorem dJ0_charAt_5068e_12 : decode cJ0_charAt_5068e 12 = .ok (.invokestatic 495, 3) := by decide +kernel
theorem dJ0_charAt_5068e_15 : decode cJ0_charAt_5068e 15 = .ok (.ireturn, 1) := by decide +kernel
theorem dJ0_charAt_5068e_16 : decode cJ0_charAt_5068e 16 = .ok (.aload_n 0, 1) := by decide +kernel
theorem dJ0_charAt_5068e_17 : decode cJ0_charAt_5068e 17 = .ok (.getfield 9, 3) := by decide +kernel
theorem dJ0_charAt_5068e_20 : decode cJ0_charAt_5068e 20 = .ok (.iload_n 1, 1) := by decide +kernel
theorem dJ0_charAt_5068e_21 : decode cJ0_charAt_5068e 21 = .ok (.invokestatic 498, 3) := by decide +kernel
theorem dJ0_checkIndex_df160_0 : decode cJ0_checkIndex_df160 0 = .ok (.iload_n 0, 1) := by decide +kernel
theorem dJ0_checkIndex_df160_1 : decode cJ0_checkIndex_df160 1 = .ok (.iload_n 1, 1) := by decide +kernel
theorem dJ0_checkIndex_df160_2 : decode cJ0_checkIndex_df160 2 = .ok (.getstatic 1053, 3) := by decide +kernel
theorem dJ0_checkIndex_df160_5 : decode cJ0_checkIndex_df160 5 = .ok (.invokestatic 1059, 3) := by decide +kernel
theorem dJ0_checkIndex_df160_8 : decode cJ0_checkIndex_df160 8 = .ok (.pop, 1) := by decide +kernel
theorem dJ0_checkIndex_df160_9 : decode cJ0_checkIndex_df160 9 = .ok (.return_, 1) := by decide +kernel
theorem dJ1_charAt_3b067_0 : decode cJ1_charAt_3b067 0 = .ok (.iload_n 1, 1) := by decide +kernel
theorem dJ1_charAt_3b067_1 : decode cJ1_charAt_3b067 1 = .ok (.aload_n 0, 1) := by decide +kernel
theorem dJ1_charAt_3b067_2 : decode cJ1_charAt_3b067 2 = .ok (.arraylength, 1) := by decide +kernel
theorem dJ1_charAt_3b067_3 : decode cJ1_charAt_3b067 3 = .ok (.invokestatic 9, 3) := by decide +kernel
theorem dJ1_charAt_3b067_6 : decode cJ1_charAt_3b067 6 = .ok (.aload_n 0, 1) := by decide +kernel
theorem dJ1_charAt_3b067_7 : decode cJ1_charAt_3b067 7 = .ok (.iload_n 1, 1) := by decide +kernel
theorem dJ1_charAt_3b067_8 : decode cJ1_charAt_3b067 8 = .ok (.baload, 1) := by decide +kernel
theorem dJ1_charAt_3b067_9 : decode cJ1_charAt_3b067 9 = .ok (.sipush 255, 3) := by decide +kernel
theorem dJ1_charAt_3b067_12 : decode cJ1_charAt_3b067 12 = .ok (.iand, 1) := by decide +kernel
theorem dJ1_charAt_3b067_13 : decode cJ1_charAt_3b067 13 = .ok (.i2c, 1) := by decide +kernel
theorem dJ1_charAt_3b067_14 : decode cJ1_charAt_3b067 14 = .ok (.ireturn, 1) := by decide +kernel
theorem dJ3_checkIndex_8e157_0 : decode cJ3_checkIndex_8e157 0 = .ok (.iload_n 0, 1) := by decide +kernel
theorem dJ3_checkIndex_8e157_1 : decode cJ3_checkIndex_8e157 1 = .ok (.ifCond .lt 8, 3) := by decide +kernel
theorem dJ3_checkIndex_8e157_4 : decode cJ3_checkIndex_8e157 4 = .ok (.iload_n 0, 1) := by decide +kernel
theorem dJ3_checkIndex_8e157_5 : decode cJ3_checkIndex_8e157 5 = .ok (.iload_n 1, 1) := by decide +kernel
theorem dJ3_checkIndex_8e157_6 : decode cJ3_checkIndex_8e157 6 = .ok (.if_icmp .lt 10, 3) := by decide +kernel
theorem dJ3_checkIndex_8e157_9 : decode cJ3_checkIndex_8e157 9 = .ok (.aload_n 2, 1) := by decide +kernel
theorem dJ3_checkIndex_8e157_10 : decode cJ3_checkIndex_8e157 10 = .ok (.iload_n 0, 1) := by decide +kernel
theorem dJ3_checkIndex_8e157_11 : decode cJ3_checkIndex_8e157 11 = .ok (.iload_n 1, 1) := by decide +kernel
theorem dJ3_checkIndex_8e157_12 : decode cJ3_checkIndex_8e157 12 = .ok (.invokestatic 95, 3) := by decide +kernel
theorem dJ3_checkIndex_8e157_16 : decode cJ3_checkIndex_8e157 16 = .ok (.iload_n 0, 1) := by decide +kernel
theorem dJ3_checkIndex_8e157_17 : decode cJ3_checkIndex_8e157 17 = .ok (.ireturn, 1) := by decide +kernel
theorem dX11_water_0 : decode cX11_water 0 = .ok (.aload_n 0, 1) := by decide +kernel
theorem dX11_water_1 : decode cX11_water 1 = .ok (.getfield 29, 3) := by decide +kernel
theorem dX11_water_4 : decode cX11_water 4 = .ok (.aload_n 0, 1) := by decide +kernel
theorem dX11_water_5 : decode cX11_water 5 = .ok (.getfield 12, 3) := by decide +kernel
theorem dX11_water_8 : decode cX11_water 8 = .ok (.invokevirtual 132, 3) := by decide +kernel
theorem dX11_water_11 : decode cX11_water 11 = .ok (.istore_n 1, 1) := by decide +kernel
theorem dX11_water_12 : decode cX11_water 12 = .ok (.aload_n 0, 1) := by decide +kernel
theorem dX11_water_13 : decode cX11_water 13 = .ok (.getfield 12, 3) := by decide +kernel
theorem dX11_water_16 : decode cX11_water 16 = .ok (.iconst 0, 1) := by decide +kernel
theorem dX11_water_17 : decode cX11_water 17 = .ok (.invokevirtual 111, 3) := by decide +kernel
theorem dX11_water_20 : decode cX11_water 20 = .ok (.pop, 1) := by decide +kernel
theorem dX11_water_21 : decode cX11_water 21 = .ok (.iload_n 1, 1) := by decide +kernel
theorem dX11_water_22 : decode cX11_water 22 = .ok (.ireturn, 1) := by decide +kernel
theorem dX11_ways_0 : decode cX11_ways 0 = .ok (.aload_n 0, 1) := by decide +kernel
theorem dX11_ways_1 : decode cX11_ways 1 = .ok (.getfield 19, 3) := by decide +kernel
theorem dX11_ways_4 : decode cX11_ways 4 = .ok (.iload_n 1, 1) := by decide +kernel
theorem dX11_ways_5 : decode cX11_ways 5 = .ok (.invokevirtual 137, 3) := by decide +kernel
theorem dX11_ways_8 : decode cX11_ways 8 = .ok (.ifCond .eq 23, 3) := by decide +kernel
theorem dX11_ways_11 : decode cX11_ways 11 = .ok (.iload_n 2, 1) := by decide +kernel
theorem dX11_ways_12 : decode cX11_ways 12 = .ok (.iload_n 3, 1) := by decide +kernel
theorem dX11_ways_13 : decode cX11_ways 13 = .ok (.invokestatic 227, 3) := by decide +kernel
theorem dX11_ways_16 : decode cX11_ways 16 = .ok (.ifCond .eq 15, 3) := by decide +kernel
theorem dX11_ways_19 : decode cX11_ways 19 = .ok (.aload_n 0, 1) := by decide +kernel
theorem dX11_ways_20 : decode cX11_ways 20 = .ok (.getfield 19, 3) := by decide +kernel
theorem dX11_ways_23 : decode cX11_ways 23 = .ok (.iload 4, 2) := by decide +kernel
theorem dX11_ways_25 : decode cX11_ways 25 = .ok (.invokevirtual 234, 3) := by decide +kernel
theorem dX11_ways_28 : decode cX11_ways 28 = .ok (.ifCond .ne 5, 3) := by decide +kernel
theorem dX11_ways_31 : decode cX11_ways 31 = .ok (.iconst (-1), 1) := by decide +kernel
theorem dX11_ways_32 : decode cX11_ways 32 = .ok (.ireturn, 1) := by decide +kernel
theorem dX11_ways_33 : decode cX11_ways 33 = .ok (.aload_n 0, 1) := by decide +kernel
theorem dX11_ways_34 : decode cX11_ways 34 = .ok (.getfield 99, 3) := by decide +kernel
theorem dX11_ways_37 : decode cX11_ways 37 = .ok (.iload_n 1, 1) := by decide +kernel
theorem dX11_ways_38 : decode cX11_ways 38 = .ok (.iload_n 2, 1) := by decide +kernel
theorem dX11_ways_39 : decode cX11_ways 39 = .ok (.iload_n 3, 1) := by decide +kernel
theorem dX11_ways_40 : decode cX11_ways 40 = .ok (.iconst 0, 1) := by decide +kernel
theorem dX11_ways_41 : decode cX11_ways 41 = .ok (.aload_n 0, 1) := by decide +kernel
theorem dX11_ways_42 : decode cX11_ways 42 = .ok (.getfield 53, 3) := by decide +kernel
theorem dX11_ways_45 : decode cX11_ways 45 = .ok (.getfield 324, 3) := by decide +kernel
theorem dX11_ways_48 : decode cX11_ways 48 = .ok (.invokevirtual 327, 3) := by decide +kernel
theorem dX11_ways_51 : decode cX11_ways 51 = .ok (.aload_n 0, 1) := by decide +kernel
theorem dX11_ways_52 : decode cX11_ways 52 = .ok (.getfield 99, 3) := by decide +kernel
theorem dX11_ways_55 : decode cX11_ways 55 = .ok (.invokevirtual 350, 3) := by decide +kernel
theorem dX11_ways_58 : decode cX11_ways 58 = .ok (.iconst 0, 1) := by decide +kernel
theorem dX11_ways_59 : decode cX11_ways 59 = .ok (.istore 5, 2) := by decide +kernel
theorem dX11_ways_61 : decode cX11_ways 61 = .ok (.iconst (-1), 1) := by decide +kernel
theorem dX11_ways_62 : decode cX11_ways 62 = .ok (.istore 6, 2) := by decide +kernel
theorem dX11_ways_64 : decode cX11_ways 64 = .ok (.iconst (-1), 1) := by decide +kernel
theorem dX11_ways_65 : decode cX11_ways 65 = .ok (.istore 7, 2) := by decide +kernel
theorem dX11_ways_67 : decode cX11_ways 67 = .ok (.iconst 0, 1) := by decide +kernel
theorem dX11_ways_68 : decode cX11_ways 68 = .ok (.istore 8, 2) := by decide +kernel
theorem dX11_ways_70 : decode cX11_ways 70 = .ok (.iconst 0, 1) := by decide +kernel
theorem dX11_ways_71 : decode cX11_ways 71 = .ok (.istore 9, 2) := by decide +kernel
theorem dX11_ways_73 : decode cX11_ways 73 = .ok (.iload 9, 2) := by decide +kernel
theorem dX11_ways_75 : decode cX11_ways 75 = .ok (.aload_n 0, 1) := by decide +kernel
theorem dX11_ways_76 : decode cX11_ways 76 = .ok (.getfield 19, 3) := by decide +kernel
theorem dX11_ways_79 : decode cX11_ways 79 = .ok (.getfield 353, 3) := by decide +kernel
theorem dX11_ways_82 : decode cX11_ways 82 = .ok (.if_icmp .ge 59, 3) := by decide +kernel
theorem dX11_ways_85 : decode cX11_ways 85 = .ok (.aload_n 0, 1) := by decide +kernel
theorem dX11_ways_86 : decode cX11_ways 86 = .ok (.getfield 99, 3) := by decide +kernel
theorem dX11_ways_89 : decode cX11_ways 89 = .ok (.iload 8, 2) := by decide +kernel
theorem dX11_ways_91 : decode cX11_ways 91 = .ok (.invokevirtual 356, 3) := by decide +kernel
theorem dX11_ways_94 : decode cX11_ways 94 = .ok (.iload 4, 2) := by decide +kernel
theorem dX11_ways_96 : decode cX11_ways 96 = .ok (.invokestatic 317, 3) := by decide +kernel
theorem dX11_ways_99 : decode cX11_ways 99 = .ok (.ifCond .eq 25, 3) := by decide +kernel
theorem dX11_ways_102 : decode cX11_ways 102 = .ok (.iinc 5 1, 3) := by decide +kernel
theorem dX11_ways_105 : decode cX11_ways 105 = .ok (.iload 6, 2) := by decide +kernel
theorem dX11_ways_107 : decode cX11_ways 107 = .ok (.iconst (-1), 1) := by decide +kernel
theorem dX11_ways_108 : decode cX11_ways 108 = .ok (.if_icmp .ne 8, 3) := by decide +kernel
theorem dX11_ways_111 : decode cX11_ways 111 = .ok (.iload 8, 2) := by decide +kernel
theorem dX11_ways_113 : decode cX11_ways 113 = .ok (.goto 5, 3) := by decide +kernel
theorem dX11_ways_116 : decode cX11_ways 116 = .ok (.iload 6, 2) := by decide +kernel
theorem dX11_ways_118 : decode cX11_ways 118 = .ok (.istore 6, 2) := by decide +kernel
theorem dX11_ways_120 : decode cX11_ways 120 = .ok (.iload 8, 2) := by decide +kernel
theorem dX11_ways_122 : decode cX11_ways 122 = .ok (.istore 7, 2) := by decide +kernel
theorem dX11_ways_124 : decode cX11_ways 124 = .ok (.aload_n 0, 1) := by decide +kernel
theorem dX11_ways_125 : decode cX11_ways 125 = .ok (.getfield 19, 3) := by decide +kernel
theorem dX11_ways_128 : decode cX11_ways 128 = .ok (.iload 8, 2) := by decide +kernel
theorem dX11_ways_130 : decode cX11_ways 130 = .ok (.invokevirtual 359, 3) := by decide +kernel
theorem dX11_ways_133 : decode cX11_ways 133 = .ok (.istore 8, 2) := by decide +kernel
theorem dX11_ways_135 : decode cX11_ways 135 = .ok (.iinc 9 1, 3) := by decide +kernel
theorem dX11_ways_138 : decode cX11_ways 138 = .ok (.goto (-65), 3) := by decide +kernel
theorem dX11_ways_141 : decode cX11_ways 141 = .ok (.aload_n 0, 1) := by decide +kernel
theorem dX11_ways_142 : decode cX11_ways 142 = .ok (.getfield 81, 3) := by decide +kernel
theorem dX11_ways_145 : decode cX11_ways 145 = .ok (.iload 6, 2) := by decide +kernel
theorem dX11_ways_147 : decode cX11_ways 147 = .ok (.i2l, 1) := by decide +kernel
theorem dX11_ways_148 : decode cX11_ways 148 = .ok (.iload 7, 2) := by decide +kernel
theorem dX11_ways_150 : decode cX11_ways 150 = .ok (.i2l, 1) := by decide +kernel
theorem dX11_ways_151 : decode cX11_ways 151 = .ok (.invokevirtual 257, 3) := by decide +kernel
theorem dX11_ways_154 : decode cX11_ways 154 = .ok (.iload 5, 2) := by decide +kernel
theorem dX11_ways_156 : decode cX11_ways 156 = .ok (.ireturn, 1) := by decide +kernel
theorem dX11_where_0 : decode cX11_where 0 = .ok (.aload_n 0, 1) := by decide +kernel
theorem dX11_where_1 : decode cX11_where 1 = .ok (.getfield 53, 3) := by decide +kernel
theorem dX11_where_4 : decode cX11_where 4 = .ok (.iload_n 1, 1) := by decide +kernel
theorem dX11_where_5 : decode cX11_where 5 = .ok (.invokevirtual 172, 3) := by decide +kernel
theorem dX11_where_8 : decode cX11_where 8 = .ok (.ifCond .eq 10, 3) := by decide +kernel
theorem dX11_where_11 : decode cX11_where 11 = .ok (.iload_n 2, 1) := by decide +kernel
theorem dX11_where_12 : decode cX11_where 12 = .ok (.invokestatic 290, 3) := by decide +kernel
theorem dX11_where_15 : decode cX11_where 15 = .ok (.ifCond .ne 5, 3) := by decide +kernel
theorem dX11_where_18 : decode cX11_where 18 = .ok (.iconst (-1), 1) := by decide +kernel
theorem dX11_where_19 : decode cX11_where 19 = .ok (.ireturn, 1) := by decide +kernel
theorem dX11_where_20 : decode cX11_where 20 = .ok (.aload_n 0, 1) := by decide +kernel
theorem dX11_where_21 : decode cX11_where 21 = .ok (.getfield 99, 3) := by decide +kernel
theorem dX11_where_24 : decode cX11_where 24 = .ok (.aload_n 0, 1) := by decide +kernel
theorem dX11_where_25 : decode cX11_where 25 = .ok (.getfield 53, 3) := by decide +kernel
theorem dX11_where_28 : decode cX11_where 28 = .ok (.iload_n 2, 1) := by decide +kernel
theorem dX11_where_29 : decode cX11_where 29 = .ok (.invokevirtual 293, 3) := by decide +kernel
theorem dX11_where_32 : decode cX11_where 32 = .ok (.aload_n 0, 1) := by decide +kernel
theorem dX11_where_33 : decode cX11_where 33 = .ok (.getfield 99, 3) := by decide +kernel
theorem dX11_where_36 : decode cX11_where 36 = .ok (.getfield 297, 3) := by decide +kernel
theorem dX11_where_39 : decode cX11_where 39 = .ok (.astore_n 3, 1) := by decide +kernel
theorem dX11_where_40 : decode cX11_where 40 = .ok (.aload_n 0, 1) := by decide +kernel
theorem dX11_where_41 : decode cX11_where 41 = .ok (.getfield 81, 3) := by decide +kernel
theorem dX11_where_44 : decode cX11_where 44 = .ok (.aload_n 3, 1) := by decide +kernel
theorem dX11_where_45 : decode cX11_where 45 = .ok (.iload_n 1, 1) := by decide +kernel
theorem dX11_where_46 : decode cX11_where 46 = .ok (.invokevirtual 187, 3) := by decide +kernel
theorem dX11_where_49 : decode cX11_where 49 = .ok (.i2l, 1) := by decide +kernel
theorem dX11_where_50 : decode cX11_where 50 = .ok (.aload_n 3, 1) := by decide +kernel
theorem dX11_where_51 : decode cX11_where 51 = .ok (.iload_n 1, 1) := by decide +kernel
theorem dX11_where_52 : decode cX11_where 52 = .ok (.invokevirtual 178, 3) := by decide +kernel
theorem dX11_where_55 : decode cX11_where 55 = .ok (.i2l, 1) := by decide +kernel
theorem dX11_where_56 : decode cX11_where 56 = .ok (.aload_n 3, 1) := by decide +kernel
theorem dX11_where_57 : decode cX11_where 57 = .ok (.iload_n 1, 1) := by decide +kernel
theorem dX11_where_58 : decode cX11_where 58 = .ok (.invokevirtual 181, 3) := by decide +kernel
theorem dX11_where_61 : decode cX11_where 61 = .ok (.i2l, 1) := by decide +kernel
theorem dX11_where_62 : decode cX11_where 62 = .ok (.invokevirtual 300, 3) := by decide +kernel
theorem dX11_where_65 : decode cX11_where 65 = .ok (.aload_n 3, 1) := by decide +kernel
theorem dX11_where_66 : decode cX11_where 66 = .ok (.iload_n 1, 1) := by decide +kernel
theorem dX11_where_67 : decode cX11_where 67 = .ok (.invokevirtual 175, 3) := by decide +kernel
theorem dX11_where_70 : decode cX11_where 70 = .ok (.ireturn, 1) := by decide +kernel
theorem dX12_adds_0 : decode cX12_adds 0 = .ok (.aload_n 0, 1) := by decide +kernel
theorem dX12_adds_1 : decode cX12_adds 1 = .ok (.dup, 1) := by decide +kernel
theorem dX12_adds_2 : decode cX12_adds 2 = .ok (.getfield 220, 3) := by decide +kernel
theorem dX12_adds_5 : decode cX12_adds 5 = .ok (.iconst 1, 1) := by decide +kernel
theorem dX12_adds_6 : decode cX12_adds 6 = .ok (.iadd, 1) := by decide +kernel
theorem dX12_adds_7 : decode cX12_adds 7 = .ok (.putfield 220, 3) := by decide +kernel
theorem dX12_adds_10 : decode cX12_adds 10 = .ok (.aload_n 0, 1) := by decide +kernel
theorem dX12_adds_11 : decode cX12_adds 11 = .ok (.getfield 220, 3) := by decide +kernel
theorem dX12_adds_14 : decode cX12_adds 14 = .ok (.bipush 15, 2) := by decide +kernel
theorem dX12_adds_16 : decode cX12_adds 16 = .ok (.if_icmp .le 43, 3) := by decide +kernel
theorem dX12_adds_19 : decode cX12_adds 19 = .ok (.iconst 0, 1) := by decide +kernel
theorem dX12_adds_20 : decode cX12_adds 20 = .ok (.istore_n 2, 1) := by decide +kernel
theorem dX12_adds_21 : decode cX12_adds 21 = .ok (.iload_n 2, 1) := by decide +kernel
theorem dX12_adds_22 : decode cX12_adds 22 = .ok (.sipush 675, 3) := by decide +kernel
theorem dX12_adds_25 : decode cX12_adds 25 = .ok (.if_icmp .ge 24, 3) := by decide +kernel
theorem dX12_adds_28 : decode cX12_adds 28 = .ok (.aload_n 0, 1) := by decide +kernel
theorem dX12_adds_29 : decode cX12_adds 29 = .ok (.getfield 68, 3) := by decide +kernel
theorem dX12_adds_32 : decode cX12_adds 32 = .ok (.iload_n 2, 1) := by decide +kernel
theorem dX12_adds_33 : decode cX12_adds 33 = .ok (.aload_n 0, 1) := by decide +kernel
theorem dX12_adds_34 : decode cX12_adds 34 = .ok (.getfield 68, 3) := by decide +kernel
theorem dX12_adds_37 : decode cX12_adds 37 = .ok (.iload_n 2, 1) := by decide +kernel
theorem dX12_adds_38 : decode cX12_adds 38 = .ok (.bipush 45, 2) := by decide +kernel
theorem dX12_adds_40 : decode cX12_adds 40 = .ok (.iadd, 1) := by decide +kernel
theorem dX12_adds_41 : decode cX12_adds 41 = .ok (.iaload, 1) := by decide +kernel
theorem dX12_adds_42 : decode cX12_adds 42 = .ok (.iastore, 1) := by decide +kernel
theorem dX12_adds_43 : decode cX12_adds 43 = .ok (.iinc 2 1, 3) := by decide +kernel
theorem dX12_adds_46 : decode cX12_adds 46 = .ok (.goto (-25), 3) := by decide +kernel
theorem dX12_adds_49 : decode cX12_adds 49 = .ok (.aload_n 0, 1) := by decide +kernel
theorem dX12_adds_50 : decode cX12_adds 50 = .ok (.dup, 1) := by decide +kernel
theorem dX12_adds_51 : decode cX12_adds 51 = .ok (.getfield 220, 3) := by decide +kernel
theorem dX12_adds_54 : decode cX12_adds 54 = .ok (.iconst 1, 1) := by decide +kernel
theorem dX12_adds_55 : decode cX12_adds 55 = .ok (.isub, 1) := by decide +kernel
theorem dX12_adds_56 : decode cX12_adds 56 = .ok (.putfield 220, 3) := by decide +kernel
theorem dX12_adds_59 : decode cX12_adds 59 = .ok (.iload_n 1, 1) := by decide +kernel
theorem dX12_adds_60 : decode cX12_adds 60 = .ok (.ireturn, 1) := by decide +kernel
theorem dX12_again_0 : decode cX12_again 0 = .ok (.aload_n 0, 1) := by decide +kernel
theorem dX12_again_1 : decode cX12_again 1 = .ok (.iconst 0, 1) := by decide +kernel
theorem dX12_again_2 : decode cX12_again 2 = .ok (.putfield 111, 3) := by decide +kernel
theorem dX12_again_5 : decode cX12_again 5 = .ok (.iload_n 1, 1) := by decide +kernel
theorem dX12_again_6 : decode cX12_again 6 = .ok (.i2l, 1) := by decide +kernel
theorem dX12_again_7 : decode cX12_again 7 = .ok (.lconst 0, 1) := by decide +kernel
theorem dX12_again_8 : decode cX12_again 8 = .ok (.ldc2_w 461, 3) := by decide +kernel
theorem dX12_again_11 : decode cX12_again 11 = .ok (.invokestatic 129, 3) := by decide +kernel
theorem dX12_again_14 : decode cX12_again 14 = .ok (.ifCond .eq 12, 3) := by decide +kernel
theorem dX12_again_17 : decode cX12_again 17 = .ok (.aload_n 0, 1) := by decide +kernel
theorem dX12_again_18 : decode cX12_again 18 = .ok (.getfield 105, 3) := by decide +kernel
theorem dX12_again_21 : decode cX12_again 21 = .ok (.iload_n 1, 1) := by decide +kernel
theorem dX12_again_22 : decode cX12_again 22 = .ok (.baload, 1) := by decide +kernel
theorem dX12_again_23 : decode cX12_again 23 = .ok (.ifCond .ne 5, 3) := by decide +kernel
theorem dX12_again_26 : decode cX12_again 26 = .ok (.iconst 0, 1) := by decide +kernel
theorem dX12_again_27 : decode cX12_again 27 = .ok (.ireturn, 1) := by decide +kernel
theorem dX12_again_28 : decode cX12_again 28 = .ok (.iconst 0, 1) := by decide +kernel
theorem dX12_again_29 : decode cX12_again 29 = .ok (.istore_n 2, 1) := by decide +kernel
theorem dX12_again_30 : decode cX12_again 30 = .ok (.iload_n 2, 1) := by decide +kernel
theorem dX12_again_31 : decode cX12_again 31 = .ok (.bipush 45, 2) := by decide +kernel
theorem dX12_again_33 : decode cX12_again 33 = .ok (.if_icmp .ge 26, 3) := by decide +kernel
theorem dX12_again_36 : decode cX12_again 36 = .ok (.aload_n 0, 1) := by decide +kernel
theorem dX12_again_37 : decode cX12_again 37 = .ok (.getfield 29, 3) := by decide +kernel
theorem dX12_again_40 : decode cX12_again 40 = .ok (.iload_n 2, 1) := by decide +kernel
theorem dX12_again_41 : decode cX12_again 41 = .ok (.aload_n 0, 1) := by decide +kernel
theorem dX12_again_42 : decode cX12_again 42 = .ok (.getfield 108, 3) := by decide +kernel
theorem dX12_again_45 : decode cX12_again 45 = .ok (.bipush 45, 2) := by decide +kernel
theorem dX12_again_47 : decode cX12_again 47 = .ok (.iload_n 1, 1) := by decide +kernel
theorem dX12_again_48 : decode cX12_again 48 = .ok (.imul, 1) := by decide +kernel
theorem dX12_again_49 : decode cX12_again 49 = .ok (.iload_n 2, 1) := by decide +kernel
theorem dX12_again_50 : decode cX12_again 50 = .ok (.iadd, 1) := by decide +kernel
theorem dX12_again_51 : decode cX12_again 51 = .ok (.iaload, 1) := by decide +kernel
theorem dX12_again_52 : decode cX12_again 52 = .ok (.iastore, 1) := by decide +kernel
theorem dX12_again_53 : decode cX12_again 53 = .ok (.iinc 2 1, 3) := by decide +kernel
theorem dX12_again_56 : decode cX12_again 56 = .ok (.goto (-26), 3) := by decide +kernel
theorem dX12_again_59 : decode cX12_again 59 = .ok (.aload_n 0, 1) := by decide +kernel
theorem dX12_again_60 : decode cX12_again 60 = .ok (.iconst 0, 1) := by decide +kernel
theorem dX12_again_61 : decode cX12_again 61 = .ok (.putfield 220, 3) := by decide +kernel
theorem dX12_again_64 : decode cX12_again 64 = .ok (.iconst 1, 1) := by decide +kernel
theorem dX12_again_65 : decode cX12_again 65 = .ok (.ireturn, 1) := by decide +kernel
theorem dX12_among_0 : decode cX12_among 0 = .ok (.iconst 0, 1) := by decide +kernel
theorem dX12_among_1 : decode cX12_among 1 = .ok (.istore_n 2, 1) := by decide +kernel
theorem dX12_among_2 : decode cX12_among 2 = .ok (.iload_n 2, 1) := by decide +kernel
theorem dX12_among_3 : decode cX12_among 3 = .ok (.aload_n 1, 1) := by decide +kernel
theorem dX12_among_4 : decode cX12_among 4 = .ok (.invokevirtual 163, 3) := by decide +kernel
theorem dX12_among_7 : decode cX12_among 7 = .ok (.if_icmp .ge 39, 3) := by decide +kernel
theorem dX12_among_10 : decode cX12_among 10 = .ok (.aload_n 0, 1) := by decide +kernel
theorem dX12_among_11 : decode cX12_among 11 = .ok (.getfield 140, 3) := by decide +kernel
theorem dX12_among_14 : decode cX12_among 14 = .ok (.aload_n 0, 1) := by decide +kernel
theorem dX12_among_15 : decode cX12_among 15 = .ok (.getfield 152, 3) := by decide +kernel
theorem dX12_among_18 : decode cX12_among 18 = .ok (.if_icmp .ge 28, 3) := by decide +kernel
theorem dX12_among_21 : decode cX12_among 21 = .ok (.aload_n 1, 1) := by decide +kernel
theorem dX12_among_22 : decode cX12_among 22 = .ok (.iload_n 2, 1) := by decide +kernel
theorem dX12_among_23 : decode cX12_among 23 = .ok (.invokevirtual 169, 3) := by decide +kernel
theorem dX12_among_26 : decode cX12_among 26 = .ok (.aload_n 0, 1) := by decide +kernel
theorem dX12_among_27 : decode cX12_among 27 = .ok (.getfield 35, 3) := by decide +kernel
theorem dX12_among_30 : decode cX12_among 30 = .ok (.aload_n 0, 1) := by decide +kernel
theorem dX12_among_31 : decode cX12_among 31 = .ok (.getfield 140, 3) := by decide +kernel
theorem dX12_among_34 : decode cX12_among 34 = .ok (.iaload, 1) := by decide +kernel
theorem dX12_among_35 : decode cX12_among 35 = .ok (.if_icmp .ne 5, 3) := by decide +kernel
theorem dX12_among_38 : decode cX12_among 38 = .ok (.iload_n 2, 1) := by decide +kernel
theorem dX12_among_39 : decode cX12_among 39 = .ok (.ireturn, 1) := by decide +kernel
theorem dX12_among_40 : decode cX12_among 40 = .ok (.iinc 2 1, 3) := by decide +kernel
theorem dX12_among_43 : decode cX12_among 43 = .ok (.goto (-41), 3) := by decide +kernel
theorem dX12_among_46 : decode cX12_among 46 = .ok (.iconst (-1), 1) := by decide +kernel
theorem dX12_among_47 : decode cX12_among 47 = .ok (.ireturn, 1) := by decide +kernel
theorem dX12_askedOf_0 : decode cX12_askedOf 0 = .ok (.bipush 7, 2) := by decide +kernel
theorem dX12_askedOf_2 : decode cX12_askedOf 2 = .ok (.iload_n 2, 1) := by decide +kernel
theorem dX12_askedOf_3 : decode cX12_askedOf 3 = .ok (.imul, 1) := by decide +kernel
theorem dX12_askedOf_4 : decode cX12_askedOf 4 = .ok (.istore 4, 2) := by decide +kernel
theorem dX12_askedOf_6 : decode cX12_askedOf 6 = .ok (.iload_n 3, 1) := by decide +kernel
theorem dX12_askedOf_7 : decode cX12_askedOf 7 = .ok (.tableswitch 91 0 6 #[41, 55, 60, 69, 71, 78, 85], 41) := by decide +kernel
theorem dX12_askedOf_48 : decode cX12_askedOf 48 = .ok (.aload_n 1, 1) := by decide +kernel
theorem dX12_askedOf_49 : decode cX12_askedOf 49 = .ok (.bipush 42, 2) := by decide +kernel
theorem dX12_askedOf_51 : decode cX12_askedOf 51 = .ok (.iaload, 1) := by decide +kernel
theorem dX12_askedOf_52 : decode cX12_askedOf 52 = .ok (.aload_n 1, 1) := by decide +kernel
theorem dX12_askedOf_53 : decode cX12_askedOf 53 = .ok (.iload 4, 2) := by decide +kernel
theorem dX12_askedOf_55 : decode cX12_askedOf 55 = .ok (.iconst 0, 1) := by decide +kernel
theorem dX12_askedOf_56 : decode cX12_askedOf 56 = .ok (.iadd, 1) := by decide +kernel
theorem dX12_askedOf_57 : decode cX12_askedOf 57 = .ok (.iaload, 1) := by decide +kernel
theorem dX12_askedOf_58 : decode cX12_askedOf 58 = .ok (.ishr, 1) := by decide +kernel
theorem dX12_askedOf_59 : decode cX12_askedOf 59 = .ok (.iconst 1, 1) := by decide +kernel
theorem dX12_askedOf_60 : decode cX12_askedOf 60 = .ok (.iand, 1) := by decide +kernel
theorem dX12_askedOf_61 : decode cX12_askedOf 61 = .ok (.ireturn, 1) := by decide +kernel
theorem dX12_askedOf_62 : decode cX12_askedOf 62 = .ok (.aload_n 1, 1) := by decide +kernel
theorem dX12_askedOf_63 : decode cX12_askedOf 63 = .ok (.bipush 43, 2) := by decide +kernel
theorem dX12_askedOf_65 : decode cX12_askedOf 65 = .ok (.iaload, 1) := by decide +kernel
theorem dX12_askedOf_66 : decode cX12_askedOf 66 = .ok (.ireturn, 1) := by decide +kernel
theorem dX12_askedOf_67 : decode cX12_askedOf 67 = .ok (.aload_n 0, 1) := by decide +kernel
theorem dX12_askedOf_68 : decode cX12_askedOf 68 = .ok (.aload_n 1, 1) := by decide +kernel
theorem dX12_askedOf_69 : decode cX12_askedOf 69 = .ok (.bipush 43, 2) := by decide +kernel
theorem dX12_askedOf_71 : decode cX12_askedOf 71 = .ok (.iaload, 1) := by decide +kernel
theorem dX12_askedOf_72 : decode cX12_askedOf 72 = .ok (.invokevirtual 268, 3) := by decide +kernel
theorem dX12_askedOf_75 : decode cX12_askedOf 75 = .ok (.ireturn, 1) := by decide +kernel
theorem dX12_askedOf_76 : decode cX12_askedOf 76 = .ok (.iload_n 2, 1) := by decide +kernel
theorem dX12_askedOf_77 : decode cX12_askedOf 77 = .ok (.ireturn, 1) := by decide +kernel
theorem dX12_askedOf_78 : decode cX12_askedOf 78 = .ok (.aload_n 1, 1) := by decide +kernel
theorem dX12_askedOf_79 : decode cX12_askedOf 79 = .ok (.iload 4, 2) := by decide +kernel
theorem dX12_askedOf_81 : decode cX12_askedOf 81 = .ok (.iconst 1, 1) := by decide +kernel
theorem dX12_askedOf_82 : decode cX12_askedOf 82 = .ok (.iadd, 1) := by decide +kernel
theorem dX12_askedOf_83 : decode cX12_askedOf 83 = .ok (.iaload, 1) := by decide +kernel
theorem dX12_askedOf_84 : decode cX12_askedOf 84 = .ok (.ireturn, 1) := by decide +kernel
theorem dX12_askedOf_85 : decode cX12_askedOf 85 = .ok (.aload_n 1, 1) := by decide +kernel
theorem dX12_askedOf_86 : decode cX12_askedOf 86 = .ok (.iload 4, 2) := by decide +kernel
theorem dX12_askedOf_88 : decode cX12_askedOf 88 = .ok (.iconst 2, 1) := by decide +kernel
theorem dX12_askedOf_89 : decode cX12_askedOf 89 = .ok (.iadd, 1) := by decide +kernel
theorem dX12_askedOf_90 : decode cX12_askedOf 90 = .ok (.iaload, 1) := by decide +kernel
theorem dX12_askedOf_91 : decode cX12_askedOf 91 = .ok (.ireturn, 1) := by decide +kernel
theorem dX12_askedOf_92 : decode cX12_askedOf 92 = .ok (.aload_n 1, 1) := by decide +kernel
theorem dX12_askedOf_93 : decode cX12_askedOf 93 = .ok (.iload_n 2, 1) := by decide +kernel
theorem dX12_askedOf_94 : decode cX12_askedOf 94 = .ok (.invokestatic 271, 3) := by decide +kernel
theorem dX12_askedOf_97 : decode cX12_askedOf 97 = .ok (.ireturn, 1) := by decide +kernel
theorem dX12_askedOf_98 : decode cX12_askedOf 98 = .ok (.aload_n 1, 1) := by decide +kernel
theorem dX12_askedOf_99 : decode cX12_askedOf 99 = .ok (.iload 4, 2) := by decide +kernel
theorem dX12_askedOf_101 : decode cX12_askedOf 101 = .ok (.iconst 0, 1) := by decide +kernel
theorem dX12_askedOf_102 : decode cX12_askedOf 102 = .ok (.iadd, 1) := by decide +kernel
theorem dX12_askedOf_103 : decode cX12_askedOf 103 = .ok (.iaload, 1) := by decide +kernel
theorem dX12_askedOf_104 : decode cX12_askedOf 104 = .ok (.ireturn, 1) := by decide +kernel
theorem dX12_canPut_0 : decode cX12_canPut 0 = .ok (.aload_n 0, 1) := by decide +kernel
theorem dX12_canPut_1 : decode cX12_canPut 1 = .ok (.iload_n 1, 1) := by decide +kernel
theorem dX12_canPut_2 : decode cX12_canPut 2 = .ok (.invokevirtual 133, 3) := by decide +kernel
theorem dX12_canPut_5 : decode cX12_canPut 5 = .ok (.ifCond .eq 31, 3) := by decide +kernel
theorem dX12_canPut_8 : decode cX12_canPut 8 = .ok (.iload_n 2, 1) := by decide +kernel
theorem dX12_canPut_9 : decode cX12_canPut 9 = .ok (.i2l, 1) := by decide +kernel
theorem dX12_canPut_10 : decode cX12_canPut 10 = .ok (.lconst 0, 1) := by decide +kernel
theorem dX12_canPut_11 : decode cX12_canPut 11 = .ok (.ldc2_w 327, 3) := by decide +kernel
theorem dX12_canPut_14 : decode cX12_canPut 14 = .ok (.invokestatic 129, 3) := by decide +kernel
theorem dX12_canPut_17 : decode cX12_canPut 17 = .ok (.ifCond .eq 19, 3) := by decide +kernel
theorem dX12_canPut_20 : decode cX12_canPut 20 = .ok (.iload_n 3, 1) := by decide +kernel
theorem dX12_canPut_21 : decode cX12_canPut 21 = .ok (.i2l, 1) := by decide +kernel
theorem dX12_canPut_22 : decode cX12_canPut 22 = .ok (.lconst 0, 1) := by decide +kernel
theorem dX12_canPut_23 : decode cX12_canPut 23 = .ok (.ldc2_w 329, 3) := by decide +kernel
theorem dX12_canPut_26 : decode cX12_canPut 26 = .ok (.invokestatic 129, 3) := by decide +kernel
theorem dX12_canPut_29 : decode cX12_canPut 29 = .ok (.ifCond .eq 7, 3) := by decide +kernel
theorem dX12_canPut_32 : decode cX12_canPut 32 = .ok (.iconst 1, 1) := by decide +kernel
theorem dX12_canPut_33 : decode cX12_canPut 33 = .ok (.goto 4, 3) := by decide +kernel
theorem dX12_canPut_36 : decode cX12_canPut 36 = .ok (.iconst 0, 1) := by decide +kernel
theorem dX12_canPut_37 : decode cX12_canPut 37 = .ok (.ireturn, 1) := by decide +kernel
theorem dX12_canSail_0 : decode cX12_canSail 0 = .ok (.aload_n 0, 1) := by decide +kernel
theorem dX12_canSail_1 : decode cX12_canSail 1 = .ok (.iload_n 1, 1) := by decide +kernel
theorem dX12_canSail_2 : decode cX12_canSail 2 = .ok (.iload_n 2, 1) := by decide +kernel
theorem dX12_canSail_3 : decode cX12_canSail 3 = .ok (.iload_n 3, 1) := by decide +kernel
theorem dX12_canSail_4 : decode cX12_canSail 4 = .ok (.invokevirtual 331, 3) := by decide +kernel
theorem dX12_canSail_7 : decode cX12_canSail 7 = .ok (.ifCond .eq 16, 3) := by decide +kernel
theorem dX12_canSail_10 : decode cX12_canSail 10 = .ok (.aload_n 0, 1) := by decide +kernel
theorem dX12_canSail_11 : decode cX12_canSail 11 = .ok (.iload 4, 2) := by decide +kernel
theorem dX12_canSail_13 : decode cX12_canSail 13 = .ok (.invokevirtual 402, 3) := by decide +kernel
theorem dX12_canSail_16 : decode cX12_canSail 16 = .ok (.ifCond .eq 7, 3) := by decide +kernel
theorem dX12_canSail_19 : decode cX12_canSail 19 = .ok (.iconst 1, 1) := by decide +kernel
theorem dX12_canSail_20 : decode cX12_canSail 20 = .ok (.goto 4, 3) := by decide +kernel
theorem dX12_canSail_23 : decode cX12_canSail 23 = .ok (.iconst 0, 1) := by decide +kernel
theorem dX12_canSail_24 : decode cX12_canSail 24 = .ok (.ireturn, 1) := by decide +kernel
theorem dX12_ends_0 : decode cX12_ends 0 = .ok (.aload_n 1, 1) := by decide +kernel
theorem dX12_ends_1 : decode cX12_ends 1 = .ok (.bipush 7, 2) := by decide +kernel
theorem dX12_ends_3 : decode cX12_ends 3 = .ok (.iload_n 2, 1) := by decide +kernel
theorem dX12_ends_4 : decode cX12_ends 4 = .ok (.imul, 1) := by decide +kernel
theorem dX12_ends_5 : decode cX12_ends 5 = .ok (.iconst 4, 1) := by decide +kernel
theorem dX12_ends_6 : decode cX12_ends 6 = .ok (.iadd, 1) := by decide +kernel
theorem dX12_ends_7 : decode cX12_ends 7 = .ok (.iload_n 3, 1) := by decide +kernel
theorem dX12_ends_8 : decode cX12_ends 8 = .ok (.iastore, 1) := by decide +kernel
theorem dX12_ends_9 : decode cX12_ends 9 = .ok (.aload_n 1, 1) := by decide +kernel
theorem dX12_ends_10 : decode cX12_ends 10 = .ok (.bipush 7, 2) := by decide +kernel
theorem dX12_ends_12 : decode cX12_ends 12 = .ok (.iload_n 2, 1) := by decide +kernel
theorem dX12_ends_13 : decode cX12_ends 13 = .ok (.imul, 1) := by decide +kernel
theorem dX12_ends_14 : decode cX12_ends 14 = .ok (.bipush 6, 2) := by decide +kernel
theorem dX12_ends_16 : decode cX12_ends 16 = .ok (.iadd, 1) := by decide +kernel
theorem dX12_ends_17 : decode cX12_ends 17 = .ok (.aload_n 1, 1) := by decide +kernel
theorem dX12_ends_18 : decode cX12_ends 18 = .ok (.bipush 43, 2) := by decide +kernel
theorem dX12_ends_20 : decode cX12_ends 20 = .ok (.iaload, 1) := by decide +kernel
theorem dX12_ends_21 : decode cX12_ends 21 = .ok (.iastore, 1) := by decide +kernel
theorem dX12_ends_22 : decode cX12_ends 22 = .ok (.return_, 1) := by decide +kernel
theorem dX12_endsAfter_0 : decode cX12_endsAfter 0 = .ok (.iload_n 3, 1) := by decide +kernel
theorem dX12_endsAfter_1 : decode cX12_endsAfter 1 = .ok (.istore 4, 2) := by decide +kernel
theorem dX12_endsAfter_3 : decode cX12_endsAfter 3 = .ok (.iload 4, 2) := by decide +kernel
theorem dX12_endsAfter_5 : decode cX12_endsAfter 5 = .ok (.sipush 300, 3) := by decide +kernel
theorem dX12_endsAfter_8 : decode cX12_endsAfter 8 = .ok (.if_icmp .gt 36, 3) := by decide +kernel
theorem dX12_endsAfter_11 : decode cX12_endsAfter 11 = .ok (.aload_n 1, 1) := by decide +kernel
theorem dX12_endsAfter_12 : decode cX12_endsAfter 12 = .ok (.bipush 7, 2) := by decide +kernel
theorem dX12_endsAfter_14 : decode cX12_endsAfter 14 = .ok (.iload_n 2, 1) := by decide +kernel
theorem dX12_endsAfter_15 : decode cX12_endsAfter 15 = .ok (.imul, 1) := by decide +kernel
theorem dX12_endsAfter_16 : decode cX12_endsAfter 16 = .ok (.iconst 4, 1) := by decide +kernel
theorem dX12_endsAfter_17 : decode cX12_endsAfter 17 = .ok (.iadd, 1) := by decide +kernel
theorem dX12_endsAfter_18 : decode cX12_endsAfter 18 = .ok (.iaload, 1) := by decide +kernel
theorem dX12_endsAfter_19 : decode cX12_endsAfter 19 = .ok (.ifCond .eq 6, 3) := by decide +kernel
theorem dX12_endsAfter_22 : decode cX12_endsAfter 22 = .ok (.iload 4, 2) := by decide +kernel
theorem dX12_endsAfter_24 : decode cX12_endsAfter 24 = .ok (.ireturn, 1) := by decide +kernel
theorem dX12_endsAfter_25 : decode cX12_endsAfter 25 = .ok (.iload 4, 2) := by decide +kernel
theorem dX12_endsAfter_27 : decode cX12_endsAfter 27 = .ok (.sipush 300, 3) := by decide +kernel
theorem dX12_endsAfter_30 : decode cX12_endsAfter 30 = .ok (.if_icmp .ge 8, 3) := by decide +kernel
theorem dX12_endsAfter_33 : decode cX12_endsAfter 33 = .ok (.aload_n 0, 1) := by decide +kernel
theorem dX12_endsAfter_34 : decode cX12_endsAfter 34 = .ok (.aload_n 1, 1) := by decide +kernel
theorem dX12_endsAfter_35 : decode cX12_endsAfter 35 = .ok (.invokevirtual 349, 3) := by decide +kernel
theorem dX12_endsAfter_38 : decode cX12_endsAfter 38 = .ok (.iinc 4 1, 3) := by decide +kernel
theorem dX12_endsAfter_41 : decode cX12_endsAfter 41 = .ok (.goto (-38), 3) := by decide +kernel
theorem dX12_endsAfter_44 : decode cX12_endsAfter 44 = .ok (.iconst (-1), 1) := by decide +kernel
theorem dX12_endsAfter_45 : decode cX12_endsAfter 45 = .ok (.ireturn, 1) := by decide +kernel
theorem dX12_flag_0 : decode cX12_flag 0 = .ok (.iload_n 0, 1) := by decide +kernel
theorem dX12_flag_1 : decode cX12_flag 1 = .ok (.ifCond .eq 7, 3) := by decide +kernel
theorem dX12_flag_4 : decode cX12_flag 4 = .ok (.iconst 1, 1) := by decide +kernel
theorem dX12_flag_5 : decode cX12_flag 5 = .ok (.goto 4, 3) := by decide +kernel
theorem dX12_flag_8 : decode cX12_flag 8 = .ok (.iconst 0, 1) := by decide +kernel
theorem dX12_flag_9 : decode cX12_flag 9 = .ok (.ireturn, 1) := by decide +kernel
theorem dX12_goesAlone_0 : decode cX12_goesAlone 0 = .ok (.aload_n 0, 1) := by decide +kernel
theorem dX12_goesAlone_1 : decode cX12_goesAlone 1 = .ok (.iload_n 1, 1) := by decide +kernel
theorem dX12_goesAlone_2 : decode cX12_goesAlone 2 = .ok (.iload_n 2, 1) := by decide +kernel
theorem dX12_goesAlone_3 : decode cX12_goesAlone 3 = .ok (.iload_n 3, 1) := by decide +kernel
theorem dX12_goesAlone_4 : decode cX12_goesAlone 4 = .ok (.iload 4, 2) := by decide +kernel
theorem dX12_goesAlone_6 : decode cX12_goesAlone 6 = .ok (.invokevirtual 395, 3) := by decide +kernel
theorem dX12_goesAlone_9 : decode cX12_goesAlone 9 = .ok (.aload_n 0, 1) := by decide +kernel
theorem dX12_goesAlone_10 : decode cX12_goesAlone 10 = .ok (.aload_n 0, 1) := by decide +kernel
theorem dX12_goesAlone_11 : decode cX12_goesAlone 11 = .ok (.getfield 83, 3) := by decide +kernel
theorem dX12_goesAlone_14 : decode cX12_goesAlone 14 = .ok (.iconst 0, 1) := by decide +kernel
theorem dX12_goesAlone_15 : decode cX12_goesAlone 15 = .ok (.iconst 0, 1) := by decide +kernel
theorem dX12_goesAlone_16 : decode cX12_goesAlone 16 = .ok (.invokevirtual 383, 3) := by decide +kernel
theorem dX12_goesAlone_19 : decode cX12_goesAlone 19 = .ok (.ireturn, 1) := by decide +kernel
theorem dX12_has_0 : decode cX12_has 0 = .ok (.iload_n 0, 1) := by decide +kernel
theorem dX12_has_1 : decode cX12_has 1 = .ok (.iload_n 1, 1) := by decide +kernel
theorem dX12_has_2 : decode cX12_has 2 = .ok (.ishr, 1) := by decide +kernel
theorem dX12_has_3 : decode cX12_has 3 = .ok (.iconst 1, 1) := by decide +kernel
theorem dX12_has_4 : decode cX12_has 4 = .ok (.iand, 1) := by decide +kernel
theorem dX12_has_5 : decode cX12_has 5 = .ok (.iconst 1, 1) := by decide +kernel
theorem dX12_has_6 : decode cX12_has 6 = .ok (.if_icmp .ne 7, 3) := by decide +kernel
theorem dX12_has_9 : decode cX12_has 9 = .ok (.iconst 1, 1) := by decide +kernel
theorem dX12_has_10 : decode cX12_has 10 = .ok (.goto 4, 3) := by decide +kernel
theorem dX12_has_13 : decode cX12_has 13 = .ok (.iconst 0, 1) := by decide +kernel
theorem dX12_has_14 : decode cX12_has 14 = .ok (.ireturn, 1) := by decide +kernel
theorem dX12_in_0 : decode cX12_in 0 = .ok (.lload_n 0, 1) := by decide +kernel
theorem dX12_in_1 : decode cX12_in 1 = .ok (.lload_n 2, 1) := by decide +kernel
theorem dX12_in_2 : decode cX12_in 2 = .ok (.lcmp, 1) := by decide +kernel
theorem dX12_in_3 : decode cX12_in 3 = .ok (.ifCond .lt 14, 3) := by decide +kernel
theorem dX12_in_6 : decode cX12_in 6 = .ok (.lload_n 0, 1) := by decide +kernel
theorem dX12_in_7 : decode cX12_in 7 = .ok (.lload 4, 2) := by decide +kernel
theorem dX12_in_9 : decode cX12_in 9 = .ok (.lcmp, 1) := by decide +kernel
theorem dX12_in_10 : decode cX12_in 10 = .ok (.ifCond .gt 7, 3) := by decide +kernel
theorem dX12_in_13 : decode cX12_in 13 = .ok (.iconst 1, 1) := by decide +kernel
theorem dX12_in_14 : decode cX12_in 14 = .ok (.goto 4, 3) := by decide +kernel
theorem dX12_in_17 : decode cX12_in 17 = .ok (.iconst 0, 1) := by decide +kernel
theorem dX12_in_18 : decode cX12_in 18 = .ok (.ireturn, 1) := by decide +kernel
theorem dX12_isKitchen_0 : decode cX12_isKitchen 0 = .ok (.aload_n 0, 1) := by decide +kernel
theorem dX12_isKitchen_1 : decode cX12_isKitchen 1 = .ok (.iload_n 1, 1) := by decide +kernel
theorem dX12_isKitchen_2 : decode cX12_isKitchen 2 = .ok (.invokevirtual 133, 3) := by decide +kernel
theorem dX12_isKitchen_5 : decode cX12_isKitchen 5 = .ok (.ifCond .eq 18, 3) := by decide +kernel
theorem dX12_isKitchen_8 : decode cX12_isKitchen 8 = .ok (.aload_n 0, 1) := by decide +kernel
theorem dX12_isKitchen_9 : decode cX12_isKitchen 9 = .ok (.getfield 13, 3) := by decide +kernel
theorem dX12_isKitchen_12 : decode cX12_isKitchen 12 = .ok (.iload_n 1, 1) := by decide +kernel
theorem dX12_isKitchen_13 : decode cX12_isKitchen 13 = .ok (.iaload, 1) := by decide +kernel
theorem dX12_isKitchen_14 : decode cX12_isKitchen 14 = .ok (.bipush 6, 2) := by decide +kernel
theorem dX12_isKitchen_16 : decode cX12_isKitchen 16 = .ok (.if_icmp .ne 7, 3) := by decide +kernel
theorem dX12_isKitchen_19 : decode cX12_isKitchen 19 = .ok (.iconst 1, 1) := by decide +kernel
theorem dX12_isKitchen_20 : decode cX12_isKitchen 20 = .ok (.goto 4, 3) := by decide +kernel
theorem dX12_isKitchen_23 : decode cX12_isKitchen 23 = .ok (.iconst 0, 1) := by decide +kernel
theorem dX12_isKitchen_24 : decode cX12_isKitchen 24 = .ok (.ireturn, 1) := by decide +kernel
theorem dX12_isPlace_0 : decode cX12_isPlace 0 = .ok (.iload_n 1, 1) := by decide +kernel
theorem dX12_isPlace_1 : decode cX12_isPlace 1 = .ok (.i2l, 1) := by decide +kernel
theorem dX12_isPlace_2 : decode cX12_isPlace 2 = .ok (.lconst 0, 1) := by decide +kernel
theorem dX12_isPlace_3 : decode cX12_isPlace 3 = .ok (.aload_n 0, 1) := by decide +kernel
theorem dX12_isPlace_4 : decode cX12_isPlace 4 = .ok (.getfield 126, 3) := by decide +kernel
theorem dX12_isPlace_7 : decode cX12_isPlace 7 = .ok (.iconst 1, 1) := by decide +kernel
theorem dX12_isPlace_8 : decode cX12_isPlace 8 = .ok (.isub, 1) := by decide +kernel
theorem dX12_isPlace_9 : decode cX12_isPlace 9 = .ok (.i2l, 1) := by decide +kernel
theorem dX12_isPlace_10 : decode cX12_isPlace 10 = .ok (.invokestatic 129, 3) := by decide +kernel
theorem dX12_isPlace_13 : decode cX12_isPlace 13 = .ok (.ireturn, 1) := by decide +kernel
theorem dX12_lays_0 : decode cX12_lays 0 = .ok (.bipush 7, 2) := by decide +kernel
theorem dX12_lays_2 : decode cX12_lays 2 = .ok (.iload_n 2, 1) := by decide +kernel
theorem dX12_lays_3 : decode cX12_lays 3 = .ok (.imul, 1) := by decide +kernel
theorem dX12_lays_4 : decode cX12_lays 4 = .ok (.istore 7, 2) := by decide +kernel
theorem dX12_lays_6 : decode cX12_lays 6 = .ok (.aload_n 1, 1) := by decide +kernel
theorem dX12_lays_7 : decode cX12_lays 7 = .ok (.iload 7, 2) := by decide +kernel
theorem dX12_lays_9 : decode cX12_lays 9 = .ok (.iconst 0, 1) := by decide +kernel
theorem dX12_lays_10 : decode cX12_lays 10 = .ok (.iadd, 1) := by decide +kernel
theorem dX12_lays_11 : decode cX12_lays 11 = .ok (.iload_n 3, 1) := by decide +kernel
theorem dX12_lays_12 : decode cX12_lays 12 = .ok (.iastore, 1) := by decide +kernel
theorem dX12_lays_13 : decode cX12_lays 13 = .ok (.aload_n 1, 1) := by decide +kernel
theorem dX12_lays_14 : decode cX12_lays 14 = .ok (.iload 7, 2) := by decide +kernel
theorem dX12_lays_16 : decode cX12_lays 16 = .ok (.iconst 1, 1) := by decide +kernel
theorem dX12_lays_17 : decode cX12_lays 17 = .ok (.iadd, 1) := by decide +kernel
theorem dX12_lays_18 : decode cX12_lays 18 = .ok (.iload 4, 2) := by decide +kernel
theorem dX12_lays_20 : decode cX12_lays 20 = .ok (.iastore, 1) := by decide +kernel
theorem dX12_lays_21 : decode cX12_lays 21 = .ok (.aload_n 1, 1) := by decide +kernel
theorem dX12_lays_22 : decode cX12_lays 22 = .ok (.iload 7, 2) := by decide +kernel
theorem dX12_lays_24 : decode cX12_lays 24 = .ok (.iconst 2, 1) := by decide +kernel
theorem dX12_lays_25 : decode cX12_lays 25 = .ok (.iadd, 1) := by decide +kernel
theorem dX12_lays_26 : decode cX12_lays 26 = .ok (.iload 5, 2) := by decide +kernel
theorem dX12_lays_28 : decode cX12_lays 28 = .ok (.iastore, 1) := by decide +kernel
theorem dX12_lays_29 : decode cX12_lays 29 = .ok (.aload_n 1, 1) := by decide +kernel
theorem dX12_lays_30 : decode cX12_lays 30 = .ok (.iload 7, 2) := by decide +kernel
theorem dX12_lays_32 : decode cX12_lays 32 = .ok (.iconst 3, 1) := by decide +kernel
theorem dX12_lays_33 : decode cX12_lays 33 = .ok (.iadd, 1) := by decide +kernel
theorem dX12_lays_34 : decode cX12_lays 34 = .ok (.iconst 1, 1) := by decide +kernel
theorem dX12_lays_35 : decode cX12_lays 35 = .ok (.iload_n 3, 1) := by decide +kernel
theorem dX12_lays_36 : decode cX12_lays 36 = .ok (.ishl, 1) := by decide +kernel
theorem dX12_lays_37 : decode cX12_lays 37 = .ok (.iastore, 1) := by decide +kernel
theorem dX12_lays_38 : decode cX12_lays 38 = .ok (.aload_n 1, 1) := by decide +kernel
theorem dX12_lays_39 : decode cX12_lays 39 = .ok (.iload 7, 2) := by decide +kernel
theorem dX12_lays_41 : decode cX12_lays 41 = .ok (.iconst 4, 1) := by decide +kernel
theorem dX12_lays_42 : decode cX12_lays 42 = .ok (.iadd, 1) := by decide +kernel
theorem dX12_lays_43 : decode cX12_lays 43 = .ok (.aload_n 0, 1) := by decide +kernel
theorem dX12_lays_44 : decode cX12_lays 44 = .ok (.getfield 13, 3) := by decide +kernel
theorem dX12_lays_47 : decode cX12_lays 47 = .ok (.iload_n 3, 1) := by decide +kernel
theorem dX12_lays_48 : decode cX12_lays 48 = .ok (.iaload, 1) := by decide +kernel
theorem dX12_lays_49 : decode cX12_lays 49 = .ok (.bipush 6, 2) := by decide +kernel
theorem dX12_lays_51 : decode cX12_lays 51 = .ok (.if_icmp .ne 7, 3) := by decide +kernel
theorem dX12_lays_54 : decode cX12_lays 54 = .ok (.iconst 1, 1) := by decide +kernel
theorem dX12_lays_55 : decode cX12_lays 55 = .ok (.goto 4, 3) := by decide +kernel
theorem dX12_lays_58 : decode cX12_lays 58 = .ok (.iconst 0, 1) := by decide +kernel
theorem dX12_lays_59 : decode cX12_lays 59 = .ok (.iastore, 1) := by decide +kernel
theorem dX12_lays_60 : decode cX12_lays 60 = .ok (.aload_n 1, 1) := by decide +kernel
theorem dX12_lays_61 : decode cX12_lays 61 = .ok (.iload 7, 2) := by decide +kernel
theorem dX12_lays_63 : decode cX12_lays 63 = .ok (.iconst 5, 1) := by decide +kernel
theorem dX12_lays_64 : decode cX12_lays 64 = .ok (.iadd, 1) := by decide +kernel
theorem dX12_lays_65 : decode cX12_lays 65 = .ok (.aload_n 1, 1) := by decide +kernel
theorem dX12_lays_66 : decode cX12_lays 66 = .ok (.bipush 43, 2) := by decide +kernel
theorem dX12_lays_68 : decode cX12_lays 68 = .ok (.iaload, 1) := by decide +kernel
theorem dX12_lays_69 : decode cX12_lays 69 = .ok (.iload 6, 2) := by decide +kernel
theorem dX12_lays_71 : decode cX12_lays 71 = .ok (.iadd, 1) := by decide +kernel
theorem dX12_lays_72 : decode cX12_lays 72 = .ok (.iastore, 1) := by decide +kernel
theorem dX12_lays_73 : decode cX12_lays 73 = .ok (.aload_n 1, 1) := by decide +kernel
theorem dX12_lays_74 : decode cX12_lays 74 = .ok (.iload 7, 2) := by decide +kernel
theorem dX12_lays_76 : decode cX12_lays 76 = .ok (.bipush 6, 2) := by decide +kernel
theorem dX12_lays_78 : decode cX12_lays 78 = .ok (.iadd, 1) := by decide +kernel
theorem dX12_lays_79 : decode cX12_lays 79 = .ok (.aload_n 0, 1) := by decide +kernel
theorem dX12_lays_80 : decode cX12_lays 80 = .ok (.getfield 13, 3) := by decide +kernel
theorem dX12_lays_83 : decode cX12_lays 83 = .ok (.iload_n 3, 1) := by decide +kernel
theorem dX12_lays_84 : decode cX12_lays 84 = .ok (.iaload, 1) := by decide +kernel
theorem dX12_lays_85 : decode cX12_lays 85 = .ok (.bipush 6, 2) := by decide +kernel
theorem dX12_lays_87 : decode cX12_lays 87 = .ok (.if_icmp .ne 10, 3) := by decide +kernel
theorem dX12_lays_90 : decode cX12_lays 90 = .ok (.aload_n 1, 1) := by decide +kernel
theorem dX12_lays_91 : decode cX12_lays 91 = .ok (.bipush 43, 2) := by decide +kernel
theorem dX12_lays_93 : decode cX12_lays 93 = .ok (.iaload, 1) := by decide +kernel
theorem dX12_lays_94 : decode cX12_lays 94 = .ok (.goto 4, 3) := by decide +kernel
theorem dX12_lays_97 : decode cX12_lays 97 = .ok (.iconst (-1), 1) := by decide +kernel
theorem dX12_lays_98 : decode cX12_lays 98 = .ok (.iastore, 1) := by decide +kernel
theorem dX12_lays_99 : decode cX12_lays 99 = .ok (.return_, 1) := by decide +kernel
theorem dX12_laysAlone_0 : decode cX12_laysAlone 0 = .ok (.iconst 0, 1) := by decide +kernel
theorem dX12_laysAlone_1 : decode cX12_laysAlone 1 = .ok (.istore 5, 2) := by decide +kernel
theorem dX12_laysAlone_3 : decode cX12_laysAlone 3 = .ok (.iload 5, 2) := by decide +kernel
theorem dX12_laysAlone_5 : decode cX12_laysAlone 5 = .ok (.bipush 45, 2) := by decide +kernel
theorem dX12_laysAlone_7 : decode cX12_laysAlone 7 = .ok (.if_icmp .ge 17, 3) := by decide +kernel
theorem dX12_laysAlone_10 : decode cX12_laysAlone 10 = .ok (.aload_n 0, 1) := by decide +kernel
theorem dX12_laysAlone_11 : decode cX12_laysAlone 11 = .ok (.getfield 83, 3) := by decide +kernel
theorem dX12_laysAlone_14 : decode cX12_laysAlone 14 = .ok (.iload 5, 2) := by decide +kernel
theorem dX12_laysAlone_16 : decode cX12_laysAlone 16 = .ok (.iconst 0, 1) := by decide +kernel
theorem dX12_laysAlone_17 : decode cX12_laysAlone 17 = .ok (.iastore, 1) := by decide +kernel
theorem dX12_laysAlone_18 : decode cX12_laysAlone 18 = .ok (.iinc 5 1, 3) := by decide +kernel
theorem dX12_laysAlone_21 : decode cX12_laysAlone 21 = .ok (.goto (-18), 3) := by decide +kernel
theorem dX12_laysAlone_24 : decode cX12_laysAlone 24 = .ok (.aload_n 0, 1) := by decide +kernel
theorem dX12_laysAlone_25 : decode cX12_laysAlone 25 = .ok (.getfield 83, 3) := by decide +kernel
theorem dX12_laysAlone_28 : decode cX12_laysAlone 28 = .ok (.bipush 42, 2) := by decide +kernel
theorem dX12_laysAlone_30 : decode cX12_laysAlone 30 = .ok (.aload_n 0, 1) := by decide +kernel
theorem dX12_laysAlone_31 : decode cX12_laysAlone 31 = .ok (.getfield 389, 3) := by decide +kernel
theorem dX12_laysAlone_34 : decode cX12_laysAlone 34 = .ok (.iastore, 1) := by decide +kernel
theorem dX12_laysAlone_35 : decode cX12_laysAlone 35 = .ok (.aload_n 0, 1) := by decide +kernel
theorem dX12_laysAlone_36 : decode cX12_laysAlone 36 = .ok (.getfield 83, 3) := by decide +kernel
theorem dX12_laysAlone_39 : decode cX12_laysAlone 39 = .ok (.bipush 43, 2) := by decide +kernel
theorem dX12_laysAlone_41 : decode cX12_laysAlone 41 = .ok (.aload_n 0, 1) := by decide +kernel
theorem dX12_laysAlone_42 : decode cX12_laysAlone 42 = .ok (.getfield 392, 3) := by decide +kernel
theorem dX12_laysAlone_45 : decode cX12_laysAlone 45 = .ok (.iastore, 1) := by decide +kernel
theorem dX12_laysAlone_46 : decode cX12_laysAlone 46 = .ok (.aload_n 0, 1) := by decide +kernel
theorem dX12_laysAlone_47 : decode cX12_laysAlone 47 = .ok (.getfield 83, 3) := by decide +kernel
theorem dX12_laysAlone_50 : decode cX12_laysAlone 50 = .ok (.bipush 44, 2) := by decide +kernel
theorem dX12_laysAlone_52 : decode cX12_laysAlone 52 = .ok (.iconst 1, 1) := by decide +kernel
theorem dX12_laysAlone_53 : decode cX12_laysAlone 53 = .ok (.iastore, 1) := by decide +kernel
theorem dX12_laysAlone_54 : decode cX12_laysAlone 54 = .ok (.aload_n 0, 1) := by decide +kernel
theorem dX12_laysAlone_55 : decode cX12_laysAlone 55 = .ok (.aload_n 0, 1) := by decide +kernel
theorem dX12_laysAlone_56 : decode cX12_laysAlone 56 = .ok (.getfield 83, 3) := by decide +kernel
theorem dX12_laysAlone_59 : decode cX12_laysAlone 59 = .ok (.iconst 0, 1) := by decide +kernel
theorem dX12_laysAlone_60 : decode cX12_laysAlone 60 = .ok (.iload_n 1, 1) := by decide +kernel
theorem dX12_laysAlone_61 : decode cX12_laysAlone 61 = .ok (.iload_n 2, 1) := by decide +kernel
theorem dX12_laysAlone_62 : decode cX12_laysAlone 62 = .ok (.iload_n 3, 1) := by decide +kernel
theorem dX12_laysAlone_63 : decode cX12_laysAlone 63 = .ok (.iload 4, 2) := by decide +kernel
theorem dX12_laysAlone_65 : decode cX12_laysAlone 65 = .ok (.invokevirtual 335, 3) := by decide +kernel
theorem dX12_laysAlone_68 : decode cX12_laysAlone 68 = .ok (.return_, 1) := by decide +kernel
theorem dX12_minuteGoes_0 : decode cX12_minuteGoes 0 = .ok (.aload_n 0, 1) := by decide +kernel
theorem dX12_minuteGoes_1 : decode cX12_minuteGoes 1 = .ok (.aload_n 1, 1) := by decide +kernel
theorem dX12_minuteGoes_2 : decode cX12_minuteGoes 2 = .ok (.bipush 43, 2) := by decide +kernel
theorem dX12_minuteGoes_4 : decode cX12_minuteGoes 4 = .ok (.iaload, 1) := by decide +kernel
theorem dX12_minuteGoes_5 : decode cX12_minuteGoes 5 = .ok (.invokevirtual 268, 3) := by decide +kernel
theorem dX12_minuteGoes_8 : decode cX12_minuteGoes 8 = .ok (.istore_n 2, 1) := by decide +kernel
theorem dX12_minuteGoes_9 : decode cX12_minuteGoes 9 = .ok (.iconst 0, 1) := by decide +kernel
theorem dX12_minuteGoes_10 : decode cX12_minuteGoes 10 = .ok (.istore_n 3, 1) := by decide +kernel
theorem dX12_minuteGoes_11 : decode cX12_minuteGoes 11 = .ok (.iload_n 3, 1) := by decide +kernel
theorem dX12_minuteGoes_12 : decode cX12_minuteGoes 12 = .ok (.aload_n 1, 1) := by decide +kernel
theorem dX12_minuteGoes_13 : decode cX12_minuteGoes 13 = .ok (.bipush 44, 2) := by decide +kernel
theorem dX12_minuteGoes_15 : decode cX12_minuteGoes 15 = .ok (.iaload, 1) := by decide +kernel
theorem dX12_minuteGoes_16 : decode cX12_minuteGoes 16 = .ok (.if_icmp .ge 70, 3) := by decide +kernel
theorem dX12_minuteGoes_19 : decode cX12_minuteGoes 19 = .ok (.aload_n 1, 1) := by decide +kernel
theorem dX12_minuteGoes_20 : decode cX12_minuteGoes 20 = .ok (.bipush 7, 2) := by decide +kernel
theorem dX12_minuteGoes_22 : decode cX12_minuteGoes 22 = .ok (.iload_n 3, 1) := by decide +kernel
theorem dX12_minuteGoes_23 : decode cX12_minuteGoes 23 = .ok (.imul, 1) := by decide +kernel
theorem dX12_minuteGoes_24 : decode cX12_minuteGoes 24 = .ok (.iconst 4, 1) := by decide +kernel
theorem dX12_minuteGoes_25 : decode cX12_minuteGoes 25 = .ok (.iadd, 1) := by decide +kernel
theorem dX12_minuteGoes_26 : decode cX12_minuteGoes 26 = .ok (.iaload, 1) := by decide +kernel
theorem dX12_minuteGoes_27 : decode cX12_minuteGoes 27 = .ok (.ifCond .ne 22, 3) := by decide +kernel
theorem dX12_minuteGoes_30 : decode cX12_minuteGoes 30 = .ok (.aload_n 1, 1) := by decide +kernel
theorem dX12_minuteGoes_31 : decode cX12_minuteGoes 31 = .ok (.bipush 7, 2) := by decide +kernel
theorem dX12_minuteGoes_33 : decode cX12_minuteGoes 33 = .ok (.iload_n 3, 1) := by decide +kernel
theorem dX12_minuteGoes_34 : decode cX12_minuteGoes 34 = .ok (.imul, 1) := by decide +kernel
theorem dX12_minuteGoes_35 : decode cX12_minuteGoes 35 = .ok (.iconst 5, 1) := by decide +kernel
theorem dX12_minuteGoes_36 : decode cX12_minuteGoes 36 = .ok (.iadd, 1) := by decide +kernel
theorem dX12_minuteGoes_37 : decode cX12_minuteGoes 37 = .ok (.iaload, 1) := by decide +kernel
theorem dX12_minuteGoes_38 : decode cX12_minuteGoes 38 = .ok (.aload_n 1, 1) := by decide +kernel
theorem dX12_minuteGoes_39 : decode cX12_minuteGoes 39 = .ok (.bipush 43, 2) := by decide +kernel
theorem dX12_minuteGoes_41 : decode cX12_minuteGoes 41 = .ok (.iaload, 1) := by decide +kernel
theorem dX12_minuteGoes_42 : decode cX12_minuteGoes 42 = .ok (.if_icmp .gt 7, 3) := by decide +kernel
theorem dX12_minuteGoes_45 : decode cX12_minuteGoes 45 = .ok (.iconst 1, 1) := by decide +kernel
theorem dX12_minuteGoes_46 : decode cX12_minuteGoes 46 = .ok (.goto 4, 3) := by decide +kernel
theorem dX12_minuteGoes_49 : decode cX12_minuteGoes 49 = .ok (.iconst 0, 1) := by decide +kernel
theorem dX12_minuteGoes_50 : decode cX12_minuteGoes 50 = .ok (.istore 4, 2) := by decide +kernel
theorem dX12_minuteGoes_52 : decode cX12_minuteGoes 52 = .ok (.iconst 0, 1) := by decide +kernel
theorem dX12_minuteGoes_53 : decode cX12_minuteGoes 53 = .ok (.istore 5, 2) := by decide +kernel
theorem dX12_minuteGoes_55 : decode cX12_minuteGoes 55 = .ok (.iload 5, 2) := by decide +kernel
theorem dX12_minuteGoes_57 : decode cX12_minuteGoes 57 = .ok (.iload_n 2, 1) := by decide +kernel
theorem dX12_minuteGoes_58 : decode cX12_minuteGoes 58 = .ok (.if_icmp .ge 22, 3) := by decide +kernel
theorem dX12_minuteGoes_61 : decode cX12_minuteGoes 61 = .ok (.iload 4, 2) := by decide +kernel
theorem dX12_minuteGoes_63 : decode cX12_minuteGoes 63 = .ok (.ifCond .eq 17, 3) := by decide +kernel
theorem dX12_minuteGoes_66 : decode cX12_minuteGoes 66 = .ok (.aload_n 0, 1) := by decide +kernel
theorem dX12_minuteGoes_67 : decode cX12_minuteGoes 67 = .ok (.aload_n 1, 1) := by decide +kernel
theorem dX12_minuteGoes_68 : decode cX12_minuteGoes 68 = .ok (.iload_n 3, 1) := by decide +kernel
theorem dX12_minuteGoes_69 : decode cX12_minuteGoes 69 = .ok (.invokevirtual 300, 3) := by decide +kernel
theorem dX12_minuteGoes_72 : decode cX12_minuteGoes 72 = .ok (.istore 4, 2) := by decide +kernel
theorem dX12_minuteGoes_74 : decode cX12_minuteGoes 74 = .ok (.iinc 5 1, 3) := by decide +kernel
theorem dX12_minuteGoes_77 : decode cX12_minuteGoes 77 = .ok (.goto (-22), 3) := by decide +kernel
theorem dX12_minuteGoes_80 : decode cX12_minuteGoes 80 = .ok (.iinc 3 1, 3) := by decide +kernel
theorem dX12_minuteGoes_83 : decode cX12_minuteGoes 83 = .ok (.goto (-72), 3) := by decide +kernel
theorem dX12_minuteGoes_86 : decode cX12_minuteGoes 86 = .ok (.aload_n 1, 1) := by decide +kernel
theorem dX12_minuteGoes_87 : decode cX12_minuteGoes 87 = .ok (.bipush 43, 2) := by decide +kernel
theorem dX12_minuteGoes_89 : decode cX12_minuteGoes 89 = .ok (.dup2, 1) := by decide +kernel
theorem dX12_minuteGoes_90 : decode cX12_minuteGoes 90 = .ok (.iaload, 1) := by decide +kernel
theorem dX12_minuteGoes_91 : decode cX12_minuteGoes 91 = .ok (.iconst 1, 1) := by decide +kernel
theorem dX12_minuteGoes_92 : decode cX12_minuteGoes 92 = .ok (.iadd, 1) := by decide +kernel
theorem dX12_minuteGoes_93 : decode cX12_minuteGoes 93 = .ok (.iastore, 1) := by decide +kernel
theorem dX12_minuteGoes_94 : decode cX12_minuteGoes 94 = .ok (.return_, 1) := by decide +kernel
theorem dX12_othersAt_0 : decode cX12_othersAt 0 = .ok (.iconst 0, 1) := by decide +kernel
theorem dX12_othersAt_1 : decode cX12_othersAt 1 = .ok (.istore_n 2, 1) := by decide +kernel
theorem dX12_othersAt_2 : decode cX12_othersAt 2 = .ok (.iconst 0, 1) := by decide +kernel
theorem dX12_othersAt_3 : decode cX12_othersAt 3 = .ok (.istore_n 3, 1) := by decide +kernel
theorem dX12_othersAt_4 : decode cX12_othersAt 4 = .ok (.iload_n 3, 1) := by decide +kernel
theorem dX12_othersAt_5 : decode cX12_othersAt 5 = .ok (.aload_n 0, 1) := by decide +kernel
theorem dX12_othersAt_6 : decode cX12_othersAt 6 = .ok (.bipush 44, 2) := by decide +kernel
theorem dX12_othersAt_8 : decode cX12_othersAt 8 = .ok (.iaload, 1) := by decide +kernel
theorem dX12_othersAt_9 : decode cX12_othersAt 9 = .ok (.if_icmp .ge 55, 3) := by decide +kernel
theorem dX12_othersAt_12 : decode cX12_othersAt 12 = .ok (.iload_n 2, 1) := by decide +kernel
theorem dX12_othersAt_13 : decode cX12_othersAt 13 = .ok (.iload_n 3, 1) := by decide +kernel
theorem dX12_othersAt_14 : decode cX12_othersAt 14 = .ok (.iload_n 1, 1) := by decide +kernel
theorem dX12_othersAt_15 : decode cX12_othersAt 15 = .ok (.if_icmp .eq 37, 3) := by decide +kernel
theorem dX12_othersAt_18 : decode cX12_othersAt 18 = .ok (.aload_n 0, 1) := by decide +kernel
theorem dX12_othersAt_19 : decode cX12_othersAt 19 = .ok (.bipush 7, 2) := by decide +kernel
theorem dX12_othersAt_21 : decode cX12_othersAt 21 = .ok (.iload_n 3, 1) := by decide +kernel
theorem dX12_othersAt_22 : decode cX12_othersAt 22 = .ok (.imul, 1) := by decide +kernel
theorem dX12_othersAt_23 : decode cX12_othersAt 23 = .ok (.iconst 4, 1) := by decide +kernel
theorem dX12_othersAt_24 : decode cX12_othersAt 24 = .ok (.iadd, 1) := by decide +kernel
theorem dX12_othersAt_25 : decode cX12_othersAt 25 = .ok (.iaload, 1) := by decide +kernel
theorem dX12_othersAt_26 : decode cX12_othersAt 26 = .ok (.ifCond .ne 26, 3) := by decide +kernel
theorem dX12_othersAt_29 : decode cX12_othersAt 29 = .ok (.aload_n 0, 1) := by decide +kernel
theorem dX12_othersAt_30 : decode cX12_othersAt 30 = .ok (.bipush 7, 2) := by decide +kernel
theorem dX12_othersAt_32 : decode cX12_othersAt 32 = .ok (.iload_n 3, 1) := by decide +kernel
theorem dX12_othersAt_33 : decode cX12_othersAt 33 = .ok (.imul, 1) := by decide +kernel
theorem dX12_othersAt_34 : decode cX12_othersAt 34 = .ok (.iconst 0, 1) := by decide +kernel
theorem dX12_othersAt_35 : decode cX12_othersAt 35 = .ok (.iadd, 1) := by decide +kernel
theorem dX12_othersAt_36 : decode cX12_othersAt 36 = .ok (.iaload, 1) := by decide +kernel
theorem dX12_othersAt_37 : decode cX12_othersAt 37 = .ok (.aload_n 0, 1) := by decide +kernel
theorem dX12_othersAt_38 : decode cX12_othersAt 38 = .ok (.bipush 7, 2) := by decide +kernel
theorem dX12_othersAt_40 : decode cX12_othersAt 40 = .ok (.iload_n 1, 1) := by decide +kernel
theorem dX12_othersAt_41 : decode cX12_othersAt 41 = .ok (.imul, 1) := by decide +kernel
theorem dX12_othersAt_42 : decode cX12_othersAt 42 = .ok (.iconst 0, 1) := by decide +kernel
theorem dX12_othersAt_43 : decode cX12_othersAt 43 = .ok (.iadd, 1) := by decide +kernel
theorem dX12_othersAt_44 : decode cX12_othersAt 44 = .ok (.iaload, 1) := by decide +kernel
theorem dX12_othersAt_45 : decode cX12_othersAt 45 = .ok (.if_icmp .ne 7, 3) := by decide +kernel
theorem dX12_othersAt_48 : decode cX12_othersAt 48 = .ok (.iconst 1, 1) := by decide +kernel
theorem dX12_othersAt_49 : decode cX12_othersAt 49 = .ok (.goto 4, 3) := by decide +kernel
theorem dX12_othersAt_52 : decode cX12_othersAt 52 = .ok (.iconst 0, 1) := by decide +kernel
theorem dX12_othersAt_53 : decode cX12_othersAt 53 = .ok (.invokestatic 155, 3) := by decide +kernel
theorem dX12_othersAt_56 : decode cX12_othersAt 56 = .ok (.iadd, 1) := by decide +kernel
theorem dX12_othersAt_57 : decode cX12_othersAt 57 = .ok (.istore_n 2, 1) := by decide +kernel
theorem dX12_othersAt_58 : decode cX12_othersAt 58 = .ok (.iinc 3 1, 3) := by decide +kernel
theorem dX12_othersAt_61 : decode cX12_othersAt 61 = .ok (.goto (-57), 3) := by decide +kernel
theorem dX12_othersAt_64 : decode cX12_othersAt 64 = .ok (.iload_n 2, 1) := by decide +kernel
theorem dX12_othersAt_65 : decode cX12_othersAt 65 = .ok (.ireturn, 1) := by decide +kernel
theorem dX12_ruled_0 : decode cX12_ruled 0 = .ok (.aload_n 0, 1) := by decide +kernel
theorem dX12_ruled_1 : decode cX12_ruled 1 = .ok (.getfield 252, 3) := by decide +kernel
theorem dX12_ruled_4 : decode cX12_ruled 4 = .ok (.ifCond .ne 19, 3) := by decide +kernel
theorem dX12_ruled_7 : decode cX12_ruled 7 = .ok (.aload_n 1, 1) := by decide +kernel
theorem dX12_ruled_8 : decode cX12_ruled 8 = .ok (.bipush 42, 2) := by decide +kernel
theorem dX12_ruled_10 : decode cX12_ruled 10 = .ok (.iaload, 1) := by decide +kernel
theorem dX12_ruled_11 : decode cX12_ruled 11 = .ok (.aload_n 1, 1) := by decide +kernel
theorem dX12_ruled_12 : decode cX12_ruled 12 = .ok (.bipush 7, 2) := by decide +kernel
theorem dX12_ruled_14 : decode cX12_ruled 14 = .ok (.iload_n 2, 1) := by decide +kernel
theorem dX12_ruled_15 : decode cX12_ruled 15 = .ok (.imul, 1) := by decide +kernel
theorem dX12_ruled_16 : decode cX12_ruled 16 = .ok (.iconst 0, 1) := by decide +kernel
theorem dX12_ruled_17 : decode cX12_ruled 17 = .ok (.iadd, 1) := by decide +kernel
theorem dX12_ruled_18 : decode cX12_ruled 18 = .ok (.iaload, 1) := by decide +kernel
theorem dX12_ruled_19 : decode cX12_ruled 19 = .ok (.ishr, 1) := by decide +kernel
theorem dX12_ruled_20 : decode cX12_ruled 20 = .ok (.iconst 1, 1) := by decide +kernel
theorem dX12_ruled_21 : decode cX12_ruled 21 = .ok (.iand, 1) := by decide +kernel
theorem dX12_ruled_22 : decode cX12_ruled 22 = .ok (.ireturn, 1) := by decide +kernel
theorem dX12_ruled_23 : decode cX12_ruled 23 = .ok (.iconst 0, 1) := by decide +kernel
theorem dX12_ruled_24 : decode cX12_ruled 24 = .ok (.istore_n 3, 1) := by decide +kernel
theorem dX12_ruled_25 : decode cX12_ruled 25 = .ok (.iconst 0, 1) := by decide +kernel
theorem dX12_ruled_26 : decode cX12_ruled 26 = .ok (.istore 4, 2) := by decide +kernel
theorem dX12_ruled_28 : decode cX12_ruled 28 = .ok (.iload 4, 2) := by decide +kernel
theorem dX12_ruled_30 : decode cX12_ruled 30 = .ok (.aload_n 0, 1) := by decide +kernel
theorem dX12_ruled_31 : decode cX12_ruled 31 = .ok (.getfield 252, 3) := by decide +kernel
theorem dX12_ruled_34 : decode cX12_ruled 34 = .ok (.if_icmp .ge 125, 3) := by decide +kernel
theorem dX12_ruled_37 : decode cX12_ruled 37 = .ok (.aload_n 0, 1) := by decide +kernel
theorem dX12_ruled_38 : decode cX12_ruled 38 = .ok (.getfield 59, 3) := by decide +kernel
theorem dX12_ruled_41 : decode cX12_ruled 41 = .ok (.iload 4, 2) := by decide +kernel
theorem dX12_ruled_43 : decode cX12_ruled 43 = .ok (.iaload, 1) := by decide +kernel
theorem dX12_ruled_44 : decode cX12_ruled 44 = .ok (.istore 5, 2) := by decide +kernel
theorem dX12_ruled_46 : decode cX12_ruled 46 = .ok (.iload 5, 2) := by decide +kernel
theorem dX12_ruled_48 : decode cX12_ruled 48 = .ok (.sipush 3000, 3) := by decide +kernel
theorem dX12_ruled_51 : decode cX12_ruled 51 = .ok (.if_icmp .ne 23, 3) := by decide +kernel
theorem dX12_ruled_54 : decode cX12_ruled 54 = .ok (.aload_n 0, 1) := by decide +kernel
theorem dX12_ruled_55 : decode cX12_ruled 55 = .ok (.getfield 65, 3) := by decide +kernel
theorem dX12_ruled_58 : decode cX12_ruled 58 = .ok (.iload_n 3, 1) := by decide +kernel
theorem dX12_ruled_59 : decode cX12_ruled 59 = .ok (.iconst 1, 1) := by decide +kernel
theorem dX12_ruled_60 : decode cX12_ruled 60 = .ok (.isub, 1) := by decide +kernel
theorem dX12_ruled_61 : decode cX12_ruled 61 = .ok (.aload_n 0, 1) := by decide +kernel
theorem dX12_ruled_62 : decode cX12_ruled 62 = .ok (.getfield 65, 3) := by decide +kernel
theorem dX12_ruled_65 : decode cX12_ruled 65 = .ok (.iload_n 3, 1) := by decide +kernel
theorem dX12_ruled_66 : decode cX12_ruled 66 = .ok (.iconst 1, 1) := by decide +kernel
theorem dX12_ruled_67 : decode cX12_ruled 67 = .ok (.isub, 1) := by decide +kernel
theorem dX12_ruled_68 : decode cX12_ruled 68 = .ok (.iaload, 1) := by decide +kernel
theorem dX12_ruled_69 : decode cX12_ruled 69 = .ok (.ineg, 1) := by decide +kernel
theorem dX12_ruled_70 : decode cX12_ruled 70 = .ok (.iastore, 1) := by decide +kernel
theorem dX12_ruled_71 : decode cX12_ruled 71 = .ok (.goto 82, 3) := by decide +kernel
theorem dX12_ruled_74 : decode cX12_ruled 74 = .ok (.iload 5, 2) := by decide +kernel
theorem dX12_ruled_76 : decode cX12_ruled 76 = .ok (.sipush 2000, 3) := by decide +kernel
theorem dX12_ruled_79 : decode cX12_ruled 79 = .ok (.if_icmp .lt 40, 3) := by decide +kernel
theorem dX12_ruled_82 : decode cX12_ruled 82 = .ok (.iinc 3 (-1), 3) := by decide +kernel
theorem dX12_ruled_85 : decode cX12_ruled 85 = .ok (.aload_n 0, 1) := by decide +kernel
theorem dX12_ruled_86 : decode cX12_ruled 86 = .ok (.getfield 65, 3) := by decide +kernel
theorem dX12_ruled_89 : decode cX12_ruled 89 = .ok (.iload_n 3, 1) := by decide +kernel
theorem dX12_ruled_90 : decode cX12_ruled 90 = .ok (.iconst 1, 1) := by decide +kernel
theorem dX12_ruled_91 : decode cX12_ruled 91 = .ok (.isub, 1) := by decide +kernel
theorem dX12_ruled_92 : decode cX12_ruled 92 = .ok (.iload 5, 2) := by decide +kernel
theorem dX12_ruled_94 : decode cX12_ruled 94 = .ok (.sipush 2000, 3) := by decide +kernel
theorem dX12_ruled_97 : decode cX12_ruled 97 = .ok (.isub, 1) := by decide +kernel
theorem dX12_ruled_98 : decode cX12_ruled 98 = .ok (.aload_n 0, 1) := by decide +kernel
theorem dX12_ruled_99 : decode cX12_ruled 99 = .ok (.getfield 65, 3) := by decide +kernel
theorem dX12_ruled_102 : decode cX12_ruled 102 = .ok (.iload_n 3, 1) := by decide +kernel
theorem dX12_ruled_103 : decode cX12_ruled 103 = .ok (.iconst 1, 1) := by decide +kernel
theorem dX12_ruled_104 : decode cX12_ruled 104 = .ok (.isub, 1) := by decide +kernel
theorem dX12_ruled_105 : decode cX12_ruled 105 = .ok (.iaload, 1) := by decide +kernel
theorem dX12_ruled_106 : decode cX12_ruled 106 = .ok (.aload_n 0, 1) := by decide +kernel
theorem dX12_ruled_107 : decode cX12_ruled 107 = .ok (.getfield 65, 3) := by decide +kernel
theorem dX12_ruled_110 : decode cX12_ruled 110 = .ok (.iload_n 3, 1) := by decide +kernel
theorem dX12_ruled_111 : decode cX12_ruled 111 = .ok (.iaload, 1) := by decide +kernel
theorem dX12_ruled_112 : decode cX12_ruled 112 = .ok (.invokestatic 275, 3) := by decide +kernel
theorem dX12_ruled_115 : decode cX12_ruled 115 = .ok (.iastore, 1) := by decide +kernel
theorem dX12_ruled_116 : decode cX12_ruled 116 = .ok (.goto 37, 3) := by decide +kernel
theorem dX12_ruled_119 : decode cX12_ruled 119 = .ok (.aload_n 0, 1) := by decide +kernel
theorem dX12_ruled_120 : decode cX12_ruled 120 = .ok (.getfield 65, 3) := by decide +kernel
theorem dX12_ruled_123 : decode cX12_ruled 123 = .ok (.iload_n 3, 1) := by decide +kernel
theorem dX12_ruled_124 : decode cX12_ruled 124 = .ok (.iload 5, 2) := by decide +kernel
theorem dX12_ruled_126 : decode cX12_ruled 126 = .ok (.sipush 1000, 3) := by decide +kernel
theorem dX12_ruled_129 : decode cX12_ruled 129 = .ok (.if_icmp .lt 18, 3) := by decide +kernel
theorem dX12_ruled_132 : decode cX12_ruled 132 = .ok (.aload_n 0, 1) := by decide +kernel
theorem dX12_ruled_133 : decode cX12_ruled 133 = .ok (.aload_n 1, 1) := by decide +kernel
theorem dX12_ruled_134 : decode cX12_ruled 134 = .ok (.iload_n 2, 1) := by decide +kernel
theorem dX12_ruled_135 : decode cX12_ruled 135 = .ok (.iload 5, 2) := by decide +kernel
theorem dX12_ruled_137 : decode cX12_ruled 137 = .ok (.sipush 1000, 3) := by decide +kernel
theorem dX12_ruled_140 : decode cX12_ruled 140 = .ok (.isub, 1) := by decide +kernel
theorem dX12_ruled_141 : decode cX12_ruled 141 = .ok (.invokevirtual 279, 3) := by decide +kernel
theorem dX12_ruled_144 : decode cX12_ruled 144 = .ok (.goto 5, 3) := by decide +kernel
theorem dX12_ruled_147 : decode cX12_ruled 147 = .ok (.iload 5, 2) := by decide +kernel
theorem dX12_ruled_149 : decode cX12_ruled 149 = .ok (.iastore, 1) := by decide +kernel
theorem dX12_ruled_150 : decode cX12_ruled 150 = .ok (.iinc 3 1, 3) := by decide +kernel
theorem dX12_ruled_153 : decode cX12_ruled 153 = .ok (.iinc 4 1, 3) := by decide +kernel
theorem dX12_ruled_156 : decode cX12_ruled 156 = .ok (.goto (-128), 3) := by decide +kernel
theorem dX12_ruled_159 : decode cX12_ruled 159 = .ok (.aload_n 0, 1) := by decide +kernel
theorem dX12_ruled_160 : decode cX12_ruled 160 = .ok (.getfield 65, 3) := by decide +kernel
theorem dX12_ruled_163 : decode cX12_ruled 163 = .ok (.iconst 0, 1) := by decide +kernel
theorem dX12_ruled_164 : decode cX12_ruled 164 = .ok (.iaload, 1) := by decide +kernel
theorem dX12_ruled_165 : decode cX12_ruled 165 = .ok (.ireturn, 1) := by decide +kernel
theorem dX12_sails_0 : decode cX12_sails 0 = .ok (.aload_n 0, 1) := by decide +kernel
theorem dX12_sails_1 : decode cX12_sails 1 = .ok (.iload_n 1, 1) := by decide +kernel
theorem dX12_sails_2 : decode cX12_sails 2 = .ok (.iload_n 2, 1) := by decide +kernel
theorem dX12_sails_3 : decode cX12_sails 3 = .ok (.iload_n 3, 1) := by decide +kernel
theorem dX12_sails_4 : decode cX12_sails 4 = .ok (.iload 4, 2) := by decide +kernel
theorem dX12_sails_6 : decode cX12_sails 6 = .ok (.invokevirtual 399, 3) := by decide +kernel
theorem dX12_sails_9 : decode cX12_sails 9 = .ok (.istore 6, 2) := by decide +kernel
theorem dX12_sails_11 : decode cX12_sails 11 = .ok (.iload 6, 2) := by decide +kernel
theorem dX12_sails_13 : decode cX12_sails 13 = .ok (.ifCond .lt 29, 3) := by decide +kernel
theorem dX12_sails_16 : decode cX12_sails 16 = .ok (.aload_n 0, 1) := by decide +kernel
theorem dX12_sails_17 : decode cX12_sails 17 = .ok (.getfield 83, 3) := by decide +kernel
theorem dX12_sails_20 : decode cX12_sails 20 = .ok (.iconst 4, 1) := by decide +kernel
theorem dX12_sails_21 : decode cX12_sails 21 = .ok (.iaload, 1) := by decide +kernel
theorem dX12_sails_22 : decode cX12_sails 22 = .ok (.iconst 1, 1) := by decide +kernel
theorem dX12_sails_23 : decode cX12_sails 23 = .ok (.if_icmp .ne 19, 3) := by decide +kernel
theorem dX12_sails_26 : decode cX12_sails 26 = .ok (.aload_n 0, 1) := by decide +kernel
theorem dX12_sails_27 : decode cX12_sails 27 = .ok (.getfield 83, 3) := by decide +kernel
theorem dX12_sails_30 : decode cX12_sails 30 = .ok (.iconst 0, 1) := by decide +kernel
theorem dX12_sails_31 : decode cX12_sails 31 = .ok (.iaload, 1) := by decide +kernel
theorem dX12_sails_32 : decode cX12_sails 32 = .ok (.iload 5, 2) := by decide +kernel
theorem dX12_sails_34 : decode cX12_sails 34 = .ok (.if_icmp .ne 8, 3) := by decide +kernel
theorem dX12_sails_37 : decode cX12_sails 37 = .ok (.iload 6, 2) := by decide +kernel
theorem dX12_sails_39 : decode cX12_sails 39 = .ok (.goto 5, 3) := by decide +kernel
theorem dX12_sails_42 : decode cX12_sails 42 = .ok (.bipush (-2), 2) := by decide +kernel
theorem dX12_sails_44 : decode cX12_sails 44 = .ok (.ireturn, 1) := by decide +kernel
theorem dX12_steps_0 : decode cX12_steps 0 = .ok (.bipush 7, 2) := by decide +kernel
theorem dX12_steps_2 : decode cX12_steps 2 = .ok (.iload_n 2, 1) := by decide +kernel
theorem dX12_steps_3 : decode cX12_steps 3 = .ok (.imul, 1) := by decide +kernel
theorem dX12_steps_4 : decode cX12_steps 4 = .ok (.istore_n 3, 1) := by decide +kernel
theorem dX12_steps_5 : decode cX12_steps 5 = .ok (.aload_n 1, 1) := by decide +kernel
theorem dX12_steps_6 : decode cX12_steps 6 = .ok (.iload_n 3, 1) := by decide +kernel
theorem dX12_steps_7 : decode cX12_steps 7 = .ok (.iconst 0, 1) := by decide +kernel
theorem dX12_steps_8 : decode cX12_steps 8 = .ok (.iadd, 1) := by decide +kernel
theorem dX12_steps_9 : decode cX12_steps 9 = .ok (.iaload, 1) := by decide +kernel
theorem dX12_steps_10 : decode cX12_steps 10 = .ok (.istore 4, 2) := by decide +kernel
theorem dX12_steps_12 : decode cX12_steps 12 = .ok (.aload_n 0, 1) := by decide +kernel
theorem dX12_steps_13 : decode cX12_steps 13 = .ok (.getfield 13, 3) := by decide +kernel
theorem dX12_steps_16 : decode cX12_steps 16 = .ok (.iload 4, 2) := by decide +kernel
theorem dX12_steps_18 : decode cX12_steps 18 = .ok (.iaload, 1) := by decide +kernel
theorem dX12_steps_19 : decode cX12_steps 19 = .ok (.iconst 5, 1) := by decide +kernel
theorem dX12_steps_20 : decode cX12_steps 20 = .ok (.if_icmp .ne 20, 3) := by decide +kernel
theorem dX12_steps_23 : decode cX12_steps 23 = .ok (.aload_n 1, 1) := by decide +kernel
theorem dX12_steps_24 : decode cX12_steps 24 = .ok (.bipush 43, 2) := by decide +kernel
theorem dX12_steps_26 : decode cX12_steps 26 = .ok (.iaload, 1) := by decide +kernel
theorem dX12_steps_27 : decode cX12_steps 27 = .ok (.aload_n 0, 1) := by decide +kernel
theorem dX12_steps_28 : decode cX12_steps 28 = .ok (.getfield 23, 3) := by decide +kernel
theorem dX12_steps_31 : decode cX12_steps 31 = .ok (.iload 4, 2) := by decide +kernel
theorem dX12_steps_33 : decode cX12_steps 33 = .ok (.iaload, 1) := by decide +kernel
theorem dX12_steps_34 : decode cX12_steps 34 = .ok (.irem, 1) := by decide +kernel
theorem dX12_steps_35 : decode cX12_steps 35 = .ok (.ifCond .eq 5, 3) := by decide +kernel
theorem dX12_steps_38 : decode cX12_steps 38 = .ok (.iconst 0, 1) := by decide +kernel
theorem dX12_steps_39 : decode cX12_steps 39 = .ok (.ireturn, 1) := by decide +kernel
theorem dX12_steps_40 : decode cX12_steps 40 = .ok (.aload_n 0, 1) := by decide +kernel
theorem dX12_steps_41 : decode cX12_steps 41 = .ok (.getfield 13, 3) := by decide +kernel
theorem dX12_steps_44 : decode cX12_steps 44 = .ok (.iload 4, 2) := by decide +kernel
theorem dX12_steps_46 : decode cX12_steps 46 = .ok (.iaload, 1) := by decide +kernel
theorem dX12_steps_47 : decode cX12_steps 47 = .ok (.iconst 3, 1) := by decide +kernel
theorem dX12_steps_48 : decode cX12_steps 48 = .ok (.if_icmp .ne 46, 3) := by decide +kernel
theorem dX12_steps_51 : decode cX12_steps 51 = .ok (.aload_n 1, 1) := by decide +kernel
theorem dX12_steps_52 : decode cX12_steps 52 = .ok (.iload_n 3, 1) := by decide +kernel
theorem dX12_steps_53 : decode cX12_steps 53 = .ok (.iconst 2, 1) := by decide +kernel
theorem dX12_steps_54 : decode cX12_steps 54 = .ok (.iadd, 1) := by decide +kernel
theorem dX12_steps_55 : decode cX12_steps 55 = .ok (.iaload, 1) := by decide +kernel
theorem dX12_steps_56 : decode cX12_steps 56 = .ok (.aload_n 0, 1) := by decide +kernel
theorem dX12_steps_57 : decode cX12_steps 57 = .ok (.getfield 23, 3) := by decide +kernel
theorem dX12_steps_60 : decode cX12_steps 60 = .ok (.iload 4, 2) := by decide +kernel
theorem dX12_steps_62 : decode cX12_steps 62 = .ok (.iaload, 1) := by decide +kernel
theorem dX12_steps_63 : decode cX12_steps 63 = .ok (.if_icmp .ge 5, 3) := by decide +kernel
theorem dX12_steps_66 : decode cX12_steps 66 = .ok (.iconst 0, 1) := by decide +kernel
theorem dX12_steps_67 : decode cX12_steps 67 = .ok (.ireturn, 1) := by decide +kernel
theorem dX12_steps_68 : decode cX12_steps 68 = .ok (.aload_n 1, 1) := by decide +kernel
theorem dX12_steps_69 : decode cX12_steps 69 = .ok (.iload_n 3, 1) := by decide +kernel
theorem dX12_steps_70 : decode cX12_steps 70 = .ok (.iconst 2, 1) := by decide +kernel
theorem dX12_steps_71 : decode cX12_steps 71 = .ok (.iadd, 1) := by decide +kernel
theorem dX12_steps_72 : decode cX12_steps 72 = .ok (.dup2, 1) := by decide +kernel
theorem dX12_steps_73 : decode cX12_steps 73 = .ok (.iaload, 1) := by decide +kernel
theorem dX12_steps_74 : decode cX12_steps 74 = .ok (.aload_n 0, 1) := by decide +kernel
theorem dX12_steps_75 : decode cX12_steps 75 = .ok (.getfield 283, 3) := by decide +kernel
theorem dX12_steps_78 : decode cX12_steps 78 = .ok (.ifCond .eq 7, 3) := by decide +kernel
theorem dX12_steps_81 : decode cX12_steps 81 = .ok (.iconst 0, 1) := by decide +kernel
theorem dX12_steps_82 : decode cX12_steps 82 = .ok (.goto 10, 3) := by decide +kernel
theorem dX12_steps_85 : decode cX12_steps 85 = .ok (.aload_n 0, 1) := by decide +kernel
theorem dX12_steps_86 : decode cX12_steps 86 = .ok (.getfield 23, 3) := by decide +kernel
theorem dX12_steps_89 : decode cX12_steps 89 = .ok (.iload 4, 2) := by decide +kernel
theorem dX12_steps_91 : decode cX12_steps 91 = .ok (.iaload, 1) := by decide +kernel
theorem dX12_steps_92 : decode cX12_steps 92 = .ok (.isub, 1) := by decide +kernel
theorem dX12_steps_93 : decode cX12_steps 93 = .ok (.iastore, 1) := by decide +kernel
theorem dX12_steps_94 : decode cX12_steps 94 = .ok (.aload_n 0, 1) := by decide +kernel
theorem dX12_steps_95 : decode cX12_steps 95 = .ok (.getfield 13, 3) := by decide +kernel
theorem dX12_steps_98 : decode cX12_steps 98 = .ok (.iload 4, 2) := by decide +kernel
theorem dX12_steps_100 : decode cX12_steps 100 = .ok (.iaload, 1) := by decide +kernel
theorem dX12_steps_101 : decode cX12_steps 101 = .ok (.iconst 4, 1) := by decide +kernel
theorem dX12_steps_102 : decode cX12_steps 102 = .ok (.if_icmp .ne 48, 3) := by decide +kernel
theorem dX12_steps_105 : decode cX12_steps 105 = .ok (.aload_n 1, 1) := by decide +kernel
theorem dX12_steps_106 : decode cX12_steps 106 = .ok (.bipush 43, 2) := by decide +kernel
theorem dX12_steps_108 : decode cX12_steps 108 = .ok (.iaload, 1) := by decide +kernel
theorem dX12_steps_109 : decode cX12_steps 109 = .ok (.bipush 10, 2) := by decide +kernel
theorem dX12_steps_111 : decode cX12_steps 111 = .ok (.irem, 1) := by decide +kernel
theorem dX12_steps_112 : decode cX12_steps 112 = .ok (.i2l, 1) := by decide +kernel
theorem dX12_steps_113 : decode cX12_steps 113 = .ok (.aload_n 0, 1) := by decide +kernel
theorem dX12_steps_114 : decode cX12_steps 114 = .ok (.getfield 23, 3) := by decide +kernel
theorem dX12_steps_117 : decode cX12_steps 117 = .ok (.iload 4, 2) := by decide +kernel
theorem dX12_steps_119 : decode cX12_steps 119 = .ok (.iaload, 1) := by decide +kernel
theorem dX12_steps_120 : decode cX12_steps 120 = .ok (.bipush 10, 2) := by decide +kernel
theorem dX12_steps_122 : decode cX12_steps 122 = .ok (.idiv, 1) := by decide +kernel
theorem dX12_steps_123 : decode cX12_steps 123 = .ok (.i2l, 1) := by decide +kernel
theorem dX12_steps_124 : decode cX12_steps 124 = .ok (.aload_n 0, 1) := by decide +kernel
theorem dX12_steps_125 : decode cX12_steps 125 = .ok (.getfield 23, 3) := by decide +kernel
theorem dX12_steps_128 : decode cX12_steps 128 = .ok (.iload 4, 2) := by decide +kernel
theorem dX12_steps_130 : decode cX12_steps 130 = .ok (.iaload, 1) := by decide +kernel
theorem dX12_steps_131 : decode cX12_steps 131 = .ok (.bipush 10, 2) := by decide +kernel
theorem dX12_steps_133 : decode cX12_steps 133 = .ok (.irem, 1) := by decide +kernel
theorem dX12_steps_134 : decode cX12_steps 134 = .ok (.i2l, 1) := by decide +kernel
theorem dX12_steps_135 : decode cX12_steps 135 = .ok (.invokestatic 129, 3) := by decide +kernel
theorem dX12_steps_138 : decode cX12_steps 138 = .ok (.ifCond .eq 12, 3) := by decide +kernel
theorem dX12_steps_141 : decode cX12_steps 141 = .ok (.aload_n 0, 1) := by decide +kernel
theorem dX12_steps_142 : decode cX12_steps 142 = .ok (.aload_n 1, 1) := by decide +kernel
theorem dX12_steps_143 : decode cX12_steps 143 = .ok (.iload_n 2, 1) := by decide +kernel
theorem dX12_steps_144 : decode cX12_steps 144 = .ok (.iconst 2, 1) := by decide +kernel
theorem dX12_steps_145 : decode cX12_steps 145 = .ok (.invokevirtual 287, 3) := by decide +kernel
theorem dX12_steps_148 : decode cX12_steps 148 = .ok (.iconst 0, 1) := by decide +kernel
theorem dX12_steps_149 : decode cX12_steps 149 = .ok (.ireturn, 1) := by decide +kernel
theorem dX12_steps_150 : decode cX12_steps 150 = .ok (.aload_n 0, 1) := by decide +kernel
theorem dX12_steps_151 : decode cX12_steps 151 = .ok (.getfield 13, 3) := by decide +kernel
theorem dX12_steps_154 : decode cX12_steps 154 = .ok (.iload 4, 2) := by decide +kernel
theorem dX12_steps_156 : decode cX12_steps 156 = .ok (.iaload, 1) := by decide +kernel
theorem dX12_steps_157 : decode cX12_steps 157 = .ok (.iconst 1, 1) := by decide +kernel
theorem dX12_steps_158 : decode cX12_steps 158 = .ok (.if_icmp .ne 22, 3) := by decide +kernel
theorem dX12_steps_161 : decode cX12_steps 161 = .ok (.aload_n 0, 1) := by decide +kernel
theorem dX12_steps_162 : decode cX12_steps 162 = .ok (.aload_n 1, 1) := by decide +kernel
theorem dX12_steps_163 : decode cX12_steps 163 = .ok (.iload_n 2, 1) := by decide +kernel
theorem dX12_steps_164 : decode cX12_steps 164 = .ok (.invokevirtual 291, 3) := by decide +kernel
theorem dX12_steps_167 : decode cX12_steps 167 = .ok (.ifCond .eq 13, 3) := by decide +kernel
theorem dX12_steps_170 : decode cX12_steps 170 = .ok (.aload_n 0, 1) := by decide +kernel
theorem dX12_steps_171 : decode cX12_steps 171 = .ok (.getfield 20, 3) := by decide +kernel
theorem dX12_steps_174 : decode cX12_steps 174 = .ok (.iload 4, 2) := by decide +kernel
theorem dX12_steps_176 : decode cX12_steps 176 = .ok (.iaload, 1) := by decide +kernel
theorem dX12_steps_177 : decode cX12_steps 177 = .ok (.goto 10, 3) := by decide +kernel
theorem dX12_steps_180 : decode cX12_steps 180 = .ok (.aload_n 0, 1) := by decide +kernel
theorem dX12_steps_181 : decode cX12_steps 181 = .ok (.getfield 17, 3) := by decide +kernel
theorem dX12_steps_184 : decode cX12_steps 184 = .ok (.iload 4, 2) := by decide +kernel
theorem dX12_steps_186 : decode cX12_steps 186 = .ok (.iaload, 1) := by decide +kernel
theorem dX12_steps_187 : decode cX12_steps 187 = .ok (.istore 5, 2) := by decide +kernel
theorem dX12_steps_189 : decode cX12_steps 189 = .ok (.aload_n 0, 1) := by decide +kernel
theorem dX12_steps_190 : decode cX12_steps 190 = .ok (.aload_n 0, 1) := by decide +kernel
theorem dX12_steps_191 : decode cX12_steps 191 = .ok (.getfield 294, 3) := by decide +kernel
theorem dX12_steps_194 : decode cX12_steps 194 = .ok (.ifCond .ne 12, 3) := by decide +kernel
theorem dX12_steps_197 : decode cX12_steps 197 = .ok (.iload 4, 2) := by decide +kernel
theorem dX12_steps_199 : decode cX12_steps 199 = .ok (.aload_n 0, 1) := by decide +kernel
theorem dX12_steps_200 : decode cX12_steps 200 = .ok (.getfield 297, 3) := by decide +kernel
theorem dX12_steps_203 : decode cX12_steps 203 = .ok (.if_icmp .ne 7, 3) := by decide +kernel
theorem dX12_steps_206 : decode cX12_steps 206 = .ok (.iconst 1, 1) := by decide +kernel
theorem dX12_steps_207 : decode cX12_steps 207 = .ok (.goto 4, 3) := by decide +kernel
theorem dX12_steps_210 : decode cX12_steps 210 = .ok (.iconst 0, 1) := by decide +kernel
theorem dX12_steps_211 : decode cX12_steps 211 = .ok (.putfield 294, 3) := by decide +kernel
theorem dX12_steps_214 : decode cX12_steps 214 = .ok (.aload_n 1, 1) := by decide +kernel
theorem dX12_steps_215 : decode cX12_steps 215 = .ok (.iload_n 3, 1) := by decide +kernel
theorem dX12_steps_216 : decode cX12_steps 216 = .ok (.iconst 0, 1) := by decide +kernel
theorem dX12_steps_217 : decode cX12_steps 217 = .ok (.iadd, 1) := by decide +kernel
theorem dX12_steps_218 : decode cX12_steps 218 = .ok (.iload 5, 2) := by decide +kernel
theorem dX12_steps_220 : decode cX12_steps 220 = .ok (.iastore, 1) := by decide +kernel
theorem dX12_steps_221 : decode cX12_steps 221 = .ok (.aload_n 1, 1) := by decide +kernel
theorem dX12_steps_222 : decode cX12_steps 222 = .ok (.iload_n 3, 1) := by decide +kernel
theorem dX12_steps_223 : decode cX12_steps 223 = .ok (.iconst 3, 1) := by decide +kernel
theorem dX12_steps_224 : decode cX12_steps 224 = .ok (.iadd, 1) := by decide +kernel
theorem dX12_steps_225 : decode cX12_steps 225 = .ok (.dup2, 1) := by decide +kernel
theorem dX12_steps_226 : decode cX12_steps 226 = .ok (.iaload, 1) := by decide +kernel
theorem dX12_steps_227 : decode cX12_steps 227 = .ok (.iconst 1, 1) := by decide +kernel
theorem dX12_steps_228 : decode cX12_steps 228 = .ok (.iload 5, 2) := by decide +kernel
theorem dX12_steps_230 : decode cX12_steps 230 = .ok (.ishl, 1) := by decide +kernel
theorem dX12_steps_231 : decode cX12_steps 231 = .ok (.ior, 1) := by decide +kernel
theorem dX12_steps_232 : decode cX12_steps 232 = .ok (.iastore, 1) := by decide +kernel
theorem dX12_steps_233 : decode cX12_steps 233 = .ok (.aload_n 1, 1) := by decide +kernel
theorem dX12_steps_234 : decode cX12_steps 234 = .ok (.iload_n 3, 1) := by decide +kernel
theorem dX12_steps_235 : decode cX12_steps 235 = .ok (.iconst 1, 1) := by decide +kernel
theorem dX12_steps_236 : decode cX12_steps 236 = .ok (.iadd, 1) := by decide +kernel
theorem dX12_steps_237 : decode cX12_steps 237 = .ok (.dup2, 1) := by decide +kernel
theorem dX12_steps_238 : decode cX12_steps 238 = .ok (.iaload, 1) := by decide +kernel
theorem dX12_steps_239 : decode cX12_steps 239 = .ok (.aload_n 0, 1) := by decide +kernel
theorem dX12_steps_240 : decode cX12_steps 240 = .ok (.getfield 283, 3) := by decide +kernel
theorem dX12_steps_243 : decode cX12_steps 243 = .ok (.ifCond .eq 7, 3) := by decide +kernel
theorem dX12_steps_246 : decode cX12_steps 246 = .ok (.iconst 0, 1) := by decide +kernel
theorem dX12_steps_247 : decode cX12_steps 247 = .ok (.goto 27, 3) := by decide +kernel
theorem dX12_steps_250 : decode cX12_steps 250 = .ok (.iconst 1, 1) := by decide +kernel
theorem dX12_steps_251 : decode cX12_steps 251 = .ok (.aload_n 0, 1) := by decide +kernel
theorem dX12_steps_252 : decode cX12_steps 252 = .ok (.getfield 13, 3) := by decide +kernel
theorem dX12_steps_255 : decode cX12_steps 255 = .ok (.iload 4, 2) := by decide +kernel
theorem dX12_steps_257 : decode cX12_steps 257 = .ok (.iaload, 1) := by decide +kernel
theorem dX12_steps_258 : decode cX12_steps 258 = .ok (.iconst 2, 1) := by decide +kernel
theorem dX12_steps_259 : decode cX12_steps 259 = .ok (.if_icmp .ne 13, 3) := by decide +kernel
theorem dX12_steps_262 : decode cX12_steps 262 = .ok (.aload_n 0, 1) := by decide +kernel
theorem dX12_steps_263 : decode cX12_steps 263 = .ok (.getfield 23, 3) := by decide +kernel
theorem dX12_steps_266 : decode cX12_steps 266 = .ok (.iload 4, 2) := by decide +kernel
theorem dX12_steps_268 : decode cX12_steps 268 = .ok (.iaload, 1) := by decide +kernel
theorem dX12_steps_269 : decode cX12_steps 269 = .ok (.goto 4, 3) := by decide +kernel
theorem dX12_steps_272 : decode cX12_steps 272 = .ok (.iconst 0, 1) := by decide +kernel
theorem dX12_steps_273 : decode cX12_steps 273 = .ok (.iadd, 1) := by decide +kernel
theorem dX12_steps_274 : decode cX12_steps 274 = .ok (.isub, 1) := by decide +kernel
theorem dX12_steps_275 : decode cX12_steps 275 = .ok (.iastore, 1) := by decide +kernel
theorem dX12_steps_276 : decode cX12_steps 276 = .ok (.aload_n 1, 1) := by decide +kernel
theorem dX12_steps_277 : decode cX12_steps 277 = .ok (.iload_n 3, 1) := by decide +kernel
theorem dX12_steps_278 : decode cX12_steps 278 = .ok (.iconst 1, 1) := by decide +kernel
theorem dX12_steps_279 : decode cX12_steps 279 = .ok (.iadd, 1) := by decide +kernel
theorem dX12_steps_280 : decode cX12_steps 280 = .ok (.iaload, 1) := by decide +kernel
theorem dX12_steps_281 : decode cX12_steps 281 = .ok (.ifCond .ge 19, 3) := by decide +kernel
theorem dX12_steps_284 : decode cX12_steps 284 = .ok (.aload_n 1, 1) := by decide +kernel
theorem dX12_steps_285 : decode cX12_steps 285 = .ok (.iload_n 3, 1) := by decide +kernel
theorem dX12_steps_286 : decode cX12_steps 286 = .ok (.iconst 1, 1) := by decide +kernel
theorem dX12_steps_287 : decode cX12_steps 287 = .ok (.iadd, 1) := by decide +kernel
theorem dX12_steps_288 : decode cX12_steps 288 = .ok (.iconst 0, 1) := by decide +kernel
theorem dX12_steps_289 : decode cX12_steps 289 = .ok (.iastore, 1) := by decide +kernel
theorem dX12_steps_290 : decode cX12_steps 290 = .ok (.aload_n 0, 1) := by decide +kernel
theorem dX12_steps_291 : decode cX12_steps 291 = .ok (.aload_n 1, 1) := by decide +kernel
theorem dX12_steps_292 : decode cX12_steps 292 = .ok (.iload_n 2, 1) := by decide +kernel
theorem dX12_steps_293 : decode cX12_steps 293 = .ok (.iconst 2, 1) := by decide +kernel
theorem dX12_steps_294 : decode cX12_steps 294 = .ok (.invokevirtual 287, 3) := by decide +kernel
theorem dX12_steps_297 : decode cX12_steps 297 = .ok (.goto 22, 3) := by decide +kernel
theorem dX12_steps_300 : decode cX12_steps 300 = .ok (.aload_n 0, 1) := by decide +kernel
theorem dX12_steps_301 : decode cX12_steps 301 = .ok (.getfield 13, 3) := by decide +kernel
theorem dX12_steps_304 : decode cX12_steps 304 = .ok (.iload 5, 2) := by decide +kernel
theorem dX12_steps_306 : decode cX12_steps 306 = .ok (.iaload, 1) := by decide +kernel
theorem dX12_steps_307 : decode cX12_steps 307 = .ok (.bipush 6, 2) := by decide +kernel
theorem dX12_steps_309 : decode cX12_steps 309 = .ok (.if_icmp .ne 10, 3) := by decide +kernel
theorem dX12_steps_312 : decode cX12_steps 312 = .ok (.aload_n 0, 1) := by decide +kernel
theorem dX12_steps_313 : decode cX12_steps 313 = .ok (.aload_n 1, 1) := by decide +kernel
theorem dX12_steps_314 : decode cX12_steps 314 = .ok (.iload_n 2, 1) := by decide +kernel
theorem dX12_steps_315 : decode cX12_steps 315 = .ok (.iconst 1, 1) := by decide +kernel
theorem dX12_steps_316 : decode cX12_steps 316 = .ok (.invokevirtual 287, 3) := by decide +kernel
theorem dX12_steps_319 : decode cX12_steps 319 = .ok (.aload_n 1, 1) := by decide +kernel
theorem dX12_steps_320 : decode cX12_steps 320 = .ok (.iload_n 3, 1) := by decide +kernel
theorem dX12_steps_321 : decode cX12_steps 321 = .ok (.iconst 4, 1) := by decide +kernel
theorem dX12_steps_322 : decode cX12_steps 322 = .ok (.iadd, 1) := by decide +kernel
theorem dX12_steps_323 : decode cX12_steps 323 = .ok (.iaload, 1) := by decide +kernel
theorem dX12_steps_324 : decode cX12_steps 324 = .ok (.ifCond .ne 7, 3) := by decide +kernel
theorem dX12_steps_327 : decode cX12_steps 327 = .ok (.iconst 1, 1) := by decide +kernel
theorem dX12_steps_328 : decode cX12_steps 328 = .ok (.goto 4, 3) := by decide +kernel
theorem dX12_steps_331 : decode cX12_steps 331 = .ok (.iconst 0, 1) := by decide +kernel
theorem dX12_steps_332 : decode cX12_steps 332 = .ok (.ireturn, 1) := by decide +kernel
theorem dX12_thinksNow_0 : decode cX12_thinksNow 0 = .ok (.aload_n 0, 1) := by decide +kernel
theorem dX12_thinksNow_1 : decode cX12_thinksNow 1 = .ok (.aload_n 0, 1) := by decide +kernel
theorem dX12_thinksNow_2 : decode cX12_thinksNow 2 = .ok (.getfield 29, 3) := by decide +kernel
theorem dX12_thinksNow_5 : decode cX12_thinksNow 5 = .ok (.bipush 42, 2) := by decide +kernel
theorem dX12_thinksNow_7 : decode cX12_thinksNow 7 = .ok (.iaload, 1) := by decide +kernel
theorem dX12_thinksNow_8 : decode cX12_thinksNow 8 = .ok (.putfield 389, 3) := by decide +kernel
theorem dX12_thinksNow_11 : decode cX12_thinksNow 11 = .ok (.aload_n 0, 1) := by decide +kernel
theorem dX12_thinksNow_12 : decode cX12_thinksNow 12 = .ok (.aload_n 0, 1) := by decide +kernel
theorem dX12_thinksNow_13 : decode cX12_thinksNow 13 = .ok (.getfield 29, 3) := by decide +kernel
theorem dX12_thinksNow_16 : decode cX12_thinksNow 16 = .ok (.bipush 43, 2) := by decide +kernel
theorem dX12_thinksNow_18 : decode cX12_thinksNow 18 = .ok (.iaload, 1) := by decide +kernel
theorem dX12_thinksNow_19 : decode cX12_thinksNow 19 = .ok (.putfield 392, 3) := by decide +kernel
theorem dX12_thinksNow_22 : decode cX12_thinksNow 22 = .ok (.return_, 1) := by decide +kernel
theorem dX12_waterIn_0 : decode cX12_waterIn 0 = .ok (.iload_n 1, 1) := by decide +kernel
theorem dX12_waterIn_1 : decode cX12_waterIn 1 = .ok (.bipush 10, 2) := by decide +kernel
theorem dX12_waterIn_3 : decode cX12_waterIn 3 = .ok (.idiv, 1) := by decide +kernel
theorem dX12_waterIn_4 : decode cX12_waterIn 4 = .ok (.istore_n 2, 1) := by decide +kernel
theorem dX12_waterIn_5 : decode cX12_waterIn 5 = .ok (.aload_n 0, 1) := by decide +kernel
theorem dX12_waterIn_6 : decode cX12_waterIn 6 = .ok (.getfield 225, 3) := by decide +kernel
theorem dX12_waterIn_9 : decode cX12_waterIn 9 = .ok (.ifCond .ne 7, 3) := by decide +kernel
theorem dX12_waterIn_12 : decode cX12_waterIn 12 = .ok (.iconst 1, 1) := by decide +kernel
theorem dX12_waterIn_13 : decode cX12_waterIn 13 = .ok (.goto 14, 3) := by decide +kernel
theorem dX12_waterIn_16 : decode cX12_waterIn 16 = .ok (.aload_n 0, 1) := by decide +kernel
theorem dX12_waterIn_17 : decode cX12_waterIn 17 = .ok (.getfield 26, 3) := by decide +kernel
theorem dX12_waterIn_20 : decode cX12_waterIn 20 = .ok (.iload_n 2, 1) := by decide +kernel
theorem dX12_waterIn_21 : decode cX12_waterIn 21 = .ok (.aload_n 0, 1) := by decide +kernel
theorem dX12_waterIn_22 : decode cX12_waterIn 22 = .ok (.getfield 225, 3) := by decide +kernel
theorem dX12_waterIn_25 : decode cX12_waterIn 25 = .ok (.irem, 1) := by decide +kernel
theorem dX12_waterIn_26 : decode cX12_waterIn 26 = .ok (.iaload, 1) := by decide +kernel
theorem dX12_waterIn_27 : decode cX12_waterIn 27 = .ok (.istore_n 3, 1) := by decide +kernel
theorem dX12_waterIn_28 : decode cX12_waterIn 28 = .ok (.iload_n 2, 1) := by decide +kernel
theorem dX12_waterIn_29 : decode cX12_waterIn 29 = .ok (.aload_n 0, 1) := by decide +kernel
theorem dX12_waterIn_30 : decode cX12_waterIn 30 = .ok (.getfield 255, 3) := by decide +kernel
theorem dX12_waterIn_33 : decode cX12_waterIn 33 = .ok (.if_icmp .lt 38, 3) := by decide +kernel
theorem dX12_waterIn_36 : decode cX12_waterIn 36 = .ok (.iload_n 2, 1) := by decide +kernel
theorem dX12_waterIn_37 : decode cX12_waterIn 37 = .ok (.aload_n 0, 1) := by decide +kernel
theorem dX12_waterIn_38 : decode cX12_waterIn 38 = .ok (.getfield 255, 3) := by decide +kernel
theorem dX12_waterIn_41 : decode cX12_waterIn 41 = .ok (.isub, 1) := by decide +kernel
theorem dX12_waterIn_42 : decode cX12_waterIn 42 = .ok (.bipush 8, 2) := by decide +kernel
theorem dX12_waterIn_44 : decode cX12_waterIn 44 = .ok (.if_icmp .ge 27, 3) := by decide +kernel
theorem dX12_waterIn_47 : decode cX12_waterIn 47 = .ok (.aload_n 0, 1) := by decide +kernel
theorem dX12_waterIn_48 : decode cX12_waterIn 48 = .ok (.getfield 258, 3) := by decide +kernel
theorem dX12_waterIn_51 : decode cX12_waterIn 51 = .ok (.iconst 0, 1) := by decide +kernel
theorem dX12_waterIn_52 : decode cX12_waterIn 52 = .ok (.iload_n 2, 1) := by decide +kernel
theorem dX12_waterIn_53 : decode cX12_waterIn 53 = .ok (.aload_n 0, 1) := by decide +kernel
theorem dX12_waterIn_54 : decode cX12_waterIn 54 = .ok (.getfield 255, 3) := by decide +kernel
theorem dX12_waterIn_57 : decode cX12_waterIn 57 = .ok (.isub, 1) := by decide +kernel
theorem dX12_waterIn_58 : decode cX12_waterIn 58 = .ok (.invokestatic 261, 3) := by decide +kernel
theorem dX12_waterIn_61 : decode cX12_waterIn 61 = .ok (.invokestatic 264, 3) := by decide +kernel
theorem dX12_waterIn_64 : decode cX12_waterIn 64 = .ok (.ifCond .eq 7, 3) := by decide +kernel
theorem dX12_waterIn_67 : decode cX12_waterIn 67 = .ok (.iconst 1, 1) := by decide +kernel
theorem dX12_waterIn_68 : decode cX12_waterIn 68 = .ok (.goto 4, 3) := by decide +kernel
theorem dX12_waterIn_71 : decode cX12_waterIn 71 = .ok (.iconst 0, 1) := by decide +kernel
theorem dX12_waterIn_72 : decode cX12_waterIn 72 = .ok (.istore 4, 2) := by decide +kernel
theorem dX12_waterIn_74 : decode cX12_waterIn 74 = .ok (.iload 4, 2) := by decide +kernel
theorem dX12_waterIn_76 : decode cX12_waterIn 76 = .ok (.ifCond .eq 13, 3) := by decide +kernel
theorem dX12_waterIn_79 : decode cX12_waterIn 79 = .ok (.iconst 3, 1) := by decide +kernel
theorem dX12_waterIn_80 : decode cX12_waterIn 80 = .ok (.iload_n 3, 1) := by decide +kernel
theorem dX12_waterIn_81 : decode cX12_waterIn 81 = .ok (.iconst 1, 1) := by decide +kernel
theorem dX12_waterIn_82 : decode cX12_waterIn 82 = .ok (.iadd, 1) := by decide +kernel
theorem dX12_waterIn_83 : decode cX12_waterIn 83 = .ok (.invokestatic 146, 3) := by decide +kernel
theorem dX12_waterIn_86 : decode cX12_waterIn 86 = .ok (.goto 4, 3) := by decide +kernel
theorem dX12_waterIn_89 : decode cX12_waterIn 89 = .ok (.iload_n 3, 1) := by decide +kernel
theorem dX12_waterIn_90 : decode cX12_waterIn 90 = .ok (.ireturn, 1) := by decide +kernel
theorem dX12_worked_0 : decode cX12_worked 0 = .ok (.iload_n 0, 1) := by decide +kernel
theorem dX12_worked_1 : decode cX12_worked 1 = .ok (.tableswitch 93 0 5 #[39, 53, 67, 81, 85, 89], 39) := by decide +kernel
theorem dX12_worked_40 : decode cX12_worked 40 = .ok (.iload_n 1, 1) := by decide +kernel
theorem dX12_worked_41 : decode cX12_worked 41 = .ok (.iload_n 2, 1) := by decide +kernel
theorem dX12_worked_42 : decode cX12_worked 42 = .ok (.if_icmp .ge 7, 3) := by decide +kernel
theorem dX12_worked_45 : decode cX12_worked 45 = .ok (.iconst 1, 1) := by decide +kernel
theorem dX12_worked_46 : decode cX12_worked 46 = .ok (.goto 4, 3) := by decide +kernel
theorem dX12_worked_49 : decode cX12_worked 49 = .ok (.iconst 0, 1) := by decide +kernel
theorem dX12_worked_50 : decode cX12_worked 50 = .ok (.invokestatic 155, 3) := by decide +kernel
theorem dX12_worked_53 : decode cX12_worked 53 = .ok (.ireturn, 1) := by decide +kernel
theorem dX12_worked_54 : decode cX12_worked 54 = .ok (.iload_n 1, 1) := by decide +kernel
theorem dX12_worked_55 : decode cX12_worked 55 = .ok (.iload_n 2, 1) := by decide +kernel
theorem dX12_worked_56 : decode cX12_worked 56 = .ok (.if_icmp .le 7, 3) := by decide +kernel
theorem dX12_worked_59 : decode cX12_worked 59 = .ok (.iconst 1, 1) := by decide +kernel
theorem dX12_worked_60 : decode cX12_worked 60 = .ok (.goto 4, 3) := by decide +kernel
theorem dX12_worked_63 : decode cX12_worked 63 = .ok (.iconst 0, 1) := by decide +kernel
theorem dX12_worked_64 : decode cX12_worked 64 = .ok (.invokestatic 155, 3) := by decide +kernel
theorem dX12_worked_67 : decode cX12_worked 67 = .ok (.ireturn, 1) := by decide +kernel
theorem dX12_worked_68 : decode cX12_worked 68 = .ok (.iload_n 1, 1) := by decide +kernel
theorem dX12_worked_69 : decode cX12_worked 69 = .ok (.iload_n 2, 1) := by decide +kernel
theorem dX12_worked_70 : decode cX12_worked 70 = .ok (.if_icmp .ne 7, 3) := by decide +kernel
theorem dX12_worked_73 : decode cX12_worked 73 = .ok (.iconst 1, 1) := by decide +kernel
theorem dX12_worked_74 : decode cX12_worked 74 = .ok (.goto 4, 3) := by decide +kernel
theorem dX12_worked_77 : decode cX12_worked 77 = .ok (.iconst 0, 1) := by decide +kernel
theorem dX12_worked_78 : decode cX12_worked 78 = .ok (.invokestatic 155, 3) := by decide +kernel
theorem dX12_worked_81 : decode cX12_worked 81 = .ok (.ireturn, 1) := by decide +kernel
theorem dX12_worked_82 : decode cX12_worked 82 = .ok (.iload_n 1, 1) := by decide +kernel
theorem dX12_worked_83 : decode cX12_worked 83 = .ok (.iload_n 2, 1) := by decide +kernel
theorem dX12_worked_84 : decode cX12_worked 84 = .ok (.iadd, 1) := by decide +kernel
theorem dX12_worked_85 : decode cX12_worked 85 = .ok (.ireturn, 1) := by decide +kernel
theorem dX12_worked_86 : decode cX12_worked 86 = .ok (.iload_n 1, 1) := by decide +kernel
theorem dX12_worked_87 : decode cX12_worked 87 = .ok (.iload_n 2, 1) := by decide +kernel
theorem dX12_worked_88 : decode cX12_worked 88 = .ok (.isub, 1) := by decide +kernel
theorem dX12_worked_89 : decode cX12_worked 89 = .ok (.ireturn, 1) := by decide +kernel
theorem dX12_worked_90 : decode cX12_worked 90 = .ok (.iload_n 1, 1) := by decide +kernel
theorem dX12_worked_91 : decode cX12_worked 91 = .ok (.iload_n 2, 1) := by decide +kernel
theorem dX12_worked_92 : decode cX12_worked 92 = .ok (.imul, 1) := by decide +kernel
theorem dX12_worked_93 : decode cX12_worked 93 = .ok (.ireturn, 1) := by decide +kernel
theorem dX12_worked_94 : decode cX12_worked 94 = .ok (.iload_n 2, 1) := by decide +kernel
theorem dX12_worked_95 : decode cX12_worked 95 = .ok (.ifCond .ne 7, 3) := by decide +kernel
theorem dX12_worked_98 : decode cX12_worked 98 = .ok (.iconst 0, 1) := by decide +kernel
theorem dX12_worked_99 : decode cX12_worked 99 = .ok (.goto 6, 3) := by decide +kernel
theorem dX12_worked_102 : decode cX12_worked 102 = .ok (.iload_n 1, 1) := by decide +kernel
theorem dX12_worked_103 : decode cX12_worked 103 = .ok (.iload_n 2, 1) := by decide +kernel
theorem dX12_worked_104 : decode cX12_worked 104 = .ok (.idiv, 1) := by decide +kernel
theorem dX12_worked_105 : decode cX12_worked 105 = .ok (.ireturn, 1) := by decide +kernel
