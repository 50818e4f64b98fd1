theorem mw_41 : (Cond.selects RX12 yX12_begins yX12_begins) ∈ gx_G := gx_mem 41 (by decide +kernel) (by decide +kernel)
theorem mw_44 : (Cond.selects RX12 yX12_among yX12_among) ∈ gx_G := gx_mem 44 (by decide +kernel) (by decide +kernel)
theorem mw_47 : (Cond.selects RX12 yX12_faultOf yX12_faultOf) ∈ gx_G := gx_mem 47 (by decide +kernel) (by decide +kernel)
theorem mw_53 : (Cond.selects RX12 yX12_isPlace yX12_isPlace) ∈ gx_G := gx_mem 53 (by decide +kernel) (by decide +kernel)
theorem mw_54 : (Cond.selects RX12 yX12_refuse yX12_refuse) ∈ gx_G := gx_mem 54 (by decide +kernel) (by decide +kernel)
theorem mw_55 : (Cond.selects RX12 yX12_isThing yX12_isThing) ∈ gx_G := gx_mem 55 (by decide +kernel) (by decide +kernel)
theorem mw_56 : (Cond.selects RX12 yX12_waterIn yX12_waterIn) ∈ gx_G := gx_mem 56 (by decide +kernel) (by decide +kernel)
theorem mw_57 : (Cond.selects RX12 yX12_isFork yX12_isFork) ∈ gx_G := gx_mem 57 (by decide +kernel) (by decide +kernel)
theorem mw_58 : (Cond.selects RX12 yX12_putsBy yX12_putsBy) ∈ gx_G := gx_mem 58 (by decide +kernel) (by decide +kernel)
theorem mw_59 : (Cond.selects RX12 yX12_adds yX12_adds) ∈ gx_G := gx_mem 59 (by decide +kernel) (by decide +kernel)
theorem mw_60 : (Cond.selects RX12 yX12_comesNow yX12_comesNow) ∈ gx_G := gx_mem 60 (by decide +kernel) (by decide +kernel)
theorem mw_61 : (Cond.selects RX12 yX12_canPut yX12_canPut) ∈ gx_G := gx_mem 61 (by decide +kernel) (by decide +kernel)
theorem mw_63 : (Cond.selects RX12 yX12_gives yX12_gives) ∈ gx_G := gx_mem 63 (by decide +kernel) (by decide +kernel)
theorem mw_64 : (Cond.selects RX12 yX12_minuteGoes yX12_minuteGoes) ∈ gx_G := gx_mem 64 (by decide +kernel) (by decide +kernel)
theorem mw_69 : (Cond.selects RX12 yX12_enters yX12_enters) ∈ gx_G := gx_mem 69 (by decide +kernel) (by decide +kernel)
theorem mw_72 : (Cond.selects RX12 yX12_goesOn yX12_goesOn) ∈ gx_G := gx_mem 72 (by decide +kernel) (by decide +kernel)
theorem mw_74 : (Cond.selects RX12 yX12_canSail yX12_canSail) ∈ gx_G := gx_mem 74 (by decide +kernel) (by decide +kernel)
theorem mw_76 : (Cond.selects RX12 yX12_thinksNow yX12_thinksNow) ∈ gx_G := gx_mem 76 (by decide +kernel) (by decide +kernel)
theorem mw_80 : (Cond.selects RX12 yX12_saves yX12_saves) ∈ gx_G := gx_mem 80 (by decide +kernel) (by decide +kernel)
theorem mw_81 : (Cond.selects RX12 yX12_forks yX12_forks) ∈ gx_G := gx_mem 81 (by decide +kernel) (by decide +kernel)
theorem mw_82 : (Cond.selects RX12 yX12_savedAfter yX12_savedAfter) ∈ gx_G := gx_mem 82 (by decide +kernel) (by decide +kernel)
theorem mw_85 : (Cond.selects RX12 yX12_laysFits yX12_laysFits) ∈ gx_G := gx_mem 85 (by decide +kernel) (by decide +kernel)
theorem mw_101 : (Cond.initialized RX12) ∈ gx_G := gx_mem 101 (by decide +kernel) (by decide +kernel)
theorem mw_103 : (Cond.initialized RJ0) ∈ gx_G := gx_mem 103 (by decide +kernel) (by decide +kernel)
theorem mw_560 : (Cond.fieldLink RJ0 38 "java/lang/String" "COMPACT_STRINGS" "Z") ∈ gx_G := gx_mem 560 (by decide +kernel) (by decide +kernel)
theorem mw_563 : (Cond.instanceMethod yJ0_length_8abf5) ∈ gx_G := gx_mem 563 (by decide +kernel) (by decide +kernel)
theorem mw_564 : (Cond.selects RJ0 yJ0_length_8abf5 yJ0_length_8abf5) ∈ gx_G := gx_mem 564 (by decide +kernel) (by decide +kernel)
theorem mw_565 : (Cond.code yJ0_length_8abf5 cJ0_length_8abf5 1 (some .int)) ∈ gx_G := gx_mem 565 (by decide +kernel) (by decide +kernel)
theorem mw_566 : (Cond.methodLink RJ0 335 yJ0_coder_7d493) ∈ gx_G := gx_mem 566 (by decide +kernel) (by decide +kernel)
theorem mw_567 : (Cond.instanceMethod yJ0_coder_7d493) ∈ gx_G := gx_mem 567 (by decide +kernel) (by decide +kernel)
theorem mw_568 : (Cond.selects RJ0 yJ0_coder_7d493 yJ0_coder_7d493) ∈ gx_G := gx_mem 568 (by decide +kernel) (by decide +kernel)
theorem mw_569 : (Cond.code yJ0_coder_7d493 cJ0_coder_7d493 1 (some .byte)) ∈ gx_G := gx_mem 569 (by decide +kernel) (by decide +kernel)
theorem mw_1414 : (Cond.fieldLink RX12 111 "DownTheGutterModel" "thrown" "I") ∈ gx_G := gx_mem 1414 (by decide +kernel) (by decide +kernel)
theorem mw_1415 : (Cond.fieldLink RX12 119 "DownTheGutterModel" "rows" "I") ∈ gx_G := gx_mem 1415 (by decide +kernel) (by decide +kernel)
theorem mw_1416 : (Cond.fieldLink RX12 9 "DownTheGutterModel" "row" "[J") ∈ gx_G := gx_mem 1416 (by decide +kernel) (by decide +kernel)
theorem mw_1417 : (Cond.fieldLink RX12 126 "DownTheGutterModel" "places" "I") ∈ gx_G := gx_mem 1417 (by decide +kernel) (by decide +kernel)
theorem mw_1418 : (Cond.fieldLink RX12 225 "DownTheGutterModel" "waterLong" "I") ∈ gx_G := gx_mem 1418 (by decide +kernel) (by decide +kernel)
theorem mw_1424 : (Cond.fieldLink RX12 29 "DownTheGutterModel" "now" "[I") ∈ gx_G := gx_mem 1424 (by decide +kernel) (by decide +kernel)
theorem mw_1425 : (Cond.fieldLink RX12 32 "DownTheGutterModel" "then" "[I") ∈ gx_G := gx_mem 1425 (by decide +kernel) (by decide +kernel)
theorem mw_1426 : (Cond.fieldLink RX12 35 "DownTheGutterModel" "tape" "[I") ∈ gx_G := gx_mem 1426 (by decide +kernel) (by decide +kernel)
theorem mw_1427 : (Cond.fieldLink RX12 137 "DownTheGutterModel" "taped" "I") ∈ gx_G := gx_mem 1427 (by decide +kernel) (by decide +kernel)
theorem mw_1428 : (Cond.fieldLink RX12 140 "DownTheGutterModel" "at" "I") ∈ gx_G := gx_mem 1428 (by decide +kernel) (by decide +kernel)
theorem mw_1429 : (Cond.fieldLink RX12 152 "DownTheGutterModel" "to" "I") ∈ gx_G := gx_mem 1429 (by decide +kernel) (by decide +kernel)
theorem mw_1430 : (Cond.fieldLink RX12 143 "DownTheGutterModel" "nest" "I") ∈ gx_G := gx_mem 1430 (by decide +kernel) (by decide +kernel)
theorem mw_1435 : (Cond.fieldLink RX12 189 "DownTheGutterModel" "readMany" "I") ∈ gx_G := gx_mem 1435 (by decide +kernel) (by decide +kernel)
theorem mw_1438 : (Cond.fieldLink RX12 186 "DownTheGutterModel" "meantMany" "I") ∈ gx_G := gx_mem 1438 (by decide +kernel) (by decide +kernel)
theorem mw_1442 : (Cond.fieldLink RX12 252 "DownTheGutterModel" "codeLong" "I") ∈ gx_G := gx_mem 1442 (by decide +kernel) (by decide +kernel)
theorem mw_1443 : (Cond.fieldLink RX12 228 "DownTheGutterModel" "readLong" "I") ∈ gx_G := gx_mem 1443 (by decide +kernel) (by decide +kernel)
theorem mw_1445 : (Cond.fieldLink RX12 258 "DownTheGutterModel" "rains" "I") ∈ gx_G := gx_mem 1445 (by decide +kernel) (by decide +kernel)
theorem mw_1446 : (Cond.fieldLink RX12 255 "DownTheGutterModel" "rainsFrom" "I") ∈ gx_G := gx_mem 1446 (by decide +kernel) (by decide +kernel)
theorem mw_1450 : (Cond.fieldLink RX12 220 "DownTheGutterModel" "undos" "I") ∈ gx_G := gx_mem 1450 (by decide +kernel) (by decide +kernel)
theorem mw_1451 : (Cond.fieldLink RX12 68 "DownTheGutterModel" "undone" "[I") ∈ gx_G := gx_mem 1451 (by decide +kernel) (by decide +kernel)
theorem mw_1456 : (Cond.fieldLink RX12 358 "DownTheGutterModel" "acts" "I") ∈ gx_G := gx_mem 1456 (by decide +kernel) (by decide +kernel)
theorem mw_1457 : (Cond.fieldLink RX12 365 "DownTheGutterModel" "cameHome" "I") ∈ gx_G := gx_mem 1457 (by decide +kernel) (by decide +kernel)
theorem mw_1459 : (Cond.fieldLink RX12 389 "DownTheGutterModel" "soloPlanks" "I") ∈ gx_G := gx_mem 1459 (by decide +kernel) (by decide +kernel)
theorem mw_1460 : (Cond.fieldLink RX12 392 "DownTheGutterModel" "soloNow" "I") ∈ gx_G := gx_mem 1460 (by decide +kernel) (by decide +kernel)
theorem mw_1466 : (Cond.fieldLink RX12 217 "DownTheGutterModel" "corks" "I") ∈ gx_G := gx_mem 1466 (by decide +kernel) (by decide +kernel)
theorem mw_1470 : (Cond.fieldLink RX12 98 "DownTheGutterModel" "fits" "[Z") ∈ gx_G := gx_mem 1470 (by decide +kernel) (by decide +kernel)
theorem mw_1472 : (Cond.fieldLink RX12 105 "DownTheGutterModel" "isKept" "[Z") ∈ gx_G := gx_mem 1472 (by decide +kernel) (by decide +kernel)
theorem mw_1473 : (Cond.fieldLink RX12 108 "DownTheGutterModel" "kept" "[I") ∈ gx_G := gx_mem 1473 (by decide +kernel) (by decide +kernel)
theorem mw_1607 : (Cond.methodLink RX12 129 yX12_in) ∈ gx_G := gx_mem 1607 (by decide +kernel) (by decide +kernel)
theorem mw_1608 : (Cond.static yX12_in) ∈ gx_G := gx_mem 1608 (by decide +kernel) (by decide +kernel)
theorem mw_1609 : (Cond.code yX12_in cX12_in 6 (some .boolean)) ∈ gx_G := gx_mem 1609 (by decide +kernel) (by decide +kernel)
theorem mw_1614 : (Cond.methodLink RX12 203 yX12_begins) ∈ gx_G := gx_mem 1614 (by decide +kernel) (by decide +kernel)
theorem mw_1616 : (Cond.instanceMethod yX12_begins) ∈ gx_G := gx_mem 1616 (by decide +kernel) (by decide +kernel)
theorem mw_1617 : (Cond.code yX12_begins cX12_begins 3 (some .int)) ∈ gx_G := gx_mem 1617 (by decide +kernel) (by decide +kernel)
theorem mw_1618 : (Cond.methodLink RX12 146 Lib.Math.min.name) ∈ gx_G := gx_mem 1618 (by decide +kernel) (by decide +kernel)
theorem mw_1628 : (Cond.methodLink RX12 173 yX12_among) ∈ gx_G := gx_mem 1628 (by decide +kernel) (by decide +kernel)
theorem mw_1630 : (Cond.instanceMethod yX12_among) ∈ gx_G := gx_mem 1630 (by decide +kernel) (by decide +kernel)
theorem mw_1631 : (Cond.code yX12_among cX12_among 3 (some .int)) ∈ gx_G := gx_mem 1631 (by decide +kernel) (by decide +kernel)
theorem mw_1632 : (Cond.methodLink RX12 163 yJ0_length_8abf5) ∈ gx_G := gx_mem 1632 (by decide +kernel) (by decide +kernel)
theorem mw_1653 : (Cond.methodLink RX12 155 yX12_flag) ∈ gx_G := gx_mem 1653 (by decide +kernel) (by decide +kernel)
theorem mw_1654 : (Cond.static yX12_flag) ∈ gx_G := gx_mem 1654 (by decide +kernel) (by decide +kernel)
theorem mw_1655 : (Cond.code yX12_flag cX12_flag 1 (some .int)) ∈ gx_G := gx_mem 1655 (by decide +kernel) (by decide +kernel)
theorem mw_1701 : (Cond.fieldLink RJ0 9 "java/lang/String" "value" "[B") ∈ gx_G := gx_mem 1701 (by decide +kernel) (by decide +kernel)
theorem mw_1702 : (Cond.fieldLink RJ0 15 "java/lang/String" "coder" "B") ∈ gx_G := gx_mem 1702 (by decide +kernel) (by decide +kernel)
theorem mw_1746 : (Cond.methodLink RX12 213 yX12_faultOf) ∈ gx_G := gx_mem 1746 (by decide +kernel) (by decide +kernel)
theorem mw_1748 : (Cond.instanceMethod yX12_faultOf) ∈ gx_G := gx_mem 1748 (by decide +kernel) (by decide +kernel)
theorem mw_1749 : (Cond.code yX12_faultOf cX12_faultOf 5 (some .int)) ∈ gx_G := gx_mem 1749 (by decide +kernel) (by decide +kernel)
theorem mw_1789 : (Cond.methodLink RX12 133 yX12_isPlace) ∈ gx_G := gx_mem 1789 (by decide +kernel) (by decide +kernel)
theorem mw_1791 : (Cond.instanceMethod yX12_isPlace) ∈ gx_G := gx_mem 1791 (by decide +kernel) (by decide +kernel)
theorem mw_1792 : (Cond.code yX12_isPlace cX12_isPlace 2 (some .boolean)) ∈ gx_G := gx_mem 1792 (by decide +kernel) (by decide +kernel)
theorem mw_1794 : (Cond.methodLink RX12 306 yX12_refuse) ∈ gx_G := gx_mem 1794 (by decide +kernel) (by decide +kernel)
theorem mw_1796 : (Cond.instanceMethod yX12_refuse) ∈ gx_G := gx_mem 1796 (by decide +kernel) (by decide +kernel)
theorem mw_1797 : (Cond.code yX12_refuse cX12_refuse 1 (some .int)) ∈ gx_G := gx_mem 1797 (by decide +kernel) (by decide +kernel)
theorem mw_1802 : (Cond.methodLink RX12 309 yX12_isThing) ∈ gx_G := gx_mem 1802 (by decide +kernel) (by decide +kernel)
theorem mw_1804 : (Cond.instanceMethod yX12_isThing) ∈ gx_G := gx_mem 1804 (by decide +kernel) (by decide +kernel)
theorem mw_1805 : (Cond.code yX12_isThing cX12_isThing 2 (some .boolean)) ∈ gx_G := gx_mem 1805 (by decide +kernel) (by decide +kernel)
theorem mw_1807 : (Cond.methodLink RX12 261 Lib.Math.max.name) ∈ gx_G := gx_mem 1807 (by decide +kernel) (by decide +kernel)
theorem mw_1812 : (Cond.constantLong RX12 314 (9999)) ∈ gx_G := gx_mem 1812 (by decide +kernel) (by decide +kernel)
theorem mw_1813 : (Cond.methodLink RX12 268 yX12_waterIn) ∈ gx_G := gx_mem 1813 (by decide +kernel) (by decide +kernel)
theorem mw_1815 : (Cond.instanceMethod yX12_waterIn) ∈ gx_G := gx_mem 1815 (by decide +kernel) (by decide +kernel)
theorem mw_1816 : (Cond.code yX12_waterIn cX12_waterIn 5 (some .int)) ∈ gx_G := gx_mem 1816 (by decide +kernel) (by decide +kernel)
theorem mw_1817 : (Cond.methodLink RX12 264 yX12_has) ∈ gx_G := gx_mem 1817 (by decide +kernel) (by decide +kernel)
theorem mw_1818 : (Cond.static yX12_has) ∈ gx_G := gx_mem 1818 (by decide +kernel) (by decide +kernel)
theorem mw_1819 : (Cond.code yX12_has cX12_has 2 (some .boolean)) ∈ gx_G := gx_mem 1819 (by decide +kernel) (by decide +kernel)
theorem mw_1828 : (Cond.methodLink RX12 316 yX12_isFork) ∈ gx_G := gx_mem 1828 (by decide +kernel) (by decide +kernel)
theorem mw_1830 : (Cond.instanceMethod yX12_isFork) ∈ gx_G := gx_mem 1830 (by decide +kernel) (by decide +kernel)
theorem mw_1831 : (Cond.code yX12_isFork cX12_isFork 2 (some .boolean)) ∈ gx_G := gx_mem 1831 (by decide +kernel) (by decide +kernel)
theorem mw_1832 : (Cond.methodLink RX12 319 yX12_putsBy) ∈ gx_G := gx_mem 1832 (by decide +kernel) (by decide +kernel)
theorem mw_1834 : (Cond.instanceMethod yX12_putsBy) ∈ gx_G := gx_mem 1834 (by decide +kernel) (by decide +kernel)
theorem mw_1835 : (Cond.code yX12_putsBy cX12_putsBy 2 none) ∈ gx_G := gx_mem 1835 (by decide +kernel) (by decide +kernel)
theorem mw_1836 : (Cond.methodLink RX12 322 yX12_adds) ∈ gx_G := gx_mem 1836 (by decide +kernel) (by decide +kernel)
theorem mw_1838 : (Cond.instanceMethod yX12_adds) ∈ gx_G := gx_mem 1838 (by decide +kernel) (by decide +kernel)
theorem mw_1839 : (Cond.code yX12_adds cX12_adds 3 (some .int)) ∈ gx_G := gx_mem 1839 (by decide +kernel) (by decide +kernel)
theorem mw_1844 : (Cond.constantLong RX12 325 (3)) ∈ gx_G := gx_mem 1844 (by decide +kernel) (by decide +kernel)
theorem mw_1849 : (Cond.methodLink RX12 339 yX12_comesNow) ∈ gx_G := gx_mem 1849 (by decide +kernel) (by decide +kernel)
theorem mw_1851 : (Cond.instanceMethod yX12_comesNow) ∈ gx_G := gx_mem 1851 (by decide +kernel) (by decide +kernel)
theorem mw_1852 : (Cond.code yX12_comesNow cX12_comesNow 5 (some .int)) ∈ gx_G := gx_mem 1852 (by decide +kernel) (by decide +kernel)
theorem mw_1853 : (Cond.methodLink RX12 331 yX12_canPut) ∈ gx_G := gx_mem 1853 (by decide +kernel) (by decide +kernel)
theorem mw_1855 : (Cond.instanceMethod yX12_canPut) ∈ gx_G := gx_mem 1855 (by decide +kernel) (by decide +kernel)
theorem mw_1856 : (Cond.code yX12_canPut cX12_canPut 4 (some .boolean)) ∈ gx_G := gx_mem 1856 (by decide +kernel) (by decide +kernel)
theorem mw_1857 : (Cond.constantLong RX12 327 (99)) ∈ gx_G := gx_mem 1857 (by decide +kernel) (by decide +kernel)
theorem mw_1858 : (Cond.constantLong RX12 329 (9)) ∈ gx_G := gx_mem 1858 (by decide +kernel) (by decide +kernel)
theorem mw_1867 : (Cond.methodLink RX12 343 yX12_gives) ∈ gx_G := gx_mem 1867 (by decide +kernel) (by decide +kernel)
theorem mw_1869 : (Cond.instanceMethod yX12_gives) ∈ gx_G := gx_mem 1869 (by decide +kernel) (by decide +kernel)
theorem mw_1870 : (Cond.code yX12_gives cX12_gives 3 (some .int)) ∈ gx_G := gx_mem 1870 (by decide +kernel) (by decide +kernel)
theorem mw_1875 : (Cond.methodLink RX12 346 yX12_thoseHow) ∈ gx_G := gx_mem 1875 (by decide +kernel) (by decide +kernel)
theorem mw_1876 : (Cond.static yX12_thoseHow) ∈ gx_G := gx_mem 1876 (by decide +kernel) (by decide +kernel)
theorem mw_1877 : (Cond.code yX12_thoseHow cX12_thoseHow 4 (some .int)) ∈ gx_G := gx_mem 1877 (by decide +kernel) (by decide +kernel)
theorem mw_1878 : (Cond.methodLink RX12 349 yX12_minuteGoes) ∈ gx_G := gx_mem 1878 (by decide +kernel) (by decide +kernel)
theorem mw_1880 : (Cond.instanceMethod yX12_minuteGoes) ∈ gx_G := gx_mem 1880 (by decide +kernel) (by decide +kernel)
theorem mw_1881 : (Cond.code yX12_minuteGoes cX12_minuteGoes 6 none) ∈ gx_G := gx_mem 1881 (by decide +kernel) (by decide +kernel)
theorem mw_1904 : (Cond.methodLink RX12 122 yX12_enters) ∈ gx_G := gx_mem 1904 (by decide +kernel) (by decide +kernel)
theorem mw_1906 : (Cond.instanceMethod yX12_enters) ∈ gx_G := gx_mem 1906 (by decide +kernel) (by decide +kernel)
theorem mw_1907 : (Cond.code yX12_enters cX12_enters 3 none) ∈ gx_G := gx_mem 1907 (by decide +kernel) (by decide +kernel)
theorem mw_1908 : (Cond.methodLink RX12 353 yJ6_bitCount_0f7a4) ∈ gx_G := gx_mem 1908 (by decide +kernel) (by decide +kernel)
theorem mw_1927 : (Cond.constantLong RX12 378 (300)) ∈ gx_G := gx_mem 1927 (by decide +kernel) (by decide +kernel)
theorem mw_1928 : (Cond.methodLink RX12 380 yX12_goesOn) ∈ gx_G := gx_mem 1928 (by decide +kernel) (by decide +kernel)
theorem mw_1930 : (Cond.instanceMethod yX12_goesOn) ∈ gx_G := gx_mem 1930 (by decide +kernel) (by decide +kernel)
theorem mw_1931 : (Cond.code yX12_goesOn cX12_goesOn 3 none) ∈ gx_G := gx_mem 1931 (by decide +kernel) (by decide +kernel)
theorem mw_1932 : (Cond.methodLink RX12 374 yX12_puts) ∈ gx_G := gx_mem 1932 (by decide +kernel) (by decide +kernel)
theorem mw_1933 : (Cond.static yX12_puts) ∈ gx_G := gx_mem 1933 (by decide +kernel) (by decide +kernel)
theorem mw_1934 : (Cond.code yX12_puts cX12_puts 3 none) ∈ gx_G := gx_mem 1934 (by decide +kernel) (by decide +kernel)
theorem mw_1959 : (Cond.methodLink RX12 405 yX12_canSail) ∈ gx_G := gx_mem 1959 (by decide +kernel) (by decide +kernel)
theorem mw_1961 : (Cond.instanceMethod yX12_canSail) ∈ gx_G := gx_mem 1961 (by decide +kernel) (by decide +kernel)
theorem mw_1962 : (Cond.code yX12_canSail cX12_canSail 5 (some .boolean)) ∈ gx_G := gx_mem 1962 (by decide +kernel) (by decide +kernel)
theorem mw_1967 : (Cond.methodLink RX12 409 yX12_thinksNow) ∈ gx_G := gx_mem 1967 (by decide +kernel) (by decide +kernel)
theorem mw_1969 : (Cond.instanceMethod yX12_thinksNow) ∈ gx_G := gx_mem 1969 (by decide +kernel) (by decide +kernel)
theorem mw_1970 : (Cond.code yX12_thinksNow cX12_thinksNow 1 none) ∈ gx_G := gx_mem 1970 (by decide +kernel) (by decide +kernel)
theorem mw_2011 : (Cond.methodLink RX12 422 yX12_saves) ∈ gx_G := gx_mem 2011 (by decide +kernel) (by decide +kernel)
theorem mw_2013 : (Cond.instanceMethod yX12_saves) ∈ gx_G := gx_mem 2013 (by decide +kernel) (by decide +kernel)
theorem mw_2014 : (Cond.code yX12_saves cX12_saves 9 (some .int)) ∈ gx_G := gx_mem 2014 (by decide +kernel) (by decide +kernel)
theorem mw_2015 : (Cond.methodLink RX12 416 yX12_forks) ∈ gx_G := gx_mem 2015 (by decide +kernel) (by decide +kernel)
theorem mw_2017 : (Cond.instanceMethod yX12_forks) ∈ gx_G := gx_mem 2017 (by decide +kernel) (by decide +kernel)
theorem mw_2018 : (Cond.code yX12_forks cX12_forks 3 (some .int)) ∈ gx_G := gx_mem 2018 (by decide +kernel) (by decide +kernel)
theorem mw_2019 : (Cond.methodLink RX12 419 yX12_savedAfter) ∈ gx_G := gx_mem 2019 (by decide +kernel) (by decide +kernel)
theorem mw_2021 : (Cond.instanceMethod yX12_savedAfter) ∈ gx_G := gx_mem 2021 (by decide +kernel) (by decide +kernel)
theorem mw_2022 : (Cond.code yX12_savedAfter cX12_savedAfter 4 (some .int)) ∈ gx_G := gx_mem 2022 (by decide +kernel) (by decide +kernel)
theorem mw_2056 : (Cond.methodLink RX12 448 yX12_laysFits) ∈ gx_G := gx_mem 2056 (by decide +kernel) (by decide +kernel)
theorem mw_2058 : (Cond.instanceMethod yX12_laysFits) ∈ gx_G := gx_mem 2058 (by decide +kernel) (by decide +kernel)
theorem mw_2059 : (Cond.code yX12_laysFits cX12_laysFits 6 (some .int)) ∈ gx_G := gx_mem 2059 (by decide +kernel) (by decide +kernel)
theorem mw_2085 : (Cond.constantLong RX12 459 (4095)) ∈ gx_G := gx_mem 2085 (by decide +kernel) (by decide +kernel)
theorem mw_2094 : (Cond.constantLong RX12 461 (2)) ∈ gx_G := gx_mem 2094 (by decide +kernel) (by decide +kernel)
theorem cw_X12_129 : gx_Ws RX12 129 yX12_in cX12_in 6 (some .boolean) 3 := ⟨⟨mw_1607, mw_1608, mw_101, mw_1609⟩, by decide +kernel⟩
theorem cw_X12_133 : gx_Wv RX12 133 yX12_isPlace cX12_isPlace 2 (some .boolean) 1 := ⟨⟨mw_1789, mw_1791, mw_53, mw_101, mw_1792⟩, by decide +kernel⟩
theorem cw_J0_335 : gx_Wv RJ0 335 yJ0_coder_7d493 cJ0_coder_7d493 1 (some .byte) 0 := ⟨⟨mw_566, mw_567, mw_568, mw_103, mw_569⟩, by decide +kernel⟩
theorem cw_X12_163 : gx_Wv RX12 163 yJ0_length_8abf5 cJ0_length_8abf5 1 (some .int) 0 := ⟨⟨mw_1632, mw_563, mw_564, mw_103, mw_565⟩, by decide +kernel⟩
theorem cw_X12_264 : gx_Ws RX12 264 yX12_has cX12_has 2 (some .boolean) 2 := ⟨⟨mw_1817, mw_1818, mw_101, mw_1819⟩, by decide +kernel⟩
theorem cw_X12_268 : gx_Wv RX12 268 yX12_waterIn cX12_waterIn 5 (some .int) 1 := ⟨⟨mw_1813, mw_1815, mw_56, mw_101, mw_1816⟩, by decide +kernel⟩
theorem cw_X12_331 : gx_Wv RX12 331 yX12_canPut cX12_canPut 4 (some .boolean) 3 := ⟨⟨mw_1853, mw_1855, mw_61, mw_101, mw_1856⟩, by decide +kernel⟩
theorem cw_X12_309 : gx_Wv RX12 309 yX12_isThing cX12_isThing 2 (some .boolean) 1 := ⟨⟨mw_1802, mw_1804, mw_55, mw_101, mw_1805⟩, by decide +kernel⟩
theorem cw_X12_374 : gx_Ws RX12 374 yX12_puts cX12_puts 3 none 2 := ⟨⟨mw_1932, mw_1933, mw_101, mw_1934⟩, by decide +kernel⟩
theorem cw_X12_349 : gx_Wv RX12 349 yX12_minuteGoes cX12_minuteGoes 6 none 1 := ⟨⟨mw_1878, mw_1880, mw_64, mw_101, mw_1881⟩, by decide +kernel⟩
theorem cw_X12_346 : gx_Ws RX12 346 yX12_thoseHow cX12_thoseHow 4 (some .int) 2 := ⟨⟨mw_1875, mw_1876, mw_101, mw_1877⟩, by decide +kernel⟩
theorem cw_X12_416 : gx_Wv RX12 416 yX12_forks cX12_forks 3 (some .int) 0 := ⟨⟨mw_2015, mw_2017, mw_81, mw_101, mw_2018⟩, by decide +kernel⟩
theorem cw_X12_419 : gx_Wv RX12 419 yX12_savedAfter cX12_savedAfter 4 (some .int) 2 := ⟨⟨mw_2019, mw_2021, mw_82, mw_101, mw_2022⟩, by decide +kernel⟩
theorem cw_X12_122 : gx_Wv RX12 122 yX12_enters cX12_enters 3 none 1 := ⟨⟨mw_1904, mw_1906, mw_69, mw_101, mw_1907⟩, by decide +kernel⟩
theorem cw_X12_353 : gx_Ws RX12 353 yJ6_bitCount_0f7a4 cJ6_bitCount_0f7a4 1 (some .int) 1 := ⟨⟨mw_1908, mw_896, mw_114, mw_897⟩, by decide +kernel⟩
theorem cw_X12_155 : gx_Ws RX12 155 yX12_flag cX12_flag 1 (some .int) 1 := ⟨⟨mw_1653, mw_1654, mw_101, mw_1655⟩, by decide +kernel⟩
theorem cw_X12_203 : gx_Wv RX12 203 yX12_begins cX12_begins 3 (some .int) 1 := ⟨⟨mw_1614, mw_1616, mw_41, mw_101, mw_1617⟩, by decide +kernel⟩
theorem cw_X12_213 : gx_Wv RX12 213 yX12_faultOf cX12_faultOf 5 (some .int) 3 := ⟨⟨mw_1746, mw_1748, mw_47, mw_101, mw_1749⟩, by decide +kernel⟩
theorem cw_X12_173 : gx_Wv RX12 173 yX12_among cX12_among 3 (some .int) 1 := ⟨⟨mw_1628, mw_1630, mw_44, mw_101, mw_1631⟩, by decide +kernel⟩
theorem cw_X12_306 : gx_Wv RX12 306 yX12_refuse cX12_refuse 1 (some .int) 0 := ⟨⟨mw_1794, mw_1796, mw_54, mw_101, mw_1797⟩, by decide +kernel⟩
theorem cw_X12_316 : gx_Wv RX12 316 yX12_isFork cX12_isFork 2 (some .boolean) 1 := ⟨⟨mw_1828, mw_1830, mw_57, mw_101, mw_1831⟩, by decide +kernel⟩
theorem cw_X12_319 : gx_Wv RX12 319 yX12_putsBy cX12_putsBy 2 none 0 := ⟨⟨mw_1832, mw_1834, mw_58, mw_101, mw_1835⟩, by decide +kernel⟩
theorem cw_X12_339 : gx_Wv RX12 339 yX12_comesNow cX12_comesNow 5 (some .int) 4 := ⟨⟨mw_1849, mw_1851, mw_60, mw_101, mw_1852⟩, by decide +kernel⟩
theorem cw_X12_343 : gx_Wv RX12 343 yX12_gives cX12_gives 3 (some .int) 2 := ⟨⟨mw_1867, mw_1869, mw_63, mw_101, mw_1870⟩, by decide +kernel⟩
theorem cw_X12_322 : gx_Wv RX12 322 yX12_adds cX12_adds 3 (some .int) 1 := ⟨⟨mw_1836, mw_1838, mw_59, mw_101, mw_1839⟩, by decide +kernel⟩
theorem cw_X12_380 : gx_Wv RX12 380 yX12_goesOn cX12_goesOn 3 none 1 := ⟨⟨mw_1928, mw_1930, mw_72, mw_101, mw_1931⟩, by decide +kernel⟩
theorem cw_X12_405 : gx_Wv RX12 405 yX12_canSail cX12_canSail 5 (some .boolean) 4 := ⟨⟨mw_1959, mw_1961, mw_74, mw_101, mw_1962⟩, by decide +kernel⟩
theorem cw_X12_422 : gx_Wv RX12 422 yX12_saves cX12_saves 9 (some .int) 3 := ⟨⟨mw_2011, mw_2013, mw_80, mw_101, mw_2014⟩, by decide +kernel⟩
theorem cw_X12_448 : gx_Wv RX12 448 yX12_laysFits cX12_laysFits 6 (some .int) 0 := ⟨⟨mw_2056, mw_2058, mw_85, mw_101, mw_2059⟩, by decide +kernel⟩
theorem cw_X12_409 : gx_Wv RX12 409 yX12_thinksNow cX12_thinksNow 1 none 0 := ⟨⟨mw_1967, mw_1969, mw_76, mw_101, mw_1970⟩, by decide +kernel⟩
theorem t_199 : gx_tb[199]? = some (.inl (13, [none, none, some (some 200), none, none, some (some 201), some (some 202), some (some 203), some (some 204), some (some 205), some (some 206), some (some 207), some (some 208), none, none, none, none, some (some 209), some (some 210), some (some 211), some (some 212), none, some (some 213), some (some 214), none, some (some 215), some (some 216), some (some 217), none, none, some (some 218), none, none, none, none, none, none, some (some 219), some (some 220), some (some 221), some (some 222), some (some 223), none, none, some (some 224), none, none, some (some 225), none, none, none, none, none, some (some 226), some (some 227), some (some 228), some (some 229), some (some 230), some (some 231), some (some 232)])) := rfl
theorem t_200 : gx_tb[200]? = some (.inr (1, 16, [])) := rfl
theorem t_206 : gx_tb[206]? = some (.inr (0, 45, [])) := rfl
theorem t_207 : gx_tb[207]? = some (.inr (0, 45, [])) := rfl
theorem t_208 : gx_tb[208]? = some (.inr (0, 80, [])) := rfl
theorem t_219 : gx_tb[219]? = some (.inr (0, 720, [])) := rfl
theorem t_229 : gx_tb[229]? = some (.inr (2, 4096, [])) := rfl
theorem t_231 : gx_tb[231]? = some (.inr (2, 3, [])) := rfl
theorem t_232 : gx_tb[232]? = some (.inr (0, 135, [])) := rfl
theorem ss_14 : gx_ss[14]? = some (RX12, 223, "0123", [48, 49, 50, 51]) := rfl
theorem dJ0_coder_7d493_0 : decode cJ0_coder_7d493 0 = .ok (.getstatic 38, 3) := by decide +kernel
theorem dJ0_coder_7d493_3 : decode cJ0_coder_7d493 3 = .ok (.ifCond .eq 10, 3) := by decide +kernel
theorem dJ0_coder_7d493_6 : decode cJ0_coder_7d493 6 = .ok (.aload_n 0, 1) := by decide +kernel
theorem dJ0_coder_7d493_7 : decode cJ0_coder_7d493 7 = .ok (.getfield 15, 3) := by decide +kernel
theorem dJ0_coder_7d493_10 : decode cJ0_coder_7d493 10 = .ok (.goto 4, 3) := by decide +kernel
theorem dJ0_coder_7d493_14 : decode cJ0_coder_7d493 14 = .ok (.ireturn, 1) := by decide +kernel
theorem dJ0_length_8abf5_0 : decode cJ0_length_8abf5 0 = .ok (.aload_n 0, 1) := by decide +kernel
theorem dJ0_length_8abf5_1 : decode cJ0_length_8abf5 1 = .ok (.getfield 9, 3) := by decide +kernel
theorem dJ0_length_8abf5_4 : decode cJ0_length_8abf5 4 = .ok (.arraylength, 1) := by decide +kernel
theorem dJ0_length_8abf5_5 : decode cJ0_length_8abf5 5 = .ok (.aload_n 0, 1) := by decide +kernel
theorem dJ0_length_8abf5_6 : decode cJ0_length_8abf5 6 = .ok (.invokevirtual 335, 3) := by decide +kernel
theorem dJ0_length_8abf5_9 : decode cJ0_length_8abf5 9 = .ok (.ishr, 1) := by decide +kernel
theorem dJ0_length_8abf5_10 : decode cJ0_length_8abf5 10 = .ok (.ireturn, 1) := by decide +kernel
theorem dX12_adds_0 : decode cX12_adds 0 = .ok (.aload_n 0, 1) := by decide +kernel
theorem dX12_adds_1 : decode cX12_adds 1 = .ok (.dup, 1) := by decide +kernel
theorem dX12_adds_2 : decode cX12_adds 2 = .ok (.getfield 220, 3) := by decide +kernel
theorem dX12_adds_5 : decode cX12_adds 5 = .ok (.iconst 1, 1) := by decide +kernel
theorem dX12_adds_6 : decode cX12_adds 6 = .ok (.iadd, 1) := by decide +kernel
theorem dX12_adds_7 : decode cX12_adds 7 = .ok (.putfield 220, 3) := by decide +kernel
theorem dX12_adds_10 : decode cX12_adds 10 = .ok (.aload_n 0, 1) := by decide +kernel
theorem dX12_adds_11 : decode cX12_adds 11 = .ok (.getfield 220, 3) := by decide +kernel
theorem dX12_adds_14 : decode cX12_adds 14 = .ok (.bipush 15, 2) := by decide +kernel
theorem dX12_adds_16 : decode cX12_adds 16 = .ok (.if_icmp .le 43, 3) := by decide +kernel
theorem dX12_adds_59 : decode cX12_adds 59 = .ok (.iload_n 1, 1) := by decide +kernel
theorem dX12_adds_60 : decode cX12_adds 60 = .ok (.ireturn, 1) := by decide +kernel
theorem dX12_again_0 : decode cX12_again 0 = .ok (.aload_n 0, 1) := by decide +kernel
theorem dX12_again_1 : decode cX12_again 1 = .ok (.iconst 0, 1) := by decide +kernel
theorem dX12_again_2 : decode cX12_again 2 = .ok (.putfield 111, 3) := by decide +kernel
theorem dX12_again_5 : decode cX12_again 5 = .ok (.iload_n 1, 1) := by decide +kernel
theorem dX12_again_6 : decode cX12_again 6 = .ok (.i2l, 1) := by decide +kernel
theorem dX12_again_7 : decode cX12_again 7 = .ok (.lconst 0, 1) := by decide +kernel
theorem dX12_again_8 : decode cX12_again 8 = .ok (.ldc2_w 461, 3) := by decide +kernel
theorem dX12_again_11 : decode cX12_again 11 = .ok (.invokestatic 129, 3) := by decide +kernel
theorem dX12_again_14 : decode cX12_again 14 = .ok (.ifCond .eq 12, 3) := by decide +kernel
theorem dX12_again_17 : decode cX12_again 17 = .ok (.aload_n 0, 1) := by decide +kernel
theorem dX12_again_18 : decode cX12_again 18 = .ok (.getfield 105, 3) := by decide +kernel
theorem dX12_again_21 : decode cX12_again 21 = .ok (.iload_n 1, 1) := by decide +kernel
theorem dX12_again_22 : decode cX12_again 22 = .ok (.baload, 1) := by decide +kernel
theorem dX12_again_23 : decode cX12_again 23 = .ok (.ifCond .ne 5, 3) := by decide +kernel
theorem dX12_again_26 : decode cX12_again 26 = .ok (.iconst 0, 1) := by decide +kernel
theorem dX12_again_27 : decode cX12_again 27 = .ok (.ireturn, 1) := by decide +kernel
theorem dX12_among_0 : decode cX12_among 0 = .ok (.iconst 0, 1) := by decide +kernel
theorem dX12_among_1 : decode cX12_among 1 = .ok (.istore_n 2, 1) := by decide +kernel
theorem dX12_among_2 : decode cX12_among 2 = .ok (.iload_n 2, 1) := by decide +kernel
theorem dX12_among_3 : decode cX12_among 3 = .ok (.aload_n 1, 1) := by decide +kernel
theorem dX12_among_4 : decode cX12_among 4 = .ok (.invokevirtual 163, 3) := by decide +kernel
theorem dX12_among_7 : decode cX12_among 7 = .ok (.if_icmp .ge 39, 3) := by decide +kernel
theorem dX12_among_10 : decode cX12_among 10 = .ok (.aload_n 0, 1) := by decide +kernel
theorem dX12_among_11 : decode cX12_among 11 = .ok (.getfield 140, 3) := by decide +kernel
theorem dX12_among_14 : decode cX12_among 14 = .ok (.aload_n 0, 1) := by decide +kernel
theorem dX12_among_15 : decode cX12_among 15 = .ok (.getfield 152, 3) := by decide +kernel
theorem dX12_among_18 : decode cX12_among 18 = .ok (.if_icmp .ge 28, 3) := by decide +kernel
theorem dX12_among_46 : decode cX12_among 46 = .ok (.iconst (-1), 1) := by decide +kernel
theorem dX12_among_47 : decode cX12_among 47 = .ok (.ireturn, 1) := by decide +kernel
theorem dX12_basin_0 : decode cX12_basin 0 = .ok (.aload_n 0, 1) := by decide +kernel
theorem dX12_basin_1 : decode cX12_basin 1 = .ok (.iconst 0, 1) := by decide +kernel
theorem dX12_basin_2 : decode cX12_basin 2 = .ok (.putfield 111, 3) := by decide +kernel
theorem dX12_basin_5 : decode cX12_basin 5 = .ok (.aload_n 0, 1) := by decide +kernel
theorem dX12_basin_6 : decode cX12_basin 6 = .ok (.iconst 0, 1) := by decide +kernel
theorem dX12_basin_7 : decode cX12_basin 7 = .ok (.iload_n 1, 1) := by decide +kernel
theorem dX12_basin_8 : decode cX12_basin 8 = .ok (.iload_n 2, 1) := by decide +kernel
theorem dX12_basin_9 : decode cX12_basin 9 = .ok (.iload_n 3, 1) := by decide +kernel
theorem dX12_basin_10 : decode cX12_basin 10 = .ok (.invokevirtual 405, 3) := by decide +kernel
theorem dX12_basin_13 : decode cX12_basin 13 = .ok (.ifCond .ne 5, 3) := by decide +kernel
theorem dX12_basin_16 : decode cX12_basin 16 = .ok (.iconst (-1), 1) := by decide +kernel
theorem dX12_basin_17 : decode cX12_basin 17 = .ok (.ireturn, 1) := by decide +kernel
theorem dX12_begins_0 : decode cX12_begins 0 = .ok (.aload_n 0, 1) := by decide +kernel
theorem dX12_begins_1 : decode cX12_begins 1 = .ok (.getfield 137, 3) := by decide +kernel
theorem dX12_begins_4 : decode cX12_begins 4 = .ok (.istore_n 2, 1) := by decide +kernel
theorem dX12_begins_5 : decode cX12_begins 5 = .ok (.aload_n 0, 1) := by decide +kernel
theorem dX12_begins_6 : decode cX12_begins 6 = .ok (.iconst 0, 1) := by decide +kernel
theorem dX12_begins_7 : decode cX12_begins 7 = .ok (.putfield 137, 3) := by decide +kernel
theorem dX12_begins_10 : decode cX12_begins 10 = .ok (.aload_n 0, 1) := by decide +kernel
theorem dX12_begins_11 : decode cX12_begins 11 = .ok (.iconst 0, 1) := by decide +kernel
theorem dX12_begins_12 : decode cX12_begins 12 = .ok (.putfield 140, 3) := by decide +kernel
theorem dX12_begins_15 : decode cX12_begins 15 = .ok (.aload_n 0, 1) := by decide +kernel
theorem dX12_begins_16 : decode cX12_begins 16 = .ok (.iconst 0, 1) := by decide +kernel
theorem dX12_begins_17 : decode cX12_begins 17 = .ok (.putfield 143, 3) := by decide +kernel
theorem dX12_begins_20 : decode cX12_begins 20 = .ok (.aload_n 0, 1) := by decide +kernel
theorem dX12_begins_21 : decode cX12_begins 21 = .ok (.iload_n 2, 1) := by decide +kernel
theorem dX12_begins_22 : decode cX12_begins 22 = .ok (.iload_n 1, 1) := by decide +kernel
theorem dX12_begins_23 : decode cX12_begins 23 = .ok (.invokestatic 146, 3) := by decide +kernel
theorem dX12_begins_26 : decode cX12_begins 26 = .ok (.putfield 152, 3) := by decide +kernel
theorem dX12_begins_29 : decode cX12_begins 29 = .ok (.iload_n 2, 1) := by decide +kernel
theorem dX12_begins_30 : decode cX12_begins 30 = .ok (.ireturn, 1) := by decide +kernel
theorem dX12_boat_0 : decode cX12_boat 0 = .ok (.aload_n 0, 1) := by decide +kernel
theorem dX12_boat_1 : decode cX12_boat 1 = .ok (.iconst 0, 1) := by decide +kernel
theorem dX12_boat_2 : decode cX12_boat 2 = .ok (.putfield 111, 3) := by decide +kernel
theorem dX12_boat_5 : decode cX12_boat 5 = .ok (.aload_n 0, 1) := by decide +kernel
theorem dX12_boat_6 : decode cX12_boat 6 = .ok (.iload_n 1, 1) := by decide +kernel
theorem dX12_boat_7 : decode cX12_boat 7 = .ok (.iconst 0, 1) := by decide +kernel
theorem dX12_boat_8 : decode cX12_boat 8 = .ok (.iload_n 2, 1) := by decide +kernel
theorem dX12_boat_9 : decode cX12_boat 9 = .ok (.iload_n 3, 1) := by decide +kernel
theorem dX12_boat_10 : decode cX12_boat 10 = .ok (.invokevirtual 405, 3) := by decide +kernel
theorem dX12_boat_13 : decode cX12_boat 13 = .ok (.ifCond .ne 5, 3) := by decide +kernel
theorem dX12_boat_16 : decode cX12_boat 16 = .ok (.iconst (-1), 1) := by decide +kernel
theorem dX12_boat_17 : decode cX12_boat 17 = .ok (.ireturn, 1) := by decide +kernel
theorem dX12_canPut_0 : decode cX12_canPut 0 = .ok (.aload_n 0, 1) := by decide +kernel
theorem dX12_canPut_1 : decode cX12_canPut 1 = .ok (.iload_n 1, 1) := by decide +kernel
theorem dX12_canPut_2 : decode cX12_canPut 2 = .ok (.invokevirtual 133, 3) := by decide +kernel
theorem dX12_canPut_5 : decode cX12_canPut 5 = .ok (.ifCond .eq 31, 3) := by decide +kernel
theorem dX12_canPut_36 : decode cX12_canPut 36 = .ok (.iconst 0, 1) := by decide +kernel
theorem dX12_canPut_37 : decode cX12_canPut 37 = .ok (.ireturn, 1) := by decide +kernel
theorem dX12_canSail_0 : decode cX12_canSail 0 = .ok (.aload_n 0, 1) := by decide +kernel
theorem dX12_canSail_1 : decode cX12_canSail 1 = .ok (.iload_n 1, 1) := by decide +kernel
theorem dX12_canSail_2 : decode cX12_canSail 2 = .ok (.iload_n 2, 1) := by decide +kernel
theorem dX12_canSail_3 : decode cX12_canSail 3 = .ok (.iload_n 3, 1) := by decide +kernel
theorem dX12_canSail_4 : decode cX12_canSail 4 = .ok (.invokevirtual 331, 3) := by decide +kernel
theorem dX12_canSail_7 : decode cX12_canSail 7 = .ok (.ifCond .eq 16, 3) := by decide +kernel
theorem dX12_canSail_23 : decode cX12_canSail 23 = .ok (.iconst 0, 1) := by decide +kernel
theorem dX12_canSail_24 : decode cX12_canSail 24 = .ok (.ireturn, 1) := by decide +kernel
theorem dX12_coins_0 : decode cX12_coins 0 = .ok (.aload_n 0, 1) := by decide +kernel
theorem dX12_coins_1 : decode cX12_coins 1 = .ok (.iconst 0, 1) := by decide +kernel
theorem dX12_coins_2 : decode cX12_coins 2 = .ok (.putfield 111, 3) := by decide +kernel
theorem dX12_coins_5 : decode cX12_coins 5 = .ok (.aload_n 0, 1) := by decide +kernel
theorem dX12_coins_6 : decode cX12_coins 6 = .ok (.iload_n 1, 1) := by decide +kernel
theorem dX12_coins_7 : decode cX12_coins 7 = .ok (.iload_n 2, 1) := by decide +kernel
theorem dX12_coins_8 : decode cX12_coins 8 = .ok (.iconst 0, 1) := by decide +kernel
theorem dX12_coins_9 : decode cX12_coins 9 = .ok (.iload_n 3, 1) := by decide +kernel
theorem dX12_coins_10 : decode cX12_coins 10 = .ok (.invokevirtual 405, 3) := by decide +kernel
theorem dX12_coins_13 : decode cX12_coins 13 = .ok (.ifCond .ne 5, 3) := by decide +kernel
theorem dX12_coins_16 : decode cX12_coins 16 = .ok (.iconst (-1), 1) := by decide +kernel
theorem dX12_coins_17 : decode cX12_coins 17 = .ok (.ireturn, 1) := by decide +kernel
theorem dX12_comes_0 : decode cX12_comes 0 = .ok (.aload_n 0, 1) := by decide +kernel
theorem dX12_comes_1 : decode cX12_comes 1 = .ok (.iconst 0, 1) := by decide +kernel
theorem dX12_comes_2 : decode cX12_comes 2 = .ok (.putfield 111, 3) := by decide +kernel
theorem dX12_comes_5 : decode cX12_comes 5 = .ok (.aload_n 0, 1) := by decide +kernel
theorem dX12_comes_6 : decode cX12_comes 6 = .ok (.iload_n 1, 1) := by decide +kernel
theorem dX12_comes_7 : decode cX12_comes 7 = .ok (.invokevirtual 309, 3) := by decide +kernel
theorem dX12_comes_10 : decode cX12_comes 10 = .ok (.ifCond .ne 5, 3) := by decide +kernel
theorem dX12_comes_13 : decode cX12_comes 13 = .ok (.iconst (-1), 1) := by decide +kernel
theorem dX12_comes_14 : decode cX12_comes 14 = .ok (.ireturn, 1) := by decide +kernel
theorem dX12_comesNow_0 : decode cX12_comesNow 0 = .ok (.aload_n 0, 1) := by decide +kernel
theorem dX12_comesNow_1 : decode cX12_comesNow 1 = .ok (.iload_n 1, 1) := by decide +kernel
theorem dX12_comesNow_2 : decode cX12_comesNow 2 = .ok (.iload_n 2, 1) := by decide +kernel
theorem dX12_comesNow_3 : decode cX12_comesNow 3 = .ok (.iload_n 3, 1) := by decide +kernel
theorem dX12_comesNow_4 : decode cX12_comesNow 4 = .ok (.invokevirtual 331, 3) := by decide +kernel
theorem dX12_comesNow_7 : decode cX12_comesNow 7 = .ok (.ifCond .eq 16, 3) := by decide +kernel
theorem dX12_comesNow_23 : decode cX12_comesNow 23 = .ok (.iconst (-1), 1) := by decide +kernel
theorem dX12_comesNow_24 : decode cX12_comesNow 24 = .ok (.ireturn, 1) := by decide +kernel
theorem dX12_cork_0 : decode cX12_cork 0 = .ok (.aload_n 0, 1) := by decide +kernel
theorem dX12_cork_1 : decode cX12_cork 1 = .ok (.iconst 0, 1) := by decide +kernel
theorem dX12_cork_2 : decode cX12_cork 2 = .ok (.putfield 111, 3) := by decide +kernel
theorem dX12_cork_5 : decode cX12_cork 5 = .ok (.aload_n 0, 1) := by decide +kernel
theorem dX12_cork_6 : decode cX12_cork 6 = .ok (.iload_n 1, 1) := by decide +kernel
theorem dX12_cork_7 : decode cX12_cork 7 = .ok (.invokevirtual 133, 3) := by decide +kernel
theorem dX12_cork_10 : decode cX12_cork 10 = .ok (.ifCond .eq 37, 3) := by decide +kernel
theorem dX12_cork_47 : decode cX12_cork 47 = .ok (.iconst (-1), 1) := by decide +kernel
theorem dX12_cork_48 : decode cX12_cork 48 = .ok (.ireturn, 1) := by decide +kernel
theorem dX12_count_0 : decode cX12_count 0 = .ok (.aload_n 0, 1) := by decide +kernel
theorem dX12_count_1 : decode cX12_count 1 = .ok (.iconst 0, 1) := by decide +kernel
theorem dX12_count_2 : decode cX12_count 2 = .ok (.putfield 111, 3) := by decide +kernel
theorem dX12_count_5 : decode cX12_count 5 = .ok (.iload_n 1, 1) := by decide +kernel
theorem dX12_count_6 : decode cX12_count 6 = .ok (.tableswitch 143 0 11 #[62, 67, 75, 83, 88, 96, 105, 114, 123, 128, 133, 138], 62) := by decide +kernel
theorem dX12_count_68 : decode cX12_count 68 = .ok (.aload_n 0, 1) := by decide +kernel
theorem dX12_count_69 : decode cX12_count 69 = .ok (.getfield 126, 3) := by decide +kernel
theorem dX12_count_72 : decode cX12_count 72 = .ok (.ireturn, 1) := by decide +kernel
theorem dX12_count_73 : decode cX12_count 73 = .ok (.aload_n 0, 1) := by decide +kernel
theorem dX12_count_74 : decode cX12_count 74 = .ok (.getfield 29, 3) := by decide +kernel
theorem dX12_count_77 : decode cX12_count 77 = .ok (.bipush 44, 2) := by decide +kernel
theorem dX12_count_79 : decode cX12_count 79 = .ok (.iaload, 1) := by decide +kernel
theorem dX12_count_80 : decode cX12_count 80 = .ok (.ireturn, 1) := by decide +kernel
theorem dX12_count_81 : decode cX12_count 81 = .ok (.aload_n 0, 1) := by decide +kernel
theorem dX12_count_82 : decode cX12_count 82 = .ok (.getfield 29, 3) := by decide +kernel
theorem dX12_count_85 : decode cX12_count 85 = .ok (.bipush 43, 2) := by decide +kernel
theorem dX12_count_87 : decode cX12_count 87 = .ok (.iaload, 1) := by decide +kernel
theorem dX12_count_88 : decode cX12_count 88 = .ok (.ireturn, 1) := by decide +kernel
theorem dX12_count_89 : decode cX12_count 89 = .ok (.aload_n 0, 1) := by decide +kernel
theorem dX12_count_90 : decode cX12_count 90 = .ok (.invokevirtual 416, 3) := by decide +kernel
theorem dX12_count_93 : decode cX12_count 93 = .ok (.ireturn, 1) := by decide +kernel
theorem dX12_count_94 : decode cX12_count 94 = .ok (.aload_n 0, 1) := by decide +kernel
theorem dX12_count_95 : decode cX12_count 95 = .ok (.getfield 29, 3) := by decide +kernel
theorem dX12_count_98 : decode cX12_count 98 = .ok (.bipush 42, 2) := by decide +kernel
theorem dX12_count_100 : decode cX12_count 100 = .ok (.iaload, 1) := by decide +kernel
theorem dX12_count_101 : decode cX12_count 101 = .ok (.ireturn, 1) := by decide +kernel
theorem dX12_count_102 : decode cX12_count 102 = .ok (.aload_n 0, 1) := by decide +kernel
theorem dX12_count_103 : decode cX12_count 103 = .ok (.getfield 29, 3) := by decide +kernel
theorem dX12_count_106 : decode cX12_count 106 = .ok (.iconst 0, 1) := by decide +kernel
theorem dX12_count_107 : decode cX12_count 107 = .ok (.invokestatic 346, 3) := by decide +kernel
theorem dX12_count_110 : decode cX12_count 110 = .ok (.ireturn, 1) := by decide +kernel
theorem dX12_count_111 : decode cX12_count 111 = .ok (.aload_n 0, 1) := by decide +kernel
theorem dX12_count_112 : decode cX12_count 112 = .ok (.getfield 29, 3) := by decide +kernel
theorem dX12_count_115 : decode cX12_count 115 = .ok (.iconst 1, 1) := by decide +kernel
theorem dX12_count_116 : decode cX12_count 116 = .ok (.invokestatic 346, 3) := by decide +kernel
theorem dX12_count_119 : decode cX12_count 119 = .ok (.ireturn, 1) := by decide +kernel
theorem dX12_count_120 : decode cX12_count 120 = .ok (.aload_n 0, 1) := by decide +kernel
theorem dX12_count_121 : decode cX12_count 121 = .ok (.getfield 29, 3) := by decide +kernel
theorem dX12_count_124 : decode cX12_count 124 = .ok (.iconst 2, 1) := by decide +kernel
theorem dX12_count_125 : decode cX12_count 125 = .ok (.invokestatic 346, 3) := by decide +kernel
theorem dX12_count_128 : decode cX12_count 128 = .ok (.ireturn, 1) := by decide +kernel
theorem dX12_count_129 : decode cX12_count 129 = .ok (.aload_n 0, 1) := by decide +kernel
theorem dX12_count_130 : decode cX12_count 130 = .ok (.getfield 220, 3) := by decide +kernel
theorem dX12_count_133 : decode cX12_count 133 = .ok (.ireturn, 1) := by decide +kernel
theorem dX12_count_134 : decode cX12_count 134 = .ok (.aload_n 0, 1) := by decide +kernel
theorem dX12_count_135 : decode cX12_count 135 = .ok (.getfield 217, 3) := by decide +kernel
theorem dX12_count_138 : decode cX12_count 138 = .ok (.ireturn, 1) := by decide +kernel
theorem dX12_count_139 : decode cX12_count 139 = .ok (.aload_n 0, 1) := by decide +kernel
theorem dX12_count_140 : decode cX12_count 140 = .ok (.getfield 119, 3) := by decide +kernel
theorem dX12_count_143 : decode cX12_count 143 = .ok (.ireturn, 1) := by decide +kernel
theorem dX12_count_144 : decode cX12_count 144 = .ok (.aload_n 0, 1) := by decide +kernel
theorem dX12_count_145 : decode cX12_count 145 = .ok (.getfield 137, 3) := by decide +kernel
theorem dX12_count_148 : decode cX12_count 148 = .ok (.ireturn, 1) := by decide +kernel
theorem dX12_count_149 : decode cX12_count 149 = .ok (.bipush (-100), 2) := by decide +kernel
theorem dX12_count_151 : decode cX12_count 151 = .ok (.ireturn, 1) := by decide +kernel
theorem dX12_day_0 : decode cX12_day 0 = .ok (.aload_n 0, 1) := by decide +kernel
theorem dX12_day_1 : decode cX12_day 1 = .ok (.iconst 0, 1) := by decide +kernel
theorem dX12_day_2 : decode cX12_day 2 = .ok (.putfield 111, 3) := by decide +kernel
theorem dX12_day_5 : decode cX12_day 5 = .ok (.aload_n 0, 1) := by decide +kernel
theorem dX12_day_6 : decode cX12_day 6 = .ok (.bipush 60, 2) := by decide +kernel
theorem dX12_day_8 : decode cX12_day 8 = .ok (.invokevirtual 203, 3) := by decide +kernel
theorem dX12_day_11 : decode cX12_day 11 = .ok (.istore_n 1, 1) := by decide +kernel
theorem dX12_day_12 : decode cX12_day 12 = .ok (.aload_n 0, 1) := by decide +kernel
theorem dX12_day_13 : decode cX12_day 13 = .ok (.iconst 0, 1) := by decide +kernel
theorem dX12_day_14 : decode cX12_day 14 = .ok (.putfield 358, 3) := by decide +kernel
theorem dX12_day_17 : decode cX12_day 17 = .ok (.iconst 1, 1) := by decide +kernel
theorem dX12_day_18 : decode cX12_day 18 = .ok (.istore_n 2, 1) := by decide +kernel
theorem dX12_day_19 : decode cX12_day 19 = .ok (.iload_n 1, 1) := by decide +kernel
theorem dX12_day_20 : decode cX12_day 20 = .ok (.ifCond .le 7, 3) := by decide +kernel
theorem dX12_day_27 : decode cX12_day 27 = .ok (.iconst 0, 1) := by decide +kernel
theorem dX12_day_28 : decode cX12_day 28 = .ok (.istore_n 3, 1) := by decide +kernel
theorem dX12_day_29 : decode cX12_day 29 = .ok (.iload_n 3, 1) := by decide +kernel
theorem dX12_day_30 : decode cX12_day 30 = .ok (.ifCond .eq 30, 3) := by decide +kernel
theorem dX12_day_60 : decode cX12_day 60 = .ok (.aload_n 0, 1) := by decide +kernel
theorem dX12_day_61 : decode cX12_day 61 = .ok (.iload_n 1, 1) := by decide +kernel
theorem dX12_day_62 : decode cX12_day 62 = .ok (.bipush 60, 2) := by decide +kernel
theorem dX12_day_64 : decode cX12_day 64 = .ok (.iload_n 2, 1) := by decide +kernel
theorem dX12_day_65 : decode cX12_day 65 = .ok (.invokevirtual 213, 3) := by decide +kernel
theorem dX12_day_68 : decode cX12_day 68 = .ok (.istore 4, 2) := by decide +kernel
theorem dX12_day_70 : decode cX12_day 70 = .ok (.iload 4, 2) := by decide +kernel
theorem dX12_day_72 : decode cX12_day 72 = .ok (.ifCond .ge 6, 3) := by decide +kernel
theorem dX12_day_78 : decode cX12_day 78 = .ok (.aload_n 0, 1) := by decide +kernel
theorem dX12_day_79 : decode cX12_day 79 = .ok (.invokevirtual 319, 3) := by decide +kernel
theorem dX12_day_82 : decode cX12_day 82 = .ok (.aload_n 0, 1) := by decide +kernel
theorem dX12_day_83 : decode cX12_day 83 = .ok (.iconst 0, 1) := by decide +kernel
theorem dX12_day_84 : decode cX12_day 84 = .ok (.putfield 365, 3) := by decide +kernel
theorem dX12_day_87 : decode cX12_day 87 = .ok (.iconst 0, 1) := by decide +kernel
theorem dX12_day_88 : decode cX12_day 88 = .ok (.istore 5, 2) := by decide +kernel
theorem dX12_day_90 : decode cX12_day 90 = .ok (.iload 5, 2) := by decide +kernel
theorem dX12_day_92 : decode cX12_day 92 = .ok (.aload_n 0, 1) := by decide +kernel
theorem dX12_day_93 : decode cX12_day 93 = .ok (.getfield 358, 3) := by decide +kernel
theorem dX12_day_96 : decode cX12_day 96 = .ok (.if_icmp .ge 18, 3) := by decide +kernel
theorem dX12_day_114 : decode cX12_day 114 = .ok (.aload_n 0, 1) := by decide +kernel
theorem dX12_day_115 : decode cX12_day 115 = .ok (.iconst 0, 1) := by decide +kernel
theorem dX12_day_116 : decode cX12_day 116 = .ok (.putfield 119, 3) := by decide +kernel
theorem dX12_day_119 : decode cX12_day 119 = .ok (.aload_n 0, 1) := by decide +kernel
theorem dX12_day_120 : decode cX12_day 120 = .ok (.iload 5, 2) := by decide +kernel
theorem dX12_day_122 : decode cX12_day 122 = .ok (.aload_n 0, 1) := by decide +kernel
theorem dX12_day_123 : decode cX12_day 123 = .ok (.getfield 358, 3) := by decide +kernel
theorem dX12_day_126 : decode cX12_day 126 = .ok (.if_icmp .ge 7, 3) := by decide +kernel
theorem dX12_day_133 : decode cX12_day 133 = .ok (.iconst 0, 1) := by decide +kernel
theorem dX12_day_134 : decode cX12_day 134 = .ok (.invokestatic 155, 3) := by decide +kernel
theorem dX12_day_137 : decode cX12_day 137 = .ok (.i2l, 1) := by decide +kernel
theorem dX12_day_138 : decode cX12_day 138 = .ok (.invokevirtual 122, 3) := by decide +kernel
theorem dX12_day_141 : decode cX12_day 141 = .ok (.aload_n 0, 1) := by decide +kernel
theorem dX12_day_142 : decode cX12_day 142 = .ok (.aload_n 0, 1) := by decide +kernel
theorem dX12_day_143 : decode cX12_day 143 = .ok (.getfield 365, 3) := by decide +kernel
theorem dX12_day_146 : decode cX12_day 146 = .ok (.i2l, 1) := by decide +kernel
theorem dX12_day_147 : decode cX12_day 147 = .ok (.invokevirtual 122, 3) := by decide +kernel
theorem dX12_day_150 : decode cX12_day 150 = .ok (.iload 5, 2) := by decide +kernel
theorem dX12_day_152 : decode cX12_day 152 = .ok (.ifCond .le 12, 3) := by decide +kernel
theorem dX12_day_164 : decode cX12_day 164 = .ok (.iconst 0, 1) := by decide +kernel
theorem dX12_day_165 : decode cX12_day 165 = .ok (.ireturn, 1) := by decide +kernel
theorem dX12_duel_0 : decode cX12_duel 0 = .ok (.aload_n 0, 1) := by decide +kernel
theorem dX12_duel_1 : decode cX12_duel 1 = .ok (.iconst 0, 1) := by decide +kernel
theorem dX12_duel_2 : decode cX12_duel 2 = .ok (.putfield 111, 3) := by decide +kernel
theorem dX12_duel_5 : decode cX12_duel 5 = .ok (.aload_n 0, 1) := by decide +kernel
theorem dX12_duel_6 : decode cX12_duel 6 = .ok (.iload_n 1, 1) := by decide +kernel
theorem dX12_duel_7 : decode cX12_duel 7 = .ok (.iload_n 2, 1) := by decide +kernel
theorem dX12_duel_8 : decode cX12_duel 8 = .ok (.iload_n 3, 1) := by decide +kernel
theorem dX12_duel_9 : decode cX12_duel 9 = .ok (.iload 4, 2) := by decide +kernel
theorem dX12_duel_11 : decode cX12_duel 11 = .ok (.invokevirtual 405, 3) := by decide +kernel
theorem dX12_duel_14 : decode cX12_duel 14 = .ok (.ifCond .eq 16, 3) := by decide +kernel
theorem dX12_duel_30 : decode cX12_duel 30 = .ok (.iconst (-1), 1) := by decide +kernel
theorem dX12_duel_31 : decode cX12_duel 31 = .ok (.ireturn, 1) := by decide +kernel
theorem dX12_end_0 : decode cX12_end 0 = .ok (.aload_n 0, 1) := by decide +kernel
theorem dX12_end_1 : decode cX12_end 1 = .ok (.iconst 0, 1) := by decide +kernel
theorem dX12_end_2 : decode cX12_end 2 = .ok (.putfield 111, 3) := by decide +kernel
theorem dX12_end_5 : decode cX12_end 5 = .ok (.iload_n 1, 1) := by decide +kernel
theorem dX12_end_6 : decode cX12_end 6 = .ok (.i2l, 1) := by decide +kernel
theorem dX12_end_7 : decode cX12_end 7 = .ok (.lconst 0, 1) := by decide +kernel
theorem dX12_end_8 : decode cX12_end 8 = .ok (.aload_n 0, 1) := by decide +kernel
theorem dX12_end_9 : decode cX12_end 9 = .ok (.getfield 137, 3) := by decide +kernel
theorem dX12_end_12 : decode cX12_end 12 = .ok (.i2l, 1) := by decide +kernel
theorem dX12_end_13 : decode cX12_end 13 = .ok (.invokestatic 129, 3) := by decide +kernel
theorem dX12_end_16 : decode cX12_end 16 = .ok (.ifCond .ne 5, 3) := by decide +kernel
theorem dX12_end_19 : decode cX12_end 19 = .ok (.iconst 0, 1) := by decide +kernel
theorem dX12_end_20 : decode cX12_end 20 = .ok (.ireturn, 1) := by decide +kernel
theorem dX12_end_21 : decode cX12_end 21 = .ok (.aload_n 0, 1) := by decide +kernel
theorem dX12_end_22 : decode cX12_end 22 = .ok (.iload_n 1, 1) := by decide +kernel
theorem dX12_end_23 : decode cX12_end 23 = .ok (.putfield 137, 3) := by decide +kernel
theorem dX12_end_26 : decode cX12_end 26 = .ok (.iconst 1, 1) := by decide +kernel
theorem dX12_end_27 : decode cX12_end 27 = .ok (.ireturn, 1) := by decide +kernel
theorem dX12_enters_0 : decode cX12_enters 0 = .ok (.aload_n 0, 1) := by decide +kernel
theorem dX12_enters_1 : decode cX12_enters 1 = .ok (.getfield 9, 3) := by decide +kernel
theorem dX12_enters_4 : decode cX12_enters 4 = .ok (.aload_n 0, 1) := by decide +kernel
theorem dX12_enters_5 : decode cX12_enters 5 = .ok (.getfield 119, 3) := by decide +kernel
theorem dX12_enters_8 : decode cX12_enters 8 = .ok (.lload_n 1, 1) := by decide +kernel
theorem dX12_enters_9 : decode cX12_enters 9 = .ok (.lastore, 1) := by decide +kernel
theorem dX12_enters_10 : decode cX12_enters 10 = .ok (.aload_n 0, 1) := by decide +kernel
theorem dX12_enters_11 : decode cX12_enters 11 = .ok (.dup, 1) := by decide +kernel
theorem dX12_enters_12 : decode cX12_enters 12 = .ok (.getfield 119, 3) := by decide +kernel
theorem dX12_enters_15 : decode cX12_enters 15 = .ok (.iconst 1, 1) := by decide +kernel
theorem dX12_enters_16 : decode cX12_enters 16 = .ok (.iadd, 1) := by decide +kernel
theorem dX12_enters_17 : decode cX12_enters 17 = .ok (.putfield 119, 3) := by decide +kernel
theorem dX12_enters_20 : decode cX12_enters 20 = .ok (.return_, 1) := by decide +kernel
theorem dX12_faultOf_0 : decode cX12_faultOf 0 = .ok (.iload_n 3, 1) := by decide +kernel
theorem dX12_faultOf_1 : decode cX12_faultOf 1 = .ok (.ifCond .eq 18, 3) := by decide +kernel
theorem dX12_faultOf_4 : decode cX12_faultOf 4 = .ok (.aload_n 0, 1) := by decide +kernel
theorem dX12_faultOf_5 : decode cX12_faultOf 5 = .ok (.getfield 140, 3) := by decide +kernel
theorem dX12_faultOf_8 : decode cX12_faultOf 8 = .ok (.aload_n 0, 1) := by decide +kernel
theorem dX12_faultOf_9 : decode cX12_faultOf 9 = .ok (.getfield 152, 3) := by decide +kernel
theorem dX12_faultOf_12 : decode cX12_faultOf 12 = .ok (.if_icmp .ne 7, 3) := by decide +kernel
theorem dX12_faultOf_15 : decode cX12_faultOf 15 = .ok (.iconst 1, 1) := by decide +kernel
theorem dX12_faultOf_16 : decode cX12_faultOf 16 = .ok (.goto 4, 3) := by decide +kernel
theorem dX12_faultOf_20 : decode cX12_faultOf 20 = .ok (.istore 4, 2) := by decide +kernel
theorem dX12_faultOf_22 : decode cX12_faultOf 22 = .ok (.iload_n 1, 1) := by decide +kernel
theorem dX12_faultOf_23 : decode cX12_faultOf 23 = .ok (.iload_n 2, 1) := by decide +kernel
theorem dX12_faultOf_24 : decode cX12_faultOf 24 = .ok (.if_icmp .le 20, 3) := by decide +kernel
theorem dX12_faultOf_44 : decode cX12_faultOf 44 = .ok (.iload 4, 2) := by decide +kernel
theorem dX12_faultOf_46 : decode cX12_faultOf 46 = .ok (.ifCond .eq 7, 3) := by decide +kernel
theorem dX12_faultOf_49 : decode cX12_faultOf 49 = .ok (.iconst 0, 1) := by decide +kernel
theorem dX12_faultOf_50 : decode cX12_faultOf 50 = .ok (.goto 9, 3) := by decide +kernel
theorem dX12_faultOf_59 : decode cX12_faultOf 59 = .ok (.ireturn, 1) := by decide +kernel
theorem dX12_flag_0 : decode cX12_flag 0 = .ok (.iload_n 0, 1) := by decide +kernel
theorem dX12_flag_1 : decode cX12_flag 1 = .ok (.ifCond .eq 7, 3) := by decide +kernel
theorem dX12_flag_4 : decode cX12_flag 4 = .ok (.iconst 1, 1) := by decide +kernel
theorem dX12_flag_5 : decode cX12_flag 5 = .ok (.goto 4, 3) := by decide +kernel
theorem dX12_flag_8 : decode cX12_flag 8 = .ok (.iconst 0, 1) := by decide +kernel
theorem dX12_flag_9 : decode cX12_flag 9 = .ok (.ireturn, 1) := by decide +kernel
theorem dX12_flow_0 : decode cX12_flow 0 = .ok (.aload_n 0, 1) := by decide +kernel
theorem dX12_flow_1 : decode cX12_flow 1 = .ok (.iconst 0, 1) := by decide +kernel
theorem dX12_flow_2 : decode cX12_flow 2 = .ok (.putfield 111, 3) := by decide +kernel
theorem dX12_flow_5 : decode cX12_flow 5 = .ok (.iload_n 1, 1) := by decide +kernel
theorem dX12_flow_6 : decode cX12_flow 6 = .ok (.i2l, 1) := by decide +kernel
theorem dX12_flow_7 : decode cX12_flow 7 = .ok (.lconst 0, 1) := by decide +kernel
theorem dX12_flow_8 : decode cX12_flow 8 = .ok (.ldc2_w 314, 3) := by decide +kernel
theorem dX12_flow_11 : decode cX12_flow 11 = .ok (.invokestatic 129, 3) := by decide +kernel
theorem dX12_flow_14 : decode cX12_flow 14 = .ok (.ifCond .eq 11, 3) := by decide +kernel
theorem dX12_flow_17 : decode cX12_flow 17 = .ok (.aload_n 0, 1) := by decide +kernel
theorem dX12_flow_18 : decode cX12_flow 18 = .ok (.iload_n 1, 1) := by decide +kernel
theorem dX12_flow_19 : decode cX12_flow 19 = .ok (.invokevirtual 268, 3) := by decide +kernel
theorem dX12_flow_22 : decode cX12_flow 22 = .ok (.goto 4, 3) := by decide +kernel
theorem dX12_flow_25 : decode cX12_flow 25 = .ok (.iconst (-1), 1) := by decide +kernel
theorem dX12_flow_26 : decode cX12_flow 26 = .ok (.ireturn, 1) := by decide +kernel
theorem dX12_forget_0 : decode cX12_forget 0 = .ok (.aload_n 0, 1) := by decide +kernel
theorem dX12_forget_1 : decode cX12_forget 1 = .ok (.iconst 0, 1) := by decide +kernel
theorem dX12_forget_2 : decode cX12_forget 2 = .ok (.putfield 111, 3) := by decide +kernel
theorem dX12_forget_5 : decode cX12_forget 5 = .ok (.aload_n 0, 1) := by decide +kernel
theorem dX12_forget_6 : decode cX12_forget 6 = .ok (.getfield 217, 3) := by decide +kernel
theorem dX12_forget_9 : decode cX12_forget 9 = .ok (.istore_n 1, 1) := by decide +kernel
theorem dX12_forget_10 : decode cX12_forget 10 = .ok (.aload_n 0, 1) := by decide +kernel
theorem dX12_forget_11 : decode cX12_forget 11 = .ok (.iconst 0, 1) := by decide +kernel
theorem dX12_forget_12 : decode cX12_forget 12 = .ok (.putfield 217, 3) := by decide +kernel
theorem dX12_forget_15 : decode cX12_forget 15 = .ok (.iload_n 1, 1) := by decide +kernel
theorem dX12_forget_16 : decode cX12_forget 16 = .ok (.ireturn, 1) := by decide +kernel
theorem dX12_forks_0 : decode cX12_forks 0 = .ok (.iconst 0, 1) := by decide +kernel
theorem dX12_forks_1 : decode cX12_forks 1 = .ok (.istore_n 1, 1) := by decide +kernel
theorem dX12_forks_2 : decode cX12_forks 2 = .ok (.iconst 0, 1) := by decide +kernel
theorem dX12_forks_3 : decode cX12_forks 3 = .ok (.istore_n 2, 1) := by decide +kernel
theorem dX12_forks_4 : decode cX12_forks 4 = .ok (.iload_n 2, 1) := by decide +kernel
theorem dX12_forks_5 : decode cX12_forks 5 = .ok (.aload_n 0, 1) := by decide +kernel
theorem dX12_forks_6 : decode cX12_forks 6 = .ok (.getfield 126, 3) := by decide +kernel
theorem dX12_forks_9 : decode cX12_forks 9 = .ok (.if_icmp .ge 29, 3) := by decide +kernel
theorem dX12_forks_38 : decode cX12_forks 38 = .ok (.iload_n 1, 1) := by decide +kernel
theorem dX12_forks_39 : decode cX12_forks 39 = .ok (.ireturn, 1) := by decide +kernel
theorem dX12_give_0 : decode cX12_give 0 = .ok (.aload_n 0, 1) := by decide +kernel
theorem dX12_give_1 : decode cX12_give 1 = .ok (.iconst 0, 1) := by decide +kernel
theorem dX12_give_2 : decode cX12_give 2 = .ok (.putfield 111, 3) := by decide +kernel
theorem dX12_give_5 : decode cX12_give 5 = .ok (.aload_n 0, 1) := by decide +kernel
theorem dX12_give_6 : decode cX12_give 6 = .ok (.invokevirtual 319, 3) := by decide +kernel
theorem dX12_give_9 : decode cX12_give 9 = .ok (.aload_n 0, 1) := by decide +kernel
theorem dX12_give_10 : decode cX12_give 10 = .ok (.iload_n 1, 1) := by decide +kernel
theorem dX12_give_11 : decode cX12_give 11 = .ok (.iload_n 2, 1) := by decide +kernel
theorem dX12_give_12 : decode cX12_give 12 = .ok (.invokevirtual 343, 3) := by decide +kernel
theorem dX12_give_15 : decode cX12_give 15 = .ok (.istore_n 3, 1) := by decide +kernel
theorem dX12_give_16 : decode cX12_give 16 = .ok (.iload_n 3, 1) := by decide +kernel
theorem dX12_give_17 : decode cX12_give 17 = .ok (.ifCond .ge 7, 3) := by decide +kernel
theorem dX12_give_20 : decode cX12_give 20 = .ok (.iload_n 3, 1) := by decide +kernel
theorem dX12_give_21 : decode cX12_give 21 = .ok (.goto 8, 3) := by decide +kernel
theorem dX12_give_29 : decode cX12_give 29 = .ok (.ireturn, 1) := by decide +kernel
theorem dX12_gives_0 : decode cX12_gives 0 = .ok (.aload_n 0, 1) := by decide +kernel
theorem dX12_gives_1 : decode cX12_gives 1 = .ok (.iload_n 1, 1) := by decide +kernel
theorem dX12_gives_2 : decode cX12_gives 2 = .ok (.invokevirtual 309, 3) := by decide +kernel
theorem dX12_gives_5 : decode cX12_gives 5 = .ok (.ifCond .eq 29, 3) := by decide +kernel
theorem dX12_gives_34 : decode cX12_gives 34 = .ok (.iconst (-1), 1) := by decide +kernel
theorem dX12_gives_35 : decode cX12_gives 35 = .ok (.ireturn, 1) := by decide +kernel
theorem dX12_goesOn_0 : decode cX12_goesOn 0 = .ok (.aload_n 0, 1) := by decide +kernel
theorem dX12_goesOn_1 : decode cX12_goesOn 1 = .ok (.getfield 29, 3) := by decide +kernel
theorem dX12_goesOn_4 : decode cX12_goesOn 4 = .ok (.aload_n 0, 1) := by decide +kernel
theorem dX12_goesOn_5 : decode cX12_goesOn 5 = .ok (.getfield 32, 3) := by decide +kernel
theorem dX12_goesOn_8 : decode cX12_goesOn 8 = .ok (.invokestatic 374, 3) := by decide +kernel
theorem dX12_goesOn_11 : decode cX12_goesOn 11 = .ok (.iconst 0, 1) := by decide +kernel
theorem dX12_goesOn_12 : decode cX12_goesOn 12 = .ok (.istore_n 2, 1) := by decide +kernel
theorem dX12_goesOn_13 : decode cX12_goesOn 13 = .ok (.iload_n 2, 1) := by decide +kernel
theorem dX12_goesOn_14 : decode cX12_goesOn 14 = .ok (.iload_n 1, 1) := by decide +kernel
theorem dX12_goesOn_15 : decode cX12_goesOn 15 = .ok (.if_icmp .ge 17, 3) := by decide +kernel
theorem dX12_goesOn_18 : decode cX12_goesOn 18 = .ok (.aload_n 0, 1) := by decide +kernel
theorem dX12_goesOn_19 : decode cX12_goesOn 19 = .ok (.aload_n 0, 1) := by decide +kernel
theorem dX12_goesOn_20 : decode cX12_goesOn 20 = .ok (.getfield 32, 3) := by decide +kernel
theorem dX12_goesOn_23 : decode cX12_goesOn 23 = .ok (.invokevirtual 349, 3) := by decide +kernel
theorem dX12_goesOn_26 : decode cX12_goesOn 26 = .ok (.iinc 2 1, 3) := by decide +kernel
theorem dX12_goesOn_29 : decode cX12_goesOn 29 = .ok (.goto (-16), 3) := by decide +kernel
theorem dX12_goesOn_32 : decode cX12_goesOn 32 = .ok (.return_, 1) := by decide +kernel
theorem dX12_has_0 : decode cX12_has 0 = .ok (.iload_n 0, 1) := by decide +kernel
theorem dX12_has_1 : decode cX12_has 1 = .ok (.iload_n 1, 1) := by decide +kernel
theorem dX12_has_2 : decode cX12_has 2 = .ok (.ishr, 1) := by decide +kernel
theorem dX12_has_3 : decode cX12_has 3 = .ok (.iconst 1, 1) := by decide +kernel
theorem dX12_has_4 : decode cX12_has 4 = .ok (.iand, 1) := by decide +kernel
theorem dX12_has_5 : decode cX12_has 5 = .ok (.iconst 1, 1) := by decide +kernel
theorem dX12_has_6 : decode cX12_has 6 = .ok (.if_icmp .ne 7, 3) := by decide +kernel
theorem dX12_has_13 : decode cX12_has 13 = .ok (.iconst 0, 1) := by decide +kernel
theorem dX12_has_14 : decode cX12_has 14 = .ok (.ireturn, 1) := by decide +kernel
theorem dX12_homes_0 : decode cX12_homes 0 = .ok (.aload_n 0, 1) := by decide +kernel
theorem dX12_homes_1 : decode cX12_homes 1 = .ok (.iconst 0, 1) := by decide +kernel
theorem dX12_homes_2 : decode cX12_homes 2 = .ok (.putfield 111, 3) := by decide +kernel
theorem dX12_homes_5 : decode cX12_homes 5 = .ok (.iload_n 1, 1) := by decide +kernel
theorem dX12_homes_6 : decode cX12_homes 6 = .ok (.i2l, 1) := by decide +kernel
theorem dX12_homes_7 : decode cX12_homes 7 = .ok (.lconst 0, 1) := by decide +kernel
theorem dX12_homes_8 : decode cX12_homes 8 = .ok (.ldc2_w 378, 3) := by decide +kernel
theorem dX12_homes_11 : decode cX12_homes 11 = .ok (.invokestatic 129, 3) := by decide +kernel
theorem dX12_homes_14 : decode cX12_homes 14 = .ok (.ifCond .ne 5, 3) := by decide +kernel
theorem dX12_homes_17 : decode cX12_homes 17 = .ok (.iconst (-1), 1) := by decide +kernel
theorem dX12_homes_18 : decode cX12_homes 18 = .ok (.ireturn, 1) := by decide +kernel
theorem dX12_homes_19 : decode cX12_homes 19 = .ok (.aload_n 0, 1) := by decide +kernel
theorem dX12_homes_20 : decode cX12_homes 20 = .ok (.iload_n 1, 1) := by decide +kernel
theorem dX12_homes_21 : decode cX12_homes 21 = .ok (.invokevirtual 380, 3) := by decide +kernel
theorem dX12_homes_24 : decode cX12_homes 24 = .ok (.aload_n 0, 1) := by decide +kernel
theorem dX12_homes_25 : decode cX12_homes 25 = .ok (.iconst 0, 1) := by decide +kernel
theorem dX12_homes_26 : decode cX12_homes 26 = .ok (.putfield 119, 3) := by decide +kernel
theorem dX12_homes_29 : decode cX12_homes 29 = .ok (.aload_n 0, 1) := by decide +kernel
theorem dX12_homes_30 : decode cX12_homes 30 = .ok (.aload_n 0, 1) := by decide +kernel
theorem dX12_homes_31 : decode cX12_homes 31 = .ok (.getfield 32, 3) := by decide +kernel
theorem dX12_homes_34 : decode cX12_homes 34 = .ok (.iconst 2, 1) := by decide +kernel
theorem dX12_homes_35 : decode cX12_homes 35 = .ok (.invokestatic 346, 3) := by decide +kernel
theorem dX12_homes_38 : decode cX12_homes 38 = .ok (.i2l, 1) := by decide +kernel
theorem dX12_homes_39 : decode cX12_homes 39 = .ok (.invokevirtual 122, 3) := by decide +kernel
theorem dX12_homes_42 : decode cX12_homes 42 = .ok (.aload_n 0, 1) := by decide +kernel
theorem dX12_homes_43 : decode cX12_homes 43 = .ok (.aload_n 0, 1) := by decide +kernel
theorem dX12_homes_44 : decode cX12_homes 44 = .ok (.getfield 32, 3) := by decide +kernel
theorem dX12_homes_47 : decode cX12_homes 47 = .ok (.iconst 0, 1) := by decide +kernel
theorem dX12_homes_48 : decode cX12_homes 48 = .ok (.invokestatic 346, 3) := by decide +kernel
theorem dX12_homes_51 : decode cX12_homes 51 = .ok (.i2l, 1) := by decide +kernel
theorem dX12_homes_52 : decode cX12_homes 52 = .ok (.invokevirtual 122, 3) := by decide +kernel
theorem dX12_homes_55 : decode cX12_homes 55 = .ok (.aload_n 0, 1) := by decide +kernel
theorem dX12_homes_56 : decode cX12_homes 56 = .ok (.getfield 32, 3) := by decide +kernel
theorem dX12_homes_59 : decode cX12_homes 59 = .ok (.iconst 1, 1) := by decide +kernel
theorem dX12_homes_60 : decode cX12_homes 60 = .ok (.invokestatic 346, 3) := by decide +kernel
theorem dX12_homes_63 : decode cX12_homes 63 = .ok (.ireturn, 1) := by decide +kernel
theorem dX12_in_0 : decode cX12_in 0 = .ok (.lload_n 0, 1) := by decide +kernel
theorem dX12_in_1 : decode cX12_in 1 = .ok (.lload_n 2, 1) := by decide +kernel
theorem dX12_in_2 : decode cX12_in 2 = .ok (.lcmp, 1) := by decide +kernel
theorem dX12_in_3 : decode cX12_in 3 = .ok (.ifCond .lt 14, 3) := by decide +kernel
theorem dX12_in_6 : decode cX12_in 6 = .ok (.lload_n 0, 1) := by decide +kernel
theorem dX12_in_7 : decode cX12_in 7 = .ok (.lload 4, 2) := by decide +kernel
theorem dX12_in_9 : decode cX12_in 9 = .ok (.lcmp, 1) := by decide +kernel
theorem dX12_in_10 : decode cX12_in 10 = .ok (.ifCond .gt 7, 3) := by decide +kernel
theorem dX12_in_13 : decode cX12_in 13 = .ok (.iconst 1, 1) := by decide +kernel
theorem dX12_in_14 : decode cX12_in 14 = .ok (.goto 4, 3) := by decide +kernel
theorem dX12_in_17 : decode cX12_in 17 = .ok (.iconst 0, 1) := by decide +kernel
theorem dX12_in_18 : decode cX12_in 18 = .ok (.ireturn, 1) := by decide +kernel
theorem dX12_isFork_0 : decode cX12_isFork 0 = .ok (.aload_n 0, 1) := by decide +kernel
theorem dX12_isFork_1 : decode cX12_isFork 1 = .ok (.iload_n 1, 1) := by decide +kernel
theorem dX12_isFork_2 : decode cX12_isFork 2 = .ok (.invokevirtual 133, 3) := by decide +kernel
theorem dX12_isFork_5 : decode cX12_isFork 5 = .ok (.ifCond .eq 17, 3) := by decide +kernel
theorem dX12_isFork_22 : decode cX12_isFork 22 = .ok (.iconst 0, 1) := by decide +kernel
theorem dX12_isFork_23 : decode cX12_isFork 23 = .ok (.ireturn, 1) := by decide +kernel
theorem dX12_isKitchen_0 : decode cX12_isKitchen 0 = .ok (.aload_n 0, 1) := by decide +kernel
theorem dX12_isKitchen_1 : decode cX12_isKitchen 1 = .ok (.iload_n 1, 1) := by decide +kernel
theorem dX12_isKitchen_2 : decode cX12_isKitchen 2 = .ok (.invokevirtual 133, 3) := by decide +kernel
theorem dX12_isKitchen_5 : decode cX12_isKitchen 5 = .ok (.ifCond .eq 18, 3) := by decide +kernel
theorem dX12_isKitchen_23 : decode cX12_isKitchen 23 = .ok (.iconst 0, 1) := by decide +kernel
theorem dX12_isKitchen_24 : decode cX12_isKitchen 24 = .ok (.ireturn, 1) := by decide +kernel
theorem dX12_isPlace_0 : decode cX12_isPlace 0 = .ok (.iload_n 1, 1) := by decide +kernel
theorem dX12_isPlace_1 : decode cX12_isPlace 1 = .ok (.i2l, 1) := by decide +kernel
theorem dX12_isPlace_2 : decode cX12_isPlace 2 = .ok (.lconst 0, 1) := by decide +kernel
theorem dX12_isPlace_3 : decode cX12_isPlace 3 = .ok (.aload_n 0, 1) := by decide +kernel
theorem dX12_isPlace_4 : decode cX12_isPlace 4 = .ok (.getfield 126, 3) := by decide +kernel
theorem dX12_isPlace_7 : decode cX12_isPlace 7 = .ok (.iconst 1, 1) := by decide +kernel
theorem dX12_isPlace_8 : decode cX12_isPlace 8 = .ok (.isub, 1) := by decide +kernel
theorem dX12_isPlace_9 : decode cX12_isPlace 9 = .ok (.i2l, 1) := by decide +kernel
theorem dX12_isPlace_10 : decode cX12_isPlace 10 = .ok (.invokestatic 129, 3) := by decide +kernel
theorem dX12_isPlace_13 : decode cX12_isPlace 13 = .ok (.ireturn, 1) := by decide +kernel
theorem dX12_isThing_0 : decode cX12_isThing 0 = .ok (.iload_n 1, 1) := by decide +kernel
theorem dX12_isThing_1 : decode cX12_isThing 1 = .ok (.i2l, 1) := by decide +kernel
theorem dX12_isThing_2 : decode cX12_isThing 2 = .ok (.lconst 0, 1) := by decide +kernel
theorem dX12_isThing_3 : decode cX12_isThing 3 = .ok (.aload_n 0, 1) := by decide +kernel
theorem dX12_isThing_4 : decode cX12_isThing 4 = .ok (.getfield 29, 3) := by decide +kernel
theorem dX12_isThing_7 : decode cX12_isThing 7 = .ok (.bipush 44, 2) := by decide +kernel
theorem dX12_isThing_9 : decode cX12_isThing 9 = .ok (.iaload, 1) := by decide +kernel
theorem dX12_isThing_10 : decode cX12_isThing 10 = .ok (.iconst 1, 1) := by decide +kernel
theorem dX12_isThing_11 : decode cX12_isThing 11 = .ok (.isub, 1) := by decide +kernel
theorem dX12_isThing_12 : decode cX12_isThing 12 = .ok (.i2l, 1) := by decide +kernel
theorem dX12_isThing_13 : decode cX12_isThing 13 = .ok (.invokestatic 129, 3) := by decide +kernel
theorem dX12_isThing_16 : decode cX12_isThing 16 = .ok (.ireturn, 1) := by decide +kernel
theorem dX12_keep_0 : decode cX12_keep 0 = .ok (.aload_n 0, 1) := by decide +kernel
theorem dX12_keep_1 : decode cX12_keep 1 = .ok (.iconst 0, 1) := by decide +kernel
theorem dX12_keep_2 : decode cX12_keep 2 = .ok (.putfield 111, 3) := by decide +kernel
theorem dX12_keep_5 : decode cX12_keep 5 = .ok (.iload_n 1, 1) := by decide +kernel
theorem dX12_keep_6 : decode cX12_keep 6 = .ok (.i2l, 1) := by decide +kernel
theorem dX12_keep_7 : decode cX12_keep 7 = .ok (.lconst 0, 1) := by decide +kernel
theorem dX12_keep_8 : decode cX12_keep 8 = .ok (.ldc2_w 461, 3) := by decide +kernel
theorem dX12_keep_11 : decode cX12_keep 11 = .ok (.invokestatic 129, 3) := by decide +kernel
theorem dX12_keep_14 : decode cX12_keep 14 = .ok (.ifCond .ne 5, 3) := by decide +kernel
theorem dX12_keep_17 : decode cX12_keep 17 = .ok (.iconst 0, 1) := by decide +kernel
theorem dX12_keep_18 : decode cX12_keep 18 = .ok (.ireturn, 1) := by decide +kernel
theorem dX12_keep_19 : decode cX12_keep 19 = .ok (.aload_n 0, 1) := by decide +kernel
theorem dX12_keep_20 : decode cX12_keep 20 = .ok (.getfield 105, 3) := by decide +kernel
theorem dX12_keep_23 : decode cX12_keep 23 = .ok (.iload_n 1, 1) := by decide +kernel
theorem dX12_keep_24 : decode cX12_keep 24 = .ok (.iconst 1, 1) := by decide +kernel
theorem dX12_keep_25 : decode cX12_keep 25 = .ok (.bastore, 1) := by decide +kernel
theorem dX12_keep_26 : decode cX12_keep 26 = .ok (.iconst 0, 1) := by decide +kernel
theorem dX12_keep_27 : decode cX12_keep 27 = .ok (.istore_n 2, 1) := by decide +kernel
theorem dX12_keep_28 : decode cX12_keep 28 = .ok (.iload_n 2, 1) := by decide +kernel
theorem dX12_keep_29 : decode cX12_keep 29 = .ok (.bipush 45, 2) := by decide +kernel
theorem dX12_keep_31 : decode cX12_keep 31 = .ok (.if_icmp .ge 26, 3) := by decide +kernel
theorem dX12_keep_34 : decode cX12_keep 34 = .ok (.aload_n 0, 1) := by decide +kernel
theorem dX12_keep_35 : decode cX12_keep 35 = .ok (.getfield 108, 3) := by decide +kernel
theorem dX12_keep_38 : decode cX12_keep 38 = .ok (.bipush 45, 2) := by decide +kernel
theorem dX12_keep_40 : decode cX12_keep 40 = .ok (.iload_n 1, 1) := by decide +kernel
theorem dX12_keep_41 : decode cX12_keep 41 = .ok (.imul, 1) := by decide +kernel
theorem dX12_keep_42 : decode cX12_keep 42 = .ok (.iload_n 2, 1) := by decide +kernel
theorem dX12_keep_43 : decode cX12_keep 43 = .ok (.iadd, 1) := by decide +kernel
theorem dX12_keep_44 : decode cX12_keep 44 = .ok (.aload_n 0, 1) := by decide +kernel
theorem dX12_keep_45 : decode cX12_keep 45 = .ok (.getfield 29, 3) := by decide +kernel
theorem dX12_keep_48 : decode cX12_keep 48 = .ok (.iload_n 2, 1) := by decide +kernel
theorem dX12_keep_49 : decode cX12_keep 49 = .ok (.iaload, 1) := by decide +kernel
theorem dX12_keep_50 : decode cX12_keep 50 = .ok (.iastore, 1) := by decide +kernel
theorem dX12_keep_51 : decode cX12_keep 51 = .ok (.iinc 2 1, 3) := by decide +kernel
theorem dX12_keep_54 : decode cX12_keep 54 = .ok (.goto (-26), 3) := by decide +kernel
theorem dX12_keep_57 : decode cX12_keep 57 = .ok (.iconst 1, 1) := by decide +kernel
theorem dX12_keep_58 : decode cX12_keep 58 = .ok (.ireturn, 1) := by decide +kernel
theorem dX12_laysFits_0 : decode cX12_laysFits 0 = .ok (.aload_n 0, 1) := by decide +kernel
theorem dX12_laysFits_1 : decode cX12_laysFits 1 = .ok (.invokevirtual 416, 3) := by decide +kernel
theorem dX12_laysFits_4 : decode cX12_laysFits 4 = .ok (.istore_n 1, 1) := by decide +kernel
theorem dX12_laysFits_5 : decode cX12_laysFits 5 = .ok (.iconst 0, 1) := by decide +kernel
theorem dX12_laysFits_6 : decode cX12_laysFits 6 = .ok (.istore_n 2, 1) := by decide +kernel
theorem dX12_laysFits_7 : decode cX12_laysFits 7 = .ok (.iconst 0, 1) := by decide +kernel
theorem dX12_laysFits_8 : decode cX12_laysFits 8 = .ok (.istore_n 3, 1) := by decide +kernel
theorem dX12_laysFits_9 : decode cX12_laysFits 9 = .ok (.iload_n 3, 1) := by decide +kernel
theorem dX12_laysFits_10 : decode cX12_laysFits 10 = .ok (.iload_n 1, 1) := by decide +kernel
theorem dX12_laysFits_11 : decode cX12_laysFits 11 = .ok (.if_icmp .gt 99, 3) := by decide +kernel
theorem dX12_laysFits_14 : decode cX12_laysFits 14 = .ok (.iload_n 3, 1) := by decide +kernel
theorem dX12_laysFits_15 : decode cX12_laysFits 15 = .ok (.iload_n 1, 1) := by decide +kernel
theorem dX12_laysFits_16 : decode cX12_laysFits 16 = .ok (.iconst (-1), 1) := by decide +kernel
theorem dX12_laysFits_17 : decode cX12_laysFits 17 = .ok (.ixor, 1) := by decide +kernel
theorem dX12_laysFits_18 : decode cX12_laysFits 18 = .ok (.iand, 1) := by decide +kernel
theorem dX12_laysFits_19 : decode cX12_laysFits 19 = .ok (.ifCond .ne 7, 3) := by decide +kernel
theorem dX12_laysFits_22 : decode cX12_laysFits 22 = .ok (.iconst 1, 1) := by decide +kernel
theorem dX12_laysFits_23 : decode cX12_laysFits 23 = .ok (.goto 4, 3) := by decide +kernel
theorem dX12_laysFits_27 : decode cX12_laysFits 27 = .ok (.istore 4, 2) := by decide +kernel
theorem dX12_laysFits_29 : decode cX12_laysFits 29 = .ok (.iconst 0, 1) := by decide +kernel
theorem dX12_laysFits_30 : decode cX12_laysFits 30 = .ok (.istore 5, 2) := by decide +kernel
theorem dX12_laysFits_32 : decode cX12_laysFits 32 = .ok (.iload 5, 2) := by decide +kernel
theorem dX12_laysFits_34 : decode cX12_laysFits 34 = .ok (.aload_n 0, 1) := by decide +kernel
theorem dX12_laysFits_35 : decode cX12_laysFits 35 = .ok (.getfield 217, 3) := by decide +kernel
theorem dX12_laysFits_38 : decode cX12_laysFits 38 = .ok (.if_icmp .ge 50, 3) := by decide +kernel
theorem dX12_laysFits_88 : decode cX12_laysFits 88 = .ok (.aload_n 0, 1) := by decide +kernel
theorem dX12_laysFits_89 : decode cX12_laysFits 89 = .ok (.getfield 98, 3) := by decide +kernel
theorem dX12_laysFits_92 : decode cX12_laysFits 92 = .ok (.iload_n 3, 1) := by decide +kernel
theorem dX12_laysFits_93 : decode cX12_laysFits 93 = .ok (.iload 4, 2) := by decide +kernel
theorem dX12_laysFits_95 : decode cX12_laysFits 95 = .ok (.bastore, 1) := by decide +kernel
theorem dX12_laysFits_96 : decode cX12_laysFits 96 = .ok (.iload_n 2, 1) := by decide +kernel
theorem dX12_laysFits_97 : decode cX12_laysFits 97 = .ok (.iload 4, 2) := by decide +kernel
theorem dX12_laysFits_99 : decode cX12_laysFits 99 = .ok (.invokestatic 155, 3) := by decide +kernel
theorem dX12_laysFits_102 : decode cX12_laysFits 102 = .ok (.iadd, 1) := by decide +kernel
theorem dX12_laysFits_103 : decode cX12_laysFits 103 = .ok (.istore_n 2, 1) := by decide +kernel
theorem dX12_laysFits_104 : decode cX12_laysFits 104 = .ok (.iinc 3 1, 3) := by decide +kernel
theorem dX12_laysFits_107 : decode cX12_laysFits 107 = .ok (.goto (-98), 3) := by decide +kernel
theorem dX12_laysFits_110 : decode cX12_laysFits 110 = .ok (.iload_n 2, 1) := by decide +kernel
theorem dX12_laysFits_111 : decode cX12_laysFits 111 = .ok (.ireturn, 1) := by decide +kernel
theorem dX12_lost_0 : decode cX12_lost 0 = .ok (.aload_n 0, 1) := by decide +kernel
theorem dX12_lost_1 : decode cX12_lost 1 = .ok (.iconst 0, 1) := by decide +kernel
theorem dX12_lost_2 : decode cX12_lost 2 = .ok (.putfield 111, 3) := by decide +kernel
theorem dX12_lost_5 : decode cX12_lost 5 = .ok (.iload_n 1, 1) := by decide +kernel
theorem dX12_lost_6 : decode cX12_lost 6 = .ok (.i2l, 1) := by decide +kernel
theorem dX12_lost_7 : decode cX12_lost 7 = .ok (.lconst 0, 1) := by decide +kernel
theorem dX12_lost_8 : decode cX12_lost 8 = .ok (.ldc2_w 378, 3) := by decide +kernel
theorem dX12_lost_11 : decode cX12_lost 11 = .ok (.invokestatic 129, 3) := by decide +kernel
theorem dX12_lost_14 : decode cX12_lost 14 = .ok (.ifCond .ne 5, 3) := by decide +kernel
theorem dX12_lost_17 : decode cX12_lost 17 = .ok (.iconst (-1), 1) := by decide +kernel
theorem dX12_lost_18 : decode cX12_lost 18 = .ok (.ireturn, 1) := by decide +kernel
theorem dX12_lost_19 : decode cX12_lost 19 = .ok (.aload_n 0, 1) := by decide +kernel
theorem dX12_lost_20 : decode cX12_lost 20 = .ok (.getfield 29, 3) := by decide +kernel
theorem dX12_lost_23 : decode cX12_lost 23 = .ok (.aload_n 0, 1) := by decide +kernel
theorem dX12_lost_24 : decode cX12_lost 24 = .ok (.getfield 32, 3) := by decide +kernel
theorem dX12_lost_27 : decode cX12_lost 27 = .ok (.invokestatic 374, 3) := by decide +kernel
theorem dX12_lost_30 : decode cX12_lost 30 = .ok (.aload_n 0, 1) := by decide +kernel
theorem dX12_lost_31 : decode cX12_lost 31 = .ok (.getfield 32, 3) := by decide +kernel
theorem dX12_lost_34 : decode cX12_lost 34 = .ok (.iconst 2, 1) := by decide +kernel
theorem dX12_lost_35 : decode cX12_lost 35 = .ok (.invokestatic 346, 3) := by decide +kernel
theorem dX12_lost_38 : decode cX12_lost 38 = .ok (.istore_n 2, 1) := by decide +kernel
theorem dX12_lost_39 : decode cX12_lost 39 = .ok (.iconst 1, 1) := by decide +kernel
theorem dX12_lost_40 : decode cX12_lost 40 = .ok (.istore_n 3, 1) := by decide +kernel
theorem dX12_lost_41 : decode cX12_lost 41 = .ok (.iload_n 3, 1) := by decide +kernel
theorem dX12_lost_42 : decode cX12_lost 42 = .ok (.iload_n 1, 1) := by decide +kernel
theorem dX12_lost_43 : decode cX12_lost 43 = .ok (.if_icmp .gt 74, 3) := by decide +kernel
theorem dX12_lost_46 : decode cX12_lost 46 = .ok (.aload_n 0, 1) := by decide +kernel
theorem dX12_lost_47 : decode cX12_lost 47 = .ok (.aload_n 0, 1) := by decide +kernel
theorem dX12_lost_48 : decode cX12_lost 48 = .ok (.getfield 32, 3) := by decide +kernel
theorem dX12_lost_51 : decode cX12_lost 51 = .ok (.invokevirtual 349, 3) := by decide +kernel
theorem dX12_lost_54 : decode cX12_lost 54 = .ok (.aload_n 0, 1) := by decide +kernel
theorem dX12_lost_55 : decode cX12_lost 55 = .ok (.getfield 32, 3) := by decide +kernel
theorem dX12_lost_58 : decode cX12_lost 58 = .ok (.iconst 2, 1) := by decide +kernel
theorem dX12_lost_59 : decode cX12_lost 59 = .ok (.invokestatic 346, 3) := by decide +kernel
theorem dX12_lost_62 : decode cX12_lost 62 = .ok (.iload_n 2, 1) := by decide +kernel
theorem dX12_lost_63 : decode cX12_lost 63 = .ok (.iconst (-1), 1) := by decide +kernel
theorem dX12_lost_64 : decode cX12_lost 64 = .ok (.ixor, 1) := by decide +kernel
theorem dX12_lost_65 : decode cX12_lost 65 = .ok (.iand, 1) := by decide +kernel
theorem dX12_lost_66 : decode cX12_lost 66 = .ok (.istore 4, 2) := by decide +kernel
theorem dX12_lost_68 : decode cX12_lost 68 = .ok (.iload 4, 2) := by decide +kernel
theorem dX12_lost_70 : decode cX12_lost 70 = .ok (.ifCond .eq 41, 3) := by decide +kernel
theorem dX12_lost_111 : decode cX12_lost 111 = .ok (.iinc 3 1, 3) := by decide +kernel
theorem dX12_lost_114 : decode cX12_lost 114 = .ok (.goto (-73), 3) := by decide +kernel
theorem dX12_lost_117 : decode cX12_lost 117 = .ok (.bipush (-2), 2) := by decide +kernel
theorem dX12_lost_119 : decode cX12_lost 119 = .ok (.ireturn, 1) := by decide +kernel
theorem dX12_maps_0 : decode cX12_maps 0 = .ok (.aload_n 0, 1) := by decide +kernel
theorem dX12_maps_1 : decode cX12_maps 1 = .ok (.iconst 0, 1) := by decide +kernel
theorem dX12_maps_2 : decode cX12_maps 2 = .ok (.putfield 111, 3) := by decide +kernel
theorem dX12_maps_5 : decode cX12_maps 5 = .ok (.aload_n 0, 1) := by decide +kernel
theorem dX12_maps_6 : decode cX12_maps 6 = .ok (.invokevirtual 448, 3) := by decide +kernel
theorem dX12_maps_9 : decode cX12_maps 9 = .ok (.istore_n 1, 1) := by decide +kernel
theorem dX12_maps_10 : decode cX12_maps 10 = .ok (.aload_n 0, 1) := by decide +kernel
theorem dX12_maps_11 : decode cX12_maps 11 = .ok (.invokevirtual 416, 3) := by decide +kernel
theorem dX12_maps_14 : decode cX12_maps 14 = .ok (.istore_n 2, 1) := by decide +kernel
theorem dX12_maps_15 : decode cX12_maps 15 = .ok (.iconst (-1), 1) := by decide +kernel
theorem dX12_maps_16 : decode cX12_maps 16 = .ok (.istore_n 3, 1) := by decide +kernel
theorem dX12_maps_17 : decode cX12_maps 17 = .ok (.iload_n 1, 1) := by decide +kernel
theorem dX12_maps_18 : decode cX12_maps 18 = .ok (.ifCond .le 7, 3) := by decide +kernel
theorem dX12_maps_21 : decode cX12_maps 21 = .ok (.iload_n 2, 1) := by decide +kernel
theorem dX12_maps_22 : decode cX12_maps 22 = .ok (.goto 4, 3) := by decide +kernel
theorem dX12_maps_26 : decode cX12_maps 26 = .ok (.istore 4, 2) := by decide +kernel
theorem dX12_maps_28 : decode cX12_maps 28 = .ok (.iconst 0, 1) := by decide +kernel
theorem dX12_maps_29 : decode cX12_maps 29 = .ok (.istore 5, 2) := by decide +kernel
theorem dX12_maps_31 : decode cX12_maps 31 = .ok (.iconst 0, 1) := by decide +kernel
theorem dX12_maps_32 : decode cX12_maps 32 = .ok (.istore 6, 2) := by decide +kernel
theorem dX12_maps_34 : decode cX12_maps 34 = .ok (.iload 6, 2) := by decide +kernel
theorem dX12_maps_36 : decode cX12_maps 36 = .ok (.iload_n 2, 1) := by decide +kernel
theorem dX12_maps_37 : decode cX12_maps 37 = .ok (.if_icmp .gt 44, 3) := by decide +kernel
theorem dX12_maps_40 : decode cX12_maps 40 = .ok (.aload_n 0, 1) := by decide +kernel
theorem dX12_maps_41 : decode cX12_maps 41 = .ok (.getfield 98, 3) := by decide +kernel
theorem dX12_maps_44 : decode cX12_maps 44 = .ok (.iload 6, 2) := by decide +kernel
theorem dX12_maps_46 : decode cX12_maps 46 = .ok (.baload, 1) := by decide +kernel
theorem dX12_maps_47 : decode cX12_maps 47 = .ok (.ifCond .eq 28, 3) := by decide +kernel
theorem dX12_maps_50 : decode cX12_maps 50 = .ok (.iload_n 3, 1) := by decide +kernel
theorem dX12_maps_51 : decode cX12_maps 51 = .ok (.ifCond .ge 8, 3) := by decide +kernel
theorem dX12_maps_54 : decode cX12_maps 54 = .ok (.iload 6, 2) := by decide +kernel
theorem dX12_maps_56 : decode cX12_maps 56 = .ok (.goto 4, 3) := by decide +kernel
theorem dX12_maps_60 : decode cX12_maps 60 = .ok (.istore_n 3, 1) := by decide +kernel
theorem dX12_maps_61 : decode cX12_maps 61 = .ok (.iload 4, 2) := by decide +kernel
theorem dX12_maps_63 : decode cX12_maps 63 = .ok (.iload 6, 2) := by decide +kernel
theorem dX12_maps_65 : decode cX12_maps 65 = .ok (.iand, 1) := by decide +kernel
theorem dX12_maps_66 : decode cX12_maps 66 = .ok (.istore 4, 2) := by decide +kernel
theorem dX12_maps_68 : decode cX12_maps 68 = .ok (.iload 5, 2) := by decide +kernel
theorem dX12_maps_70 : decode cX12_maps 70 = .ok (.iload 6, 2) := by decide +kernel
theorem dX12_maps_72 : decode cX12_maps 72 = .ok (.ior, 1) := by decide +kernel
theorem dX12_maps_73 : decode cX12_maps 73 = .ok (.istore 5, 2) := by decide +kernel
theorem dX12_maps_75 : decode cX12_maps 75 = .ok (.iinc 6 1, 3) := by decide +kernel
theorem dX12_maps_78 : decode cX12_maps 78 = .ok (.goto (-44), 3) := by decide +kernel
theorem dX12_maps_81 : decode cX12_maps 81 = .ok (.aload_n 0, 1) := by decide +kernel
theorem dX12_maps_82 : decode cX12_maps 82 = .ok (.iconst 0, 1) := by decide +kernel
theorem dX12_maps_83 : decode cX12_maps 83 = .ok (.putfield 119, 3) := by decide +kernel
theorem dX12_maps_86 : decode cX12_maps 86 = .ok (.aload_n 0, 1) := by decide +kernel
theorem dX12_maps_87 : decode cX12_maps 87 = .ok (.iload_n 3, 1) := by decide +kernel
theorem dX12_maps_88 : decode cX12_maps 88 = .ok (.i2l, 1) := by decide +kernel
theorem dX12_maps_89 : decode cX12_maps 89 = .ok (.invokevirtual 122, 3) := by decide +kernel
theorem dX12_maps_92 : decode cX12_maps 92 = .ok (.aload_n 0, 1) := by decide +kernel
theorem dX12_maps_93 : decode cX12_maps 93 = .ok (.iload 4, 2) := by decide +kernel
theorem dX12_maps_95 : decode cX12_maps 95 = .ok (.i2l, 1) := by decide +kernel
theorem dX12_maps_96 : decode cX12_maps 96 = .ok (.invokevirtual 122, 3) := by decide +kernel
theorem dX12_maps_99 : decode cX12_maps 99 = .ok (.aload_n 0, 1) := by decide +kernel
theorem dX12_maps_100 : decode cX12_maps 100 = .ok (.iload_n 1, 1) := by decide +kernel
theorem dX12_maps_101 : decode cX12_maps 101 = .ok (.ifCond .le 13, 3) := by decide +kernel
theorem dX12_maps_104 : decode cX12_maps 104 = .ok (.iload_n 2, 1) := by decide +kernel
theorem dX12_maps_105 : decode cX12_maps 105 = .ok (.iload 5, 2) := by decide +kernel
theorem dX12_maps_107 : decode cX12_maps 107 = .ok (.iconst (-1), 1) := by decide +kernel
theorem dX12_maps_108 : decode cX12_maps 108 = .ok (.ixor, 1) := by decide +kernel
theorem dX12_maps_109 : decode cX12_maps 109 = .ok (.iand, 1) := by decide +kernel
theorem dX12_maps_110 : decode cX12_maps 110 = .ok (.i2l, 1) := by decide +kernel
theorem dX12_maps_111 : decode cX12_maps 111 = .ok (.goto 4, 3) := by decide +kernel
theorem dX12_maps_115 : decode cX12_maps 115 = .ok (.invokevirtual 122, 3) := by decide +kernel
theorem dX12_maps_118 : decode cX12_maps 118 = .ok (.iload_n 1, 1) := by decide +kernel
theorem dX12_maps_119 : decode cX12_maps 119 = .ok (.ireturn, 1) := by decide +kernel
theorem dX12_marks_0 : decode cX12_marks 0 = .ok (.aload_n 0, 1) := by decide +kernel
theorem dX12_marks_1 : decode cX12_marks 1 = .ok (.iconst 0, 1) := by decide +kernel
theorem dX12_marks_2 : decode cX12_marks 2 = .ok (.putfield 111, 3) := by decide +kernel
theorem dX12_marks_5 : decode cX12_marks 5 = .ok (.iload_n 1, 1) := by decide +kernel
theorem dX12_marks_6 : decode cX12_marks 6 = .ok (.i2l, 1) := by decide +kernel
theorem dX12_marks_7 : decode cX12_marks 7 = .ok (.lconst 0, 1) := by decide +kernel
theorem dX12_marks_8 : decode cX12_marks 8 = .ok (.ldc2_w 327, 3) := by decide +kernel
theorem dX12_marks_11 : decode cX12_marks 11 = .ok (.invokestatic 129, 3) := by decide +kernel
theorem dX12_marks_14 : decode cX12_marks 14 = .ok (.ifCond .eq 27, 3) := by decide +kernel
theorem dX12_marks_17 : decode cX12_marks 17 = .ok (.iload_n 2, 1) := by decide +kernel
theorem dX12_marks_18 : decode cX12_marks 18 = .ok (.i2l, 1) := by decide +kernel
theorem dX12_marks_19 : decode cX12_marks 19 = .ok (.lconst 0, 1) := by decide +kernel
theorem dX12_marks_20 : decode cX12_marks 20 = .ok (.ldc2_w 329, 3) := by decide +kernel
theorem dX12_marks_23 : decode cX12_marks 23 = .ok (.invokestatic 129, 3) := by decide +kernel
theorem dX12_marks_26 : decode cX12_marks 26 = .ok (.ifCond .eq 15, 3) := by decide +kernel
theorem dX12_marks_29 : decode cX12_marks 29 = .ok (.iload_n 3, 1) := by decide +kernel
theorem dX12_marks_30 : decode cX12_marks 30 = .ok (.i2l, 1) := by decide +kernel
theorem dX12_marks_31 : decode cX12_marks 31 = .ok (.lconst 0, 1) := by decide +kernel
theorem dX12_marks_32 : decode cX12_marks 32 = .ok (.ldc2_w 459, 3) := by decide +kernel
theorem dX12_marks_35 : decode cX12_marks 35 = .ok (.invokestatic 129, 3) := by decide +kernel
theorem dX12_marks_38 : decode cX12_marks 38 = .ok (.ifCond .ne 5, 3) := by decide +kernel
theorem dX12_marks_41 : decode cX12_marks 41 = .ok (.iconst (-1), 1) := by decide +kernel
theorem dX12_marks_42 : decode cX12_marks 42 = .ok (.ireturn, 1) := by decide +kernel
theorem dX12_marks_43 : decode cX12_marks 43 = .ok (.aload_n 0, 1) := by decide +kernel
theorem dX12_marks_44 : decode cX12_marks 44 = .ok (.invokevirtual 409, 3) := by decide +kernel
theorem dX12_marks_47 : decode cX12_marks 47 = .ok (.iconst 0, 1) := by decide +kernel
theorem dX12_marks_48 : decode cX12_marks 48 = .ok (.istore 4, 2) := by decide +kernel
theorem dX12_marks_50 : decode cX12_marks 50 = .ok (.iconst (-1), 1) := by decide +kernel
theorem dX12_marks_51 : decode cX12_marks 51 = .ok (.istore 5, 2) := by decide +kernel
theorem dX12_marks_53 : decode cX12_marks 53 = .ok (.iconst (-1), 1) := by decide +kernel
theorem dX12_marks_54 : decode cX12_marks 54 = .ok (.istore 6, 2) := by decide +kernel
theorem dX12_marks_56 : decode cX12_marks 56 = .ok (.iconst 0, 1) := by decide +kernel
theorem dX12_marks_57 : decode cX12_marks 57 = .ok (.istore 7, 2) := by decide +kernel
theorem dX12_marks_59 : decode cX12_marks 59 = .ok (.iconst 0, 1) := by decide +kernel
theorem dX12_marks_60 : decode cX12_marks 60 = .ok (.istore 8, 2) := by decide +kernel
theorem dX12_marks_62 : decode cX12_marks 62 = .ok (.iload 8, 2) := by decide +kernel
theorem dX12_marks_64 : decode cX12_marks 64 = .ok (.aload_n 0, 1) := by decide +kernel
theorem dX12_marks_65 : decode cX12_marks 65 = .ok (.getfield 126, 3) := by decide +kernel
theorem dX12_marks_68 : decode cX12_marks 68 = .ok (.if_icmp .ge 98, 3) := by decide +kernel
theorem dX12_marks_166 : decode cX12_marks 166 = .ok (.aload_n 0, 1) := by decide +kernel
theorem dX12_marks_167 : decode cX12_marks 167 = .ok (.iconst 0, 1) := by decide +kernel
theorem dX12_marks_168 : decode cX12_marks 168 = .ok (.putfield 119, 3) := by decide +kernel
theorem dX12_marks_171 : decode cX12_marks 171 = .ok (.iload 4, 2) := by decide +kernel
theorem dX12_marks_173 : decode cX12_marks 173 = .ok (.ifCond .le 17, 3) := by decide +kernel
theorem dX12_marks_190 : decode cX12_marks 190 = .ok (.aload_n 0, 1) := by decide +kernel
theorem dX12_marks_191 : decode cX12_marks 191 = .ok (.iload 7, 2) := by decide +kernel
theorem dX12_marks_193 : decode cX12_marks 193 = .ok (.i2l, 1) := by decide +kernel
theorem dX12_marks_194 : decode cX12_marks 194 = .ok (.invokevirtual 122, 3) := by decide +kernel
theorem dX12_marks_197 : decode cX12_marks 197 = .ok (.iload 4, 2) := by decide +kernel
theorem dX12_marks_199 : decode cX12_marks 199 = .ok (.ireturn, 1) := by decide +kernel
theorem dX12_minuteGoes_0 : decode cX12_minuteGoes 0 = .ok (.aload_n 0, 1) := by decide +kernel
theorem dX12_minuteGoes_1 : decode cX12_minuteGoes 1 = .ok (.aload_n 1, 1) := by decide +kernel
theorem dX12_minuteGoes_2 : decode cX12_minuteGoes 2 = .ok (.bipush 43, 2) := by decide +kernel
theorem dX12_minuteGoes_4 : decode cX12_minuteGoes 4 = .ok (.iaload, 1) := by decide +kernel
theorem dX12_minuteGoes_5 : decode cX12_minuteGoes 5 = .ok (.invokevirtual 268, 3) := by decide +kernel
theorem dX12_minuteGoes_8 : decode cX12_minuteGoes 8 = .ok (.istore_n 2, 1) := by decide +kernel
theorem dX12_minuteGoes_9 : decode cX12_minuteGoes 9 = .ok (.iconst 0, 1) := by decide +kernel
theorem dX12_minuteGoes_10 : decode cX12_minuteGoes 10 = .ok (.istore_n 3, 1) := by decide +kernel
theorem dX12_minuteGoes_11 : decode cX12_minuteGoes 11 = .ok (.iload_n 3, 1) := by decide +kernel
theorem dX12_minuteGoes_12 : decode cX12_minuteGoes 12 = .ok (.aload_n 1, 1) := by decide +kernel
theorem dX12_minuteGoes_13 : decode cX12_minuteGoes 13 = .ok (.bipush 44, 2) := by decide +kernel
theorem dX12_minuteGoes_15 : decode cX12_minuteGoes 15 = .ok (.iaload, 1) := by decide +kernel
theorem dX12_minuteGoes_16 : decode cX12_minuteGoes 16 = .ok (.if_icmp .ge 70, 3) := by decide +kernel
theorem dX12_minuteGoes_86 : decode cX12_minuteGoes 86 = .ok (.aload_n 1, 1) := by decide +kernel
theorem dX12_minuteGoes_87 : decode cX12_minuteGoes 87 = .ok (.bipush 43, 2) := by decide +kernel
theorem dX12_minuteGoes_89 : decode cX12_minuteGoes 89 = .ok (.dup2, 1) := by decide +kernel
theorem dX12_minuteGoes_90 : decode cX12_minuteGoes 90 = .ok (.iaload, 1) := by decide +kernel
theorem dX12_minuteGoes_91 : decode cX12_minuteGoes 91 = .ok (.iconst 1, 1) := by decide +kernel
theorem dX12_minuteGoes_92 : decode cX12_minuteGoes 92 = .ok (.iadd, 1) := by decide +kernel
theorem dX12_minuteGoes_93 : decode cX12_minuteGoes 93 = .ok (.iastore, 1) := by decide +kernel
theorem dX12_minuteGoes_94 : decode cX12_minuteGoes 94 = .ok (.return_, 1) := by decide +kernel
theorem dX12_next_0 : decode cX12_next 0 = .ok (.aload_n 0, 1) := by decide +kernel
theorem dX12_next_1 : decode cX12_next 1 = .ok (.iconst 0, 1) := by decide +kernel
theorem dX12_next_2 : decode cX12_next 2 = .ok (.putfield 111, 3) := by decide +kernel
theorem dX12_next_5 : decode cX12_next 5 = .ok (.aload_n 0, 1) := by decide +kernel
theorem dX12_next_6 : decode cX12_next 6 = .ok (.getfield 126, 3) := by decide +kernel
theorem dX12_next_9 : decode cX12_next 9 = .ok (.ifCond .eq 15, 3) := by decide +kernel
theorem dX12_next_24 : decode cX12_next 24 = .ok (.iconst (-1), 1) := by decide +kernel
theorem dX12_next_25 : decode cX12_next 25 = .ok (.ireturn, 1) := by decide +kernel
theorem dX12_odds_0 : decode cX12_odds 0 = .ok (.aload_n 0, 1) := by decide +kernel
theorem dX12_odds_1 : decode cX12_odds 1 = .ok (.iconst 0, 1) := by decide +kernel
theorem dX12_odds_2 : decode cX12_odds 2 = .ok (.putfield 111, 3) := by decide +kernel
theorem dX12_odds_5 : decode cX12_odds 5 = .ok (.aload_n 0, 1) := by decide +kernel
theorem dX12_odds_6 : decode cX12_odds 6 = .ok (.iload_n 1, 1) := by decide +kernel
theorem dX12_odds_7 : decode cX12_odds 7 = .ok (.invokevirtual 309, 3) := by decide +kernel
theorem dX12_odds_10 : decode cX12_odds 10 = .ok (.ifCond .eq 27, 3) := by decide +kernel
theorem dX12_odds_37 : decode cX12_odds 37 = .ok (.iconst (-1), 1) := by decide +kernel
theorem dX12_odds_38 : decode cX12_odds 38 = .ok (.ireturn, 1) := by decide +kernel
theorem dX12_of_0 : decode cX12_of 0 = .ok (.aload_n 0, 1) := by decide +kernel
theorem dX12_of_1 : decode cX12_of 1 = .ok (.iconst 0, 1) := by decide +kernel
theorem dX12_of_2 : decode cX12_of 2 = .ok (.putfield 111, 3) := by decide +kernel
theorem dX12_of_5 : decode cX12_of 5 = .ok (.aload_n 0, 1) := by decide +kernel
theorem dX12_of_6 : decode cX12_of 6 = .ok (.iload_n 1, 1) := by decide +kernel
theorem dX12_of_7 : decode cX12_of 7 = .ok (.invokevirtual 309, 3) := by decide +kernel
theorem dX12_of_10 : decode cX12_of 10 = .ok (.ifCond .eq 15, 3) := by decide +kernel
theorem dX12_of_25 : decode cX12_of 25 = .ok (.aload_n 0, 1) := by decide +kernel
theorem dX12_of_26 : decode cX12_of 26 = .ok (.invokevirtual 306, 3) := by decide +kernel
theorem dX12_of_29 : decode cX12_of 29 = .ok (.ireturn, 1) := by decide +kernel
theorem dX12_order_0 : decode cX12_order 0 = .ok (.aload_n 0, 1) := by decide +kernel
theorem dX12_order_1 : decode cX12_order 1 = .ok (.iconst 0, 1) := by decide +kernel
theorem dX12_order_2 : decode cX12_order 2 = .ok (.putfield 111, 3) := by decide +kernel
theorem dX12_order_5 : decode cX12_order 5 = .ok (.aload_n 0, 1) := by decide +kernel
theorem dX12_order_6 : decode cX12_order 6 = .ok (.iload_n 1, 1) := by decide +kernel
theorem dX12_order_7 : decode cX12_order 7 = .ok (.invokevirtual 309, 3) := by decide +kernel
theorem dX12_order_10 : decode cX12_order 10 = .ok (.ifCond .eq 44, 3) := by decide +kernel
theorem dX12_order_54 : decode cX12_order 54 = .ok (.iconst (-1), 1) := by decide +kernel
theorem dX12_order_55 : decode cX12_order 55 = .ok (.ireturn, 1) := by decide +kernel
theorem dX12_place_0 : decode cX12_place 0 = .ok (.aload_n 0, 1) := by decide +kernel
theorem dX12_place_1 : decode cX12_place 1 = .ok (.iconst 0, 1) := by decide +kernel
theorem dX12_place_2 : decode cX12_place 2 = .ok (.putfield 111, 3) := by decide +kernel
theorem dX12_place_5 : decode cX12_place 5 = .ok (.aload_n 0, 1) := by decide +kernel
theorem dX12_place_6 : decode cX12_place 6 = .ok (.iload_n 1, 1) := by decide +kernel
theorem dX12_place_7 : decode cX12_place 7 = .ok (.invokevirtual 133, 3) := by decide +kernel
theorem dX12_place_10 : decode cX12_place 10 = .ok (.ifCond .eq 15, 3) := by decide +kernel
theorem dX12_place_25 : decode cX12_place 25 = .ok (.aload_n 0, 1) := by decide +kernel
theorem dX12_place_26 : decode cX12_place 26 = .ok (.invokevirtual 306, 3) := by decide +kernel
theorem dX12_place_29 : decode cX12_place 29 = .ok (.ireturn, 1) := by decide +kernel
theorem dX12_plank_0 : decode cX12_plank 0 = .ok (.aload_n 0, 1) := by decide +kernel
theorem dX12_plank_1 : decode cX12_plank 1 = .ok (.iconst 0, 1) := by decide +kernel
theorem dX12_plank_2 : decode cX12_plank 2 = .ok (.putfield 111, 3) := by decide +kernel
theorem dX12_plank_5 : decode cX12_plank 5 = .ok (.aload_n 0, 1) := by decide +kernel
theorem dX12_plank_6 : decode cX12_plank 6 = .ok (.iload_n 1, 1) := by decide +kernel
theorem dX12_plank_7 : decode cX12_plank 7 = .ok (.invokevirtual 316, 3) := by decide +kernel
theorem dX12_plank_10 : decode cX12_plank 10 = .ok (.ifCond .eq 13, 3) := by decide +kernel
theorem dX12_plank_23 : decode cX12_plank 23 = .ok (.iconst 0, 1) := by decide +kernel
theorem dX12_plank_24 : decode cX12_plank 24 = .ok (.ireturn, 1) := by decide +kernel
theorem dX12_put_0 : decode cX12_put 0 = .ok (.aload_n 0, 1) := by decide +kernel
theorem dX12_put_1 : decode cX12_put 1 = .ok (.iconst 0, 1) := by decide +kernel
theorem dX12_put_2 : decode cX12_put 2 = .ok (.putfield 111, 3) := by decide +kernel
theorem dX12_put_5 : decode cX12_put 5 = .ok (.aload_n 0, 1) := by decide +kernel
theorem dX12_put_6 : decode cX12_put 6 = .ok (.invokevirtual 319, 3) := by decide +kernel
theorem dX12_put_9 : decode cX12_put 9 = .ok (.aload_n 0, 1) := by decide +kernel
theorem dX12_put_10 : decode cX12_put 10 = .ok (.iload_n 1, 1) := by decide +kernel
theorem dX12_put_11 : decode cX12_put 11 = .ok (.iload_n 2, 1) := by decide +kernel
theorem dX12_put_12 : decode cX12_put 12 = .ok (.iload_n 3, 1) := by decide +kernel
theorem dX12_put_13 : decode cX12_put 13 = .ok (.iload 4, 2) := by decide +kernel
theorem dX12_put_15 : decode cX12_put 15 = .ok (.invokevirtual 339, 3) := by decide +kernel
theorem dX12_put_18 : decode cX12_put 18 = .ok (.istore 5, 2) := by decide +kernel
theorem dX12_put_20 : decode cX12_put 20 = .ok (.iload 5, 2) := by decide +kernel
theorem dX12_put_22 : decode cX12_put 22 = .ok (.ifCond .ge 8, 3) := by decide +kernel
theorem dX12_put_25 : decode cX12_put 25 = .ok (.iload 5, 2) := by decide +kernel
theorem dX12_put_27 : decode cX12_put 27 = .ok (.goto 9, 3) := by decide +kernel
theorem dX12_put_36 : decode cX12_put 36 = .ok (.ireturn, 1) := by decide +kernel
theorem dX12_puts_0 : decode cX12_puts 0 = .ok (.iconst 0, 1) := by decide +kernel
theorem dX12_puts_1 : decode cX12_puts 1 = .ok (.istore_n 2, 1) := by decide +kernel
theorem dX12_puts_2 : decode cX12_puts 2 = .ok (.iload_n 2, 1) := by decide +kernel
theorem dX12_puts_3 : decode cX12_puts 3 = .ok (.bipush 45, 2) := by decide +kernel
theorem dX12_puts_5 : decode cX12_puts 5 = .ok (.if_icmp .ge 15, 3) := by decide +kernel
theorem dX12_puts_8 : decode cX12_puts 8 = .ok (.aload_n 1, 1) := by decide +kernel
theorem dX12_puts_9 : decode cX12_puts 9 = .ok (.iload_n 2, 1) := by decide +kernel
theorem dX12_puts_10 : decode cX12_puts 10 = .ok (.aload_n 0, 1) := by decide +kernel
theorem dX12_puts_11 : decode cX12_puts 11 = .ok (.iload_n 2, 1) := by decide +kernel
theorem dX12_puts_12 : decode cX12_puts 12 = .ok (.iaload, 1) := by decide +kernel
theorem dX12_puts_13 : decode cX12_puts 13 = .ok (.iastore, 1) := by decide +kernel
theorem dX12_puts_14 : decode cX12_puts 14 = .ok (.iinc 2 1, 3) := by decide +kernel
theorem dX12_puts_17 : decode cX12_puts 17 = .ok (.goto (-15), 3) := by decide +kernel
theorem dX12_puts_20 : decode cX12_puts 20 = .ok (.return_, 1) := by decide +kernel
theorem dX12_putsBy_0 : decode cX12_putsBy 0 = .ok (.iconst 0, 1) := by decide +kernel
theorem dX12_putsBy_1 : decode cX12_putsBy 1 = .ok (.istore_n 1, 1) := by decide +kernel
theorem dX12_putsBy_2 : decode cX12_putsBy 2 = .ok (.iload_n 1, 1) := by decide +kernel
theorem dX12_putsBy_3 : decode cX12_putsBy 3 = .ok (.bipush 45, 2) := by decide +kernel
theorem dX12_putsBy_5 : decode cX12_putsBy 5 = .ok (.if_icmp .ge 29, 3) := by decide +kernel
theorem dX12_putsBy_8 : decode cX12_putsBy 8 = .ok (.aload_n 0, 1) := by decide +kernel
theorem dX12_putsBy_9 : decode cX12_putsBy 9 = .ok (.getfield 68, 3) := by decide +kernel
theorem dX12_putsBy_12 : decode cX12_putsBy 12 = .ok (.bipush 45, 2) := by decide +kernel
theorem dX12_putsBy_14 : decode cX12_putsBy 14 = .ok (.aload_n 0, 1) := by decide +kernel
theorem dX12_putsBy_15 : decode cX12_putsBy 15 = .ok (.getfield 220, 3) := by decide +kernel
theorem dX12_putsBy_18 : decode cX12_putsBy 18 = .ok (.imul, 1) := by decide +kernel
theorem dX12_putsBy_19 : decode cX12_putsBy 19 = .ok (.iload_n 1, 1) := by decide +kernel
theorem dX12_putsBy_20 : decode cX12_putsBy 20 = .ok (.iadd, 1) := by decide +kernel
theorem dX12_putsBy_21 : decode cX12_putsBy 21 = .ok (.aload_n 0, 1) := by decide +kernel
theorem dX12_putsBy_22 : decode cX12_putsBy 22 = .ok (.getfield 29, 3) := by decide +kernel
theorem dX12_putsBy_25 : decode cX12_putsBy 25 = .ok (.iload_n 1, 1) := by decide +kernel
theorem dX12_putsBy_26 : decode cX12_putsBy 26 = .ok (.iaload, 1) := by decide +kernel
theorem dX12_putsBy_27 : decode cX12_putsBy 27 = .ok (.iastore, 1) := by decide +kernel
theorem dX12_putsBy_28 : decode cX12_putsBy 28 = .ok (.iinc 1 1, 3) := by decide +kernel
theorem dX12_putsBy_31 : decode cX12_putsBy 31 = .ok (.goto (-29), 3) := by decide +kernel
theorem dX12_putsBy_34 : decode cX12_putsBy 34 = .ok (.return_, 1) := by decide +kernel
theorem dX12_refuse_0 : decode cX12_refuse 0 = .ok (.aload_n 0, 1) := by decide +kernel
theorem dX12_refuse_1 : decode cX12_refuse 1 = .ok (.iconst 1, 1) := by decide +kernel
theorem dX12_refuse_2 : decode cX12_refuse 2 = .ok (.putfield 111, 3) := by decide +kernel
theorem dX12_refuse_5 : decode cX12_refuse 5 = .ok (.iconst 0, 1) := by decide +kernel
theorem dX12_refuse_6 : decode cX12_refuse 6 = .ok (.ireturn, 1) := by decide +kernel
theorem dX12_round_0 : decode cX12_round 0 = .ok (.aload_n 0, 1) := by decide +kernel
theorem dX12_round_1 : decode cX12_round 1 = .ok (.iconst 0, 1) := by decide +kernel
theorem dX12_round_2 : decode cX12_round 2 = .ok (.putfield 111, 3) := by decide +kernel
theorem dX12_round_5 : decode cX12_round 5 = .ok (.aload_n 0, 1) := by decide +kernel
theorem dX12_round_6 : decode cX12_round 6 = .ok (.iload_n 1, 1) := by decide +kernel
theorem dX12_round_7 : decode cX12_round 7 = .ok (.invokevirtual 133, 3) := by decide +kernel
theorem dX12_round_10 : decode cX12_round 10 = .ok (.ifCond .ne 5, 3) := by decide +kernel
theorem dX12_round_13 : decode cX12_round 13 = .ok (.iconst (-1), 1) := by decide +kernel
theorem dX12_round_14 : decode cX12_round 14 = .ok (.ireturn, 1) := by decide +kernel
theorem dX12_row_0 : decode cX12_row 0 = .ok (.aload_n 0, 1) := by decide +kernel
theorem dX12_row_1 : decode cX12_row 1 = .ok (.iconst 0, 1) := by decide +kernel
theorem dX12_row_2 : decode cX12_row 2 = .ok (.putfield 111, 3) := by decide +kernel
theorem dX12_row_5 : decode cX12_row 5 = .ok (.iload_n 1, 1) := by decide +kernel
theorem dX12_row_6 : decode cX12_row 6 = .ok (.i2l, 1) := by decide +kernel
theorem dX12_row_7 : decode cX12_row 7 = .ok (.lconst 0, 1) := by decide +kernel
theorem dX12_row_8 : decode cX12_row 8 = .ok (.aload_n 0, 1) := by decide +kernel
theorem dX12_row_9 : decode cX12_row 9 = .ok (.getfield 119, 3) := by decide +kernel
theorem dX12_row_12 : decode cX12_row 12 = .ok (.iconst 1, 1) := by decide +kernel
theorem dX12_row_13 : decode cX12_row 13 = .ok (.isub, 1) := by decide +kernel
theorem dX12_row_14 : decode cX12_row 14 = .ok (.i2l, 1) := by decide +kernel
theorem dX12_row_15 : decode cX12_row 15 = .ok (.invokestatic 129, 3) := by decide +kernel
theorem dX12_row_18 : decode cX12_row 18 = .ok (.ifCond .ne 10, 3) := by decide +kernel
theorem dX12_row_21 : decode cX12_row 21 = .ok (.aload_n 0, 1) := by decide +kernel
theorem dX12_row_22 : decode cX12_row 22 = .ok (.iconst 1, 1) := by decide +kernel
theorem dX12_row_23 : decode cX12_row 23 = .ok (.putfield 111, 3) := by decide +kernel
theorem dX12_row_26 : decode cX12_row 26 = .ok (.lconst 0, 1) := by decide +kernel
theorem dX12_row_27 : decode cX12_row 27 = .ok (.lreturn, 1) := by decide +kernel
theorem dX12_rule_0 : decode cX12_rule 0 = .ok (.aload_n 0, 1) := by decide +kernel
theorem dX12_rule_1 : decode cX12_rule 1 = .ok (.iconst 0, 1) := by decide +kernel
theorem dX12_rule_2 : decode cX12_rule 2 = .ok (.putfield 111, 3) := by decide +kernel
theorem dX12_rule_5 : decode cX12_rule 5 = .ok (.aload_n 0, 1) := by decide +kernel
theorem dX12_rule_6 : decode cX12_rule 6 = .ok (.bipush 40, 2) := by decide +kernel
theorem dX12_rule_8 : decode cX12_rule 8 = .ok (.invokevirtual 203, 3) := by decide +kernel
theorem dX12_rule_11 : decode cX12_rule 11 = .ok (.istore_n 1, 1) := by decide +kernel
theorem dX12_rule_12 : decode cX12_rule 12 = .ok (.aload_n 0, 1) := by decide +kernel
theorem dX12_rule_13 : decode cX12_rule 13 = .ok (.iconst 0, 1) := by decide +kernel
theorem dX12_rule_14 : decode cX12_rule 14 = .ok (.putfield 228, 3) := by decide +kernel
theorem dX12_rule_17 : decode cX12_rule 17 = .ok (.iload_n 1, 1) := by decide +kernel
theorem dX12_rule_18 : decode cX12_rule 18 = .ok (.ifCond .eq 11, 3) := by decide +kernel
theorem dX12_rule_29 : decode cX12_rule 29 = .ok (.iconst 1, 1) := by decide +kernel
theorem dX12_rule_30 : decode cX12_rule 30 = .ok (.goto 4, 3) := by decide +kernel
theorem dX12_rule_34 : decode cX12_rule 34 = .ok (.istore_n 2, 1) := by decide +kernel
theorem dX12_rule_35 : decode cX12_rule 35 = .ok (.aload_n 0, 1) := by decide +kernel
theorem dX12_rule_36 : decode cX12_rule 36 = .ok (.iload_n 1, 1) := by decide +kernel
theorem dX12_rule_37 : decode cX12_rule 37 = .ok (.bipush 40, 2) := by decide +kernel
theorem dX12_rule_39 : decode cX12_rule 39 = .ok (.iload_n 2, 1) := by decide +kernel
theorem dX12_rule_40 : decode cX12_rule 40 = .ok (.invokevirtual 213, 3) := by decide +kernel
theorem dX12_rule_43 : decode cX12_rule 43 = .ok (.istore_n 3, 1) := by decide +kernel
theorem dX12_rule_44 : decode cX12_rule 44 = .ok (.iload_n 3, 1) := by decide +kernel
theorem dX12_rule_45 : decode cX12_rule 45 = .ok (.ifCond .ge 5, 3) := by decide +kernel
theorem dX12_rule_50 : decode cX12_rule 50 = .ok (.aload_n 0, 1) := by decide +kernel
theorem dX12_rule_51 : decode cX12_rule 51 = .ok (.aload_n 0, 1) := by decide +kernel
theorem dX12_rule_52 : decode cX12_rule 52 = .ok (.getfield 228, 3) := by decide +kernel
theorem dX12_rule_55 : decode cX12_rule 55 = .ok (.putfield 252, 3) := by decide +kernel
theorem dX12_rule_58 : decode cX12_rule 58 = .ok (.iconst 0, 1) := by decide +kernel
theorem dX12_rule_59 : decode cX12_rule 59 = .ok (.istore 4, 2) := by decide +kernel
theorem dX12_rule_61 : decode cX12_rule 61 = .ok (.iload 4, 2) := by decide +kernel
theorem dX12_rule_63 : decode cX12_rule 63 = .ok (.aload_n 0, 1) := by decide +kernel
theorem dX12_rule_64 : decode cX12_rule 64 = .ok (.getfield 228, 3) := by decide +kernel
theorem dX12_rule_67 : decode cX12_rule 67 = .ok (.if_icmp .ge 23, 3) := by decide +kernel
theorem dX12_rule_90 : decode cX12_rule 90 = .ok (.iconst 0, 1) := by decide +kernel
theorem dX12_rule_91 : decode cX12_rule 91 = .ok (.ireturn, 1) := by decide +kernel
theorem dX12_run_0 : decode cX12_run 0 = .ok (.aload_n 0, 1) := by decide +kernel
theorem dX12_run_1 : decode cX12_run 1 = .ok (.iconst 0, 1) := by decide +kernel
theorem dX12_run_2 : decode cX12_run 2 = .ok (.putfield 111, 3) := by decide +kernel
theorem dX12_run_5 : decode cX12_run 5 = .ok (.iload_n 1, 1) := by decide +kernel
theorem dX12_run_6 : decode cX12_run 6 = .ok (.i2l, 1) := by decide +kernel
theorem dX12_run_7 : decode cX12_run 7 = .ok (.lconst 0, 1) := by decide +kernel
theorem dX12_run_8 : decode cX12_run 8 = .ok (.ldc2_w 327, 3) := by decide +kernel
theorem dX12_run_11 : decode cX12_run 11 = .ok (.invokestatic 129, 3) := by decide +kernel
theorem dX12_run_14 : decode cX12_run 14 = .ok (.ifCond .ne 5, 3) := by decide +kernel
theorem dX12_run_17 : decode cX12_run 17 = .ok (.iconst (-1), 1) := by decide +kernel
theorem dX12_run_18 : decode cX12_run 18 = .ok (.ireturn, 1) := by decide +kernel
theorem dX12_run_19 : decode cX12_run 19 = .ok (.aload_n 0, 1) := by decide +kernel
theorem dX12_run_20 : decode cX12_run 20 = .ok (.invokevirtual 319, 3) := by decide +kernel
theorem dX12_run_23 : decode cX12_run 23 = .ok (.aload_n 0, 1) := by decide +kernel
theorem dX12_run_24 : decode cX12_run 24 = .ok (.getfield 29, 3) := by decide +kernel
theorem dX12_run_27 : decode cX12_run 27 = .ok (.iconst 1, 1) := by decide +kernel
theorem dX12_run_28 : decode cX12_run 28 = .ok (.invokestatic 346, 3) := by decide +kernel
theorem dX12_run_31 : decode cX12_run 31 = .ok (.istore_n 2, 1) := by decide +kernel
theorem dX12_run_32 : decode cX12_run 32 = .ok (.aload_n 0, 1) := by decide +kernel
theorem dX12_run_33 : decode cX12_run 33 = .ok (.getfield 29, 3) := by decide +kernel
theorem dX12_run_36 : decode cX12_run 36 = .ok (.iconst 2, 1) := by decide +kernel
theorem dX12_run_37 : decode cX12_run 37 = .ok (.invokestatic 346, 3) := by decide +kernel
theorem dX12_run_40 : decode cX12_run 40 = .ok (.istore_n 3, 1) := by decide +kernel
theorem dX12_run_41 : decode cX12_run 41 = .ok (.iconst 0, 1) := by decide +kernel
theorem dX12_run_42 : decode cX12_run 42 = .ok (.istore 4, 2) := by decide +kernel
theorem dX12_run_44 : decode cX12_run 44 = .ok (.iload 4, 2) := by decide +kernel
theorem dX12_run_46 : decode cX12_run 46 = .ok (.iload_n 1, 1) := by decide +kernel
theorem dX12_run_47 : decode cX12_run 47 = .ok (.if_icmp .ge 17, 3) := by decide +kernel
theorem dX12_run_50 : decode cX12_run 50 = .ok (.aload_n 0, 1) := by decide +kernel
theorem dX12_run_51 : decode cX12_run 51 = .ok (.aload_n 0, 1) := by decide +kernel
theorem dX12_run_52 : decode cX12_run 52 = .ok (.getfield 29, 3) := by decide +kernel
theorem dX12_run_55 : decode cX12_run 55 = .ok (.invokevirtual 349, 3) := by decide +kernel
theorem dX12_run_58 : decode cX12_run 58 = .ok (.iinc 4 1, 3) := by decide +kernel
theorem dX12_run_61 : decode cX12_run 61 = .ok (.goto (-17), 3) := by decide +kernel
theorem dX12_run_64 : decode cX12_run 64 = .ok (.aload_n 0, 1) := by decide +kernel
theorem dX12_run_65 : decode cX12_run 65 = .ok (.iconst 0, 1) := by decide +kernel
theorem dX12_run_66 : decode cX12_run 66 = .ok (.putfield 119, 3) := by decide +kernel
theorem dX12_run_69 : decode cX12_run 69 = .ok (.aload_n 0, 1) := by decide +kernel
theorem dX12_run_70 : decode cX12_run 70 = .ok (.aload_n 0, 1) := by decide +kernel
theorem dX12_run_71 : decode cX12_run 71 = .ok (.getfield 29, 3) := by decide +kernel
theorem dX12_run_74 : decode cX12_run 74 = .ok (.iconst 1, 1) := by decide +kernel
theorem dX12_run_75 : decode cX12_run 75 = .ok (.invokestatic 346, 3) := by decide +kernel
theorem dX12_run_78 : decode cX12_run 78 = .ok (.iload_n 2, 1) := by decide +kernel
theorem dX12_run_79 : decode cX12_run 79 = .ok (.iconst (-1), 1) := by decide +kernel
theorem dX12_run_80 : decode cX12_run 80 = .ok (.ixor, 1) := by decide +kernel
theorem dX12_run_81 : decode cX12_run 81 = .ok (.iand, 1) := by decide +kernel
theorem dX12_run_82 : decode cX12_run 82 = .ok (.i2l, 1) := by decide +kernel
theorem dX12_run_83 : decode cX12_run 83 = .ok (.invokevirtual 122, 3) := by decide +kernel
theorem dX12_run_86 : decode cX12_run 86 = .ok (.aload_n 0, 1) := by decide +kernel
theorem dX12_run_87 : decode cX12_run 87 = .ok (.aload_n 0, 1) := by decide +kernel
theorem dX12_run_88 : decode cX12_run 88 = .ok (.getfield 29, 3) := by decide +kernel
theorem dX12_run_91 : decode cX12_run 91 = .ok (.iconst 2, 1) := by decide +kernel
theorem dX12_run_92 : decode cX12_run 92 = .ok (.invokestatic 346, 3) := by decide +kernel
theorem dX12_run_95 : decode cX12_run 95 = .ok (.iload_n 3, 1) := by decide +kernel
theorem dX12_run_96 : decode cX12_run 96 = .ok (.iconst (-1), 1) := by decide +kernel
theorem dX12_run_97 : decode cX12_run 97 = .ok (.ixor, 1) := by decide +kernel
theorem dX12_run_98 : decode cX12_run 98 = .ok (.iand, 1) := by decide +kernel
theorem dX12_run_99 : decode cX12_run 99 = .ok (.i2l, 1) := by decide +kernel
theorem dX12_run_100 : decode cX12_run 100 = .ok (.invokevirtual 122, 3) := by decide +kernel
theorem dX12_run_103 : decode cX12_run 103 = .ok (.aload_n 0, 1) := by decide +kernel
theorem dX12_run_104 : decode cX12_run 104 = .ok (.getfield 29, 3) := by decide +kernel
theorem dX12_run_107 : decode cX12_run 107 = .ok (.iconst 1, 1) := by decide +kernel
theorem dX12_run_108 : decode cX12_run 108 = .ok (.invokestatic 346, 3) := by decide +kernel
theorem dX12_run_111 : decode cX12_run 111 = .ok (.iload_n 2, 1) := by decide +kernel
theorem dX12_run_112 : decode cX12_run 112 = .ok (.iconst (-1), 1) := by decide +kernel
theorem dX12_run_113 : decode cX12_run 113 = .ok (.ixor, 1) := by decide +kernel
theorem dX12_run_114 : decode cX12_run 114 = .ok (.iand, 1) := by decide +kernel
theorem dX12_run_115 : decode cX12_run 115 = .ok (.invokestatic 353, 3) := by decide +kernel
theorem dX12_run_118 : decode cX12_run 118 = .ok (.istore 4, 2) := by decide +kernel
theorem dX12_run_120 : decode cX12_run 120 = .ok (.iload_n 1, 1) := by decide +kernel
theorem dX12_run_121 : decode cX12_run 121 = .ok (.ifCond .le 12, 3) := by decide +kernel
theorem dX12_run_124 : decode cX12_run 124 = .ok (.aload_n 0, 1) := by decide +kernel
theorem dX12_run_125 : decode cX12_run 125 = .ok (.iload 4, 2) := by decide +kernel
theorem dX12_run_127 : decode cX12_run 127 = .ok (.invokevirtual 322, 3) := by decide +kernel
theorem dX12_run_130 : decode cX12_run 130 = .ok (.goto 5, 3) := by decide +kernel
theorem dX12_run_133 : decode cX12_run 133 = .ok (.iload 4, 2) := by decide +kernel
theorem dX12_run_135 : decode cX12_run 135 = .ok (.ireturn, 1) := by decide +kernel
theorem dX12_sail_0 : decode cX12_sail 0 = .ok (.aload_n 0, 1) := by decide +kernel
theorem dX12_sail_1 : decode cX12_sail 1 = .ok (.iconst 0, 1) := by decide +kernel
theorem dX12_sail_2 : decode cX12_sail 2 = .ok (.putfield 111, 3) := by decide +kernel
theorem dX12_sail_5 : decode cX12_sail 5 = .ok (.aload_n 0, 1) := by decide +kernel
theorem dX12_sail_6 : decode cX12_sail 6 = .ok (.iload_n 1, 1) := by decide +kernel
theorem dX12_sail_7 : decode cX12_sail 7 = .ok (.iload_n 2, 1) := by decide +kernel
theorem dX12_sail_8 : decode cX12_sail 8 = .ok (.iload_n 3, 1) := by decide +kernel
theorem dX12_sail_9 : decode cX12_sail 9 = .ok (.iload 5, 2) := by decide +kernel
theorem dX12_sail_11 : decode cX12_sail 11 = .ok (.invokevirtual 405, 3) := by decide +kernel
theorem dX12_sail_14 : decode cX12_sail 14 = .ok (.ifCond .eq 16, 3) := by decide +kernel
theorem dX12_sail_30 : decode cX12_sail 30 = .ok (.iconst (-1), 1) := by decide +kernel
theorem dX12_sail_31 : decode cX12_sail 31 = .ok (.ireturn, 1) := by decide +kernel
theorem dX12_save_0 : decode cX12_save 0 = .ok (.aload_n 0, 1) := by decide +kernel
theorem dX12_save_1 : decode cX12_save 1 = .ok (.iconst 0, 1) := by decide +kernel
theorem dX12_save_2 : decode cX12_save 2 = .ok (.putfield 111, 3) := by decide +kernel
theorem dX12_save_5 : decode cX12_save 5 = .ok (.iload_n 1, 1) := by decide +kernel
theorem dX12_save_6 : decode cX12_save 6 = .ok (.i2l, 1) := by decide +kernel
theorem dX12_save_7 : decode cX12_save 7 = .ok (.lconst 0, 1) := by decide +kernel
theorem dX12_save_8 : decode cX12_save 8 = .ok (.iconst 1, 1) := by decide +kernel
theorem dX12_save_9 : decode cX12_save 9 = .ok (.aload_n 0, 1) := by decide +kernel
theorem dX12_save_10 : decode cX12_save 10 = .ok (.getfield 29, 3) := by decide +kernel
theorem dX12_save_13 : decode cX12_save 13 = .ok (.bipush 44, 2) := by decide +kernel
theorem dX12_save_15 : decode cX12_save 15 = .ok (.iaload, 1) := by decide +kernel
theorem dX12_save_16 : decode cX12_save 16 = .ok (.ishl, 1) := by decide +kernel
theorem dX12_save_17 : decode cX12_save 17 = .ok (.iconst 1, 1) := by decide +kernel
theorem dX12_save_18 : decode cX12_save 18 = .ok (.isub, 1) := by decide +kernel
theorem dX12_save_19 : decode cX12_save 19 = .ok (.i2l, 1) := by decide +kernel
theorem dX12_save_20 : decode cX12_save 20 = .ok (.invokestatic 129, 3) := by decide +kernel
theorem dX12_save_23 : decode cX12_save 23 = .ok (.ifCond .eq 13, 3) := by decide +kernel
theorem dX12_save_26 : decode cX12_save 26 = .ok (.aload_n 0, 1) := by decide +kernel
theorem dX12_save_27 : decode cX12_save 27 = .ok (.iload_n 1, 1) := by decide +kernel
theorem dX12_save_28 : decode cX12_save 28 = .ok (.iconst (-1), 1) := by decide +kernel
theorem dX12_save_29 : decode cX12_save 29 = .ok (.iconst 0, 1) := by decide +kernel
theorem dX12_save_30 : decode cX12_save 30 = .ok (.invokevirtual 422, 3) := by decide +kernel
theorem dX12_save_33 : decode cX12_save 33 = .ok (.goto 4, 3) := by decide +kernel
theorem dX12_save_36 : decode cX12_save 36 = .ok (.iconst (-1), 1) := by decide +kernel
theorem dX12_save_37 : decode cX12_save 37 = .ok (.ireturn, 1) := by decide +kernel
theorem dX12_savedAfter_0 : decode cX12_savedAfter 0 = .ok (.aload_n 0, 1) := by decide +kernel
theorem dX12_savedAfter_1 : decode cX12_savedAfter 1 = .ok (.getfield 29, 3) := by decide +kernel
theorem dX12_savedAfter_4 : decode cX12_savedAfter 4 = .ok (.aload_n 0, 1) := by decide +kernel
theorem dX12_savedAfter_5 : decode cX12_savedAfter 5 = .ok (.getfield 32, 3) := by decide +kernel
theorem dX12_savedAfter_8 : decode cX12_savedAfter 8 = .ok (.invokestatic 374, 3) := by decide +kernel
theorem dX12_savedAfter_11 : decode cX12_savedAfter 11 = .ok (.aload_n 0, 1) := by decide +kernel
theorem dX12_savedAfter_12 : decode cX12_savedAfter 12 = .ok (.getfield 32, 3) := by decide +kernel
theorem dX12_savedAfter_15 : decode cX12_savedAfter 15 = .ok (.bipush 42, 2) := by decide +kernel
theorem dX12_savedAfter_17 : decode cX12_savedAfter 17 = .ok (.dup2, 1) := by decide +kernel
theorem dX12_savedAfter_18 : decode cX12_savedAfter 18 = .ok (.iaload, 1) := by decide +kernel
theorem dX12_savedAfter_19 : decode cX12_savedAfter 19 = .ok (.iload_n 2, 1) := by decide +kernel
theorem dX12_savedAfter_20 : decode cX12_savedAfter 20 = .ok (.ixor, 1) := by decide +kernel
theorem dX12_savedAfter_21 : decode cX12_savedAfter 21 = .ok (.iastore, 1) := by decide +kernel
theorem dX12_savedAfter_22 : decode cX12_savedAfter 22 = .ok (.iconst 0, 1) := by decide +kernel
theorem dX12_savedAfter_23 : decode cX12_savedAfter 23 = .ok (.istore_n 3, 1) := by decide +kernel
theorem dX12_savedAfter_24 : decode cX12_savedAfter 24 = .ok (.iload_n 3, 1) := by decide +kernel
theorem dX12_savedAfter_25 : decode cX12_savedAfter 25 = .ok (.sipush 300, 3) := by decide +kernel
theorem dX12_savedAfter_28 : decode cX12_savedAfter 28 = .ok (.if_icmp .gt 55, 3) := by decide +kernel
theorem dX12_savedAfter_31 : decode cX12_savedAfter 31 = .ok (.aload_n 0, 1) := by decide +kernel
theorem dX12_savedAfter_32 : decode cX12_savedAfter 32 = .ok (.getfield 32, 3) := by decide +kernel
theorem dX12_savedAfter_35 : decode cX12_savedAfter 35 = .ok (.iconst 1, 1) := by decide +kernel
theorem dX12_savedAfter_36 : decode cX12_savedAfter 36 = .ok (.invokestatic 346, 3) := by decide +kernel
theorem dX12_savedAfter_39 : decode cX12_savedAfter 39 = .ok (.iload_n 1, 1) := by decide +kernel
theorem dX12_savedAfter_40 : decode cX12_savedAfter 40 = .ok (.iand, 1) := by decide +kernel
theorem dX12_savedAfter_41 : decode cX12_savedAfter 41 = .ok (.iload_n 1, 1) := by decide +kernel
theorem dX12_savedAfter_42 : decode cX12_savedAfter 42 = .ok (.if_icmp .ne 5, 3) := by decide +kernel
theorem dX12_savedAfter_45 : decode cX12_savedAfter 45 = .ok (.iload_n 3, 1) := by decide +kernel
theorem dX12_savedAfter_46 : decode cX12_savedAfter 46 = .ok (.ireturn, 1) := by decide +kernel
theorem dX12_saves_0 : decode cX12_saves 0 = .ok (.aload_n 0, 1) := by decide +kernel
theorem dX12_saves_1 : decode cX12_saves 1 = .ok (.invokevirtual 416, 3) := by decide +kernel
theorem dX12_saves_4 : decode cX12_saves 4 = .ok (.istore 4, 2) := by decide +kernel
theorem dX12_saves_6 : decode cX12_saves 6 = .ok (.iconst (-1), 1) := by decide +kernel
theorem dX12_saves_7 : decode cX12_saves 7 = .ok (.istore 5, 2) := by decide +kernel
theorem dX12_saves_9 : decode cX12_saves 9 = .ok (.iconst 0, 1) := by decide +kernel
theorem dX12_saves_10 : decode cX12_saves 10 = .ok (.istore 6, 2) := by decide +kernel
theorem dX12_saves_12 : decode cX12_saves 12 = .ok (.iconst 0, 1) := by decide +kernel
theorem dX12_saves_13 : decode cX12_saves 13 = .ok (.istore 7, 2) := by decide +kernel
theorem dX12_saves_15 : decode cX12_saves 15 = .ok (.iload 7, 2) := by decide +kernel
theorem dX12_saves_17 : decode cX12_saves 17 = .ok (.iload 4, 2) := by decide +kernel
theorem dX12_saves_19 : decode cX12_saves 19 = .ok (.if_icmp .gt 78, 3) := by decide +kernel
theorem dX12_saves_22 : decode cX12_saves 22 = .ok (.iload 7, 2) := by decide +kernel
theorem dX12_saves_24 : decode cX12_saves 24 = .ok (.iload 4, 2) := by decide +kernel
theorem dX12_saves_26 : decode cX12_saves 26 = .ok (.iconst (-1), 1) := by decide +kernel
theorem dX12_saves_27 : decode cX12_saves 27 = .ok (.ixor, 1) := by decide +kernel
theorem dX12_saves_28 : decode cX12_saves 28 = .ok (.iand, 1) := by decide +kernel
theorem dX12_saves_29 : decode cX12_saves 29 = .ok (.ifCond .ne 62, 3) := by decide +kernel
theorem dX12_saves_32 : decode cX12_saves 32 = .ok (.iload 5, 2) := by decide +kernel
theorem dX12_saves_34 : decode cX12_saves 34 = .ok (.ifCond .lt 16, 3) := by decide +kernel
theorem dX12_saves_50 : decode cX12_saves 50 = .ok (.aload_n 0, 1) := by decide +kernel
theorem dX12_saves_51 : decode cX12_saves 51 = .ok (.iload_n 1, 1) := by decide +kernel
theorem dX12_saves_52 : decode cX12_saves 52 = .ok (.iload 7, 2) := by decide +kernel
theorem dX12_saves_54 : decode cX12_saves 54 = .ok (.invokevirtual 419, 3) := by decide +kernel
theorem dX12_saves_57 : decode cX12_saves 57 = .ok (.istore 8, 2) := by decide +kernel
theorem dX12_saves_59 : decode cX12_saves 59 = .ok (.iload 8, 2) := by decide +kernel
theorem dX12_saves_61 : decode cX12_saves 61 = .ok (.ifCond .lt 30, 3) := by decide +kernel
theorem dX12_saves_64 : decode cX12_saves 64 = .ok (.iload_n 2, 1) := by decide +kernel
theorem dX12_saves_65 : decode cX12_saves 65 = .ok (.ifCond .lt 18, 3) := by decide +kernel
theorem dX12_saves_83 : decode cX12_saves 83 = .ok (.iload 7, 2) := by decide +kernel
theorem dX12_saves_85 : decode cX12_saves 85 = .ok (.istore 5, 2) := by decide +kernel
theorem dX12_saves_87 : decode cX12_saves 87 = .ok (.iload 8, 2) := by decide +kernel
theorem dX12_saves_89 : decode cX12_saves 89 = .ok (.istore 6, 2) := by decide +kernel
theorem dX12_saves_91 : decode cX12_saves 91 = .ok (.iinc 7 1, 3) := by decide +kernel
theorem dX12_saves_94 : decode cX12_saves 94 = .ok (.goto (-79), 3) := by decide +kernel
theorem dX12_saves_97 : decode cX12_saves 97 = .ok (.iload 5, 2) := by decide +kernel
theorem dX12_saves_99 : decode cX12_saves 99 = .ok (.ifCond .ge 6, 3) := by decide +kernel
theorem dX12_saves_105 : decode cX12_saves 105 = .ok (.aload_n 0, 1) := by decide +kernel
theorem dX12_saves_106 : decode cX12_saves 106 = .ok (.iconst 0, 1) := by decide +kernel
theorem dX12_saves_107 : decode cX12_saves 107 = .ok (.putfield 119, 3) := by decide +kernel
theorem dX12_saves_110 : decode cX12_saves 110 = .ok (.aload_n 0, 1) := by decide +kernel
theorem dX12_saves_111 : decode cX12_saves 111 = .ok (.iload 5, 2) := by decide +kernel
theorem dX12_saves_113 : decode cX12_saves 113 = .ok (.i2l, 1) := by decide +kernel
theorem dX12_saves_114 : decode cX12_saves 114 = .ok (.invokevirtual 122, 3) := by decide +kernel
theorem dX12_saves_117 : decode cX12_saves 117 = .ok (.aload_n 0, 1) := by decide +kernel
theorem dX12_saves_118 : decode cX12_saves 118 = .ok (.iload 6, 2) := by decide +kernel
theorem dX12_saves_120 : decode cX12_saves 120 = .ok (.i2l, 1) := by decide +kernel
theorem dX12_saves_121 : decode cX12_saves 121 = .ok (.invokevirtual 122, 3) := by decide +kernel
theorem dX12_saves_124 : decode cX12_saves 124 = .ok (.iload 5, 2) := by decide +kernel
theorem dX12_saves_126 : decode cX12_saves 126 = .ok (.invokestatic 353, 3) := by decide +kernel
theorem dX12_saves_129 : decode cX12_saves 129 = .ok (.ireturn, 1) := by decide +kernel
theorem dX12_sheet_0 : decode cX12_sheet 0 = .ok (.aload_n 0, 1) := by decide +kernel
theorem dX12_sheet_1 : decode cX12_sheet 1 = .ok (.iconst 0, 1) := by decide +kernel
theorem dX12_sheet_2 : decode cX12_sheet 2 = .ok (.putfield 111, 3) := by decide +kernel
theorem dX12_sheet_5 : decode cX12_sheet 5 = .ok (.iload_n 1, 1) := by decide +kernel
theorem dX12_sheet_6 : decode cX12_sheet 6 = .ok (.i2l, 1) := by decide +kernel
theorem dX12_sheet_7 : decode cX12_sheet 7 = .ok (.lconst 0, 1) := by decide +kernel
theorem dX12_sheet_8 : decode cX12_sheet 8 = .ok (.ldc2_w 325, 3) := by decide +kernel
theorem dX12_sheet_11 : decode cX12_sheet 11 = .ok (.invokestatic 129, 3) := by decide +kernel
theorem dX12_sheet_14 : decode cX12_sheet 14 = .ok (.ifCond .eq 9, 3) := by decide +kernel
theorem dX12_sheet_17 : decode cX12_sheet 17 = .ok (.iload_n 2, 1) := by decide +kernel
theorem dX12_sheet_18 : decode cX12_sheet 18 = .ok (.bipush 6, 2) := by decide +kernel
theorem dX12_sheet_20 : decode cX12_sheet 20 = .ok (.if_icmp .le 5, 3) := by decide +kernel
theorem dX12_sheet_23 : decode cX12_sheet 23 = .ok (.iconst (-1), 1) := by decide +kernel
theorem dX12_sheet_24 : decode cX12_sheet 24 = .ok (.ireturn, 1) := by decide +kernel
theorem dX12_sheet_25 : decode cX12_sheet 25 = .ok (.iload_n 1, 1) := by decide +kernel
theorem dX12_sheet_26 : decode cX12_sheet 26 = .ok (.iconst 3, 1) := by decide +kernel
theorem dX12_sheet_27 : decode cX12_sheet 27 = .ok (.if_icmp .eq 10, 3) := by decide +kernel
theorem dX12_sheet_30 : decode cX12_sheet 30 = .ok (.iload_n 2, 1) := by decide +kernel
theorem dX12_sheet_31 : decode cX12_sheet 31 = .ok (.ifCond .ge 6, 3) := by decide +kernel
theorem dX12_sheet_34 : decode cX12_sheet 34 = .ok (.bipush (-2), 2) := by decide +kernel
theorem dX12_sheet_36 : decode cX12_sheet 36 = .ok (.ireturn, 1) := by decide +kernel
theorem dX12_sheet_37 : decode cX12_sheet 37 = .ok (.iconst 0, 1) := by decide +kernel
theorem dX12_sheet_38 : decode cX12_sheet 38 = .ok (.istore 5, 2) := by decide +kernel
theorem dX12_sheet_40 : decode cX12_sheet 40 = .ok (.iload_n 3, 1) := by decide +kernel
theorem dX12_sheet_41 : decode cX12_sheet 41 = .ok (.istore 6, 2) := by decide +kernel
theorem dX12_sheet_43 : decode cX12_sheet 43 = .ok (.iconst 0, 1) := by decide +kernel
theorem dX12_sheet_44 : decode cX12_sheet 44 = .ok (.istore 7, 2) := by decide +kernel
theorem dX12_sheet_46 : decode cX12_sheet 46 = .ok (.iload 7, 2) := by decide +kernel
theorem dX12_sheet_48 : decode cX12_sheet 48 = .ok (.aload_n 0, 1) := by decide +kernel
theorem dX12_sheet_49 : decode cX12_sheet 49 = .ok (.getfield 29, 3) := by decide +kernel
theorem dX12_sheet_52 : decode cX12_sheet 52 = .ok (.bipush 44, 2) := by decide +kernel
theorem dX12_sheet_54 : decode cX12_sheet 54 = .ok (.iaload, 1) := by decide +kernel
theorem dX12_sheet_55 : decode cX12_sheet 55 = .ok (.if_icmp .ge 96, 3) := by decide +kernel
theorem dX12_sheet_151 : decode cX12_sheet 151 = .ok (.iload_n 1, 1) := by decide +kernel
theorem dX12_sheet_152 : decode cX12_sheet 152 = .ok (.iconst 3, 1) := by decide +kernel
theorem dX12_sheet_153 : decode cX12_sheet 153 = .ok (.if_icmp .ne 8, 3) := by decide +kernel
theorem dX12_sheet_156 : decode cX12_sheet 156 = .ok (.bipush (-3), 2) := by decide +kernel
theorem dX12_sheet_158 : decode cX12_sheet 158 = .ok (.goto 5, 3) := by decide +kernel
theorem dX12_sheet_161 : decode cX12_sheet 161 = .ok (.iload 5, 2) := by decide +kernel
theorem dX12_sheet_163 : decode cX12_sheet 163 = .ok (.ireturn, 1) := by decide +kernel
theorem dX12_sign_0 : decode cX12_sign 0 = .ok (.aload_n 0, 1) := by decide +kernel
theorem dX12_sign_1 : decode cX12_sign 1 = .ok (.iconst 0, 1) := by decide +kernel
theorem dX12_sign_2 : decode cX12_sign 2 = .ok (.putfield 111, 3) := by decide +kernel
theorem dX12_sign_5 : decode cX12_sign 5 = .ok (.aload_n 0, 1) := by decide +kernel
theorem dX12_sign_6 : decode cX12_sign 6 = .ok (.getfield 137, 3) := by decide +kernel
theorem dX12_sign_9 : decode cX12_sign 9 = .ok (.bipush 76, 2) := by decide +kernel
theorem dX12_sign_11 : decode cX12_sign 11 = .ok (.if_icmp .le 5, 3) := by decide +kernel
theorem dX12_sign_16 : decode cX12_sign 16 = .ok (.iconst 0, 1) := by decide +kernel
theorem dX12_sign_17 : decode cX12_sign 17 = .ok (.istore_n 2, 1) := by decide +kernel
theorem dX12_sign_18 : decode cX12_sign 18 = .ok (.iload_n 2, 1) := by decide +kernel
theorem dX12_sign_19 : decode cX12_sign 19 = .ok (.iconst 4, 1) := by decide +kernel
theorem dX12_sign_20 : decode cX12_sign 20 = .ok (.if_icmp .ge 33, 3) := by decide +kernel
theorem dX12_sign_23 : decode cX12_sign 23 = .ok (.aload_n 0, 1) := by decide +kernel
theorem dX12_sign_24 : decode cX12_sign 24 = .ok (.getfield 35, 3) := by decide +kernel
theorem dX12_sign_27 : decode cX12_sign 27 = .ok (.aload_n 0, 1) := by decide +kernel
theorem dX12_sign_28 : decode cX12_sign 28 = .ok (.getfield 137, 3) := by decide +kernel
theorem dX12_sign_31 : decode cX12_sign 31 = .ok (.iload_n 2, 1) := by decide +kernel
theorem dX12_sign_32 : decode cX12_sign 32 = .ok (.iadd, 1) := by decide +kernel
theorem dX12_sign_33 : decode cX12_sign 33 = .ok (.iload_n 1, 1) := by decide +kernel
theorem dX12_sign_34 : decode cX12_sign 34 = .ok (.bipush 24, 2) := by decide +kernel
theorem dX12_sign_36 : decode cX12_sign 36 = .ok (.bipush 8, 2) := by decide +kernel
theorem dX12_sign_38 : decode cX12_sign 38 = .ok (.iload_n 2, 1) := by decide +kernel
theorem dX12_sign_39 : decode cX12_sign 39 = .ok (.imul, 1) := by decide +kernel
theorem dX12_sign_40 : decode cX12_sign 40 = .ok (.isub, 1) := by decide +kernel
theorem dX12_sign_41 : decode cX12_sign 41 = .ok (.ishr, 1) := by decide +kernel
theorem dX12_sign_42 : decode cX12_sign 42 = .ok (.sipush 255, 3) := by decide +kernel
theorem dX12_sign_45 : decode cX12_sign 45 = .ok (.iand, 1) := by decide +kernel
theorem dX12_sign_46 : decode cX12_sign 46 = .ok (.iastore, 1) := by decide +kernel
theorem dX12_sign_47 : decode cX12_sign 47 = .ok (.iinc 2 1, 3) := by decide +kernel
theorem dX12_sign_50 : decode cX12_sign 50 = .ok (.goto (-32), 3) := by decide +kernel
theorem dX12_sign_53 : decode cX12_sign 53 = .ok (.aload_n 0, 1) := by decide +kernel
theorem dX12_sign_54 : decode cX12_sign 54 = .ok (.dup, 1) := by decide +kernel
theorem dX12_sign_55 : decode cX12_sign 55 = .ok (.getfield 137, 3) := by decide +kernel
theorem dX12_sign_58 : decode cX12_sign 58 = .ok (.iconst 4, 1) := by decide +kernel
theorem dX12_sign_59 : decode cX12_sign 59 = .ok (.iadd, 1) := by decide +kernel
theorem dX12_sign_60 : decode cX12_sign 60 = .ok (.putfield 137, 3) := by decide +kernel
theorem dX12_sign_63 : decode cX12_sign 63 = .ok (.aload_n 0, 1) := by decide +kernel
theorem dX12_sign_64 : decode cX12_sign 64 = .ok (.getfield 137, 3) := by decide +kernel
theorem dX12_sign_67 : decode cX12_sign 67 = .ok (.ireturn, 1) := by decide +kernel
theorem dX12_soonest_0 : decode cX12_soonest 0 = .ok (.aload_n 0, 1) := by decide +kernel
theorem dX12_soonest_1 : decode cX12_soonest 1 = .ok (.iconst 0, 1) := by decide +kernel
theorem dX12_soonest_2 : decode cX12_soonest 2 = .ok (.putfield 111, 3) := by decide +kernel
theorem dX12_soonest_5 : decode cX12_soonest 5 = .ok (.aload_n 0, 1) := by decide +kernel
theorem dX12_soonest_6 : decode cX12_soonest 6 = .ok (.iconst 0, 1) := by decide +kernel
theorem dX12_soonest_7 : decode cX12_soonest 7 = .ok (.iload_n 1, 1) := by decide +kernel
theorem dX12_soonest_8 : decode cX12_soonest 8 = .ok (.iload_n 2, 1) := by decide +kernel
theorem dX12_soonest_9 : decode cX12_soonest 9 = .ok (.iload_n 3, 1) := by decide +kernel
theorem dX12_soonest_10 : decode cX12_soonest 10 = .ok (.invokevirtual 405, 3) := by decide +kernel
theorem dX12_soonest_13 : decode cX12_soonest 13 = .ok (.ifCond .ne 5, 3) := by decide +kernel
theorem dX12_soonest_16 : decode cX12_soonest 16 = .ok (.iconst (-1), 1) := by decide +kernel
theorem dX12_soonest_17 : decode cX12_soonest 17 = .ok (.ireturn, 1) := by decide +kernel
theorem dX12_steer_0 : decode cX12_steer 0 = .ok (.aload_n 0, 1) := by decide +kernel
theorem dX12_steer_1 : decode cX12_steer 1 = .ok (.iconst 0, 1) := by decide +kernel
theorem dX12_steer_2 : decode cX12_steer 2 = .ok (.putfield 111, 3) := by decide +kernel
theorem dX12_steer_5 : decode cX12_steer 5 = .ok (.aload_n 0, 1) := by decide +kernel
theorem dX12_steer_6 : decode cX12_steer 6 = .ok (.iload_n 1, 1) := by decide +kernel
theorem dX12_steer_7 : decode cX12_steer 7 = .ok (.invokevirtual 309, 3) := by decide +kernel
theorem dX12_steer_10 : decode cX12_steer 10 = .ok (.ifCond .eq 23, 3) := by decide +kernel
theorem dX12_steer_33 : decode cX12_steer 33 = .ok (.iconst (-1), 1) := by decide +kernel
theorem dX12_steer_34 : decode cX12_steer 34 = .ok (.ireturn, 1) := by decide +kernel
theorem dX12_thinksNow_0 : decode cX12_thinksNow 0 = .ok (.aload_n 0, 1) := by decide +kernel
theorem dX12_thinksNow_1 : decode cX12_thinksNow 1 = .ok (.aload_n 0, 1) := by decide +kernel
theorem dX12_thinksNow_2 : decode cX12_thinksNow 2 = .ok (.getfield 29, 3) := by decide +kernel
theorem dX12_thinksNow_5 : decode cX12_thinksNow 5 = .ok (.bipush 42, 2) := by decide +kernel
theorem dX12_thinksNow_7 : decode cX12_thinksNow 7 = .ok (.iaload, 1) := by decide +kernel
theorem dX12_thinksNow_8 : decode cX12_thinksNow 8 = .ok (.putfield 389, 3) := by decide +kernel
theorem dX12_thinksNow_11 : decode cX12_thinksNow 11 = .ok (.aload_n 0, 1) := by decide +kernel
theorem dX12_thinksNow_12 : decode cX12_thinksNow 12 = .ok (.aload_n 0, 1) := by decide +kernel
theorem dX12_thinksNow_13 : decode cX12_thinksNow 13 = .ok (.getfield 29, 3) := by decide +kernel
theorem dX12_thinksNow_16 : decode cX12_thinksNow 16 = .ok (.bipush 43, 2) := by decide +kernel
theorem dX12_thinksNow_18 : decode cX12_thinksNow 18 = .ok (.iaload, 1) := by decide +kernel
theorem dX12_thinksNow_19 : decode cX12_thinksNow 19 = .ok (.putfield 392, 3) := by decide +kernel
theorem dX12_thinksNow_22 : decode cX12_thinksNow 22 = .ok (.return_, 1) := by decide +kernel
theorem dX12_thoseHow_0 : decode cX12_thoseHow 0 = .ok (.iconst 0, 1) := by decide +kernel
theorem dX12_thoseHow_1 : decode cX12_thoseHow 1 = .ok (.istore_n 2, 1) := by decide +kernel
theorem dX12_thoseHow_2 : decode cX12_thoseHow 2 = .ok (.iconst 0, 1) := by decide +kernel
theorem dX12_thoseHow_3 : decode cX12_thoseHow 3 = .ok (.istore_n 3, 1) := by decide +kernel
theorem dX12_thoseHow_4 : decode cX12_thoseHow 4 = .ok (.iload_n 3, 1) := by decide +kernel
theorem dX12_thoseHow_5 : decode cX12_thoseHow 5 = .ok (.aload_n 0, 1) := by decide +kernel
theorem dX12_thoseHow_6 : decode cX12_thoseHow 6 = .ok (.bipush 44, 2) := by decide +kernel
theorem dX12_thoseHow_8 : decode cX12_thoseHow 8 = .ok (.iaload, 1) := by decide +kernel
theorem dX12_thoseHow_9 : decode cX12_thoseHow 9 = .ok (.if_icmp .ge 31, 3) := by decide +kernel
theorem dX12_thoseHow_40 : decode cX12_thoseHow 40 = .ok (.iload_n 2, 1) := by decide +kernel
theorem dX12_thoseHow_41 : decode cX12_thoseHow 41 = .ok (.ireturn, 1) := by decide +kernel
theorem dX12_thrown_0 : decode cX12_thrown 0 = .ok (.aload_n 0, 1) := by decide +kernel
theorem dX12_thrown_1 : decode cX12_thrown 1 = .ok (.getfield 111, 3) := by decide +kernel
theorem dX12_thrown_4 : decode cX12_thrown 4 = .ok (.ireturn, 1) := by decide +kernel
theorem dX12_town_0 : decode cX12_town 0 = .ok (.aload_n 0, 1) := by decide +kernel
theorem dX12_town_1 : decode cX12_town 1 = .ok (.iconst 0, 1) := by decide +kernel
theorem dX12_town_2 : decode cX12_town 2 = .ok (.putfield 111, 3) := by decide +kernel
theorem dX12_town_5 : decode cX12_town 5 = .ok (.aload_n 0, 1) := by decide +kernel
theorem dX12_town_6 : decode cX12_town 6 = .ok (.bipush 76, 2) := by decide +kernel
theorem dX12_town_8 : decode cX12_town 8 = .ok (.invokevirtual 203, 3) := by decide +kernel
theorem dX12_town_11 : decode cX12_town 11 = .ok (.istore_n 1, 1) := by decide +kernel
theorem dX12_town_12 : decode cX12_town 12 = .ok (.aload_n 0, 1) := by decide +kernel
theorem dX12_town_13 : decode cX12_town 13 = .ok (.iconst 0, 1) := by decide +kernel
theorem dX12_town_14 : decode cX12_town 14 = .ok (.putfield 189, 3) := by decide +kernel
theorem dX12_town_17 : decode cX12_town 17 = .ok (.aload_n 0, 1) := by decide +kernel
theorem dX12_town_18 : decode cX12_town 18 = .ok (.iconst 0, 1) := by decide +kernel
theorem dX12_town_19 : decode cX12_town 19 = .ok (.putfield 186, 3) := by decide +kernel
theorem dX12_town_22 : decode cX12_town 22 = .ok (.iconst 1, 1) := by decide +kernel
theorem dX12_town_23 : decode cX12_town 23 = .ok (.istore_n 2, 1) := by decide +kernel
theorem dX12_town_24 : decode cX12_town 24 = .ok (.iload_n 1, 1) := by decide +kernel
theorem dX12_town_25 : decode cX12_town 25 = .ok (.ifCond .le 7, 3) := by decide +kernel
theorem dX12_town_32 : decode cX12_town 32 = .ok (.iconst 0, 1) := by decide +kernel
theorem dX12_town_33 : decode cX12_town 33 = .ok (.istore_n 3, 1) := by decide +kernel
theorem dX12_town_34 : decode cX12_town 34 = .ok (.iload_n 3, 1) := by decide +kernel
theorem dX12_town_35 : decode cX12_town 35 = .ok (.ifCond .eq 30, 3) := by decide +kernel
theorem dX12_town_65 : decode cX12_town 65 = .ok (.aload_n 0, 1) := by decide +kernel
theorem dX12_town_66 : decode cX12_town 66 = .ok (.iload_n 1, 1) := by decide +kernel
theorem dX12_town_67 : decode cX12_town 67 = .ok (.bipush 76, 2) := by decide +kernel
theorem dX12_town_69 : decode cX12_town 69 = .ok (.iload_n 2, 1) := by decide +kernel
theorem dX12_town_70 : decode cX12_town 70 = .ok (.invokevirtual 213, 3) := by decide +kernel
theorem dX12_town_73 : decode cX12_town 73 = .ok (.istore 4, 2) := by decide +kernel
theorem dX12_town_75 : decode cX12_town 75 = .ok (.iload 4, 2) := by decide +kernel
theorem dX12_town_77 : decode cX12_town 77 = .ok (.ifCond .ge 6, 3) := by decide +kernel
theorem dX12_town_83 : decode cX12_town 83 = .ok (.iconst 0, 1) := by decide +kernel
theorem dX12_town_84 : decode cX12_town 84 = .ok (.istore 5, 2) := by decide +kernel
theorem dX12_town_86 : decode cX12_town 86 = .ok (.iload 5, 2) := by decide +kernel
theorem dX12_town_88 : decode cX12_town 88 = .ok (.aload_n 0, 1) := by decide +kernel
theorem dX12_town_89 : decode cX12_town 89 = .ok (.getfield 186, 3) := by decide +kernel
theorem dX12_town_92 : decode cX12_town 92 = .ok (.if_icmp .ge 33, 3) := by decide +kernel
theorem dX12_town_125 : decode cX12_town 125 = .ok (.aload_n 0, 1) := by decide +kernel
theorem dX12_town_126 : decode cX12_town 126 = .ok (.aload_n 0, 1) := by decide +kernel
theorem dX12_town_127 : decode cX12_town 127 = .ok (.getfield 189, 3) := by decide +kernel
theorem dX12_town_130 : decode cX12_town 130 = .ok (.putfield 126, 3) := by decide +kernel
theorem dX12_town_133 : decode cX12_town 133 = .ok (.iconst 0, 1) := by decide +kernel
theorem dX12_town_134 : decode cX12_town 134 = .ok (.istore 5, 2) := by decide +kernel
theorem dX12_town_136 : decode cX12_town 136 = .ok (.iload 5, 2) := by decide +kernel
theorem dX12_town_138 : decode cX12_town 138 = .ok (.aload_n 0, 1) := by decide +kernel
theorem dX12_town_139 : decode cX12_town 139 = .ok (.getfield 126, 3) := by decide +kernel
theorem dX12_town_142 : decode cX12_town 142 = .ok (.if_icmp .ge 65, 3) := by decide +kernel
theorem dX12_town_207 : decode cX12_town 207 = .ok (.iconst 0, 1) := by decide +kernel
theorem dX12_town_208 : decode cX12_town 208 = .ok (.istore 5, 2) := by decide +kernel
theorem dX12_town_210 : decode cX12_town 210 = .ok (.iload 5, 2) := by decide +kernel
theorem dX12_town_212 : decode cX12_town 212 = .ok (.bipush 45, 2) := by decide +kernel
theorem dX12_town_214 : decode cX12_town 214 = .ok (.if_icmp .ge 17, 3) := by decide +kernel
theorem dX12_town_217 : decode cX12_town 217 = .ok (.aload_n 0, 1) := by decide +kernel
theorem dX12_town_218 : decode cX12_town 218 = .ok (.getfield 29, 3) := by decide +kernel
theorem dX12_town_221 : decode cX12_town 221 = .ok (.iload 5, 2) := by decide +kernel
theorem dX12_town_223 : decode cX12_town 223 = .ok (.iconst 0, 1) := by decide +kernel
theorem dX12_town_224 : decode cX12_town 224 = .ok (.iastore, 1) := by decide +kernel
theorem dX12_town_225 : decode cX12_town 225 = .ok (.iinc 5 1, 3) := by decide +kernel
theorem dX12_town_228 : decode cX12_town 228 = .ok (.goto (-18), 3) := by decide +kernel
theorem dX12_town_231 : decode cX12_town 231 = .ok (.aload_n 0, 1) := by decide +kernel
theorem dX12_town_232 : decode cX12_town 232 = .ok (.iconst 0, 1) := by decide +kernel
theorem dX12_town_233 : decode cX12_town 233 = .ok (.putfield 217, 3) := by decide +kernel
theorem dX12_town_236 : decode cX12_town 236 = .ok (.aload_n 0, 1) := by decide +kernel
theorem dX12_town_237 : decode cX12_town 237 = .ok (.iconst 0, 1) := by decide +kernel
theorem dX12_town_238 : decode cX12_town 238 = .ok (.putfield 220, 3) := by decide +kernel
theorem dX12_town_241 : decode cX12_town 241 = .ok (.iconst 0, 1) := by decide +kernel
theorem dX12_town_242 : decode cX12_town 242 = .ok (.istore 5, 2) := by decide +kernel
theorem dX12_town_244 : decode cX12_town 244 = .ok (.iload 5, 2) := by decide +kernel
theorem dX12_town_246 : decode cX12_town 246 = .ok (.iconst 3, 1) := by decide +kernel
theorem dX12_town_247 : decode cX12_town 247 = .ok (.if_icmp .ge 17, 3) := by decide +kernel
theorem dX12_town_250 : decode cX12_town 250 = .ok (.aload_n 0, 1) := by decide +kernel
theorem dX12_town_251 : decode cX12_town 251 = .ok (.getfield 105, 3) := by decide +kernel
theorem dX12_town_254 : decode cX12_town 254 = .ok (.iload 5, 2) := by decide +kernel
theorem dX12_town_256 : decode cX12_town 256 = .ok (.iconst 0, 1) := by decide +kernel
theorem dX12_town_257 : decode cX12_town 257 = .ok (.bastore, 1) := by decide +kernel
theorem dX12_town_258 : decode cX12_town 258 = .ok (.iinc 5 1, 3) := by decide +kernel
theorem dX12_town_261 : decode cX12_town 261 = .ok (.goto (-17), 3) := by decide +kernel
theorem dX12_town_264 : decode cX12_town 264 = .ok (.aload_n 0, 1) := by decide +kernel
theorem dX12_town_265 : decode cX12_town 265 = .ok (.getfield 126, 3) := by decide +kernel
theorem dX12_town_268 : decode cX12_town 268 = .ok (.ireturn, 1) := by decide +kernel
theorem dX12_undo_0 : decode cX12_undo 0 = .ok (.aload_n 0, 1) := by decide +kernel
theorem dX12_undo_1 : decode cX12_undo 1 = .ok (.iconst 0, 1) := by decide +kernel
theorem dX12_undo_2 : decode cX12_undo 2 = .ok (.putfield 111, 3) := by decide +kernel
theorem dX12_undo_5 : decode cX12_undo 5 = .ok (.aload_n 0, 1) := by decide +kernel
theorem dX12_undo_6 : decode cX12_undo 6 = .ok (.getfield 220, 3) := by decide +kernel
theorem dX12_undo_9 : decode cX12_undo 9 = .ok (.ifCond .ne 5, 3) := by decide +kernel
theorem dX12_undo_12 : decode cX12_undo 12 = .ok (.iconst (-1), 1) := by decide +kernel
theorem dX12_undo_13 : decode cX12_undo 13 = .ok (.ireturn, 1) := by decide +kernel
theorem dX12_waits_0 : decode cX12_waits 0 = .ok (.aload_n 0, 1) := by decide +kernel
theorem dX12_waits_1 : decode cX12_waits 1 = .ok (.iconst 0, 1) := by decide +kernel
theorem dX12_waits_2 : decode cX12_waits 2 = .ok (.putfield 111, 3) := by decide +kernel
theorem dX12_waits_5 : decode cX12_waits 5 = .ok (.aload_n 0, 1) := by decide +kernel
theorem dX12_waits_6 : decode cX12_waits 6 = .ok (.iload_n 1, 1) := by decide +kernel
theorem dX12_waits_7 : decode cX12_waits 7 = .ok (.iload_n 2, 1) := by decide +kernel
theorem dX12_waits_8 : decode cX12_waits 8 = .ok (.iload_n 3, 1) := by decide +kernel
theorem dX12_waits_9 : decode cX12_waits 9 = .ok (.iload 4, 2) := by decide +kernel
theorem dX12_waits_11 : decode cX12_waits 11 = .ok (.invokevirtual 405, 3) := by decide +kernel
theorem dX12_waits_14 : decode cX12_waits 14 = .ok (.ifCond .ne 5, 3) := by decide +kernel
theorem dX12_waits_17 : decode cX12_waits 17 = .ok (.iconst (-1), 1) := by decide +kernel
theorem dX12_waits_18 : decode cX12_waits 18 = .ok (.ireturn, 1) := by decide +kernel
theorem dX12_water_0 : decode cX12_water 0 = .ok (.aload_n 0, 1) := by decide +kernel
theorem dX12_water_1 : decode cX12_water 1 = .ok (.iconst 0, 1) := by decide +kernel
theorem dX12_water_2 : decode cX12_water 2 = .ok (.putfield 111, 3) := by decide +kernel
theorem dX12_water_5 : decode cX12_water 5 = .ok (.aload_n 0, 1) := by decide +kernel
theorem dX12_water_6 : decode cX12_water 6 = .ok (.bipush 40, 2) := by decide +kernel
theorem dX12_water_8 : decode cX12_water 8 = .ok (.invokevirtual 203, 3) := by decide +kernel
theorem dX12_water_11 : decode cX12_water 11 = .ok (.istore_n 1, 1) := by decide +kernel
theorem dX12_water_12 : decode cX12_water 12 = .ok (.iconst 0, 1) := by decide +kernel
theorem dX12_water_13 : decode cX12_water 13 = .ok (.istore_n 2, 1) := by decide +kernel
theorem dX12_water_14 : decode cX12_water 14 = .ok (.aload_n 0, 1) := by decide +kernel
theorem dX12_water_15 : decode cX12_water 15 = .ok (.ldc 223, 2) := by decide +kernel
theorem dX12_water_17 : decode cX12_water 17 = .ok (.invokevirtual 173, 3) := by decide +kernel
theorem dX12_water_20 : decode cX12_water 20 = .ok (.ifCond .lt 21, 3) := by decide +kernel
theorem dX12_water_41 : decode cX12_water 41 = .ok (.aload_n 0, 1) := by decide +kernel
theorem dX12_water_42 : decode cX12_water 42 = .ok (.iload_n 1, 1) := by decide +kernel
theorem dX12_water_43 : decode cX12_water 43 = .ok (.bipush 40, 2) := by decide +kernel
theorem dX12_water_45 : decode cX12_water 45 = .ok (.iconst 1, 1) := by decide +kernel
theorem dX12_water_46 : decode cX12_water 46 = .ok (.invokevirtual 213, 3) := by decide +kernel
theorem dX12_water_49 : decode cX12_water 49 = .ok (.istore_n 3, 1) := by decide +kernel
theorem dX12_water_50 : decode cX12_water 50 = .ok (.iload_n 3, 1) := by decide +kernel
theorem dX12_water_51 : decode cX12_water 51 = .ok (.ifCond .ge 5, 3) := by decide +kernel
theorem dX12_water_56 : decode cX12_water 56 = .ok (.aload_n 0, 1) := by decide +kernel
theorem dX12_water_57 : decode cX12_water 57 = .ok (.iload_n 2, 1) := by decide +kernel
theorem dX12_water_58 : decode cX12_water 58 = .ok (.putfield 225, 3) := by decide +kernel
theorem dX12_water_61 : decode cX12_water 61 = .ok (.iconst 0, 1) := by decide +kernel
theorem dX12_water_62 : decode cX12_water 62 = .ok (.istore 4, 2) := by decide +kernel
theorem dX12_water_64 : decode cX12_water 64 = .ok (.iload 4, 2) := by decide +kernel
theorem dX12_water_66 : decode cX12_water 66 = .ok (.iload_n 2, 1) := by decide +kernel
theorem dX12_water_67 : decode cX12_water 67 = .ok (.if_icmp .ge 23, 3) := by decide +kernel
theorem dX12_water_90 : decode cX12_water 90 = .ok (.iload_n 2, 1) := by decide +kernel
theorem dX12_water_91 : decode cX12_water 91 = .ok (.ireturn, 1) := by decide +kernel
theorem dX12_waterIn_0 : decode cX12_waterIn 0 = .ok (.iload_n 1, 1) := by decide +kernel
theorem dX12_waterIn_1 : decode cX12_waterIn 1 = .ok (.bipush 10, 2) := by decide +kernel
theorem dX12_waterIn_3 : decode cX12_waterIn 3 = .ok (.idiv, 1) := by decide +kernel
theorem dX12_waterIn_4 : decode cX12_waterIn 4 = .ok (.istore_n 2, 1) := by decide +kernel
theorem dX12_waterIn_5 : decode cX12_waterIn 5 = .ok (.aload_n 0, 1) := by decide +kernel
theorem dX12_waterIn_6 : decode cX12_waterIn 6 = .ok (.getfield 225, 3) := by decide +kernel
theorem dX12_waterIn_9 : decode cX12_waterIn 9 = .ok (.ifCond .ne 7, 3) := by decide +kernel
theorem dX12_waterIn_12 : decode cX12_waterIn 12 = .ok (.iconst 1, 1) := by decide +kernel
theorem dX12_waterIn_13 : decode cX12_waterIn 13 = .ok (.goto 14, 3) := by decide +kernel
theorem dX12_waterIn_27 : decode cX12_waterIn 27 = .ok (.istore_n 3, 1) := by decide +kernel
theorem dX12_waterIn_28 : decode cX12_waterIn 28 = .ok (.iload_n 2, 1) := by decide +kernel
theorem dX12_waterIn_29 : decode cX12_waterIn 29 = .ok (.aload_n 0, 1) := by decide +kernel
theorem dX12_waterIn_30 : decode cX12_waterIn 30 = .ok (.getfield 255, 3) := by decide +kernel
theorem dX12_waterIn_33 : decode cX12_waterIn 33 = .ok (.if_icmp .lt 38, 3) := by decide +kernel
theorem dX12_waterIn_36 : decode cX12_waterIn 36 = .ok (.iload_n 2, 1) := by decide +kernel
theorem dX12_waterIn_37 : decode cX12_waterIn 37 = .ok (.aload_n 0, 1) := by decide +kernel
theorem dX12_waterIn_38 : decode cX12_waterIn 38 = .ok (.getfield 255, 3) := by decide +kernel
theorem dX12_waterIn_41 : decode cX12_waterIn 41 = .ok (.isub, 1) := by decide +kernel
theorem dX12_waterIn_42 : decode cX12_waterIn 42 = .ok (.bipush 8, 2) := by decide +kernel
theorem dX12_waterIn_44 : decode cX12_waterIn 44 = .ok (.if_icmp .ge 27, 3) := by decide +kernel
theorem dX12_waterIn_47 : decode cX12_waterIn 47 = .ok (.aload_n 0, 1) := by decide +kernel
theorem dX12_waterIn_48 : decode cX12_waterIn 48 = .ok (.getfield 258, 3) := by decide +kernel
theorem dX12_waterIn_51 : decode cX12_waterIn 51 = .ok (.iconst 0, 1) := by decide +kernel
theorem dX12_waterIn_52 : decode cX12_waterIn 52 = .ok (.iload_n 2, 1) := by decide +kernel
theorem dX12_waterIn_53 : decode cX12_waterIn 53 = .ok (.aload_n 0, 1) := by decide +kernel
theorem dX12_waterIn_54 : decode cX12_waterIn 54 = .ok (.getfield 255, 3) := by decide +kernel
theorem dX12_waterIn_57 : decode cX12_waterIn 57 = .ok (.isub, 1) := by decide +kernel
theorem dX12_waterIn_58 : decode cX12_waterIn 58 = .ok (.invokestatic 261, 3) := by decide +kernel
theorem dX12_waterIn_61 : decode cX12_waterIn 61 = .ok (.invokestatic 264, 3) := by decide +kernel
theorem dX12_waterIn_64 : decode cX12_waterIn 64 = .ok (.ifCond .eq 7, 3) := by decide +kernel
theorem dX12_waterIn_71 : decode cX12_waterIn 71 = .ok (.iconst 0, 1) := by decide +kernel
theorem dX12_waterIn_72 : decode cX12_waterIn 72 = .ok (.istore 4, 2) := by decide +kernel
theorem dX12_waterIn_74 : decode cX12_waterIn 74 = .ok (.iload 4, 2) := by decide +kernel
theorem dX12_waterIn_76 : decode cX12_waterIn 76 = .ok (.ifCond .eq 13, 3) := by decide +kernel
theorem dX12_waterIn_89 : decode cX12_waterIn 89 = .ok (.iload_n 3, 1) := by decide +kernel
theorem dX12_waterIn_90 : decode cX12_waterIn 90 = .ok (.ireturn, 1) := by decide +kernel
theorem dX12_ways_0 : decode cX12_ways 0 = .ok (.aload_n 0, 1) := by decide +kernel
theorem dX12_ways_1 : decode cX12_ways 1 = .ok (.iconst 0, 1) := by decide +kernel
theorem dX12_ways_2 : decode cX12_ways 2 = .ok (.putfield 111, 3) := by decide +kernel
theorem dX12_ways_5 : decode cX12_ways 5 = .ok (.aload_n 0, 1) := by decide +kernel
theorem dX12_ways_6 : decode cX12_ways 6 = .ok (.iload_n 1, 1) := by decide +kernel
theorem dX12_ways_7 : decode cX12_ways 7 = .ok (.iload_n 2, 1) := by decide +kernel
theorem dX12_ways_8 : decode cX12_ways 8 = .ok (.iload_n 3, 1) := by decide +kernel
theorem dX12_ways_9 : decode cX12_ways 9 = .ok (.iload 4, 2) := by decide +kernel
theorem dX12_ways_11 : decode cX12_ways 11 = .ok (.invokevirtual 405, 3) := by decide +kernel
theorem dX12_ways_14 : decode cX12_ways 14 = .ok (.ifCond .ne 5, 3) := by decide +kernel
theorem dX12_ways_17 : decode cX12_ways 17 = .ok (.iconst (-1), 1) := by decide +kernel
theorem dX12_ways_18 : decode cX12_ways 18 = .ok (.ireturn, 1) := by decide +kernel
theorem dX12_where_0 : decode cX12_where 0 = .ok (.aload_n 0, 1) := by decide +kernel
theorem dX12_where_1 : decode cX12_where 1 = .ok (.iconst 0, 1) := by decide +kernel
theorem dX12_where_2 : decode cX12_where 2 = .ok (.putfield 111, 3) := by decide +kernel
theorem dX12_where_5 : decode cX12_where 5 = .ok (.aload_n 0, 1) := by decide +kernel
theorem dX12_where_6 : decode cX12_where 6 = .ok (.iload_n 1, 1) := by decide +kernel
theorem dX12_where_7 : decode cX12_where 7 = .ok (.invokevirtual 309, 3) := by decide +kernel
theorem dX12_where_10 : decode cX12_where 10 = .ok (.ifCond .eq 15, 3) := by decide +kernel
theorem dX12_where_25 : decode cX12_where 25 = .ok (.iconst (-1), 1) := by decide +kernel
theorem dX12_where_26 : decode cX12_where 26 = .ok (.ireturn, 1) := by decide +kernel
