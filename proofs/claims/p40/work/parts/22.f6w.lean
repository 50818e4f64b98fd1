theorem mw_41 : (Cond.selects RX12 yX12_begins yX12_begins) ∈ gx_G := gx_mem 41 (by decide +kernel) (by decide +kernel)
theorem mw_43 : (Cond.selects RX12 yX12_takesOf yX12_takesOf) ∈ gx_G := gx_mem 43 (by decide +kernel) (by decide +kernel)
theorem mw_44 : (Cond.selects RX12 yX12_among yX12_among) ∈ gx_G := gx_mem 44 (by decide +kernel) (by decide +kernel)
theorem mw_46 : (Cond.selects RX12 yX12_takes yX12_takes) ∈ gx_G := gx_mem 46 (by decide +kernel) (by decide +kernel)
theorem mw_47 : (Cond.selects RX12 yX12_faultOf yX12_faultOf) ∈ gx_G := gx_mem 47 (by decide +kernel) (by decide +kernel)
theorem mw_51 : (Cond.selects RX12 yX12_isDigit yX12_isDigit) ∈ gx_G := gx_mem 51 (by decide +kernel) (by decide +kernel)
theorem mw_52 : (Cond.selects RX12 yX12_numberOf yX12_numberOf) ∈ gx_G := gx_mem 52 (by decide +kernel) (by decide +kernel)
theorem mw_55 : (Cond.selects RX12 yX12_isThing yX12_isThing) ∈ gx_G := gx_mem 55 (by decide +kernel) (by decide +kernel)
theorem mw_57 : (Cond.selects RX12 yX12_isFork yX12_isFork) ∈ gx_G := gx_mem 57 (by decide +kernel) (by decide +kernel)
theorem mw_58 : (Cond.selects RX12 yX12_putsBy yX12_putsBy) ∈ gx_G := gx_mem 58 (by decide +kernel) (by decide +kernel)
theorem mw_59 : (Cond.selects RX12 yX12_adds yX12_adds) ∈ gx_G := gx_mem 59 (by decide +kernel) (by decide +kernel)
theorem mw_60 : (Cond.selects RX12 yX12_comesNow yX12_comesNow) ∈ gx_G := gx_mem 60 (by decide +kernel) (by decide +kernel)
theorem mw_63 : (Cond.selects RX12 yX12_gives yX12_gives) ∈ gx_G := gx_mem 63 (by decide +kernel) (by decide +kernel)
theorem mw_69 : (Cond.selects RX12 yX12_enters yX12_enters) ∈ gx_G := gx_mem 69 (by decide +kernel) (by decide +kernel)
theorem mw_70 : (Cond.selects RX12 yX12_readsAct yX12_readsAct) ∈ gx_G := gx_mem 70 (by decide +kernel) (by decide +kernel)
theorem mw_71 : (Cond.selects RX12 yX12_does yX12_does) ∈ gx_G := gx_mem 71 (by decide +kernel) (by decide +kernel)
theorem mw_74 : (Cond.selects RX12 yX12_canSail yX12_canSail) ∈ gx_G := gx_mem 74 (by decide +kernel) (by decide +kernel)
theorem mw_76 : (Cond.selects RX12 yX12_thinksNow yX12_thinksNow) ∈ gx_G := gx_mem 76 (by decide +kernel) (by decide +kernel)
theorem mw_77 : (Cond.selects RX12 yX12_sails yX12_sails) ∈ gx_G := gx_mem 77 (by decide +kernel) (by decide +kernel)
theorem mw_81 : (Cond.selects RX12 yX12_forks yX12_forks) ∈ gx_G := gx_mem 81 (by decide +kernel) (by decide +kernel)
theorem mw_83 : (Cond.selects RX12 yX12_plays yX12_plays) ∈ gx_G := gx_mem 83 (by decide +kernel) (by decide +kernel)
theorem mw_84 : (Cond.selects RX12 yX12_playsOut yX12_playsOut) ∈ gx_G := gx_mem 84 (by decide +kernel) (by decide +kernel)
theorem mw_1415 : (Cond.fieldLink RX12 119 "DownTheGutterModel" "rows" "I") ∈ gx_G := gx_mem 1415 (by decide +kernel) (by decide +kernel)
theorem mw_1416 : (Cond.fieldLink RX12 9 "DownTheGutterModel" "row" "[J") ∈ gx_G := gx_mem 1416 (by decide +kernel) (by decide +kernel)
theorem mw_1425 : (Cond.fieldLink RX12 32 "DownTheGutterModel" "then" "[I") ∈ gx_G := gx_mem 1425 (by decide +kernel) (by decide +kernel)
theorem mw_1427 : (Cond.fieldLink RX12 137 "DownTheGutterModel" "taped" "I") ∈ gx_G := gx_mem 1427 (by decide +kernel) (by decide +kernel)
theorem mw_1430 : (Cond.fieldLink RX12 143 "DownTheGutterModel" "nest" "I") ∈ gx_G := gx_mem 1430 (by decide +kernel) (by decide +kernel)
theorem mw_1441 : (Cond.fieldLink RX12 62 "DownTheGutterModel" "readCode" "[I") ∈ gx_G := gx_mem 1441 (by decide +kernel) (by decide +kernel)
theorem mw_1443 : (Cond.fieldLink RX12 228 "DownTheGutterModel" "readLong" "I") ∈ gx_G := gx_mem 1443 (by decide +kernel) (by decide +kernel)
theorem mw_1452 : (Cond.fieldLink RX12 71 "DownTheGutterModel" "actSign" "[I") ∈ gx_G := gx_mem 1452 (by decide +kernel) (by decide +kernel)
theorem mw_1453 : (Cond.fieldLink RX12 74 "DownTheGutterModel" "actOne" "[I") ∈ gx_G := gx_mem 1453 (by decide +kernel) (by decide +kernel)
theorem mw_1454 : (Cond.fieldLink RX12 77 "DownTheGutterModel" "actTwo" "[I") ∈ gx_G := gx_mem 1454 (by decide +kernel) (by decide +kernel)
theorem mw_1455 : (Cond.fieldLink RX12 80 "DownTheGutterModel" "actThree" "[I") ∈ gx_G := gx_mem 1455 (by decide +kernel) (by decide +kernel)
theorem mw_1456 : (Cond.fieldLink RX12 358 "DownTheGutterModel" "acts" "I") ∈ gx_G := gx_mem 1456 (by decide +kernel) (by decide +kernel)
theorem mw_1457 : (Cond.fieldLink RX12 365 "DownTheGutterModel" "cameHome" "I") ∈ gx_G := gx_mem 1457 (by decide +kernel) (by decide +kernel)
theorem mw_1461 : (Cond.fieldLink RX12 86 "DownTheGutterModel" "played" "[I") ∈ gx_G := gx_mem 1461 (by decide +kernel) (by decide +kernel)
theorem mw_1462 : (Cond.fieldLink RX12 425 "DownTheGutterModel" "playPlace" "I") ∈ gx_G := gx_mem 1462 (by decide +kernel) (by decide +kernel)
theorem mw_1463 : (Cond.fieldLink RX12 428 "DownTheGutterModel" "playBoat" "I") ∈ gx_G := gx_mem 1463 (by decide +kernel) (by decide +kernel)
theorem mw_1464 : (Cond.fieldLink RX12 431 "DownTheGutterModel" "playCoins" "I") ∈ gx_G := gx_mem 1464 (by decide +kernel) (by decide +kernel)
theorem mw_1465 : (Cond.fieldLink RX12 434 "DownTheGutterModel" "playKitchen" "I") ∈ gx_G := gx_mem 1465 (by decide +kernel) (by decide +kernel)
theorem mw_1466 : (Cond.fieldLink RX12 217 "DownTheGutterModel" "corks" "I") ∈ gx_G := gx_mem 1466 (by decide +kernel) (by decide +kernel)
theorem mw_1467 : (Cond.fieldLink RX12 89 "DownTheGutterModel" "corkPlace" "[I") ∈ gx_G := gx_mem 1467 (by decide +kernel) (by decide +kernel)
theorem mw_1468 : (Cond.fieldLink RX12 92 "DownTheGutterModel" "corkMinute" "[I") ∈ gx_G := gx_mem 1468 (by decide +kernel) (by decide +kernel)
theorem mw_1469 : (Cond.fieldLink RX12 95 "DownTheGutterModel" "corkHome" "[I") ∈ gx_G := gx_mem 1469 (by decide +kernel) (by decide +kernel)
theorem mw_1610 : (Cond.methodLink RX12 203 yX12_begins) ∈ gx_G := gx_mem 1610 (by decide +kernel) (by decide +kernel)
theorem mw_1612 : (Cond.instanceMethod yX12_begins) ∈ gx_G := gx_mem 1612 (by decide +kernel) (by decide +kernel)
theorem mw_1613 : (Cond.code yX12_begins cX12_begins 3 (some .int)) ∈ gx_G := gx_mem 1613 (by decide +kernel) (by decide +kernel)
theorem mw_1620 : (Cond.methodLink RX12 183 yX12_takesOf) ∈ gx_G := gx_mem 1620 (by decide +kernel) (by decide +kernel)
theorem mw_1622 : (Cond.instanceMethod yX12_takesOf) ∈ gx_G := gx_mem 1622 (by decide +kernel) (by decide +kernel)
theorem mw_1623 : (Cond.code yX12_takesOf cX12_takesOf 3 (some .int)) ∈ gx_G := gx_mem 1623 (by decide +kernel) (by decide +kernel)
theorem mw_1624 : (Cond.methodLink RX12 173 yX12_among) ∈ gx_G := gx_mem 1624 (by decide +kernel) (by decide +kernel)
theorem mw_1626 : (Cond.instanceMethod yX12_among) ∈ gx_G := gx_mem 1626 (by decide +kernel) (by decide +kernel)
theorem mw_1627 : (Cond.code yX12_among cX12_among 3 (some .int)) ∈ gx_G := gx_mem 1627 (by decide +kernel) (by decide +kernel)
theorem mw_1738 : (Cond.methodLink RX12 210 yX12_takes) ∈ gx_G := gx_mem 1738 (by decide +kernel) (by decide +kernel)
theorem mw_1740 : (Cond.instanceMethod yX12_takes) ∈ gx_G := gx_mem 1740 (by decide +kernel) (by decide +kernel)
theorem mw_1741 : (Cond.code yX12_takes cX12_takes 3 (some .boolean)) ∈ gx_G := gx_mem 1741 (by decide +kernel) (by decide +kernel)
theorem mw_1742 : (Cond.methodLink RX12 213 yX12_faultOf) ∈ gx_G := gx_mem 1742 (by decide +kernel) (by decide +kernel)
theorem mw_1744 : (Cond.instanceMethod yX12_faultOf) ∈ gx_G := gx_mem 1744 (by decide +kernel) (by decide +kernel)
theorem mw_1745 : (Cond.code yX12_faultOf cX12_faultOf 5 (some .int)) ∈ gx_G := gx_mem 1745 (by decide +kernel) (by decide +kernel)
theorem mw_1767 : (Cond.methodLink RX12 177 yX12_isDigit) ∈ gx_G := gx_mem 1767 (by decide +kernel) (by decide +kernel)
theorem mw_1769 : (Cond.instanceMethod yX12_isDigit) ∈ gx_G := gx_mem 1769 (by decide +kernel) (by decide +kernel)
theorem mw_1770 : (Cond.code yX12_isDigit cX12_isDigit 1 (some .boolean)) ∈ gx_G := gx_mem 1770 (by decide +kernel) (by decide +kernel)
theorem mw_1771 : (Cond.constantLong RX12 159 (48)) ∈ gx_G := gx_mem 1771 (by decide +kernel) (by decide +kernel)
theorem mw_1772 : (Cond.constantLong RX12 161 (57)) ∈ gx_G := gx_mem 1772 (by decide +kernel) (by decide +kernel)
theorem mw_1773 : (Cond.methodLink RX12 238 yX12_numberOf) ∈ gx_G := gx_mem 1773 (by decide +kernel) (by decide +kernel)
theorem mw_1775 : (Cond.instanceMethod yX12_numberOf) ∈ gx_G := gx_mem 1775 (by decide +kernel) (by decide +kernel)
theorem mw_1776 : (Cond.code yX12_numberOf cX12_numberOf 4 (some .int)) ∈ gx_G := gx_mem 1776 (by decide +kernel) (by decide +kernel)
theorem mw_1798 : (Cond.methodLink RX12 309 yX12_isThing) ∈ gx_G := gx_mem 1798 (by decide +kernel) (by decide +kernel)
theorem mw_1800 : (Cond.instanceMethod yX12_isThing) ∈ gx_G := gx_mem 1800 (by decide +kernel) (by decide +kernel)
theorem mw_1801 : (Cond.code yX12_isThing cX12_isThing 2 (some .boolean)) ∈ gx_G := gx_mem 1801 (by decide +kernel) (by decide +kernel)
theorem mw_1824 : (Cond.methodLink RX12 316 yX12_isFork) ∈ gx_G := gx_mem 1824 (by decide +kernel) (by decide +kernel)
theorem mw_1826 : (Cond.instanceMethod yX12_isFork) ∈ gx_G := gx_mem 1826 (by decide +kernel) (by decide +kernel)
theorem mw_1827 : (Cond.code yX12_isFork cX12_isFork 2 (some .boolean)) ∈ gx_G := gx_mem 1827 (by decide +kernel) (by decide +kernel)
theorem mw_1828 : (Cond.methodLink RX12 319 yX12_putsBy) ∈ gx_G := gx_mem 1828 (by decide +kernel) (by decide +kernel)
theorem mw_1830 : (Cond.instanceMethod yX12_putsBy) ∈ gx_G := gx_mem 1830 (by decide +kernel) (by decide +kernel)
theorem mw_1831 : (Cond.code yX12_putsBy cX12_putsBy 2 none) ∈ gx_G := gx_mem 1831 (by decide +kernel) (by decide +kernel)
theorem mw_1832 : (Cond.methodLink RX12 322 yX12_adds) ∈ gx_G := gx_mem 1832 (by decide +kernel) (by decide +kernel)
theorem mw_1834 : (Cond.instanceMethod yX12_adds) ∈ gx_G := gx_mem 1834 (by decide +kernel) (by decide +kernel)
theorem mw_1835 : (Cond.code yX12_adds cX12_adds 3 (some .int)) ∈ gx_G := gx_mem 1835 (by decide +kernel) (by decide +kernel)
theorem mw_1845 : (Cond.methodLink RX12 339 yX12_comesNow) ∈ gx_G := gx_mem 1845 (by decide +kernel) (by decide +kernel)
theorem mw_1847 : (Cond.instanceMethod yX12_comesNow) ∈ gx_G := gx_mem 1847 (by decide +kernel) (by decide +kernel)
theorem mw_1848 : (Cond.code yX12_comesNow cX12_comesNow 5 (some .int)) ∈ gx_G := gx_mem 1848 (by decide +kernel) (by decide +kernel)
theorem mw_1863 : (Cond.methodLink RX12 343 yX12_gives) ∈ gx_G := gx_mem 1863 (by decide +kernel) (by decide +kernel)
theorem mw_1865 : (Cond.instanceMethod yX12_gives) ∈ gx_G := gx_mem 1865 (by decide +kernel) (by decide +kernel)
theorem mw_1866 : (Cond.code yX12_gives cX12_gives 3 (some .int)) ∈ gx_G := gx_mem 1866 (by decide +kernel) (by decide +kernel)
theorem mw_1871 : (Cond.methodLink RX12 346 yX12_thoseHow) ∈ gx_G := gx_mem 1871 (by decide +kernel) (by decide +kernel)
theorem mw_1872 : (Cond.static yX12_thoseHow) ∈ gx_G := gx_mem 1872 (by decide +kernel) (by decide +kernel)
theorem mw_1873 : (Cond.code yX12_thoseHow cX12_thoseHow 4 (some .int)) ∈ gx_G := gx_mem 1873 (by decide +kernel) (by decide +kernel)
theorem mw_1900 : (Cond.methodLink RX12 122 yX12_enters) ∈ gx_G := gx_mem 1900 (by decide +kernel) (by decide +kernel)
theorem mw_1902 : (Cond.instanceMethod yX12_enters) ∈ gx_G := gx_mem 1902 (by decide +kernel) (by decide +kernel)
theorem mw_1903 : (Cond.code yX12_enters cX12_enters 3 none) ∈ gx_G := gx_mem 1903 (by decide +kernel) (by decide +kernel)
theorem mw_1904 : (Cond.methodLink RX12 353 yJ6_bitCount_0f7a4) ∈ gx_G := gx_mem 1904 (by decide +kernel) (by decide +kernel)
theorem mw_1909 : (Cond.methodLink RX12 368 yX12_readsAct) ∈ gx_G := gx_mem 1909 (by decide +kernel) (by decide +kernel)
theorem mw_1911 : (Cond.instanceMethod yX12_readsAct) ∈ gx_G := gx_mem 1911 (by decide +kernel) (by decide +kernel)
theorem mw_1912 : (Cond.code yX12_readsAct cX12_readsAct 2 (some .boolean)) ∈ gx_G := gx_mem 1912 (by decide +kernel) (by decide +kernel)
theorem mw_1915 : (Cond.methodLink RX12 371 yX12_does) ∈ gx_G := gx_mem 1915 (by decide +kernel) (by decide +kernel)
theorem mw_1917 : (Cond.instanceMethod yX12_does) ∈ gx_G := gx_mem 1917 (by decide +kernel) (by decide +kernel)
theorem mw_1918 : (Cond.code yX12_does cX12_does 5 (some .boolean)) ∈ gx_G := gx_mem 1918 (by decide +kernel) (by decide +kernel)
theorem mw_1928 : (Cond.methodLink RX12 374 yX12_puts) ∈ gx_G := gx_mem 1928 (by decide +kernel) (by decide +kernel)
theorem mw_1929 : (Cond.static yX12_puts) ∈ gx_G := gx_mem 1929 (by decide +kernel) (by decide +kernel)
theorem mw_1930 : (Cond.code yX12_puts cX12_puts 3 none) ∈ gx_G := gx_mem 1930 (by decide +kernel) (by decide +kernel)
theorem mw_1955 : (Cond.methodLink RX12 405 yX12_canSail) ∈ gx_G := gx_mem 1955 (by decide +kernel) (by decide +kernel)
theorem mw_1957 : (Cond.instanceMethod yX12_canSail) ∈ gx_G := gx_mem 1957 (by decide +kernel) (by decide +kernel)
theorem mw_1958 : (Cond.code yX12_canSail cX12_canSail 5 (some .boolean)) ∈ gx_G := gx_mem 1958 (by decide +kernel) (by decide +kernel)
theorem mw_1963 : (Cond.methodLink RX12 409 yX12_thinksNow) ∈ gx_G := gx_mem 1963 (by decide +kernel) (by decide +kernel)
theorem mw_1965 : (Cond.instanceMethod yX12_thinksNow) ∈ gx_G := gx_mem 1965 (by decide +kernel) (by decide +kernel)
theorem mw_1966 : (Cond.code yX12_thinksNow cX12_thinksNow 1 none) ∈ gx_G := gx_mem 1966 (by decide +kernel) (by decide +kernel)
theorem mw_1967 : (Cond.methodLink RX12 412 yX12_sails) ∈ gx_G := gx_mem 1967 (by decide +kernel) (by decide +kernel)
theorem mw_1969 : (Cond.instanceMethod yX12_sails) ∈ gx_G := gx_mem 1969 (by decide +kernel) (by decide +kernel)
theorem mw_1970 : (Cond.code yX12_sails cX12_sails 7 (some .int)) ∈ gx_G := gx_mem 1970 (by decide +kernel) (by decide +kernel)
theorem mw_2011 : (Cond.methodLink RX12 416 yX12_forks) ∈ gx_G := gx_mem 2011 (by decide +kernel) (by decide +kernel)
theorem mw_2013 : (Cond.instanceMethod yX12_forks) ∈ gx_G := gx_mem 2013 (by decide +kernel) (by decide +kernel)
theorem mw_2014 : (Cond.code yX12_forks cX12_forks 3 (some .int)) ∈ gx_G := gx_mem 2014 (by decide +kernel) (by decide +kernel)
theorem mw_2031 : (Cond.methodLink RX12 440 yX12_plays) ∈ gx_G := gx_mem 2031 (by decide +kernel) (by decide +kernel)
theorem mw_2033 : (Cond.instanceMethod yX12_plays) ∈ gx_G := gx_mem 2033 (by decide +kernel) (by decide +kernel)
theorem mw_2034 : (Cond.code yX12_plays cX12_plays 8 (some .int)) ∈ gx_G := gx_mem 2034 (by decide +kernel) (by decide +kernel)
theorem mw_2035 : (Cond.methodLink RX12 437 yX12_playsOut) ∈ gx_G := gx_mem 2035 (by decide +kernel) (by decide +kernel)
theorem mw_2037 : (Cond.instanceMethod yX12_playsOut) ∈ gx_G := gx_mem 2037 (by decide +kernel) (by decide +kernel)
theorem mw_2038 : (Cond.code yX12_playsOut cX12_playsOut 2 (some .int)) ∈ gx_G := gx_mem 2038 (by decide +kernel) (by decide +kernel)
theorem mw_2043 : (Cond.constantLong RX12 443 (999)) ∈ gx_G := gx_mem 2043 (by decide +kernel) (by decide +kernel)
theorem mw_2074 : (Cond.methodLink RX12 115 yX12_common) ∈ gx_G := gx_mem 2074 (by decide +kernel) (by decide +kernel)
theorem mw_2075 : (Cond.static yX12_common) ∈ gx_G := gx_mem 2075 (by decide +kernel) (by decide +kernel)
theorem mw_2076 : (Cond.code yX12_common cX12_common 4 (some .long)) ∈ gx_G := gx_mem 2076 (by decide +kernel) (by decide +kernel)
theorem cw_X12_122 : gx_Wv RX12 122 yX12_enters cX12_enters 3 none 1 := ⟨⟨mw_1900, mw_1902, mw_69, mw_101, mw_1903⟩, by decide +kernel⟩
theorem cw_X12_412 : gx_Wv RX12 412 yX12_sails cX12_sails 7 (some .int) 5 := ⟨⟨mw_1967, mw_1969, mw_77, mw_101, mw_1970⟩, by decide +kernel⟩
theorem cw_X12_405 : gx_Wv RX12 405 yX12_canSail cX12_canSail 5 (some .boolean) 4 := ⟨⟨mw_1955, mw_1957, mw_74, mw_101, mw_1958⟩, by decide +kernel⟩
theorem cw_X12_409 : gx_Wv RX12 409 yX12_thinksNow cX12_thinksNow 1 none 0 := ⟨⟨mw_1963, mw_1965, mw_76, mw_101, mw_1966⟩, by decide +kernel⟩
theorem cw_X12_309 : gx_Wv RX12 309 yX12_isThing cX12_isThing 2 (some .boolean) 1 := ⟨⟨mw_1798, mw_1800, mw_55, mw_101, mw_1801⟩, by decide +kernel⟩
theorem cw_X12_374 : gx_Ws RX12 374 yX12_puts cX12_puts 3 none 2 := ⟨⟨mw_1928, mw_1929, mw_101, mw_1930⟩, by decide +kernel⟩
theorem cw_X12_115 : gx_Ws RX12 115 yX12_common cX12_common 4 (some .long) 2 := ⟨⟨mw_2074, mw_2075, mw_101, mw_2076⟩, by decide +kernel⟩
theorem cw_X12_416 : gx_Wv RX12 416 yX12_forks cX12_forks 3 (some .int) 0 := ⟨⟨mw_2011, mw_2013, mw_81, mw_101, mw_2014⟩, by decide +kernel⟩
theorem cw_X12_346 : gx_Ws RX12 346 yX12_thoseHow cX12_thoseHow 4 (some .int) 2 := ⟨⟨mw_1871, mw_1872, mw_101, mw_1873⟩, by decide +kernel⟩
theorem cw_X12_173 : gx_Wv RX12 173 yX12_among cX12_among 3 (some .int) 1 := ⟨⟨mw_1624, mw_1626, mw_44, mw_101, mw_1627⟩, by decide +kernel⟩
theorem cw_X12_177 : gx_Wv RX12 177 yX12_isDigit cX12_isDigit 1 (some .boolean) 0 := ⟨⟨mw_1767, mw_1769, mw_51, mw_101, mw_1770⟩, by decide +kernel⟩
theorem cw_X12_238 : gx_Wv RX12 238 yX12_numberOf cX12_numberOf 4 (some .int) 1 := ⟨⟨mw_1773, mw_1775, mw_52, mw_101, mw_1776⟩, by decide +kernel⟩
theorem cw_X12_210 : gx_Wv RX12 210 yX12_takes cX12_takes 3 (some .boolean) 1 := ⟨⟨mw_1738, mw_1740, mw_46, mw_101, mw_1741⟩, by decide +kernel⟩
theorem cw_X12_183 : gx_Wv RX12 183 yX12_takesOf cX12_takesOf 3 (some .int) 1 := ⟨⟨mw_1620, mw_1622, mw_43, mw_101, mw_1623⟩, by decide +kernel⟩
theorem cw_X12_353 : gx_Ws RX12 353 yJ6_bitCount_0f7a4 cJ6_bitCount_0f7a4 1 (some .int) 1 := ⟨⟨mw_1904, mw_896, mw_114, mw_897⟩, by decide +kernel⟩
theorem cw_X12_339 : gx_Wv RX12 339 yX12_comesNow cX12_comesNow 5 (some .int) 4 := ⟨⟨mw_1845, mw_1847, mw_60, mw_101, mw_1848⟩, by decide +kernel⟩
theorem cw_X12_316 : gx_Wv RX12 316 yX12_isFork cX12_isFork 2 (some .boolean) 1 := ⟨⟨mw_1824, mw_1826, mw_57, mw_101, mw_1827⟩, by decide +kernel⟩
theorem cw_X12_343 : gx_Wv RX12 343 yX12_gives cX12_gives 3 (some .int) 2 := ⟨⟨mw_1863, mw_1865, mw_63, mw_101, mw_1866⟩, by decide +kernel⟩
theorem cw_X12_322 : gx_Wv RX12 322 yX12_adds cX12_adds 3 (some .int) 1 := ⟨⟨mw_1832, mw_1834, mw_59, mw_101, mw_1835⟩, by decide +kernel⟩
theorem cw_X12_371 : gx_Wv RX12 371 yX12_does cX12_does 5 (some .boolean) 1 := ⟨⟨mw_1915, mw_1917, mw_71, mw_101, mw_1918⟩, by decide +kernel⟩
theorem cw_X12_213 : gx_Wv RX12 213 yX12_faultOf cX12_faultOf 5 (some .int) 3 := ⟨⟨mw_1742, mw_1744, mw_47, mw_101, mw_1745⟩, by decide +kernel⟩
theorem cw_X12_319 : gx_Wv RX12 319 yX12_putsBy cX12_putsBy 2 none 0 := ⟨⟨mw_1828, mw_1830, mw_58, mw_101, mw_1831⟩, by decide +kernel⟩
theorem cw_X12_368 : gx_Wv RX12 368 yX12_readsAct cX12_readsAct 2 (some .boolean) 0 := ⟨⟨mw_1909, mw_1911, mw_70, mw_101, mw_1912⟩, by decide +kernel⟩
theorem cw_X12_203 : gx_Wv RX12 203 yX12_begins cX12_begins 3 (some .int) 1 := ⟨⟨mw_1610, mw_1612, mw_41, mw_101, mw_1613⟩, by decide +kernel⟩
theorem cw_X12_440 : gx_Wv RX12 440 yX12_plays cX12_plays 8 (some .int) 3 := ⟨⟨mw_2031, mw_2033, mw_83, mw_101, mw_2034⟩, by decide +kernel⟩
theorem cw_X12_437 : gx_Wv RX12 437 yX12_playsOut cX12_playsOut 2 (some .int) 1 := ⟨⟨mw_2035, mw_2037, mw_84, mw_101, mw_2038⟩, by decide +kernel⟩
theorem t_200 : gx_tb[200]? = some (.inr (1, 16, [])) := rfl
theorem t_207 : gx_tb[207]? = some (.inr (0, 45, [])) := rfl
theorem t_217 : gx_tb[217]? = some (.inr (0, 80, [])) := rfl
theorem t_220 : gx_tb[220]? = some (.inr (0, 60, [])) := rfl
theorem t_221 : gx_tb[221]? = some (.inr (0, 60, [])) := rfl
theorem t_222 : gx_tb[222]? = some (.inr (0, 60, [])) := rfl
theorem t_223 : gx_tb[223]? = some (.inr (0, 60, [])) := rfl
theorem t_225 : gx_tb[225]? = some (.inr (0, 4096, [])) := rfl
theorem t_226 : gx_tb[226]? = some (.inr (0, 10, [])) := rfl
theorem t_227 : gx_tb[227]? = some (.inr (0, 10, [])) := rfl
theorem t_228 : gx_tb[228]? = some (.inr (0, 10, [])) := rfl
theorem ss_10 : gx_ss[10]? = some (RX12, 181, "abcdefghijkl", [97, 98, 99, 100, 101, 102, 103, 104, 105, 106, 107, 108]) := rfl
theorem ss_19 : gx_ss[19]? = some (RX12, 361, "tpnc", [116, 112, 110, 99]) := rfl
theorem ss_20 : gx_ss[20]? = some (RX12, 363, "123456789", [49, 50, 51, 52, 53, 54, 55, 56, 57]) := rfl
theorem dX12_basin_0 : decode cX12_basin 0 = .ok (.aload_n 0, 1) := by decide +kernel
theorem dX12_basin_1 : decode cX12_basin 1 = .ok (.iconst 0, 1) := by decide +kernel
theorem dX12_basin_2 : decode cX12_basin 2 = .ok (.putfield 111, 3) := by decide +kernel
theorem dX12_basin_5 : decode cX12_basin 5 = .ok (.aload_n 0, 1) := by decide +kernel
theorem dX12_basin_6 : decode cX12_basin 6 = .ok (.iconst 0, 1) := by decide +kernel
theorem dX12_basin_7 : decode cX12_basin 7 = .ok (.iload_n 1, 1) := by decide +kernel
theorem dX12_basin_8 : decode cX12_basin 8 = .ok (.iload_n 2, 1) := by decide +kernel
theorem dX12_basin_9 : decode cX12_basin 9 = .ok (.iload_n 3, 1) := by decide +kernel
theorem dX12_basin_10 : decode cX12_basin 10 = .ok (.invokevirtual 405, 3) := by decide +kernel
theorem dX12_basin_13 : decode cX12_basin 13 = .ok (.ifCond .ne 5, 3) := by decide +kernel
theorem dX12_basin_16 : decode cX12_basin 16 = .ok (.iconst (-1), 1) := by decide +kernel
theorem dX12_basin_17 : decode cX12_basin 17 = .ok (.ireturn, 1) := by decide +kernel
theorem dX12_basin_18 : decode cX12_basin 18 = .ok (.aload_n 0, 1) := by decide +kernel
theorem dX12_basin_19 : decode cX12_basin 19 = .ok (.invokevirtual 409, 3) := by decide +kernel
theorem dX12_basin_22 : decode cX12_basin 22 = .ok (.iconst 0, 1) := by decide +kernel
theorem dX12_basin_23 : decode cX12_basin 23 = .ok (.istore 4, 2) := by decide +kernel
theorem dX12_basin_25 : decode cX12_basin 25 = .ok (.iconst 0, 1) := by decide +kernel
theorem dX12_basin_26 : decode cX12_basin 26 = .ok (.istore 5, 2) := by decide +kernel
theorem dX12_basin_28 : decode cX12_basin 28 = .ok (.iconst 0, 1) := by decide +kernel
theorem dX12_basin_29 : decode cX12_basin 29 = .ok (.istore 6, 2) := by decide +kernel
theorem dX12_basin_31 : decode cX12_basin 31 = .ok (.iconst 0, 1) := by decide +kernel
theorem dX12_basin_32 : decode cX12_basin 32 = .ok (.istore 7, 2) := by decide +kernel
theorem dX12_basin_34 : decode cX12_basin 34 = .ok (.iload 7, 2) := by decide +kernel
theorem dX12_basin_36 : decode cX12_basin 36 = .ok (.aload_n 0, 1) := by decide +kernel
theorem dX12_basin_37 : decode cX12_basin 37 = .ok (.getfield 126, 3) := by decide +kernel
theorem dX12_basin_40 : decode cX12_basin 40 = .ok (.if_icmp .ge 81, 3) := by decide +kernel
theorem dX12_basin_43 : decode cX12_basin 43 = .ok (.iload 4, 2) := by decide +kernel
theorem dX12_basin_45 : decode cX12_basin 45 = .ok (.aload_n 0, 1) := by decide +kernel
theorem dX12_basin_46 : decode cX12_basin 46 = .ok (.iload 7, 2) := by decide +kernel
theorem dX12_basin_48 : decode cX12_basin 48 = .ok (.iload_n 1, 1) := by decide +kernel
theorem dX12_basin_49 : decode cX12_basin 49 = .ok (.iload_n 2, 1) := by decide +kernel
theorem dX12_basin_50 : decode cX12_basin 50 = .ok (.iconst 0, 1) := by decide +kernel
theorem dX12_basin_51 : decode cX12_basin 51 = .ok (.iload_n 3, 1) := by decide +kernel
theorem dX12_basin_52 : decode cX12_basin 52 = .ok (.invokevirtual 412, 3) := by decide +kernel
theorem dX12_basin_55 : decode cX12_basin 55 = .ok (.ifCond .lt 10, 3) := by decide +kernel
theorem dX12_basin_58 : decode cX12_basin 58 = .ok (.iconst 1, 1) := by decide +kernel
theorem dX12_basin_59 : decode cX12_basin 59 = .ok (.iload 7, 2) := by decide +kernel
theorem dX12_basin_61 : decode cX12_basin 61 = .ok (.ishl, 1) := by decide +kernel
theorem dX12_basin_62 : decode cX12_basin 62 = .ok (.goto 4, 3) := by decide +kernel
theorem dX12_basin_65 : decode cX12_basin 65 = .ok (.iconst 0, 1) := by decide +kernel
theorem dX12_basin_66 : decode cX12_basin 66 = .ok (.ior, 1) := by decide +kernel
theorem dX12_basin_67 : decode cX12_basin 67 = .ok (.istore 4, 2) := by decide +kernel
theorem dX12_basin_69 : decode cX12_basin 69 = .ok (.iload 5, 2) := by decide +kernel
theorem dX12_basin_71 : decode cX12_basin 71 = .ok (.aload_n 0, 1) := by decide +kernel
theorem dX12_basin_72 : decode cX12_basin 72 = .ok (.getfield 83, 3) := by decide +kernel
theorem dX12_basin_75 : decode cX12_basin 75 = .ok (.iconst 4, 1) := by decide +kernel
theorem dX12_basin_76 : decode cX12_basin 76 = .ok (.iaload, 1) := by decide +kernel
theorem dX12_basin_77 : decode cX12_basin 77 = .ok (.iconst 1, 1) := by decide +kernel
theorem dX12_basin_78 : decode cX12_basin 78 = .ok (.if_icmp .ne 10, 3) := by decide +kernel
theorem dX12_basin_81 : decode cX12_basin 81 = .ok (.iconst 1, 1) := by decide +kernel
theorem dX12_basin_82 : decode cX12_basin 82 = .ok (.iload 7, 2) := by decide +kernel
theorem dX12_basin_84 : decode cX12_basin 84 = .ok (.ishl, 1) := by decide +kernel
theorem dX12_basin_85 : decode cX12_basin 85 = .ok (.goto 4, 3) := by decide +kernel
theorem dX12_basin_88 : decode cX12_basin 88 = .ok (.iconst 0, 1) := by decide +kernel
theorem dX12_basin_89 : decode cX12_basin 89 = .ok (.ior, 1) := by decide +kernel
theorem dX12_basin_90 : decode cX12_basin 90 = .ok (.istore 5, 2) := by decide +kernel
theorem dX12_basin_92 : decode cX12_basin 92 = .ok (.iload 6, 2) := by decide +kernel
theorem dX12_basin_94 : decode cX12_basin 94 = .ok (.aload_n 0, 1) := by decide +kernel
theorem dX12_basin_95 : decode cX12_basin 95 = .ok (.getfield 83, 3) := by decide +kernel
theorem dX12_basin_98 : decode cX12_basin 98 = .ok (.iconst 4, 1) := by decide +kernel
theorem dX12_basin_99 : decode cX12_basin 99 = .ok (.iaload, 1) := by decide +kernel
theorem dX12_basin_100 : decode cX12_basin 100 = .ok (.iconst 2, 1) := by decide +kernel
theorem dX12_basin_101 : decode cX12_basin 101 = .ok (.if_icmp .ne 10, 3) := by decide +kernel
theorem dX12_basin_104 : decode cX12_basin 104 = .ok (.iconst 1, 1) := by decide +kernel
theorem dX12_basin_105 : decode cX12_basin 105 = .ok (.iload 7, 2) := by decide +kernel
theorem dX12_basin_107 : decode cX12_basin 107 = .ok (.ishl, 1) := by decide +kernel
theorem dX12_basin_108 : decode cX12_basin 108 = .ok (.goto 4, 3) := by decide +kernel
theorem dX12_basin_111 : decode cX12_basin 111 = .ok (.iconst 0, 1) := by decide +kernel
theorem dX12_basin_112 : decode cX12_basin 112 = .ok (.ior, 1) := by decide +kernel
theorem dX12_basin_113 : decode cX12_basin 113 = .ok (.istore 6, 2) := by decide +kernel
theorem dX12_basin_115 : decode cX12_basin 115 = .ok (.iinc 7 1, 3) := by decide +kernel
theorem dX12_basin_118 : decode cX12_basin 118 = .ok (.goto (-84), 3) := by decide +kernel
theorem dX12_basin_121 : decode cX12_basin 121 = .ok (.aload_n 0, 1) := by decide +kernel
theorem dX12_basin_122 : decode cX12_basin 122 = .ok (.iconst 0, 1) := by decide +kernel
theorem dX12_basin_123 : decode cX12_basin 123 = .ok (.putfield 119, 3) := by decide +kernel
theorem dX12_basin_126 : decode cX12_basin 126 = .ok (.aload_n 0, 1) := by decide +kernel
theorem dX12_basin_127 : decode cX12_basin 127 = .ok (.iload 5, 2) := by decide +kernel
theorem dX12_basin_129 : decode cX12_basin 129 = .ok (.i2l, 1) := by decide +kernel
theorem dX12_basin_130 : decode cX12_basin 130 = .ok (.invokevirtual 122, 3) := by decide +kernel
theorem dX12_basin_133 : decode cX12_basin 133 = .ok (.aload_n 0, 1) := by decide +kernel
theorem dX12_basin_134 : decode cX12_basin 134 = .ok (.iload 6, 2) := by decide +kernel
theorem dX12_basin_136 : decode cX12_basin 136 = .ok (.i2l, 1) := by decide +kernel
theorem dX12_basin_137 : decode cX12_basin 137 = .ok (.invokevirtual 122, 3) := by decide +kernel
theorem dX12_basin_140 : decode cX12_basin 140 = .ok (.iload 4, 2) := by decide +kernel
theorem dX12_basin_142 : decode cX12_basin 142 = .ok (.ireturn, 1) := by decide +kernel
theorem dX12_begins_0 : decode cX12_begins 0 = .ok (.aload_n 0, 1) := by decide +kernel
theorem dX12_begins_1 : decode cX12_begins 1 = .ok (.getfield 137, 3) := by decide +kernel
theorem dX12_begins_4 : decode cX12_begins 4 = .ok (.istore_n 2, 1) := by decide +kernel
theorem dX12_begins_5 : decode cX12_begins 5 = .ok (.aload_n 0, 1) := by decide +kernel
theorem dX12_begins_6 : decode cX12_begins 6 = .ok (.iconst 0, 1) := by decide +kernel
theorem dX12_begins_7 : decode cX12_begins 7 = .ok (.putfield 137, 3) := by decide +kernel
theorem dX12_begins_10 : decode cX12_begins 10 = .ok (.aload_n 0, 1) := by decide +kernel
theorem dX12_begins_11 : decode cX12_begins 11 = .ok (.iconst 0, 1) := by decide +kernel
theorem dX12_begins_12 : decode cX12_begins 12 = .ok (.putfield 140, 3) := by decide +kernel
theorem dX12_begins_15 : decode cX12_begins 15 = .ok (.aload_n 0, 1) := by decide +kernel
theorem dX12_begins_16 : decode cX12_begins 16 = .ok (.iconst 0, 1) := by decide +kernel
theorem dX12_begins_17 : decode cX12_begins 17 = .ok (.putfield 143, 3) := by decide +kernel
theorem dX12_begins_20 : decode cX12_begins 20 = .ok (.aload_n 0, 1) := by decide +kernel
theorem dX12_begins_21 : decode cX12_begins 21 = .ok (.iload_n 2, 1) := by decide +kernel
theorem dX12_begins_22 : decode cX12_begins 22 = .ok (.iload_n 1, 1) := by decide +kernel
theorem dX12_begins_23 : decode cX12_begins 23 = .ok (.invokestatic 146, 3) := by decide +kernel
theorem dX12_begins_26 : decode cX12_begins 26 = .ok (.putfield 152, 3) := by decide +kernel
theorem dX12_begins_29 : decode cX12_begins 29 = .ok (.iload_n 2, 1) := by decide +kernel
theorem dX12_begins_30 : decode cX12_begins 30 = .ok (.ireturn, 1) := by decide +kernel
theorem dX12_boat_0 : decode cX12_boat 0 = .ok (.aload_n 0, 1) := by decide +kernel
theorem dX12_boat_1 : decode cX12_boat 1 = .ok (.iconst 0, 1) := by decide +kernel
theorem dX12_boat_2 : decode cX12_boat 2 = .ok (.putfield 111, 3) := by decide +kernel
theorem dX12_boat_5 : decode cX12_boat 5 = .ok (.aload_n 0, 1) := by decide +kernel
theorem dX12_boat_6 : decode cX12_boat 6 = .ok (.iload_n 1, 1) := by decide +kernel
theorem dX12_boat_7 : decode cX12_boat 7 = .ok (.iconst 0, 1) := by decide +kernel
theorem dX12_boat_8 : decode cX12_boat 8 = .ok (.iload_n 2, 1) := by decide +kernel
theorem dX12_boat_9 : decode cX12_boat 9 = .ok (.iload_n 3, 1) := by decide +kernel
theorem dX12_boat_10 : decode cX12_boat 10 = .ok (.invokevirtual 405, 3) := by decide +kernel
theorem dX12_boat_13 : decode cX12_boat 13 = .ok (.ifCond .ne 5, 3) := by decide +kernel
theorem dX12_boat_16 : decode cX12_boat 16 = .ok (.iconst (-1), 1) := by decide +kernel
theorem dX12_boat_17 : decode cX12_boat 17 = .ok (.ireturn, 1) := by decide +kernel
theorem dX12_boat_18 : decode cX12_boat 18 = .ok (.aload_n 0, 1) := by decide +kernel
theorem dX12_boat_19 : decode cX12_boat 19 = .ok (.invokevirtual 409, 3) := by decide +kernel
theorem dX12_boat_22 : decode cX12_boat 22 = .ok (.iconst 0, 1) := by decide +kernel
theorem dX12_boat_23 : decode cX12_boat 23 = .ok (.istore 4, 2) := by decide +kernel
theorem dX12_boat_25 : decode cX12_boat 25 = .ok (.iload 4, 2) := by decide +kernel
theorem dX12_boat_27 : decode cX12_boat 27 = .ok (.bipush 99, 2) := by decide +kernel
theorem dX12_boat_29 : decode cX12_boat 29 = .ok (.if_icmp .gt 41, 3) := by decide +kernel
theorem dX12_boat_32 : decode cX12_boat 32 = .ok (.aload_n 0, 1) := by decide +kernel
theorem dX12_boat_33 : decode cX12_boat 33 = .ok (.iload_n 1, 1) := by decide +kernel
theorem dX12_boat_34 : decode cX12_boat 34 = .ok (.iload 4, 2) := by decide +kernel
theorem dX12_boat_36 : decode cX12_boat 36 = .ok (.iload_n 2, 1) := by decide +kernel
theorem dX12_boat_37 : decode cX12_boat 37 = .ok (.iconst 0, 1) := by decide +kernel
theorem dX12_boat_38 : decode cX12_boat 38 = .ok (.iload_n 3, 1) := by decide +kernel
theorem dX12_boat_39 : decode cX12_boat 39 = .ok (.invokevirtual 412, 3) := by decide +kernel
theorem dX12_boat_42 : decode cX12_boat 42 = .ok (.istore 5, 2) := by decide +kernel
theorem dX12_boat_44 : decode cX12_boat 44 = .ok (.iload 5, 2) := by decide +kernel
theorem dX12_boat_46 : decode cX12_boat 46 = .ok (.ifCond .lt 18, 3) := by decide +kernel
theorem dX12_boat_49 : decode cX12_boat 49 = .ok (.aload_n 0, 1) := by decide +kernel
theorem dX12_boat_50 : decode cX12_boat 50 = .ok (.iconst 0, 1) := by decide +kernel
theorem dX12_boat_51 : decode cX12_boat 51 = .ok (.putfield 119, 3) := by decide +kernel
theorem dX12_boat_54 : decode cX12_boat 54 = .ok (.aload_n 0, 1) := by decide +kernel
theorem dX12_boat_55 : decode cX12_boat 55 = .ok (.iload 5, 2) := by decide +kernel
theorem dX12_boat_57 : decode cX12_boat 57 = .ok (.i2l, 1) := by decide +kernel
theorem dX12_boat_58 : decode cX12_boat 58 = .ok (.invokevirtual 122, 3) := by decide +kernel
theorem dX12_boat_61 : decode cX12_boat 61 = .ok (.iload 4, 2) := by decide +kernel
theorem dX12_boat_63 : decode cX12_boat 63 = .ok (.ireturn, 1) := by decide +kernel
theorem dX12_boat_64 : decode cX12_boat 64 = .ok (.iinc 4 1, 3) := by decide +kernel
theorem dX12_boat_67 : decode cX12_boat 67 = .ok (.goto (-42), 3) := by decide +kernel
theorem dX12_boat_70 : decode cX12_boat 70 = .ok (.bipush (-2), 2) := by decide +kernel
theorem dX12_boat_72 : decode cX12_boat 72 = .ok (.ireturn, 1) := by decide +kernel
theorem dX12_codes_0 : decode cX12_codes 0 = .ok (.aload_n 0, 1) := by decide +kernel
theorem dX12_codes_1 : decode cX12_codes 1 = .ok (.getfield 62, 3) := by decide +kernel
theorem dX12_codes_4 : decode cX12_codes 4 = .ok (.aload_n 0, 1) := by decide +kernel
theorem dX12_codes_5 : decode cX12_codes 5 = .ok (.getfield 228, 3) := by decide +kernel
theorem dX12_codes_8 : decode cX12_codes 8 = .ok (.iload_n 1, 1) := by decide +kernel
theorem dX12_codes_9 : decode cX12_codes 9 = .ok (.iastore, 1) := by decide +kernel
theorem dX12_codes_10 : decode cX12_codes 10 = .ok (.aload_n 0, 1) := by decide +kernel
theorem dX12_codes_11 : decode cX12_codes 11 = .ok (.dup, 1) := by decide +kernel
theorem dX12_codes_12 : decode cX12_codes 12 = .ok (.getfield 228, 3) := by decide +kernel
theorem dX12_codes_15 : decode cX12_codes 15 = .ok (.iconst 1, 1) := by decide +kernel
theorem dX12_codes_16 : decode cX12_codes 16 = .ok (.iadd, 1) := by decide +kernel
theorem dX12_codes_17 : decode cX12_codes 17 = .ok (.putfield 228, 3) := by decide +kernel
theorem dX12_codes_20 : decode cX12_codes 20 = .ok (.return_, 1) := by decide +kernel
theorem dX12_coins_0 : decode cX12_coins 0 = .ok (.aload_n 0, 1) := by decide +kernel
theorem dX12_coins_1 : decode cX12_coins 1 = .ok (.iconst 0, 1) := by decide +kernel
theorem dX12_coins_2 : decode cX12_coins 2 = .ok (.putfield 111, 3) := by decide +kernel
theorem dX12_coins_5 : decode cX12_coins 5 = .ok (.aload_n 0, 1) := by decide +kernel
theorem dX12_coins_6 : decode cX12_coins 6 = .ok (.iload_n 1, 1) := by decide +kernel
theorem dX12_coins_7 : decode cX12_coins 7 = .ok (.iload_n 2, 1) := by decide +kernel
theorem dX12_coins_8 : decode cX12_coins 8 = .ok (.iconst 0, 1) := by decide +kernel
theorem dX12_coins_9 : decode cX12_coins 9 = .ok (.iload_n 3, 1) := by decide +kernel
theorem dX12_coins_10 : decode cX12_coins 10 = .ok (.invokevirtual 405, 3) := by decide +kernel
theorem dX12_coins_13 : decode cX12_coins 13 = .ok (.ifCond .ne 5, 3) := by decide +kernel
theorem dX12_coins_16 : decode cX12_coins 16 = .ok (.iconst (-1), 1) := by decide +kernel
theorem dX12_coins_17 : decode cX12_coins 17 = .ok (.ireturn, 1) := by decide +kernel
theorem dX12_coins_18 : decode cX12_coins 18 = .ok (.aload_n 0, 1) := by decide +kernel
theorem dX12_coins_19 : decode cX12_coins 19 = .ok (.invokevirtual 409, 3) := by decide +kernel
theorem dX12_coins_22 : decode cX12_coins 22 = .ok (.iconst 0, 1) := by decide +kernel
theorem dX12_coins_23 : decode cX12_coins 23 = .ok (.istore 4, 2) := by decide +kernel
theorem dX12_coins_25 : decode cX12_coins 25 = .ok (.iload 4, 2) := by decide +kernel
theorem dX12_coins_27 : decode cX12_coins 27 = .ok (.bipush 9, 2) := by decide +kernel
theorem dX12_coins_29 : decode cX12_coins 29 = .ok (.if_icmp .gt 41, 3) := by decide +kernel
theorem dX12_coins_32 : decode cX12_coins 32 = .ok (.aload_n 0, 1) := by decide +kernel
theorem dX12_coins_33 : decode cX12_coins 33 = .ok (.iload_n 1, 1) := by decide +kernel
theorem dX12_coins_34 : decode cX12_coins 34 = .ok (.iload_n 2, 1) := by decide +kernel
theorem dX12_coins_35 : decode cX12_coins 35 = .ok (.iload 4, 2) := by decide +kernel
theorem dX12_coins_37 : decode cX12_coins 37 = .ok (.iconst 0, 1) := by decide +kernel
theorem dX12_coins_38 : decode cX12_coins 38 = .ok (.iload_n 3, 1) := by decide +kernel
theorem dX12_coins_39 : decode cX12_coins 39 = .ok (.invokevirtual 412, 3) := by decide +kernel
theorem dX12_coins_42 : decode cX12_coins 42 = .ok (.istore 5, 2) := by decide +kernel
theorem dX12_coins_44 : decode cX12_coins 44 = .ok (.iload 5, 2) := by decide +kernel
theorem dX12_coins_46 : decode cX12_coins 46 = .ok (.ifCond .lt 18, 3) := by decide +kernel
theorem dX12_coins_49 : decode cX12_coins 49 = .ok (.aload_n 0, 1) := by decide +kernel
theorem dX12_coins_50 : decode cX12_coins 50 = .ok (.iconst 0, 1) := by decide +kernel
theorem dX12_coins_51 : decode cX12_coins 51 = .ok (.putfield 119, 3) := by decide +kernel
theorem dX12_coins_54 : decode cX12_coins 54 = .ok (.aload_n 0, 1) := by decide +kernel
theorem dX12_coins_55 : decode cX12_coins 55 = .ok (.iload 5, 2) := by decide +kernel
theorem dX12_coins_57 : decode cX12_coins 57 = .ok (.i2l, 1) := by decide +kernel
theorem dX12_coins_58 : decode cX12_coins 58 = .ok (.invokevirtual 122, 3) := by decide +kernel
theorem dX12_coins_61 : decode cX12_coins 61 = .ok (.iload 4, 2) := by decide +kernel
theorem dX12_coins_63 : decode cX12_coins 63 = .ok (.ireturn, 1) := by decide +kernel
theorem dX12_coins_64 : decode cX12_coins 64 = .ok (.iinc 4 1, 3) := by decide +kernel
theorem dX12_coins_67 : decode cX12_coins 67 = .ok (.goto (-42), 3) := by decide +kernel
theorem dX12_coins_70 : decode cX12_coins 70 = .ok (.bipush (-2), 2) := by decide +kernel
theorem dX12_coins_72 : decode cX12_coins 72 = .ok (.ireturn, 1) := by decide +kernel
theorem dX12_comes_0 : decode cX12_comes 0 = .ok (.aload_n 0, 1) := by decide +kernel
theorem dX12_comes_1 : decode cX12_comes 1 = .ok (.iconst 0, 1) := by decide +kernel
theorem dX12_comes_2 : decode cX12_comes 2 = .ok (.putfield 111, 3) := by decide +kernel
theorem dX12_comes_5 : decode cX12_comes 5 = .ok (.aload_n 0, 1) := by decide +kernel
theorem dX12_comes_6 : decode cX12_comes 6 = .ok (.iload_n 1, 1) := by decide +kernel
theorem dX12_comes_7 : decode cX12_comes 7 = .ok (.invokevirtual 309, 3) := by decide +kernel
theorem dX12_comes_10 : decode cX12_comes 10 = .ok (.ifCond .ne 5, 3) := by decide +kernel
theorem dX12_comes_13 : decode cX12_comes 13 = .ok (.iconst (-1), 1) := by decide +kernel
theorem dX12_comes_14 : decode cX12_comes 14 = .ok (.ireturn, 1) := by decide +kernel
theorem dX12_comes_15 : decode cX12_comes 15 = .ok (.aload_n 0, 1) := by decide +kernel
theorem dX12_comes_16 : decode cX12_comes 16 = .ok (.getfield 29, 3) := by decide +kernel
theorem dX12_comes_19 : decode cX12_comes 19 = .ok (.aload_n 0, 1) := by decide +kernel
theorem dX12_comes_20 : decode cX12_comes 20 = .ok (.getfield 32, 3) := by decide +kernel
theorem dX12_comes_23 : decode cX12_comes 23 = .ok (.invokestatic 374, 3) := by decide +kernel
theorem dX12_comes_26 : decode cX12_comes 26 = .ok (.aload_n 0, 1) := by decide +kernel
theorem dX12_comes_27 : decode cX12_comes 27 = .ok (.aload_n 0, 1) := by decide +kernel
theorem dX12_comes_28 : decode cX12_comes 28 = .ok (.getfield 32, 3) := by decide +kernel
theorem dX12_comes_31 : decode cX12_comes 31 = .ok (.iload_n 1, 1) := by decide +kernel
theorem dX12_comes_32 : decode cX12_comes 32 = .ok (.iconst 0, 1) := by decide +kernel
theorem dX12_comes_33 : decode cX12_comes 33 = .ok (.invokevirtual 383, 3) := by decide +kernel
theorem dX12_comes_36 : decode cX12_comes 36 = .ok (.istore_n 2, 1) := by decide +kernel
theorem dX12_comes_37 : decode cX12_comes 37 = .ok (.bipush 7, 2) := by decide +kernel
theorem dX12_comes_39 : decode cX12_comes 39 = .ok (.iload_n 1, 1) := by decide +kernel
theorem dX12_comes_40 : decode cX12_comes 40 = .ok (.imul, 1) := by decide +kernel
theorem dX12_comes_41 : decode cX12_comes 41 = .ok (.istore_n 3, 1) := by decide +kernel
theorem dX12_comes_42 : decode cX12_comes 42 = .ok (.aload_n 0, 1) := by decide +kernel
theorem dX12_comes_43 : decode cX12_comes 43 = .ok (.iconst 0, 1) := by decide +kernel
theorem dX12_comes_44 : decode cX12_comes 44 = .ok (.putfield 119, 3) := by decide +kernel
theorem dX12_comes_47 : decode cX12_comes 47 = .ok (.aload_n 0, 1) := by decide +kernel
theorem dX12_comes_48 : decode cX12_comes 48 = .ok (.aload_n 0, 1) := by decide +kernel
theorem dX12_comes_49 : decode cX12_comes 49 = .ok (.getfield 32, 3) := by decide +kernel
theorem dX12_comes_52 : decode cX12_comes 52 = .ok (.iload_n 3, 1) := by decide +kernel
theorem dX12_comes_53 : decode cX12_comes 53 = .ok (.iconst 0, 1) := by decide +kernel
theorem dX12_comes_54 : decode cX12_comes 54 = .ok (.iadd, 1) := by decide +kernel
theorem dX12_comes_55 : decode cX12_comes 55 = .ok (.iaload, 1) := by decide +kernel
theorem dX12_comes_56 : decode cX12_comes 56 = .ok (.i2l, 1) := by decide +kernel
theorem dX12_comes_57 : decode cX12_comes 57 = .ok (.invokevirtual 122, 3) := by decide +kernel
theorem dX12_comes_60 : decode cX12_comes 60 = .ok (.iload_n 2, 1) := by decide +kernel
theorem dX12_comes_61 : decode cX12_comes 61 = .ok (.ifCond .lt 15, 3) := by decide +kernel
theorem dX12_comes_64 : decode cX12_comes 64 = .ok (.aload_n 0, 1) := by decide +kernel
theorem dX12_comes_65 : decode cX12_comes 65 = .ok (.getfield 32, 3) := by decide +kernel
theorem dX12_comes_68 : decode cX12_comes 68 = .ok (.iload_n 3, 1) := by decide +kernel
theorem dX12_comes_69 : decode cX12_comes 69 = .ok (.iconst 4, 1) := by decide +kernel
theorem dX12_comes_70 : decode cX12_comes 70 = .ok (.iadd, 1) := by decide +kernel
theorem dX12_comes_71 : decode cX12_comes 71 = .ok (.iaload, 1) := by decide +kernel
theorem dX12_comes_72 : decode cX12_comes 72 = .ok (.iconst 2, 1) := by decide +kernel
theorem dX12_comes_73 : decode cX12_comes 73 = .ok (.if_icmp .ne 15, 3) := by decide +kernel
theorem dX12_comes_76 : decode cX12_comes 76 = .ok (.iload_n 2, 1) := by decide +kernel
theorem dX12_comes_77 : decode cX12_comes 77 = .ok (.ifCond .ge 8, 3) := by decide +kernel
theorem dX12_comes_80 : decode cX12_comes 80 = .ok (.bipush (-3), 2) := by decide +kernel
theorem dX12_comes_82 : decode cX12_comes 82 = .ok (.goto 5, 3) := by decide +kernel
theorem dX12_comes_85 : decode cX12_comes 85 = .ok (.bipush (-2), 2) := by decide +kernel
theorem dX12_comes_87 : decode cX12_comes 87 = .ok (.ireturn, 1) := by decide +kernel
theorem dX12_comes_88 : decode cX12_comes 88 = .ok (.aload_n 0, 1) := by decide +kernel
theorem dX12_comes_89 : decode cX12_comes 89 = .ok (.aload_n 0, 1) := by decide +kernel
theorem dX12_comes_90 : decode cX12_comes 90 = .ok (.getfield 32, 3) := by decide +kernel
theorem dX12_comes_93 : decode cX12_comes 93 = .ok (.iload_n 3, 1) := by decide +kernel
theorem dX12_comes_94 : decode cX12_comes 94 = .ok (.iconst 3, 1) := by decide +kernel
theorem dX12_comes_95 : decode cX12_comes 95 = .ok (.iadd, 1) := by decide +kernel
theorem dX12_comes_96 : decode cX12_comes 96 = .ok (.iaload, 1) := by decide +kernel
theorem dX12_comes_97 : decode cX12_comes 97 = .ok (.i2l, 1) := by decide +kernel
theorem dX12_comes_98 : decode cX12_comes 98 = .ok (.invokevirtual 122, 3) := by decide +kernel
theorem dX12_comes_101 : decode cX12_comes 101 = .ok (.iload_n 2, 1) := by decide +kernel
theorem dX12_comes_102 : decode cX12_comes 102 = .ok (.ireturn, 1) := by decide +kernel
theorem dX12_comesNow_0 : decode cX12_comesNow 0 = .ok (.aload_n 0, 1) := by decide +kernel
theorem dX12_comesNow_1 : decode cX12_comesNow 1 = .ok (.iload_n 1, 1) := by decide +kernel
theorem dX12_comesNow_2 : decode cX12_comesNow 2 = .ok (.iload_n 2, 1) := by decide +kernel
theorem dX12_comesNow_3 : decode cX12_comesNow 3 = .ok (.iload_n 3, 1) := by decide +kernel
theorem dX12_comesNow_4 : decode cX12_comesNow 4 = .ok (.invokevirtual 331, 3) := by decide +kernel
theorem dX12_comesNow_7 : decode cX12_comesNow 7 = .ok (.ifCond .eq 16, 3) := by decide +kernel
theorem dX12_comesNow_10 : decode cX12_comesNow 10 = .ok (.iload 4, 2) := by decide +kernel
theorem dX12_comesNow_12 : decode cX12_comesNow 12 = .ok (.i2l, 1) := by decide +kernel
theorem dX12_comesNow_13 : decode cX12_comesNow 13 = .ok (.lconst 0, 1) := by decide +kernel
theorem dX12_comesNow_14 : decode cX12_comesNow 14 = .ok (.ldc2_w 327, 3) := by decide +kernel
theorem dX12_comesNow_17 : decode cX12_comesNow 17 = .ok (.invokestatic 129, 3) := by decide +kernel
theorem dX12_comesNow_20 : decode cX12_comesNow 20 = .ok (.ifCond .ne 5, 3) := by decide +kernel
theorem dX12_comesNow_23 : decode cX12_comesNow 23 = .ok (.iconst (-1), 1) := by decide +kernel
theorem dX12_comesNow_24 : decode cX12_comesNow 24 = .ok (.ireturn, 1) := by decide +kernel
theorem dX12_comesNow_25 : decode cX12_comesNow 25 = .ok (.aload_n 0, 1) := by decide +kernel
theorem dX12_comesNow_26 : decode cX12_comesNow 26 = .ok (.getfield 29, 3) := by decide +kernel
theorem dX12_comesNow_29 : decode cX12_comesNow 29 = .ok (.bipush 44, 2) := by decide +kernel
theorem dX12_comesNow_31 : decode cX12_comesNow 31 = .ok (.iaload, 1) := by decide +kernel
theorem dX12_comesNow_32 : decode cX12_comesNow 32 = .ok (.bipush 6, 2) := by decide +kernel
theorem dX12_comesNow_34 : decode cX12_comesNow 34 = .ok (.if_icmp .ne 6, 3) := by decide +kernel
theorem dX12_comesNow_37 : decode cX12_comesNow 37 = .ok (.bipush (-2), 2) := by decide +kernel
theorem dX12_comesNow_39 : decode cX12_comesNow 39 = .ok (.ireturn, 1) := by decide +kernel
theorem dX12_comesNow_40 : decode cX12_comesNow 40 = .ok (.aload_n 0, 1) := by decide +kernel
theorem dX12_comesNow_41 : decode cX12_comesNow 41 = .ok (.aload_n 0, 1) := by decide +kernel
theorem dX12_comesNow_42 : decode cX12_comesNow 42 = .ok (.getfield 29, 3) := by decide +kernel
theorem dX12_comesNow_45 : decode cX12_comesNow 45 = .ok (.aload_n 0, 1) := by decide +kernel
theorem dX12_comesNow_46 : decode cX12_comesNow 46 = .ok (.getfield 29, 3) := by decide +kernel
theorem dX12_comesNow_49 : decode cX12_comesNow 49 = .ok (.bipush 44, 2) := by decide +kernel
theorem dX12_comesNow_51 : decode cX12_comesNow 51 = .ok (.iaload, 1) := by decide +kernel
theorem dX12_comesNow_52 : decode cX12_comesNow 52 = .ok (.iload_n 1, 1) := by decide +kernel
theorem dX12_comesNow_53 : decode cX12_comesNow 53 = .ok (.iload_n 2, 1) := by decide +kernel
theorem dX12_comesNow_54 : decode cX12_comesNow 54 = .ok (.iload_n 3, 1) := by decide +kernel
theorem dX12_comesNow_55 : decode cX12_comesNow 55 = .ok (.iload 4, 2) := by decide +kernel
theorem dX12_comesNow_57 : decode cX12_comesNow 57 = .ok (.invokevirtual 335, 3) := by decide +kernel
theorem dX12_comesNow_60 : decode cX12_comesNow 60 = .ok (.aload_n 0, 1) := by decide +kernel
theorem dX12_comesNow_61 : decode cX12_comesNow 61 = .ok (.getfield 29, 3) := by decide +kernel
theorem dX12_comesNow_64 : decode cX12_comesNow 64 = .ok (.bipush 44, 2) := by decide +kernel
theorem dX12_comesNow_66 : decode cX12_comesNow 66 = .ok (.dup2, 1) := by decide +kernel
theorem dX12_comesNow_67 : decode cX12_comesNow 67 = .ok (.iaload, 1) := by decide +kernel
theorem dX12_comesNow_68 : decode cX12_comesNow 68 = .ok (.iconst 1, 1) := by decide +kernel
theorem dX12_comesNow_69 : decode cX12_comesNow 69 = .ok (.iadd, 1) := by decide +kernel
theorem dX12_comesNow_70 : decode cX12_comesNow 70 = .ok (.iastore, 1) := by decide +kernel
theorem dX12_comesNow_71 : decode cX12_comesNow 71 = .ok (.aload_n 0, 1) := by decide +kernel
theorem dX12_comesNow_72 : decode cX12_comesNow 72 = .ok (.getfield 29, 3) := by decide +kernel
theorem dX12_comesNow_75 : decode cX12_comesNow 75 = .ok (.bipush 44, 2) := by decide +kernel
theorem dX12_comesNow_77 : decode cX12_comesNow 77 = .ok (.iaload, 1) := by decide +kernel
theorem dX12_comesNow_78 : decode cX12_comesNow 78 = .ok (.iconst 1, 1) := by decide +kernel
theorem dX12_comesNow_79 : decode cX12_comesNow 79 = .ok (.isub, 1) := by decide +kernel
theorem dX12_comesNow_80 : decode cX12_comesNow 80 = .ok (.ireturn, 1) := by decide +kernel
theorem dX12_common_0 : decode cX12_common 0 = .ok (.lload_n 2, 1) := by decide +kernel
theorem dX12_common_1 : decode cX12_common 1 = .ok (.lconst 0, 1) := by decide +kernel
theorem dX12_common_2 : decode cX12_common 2 = .ok (.lcmp, 1) := by decide +kernel
theorem dX12_common_3 : decode cX12_common 3 = .ok (.ifCond .ne 7, 3) := by decide +kernel
theorem dX12_common_6 : decode cX12_common 6 = .ok (.lload_n 0, 1) := by decide +kernel
theorem dX12_common_7 : decode cX12_common 7 = .ok (.goto 10, 3) := by decide +kernel
theorem dX12_common_10 : decode cX12_common 10 = .ok (.lload_n 2, 1) := by decide +kernel
theorem dX12_common_11 : decode cX12_common 11 = .ok (.lload_n 0, 1) := by decide +kernel
theorem dX12_common_12 : decode cX12_common 12 = .ok (.lload_n 2, 1) := by decide +kernel
theorem dX12_common_13 : decode cX12_common 13 = .ok (.lrem, 1) := by decide +kernel
theorem dX12_common_14 : decode cX12_common 14 = .ok (.invokestatic 115, 3) := by decide +kernel
theorem dX12_common_17 : decode cX12_common 17 = .ok (.lreturn, 1) := by decide +kernel
theorem dX12_cork_0 : decode cX12_cork 0 = .ok (.aload_n 0, 1) := by decide +kernel
theorem dX12_cork_1 : decode cX12_cork 1 = .ok (.iconst 0, 1) := by decide +kernel
theorem dX12_cork_2 : decode cX12_cork 2 = .ok (.putfield 111, 3) := by decide +kernel
theorem dX12_cork_5 : decode cX12_cork 5 = .ok (.aload_n 0, 1) := by decide +kernel
theorem dX12_cork_6 : decode cX12_cork 6 = .ok (.iload_n 1, 1) := by decide +kernel
theorem dX12_cork_7 : decode cX12_cork 7 = .ok (.invokevirtual 133, 3) := by decide +kernel
theorem dX12_cork_10 : decode cX12_cork 10 = .ok (.ifCond .eq 37, 3) := by decide +kernel
theorem dX12_cork_13 : decode cX12_cork 13 = .ok (.iload_n 2, 1) := by decide +kernel
theorem dX12_cork_14 : decode cX12_cork 14 = .ok (.i2l, 1) := by decide +kernel
theorem dX12_cork_15 : decode cX12_cork 15 = .ok (.lconst 0, 1) := by decide +kernel
theorem dX12_cork_16 : decode cX12_cork 16 = .ok (.ldc2_w 443, 3) := by decide +kernel
theorem dX12_cork_19 : decode cX12_cork 19 = .ok (.invokestatic 129, 3) := by decide +kernel
theorem dX12_cork_22 : decode cX12_cork 22 = .ok (.ifCond .eq 25, 3) := by decide +kernel
theorem dX12_cork_25 : decode cX12_cork 25 = .ok (.iload_n 3, 1) := by decide +kernel
theorem dX12_cork_26 : decode cX12_cork 26 = .ok (.iconst (-1), 1) := by decide +kernel
theorem dX12_cork_27 : decode cX12_cork 27 = .ok (.if_icmp .eq 11, 3) := by decide +kernel
theorem dX12_cork_30 : decode cX12_cork 30 = .ok (.aload_n 0, 1) := by decide +kernel
theorem dX12_cork_31 : decode cX12_cork 31 = .ok (.iload_n 3, 1) := by decide +kernel
theorem dX12_cork_32 : decode cX12_cork 32 = .ok (.invokevirtual 402, 3) := by decide +kernel
theorem dX12_cork_35 : decode cX12_cork 35 = .ok (.ifCond .eq 12, 3) := by decide +kernel
theorem dX12_cork_38 : decode cX12_cork 38 = .ok (.aload_n 0, 1) := by decide +kernel
theorem dX12_cork_39 : decode cX12_cork 39 = .ok (.getfield 217, 3) := by decide +kernel
theorem dX12_cork_42 : decode cX12_cork 42 = .ok (.bipush 10, 2) := by decide +kernel
theorem dX12_cork_44 : decode cX12_cork 44 = .ok (.if_icmp .ne 5, 3) := by decide +kernel
theorem dX12_cork_47 : decode cX12_cork 47 = .ok (.iconst (-1), 1) := by decide +kernel
theorem dX12_cork_48 : decode cX12_cork 48 = .ok (.ireturn, 1) := by decide +kernel
theorem dX12_cork_49 : decode cX12_cork 49 = .ok (.aload_n 0, 1) := by decide +kernel
theorem dX12_cork_50 : decode cX12_cork 50 = .ok (.getfield 89, 3) := by decide +kernel
theorem dX12_cork_53 : decode cX12_cork 53 = .ok (.aload_n 0, 1) := by decide +kernel
theorem dX12_cork_54 : decode cX12_cork 54 = .ok (.getfield 217, 3) := by decide +kernel
theorem dX12_cork_57 : decode cX12_cork 57 = .ok (.iload_n 1, 1) := by decide +kernel
theorem dX12_cork_58 : decode cX12_cork 58 = .ok (.iastore, 1) := by decide +kernel
theorem dX12_cork_59 : decode cX12_cork 59 = .ok (.aload_n 0, 1) := by decide +kernel
theorem dX12_cork_60 : decode cX12_cork 60 = .ok (.getfield 92, 3) := by decide +kernel
theorem dX12_cork_63 : decode cX12_cork 63 = .ok (.aload_n 0, 1) := by decide +kernel
theorem dX12_cork_64 : decode cX12_cork 64 = .ok (.getfield 217, 3) := by decide +kernel
theorem dX12_cork_67 : decode cX12_cork 67 = .ok (.iload_n 2, 1) := by decide +kernel
theorem dX12_cork_68 : decode cX12_cork 68 = .ok (.iastore, 1) := by decide +kernel
theorem dX12_cork_69 : decode cX12_cork 69 = .ok (.aload_n 0, 1) := by decide +kernel
theorem dX12_cork_70 : decode cX12_cork 70 = .ok (.getfield 95, 3) := by decide +kernel
theorem dX12_cork_73 : decode cX12_cork 73 = .ok (.aload_n 0, 1) := by decide +kernel
theorem dX12_cork_74 : decode cX12_cork 74 = .ok (.getfield 217, 3) := by decide +kernel
theorem dX12_cork_77 : decode cX12_cork 77 = .ok (.iload_n 3, 1) := by decide +kernel
theorem dX12_cork_78 : decode cX12_cork 78 = .ok (.iastore, 1) := by decide +kernel
theorem dX12_cork_79 : decode cX12_cork 79 = .ok (.aload_n 0, 1) := by decide +kernel
theorem dX12_cork_80 : decode cX12_cork 80 = .ok (.dup, 1) := by decide +kernel
theorem dX12_cork_81 : decode cX12_cork 81 = .ok (.getfield 217, 3) := by decide +kernel
theorem dX12_cork_84 : decode cX12_cork 84 = .ok (.iconst 1, 1) := by decide +kernel
theorem dX12_cork_85 : decode cX12_cork 85 = .ok (.iadd, 1) := by decide +kernel
theorem dX12_cork_86 : decode cX12_cork 86 = .ok (.putfield 217, 3) := by decide +kernel
theorem dX12_cork_89 : decode cX12_cork 89 = .ok (.aload_n 0, 1) := by decide +kernel
theorem dX12_cork_90 : decode cX12_cork 90 = .ok (.getfield 217, 3) := by decide +kernel
theorem dX12_cork_93 : decode cX12_cork 93 = .ok (.ireturn, 1) := by decide +kernel
theorem dX12_count_0 : decode cX12_count 0 = .ok (.aload_n 0, 1) := by decide +kernel
theorem dX12_count_1 : decode cX12_count 1 = .ok (.iconst 0, 1) := by decide +kernel
theorem dX12_count_2 : decode cX12_count 2 = .ok (.putfield 111, 3) := by decide +kernel
theorem dX12_count_5 : decode cX12_count 5 = .ok (.iload_n 1, 1) := by decide +kernel
theorem dX12_count_6 : decode cX12_count 6 = .ok (.tableswitch 143 0 11 #[62, 67, 75, 83, 88, 96, 105, 114, 123, 128, 133, 138], 62) := by decide +kernel
theorem dX12_count_68 : decode cX12_count 68 = .ok (.aload_n 0, 1) := by decide +kernel
theorem dX12_count_69 : decode cX12_count 69 = .ok (.getfield 126, 3) := by decide +kernel
theorem dX12_count_72 : decode cX12_count 72 = .ok (.ireturn, 1) := by decide +kernel
theorem dX12_count_73 : decode cX12_count 73 = .ok (.aload_n 0, 1) := by decide +kernel
theorem dX12_count_74 : decode cX12_count 74 = .ok (.getfield 29, 3) := by decide +kernel
theorem dX12_count_77 : decode cX12_count 77 = .ok (.bipush 44, 2) := by decide +kernel
theorem dX12_count_79 : decode cX12_count 79 = .ok (.iaload, 1) := by decide +kernel
theorem dX12_count_80 : decode cX12_count 80 = .ok (.ireturn, 1) := by decide +kernel
theorem dX12_count_81 : decode cX12_count 81 = .ok (.aload_n 0, 1) := by decide +kernel
theorem dX12_count_82 : decode cX12_count 82 = .ok (.getfield 29, 3) := by decide +kernel
theorem dX12_count_85 : decode cX12_count 85 = .ok (.bipush 43, 2) := by decide +kernel
theorem dX12_count_87 : decode cX12_count 87 = .ok (.iaload, 1) := by decide +kernel
theorem dX12_count_88 : decode cX12_count 88 = .ok (.ireturn, 1) := by decide +kernel
theorem dX12_count_89 : decode cX12_count 89 = .ok (.aload_n 0, 1) := by decide +kernel
theorem dX12_count_90 : decode cX12_count 90 = .ok (.invokevirtual 416, 3) := by decide +kernel
theorem dX12_count_93 : decode cX12_count 93 = .ok (.ireturn, 1) := by decide +kernel
theorem dX12_count_94 : decode cX12_count 94 = .ok (.aload_n 0, 1) := by decide +kernel
theorem dX12_count_95 : decode cX12_count 95 = .ok (.getfield 29, 3) := by decide +kernel
theorem dX12_count_98 : decode cX12_count 98 = .ok (.bipush 42, 2) := by decide +kernel
theorem dX12_count_100 : decode cX12_count 100 = .ok (.iaload, 1) := by decide +kernel
theorem dX12_count_101 : decode cX12_count 101 = .ok (.ireturn, 1) := by decide +kernel
theorem dX12_count_102 : decode cX12_count 102 = .ok (.aload_n 0, 1) := by decide +kernel
theorem dX12_count_103 : decode cX12_count 103 = .ok (.getfield 29, 3) := by decide +kernel
theorem dX12_count_106 : decode cX12_count 106 = .ok (.iconst 0, 1) := by decide +kernel
theorem dX12_count_107 : decode cX12_count 107 = .ok (.invokestatic 346, 3) := by decide +kernel
theorem dX12_count_110 : decode cX12_count 110 = .ok (.ireturn, 1) := by decide +kernel
theorem dX12_count_111 : decode cX12_count 111 = .ok (.aload_n 0, 1) := by decide +kernel
theorem dX12_count_112 : decode cX12_count 112 = .ok (.getfield 29, 3) := by decide +kernel
theorem dX12_count_115 : decode cX12_count 115 = .ok (.iconst 1, 1) := by decide +kernel
theorem dX12_count_116 : decode cX12_count 116 = .ok (.invokestatic 346, 3) := by decide +kernel
theorem dX12_count_119 : decode cX12_count 119 = .ok (.ireturn, 1) := by decide +kernel
theorem dX12_count_120 : decode cX12_count 120 = .ok (.aload_n 0, 1) := by decide +kernel
theorem dX12_count_121 : decode cX12_count 121 = .ok (.getfield 29, 3) := by decide +kernel
theorem dX12_count_124 : decode cX12_count 124 = .ok (.iconst 2, 1) := by decide +kernel
theorem dX12_count_125 : decode cX12_count 125 = .ok (.invokestatic 346, 3) := by decide +kernel
theorem dX12_count_128 : decode cX12_count 128 = .ok (.ireturn, 1) := by decide +kernel
theorem dX12_count_129 : decode cX12_count 129 = .ok (.aload_n 0, 1) := by decide +kernel
theorem dX12_count_130 : decode cX12_count 130 = .ok (.getfield 220, 3) := by decide +kernel
theorem dX12_count_133 : decode cX12_count 133 = .ok (.ireturn, 1) := by decide +kernel
theorem dX12_count_134 : decode cX12_count 134 = .ok (.aload_n 0, 1) := by decide +kernel
theorem dX12_count_135 : decode cX12_count 135 = .ok (.getfield 217, 3) := by decide +kernel
theorem dX12_count_138 : decode cX12_count 138 = .ok (.ireturn, 1) := by decide +kernel
theorem dX12_count_139 : decode cX12_count 139 = .ok (.aload_n 0, 1) := by decide +kernel
theorem dX12_count_140 : decode cX12_count 140 = .ok (.getfield 119, 3) := by decide +kernel
theorem dX12_count_143 : decode cX12_count 143 = .ok (.ireturn, 1) := by decide +kernel
theorem dX12_count_144 : decode cX12_count 144 = .ok (.aload_n 0, 1) := by decide +kernel
theorem dX12_count_145 : decode cX12_count 145 = .ok (.getfield 137, 3) := by decide +kernel
theorem dX12_count_148 : decode cX12_count 148 = .ok (.ireturn, 1) := by decide +kernel
theorem dX12_count_149 : decode cX12_count 149 = .ok (.bipush (-100), 2) := by decide +kernel
theorem dX12_count_151 : decode cX12_count 151 = .ok (.ireturn, 1) := by decide +kernel
theorem dX12_day_0 : decode cX12_day 0 = .ok (.aload_n 0, 1) := by decide +kernel
theorem dX12_day_1 : decode cX12_day 1 = .ok (.iconst 0, 1) := by decide +kernel
theorem dX12_day_2 : decode cX12_day 2 = .ok (.putfield 111, 3) := by decide +kernel
theorem dX12_day_5 : decode cX12_day 5 = .ok (.aload_n 0, 1) := by decide +kernel
theorem dX12_day_6 : decode cX12_day 6 = .ok (.bipush 60, 2) := by decide +kernel
theorem dX12_day_8 : decode cX12_day 8 = .ok (.invokevirtual 203, 3) := by decide +kernel
theorem dX12_day_11 : decode cX12_day 11 = .ok (.istore_n 1, 1) := by decide +kernel
theorem dX12_day_12 : decode cX12_day 12 = .ok (.aload_n 0, 1) := by decide +kernel
theorem dX12_day_13 : decode cX12_day 13 = .ok (.iconst 0, 1) := by decide +kernel
theorem dX12_day_14 : decode cX12_day 14 = .ok (.putfield 358, 3) := by decide +kernel
theorem dX12_day_17 : decode cX12_day 17 = .ok (.iconst 1, 1) := by decide +kernel
theorem dX12_day_18 : decode cX12_day 18 = .ok (.istore_n 2, 1) := by decide +kernel
theorem dX12_day_19 : decode cX12_day 19 = .ok (.iload_n 1, 1) := by decide +kernel
theorem dX12_day_20 : decode cX12_day 20 = .ok (.ifCond .le 7, 3) := by decide +kernel
theorem dX12_day_23 : decode cX12_day 23 = .ok (.iconst 1, 1) := by decide +kernel
theorem dX12_day_24 : decode cX12_day 24 = .ok (.goto 4, 3) := by decide +kernel
theorem dX12_day_27 : decode cX12_day 27 = .ok (.iconst 0, 1) := by decide +kernel
theorem dX12_day_28 : decode cX12_day 28 = .ok (.istore_n 3, 1) := by decide +kernel
theorem dX12_day_29 : decode cX12_day 29 = .ok (.iload_n 3, 1) := by decide +kernel
theorem dX12_day_30 : decode cX12_day 30 = .ok (.ifCond .eq 30, 3) := by decide +kernel
theorem dX12_day_33 : decode cX12_day 33 = .ok (.aload_n 0, 1) := by decide +kernel
theorem dX12_day_34 : decode cX12_day 34 = .ok (.invokevirtual 368, 3) := by decide +kernel
theorem dX12_day_37 : decode cX12_day 37 = .ok (.istore_n 2, 1) := by decide +kernel
theorem dX12_day_38 : decode cX12_day 38 = .ok (.iload_n 2, 1) := by decide +kernel
theorem dX12_day_39 : decode cX12_day 39 = .ok (.ifCond .eq 16, 3) := by decide +kernel
theorem dX12_day_42 : decode cX12_day 42 = .ok (.aload_n 0, 1) := by decide +kernel
theorem dX12_day_43 : decode cX12_day 43 = .ok (.bipush 59, 2) := by decide +kernel
theorem dX12_day_45 : decode cX12_day 45 = .ok (.invokevirtual 210, 3) := by decide +kernel
theorem dX12_day_48 : decode cX12_day 48 = .ok (.ifCond .eq 7, 3) := by decide +kernel
theorem dX12_day_51 : decode cX12_day 51 = .ok (.iconst 1, 1) := by decide +kernel
theorem dX12_day_52 : decode cX12_day 52 = .ok (.goto 4, 3) := by decide +kernel
theorem dX12_day_55 : decode cX12_day 55 = .ok (.iconst 0, 1) := by decide +kernel
theorem dX12_day_56 : decode cX12_day 56 = .ok (.istore_n 3, 1) := by decide +kernel
theorem dX12_day_57 : decode cX12_day 57 = .ok (.goto (-28), 3) := by decide +kernel
theorem dX12_day_60 : decode cX12_day 60 = .ok (.aload_n 0, 1) := by decide +kernel
theorem dX12_day_61 : decode cX12_day 61 = .ok (.iload_n 1, 1) := by decide +kernel
theorem dX12_day_62 : decode cX12_day 62 = .ok (.bipush 60, 2) := by decide +kernel
theorem dX12_day_64 : decode cX12_day 64 = .ok (.iload_n 2, 1) := by decide +kernel
theorem dX12_day_65 : decode cX12_day 65 = .ok (.invokevirtual 213, 3) := by decide +kernel
theorem dX12_day_68 : decode cX12_day 68 = .ok (.istore 4, 2) := by decide +kernel
theorem dX12_day_70 : decode cX12_day 70 = .ok (.iload 4, 2) := by decide +kernel
theorem dX12_day_72 : decode cX12_day 72 = .ok (.ifCond .ge 6, 3) := by decide +kernel
theorem dX12_day_75 : decode cX12_day 75 = .ok (.iload 4, 2) := by decide +kernel
theorem dX12_day_77 : decode cX12_day 77 = .ok (.ireturn, 1) := by decide +kernel
theorem dX12_day_78 : decode cX12_day 78 = .ok (.aload_n 0, 1) := by decide +kernel
theorem dX12_day_79 : decode cX12_day 79 = .ok (.invokevirtual 319, 3) := by decide +kernel
theorem dX12_day_82 : decode cX12_day 82 = .ok (.aload_n 0, 1) := by decide +kernel
theorem dX12_day_83 : decode cX12_day 83 = .ok (.iconst 0, 1) := by decide +kernel
theorem dX12_day_84 : decode cX12_day 84 = .ok (.putfield 365, 3) := by decide +kernel
theorem dX12_day_87 : decode cX12_day 87 = .ok (.iconst 0, 1) := by decide +kernel
theorem dX12_day_88 : decode cX12_day 88 = .ok (.istore 5, 2) := by decide +kernel
theorem dX12_day_90 : decode cX12_day 90 = .ok (.iload 5, 2) := by decide +kernel
theorem dX12_day_92 : decode cX12_day 92 = .ok (.aload_n 0, 1) := by decide +kernel
theorem dX12_day_93 : decode cX12_day 93 = .ok (.getfield 358, 3) := by decide +kernel
theorem dX12_day_96 : decode cX12_day 96 = .ok (.if_icmp .ge 18, 3) := by decide +kernel
theorem dX12_day_99 : decode cX12_day 99 = .ok (.aload_n 0, 1) := by decide +kernel
theorem dX12_day_100 : decode cX12_day 100 = .ok (.iload 5, 2) := by decide +kernel
theorem dX12_day_102 : decode cX12_day 102 = .ok (.invokevirtual 371, 3) := by decide +kernel
theorem dX12_day_105 : decode cX12_day 105 = .ok (.ifCond .eq 9, 3) := by decide +kernel
theorem dX12_day_108 : decode cX12_day 108 = .ok (.iinc 5 1, 3) := by decide +kernel
theorem dX12_day_111 : decode cX12_day 111 = .ok (.goto (-21), 3) := by decide +kernel
theorem dX12_day_114 : decode cX12_day 114 = .ok (.aload_n 0, 1) := by decide +kernel
theorem dX12_day_115 : decode cX12_day 115 = .ok (.iconst 0, 1) := by decide +kernel
theorem dX12_day_116 : decode cX12_day 116 = .ok (.putfield 119, 3) := by decide +kernel
theorem dX12_day_119 : decode cX12_day 119 = .ok (.aload_n 0, 1) := by decide +kernel
theorem dX12_day_120 : decode cX12_day 120 = .ok (.iload 5, 2) := by decide +kernel
theorem dX12_day_122 : decode cX12_day 122 = .ok (.aload_n 0, 1) := by decide +kernel
theorem dX12_day_123 : decode cX12_day 123 = .ok (.getfield 358, 3) := by decide +kernel
theorem dX12_day_126 : decode cX12_day 126 = .ok (.if_icmp .ge 7, 3) := by decide +kernel
theorem dX12_day_129 : decode cX12_day 129 = .ok (.iconst 1, 1) := by decide +kernel
theorem dX12_day_130 : decode cX12_day 130 = .ok (.goto 4, 3) := by decide +kernel
theorem dX12_day_133 : decode cX12_day 133 = .ok (.iconst 0, 1) := by decide +kernel
theorem dX12_day_134 : decode cX12_day 134 = .ok (.invokestatic 155, 3) := by decide +kernel
theorem dX12_day_137 : decode cX12_day 137 = .ok (.i2l, 1) := by decide +kernel
theorem dX12_day_138 : decode cX12_day 138 = .ok (.invokevirtual 122, 3) := by decide +kernel
theorem dX12_day_141 : decode cX12_day 141 = .ok (.aload_n 0, 1) := by decide +kernel
theorem dX12_day_142 : decode cX12_day 142 = .ok (.aload_n 0, 1) := by decide +kernel
theorem dX12_day_143 : decode cX12_day 143 = .ok (.getfield 365, 3) := by decide +kernel
theorem dX12_day_146 : decode cX12_day 146 = .ok (.i2l, 1) := by decide +kernel
theorem dX12_day_147 : decode cX12_day 147 = .ok (.invokevirtual 122, 3) := by decide +kernel
theorem dX12_day_150 : decode cX12_day 150 = .ok (.iload 5, 2) := by decide +kernel
theorem dX12_day_152 : decode cX12_day 152 = .ok (.ifCond .le 12, 3) := by decide +kernel
theorem dX12_day_155 : decode cX12_day 155 = .ok (.aload_n 0, 1) := by decide +kernel
theorem dX12_day_156 : decode cX12_day 156 = .ok (.iload 5, 2) := by decide +kernel
theorem dX12_day_158 : decode cX12_day 158 = .ok (.invokevirtual 322, 3) := by decide +kernel
theorem dX12_day_161 : decode cX12_day 161 = .ok (.goto 4, 3) := by decide +kernel
theorem dX12_day_164 : decode cX12_day 164 = .ok (.iconst 0, 1) := by decide +kernel
theorem dX12_day_165 : decode cX12_day 165 = .ok (.ireturn, 1) := by decide +kernel
theorem dX12_does_0 : decode cX12_does 0 = .ok (.aload_n 0, 1) := by decide +kernel
theorem dX12_does_1 : decode cX12_does 1 = .ok (.getfield 74, 3) := by decide +kernel
theorem dX12_does_4 : decode cX12_does 4 = .ok (.iload_n 1, 1) := by decide +kernel
theorem dX12_does_5 : decode cX12_does 5 = .ok (.iaload, 1) := by decide +kernel
theorem dX12_does_6 : decode cX12_does 6 = .ok (.istore_n 2, 1) := by decide +kernel
theorem dX12_does_7 : decode cX12_does 7 = .ok (.aload_n 0, 1) := by decide +kernel
theorem dX12_does_8 : decode cX12_does 8 = .ok (.getfield 71, 3) := by decide +kernel
theorem dX12_does_11 : decode cX12_does 11 = .ok (.iload_n 1, 1) := by decide +kernel
theorem dX12_does_12 : decode cX12_does 12 = .ok (.iaload, 1) := by decide +kernel
theorem dX12_does_13 : decode cX12_does 13 = .ok (.tableswitch 137 0 2 #[27, 54, 79], 27) := by decide +kernel
theorem dX12_does_40 : decode cX12_does 40 = .ok (.aload_n 0, 1) := by decide +kernel
theorem dX12_does_41 : decode cX12_does 41 = .ok (.iload_n 2, 1) := by decide +kernel
theorem dX12_does_42 : decode cX12_does 42 = .ok (.aload_n 0, 1) := by decide +kernel
theorem dX12_does_43 : decode cX12_does 43 = .ok (.getfield 77, 3) := by decide +kernel
theorem dX12_does_46 : decode cX12_does 46 = .ok (.iload_n 1, 1) := by decide +kernel
theorem dX12_does_47 : decode cX12_does 47 = .ok (.iaload, 1) := by decide +kernel
theorem dX12_does_48 : decode cX12_does 48 = .ok (.aload_n 0, 1) := by decide +kernel
theorem dX12_does_49 : decode cX12_does 49 = .ok (.getfield 80, 3) := by decide +kernel
theorem dX12_does_52 : decode cX12_does 52 = .ok (.iload_n 1, 1) := by decide +kernel
theorem dX12_does_53 : decode cX12_does 53 = .ok (.iaload, 1) := by decide +kernel
theorem dX12_does_54 : decode cX12_does 54 = .ok (.iconst 0, 1) := by decide +kernel
theorem dX12_does_55 : decode cX12_does 55 = .ok (.invokevirtual 339, 3) := by decide +kernel
theorem dX12_does_58 : decode cX12_does 58 = .ok (.ifCond .lt 7, 3) := by decide +kernel
theorem dX12_does_61 : decode cX12_does 61 = .ok (.iconst 1, 1) := by decide +kernel
theorem dX12_does_62 : decode cX12_does 62 = .ok (.goto 4, 3) := by decide +kernel
theorem dX12_does_65 : decode cX12_does 65 = .ok (.iconst 0, 1) := by decide +kernel
theorem dX12_does_66 : decode cX12_does 66 = .ok (.ireturn, 1) := by decide +kernel
theorem dX12_does_67 : decode cX12_does 67 = .ok (.aload_n 0, 1) := by decide +kernel
theorem dX12_does_68 : decode cX12_does 68 = .ok (.iload_n 2, 1) := by decide +kernel
theorem dX12_does_69 : decode cX12_does 69 = .ok (.invokevirtual 316, 3) := by decide +kernel
theorem dX12_does_72 : decode cX12_does 72 = .ok (.ifCond .ne 5, 3) := by decide +kernel
theorem dX12_does_75 : decode cX12_does 75 = .ok (.iconst 0, 1) := by decide +kernel
theorem dX12_does_76 : decode cX12_does 76 = .ok (.ireturn, 1) := by decide +kernel
theorem dX12_does_77 : decode cX12_does 77 = .ok (.aload_n 0, 1) := by decide +kernel
theorem dX12_does_78 : decode cX12_does 78 = .ok (.getfield 29, 3) := by decide +kernel
theorem dX12_does_81 : decode cX12_does 81 = .ok (.bipush 42, 2) := by decide +kernel
theorem dX12_does_83 : decode cX12_does 83 = .ok (.dup2, 1) := by decide +kernel
theorem dX12_does_84 : decode cX12_does 84 = .ok (.iaload, 1) := by decide +kernel
theorem dX12_does_85 : decode cX12_does 85 = .ok (.iconst 1, 1) := by decide +kernel
theorem dX12_does_86 : decode cX12_does 86 = .ok (.iload_n 2, 1) := by decide +kernel
theorem dX12_does_87 : decode cX12_does 87 = .ok (.ishl, 1) := by decide +kernel
theorem dX12_does_88 : decode cX12_does 88 = .ok (.ixor, 1) := by decide +kernel
theorem dX12_does_89 : decode cX12_does 89 = .ok (.iastore, 1) := by decide +kernel
theorem dX12_does_90 : decode cX12_does 90 = .ok (.iconst 1, 1) := by decide +kernel
theorem dX12_does_91 : decode cX12_does 91 = .ok (.ireturn, 1) := by decide +kernel
theorem dX12_does_92 : decode cX12_does 92 = .ok (.aload_n 0, 1) := by decide +kernel
theorem dX12_does_93 : decode cX12_does 93 = .ok (.getfield 29, 3) := by decide +kernel
theorem dX12_does_96 : decode cX12_does 96 = .ok (.iconst 1, 1) := by decide +kernel
theorem dX12_does_97 : decode cX12_does 97 = .ok (.invokestatic 346, 3) := by decide +kernel
theorem dX12_does_100 : decode cX12_does 100 = .ok (.istore_n 3, 1) := by decide +kernel
theorem dX12_does_101 : decode cX12_does 101 = .ok (.iconst 0, 1) := by decide +kernel
theorem dX12_does_102 : decode cX12_does 102 = .ok (.istore 4, 2) := by decide +kernel
theorem dX12_does_104 : decode cX12_does 104 = .ok (.iload 4, 2) := by decide +kernel
theorem dX12_does_106 : decode cX12_does 106 = .ok (.iload_n 2, 1) := by decide +kernel
theorem dX12_does_107 : decode cX12_does 107 = .ok (.if_icmp .ge 17, 3) := by decide +kernel
theorem dX12_does_110 : decode cX12_does 110 = .ok (.aload_n 0, 1) := by decide +kernel
theorem dX12_does_111 : decode cX12_does 111 = .ok (.aload_n 0, 1) := by decide +kernel
theorem dX12_does_112 : decode cX12_does 112 = .ok (.getfield 29, 3) := by decide +kernel
theorem dX12_does_115 : decode cX12_does 115 = .ok (.invokevirtual 349, 3) := by decide +kernel
theorem dX12_does_118 : decode cX12_does 118 = .ok (.iinc 4 1, 3) := by decide +kernel
theorem dX12_does_121 : decode cX12_does 121 = .ok (.goto (-17), 3) := by decide +kernel
theorem dX12_does_124 : decode cX12_does 124 = .ok (.aload_n 0, 1) := by decide +kernel
theorem dX12_does_125 : decode cX12_does 125 = .ok (.dup, 1) := by decide +kernel
theorem dX12_does_126 : decode cX12_does 126 = .ok (.getfield 365, 3) := by decide +kernel
theorem dX12_does_129 : decode cX12_does 129 = .ok (.aload_n 0, 1) := by decide +kernel
theorem dX12_does_130 : decode cX12_does 130 = .ok (.getfield 29, 3) := by decide +kernel
theorem dX12_does_133 : decode cX12_does 133 = .ok (.iconst 1, 1) := by decide +kernel
theorem dX12_does_134 : decode cX12_does 134 = .ok (.invokestatic 346, 3) := by decide +kernel
theorem dX12_does_137 : decode cX12_does 137 = .ok (.iload_n 3, 1) := by decide +kernel
theorem dX12_does_138 : decode cX12_does 138 = .ok (.iconst (-1), 1) := by decide +kernel
theorem dX12_does_139 : decode cX12_does 139 = .ok (.ixor, 1) := by decide +kernel
theorem dX12_does_140 : decode cX12_does 140 = .ok (.iand, 1) := by decide +kernel
theorem dX12_does_141 : decode cX12_does 141 = .ok (.invokestatic 353, 3) := by decide +kernel
theorem dX12_does_144 : decode cX12_does 144 = .ok (.iadd, 1) := by decide +kernel
theorem dX12_does_145 : decode cX12_does 145 = .ok (.putfield 365, 3) := by decide +kernel
theorem dX12_does_148 : decode cX12_does 148 = .ok (.iconst 1, 1) := by decide +kernel
theorem dX12_does_149 : decode cX12_does 149 = .ok (.ireturn, 1) := by decide +kernel
theorem dX12_does_150 : decode cX12_does 150 = .ok (.aload_n 0, 1) := by decide +kernel
theorem dX12_does_151 : decode cX12_does 151 = .ok (.iload_n 2, 1) := by decide +kernel
theorem dX12_does_152 : decode cX12_does 152 = .ok (.aload_n 0, 1) := by decide +kernel
theorem dX12_does_153 : decode cX12_does 153 = .ok (.getfield 77, 3) := by decide +kernel
theorem dX12_does_156 : decode cX12_does 156 = .ok (.iload_n 1, 1) := by decide +kernel
theorem dX12_does_157 : decode cX12_does 157 = .ok (.iaload, 1) := by decide +kernel
theorem dX12_does_158 : decode cX12_does 158 = .ok (.invokevirtual 343, 3) := by decide +kernel
theorem dX12_does_161 : decode cX12_does 161 = .ok (.ifCond .lt 7, 3) := by decide +kernel
theorem dX12_does_164 : decode cX12_does 164 = .ok (.iconst 1, 1) := by decide +kernel
theorem dX12_does_165 : decode cX12_does 165 = .ok (.goto 4, 3) := by decide +kernel
theorem dX12_does_168 : decode cX12_does 168 = .ok (.iconst 0, 1) := by decide +kernel
theorem dX12_does_169 : decode cX12_does 169 = .ok (.ireturn, 1) := by decide +kernel
theorem dX12_enters_0 : decode cX12_enters 0 = .ok (.aload_n 0, 1) := by decide +kernel
theorem dX12_enters_1 : decode cX12_enters 1 = .ok (.getfield 9, 3) := by decide +kernel
theorem dX12_enters_4 : decode cX12_enters 4 = .ok (.aload_n 0, 1) := by decide +kernel
theorem dX12_enters_5 : decode cX12_enters 5 = .ok (.getfield 119, 3) := by decide +kernel
theorem dX12_enters_8 : decode cX12_enters 8 = .ok (.lload_n 1, 1) := by decide +kernel
theorem dX12_enters_9 : decode cX12_enters 9 = .ok (.lastore, 1) := by decide +kernel
theorem dX12_enters_10 : decode cX12_enters 10 = .ok (.aload_n 0, 1) := by decide +kernel
theorem dX12_enters_11 : decode cX12_enters 11 = .ok (.dup, 1) := by decide +kernel
theorem dX12_enters_12 : decode cX12_enters 12 = .ok (.getfield 119, 3) := by decide +kernel
theorem dX12_enters_15 : decode cX12_enters 15 = .ok (.iconst 1, 1) := by decide +kernel
theorem dX12_enters_16 : decode cX12_enters 16 = .ok (.iadd, 1) := by decide +kernel
theorem dX12_enters_17 : decode cX12_enters 17 = .ok (.putfield 119, 3) := by decide +kernel
theorem dX12_enters_20 : decode cX12_enters 20 = .ok (.return_, 1) := by decide +kernel
theorem dX12_faultOf_0 : decode cX12_faultOf 0 = .ok (.iload_n 3, 1) := by decide +kernel
theorem dX12_faultOf_1 : decode cX12_faultOf 1 = .ok (.ifCond .eq 18, 3) := by decide +kernel
theorem dX12_faultOf_4 : decode cX12_faultOf 4 = .ok (.aload_n 0, 1) := by decide +kernel
theorem dX12_faultOf_5 : decode cX12_faultOf 5 = .ok (.getfield 140, 3) := by decide +kernel
theorem dX12_faultOf_8 : decode cX12_faultOf 8 = .ok (.aload_n 0, 1) := by decide +kernel
theorem dX12_faultOf_9 : decode cX12_faultOf 9 = .ok (.getfield 152, 3) := by decide +kernel
theorem dX12_faultOf_12 : decode cX12_faultOf 12 = .ok (.if_icmp .ne 7, 3) := by decide +kernel
theorem dX12_faultOf_15 : decode cX12_faultOf 15 = .ok (.iconst 1, 1) := by decide +kernel
theorem dX12_faultOf_16 : decode cX12_faultOf 16 = .ok (.goto 4, 3) := by decide +kernel
theorem dX12_faultOf_19 : decode cX12_faultOf 19 = .ok (.iconst 0, 1) := by decide +kernel
theorem dX12_faultOf_20 : decode cX12_faultOf 20 = .ok (.istore 4, 2) := by decide +kernel
theorem dX12_faultOf_22 : decode cX12_faultOf 22 = .ok (.iload_n 1, 1) := by decide +kernel
theorem dX12_faultOf_23 : decode cX12_faultOf 23 = .ok (.iload_n 2, 1) := by decide +kernel
theorem dX12_faultOf_24 : decode cX12_faultOf 24 = .ok (.if_icmp .le 20, 3) := by decide +kernel
theorem dX12_faultOf_27 : decode cX12_faultOf 27 = .ok (.iload 4, 2) := by decide +kernel
theorem dX12_faultOf_29 : decode cX12_faultOf 29 = .ok (.ifCond .ne 11, 3) := by decide +kernel
theorem dX12_faultOf_32 : decode cX12_faultOf 32 = .ok (.aload_n 0, 1) := by decide +kernel
theorem dX12_faultOf_33 : decode cX12_faultOf 33 = .ok (.getfield 140, 3) := by decide +kernel
theorem dX12_faultOf_36 : decode cX12_faultOf 36 = .ok (.iload_n 2, 1) := by decide +kernel
theorem dX12_faultOf_37 : decode cX12_faultOf 37 = .ok (.if_icmp .lt 7, 3) := by decide +kernel
theorem dX12_faultOf_40 : decode cX12_faultOf 40 = .ok (.iconst (-1), 1) := by decide +kernel
theorem dX12_faultOf_41 : decode cX12_faultOf 41 = .ok (.iload_n 2, 1) := by decide +kernel
theorem dX12_faultOf_42 : decode cX12_faultOf 42 = .ok (.isub, 1) := by decide +kernel
theorem dX12_faultOf_43 : decode cX12_faultOf 43 = .ok (.ireturn, 1) := by decide +kernel
theorem dX12_faultOf_44 : decode cX12_faultOf 44 = .ok (.iload 4, 2) := by decide +kernel
theorem dX12_faultOf_46 : decode cX12_faultOf 46 = .ok (.ifCond .eq 7, 3) := by decide +kernel
theorem dX12_faultOf_49 : decode cX12_faultOf 49 = .ok (.iconst 0, 1) := by decide +kernel
theorem dX12_faultOf_50 : decode cX12_faultOf 50 = .ok (.goto 9, 3) := by decide +kernel
theorem dX12_faultOf_53 : decode cX12_faultOf 53 = .ok (.iconst (-1), 1) := by decide +kernel
theorem dX12_faultOf_54 : decode cX12_faultOf 54 = .ok (.aload_n 0, 1) := by decide +kernel
theorem dX12_faultOf_55 : decode cX12_faultOf 55 = .ok (.getfield 140, 3) := by decide +kernel
theorem dX12_faultOf_58 : decode cX12_faultOf 58 = .ok (.isub, 1) := by decide +kernel
theorem dX12_faultOf_59 : decode cX12_faultOf 59 = .ok (.ireturn, 1) := by decide +kernel
theorem dX12_forks_0 : decode cX12_forks 0 = .ok (.iconst 0, 1) := by decide +kernel
theorem dX12_forks_1 : decode cX12_forks 1 = .ok (.istore_n 1, 1) := by decide +kernel
theorem dX12_forks_2 : decode cX12_forks 2 = .ok (.iconst 0, 1) := by decide +kernel
theorem dX12_forks_3 : decode cX12_forks 3 = .ok (.istore_n 2, 1) := by decide +kernel
theorem dX12_forks_4 : decode cX12_forks 4 = .ok (.iload_n 2, 1) := by decide +kernel
theorem dX12_forks_5 : decode cX12_forks 5 = .ok (.aload_n 0, 1) := by decide +kernel
theorem dX12_forks_6 : decode cX12_forks 6 = .ok (.getfield 126, 3) := by decide +kernel
theorem dX12_forks_9 : decode cX12_forks 9 = .ok (.if_icmp .ge 29, 3) := by decide +kernel
theorem dX12_forks_12 : decode cX12_forks 12 = .ok (.iload_n 1, 1) := by decide +kernel
theorem dX12_forks_13 : decode cX12_forks 13 = .ok (.aload_n 0, 1) := by decide +kernel
theorem dX12_forks_14 : decode cX12_forks 14 = .ok (.getfield 13, 3) := by decide +kernel
theorem dX12_forks_17 : decode cX12_forks 17 = .ok (.iload_n 2, 1) := by decide +kernel
theorem dX12_forks_18 : decode cX12_forks 18 = .ok (.iaload, 1) := by decide +kernel
theorem dX12_forks_19 : decode cX12_forks 19 = .ok (.iconst 1, 1) := by decide +kernel
theorem dX12_forks_20 : decode cX12_forks 20 = .ok (.if_icmp .ne 9, 3) := by decide +kernel
theorem dX12_forks_23 : decode cX12_forks 23 = .ok (.iconst 1, 1) := by decide +kernel
theorem dX12_forks_24 : decode cX12_forks 24 = .ok (.iload_n 2, 1) := by decide +kernel
theorem dX12_forks_25 : decode cX12_forks 25 = .ok (.ishl, 1) := by decide +kernel
theorem dX12_forks_26 : decode cX12_forks 26 = .ok (.goto 4, 3) := by decide +kernel
theorem dX12_forks_29 : decode cX12_forks 29 = .ok (.iconst 0, 1) := by decide +kernel
theorem dX12_forks_30 : decode cX12_forks 30 = .ok (.ior, 1) := by decide +kernel
theorem dX12_forks_31 : decode cX12_forks 31 = .ok (.istore_n 1, 1) := by decide +kernel
theorem dX12_forks_32 : decode cX12_forks 32 = .ok (.iinc 2 1, 3) := by decide +kernel
theorem dX12_forks_35 : decode cX12_forks 35 = .ok (.goto (-31), 3) := by decide +kernel
theorem dX12_forks_38 : decode cX12_forks 38 = .ok (.iload_n 1, 1) := by decide +kernel
theorem dX12_forks_39 : decode cX12_forks 39 = .ok (.ireturn, 1) := by decide +kernel
theorem dX12_gives_0 : decode cX12_gives 0 = .ok (.aload_n 0, 1) := by decide +kernel
theorem dX12_gives_1 : decode cX12_gives 1 = .ok (.iload_n 1, 1) := by decide +kernel
theorem dX12_gives_2 : decode cX12_gives 2 = .ok (.invokevirtual 309, 3) := by decide +kernel
theorem dX12_gives_5 : decode cX12_gives 5 = .ok (.ifCond .eq 29, 3) := by decide +kernel
theorem dX12_gives_8 : decode cX12_gives 8 = .ok (.aload_n 0, 1) := by decide +kernel
theorem dX12_gives_9 : decode cX12_gives 9 = .ok (.getfield 29, 3) := by decide +kernel
theorem dX12_gives_12 : decode cX12_gives 12 = .ok (.bipush 7, 2) := by decide +kernel
theorem dX12_gives_14 : decode cX12_gives 14 = .ok (.iload_n 1, 1) := by decide +kernel
theorem dX12_gives_15 : decode cX12_gives 15 = .ok (.imul, 1) := by decide +kernel
theorem dX12_gives_16 : decode cX12_gives 16 = .ok (.iconst 4, 1) := by decide +kernel
theorem dX12_gives_17 : decode cX12_gives 17 = .ok (.iadd, 1) := by decide +kernel
theorem dX12_gives_18 : decode cX12_gives 18 = .ok (.iaload, 1) := by decide +kernel
theorem dX12_gives_19 : decode cX12_gives 19 = .ok (.ifCond .ne 15, 3) := by decide +kernel
theorem dX12_gives_22 : decode cX12_gives 22 = .ok (.iload_n 2, 1) := by decide +kernel
theorem dX12_gives_23 : decode cX12_gives 23 = .ok (.i2l, 1) := by decide +kernel
theorem dX12_gives_24 : decode cX12_gives 24 = .ok (.lconst 1, 1) := by decide +kernel
theorem dX12_gives_25 : decode cX12_gives 25 = .ok (.ldc2_w 329, 3) := by decide +kernel
theorem dX12_gives_28 : decode cX12_gives 28 = .ok (.invokestatic 129, 3) := by decide +kernel
theorem dX12_gives_31 : decode cX12_gives 31 = .ok (.ifCond .ne 5, 3) := by decide +kernel
theorem dX12_gives_34 : decode cX12_gives 34 = .ok (.iconst (-1), 1) := by decide +kernel
theorem dX12_gives_35 : decode cX12_gives 35 = .ok (.ireturn, 1) := by decide +kernel
theorem dX12_gives_36 : decode cX12_gives 36 = .ok (.aload_n 0, 1) := by decide +kernel
theorem dX12_gives_37 : decode cX12_gives 37 = .ok (.getfield 29, 3) := by decide +kernel
theorem dX12_gives_40 : decode cX12_gives 40 = .ok (.bipush 7, 2) := by decide +kernel
theorem dX12_gives_42 : decode cX12_gives 42 = .ok (.iload_n 1, 1) := by decide +kernel
theorem dX12_gives_43 : decode cX12_gives 43 = .ok (.imul, 1) := by decide +kernel
theorem dX12_gives_44 : decode cX12_gives 44 = .ok (.iconst 2, 1) := by decide +kernel
theorem dX12_gives_45 : decode cX12_gives 45 = .ok (.iadd, 1) := by decide +kernel
theorem dX12_gives_46 : decode cX12_gives 46 = .ok (.bipush 9, 2) := by decide +kernel
theorem dX12_gives_48 : decode cX12_gives 48 = .ok (.aload_n 0, 1) := by decide +kernel
theorem dX12_gives_49 : decode cX12_gives 49 = .ok (.getfield 29, 3) := by decide +kernel
theorem dX12_gives_52 : decode cX12_gives 52 = .ok (.bipush 7, 2) := by decide +kernel
theorem dX12_gives_54 : decode cX12_gives 54 = .ok (.iload_n 1, 1) := by decide +kernel
theorem dX12_gives_55 : decode cX12_gives 55 = .ok (.imul, 1) := by decide +kernel
theorem dX12_gives_56 : decode cX12_gives 56 = .ok (.iconst 2, 1) := by decide +kernel
theorem dX12_gives_57 : decode cX12_gives 57 = .ok (.iadd, 1) := by decide +kernel
theorem dX12_gives_58 : decode cX12_gives 58 = .ok (.iaload, 1) := by decide +kernel
theorem dX12_gives_59 : decode cX12_gives 59 = .ok (.iload_n 2, 1) := by decide +kernel
theorem dX12_gives_60 : decode cX12_gives 60 = .ok (.iadd, 1) := by decide +kernel
theorem dX12_gives_61 : decode cX12_gives 61 = .ok (.invokestatic 146, 3) := by decide +kernel
theorem dX12_gives_64 : decode cX12_gives 64 = .ok (.iastore, 1) := by decide +kernel
theorem dX12_gives_65 : decode cX12_gives 65 = .ok (.aload_n 0, 1) := by decide +kernel
theorem dX12_gives_66 : decode cX12_gives 66 = .ok (.getfield 29, 3) := by decide +kernel
theorem dX12_gives_69 : decode cX12_gives 69 = .ok (.bipush 7, 2) := by decide +kernel
theorem dX12_gives_71 : decode cX12_gives 71 = .ok (.iload_n 1, 1) := by decide +kernel
theorem dX12_gives_72 : decode cX12_gives 72 = .ok (.imul, 1) := by decide +kernel
theorem dX12_gives_73 : decode cX12_gives 73 = .ok (.iconst 2, 1) := by decide +kernel
theorem dX12_gives_74 : decode cX12_gives 74 = .ok (.iadd, 1) := by decide +kernel
theorem dX12_gives_75 : decode cX12_gives 75 = .ok (.iaload, 1) := by decide +kernel
theorem dX12_gives_76 : decode cX12_gives 76 = .ok (.ireturn, 1) := by decide +kernel
theorem dX12_isDigit_0 : decode cX12_isDigit 0 = .ok (.aload_n 0, 1) := by decide +kernel
theorem dX12_isDigit_1 : decode cX12_isDigit 1 = .ok (.getfield 140, 3) := by decide +kernel
theorem dX12_isDigit_4 : decode cX12_isDigit 4 = .ok (.aload_n 0, 1) := by decide +kernel
theorem dX12_isDigit_5 : decode cX12_isDigit 5 = .ok (.getfield 152, 3) := by decide +kernel
theorem dX12_isDigit_8 : decode cX12_isDigit 8 = .ok (.if_icmp .ge 29, 3) := by decide +kernel
theorem dX12_isDigit_11 : decode cX12_isDigit 11 = .ok (.aload_n 0, 1) := by decide +kernel
theorem dX12_isDigit_12 : decode cX12_isDigit 12 = .ok (.getfield 35, 3) := by decide +kernel
theorem dX12_isDigit_15 : decode cX12_isDigit 15 = .ok (.aload_n 0, 1) := by decide +kernel
theorem dX12_isDigit_16 : decode cX12_isDigit 16 = .ok (.getfield 140, 3) := by decide +kernel
theorem dX12_isDigit_19 : decode cX12_isDigit 19 = .ok (.iaload, 1) := by decide +kernel
theorem dX12_isDigit_20 : decode cX12_isDigit 20 = .ok (.i2l, 1) := by decide +kernel
theorem dX12_isDigit_21 : decode cX12_isDigit 21 = .ok (.ldc2_w 159, 3) := by decide +kernel
theorem dX12_isDigit_24 : decode cX12_isDigit 24 = .ok (.ldc2_w 161, 3) := by decide +kernel
theorem dX12_isDigit_27 : decode cX12_isDigit 27 = .ok (.invokestatic 129, 3) := by decide +kernel
theorem dX12_isDigit_30 : decode cX12_isDigit 30 = .ok (.ifCond .eq 7, 3) := by decide +kernel
theorem dX12_isDigit_33 : decode cX12_isDigit 33 = .ok (.iconst 1, 1) := by decide +kernel
theorem dX12_isDigit_34 : decode cX12_isDigit 34 = .ok (.goto 4, 3) := by decide +kernel
theorem dX12_isDigit_37 : decode cX12_isDigit 37 = .ok (.iconst 0, 1) := by decide +kernel
theorem dX12_isDigit_38 : decode cX12_isDigit 38 = .ok (.ireturn, 1) := by decide +kernel
theorem dX12_isFork_0 : decode cX12_isFork 0 = .ok (.aload_n 0, 1) := by decide +kernel
theorem dX12_isFork_1 : decode cX12_isFork 1 = .ok (.iload_n 1, 1) := by decide +kernel
theorem dX12_isFork_2 : decode cX12_isFork 2 = .ok (.invokevirtual 133, 3) := by decide +kernel
theorem dX12_isFork_5 : decode cX12_isFork 5 = .ok (.ifCond .eq 17, 3) := by decide +kernel
theorem dX12_isFork_8 : decode cX12_isFork 8 = .ok (.aload_n 0, 1) := by decide +kernel
theorem dX12_isFork_9 : decode cX12_isFork 9 = .ok (.getfield 13, 3) := by decide +kernel
theorem dX12_isFork_12 : decode cX12_isFork 12 = .ok (.iload_n 1, 1) := by decide +kernel
theorem dX12_isFork_13 : decode cX12_isFork 13 = .ok (.iaload, 1) := by decide +kernel
theorem dX12_isFork_14 : decode cX12_isFork 14 = .ok (.iconst 1, 1) := by decide +kernel
theorem dX12_isFork_15 : decode cX12_isFork 15 = .ok (.if_icmp .ne 7, 3) := by decide +kernel
theorem dX12_isFork_18 : decode cX12_isFork 18 = .ok (.iconst 1, 1) := by decide +kernel
theorem dX12_isFork_19 : decode cX12_isFork 19 = .ok (.goto 4, 3) := by decide +kernel
theorem dX12_isFork_22 : decode cX12_isFork 22 = .ok (.iconst 0, 1) := by decide +kernel
theorem dX12_isFork_23 : decode cX12_isFork 23 = .ok (.ireturn, 1) := by decide +kernel
theorem dX12_isThing_0 : decode cX12_isThing 0 = .ok (.iload_n 1, 1) := by decide +kernel
theorem dX12_isThing_1 : decode cX12_isThing 1 = .ok (.i2l, 1) := by decide +kernel
theorem dX12_isThing_2 : decode cX12_isThing 2 = .ok (.lconst 0, 1) := by decide +kernel
theorem dX12_isThing_3 : decode cX12_isThing 3 = .ok (.aload_n 0, 1) := by decide +kernel
theorem dX12_isThing_4 : decode cX12_isThing 4 = .ok (.getfield 29, 3) := by decide +kernel
theorem dX12_isThing_7 : decode cX12_isThing 7 = .ok (.bipush 44, 2) := by decide +kernel
theorem dX12_isThing_9 : decode cX12_isThing 9 = .ok (.iaload, 1) := by decide +kernel
theorem dX12_isThing_10 : decode cX12_isThing 10 = .ok (.iconst 1, 1) := by decide +kernel
theorem dX12_isThing_11 : decode cX12_isThing 11 = .ok (.isub, 1) := by decide +kernel
theorem dX12_isThing_12 : decode cX12_isThing 12 = .ok (.i2l, 1) := by decide +kernel
theorem dX12_isThing_13 : decode cX12_isThing 13 = .ok (.invokestatic 129, 3) := by decide +kernel
theorem dX12_isThing_16 : decode cX12_isThing 16 = .ok (.ireturn, 1) := by decide +kernel
theorem dX12_numberOf_0 : decode cX12_numberOf 0 = .ok (.aload_n 0, 1) := by decide +kernel
theorem dX12_numberOf_1 : decode cX12_numberOf 1 = .ok (.invokevirtual 177, 3) := by decide +kernel
theorem dX12_numberOf_4 : decode cX12_numberOf 4 = .ok (.ifCond .ne 5, 3) := by decide +kernel
theorem dX12_numberOf_7 : decode cX12_numberOf 7 = .ok (.iconst (-1), 1) := by decide +kernel
theorem dX12_numberOf_8 : decode cX12_numberOf 8 = .ok (.ireturn, 1) := by decide +kernel
theorem dX12_numberOf_9 : decode cX12_numberOf 9 = .ok (.iconst 0, 1) := by decide +kernel
theorem dX12_numberOf_10 : decode cX12_numberOf 10 = .ok (.istore_n 2, 1) := by decide +kernel
theorem dX12_numberOf_11 : decode cX12_numberOf 11 = .ok (.iconst 0, 1) := by decide +kernel
theorem dX12_numberOf_12 : decode cX12_numberOf 12 = .ok (.istore_n 3, 1) := by decide +kernel
theorem dX12_numberOf_13 : decode cX12_numberOf 13 = .ok (.iload_n 3, 1) := by decide +kernel
theorem dX12_numberOf_14 : decode cX12_numberOf 14 = .ok (.iload_n 1, 1) := by decide +kernel
theorem dX12_numberOf_15 : decode cX12_numberOf 15 = .ok (.if_icmp .ge 44, 3) := by decide +kernel
theorem dX12_numberOf_18 : decode cX12_numberOf 18 = .ok (.aload_n 0, 1) := by decide +kernel
theorem dX12_numberOf_19 : decode cX12_numberOf 19 = .ok (.invokevirtual 177, 3) := by decide +kernel
theorem dX12_numberOf_22 : decode cX12_numberOf 22 = .ok (.ifCond .eq 37, 3) := by decide +kernel
theorem dX12_numberOf_25 : decode cX12_numberOf 25 = .ok (.bipush 10, 2) := by decide +kernel
theorem dX12_numberOf_27 : decode cX12_numberOf 27 = .ok (.iload_n 2, 1) := by decide +kernel
theorem dX12_numberOf_28 : decode cX12_numberOf 28 = .ok (.imul, 1) := by decide +kernel
theorem dX12_numberOf_29 : decode cX12_numberOf 29 = .ok (.aload_n 0, 1) := by decide +kernel
theorem dX12_numberOf_30 : decode cX12_numberOf 30 = .ok (.getfield 35, 3) := by decide +kernel
theorem dX12_numberOf_33 : decode cX12_numberOf 33 = .ok (.aload_n 0, 1) := by decide +kernel
theorem dX12_numberOf_34 : decode cX12_numberOf 34 = .ok (.getfield 140, 3) := by decide +kernel
theorem dX12_numberOf_37 : decode cX12_numberOf 37 = .ok (.iaload, 1) := by decide +kernel
theorem dX12_numberOf_38 : decode cX12_numberOf 38 = .ok (.iadd, 1) := by decide +kernel
theorem dX12_numberOf_39 : decode cX12_numberOf 39 = .ok (.bipush 48, 2) := by decide +kernel
theorem dX12_numberOf_41 : decode cX12_numberOf 41 = .ok (.isub, 1) := by decide +kernel
theorem dX12_numberOf_42 : decode cX12_numberOf 42 = .ok (.istore_n 2, 1) := by decide +kernel
theorem dX12_numberOf_43 : decode cX12_numberOf 43 = .ok (.aload_n 0, 1) := by decide +kernel
theorem dX12_numberOf_44 : decode cX12_numberOf 44 = .ok (.dup, 1) := by decide +kernel
theorem dX12_numberOf_45 : decode cX12_numberOf 45 = .ok (.getfield 140, 3) := by decide +kernel
theorem dX12_numberOf_48 : decode cX12_numberOf 48 = .ok (.iconst 1, 1) := by decide +kernel
theorem dX12_numberOf_49 : decode cX12_numberOf 49 = .ok (.iadd, 1) := by decide +kernel
theorem dX12_numberOf_50 : decode cX12_numberOf 50 = .ok (.putfield 140, 3) := by decide +kernel
theorem dX12_numberOf_53 : decode cX12_numberOf 53 = .ok (.iinc 3 1, 3) := by decide +kernel
theorem dX12_numberOf_56 : decode cX12_numberOf 56 = .ok (.goto (-43), 3) := by decide +kernel
theorem dX12_numberOf_59 : decode cX12_numberOf 59 = .ok (.iload_n 2, 1) := by decide +kernel
theorem dX12_numberOf_60 : decode cX12_numberOf 60 = .ok (.ireturn, 1) := by decide +kernel
theorem dX12_plays_0 : decode cX12_plays 0 = .ok (.iload_n 2, 1) := by decide +kernel
theorem dX12_plays_1 : decode cX12_plays 1 = .ok (.ifCond .ne 9, 3) := by decide +kernel
theorem dX12_plays_4 : decode cX12_plays 4 = .ok (.aload_n 0, 1) := by decide +kernel
theorem dX12_plays_5 : decode cX12_plays 5 = .ok (.iload_n 1, 1) := by decide +kernel
theorem dX12_plays_6 : decode cX12_plays 6 = .ok (.invokevirtual 437, 3) := by decide +kernel
theorem dX12_plays_9 : decode cX12_plays 9 = .ok (.ireturn, 1) := by decide +kernel
theorem dX12_plays_10 : decode cX12_plays 10 = .ok (.iload_n 3, 1) := by decide +kernel
theorem dX12_plays_11 : decode cX12_plays 11 = .ok (.iload_n 2, 1) := by decide +kernel
theorem dX12_plays_12 : decode cX12_plays 12 = .ok (.isub, 1) := by decide +kernel
theorem dX12_plays_13 : decode cX12_plays 13 = .ok (.iconst 2, 1) := by decide +kernel
theorem dX12_plays_14 : decode cX12_plays 14 = .ok (.irem, 1) := by decide +kernel
theorem dX12_plays_15 : decode cX12_plays 15 = .ok (.ifCond .ne 7, 3) := by decide +kernel
theorem dX12_plays_18 : decode cX12_plays 18 = .ok (.iconst 1, 1) := by decide +kernel
theorem dX12_plays_19 : decode cX12_plays 19 = .ok (.goto 4, 3) := by decide +kernel
theorem dX12_plays_22 : decode cX12_plays 22 = .ok (.iconst 0, 1) := by decide +kernel
theorem dX12_plays_23 : decode cX12_plays 23 = .ok (.istore 4, 2) := by decide +kernel
theorem dX12_plays_25 : decode cX12_plays 25 = .ok (.aload_n 0, 1) := by decide +kernel
theorem dX12_plays_26 : decode cX12_plays 26 = .ok (.iload_n 1, 1) := by decide +kernel
theorem dX12_plays_27 : decode cX12_plays 27 = .ok (.iload_n 2, 1) := by decide +kernel
theorem dX12_plays_28 : decode cX12_plays 28 = .ok (.iconst 1, 1) := by decide +kernel
theorem dX12_plays_29 : decode cX12_plays 29 = .ok (.isub, 1) := by decide +kernel
theorem dX12_plays_30 : decode cX12_plays 30 = .ok (.iload_n 3, 1) := by decide +kernel
theorem dX12_plays_31 : decode cX12_plays 31 = .ok (.invokevirtual 440, 3) := by decide +kernel
theorem dX12_plays_34 : decode cX12_plays 34 = .ok (.istore 5, 2) := by decide +kernel
theorem dX12_plays_36 : decode cX12_plays 36 = .ok (.iconst 0, 1) := by decide +kernel
theorem dX12_plays_37 : decode cX12_plays 37 = .ok (.istore 6, 2) := by decide +kernel
theorem dX12_plays_39 : decode cX12_plays 39 = .ok (.iload 6, 2) := by decide +kernel
theorem dX12_plays_41 : decode cX12_plays 41 = .ok (.aload_n 0, 1) := by decide +kernel
theorem dX12_plays_42 : decode cX12_plays 42 = .ok (.getfield 126, 3) := by decide +kernel
theorem dX12_plays_45 : decode cX12_plays 45 = .ok (.if_icmp .ge 60, 3) := by decide +kernel
theorem dX12_plays_48 : decode cX12_plays 48 = .ok (.aload_n 0, 1) := by decide +kernel
theorem dX12_plays_49 : decode cX12_plays 49 = .ok (.getfield 13, 3) := by decide +kernel
theorem dX12_plays_52 : decode cX12_plays 52 = .ok (.iload 6, 2) := by decide +kernel
theorem dX12_plays_54 : decode cX12_plays 54 = .ok (.iaload, 1) := by decide +kernel
theorem dX12_plays_55 : decode cX12_plays 55 = .ok (.iconst 1, 1) := by decide +kernel
theorem dX12_plays_56 : decode cX12_plays 56 = .ok (.if_icmp .ne 43, 3) := by decide +kernel
theorem dX12_plays_59 : decode cX12_plays 59 = .ok (.aload_n 0, 1) := by decide +kernel
theorem dX12_plays_60 : decode cX12_plays 60 = .ok (.iload_n 1, 1) := by decide +kernel
theorem dX12_plays_61 : decode cX12_plays 61 = .ok (.iconst 1, 1) := by decide +kernel
theorem dX12_plays_62 : decode cX12_plays 62 = .ok (.iload 6, 2) := by decide +kernel
theorem dX12_plays_64 : decode cX12_plays 64 = .ok (.ishl, 1) := by decide +kernel
theorem dX12_plays_65 : decode cX12_plays 65 = .ok (.ixor, 1) := by decide +kernel
theorem dX12_plays_66 : decode cX12_plays 66 = .ok (.iload_n 2, 1) := by decide +kernel
theorem dX12_plays_67 : decode cX12_plays 67 = .ok (.iconst 1, 1) := by decide +kernel
theorem dX12_plays_68 : decode cX12_plays 68 = .ok (.isub, 1) := by decide +kernel
theorem dX12_plays_69 : decode cX12_plays 69 = .ok (.iload_n 3, 1) := by decide +kernel
theorem dX12_plays_70 : decode cX12_plays 70 = .ok (.invokevirtual 440, 3) := by decide +kernel
theorem dX12_plays_73 : decode cX12_plays 73 = .ok (.istore 7, 2) := by decide +kernel
theorem dX12_plays_75 : decode cX12_plays 75 = .ok (.iload 4, 2) := by decide +kernel
theorem dX12_plays_77 : decode cX12_plays 77 = .ok (.ifCond .eq 13, 3) := by decide +kernel
theorem dX12_plays_80 : decode cX12_plays 80 = .ok (.iload 5, 2) := by decide +kernel
theorem dX12_plays_82 : decode cX12_plays 82 = .ok (.iload 7, 2) := by decide +kernel
theorem dX12_plays_84 : decode cX12_plays 84 = .ok (.invokestatic 261, 3) := by decide +kernel
theorem dX12_plays_87 : decode cX12_plays 87 = .ok (.goto 10, 3) := by decide +kernel
theorem dX12_plays_90 : decode cX12_plays 90 = .ok (.iload 5, 2) := by decide +kernel
theorem dX12_plays_92 : decode cX12_plays 92 = .ok (.iload 7, 2) := by decide +kernel
theorem dX12_plays_94 : decode cX12_plays 94 = .ok (.invokestatic 146, 3) := by decide +kernel
theorem dX12_plays_97 : decode cX12_plays 97 = .ok (.istore 5, 2) := by decide +kernel
theorem dX12_plays_99 : decode cX12_plays 99 = .ok (.iinc 6 1, 3) := by decide +kernel
theorem dX12_plays_102 : decode cX12_plays 102 = .ok (.goto (-63), 3) := by decide +kernel
theorem dX12_plays_105 : decode cX12_plays 105 = .ok (.iload 5, 2) := by decide +kernel
theorem dX12_plays_107 : decode cX12_plays 107 = .ok (.ireturn, 1) := by decide +kernel
theorem dX12_playsOut_0 : decode cX12_playsOut 0 = .ok (.aload_n 0, 1) := by decide +kernel
theorem dX12_playsOut_1 : decode cX12_playsOut 1 = .ok (.getfield 86, 3) := by decide +kernel
theorem dX12_playsOut_4 : decode cX12_playsOut 4 = .ok (.iload_n 1, 1) := by decide +kernel
theorem dX12_playsOut_5 : decode cX12_playsOut 5 = .ok (.iaload, 1) := by decide +kernel
theorem dX12_playsOut_6 : decode cX12_playsOut 6 = .ok (.ifCond .ge 46, 3) := by decide +kernel
theorem dX12_playsOut_9 : decode cX12_playsOut 9 = .ok (.aload_n 0, 1) := by decide +kernel
theorem dX12_playsOut_10 : decode cX12_playsOut 10 = .ok (.iload_n 1, 1) := by decide +kernel
theorem dX12_playsOut_11 : decode cX12_playsOut 11 = .ok (.putfield 389, 3) := by decide +kernel
theorem dX12_playsOut_14 : decode cX12_playsOut 14 = .ok (.aload_n 0, 1) := by decide +kernel
theorem dX12_playsOut_15 : decode cX12_playsOut 15 = .ok (.getfield 86, 3) := by decide +kernel
theorem dX12_playsOut_18 : decode cX12_playsOut 18 = .ok (.iload_n 1, 1) := by decide +kernel
theorem dX12_playsOut_19 : decode cX12_playsOut 19 = .ok (.aload_n 0, 1) := by decide +kernel
theorem dX12_playsOut_20 : decode cX12_playsOut 20 = .ok (.aload_n 0, 1) := by decide +kernel
theorem dX12_playsOut_21 : decode cX12_playsOut 21 = .ok (.getfield 425, 3) := by decide +kernel
theorem dX12_playsOut_24 : decode cX12_playsOut 24 = .ok (.aload_n 0, 1) := by decide +kernel
theorem dX12_playsOut_25 : decode cX12_playsOut 25 = .ok (.getfield 428, 3) := by decide +kernel
theorem dX12_playsOut_28 : decode cX12_playsOut 28 = .ok (.aload_n 0, 1) := by decide +kernel
theorem dX12_playsOut_29 : decode cX12_playsOut 29 = .ok (.getfield 431, 3) := by decide +kernel
theorem dX12_playsOut_32 : decode cX12_playsOut 32 = .ok (.iconst 0, 1) := by decide +kernel
theorem dX12_playsOut_33 : decode cX12_playsOut 33 = .ok (.aload_n 0, 1) := by decide +kernel
theorem dX12_playsOut_34 : decode cX12_playsOut 34 = .ok (.getfield 434, 3) := by decide +kernel
theorem dX12_playsOut_37 : decode cX12_playsOut 37 = .ok (.invokevirtual 412, 3) := by decide +kernel
theorem dX12_playsOut_40 : decode cX12_playsOut 40 = .ok (.ifCond .lt 7, 3) := by decide +kernel
theorem dX12_playsOut_43 : decode cX12_playsOut 43 = .ok (.iconst 1, 1) := by decide +kernel
theorem dX12_playsOut_44 : decode cX12_playsOut 44 = .ok (.goto 4, 3) := by decide +kernel
theorem dX12_playsOut_47 : decode cX12_playsOut 47 = .ok (.iconst 0, 1) := by decide +kernel
theorem dX12_playsOut_48 : decode cX12_playsOut 48 = .ok (.invokestatic 155, 3) := by decide +kernel
theorem dX12_playsOut_51 : decode cX12_playsOut 51 = .ok (.iastore, 1) := by decide +kernel
theorem dX12_playsOut_52 : decode cX12_playsOut 52 = .ok (.aload_n 0, 1) := by decide +kernel
theorem dX12_playsOut_53 : decode cX12_playsOut 53 = .ok (.getfield 86, 3) := by decide +kernel
theorem dX12_playsOut_56 : decode cX12_playsOut 56 = .ok (.iload_n 1, 1) := by decide +kernel
theorem dX12_playsOut_57 : decode cX12_playsOut 57 = .ok (.iaload, 1) := by decide +kernel
theorem dX12_playsOut_58 : decode cX12_playsOut 58 = .ok (.ireturn, 1) := by decide +kernel
theorem dX12_puts_0 : decode cX12_puts 0 = .ok (.iconst 0, 1) := by decide +kernel
theorem dX12_puts_1 : decode cX12_puts 1 = .ok (.istore_n 2, 1) := by decide +kernel
theorem dX12_puts_2 : decode cX12_puts 2 = .ok (.iload_n 2, 1) := by decide +kernel
theorem dX12_puts_3 : decode cX12_puts 3 = .ok (.bipush 45, 2) := by decide +kernel
theorem dX12_puts_5 : decode cX12_puts 5 = .ok (.if_icmp .ge 15, 3) := by decide +kernel
theorem dX12_puts_8 : decode cX12_puts 8 = .ok (.aload_n 1, 1) := by decide +kernel
theorem dX12_puts_9 : decode cX12_puts 9 = .ok (.iload_n 2, 1) := by decide +kernel
theorem dX12_puts_10 : decode cX12_puts 10 = .ok (.aload_n 0, 1) := by decide +kernel
theorem dX12_puts_11 : decode cX12_puts 11 = .ok (.iload_n 2, 1) := by decide +kernel
theorem dX12_puts_12 : decode cX12_puts 12 = .ok (.iaload, 1) := by decide +kernel
theorem dX12_puts_13 : decode cX12_puts 13 = .ok (.iastore, 1) := by decide +kernel
theorem dX12_puts_14 : decode cX12_puts 14 = .ok (.iinc 2 1, 3) := by decide +kernel
theorem dX12_puts_17 : decode cX12_puts 17 = .ok (.goto (-15), 3) := by decide +kernel
theorem dX12_puts_20 : decode cX12_puts 20 = .ok (.return_, 1) := by decide +kernel
theorem dX12_putsBy_0 : decode cX12_putsBy 0 = .ok (.iconst 0, 1) := by decide +kernel
theorem dX12_putsBy_1 : decode cX12_putsBy 1 = .ok (.istore_n 1, 1) := by decide +kernel
theorem dX12_putsBy_2 : decode cX12_putsBy 2 = .ok (.iload_n 1, 1) := by decide +kernel
theorem dX12_putsBy_3 : decode cX12_putsBy 3 = .ok (.bipush 45, 2) := by decide +kernel
theorem dX12_putsBy_5 : decode cX12_putsBy 5 = .ok (.if_icmp .ge 29, 3) := by decide +kernel
theorem dX12_putsBy_8 : decode cX12_putsBy 8 = .ok (.aload_n 0, 1) := by decide +kernel
theorem dX12_putsBy_9 : decode cX12_putsBy 9 = .ok (.getfield 68, 3) := by decide +kernel
theorem dX12_putsBy_12 : decode cX12_putsBy 12 = .ok (.bipush 45, 2) := by decide +kernel
theorem dX12_putsBy_14 : decode cX12_putsBy 14 = .ok (.aload_n 0, 1) := by decide +kernel
theorem dX12_putsBy_15 : decode cX12_putsBy 15 = .ok (.getfield 220, 3) := by decide +kernel
theorem dX12_putsBy_18 : decode cX12_putsBy 18 = .ok (.imul, 1) := by decide +kernel
theorem dX12_putsBy_19 : decode cX12_putsBy 19 = .ok (.iload_n 1, 1) := by decide +kernel
theorem dX12_putsBy_20 : decode cX12_putsBy 20 = .ok (.iadd, 1) := by decide +kernel
theorem dX12_putsBy_21 : decode cX12_putsBy 21 = .ok (.aload_n 0, 1) := by decide +kernel
theorem dX12_putsBy_22 : decode cX12_putsBy 22 = .ok (.getfield 29, 3) := by decide +kernel
theorem dX12_putsBy_25 : decode cX12_putsBy 25 = .ok (.iload_n 1, 1) := by decide +kernel
theorem dX12_putsBy_26 : decode cX12_putsBy 26 = .ok (.iaload, 1) := by decide +kernel
theorem dX12_putsBy_27 : decode cX12_putsBy 27 = .ok (.iastore, 1) := by decide +kernel
theorem dX12_putsBy_28 : decode cX12_putsBy 28 = .ok (.iinc 1 1, 3) := by decide +kernel
theorem dX12_putsBy_31 : decode cX12_putsBy 31 = .ok (.goto (-29), 3) := by decide +kernel
theorem dX12_putsBy_34 : decode cX12_putsBy 34 = .ok (.return_, 1) := by decide +kernel
theorem dX12_readsAct_0 : decode cX12_readsAct 0 = .ok (.aload_n 0, 1) := by decide +kernel
theorem dX12_readsAct_1 : decode cX12_readsAct 1 = .ok (.getfield 358, 3) := by decide +kernel
theorem dX12_readsAct_4 : decode cX12_readsAct 4 = .ok (.istore_n 1, 1) := by decide +kernel
theorem dX12_readsAct_5 : decode cX12_readsAct 5 = .ok (.aload_n 0, 1) := by decide +kernel
theorem dX12_readsAct_6 : decode cX12_readsAct 6 = .ok (.getfield 71, 3) := by decide +kernel
theorem dX12_readsAct_9 : decode cX12_readsAct 9 = .ok (.iload_n 1, 1) := by decide +kernel
theorem dX12_readsAct_10 : decode cX12_readsAct 10 = .ok (.aload_n 0, 1) := by decide +kernel
theorem dX12_readsAct_11 : decode cX12_readsAct 11 = .ok (.ldc_w 361, 3) := by decide +kernel
theorem dX12_readsAct_14 : decode cX12_readsAct 14 = .ok (.invokevirtual 183, 3) := by decide +kernel
theorem dX12_readsAct_17 : decode cX12_readsAct 17 = .ok (.iastore, 1) := by decide +kernel
theorem dX12_readsAct_18 : decode cX12_readsAct 18 = .ok (.aload_n 0, 1) := by decide +kernel
theorem dX12_readsAct_19 : decode cX12_readsAct 19 = .ok (.dup, 1) := by decide +kernel
theorem dX12_readsAct_20 : decode cX12_readsAct 20 = .ok (.getfield 358, 3) := by decide +kernel
theorem dX12_readsAct_23 : decode cX12_readsAct 23 = .ok (.iconst 1, 1) := by decide +kernel
theorem dX12_readsAct_24 : decode cX12_readsAct 24 = .ok (.iadd, 1) := by decide +kernel
theorem dX12_readsAct_25 : decode cX12_readsAct 25 = .ok (.putfield 358, 3) := by decide +kernel
theorem dX12_readsAct_28 : decode cX12_readsAct 28 = .ok (.aload_n 0, 1) := by decide +kernel
theorem dX12_readsAct_29 : decode cX12_readsAct 29 = .ok (.getfield 71, 3) := by decide +kernel
theorem dX12_readsAct_32 : decode cX12_readsAct 32 = .ok (.iload_n 1, 1) := by decide +kernel
theorem dX12_readsAct_33 : decode cX12_readsAct 33 = .ok (.iaload, 1) := by decide +kernel
theorem dX12_readsAct_34 : decode cX12_readsAct 34 = .ok (.ifCond .ge 5, 3) := by decide +kernel
theorem dX12_readsAct_37 : decode cX12_readsAct 37 = .ok (.iconst 0, 1) := by decide +kernel
theorem dX12_readsAct_38 : decode cX12_readsAct 38 = .ok (.ireturn, 1) := by decide +kernel
theorem dX12_readsAct_39 : decode cX12_readsAct 39 = .ok (.aload_n 0, 1) := by decide +kernel
theorem dX12_readsAct_40 : decode cX12_readsAct 40 = .ok (.getfield 74, 3) := by decide +kernel
theorem dX12_readsAct_43 : decode cX12_readsAct 43 = .ok (.iload_n 1, 1) := by decide +kernel
theorem dX12_readsAct_44 : decode cX12_readsAct 44 = .ok (.aload_n 0, 1) := by decide +kernel
theorem dX12_readsAct_45 : decode cX12_readsAct 45 = .ok (.getfield 71, 3) := by decide +kernel
theorem dX12_readsAct_48 : decode cX12_readsAct 48 = .ok (.iload_n 1, 1) := by decide +kernel
theorem dX12_readsAct_49 : decode cX12_readsAct 49 = .ok (.iaload, 1) := by decide +kernel
theorem dX12_readsAct_50 : decode cX12_readsAct 50 = .ok (.iconst 2, 1) := by decide +kernel
theorem dX12_readsAct_51 : decode cX12_readsAct 51 = .ok (.if_icmp .ge 12, 3) := by decide +kernel
theorem dX12_readsAct_54 : decode cX12_readsAct 54 = .ok (.aload_n 0, 1) := by decide +kernel
theorem dX12_readsAct_55 : decode cX12_readsAct 55 = .ok (.ldc 181, 2) := by decide +kernel
theorem dX12_readsAct_57 : decode cX12_readsAct 57 = .ok (.invokevirtual 183, 3) := by decide +kernel
theorem dX12_readsAct_60 : decode cX12_readsAct 60 = .ok (.goto 22, 3) := by decide +kernel
theorem dX12_readsAct_63 : decode cX12_readsAct 63 = .ok (.aload_n 0, 1) := by decide +kernel
theorem dX12_readsAct_64 : decode cX12_readsAct 64 = .ok (.aload_n 0, 1) := by decide +kernel
theorem dX12_readsAct_65 : decode cX12_readsAct 65 = .ok (.getfield 71, 3) := by decide +kernel
theorem dX12_readsAct_68 : decode cX12_readsAct 68 = .ok (.iload_n 1, 1) := by decide +kernel
theorem dX12_readsAct_69 : decode cX12_readsAct 69 = .ok (.iaload, 1) := by decide +kernel
theorem dX12_readsAct_70 : decode cX12_readsAct 70 = .ok (.iconst 2, 1) := by decide +kernel
theorem dX12_readsAct_71 : decode cX12_readsAct 71 = .ok (.if_icmp .ne 7, 3) := by decide +kernel
theorem dX12_readsAct_74 : decode cX12_readsAct 74 = .ok (.iconst 2, 1) := by decide +kernel
theorem dX12_readsAct_75 : decode cX12_readsAct 75 = .ok (.goto 4, 3) := by decide +kernel
theorem dX12_readsAct_78 : decode cX12_readsAct 78 = .ok (.iconst 1, 1) := by decide +kernel
theorem dX12_readsAct_79 : decode cX12_readsAct 79 = .ok (.invokevirtual 238, 3) := by decide +kernel
theorem dX12_readsAct_82 : decode cX12_readsAct 82 = .ok (.iastore, 1) := by decide +kernel
theorem dX12_readsAct_83 : decode cX12_readsAct 83 = .ok (.aload_n 0, 1) := by decide +kernel
theorem dX12_readsAct_84 : decode cX12_readsAct 84 = .ok (.getfield 74, 3) := by decide +kernel
theorem dX12_readsAct_87 : decode cX12_readsAct 87 = .ok (.iload_n 1, 1) := by decide +kernel
theorem dX12_readsAct_88 : decode cX12_readsAct 88 = .ok (.iaload, 1) := by decide +kernel
theorem dX12_readsAct_89 : decode cX12_readsAct 89 = .ok (.ifCond .lt 23, 3) := by decide +kernel
theorem dX12_readsAct_92 : decode cX12_readsAct 92 = .ok (.aload_n 0, 1) := by decide +kernel
theorem dX12_readsAct_93 : decode cX12_readsAct 93 = .ok (.getfield 71, 3) := by decide +kernel
theorem dX12_readsAct_96 : decode cX12_readsAct 96 = .ok (.iload_n 1, 1) := by decide +kernel
theorem dX12_readsAct_97 : decode cX12_readsAct 97 = .ok (.iaload, 1) := by decide +kernel
theorem dX12_readsAct_98 : decode cX12_readsAct 98 = .ok (.iconst 1, 1) := by decide +kernel
theorem dX12_readsAct_99 : decode cX12_readsAct 99 = .ok (.if_icmp .eq 13, 3) := by decide +kernel
theorem dX12_readsAct_102 : decode cX12_readsAct 102 = .ok (.aload_n 0, 1) := by decide +kernel
theorem dX12_readsAct_103 : decode cX12_readsAct 103 = .ok (.getfield 71, 3) := by decide +kernel
theorem dX12_readsAct_106 : decode cX12_readsAct 106 = .ok (.iload_n 1, 1) := by decide +kernel
theorem dX12_readsAct_107 : decode cX12_readsAct 107 = .ok (.iaload, 1) := by decide +kernel
theorem dX12_readsAct_108 : decode cX12_readsAct 108 = .ok (.iconst 2, 1) := by decide +kernel
theorem dX12_readsAct_109 : decode cX12_readsAct 109 = .ok (.if_icmp .ne 18, 3) := by decide +kernel
theorem dX12_readsAct_112 : decode cX12_readsAct 112 = .ok (.aload_n 0, 1) := by decide +kernel
theorem dX12_readsAct_113 : decode cX12_readsAct 113 = .ok (.getfield 74, 3) := by decide +kernel
theorem dX12_readsAct_116 : decode cX12_readsAct 116 = .ok (.iload_n 1, 1) := by decide +kernel
theorem dX12_readsAct_117 : decode cX12_readsAct 117 = .ok (.iaload, 1) := by decide +kernel
theorem dX12_readsAct_118 : decode cX12_readsAct 118 = .ok (.ifCond .lt 7, 3) := by decide +kernel
theorem dX12_readsAct_121 : decode cX12_readsAct 121 = .ok (.iconst 1, 1) := by decide +kernel
theorem dX12_readsAct_122 : decode cX12_readsAct 122 = .ok (.goto 4, 3) := by decide +kernel
theorem dX12_readsAct_125 : decode cX12_readsAct 125 = .ok (.iconst 0, 1) := by decide +kernel
theorem dX12_readsAct_126 : decode cX12_readsAct 126 = .ok (.ireturn, 1) := by decide +kernel
theorem dX12_readsAct_127 : decode cX12_readsAct 127 = .ok (.aload_n 0, 1) := by decide +kernel
theorem dX12_readsAct_128 : decode cX12_readsAct 128 = .ok (.getfield 71, 3) := by decide +kernel
theorem dX12_readsAct_131 : decode cX12_readsAct 131 = .ok (.iload_n 1, 1) := by decide +kernel
theorem dX12_readsAct_132 : decode cX12_readsAct 132 = .ok (.iaload, 1) := by decide +kernel
theorem dX12_readsAct_133 : decode cX12_readsAct 133 = .ok (.iconst 3, 1) := by decide +kernel
theorem dX12_readsAct_134 : decode cX12_readsAct 134 = .ok (.if_icmp .ne 33, 3) := by decide +kernel
theorem dX12_readsAct_137 : decode cX12_readsAct 137 = .ok (.aload_n 0, 1) := by decide +kernel
theorem dX12_readsAct_138 : decode cX12_readsAct 138 = .ok (.getfield 77, 3) := by decide +kernel
theorem dX12_readsAct_141 : decode cX12_readsAct 141 = .ok (.iload_n 1, 1) := by decide +kernel
theorem dX12_readsAct_142 : decode cX12_readsAct 142 = .ok (.iconst 1, 1) := by decide +kernel
theorem dX12_readsAct_143 : decode cX12_readsAct 143 = .ok (.aload_n 0, 1) := by decide +kernel
theorem dX12_readsAct_144 : decode cX12_readsAct 144 = .ok (.ldc_w 363, 3) := by decide +kernel
theorem dX12_readsAct_147 : decode cX12_readsAct 147 = .ok (.invokevirtual 183, 3) := by decide +kernel
theorem dX12_readsAct_150 : decode cX12_readsAct 150 = .ok (.iadd, 1) := by decide +kernel
theorem dX12_readsAct_151 : decode cX12_readsAct 151 = .ok (.iastore, 1) := by decide +kernel
theorem dX12_readsAct_152 : decode cX12_readsAct 152 = .ok (.aload_n 0, 1) := by decide +kernel
theorem dX12_readsAct_153 : decode cX12_readsAct 153 = .ok (.getfield 77, 3) := by decide +kernel
theorem dX12_readsAct_156 : decode cX12_readsAct 156 = .ok (.iload_n 1, 1) := by decide +kernel
theorem dX12_readsAct_157 : decode cX12_readsAct 157 = .ok (.iaload, 1) := by decide +kernel
theorem dX12_readsAct_158 : decode cX12_readsAct 158 = .ok (.ifCond .le 7, 3) := by decide +kernel
theorem dX12_readsAct_161 : decode cX12_readsAct 161 = .ok (.iconst 1, 1) := by decide +kernel
theorem dX12_readsAct_162 : decode cX12_readsAct 162 = .ok (.goto 4, 3) := by decide +kernel
theorem dX12_readsAct_165 : decode cX12_readsAct 165 = .ok (.iconst 0, 1) := by decide +kernel
theorem dX12_readsAct_166 : decode cX12_readsAct 166 = .ok (.ireturn, 1) := by decide +kernel
theorem dX12_readsAct_167 : decode cX12_readsAct 167 = .ok (.aload_n 0, 1) := by decide +kernel
theorem dX12_readsAct_168 : decode cX12_readsAct 168 = .ok (.getfield 77, 3) := by decide +kernel
theorem dX12_readsAct_171 : decode cX12_readsAct 171 = .ok (.iload_n 1, 1) := by decide +kernel
theorem dX12_readsAct_172 : decode cX12_readsAct 172 = .ok (.aload_n 0, 1) := by decide +kernel
theorem dX12_readsAct_173 : decode cX12_readsAct 173 = .ok (.iconst 2, 1) := by decide +kernel
theorem dX12_readsAct_174 : decode cX12_readsAct 174 = .ok (.invokevirtual 238, 3) := by decide +kernel
theorem dX12_readsAct_177 : decode cX12_readsAct 177 = .ok (.iastore, 1) := by decide +kernel
theorem dX12_readsAct_178 : decode cX12_readsAct 178 = .ok (.aload_n 0, 1) := by decide +kernel
theorem dX12_readsAct_179 : decode cX12_readsAct 179 = .ok (.getfield 77, 3) := by decide +kernel
theorem dX12_readsAct_182 : decode cX12_readsAct 182 = .ok (.iload_n 1, 1) := by decide +kernel
theorem dX12_readsAct_183 : decode cX12_readsAct 183 = .ok (.iaload, 1) := by decide +kernel
theorem dX12_readsAct_184 : decode cX12_readsAct 184 = .ok (.ifCond .ge 5, 3) := by decide +kernel
theorem dX12_readsAct_187 : decode cX12_readsAct 187 = .ok (.iconst 0, 1) := by decide +kernel
theorem dX12_readsAct_188 : decode cX12_readsAct 188 = .ok (.ireturn, 1) := by decide +kernel
theorem dX12_readsAct_189 : decode cX12_readsAct 189 = .ok (.aload_n 0, 1) := by decide +kernel
theorem dX12_readsAct_190 : decode cX12_readsAct 190 = .ok (.getfield 80, 3) := by decide +kernel
theorem dX12_readsAct_193 : decode cX12_readsAct 193 = .ok (.iload_n 1, 1) := by decide +kernel
theorem dX12_readsAct_194 : decode cX12_readsAct 194 = .ok (.aload_n 0, 1) := by decide +kernel
theorem dX12_readsAct_195 : decode cX12_readsAct 195 = .ok (.bipush 43, 2) := by decide +kernel
theorem dX12_readsAct_197 : decode cX12_readsAct 197 = .ok (.invokevirtual 210, 3) := by decide +kernel
theorem dX12_readsAct_200 : decode cX12_readsAct 200 = .ok (.ifCond .eq 11, 3) := by decide +kernel
theorem dX12_readsAct_203 : decode cX12_readsAct 203 = .ok (.aload_n 0, 1) := by decide +kernel
theorem dX12_readsAct_204 : decode cX12_readsAct 204 = .ok (.iconst 1, 1) := by decide +kernel
theorem dX12_readsAct_205 : decode cX12_readsAct 205 = .ok (.invokevirtual 238, 3) := by decide +kernel
theorem dX12_readsAct_208 : decode cX12_readsAct 208 = .ok (.goto 4, 3) := by decide +kernel
theorem dX12_readsAct_211 : decode cX12_readsAct 211 = .ok (.iconst 0, 1) := by decide +kernel
theorem dX12_readsAct_212 : decode cX12_readsAct 212 = .ok (.iastore, 1) := by decide +kernel
theorem dX12_readsAct_213 : decode cX12_readsAct 213 = .ok (.aload_n 0, 1) := by decide +kernel
theorem dX12_readsAct_214 : decode cX12_readsAct 214 = .ok (.getfield 80, 3) := by decide +kernel
theorem dX12_readsAct_217 : decode cX12_readsAct 217 = .ok (.iload_n 1, 1) := by decide +kernel
theorem dX12_readsAct_218 : decode cX12_readsAct 218 = .ok (.iaload, 1) := by decide +kernel
theorem dX12_readsAct_219 : decode cX12_readsAct 219 = .ok (.ifCond .lt 7, 3) := by decide +kernel
theorem dX12_readsAct_222 : decode cX12_readsAct 222 = .ok (.iconst 1, 1) := by decide +kernel
theorem dX12_readsAct_223 : decode cX12_readsAct 223 = .ok (.goto 4, 3) := by decide +kernel
theorem dX12_readsAct_226 : decode cX12_readsAct 226 = .ok (.iconst 0, 1) := by decide +kernel
theorem dX12_readsAct_227 : decode cX12_readsAct 227 = .ok (.ireturn, 1) := by decide +kernel
theorem dX12_takes_0 : decode cX12_takes 0 = .ok (.aload_n 0, 1) := by decide +kernel
theorem dX12_takes_1 : decode cX12_takes 1 = .ok (.getfield 140, 3) := by decide +kernel
theorem dX12_takes_4 : decode cX12_takes 4 = .ok (.aload_n 0, 1) := by decide +kernel
theorem dX12_takes_5 : decode cX12_takes 5 = .ok (.getfield 152, 3) := by decide +kernel
theorem dX12_takes_8 : decode cX12_takes 8 = .ok (.if_icmp .ge 20, 3) := by decide +kernel
theorem dX12_takes_11 : decode cX12_takes 11 = .ok (.aload_n 0, 1) := by decide +kernel
theorem dX12_takes_12 : decode cX12_takes 12 = .ok (.getfield 35, 3) := by decide +kernel
theorem dX12_takes_15 : decode cX12_takes 15 = .ok (.aload_n 0, 1) := by decide +kernel
theorem dX12_takes_16 : decode cX12_takes 16 = .ok (.getfield 140, 3) := by decide +kernel
theorem dX12_takes_19 : decode cX12_takes 19 = .ok (.iaload, 1) := by decide +kernel
theorem dX12_takes_20 : decode cX12_takes 20 = .ok (.iload_n 1, 1) := by decide +kernel
theorem dX12_takes_21 : decode cX12_takes 21 = .ok (.if_icmp .ne 7, 3) := by decide +kernel
theorem dX12_takes_24 : decode cX12_takes 24 = .ok (.iconst 1, 1) := by decide +kernel
theorem dX12_takes_25 : decode cX12_takes 25 = .ok (.goto 4, 3) := by decide +kernel
theorem dX12_takes_28 : decode cX12_takes 28 = .ok (.iconst 0, 1) := by decide +kernel
theorem dX12_takes_29 : decode cX12_takes 29 = .ok (.istore_n 2, 1) := by decide +kernel
theorem dX12_takes_30 : decode cX12_takes 30 = .ok (.aload_n 0, 1) := by decide +kernel
theorem dX12_takes_31 : decode cX12_takes 31 = .ok (.dup, 1) := by decide +kernel
theorem dX12_takes_32 : decode cX12_takes 32 = .ok (.getfield 140, 3) := by decide +kernel
theorem dX12_takes_35 : decode cX12_takes 35 = .ok (.iload_n 2, 1) := by decide +kernel
theorem dX12_takes_36 : decode cX12_takes 36 = .ok (.invokestatic 155, 3) := by decide +kernel
theorem dX12_takes_39 : decode cX12_takes 39 = .ok (.iadd, 1) := by decide +kernel
theorem dX12_takes_40 : decode cX12_takes 40 = .ok (.putfield 140, 3) := by decide +kernel
theorem dX12_takes_43 : decode cX12_takes 43 = .ok (.iload_n 2, 1) := by decide +kernel
theorem dX12_takes_44 : decode cX12_takes 44 = .ok (.ireturn, 1) := by decide +kernel
theorem dX12_takesOf_0 : decode cX12_takesOf 0 = .ok (.aload_n 0, 1) := by decide +kernel
theorem dX12_takesOf_1 : decode cX12_takesOf 1 = .ok (.aload_n 1, 1) := by decide +kernel
theorem dX12_takesOf_2 : decode cX12_takesOf 2 = .ok (.invokevirtual 173, 3) := by decide +kernel
theorem dX12_takesOf_5 : decode cX12_takesOf 5 = .ok (.istore_n 2, 1) := by decide +kernel
theorem dX12_takesOf_6 : decode cX12_takesOf 6 = .ok (.aload_n 0, 1) := by decide +kernel
theorem dX12_takesOf_7 : decode cX12_takesOf 7 = .ok (.dup, 1) := by decide +kernel
theorem dX12_takesOf_8 : decode cX12_takesOf 8 = .ok (.getfield 140, 3) := by decide +kernel
theorem dX12_takesOf_11 : decode cX12_takesOf 11 = .ok (.iload_n 2, 1) := by decide +kernel
theorem dX12_takesOf_12 : decode cX12_takesOf 12 = .ok (.ifCond .lt 7, 3) := by decide +kernel
theorem dX12_takesOf_15 : decode cX12_takesOf 15 = .ok (.iconst 1, 1) := by decide +kernel
theorem dX12_takesOf_16 : decode cX12_takesOf 16 = .ok (.goto 4, 3) := by decide +kernel
theorem dX12_takesOf_19 : decode cX12_takesOf 19 = .ok (.iconst 0, 1) := by decide +kernel
theorem dX12_takesOf_20 : decode cX12_takesOf 20 = .ok (.invokestatic 155, 3) := by decide +kernel
theorem dX12_takesOf_23 : decode cX12_takesOf 23 = .ok (.iadd, 1) := by decide +kernel
theorem dX12_takesOf_24 : decode cX12_takesOf 24 = .ok (.putfield 140, 3) := by decide +kernel
theorem dX12_takesOf_27 : decode cX12_takesOf 27 = .ok (.iload_n 2, 1) := by decide +kernel
theorem dX12_takesOf_28 : decode cX12_takesOf 28 = .ok (.ireturn, 1) := by decide +kernel
theorem dX12_thoseHow_0 : decode cX12_thoseHow 0 = .ok (.iconst 0, 1) := by decide +kernel
theorem dX12_thoseHow_1 : decode cX12_thoseHow 1 = .ok (.istore_n 2, 1) := by decide +kernel
theorem dX12_thoseHow_2 : decode cX12_thoseHow 2 = .ok (.iconst 0, 1) := by decide +kernel
theorem dX12_thoseHow_3 : decode cX12_thoseHow 3 = .ok (.istore_n 3, 1) := by decide +kernel
theorem dX12_thoseHow_4 : decode cX12_thoseHow 4 = .ok (.iload_n 3, 1) := by decide +kernel
theorem dX12_thoseHow_5 : decode cX12_thoseHow 5 = .ok (.aload_n 0, 1) := by decide +kernel
theorem dX12_thoseHow_6 : decode cX12_thoseHow 6 = .ok (.bipush 44, 2) := by decide +kernel
theorem dX12_thoseHow_8 : decode cX12_thoseHow 8 = .ok (.iaload, 1) := by decide +kernel
theorem dX12_thoseHow_9 : decode cX12_thoseHow 9 = .ok (.if_icmp .ge 31, 3) := by decide +kernel
theorem dX12_thoseHow_12 : decode cX12_thoseHow 12 = .ok (.iload_n 2, 1) := by decide +kernel
theorem dX12_thoseHow_13 : decode cX12_thoseHow 13 = .ok (.aload_n 0, 1) := by decide +kernel
theorem dX12_thoseHow_14 : decode cX12_thoseHow 14 = .ok (.bipush 7, 2) := by decide +kernel
theorem dX12_thoseHow_16 : decode cX12_thoseHow 16 = .ok (.iload_n 3, 1) := by decide +kernel
theorem dX12_thoseHow_17 : decode cX12_thoseHow 17 = .ok (.imul, 1) := by decide +kernel
theorem dX12_thoseHow_18 : decode cX12_thoseHow 18 = .ok (.iconst 4, 1) := by decide +kernel
theorem dX12_thoseHow_19 : decode cX12_thoseHow 19 = .ok (.iadd, 1) := by decide +kernel
theorem dX12_thoseHow_20 : decode cX12_thoseHow 20 = .ok (.iaload, 1) := by decide +kernel
theorem dX12_thoseHow_21 : decode cX12_thoseHow 21 = .ok (.iload_n 1, 1) := by decide +kernel
theorem dX12_thoseHow_22 : decode cX12_thoseHow 22 = .ok (.if_icmp .ne 9, 3) := by decide +kernel
theorem dX12_thoseHow_25 : decode cX12_thoseHow 25 = .ok (.iconst 1, 1) := by decide +kernel
theorem dX12_thoseHow_26 : decode cX12_thoseHow 26 = .ok (.iload_n 3, 1) := by decide +kernel
theorem dX12_thoseHow_27 : decode cX12_thoseHow 27 = .ok (.ishl, 1) := by decide +kernel
theorem dX12_thoseHow_28 : decode cX12_thoseHow 28 = .ok (.goto 4, 3) := by decide +kernel
theorem dX12_thoseHow_31 : decode cX12_thoseHow 31 = .ok (.iconst 0, 1) := by decide +kernel
theorem dX12_thoseHow_32 : decode cX12_thoseHow 32 = .ok (.ior, 1) := by decide +kernel
theorem dX12_thoseHow_33 : decode cX12_thoseHow 33 = .ok (.istore_n 2, 1) := by decide +kernel
theorem dX12_thoseHow_34 : decode cX12_thoseHow 34 = .ok (.iinc 3 1, 3) := by decide +kernel
theorem dX12_thoseHow_37 : decode cX12_thoseHow 37 = .ok (.goto (-33), 3) := by decide +kernel
theorem dX12_thoseHow_40 : decode cX12_thoseHow 40 = .ok (.iload_n 2, 1) := by decide +kernel
theorem dX12_thoseHow_41 : decode cX12_thoseHow 41 = .ok (.ireturn, 1) := by decide +kernel
