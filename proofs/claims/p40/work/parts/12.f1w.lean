theorem mw_19 : (Cond.selects RX1 yX1_flowIn yX1_flowIn) ∈ gx_G := gx_mem 19 (by decide +kernel) (by decide +kernel)
theorem mw_20 : (Cond.selects RX1 yX1_step yX1_step) ∈ gx_G := gx_mem 20 (by decide +kernel) (by decide +kernel)
theorem mw_21 : (Cond.selects RX1 yX1_wayOf yX1_wayOf) ∈ gx_G := gx_mem 21 (by decide +kernel) (by decide +kernel)
theorem mw_22 : (Cond.selects RX1 yX1_pays yX1_pays) ∈ gx_G := gx_mem 22 (by decide +kernel) (by decide +kernel)
theorem mw_23 : (Cond.selects RX1 yX1_arrives yX1_arrives) ∈ gx_G := gx_mem 23 (by decide +kernel) (by decide +kernel)
theorem mw_26 : (Cond.selects RX2 yX2_add yX2_add) ∈ gx_G := gx_mem 26 (by decide +kernel) (by decide +kernel)
theorem mw_32 : (Cond.selects RX11 yX11_sailed yX11_sailed) ∈ gx_G := gx_mem 32 (by decide +kernel) (by decide +kernel)
theorem mw_89 : (Cond.initialized RX11) ∈ gx_G := gx_mem 89 (by decide +kernel) (by decide +kernel)
theorem mw_94 : (Cond.initialized RX2) ∈ gx_G := gx_mem 94 (by decide +kernel) (by decide +kernel)
theorem mw_98 : (Cond.initialized RX4) ∈ gx_G := gx_mem 98 (by decide +kernel) (by decide +kernel)
theorem mw_99 : (Cond.initialized RX1) ∈ gx_G := gx_mem 99 (by decide +kernel) (by decide +kernel)
theorem mw_100 : (Cond.initialized RX9) ∈ gx_G := gx_mem 100 (by decide +kernel) (by decide +kernel)
theorem mw_103 : (Cond.initialized RJ0) ∈ gx_G := gx_mem 103 (by decide +kernel) (by decide +kernel)
theorem mw_104 : (Cond.initialized RJ1) ∈ gx_G := gx_mem 104 (by decide +kernel) (by decide +kernel)
theorem mw_106 : (Cond.initialized RJ3) ∈ gx_G := gx_mem 106 (by decide +kernel) (by decide +kernel)
theorem mw_132 : (Cond.fieldLink RX11 107 "DownTheGutter$Signs" "length" "I") ∈ gx_G := gx_mem 132 (by decide +kernel) (by decide +kernel)
theorem mw_154 : (Cond.fieldLink RX8 31 "DownTheGutter$Town" "size" "I") ∈ gx_G := gx_mem 154 (by decide +kernel) (by decide +kernel)
theorem mw_155 : (Cond.fieldLink RX11 323 "DownTheGutter$Town" "size" "I") ∈ gx_G := gx_mem 155 (by decide +kernel) (by decide +kernel)
theorem mw_158 : (Cond.fieldLink RX11 375 "DownTheGutter$Town" "forks" "I") ∈ gx_G := gx_mem 158 (by decide +kernel) (by decide +kernel)
theorem mw_242 : (Cond.fieldLink RX2 9 "DownTheGutter$Diary" "kinds" "[I") ∈ gx_G := gx_mem 242 (by decide +kernel) (by decide +kernel)
theorem mw_243 : (Cond.fieldLink RX2 13 "DownTheGutter$Diary" "firsts" "[I") ∈ gx_G := gx_mem 243 (by decide +kernel) (by decide +kernel)
theorem mw_244 : (Cond.fieldLink RX2 16 "DownTheGutter$Diary" "seconds" "[I") ∈ gx_G := gx_mem 244 (by decide +kernel) (by decide +kernel)
theorem mw_245 : (Cond.fieldLink RX2 19 "DownTheGutter$Diary" "thirds" "[I") ∈ gx_G := gx_mem 245 (by decide +kernel) (by decide +kernel)
theorem mw_246 : (Cond.fieldLink RX2 22 "DownTheGutter$Diary" "acts" "I") ∈ gx_G := gx_mem 246 (by decide +kernel) (by decide +kernel)
theorem mw_271 : (Cond.fieldLink RX1 60 "DownTheGutter$Scene" "things" "I") ∈ gx_G := gx_mem 271 (by decide +kernel) (by decide +kernel)
theorem mw_272 : (Cond.fieldLink RX11 208 "DownTheGutter$Scene" "things" "I") ∈ gx_G := gx_mem 272 (by decide +kernel) (by decide +kernel)
theorem mw_276 : (Cond.fieldLink RX11 157 "DownTheGutter$Scene" "planks" "I") ∈ gx_G := gx_mem 276 (by decide +kernel) (by decide +kernel)
theorem mw_280 : (Cond.fieldLink RX11 324 "DownTheGutter$Scene" "now" "I") ∈ gx_G := gx_mem 280 (by decide +kernel) (by decide +kernel)
theorem mw_282 : (Cond.fieldLink RX9 92 "DownTheGutter$Scene" "home" "I") ∈ gx_G := gx_mem 282 (by decide +kernel) (by decide +kernel)
theorem mw_283 : (Cond.fieldLink RX11 247 "DownTheGutter$Scene" "home" "I") ∈ gx_G := gx_mem 283 (by decide +kernel) (by decide +kernel)
theorem mw_285 : (Cond.fieldLink RX9 89 "DownTheGutter$Scene" "lost" "I") ∈ gx_G := gx_mem 285 (by decide +kernel) (by decide +kernel)
theorem mw_286 : (Cond.fieldLink RX11 250 "DownTheGutter$Scene" "lost" "I") ∈ gx_G := gx_mem 286 (by decide +kernel) (by decide +kernel)
theorem mw_322 : (Cond.fieldLink RX11 287 "DownTheGutter$Past" "size" "I") ∈ gx_G := gx_mem 322 (by decide +kernel) (by decide +kernel)
theorem mw_340 : (Cond.fieldLink RX11 126 "DownTheGutter$Corks" "told" "I") ∈ gx_G := gx_mem 340 (by decide +kernel) (by decide +kernel)
theorem mw_356 : (Cond.fieldLink RX4 9 "DownTheGutter$Row" "numbers" "[J") ∈ gx_G := gx_mem 356 (by decide +kernel) (by decide +kernel)
theorem mw_357 : (Cond.fieldLink RX4 13 "DownTheGutter$Row" "size" "I") ∈ gx_G := gx_mem 357 (by decide +kernel) (by decide +kernel)
theorem mw_358 : (Cond.fieldLink RX11 423 "DownTheGutter$Row" "size" "I") ∈ gx_G := gx_mem 358 (by decide +kernel) (by decide +kernel)
theorem mw_379 : (Cond.fieldLink RX1 96 "DownTheGutter$Current" "steps" "I") ∈ gx_G := gx_mem 379 (by decide +kernel) (by decide +kernel)
theorem mw_426 : (Cond.fieldLink RX11 297 "DownTheGutter$Trials" "scene" "LDownTheGutter$Scene;") ∈ gx_G := gx_mem 426 (by decide +kernel) (by decide +kernel)
theorem mw_447 : (Cond.fieldLink RX11 12 "DownTheGutter" "text" "LDownTheGutter$Signs;") ∈ gx_G := gx_mem 447 (by decide +kernel) (by decide +kernel)
theorem mw_448 : (Cond.fieldLink RX11 19 "DownTheGutter" "town" "LDownTheGutter$Town;") ∈ gx_G := gx_mem 448 (by decide +kernel) (by decide +kernel)
theorem mw_459 : (Cond.fieldLink RX11 74 "DownTheGutter" "corks" "LDownTheGutter$Corks;") ∈ gx_G := gx_mem 459 (by decide +kernel) (by decide +kernel)
theorem mw_460 : (Cond.fieldLink RX11 81 "DownTheGutter" "row" "LDownTheGutter$Row;") ∈ gx_G := gx_mem 460 (by decide +kernel) (by decide +kernel)
theorem mw_462 : (Cond.fieldLink RX11 99 "DownTheGutter" "trials" "LDownTheGutter$Trials;") ∈ gx_G := gx_mem 462 (by decide +kernel) (by decide +kernel)
theorem mw_548 : (Cond.methodLink RX7 32 yJ0_indexOf_0f7a4) ∈ gx_G := gx_mem 548 (by decide +kernel) (by decide +kernel)
theorem mw_549 : (Cond.instanceMethod yJ0_indexOf_0f7a4) ∈ gx_G := gx_mem 549 (by decide +kernel) (by decide +kernel)
theorem mw_550 : (Cond.selects RJ0 yJ0_indexOf_0f7a4 yJ0_indexOf_0f7a4) ∈ gx_G := gx_mem 550 (by decide +kernel) (by decide +kernel)
theorem mw_551 : (Cond.code yJ0_indexOf_0f7a4 cJ0_indexOf_0f7a4 2 (some .int)) ∈ gx_G := gx_mem 551 (by decide +kernel) (by decide +kernel)
theorem mw_552 : (Cond.methodLink RJ0 633 yJ0_indexOf_7cf53) ∈ gx_G := gx_mem 552 (by decide +kernel) (by decide +kernel)
theorem mw_553 : (Cond.instanceMethod yJ0_indexOf_7cf53) ∈ gx_G := gx_mem 553 (by decide +kernel) (by decide +kernel)
theorem mw_554 : (Cond.selects RJ0 yJ0_indexOf_7cf53 yJ0_indexOf_7cf53) ∈ gx_G := gx_mem 554 (by decide +kernel) (by decide +kernel)
theorem mw_555 : (Cond.code yJ0_indexOf_7cf53 cJ0_indexOf_7cf53 3 (some .int)) ∈ gx_G := gx_mem 555 (by decide +kernel) (by decide +kernel)
theorem mw_556 : (Cond.methodLink RJ0 492 yJ0_isLatin1_aae02) ∈ gx_G := gx_mem 556 (by decide +kernel) (by decide +kernel)
theorem mw_557 : (Cond.instanceMethod yJ0_isLatin1_aae02) ∈ gx_G := gx_mem 557 (by decide +kernel) (by decide +kernel)
theorem mw_558 : (Cond.selects RJ0 yJ0_isLatin1_aae02 yJ0_isLatin1_aae02) ∈ gx_G := gx_mem 558 (by decide +kernel) (by decide +kernel)
theorem mw_559 : (Cond.code yJ0_isLatin1_aae02 cJ0_isLatin1_aae02 1 (some .boolean)) ∈ gx_G := gx_mem 559 (by decide +kernel) (by decide +kernel)
theorem mw_560 : (Cond.fieldLink RJ0 38 "java/lang/String" "COMPACT_STRINGS" "Z") ∈ gx_G := gx_mem 560 (by decide +kernel) (by decide +kernel)
theorem mw_562 : (Cond.methodLink RJ0 505 yJ0_length_8abf5) ∈ gx_G := gx_mem 562 (by decide +kernel) (by decide +kernel)
theorem mw_563 : (Cond.instanceMethod yJ0_length_8abf5) ∈ gx_G := gx_mem 563 (by decide +kernel) (by decide +kernel)
theorem mw_564 : (Cond.selects RJ0 yJ0_length_8abf5 yJ0_length_8abf5) ∈ gx_G := gx_mem 564 (by decide +kernel) (by decide +kernel)
theorem mw_565 : (Cond.code yJ0_length_8abf5 cJ0_length_8abf5 1 (some .int)) ∈ gx_G := gx_mem 565 (by decide +kernel) (by decide +kernel)
theorem mw_566 : (Cond.methodLink RJ0 335 yJ0_coder_7d493) ∈ gx_G := gx_mem 566 (by decide +kernel) (by decide +kernel)
theorem mw_567 : (Cond.instanceMethod yJ0_coder_7d493) ∈ gx_G := gx_mem 567 (by decide +kernel) (by decide +kernel)
theorem mw_568 : (Cond.selects RJ0 yJ0_coder_7d493 yJ0_coder_7d493) ∈ gx_G := gx_mem 568 (by decide +kernel) (by decide +kernel)
theorem mw_569 : (Cond.code yJ0_coder_7d493 cJ0_coder_7d493 1 (some .byte)) ∈ gx_G := gx_mem 569 (by decide +kernel) (by decide +kernel)
theorem mw_570 : (Cond.methodLink RJ0 637 yJ1_indexOf_4cfef) ∈ gx_G := gx_mem 570 (by decide +kernel) (by decide +kernel)
theorem mw_571 : (Cond.static yJ1_indexOf_4cfef) ∈ gx_G := gx_mem 571 (by decide +kernel) (by decide +kernel)
theorem mw_572 : (Cond.code yJ1_indexOf_4cfef cJ1_indexOf_4cfef 4 (some .int)) ∈ gx_G := gx_mem 572 (by decide +kernel) (by decide +kernel)
theorem mw_573 : (Cond.methodLink RJ1 88 yJ1_canEncode_9a6ad) ∈ gx_G := gx_mem 573 (by decide +kernel) (by decide +kernel)
theorem mw_574 : (Cond.static yJ1_canEncode_9a6ad) ∈ gx_G := gx_mem 574 (by decide +kernel) (by decide +kernel)
theorem mw_575 : (Cond.code yJ1_canEncode_9a6ad cJ1_canEncode_9a6ad 1 (some .boolean)) ∈ gx_G := gx_mem 575 (by decide +kernel) (by decide +kernel)
theorem mw_576 : (Cond.methodLink RJ1 92 Lib.Math.max.name) ∈ gx_G := gx_mem 576 (by decide +kernel) (by decide +kernel)
theorem mw_577 : (Cond.static Lib.Math.max.name) ∈ gx_G := gx_mem 577 (by decide +kernel) (by decide +kernel)
theorem mw_578 : (Cond.code Lib.Math.max.name Lib.Math.max.code 2 (some .int)) ∈ gx_G := gx_mem 578 (by decide +kernel) (by decide +kernel)
theorem mw_579 : (Cond.methodLink RJ1 38 Lib.Math.min.name) ∈ gx_G := gx_mem 579 (by decide +kernel) (by decide +kernel)
theorem mw_580 : (Cond.methodLink RJ1 95 yJ1_indexOfChar_4cfef) ∈ gx_G := gx_mem 580 (by decide +kernel) (by decide +kernel)
theorem mw_581 : (Cond.static yJ1_indexOfChar_4cfef) ∈ gx_G := gx_mem 581 (by decide +kernel) (by decide +kernel)
theorem mw_582 : (Cond.code yJ1_indexOfChar_4cfef cJ1_indexOfChar_4cfef 6 (some .int)) ∈ gx_G := gx_mem 582 (by decide +kernel) (by decide +kernel)
theorem mw_601 : (Cond.fieldLink RJ0 1053 "jdk/internal/util/Preconditions" "SIOOBE_FORMATTER" "Ljava/util/function/BiFunction;") ∈ gx_G := gx_mem 601 (by decide +kernel) (by decide +kernel)
theorem mw_603 : (Cond.methodLink RJ0 1062 yJ3_checkFromToIndex_8c36e) ∈ gx_G := gx_mem 603 (by decide +kernel) (by decide +kernel)
theorem mw_604 : (Cond.static yJ3_checkFromToIndex_8c36e) ∈ gx_G := gx_mem 604 (by decide +kernel) (by decide +kernel)
theorem mw_605 : (Cond.code yJ3_checkFromToIndex_8c36e cJ3_checkFromToIndex_8c36e 4 (some .int)) ∈ gx_G := gx_mem 605 (by decide +kernel) (by decide +kernel)
theorem mw_637 : (Cond.instanceMethod yX7_letter) ∈ gx_G := gx_mem 637 (by decide +kernel) (by decide +kernel)
theorem mw_638 : (Cond.selects RX7 yX7_letter yX7_letter) ∈ gx_G := gx_mem 638 (by decide +kernel) (by decide +kernel)
theorem mw_639 : (Cond.code yX7_letter cX7_letter 3 (some .int)) ∈ gx_G := gx_mem 639 (by decide +kernel) (by decide +kernel)
theorem mw_665 : (Cond.instanceMethod yX7_hasSign) ∈ gx_G := gx_mem 665 (by decide +kernel) (by decide +kernel)
theorem mw_666 : (Cond.selects RX7 yX7_hasSign yX7_hasSign) ∈ gx_G := gx_mem 666 (by decide +kernel) (by decide +kernel)
theorem mw_667 : (Cond.code yX7_hasSign cX7_hasSign 3 (some .boolean)) ∈ gx_G := gx_mem 667 (by decide +kernel) (by decide +kernel)
theorem mw_789 : (Cond.methodLink RX11 224 Lib.Math.max.name) ∈ gx_G := gx_mem 789 (by decide +kernel) (by decide +kernel)
theorem mw_791 : (Cond.instanceMethod yX6_setPaper) ∈ gx_G := gx_mem 791 (by decide +kernel) (by decide +kernel)
theorem mw_792 : (Cond.selects RX6 yX6_setPaper yX6_setPaper) ∈ gx_G := gx_mem 792 (by decide +kernel) (by decide +kernel)
theorem mw_793 : (Cond.code yX6_setPaper cX6_setPaper 3 none) ∈ gx_G := gx_mem 793 (by decide +kernel) (by decide +kernel)
theorem mw_798 : (Cond.methodLink RX11 137 yX8_has) ∈ gx_G := gx_mem 798 (by decide +kernel) (by decide +kernel)
theorem mw_799 : (Cond.instanceMethod yX8_has) ∈ gx_G := gx_mem 799 (by decide +kernel) (by decide +kernel)
theorem mw_800 : (Cond.selects RX8 yX8_has yX8_has) ∈ gx_G := gx_mem 800 (by decide +kernel) (by decide +kernel)
theorem mw_801 : (Cond.code yX8_has cX8_has 2 (some .boolean)) ∈ gx_G := gx_mem 801 (by decide +kernel) (by decide +kernel)
theorem mw_802 : (Cond.methodLink RX11 227 yX11_isLoad) ∈ gx_G := gx_mem 802 (by decide +kernel) (by decide +kernel)
theorem mw_803 : (Cond.static yX11_isLoad) ∈ gx_G := gx_mem 803 (by decide +kernel) (by decide +kernel)
theorem mw_804 : (Cond.code yX11_isLoad cX11_isLoad 2 (some .boolean)) ∈ gx_G := gx_mem 804 (by decide +kernel) (by decide +kernel)
theorem mw_808 : (Cond.methodLink RX11 234 yX8_isKitchen) ∈ gx_G := gx_mem 808 (by decide +kernel) (by decide +kernel)
theorem mw_825 : (Cond.instanceMethod yX6_isOnWay) ∈ gx_G := gx_mem 825 (by decide +kernel) (by decide +kernel)
theorem mw_826 : (Cond.selects RX6 yX6_isOnWay yX6_isOnWay) ∈ gx_G := gx_mem 826 (by decide +kernel) (by decide +kernel)
theorem mw_827 : (Cond.code yX6_isOnWay cX6_isOnWay 2 (some .boolean)) ∈ gx_G := gx_mem 827 (by decide +kernel) (by decide +kernel)
theorem mw_842 : (Cond.instanceMethod yX1_pass) ∈ gx_G := gx_mem 842 (by decide +kernel) (by decide +kernel)
theorem mw_843 : (Cond.selects RX1 yX1_pass yX1_pass) ∈ gx_G := gx_mem 843 (by decide +kernel) (by decide +kernel)
theorem mw_844 : (Cond.code yX1_pass cX1_pass 6 none) ∈ gx_G := gx_mem 844 (by decide +kernel) (by decide +kernel)
theorem mw_845 : (Cond.methodLink RX1 57 yX1_flowIn) ∈ gx_G := gx_mem 845 (by decide +kernel) (by decide +kernel)
theorem mw_847 : (Cond.instanceMethod yX1_flowIn) ∈ gx_G := gx_mem 847 (by decide +kernel) (by decide +kernel)
theorem mw_848 : (Cond.code yX1_flowIn cX1_flowIn 5 (some .int)) ∈ gx_G := gx_mem 848 (by decide +kernel) (by decide +kernel)
theorem mw_851 : (Cond.methodLink RX1 63 yX6_isAfloat) ∈ gx_G := gx_mem 851 (by decide +kernel) (by decide +kernel)
theorem mw_852 : (Cond.instanceMethod yX6_isAfloat) ∈ gx_G := gx_mem 852 (by decide +kernel) (by decide +kernel)
theorem mw_853 : (Cond.selects RX6 yX6_isAfloat yX6_isAfloat) ∈ gx_G := gx_mem 853 (by decide +kernel) (by decide +kernel)
theorem mw_854 : (Cond.code yX6_isAfloat cX6_isAfloat 3 (some .boolean)) ∈ gx_G := gx_mem 854 (by decide +kernel) (by decide +kernel)
theorem mw_855 : (Cond.methodLink RX1 67 yX1_step) ∈ gx_G := gx_mem 855 (by decide +kernel) (by decide +kernel)
theorem mw_857 : (Cond.instanceMethod yX1_step) ∈ gx_G := gx_mem 857 (by decide +kernel) (by decide +kernel)
theorem mw_858 : (Cond.code yX1_step cX1_step 9 (some .boolean)) ∈ gx_G := gx_mem 858 (by decide +kernel) (by decide +kernel)
theorem mw_859 : (Cond.methodLink RX1 71 yX6_spotOf) ∈ gx_G := gx_mem 859 (by decide +kernel) (by decide +kernel)
theorem mw_860 : (Cond.instanceMethod yX6_spotOf) ∈ gx_G := gx_mem 860 (by decide +kernel) (by decide +kernel)
theorem mw_861 : (Cond.selects RX6 yX6_spotOf yX6_spotOf) ∈ gx_G := gx_mem 861 (by decide +kernel) (by decide +kernel)
theorem mw_862 : (Cond.code yX6_spotOf cX6_spotOf 2 (some .int)) ∈ gx_G := gx_mem 862 (by decide +kernel) (by decide +kernel)
theorem mw_863 : (Cond.methodLink RX1 74 yX8_figureOf) ∈ gx_G := gx_mem 863 (by decide +kernel) (by decide +kernel)
theorem mw_864 : (Cond.instanceMethod yX8_figureOf) ∈ gx_G := gx_mem 864 (by decide +kernel) (by decide +kernel)
theorem mw_865 : (Cond.selects RX8 yX8_figureOf yX8_figureOf) ∈ gx_G := gx_mem 865 (by decide +kernel) (by decide +kernel)
theorem mw_866 : (Cond.code yX8_figureOf cX8_figureOf 2 (some .int)) ∈ gx_G := gx_mem 866 (by decide +kernel) (by decide +kernel)
theorem mw_871 : (Cond.methodLink RX1 82 yX8_kindOf) ∈ gx_G := gx_mem 871 (by decide +kernel) (by decide +kernel)
theorem mw_872 : (Cond.instanceMethod yX8_kindOf) ∈ gx_G := gx_mem 872 (by decide +kernel) (by decide +kernel)
theorem mw_873 : (Cond.selects RX8 yX8_kindOf yX8_kindOf) ∈ gx_G := gx_mem 873 (by decide +kernel) (by decide +kernel)
theorem mw_874 : (Cond.code yX8_kindOf cX8_kindOf 2 (some .int)) ∈ gx_G := gx_mem 874 (by decide +kernel) (by decide +kernel)
theorem mw_875 : (Cond.methodLink RX1 85 yX1_wayOf) ∈ gx_G := gx_mem 875 (by decide +kernel) (by decide +kernel)
theorem mw_877 : (Cond.instanceMethod yX1_wayOf) ∈ gx_G := gx_mem 877 (by decide +kernel) (by decide +kernel)
theorem mw_878 : (Cond.code yX1_wayOf cX1_wayOf 7 (some .int)) ∈ gx_G := gx_mem 878 (by decide +kernel) (by decide +kernel)
theorem mw_905 : (Cond.methodLink RX1 89 yX1_pays) ∈ gx_G := gx_mem 905 (by decide +kernel) (by decide +kernel)
theorem mw_907 : (Cond.instanceMethod yX1_pays) ∈ gx_G := gx_mem 907 (by decide +kernel) (by decide +kernel)
theorem mw_908 : (Cond.code yX1_pays cX1_pays 5 (some .boolean)) ∈ gx_G := gx_mem 908 (by decide +kernel) (by decide +kernel)
theorem mw_913 : (Cond.methodLink RX1 92 yX6_lose) ∈ gx_G := gx_mem 913 (by decide +kernel) (by decide +kernel)
theorem mw_914 : (Cond.instanceMethod yX6_lose) ∈ gx_G := gx_mem 914 (by decide +kernel) (by decide +kernel)
theorem mw_915 : (Cond.selects RX6 yX6_lose yX6_lose) ∈ gx_G := gx_mem 915 (by decide +kernel) (by decide +kernel)
theorem mw_916 : (Cond.code yX6_lose cX6_lose 2 none) ∈ gx_G := gx_mem 916 (by decide +kernel) (by decide +kernel)
theorem mw_917 : (Cond.methodLink RX1 99 yX1_arrives) ∈ gx_G := gx_mem 917 (by decide +kernel) (by decide +kernel)
theorem mw_919 : (Cond.instanceMethod yX1_arrives) ∈ gx_G := gx_mem 919 (by decide +kernel) (by decide +kernel)
theorem mw_920 : (Cond.code yX1_arrives cX1_arrives 6 (some .boolean)) ∈ gx_G := gx_mem 920 (by decide +kernel) (by decide +kernel)
theorem mw_921 : (Cond.methodLink RX1 143 Lib.Math.max.name) ∈ gx_G := gx_mem 921 (by decide +kernel) (by decide +kernel)
theorem mw_922 : (Cond.methodLink RX1 146 yX6_setPaper) ∈ gx_G := gx_mem 922 (by decide +kernel) (by decide +kernel)
theorem mw_923 : (Cond.methodLink RX1 149 yX6_move) ∈ gx_G := gx_mem 923 (by decide +kernel) (by decide +kernel)
theorem mw_924 : (Cond.instanceMethod yX6_move) ∈ gx_G := gx_mem 924 (by decide +kernel) (by decide +kernel)
theorem mw_925 : (Cond.selects RX6 yX6_move yX6_move) ∈ gx_G := gx_mem 925 (by decide +kernel) (by decide +kernel)
theorem mw_926 : (Cond.code yX6_move cX6_move 3 none) ∈ gx_G := gx_mem 926 (by decide +kernel) (by decide +kernel)
theorem mw_927 : (Cond.methodLink RX1 152 yX8_isKitchen) ∈ gx_G := gx_mem 927 (by decide +kernel) (by decide +kernel)
theorem mw_928 : (Cond.methodLink RX1 155 yX6_comeHome) ∈ gx_G := gx_mem 928 (by decide +kernel) (by decide +kernel)
theorem mw_929 : (Cond.methodLink RX11 257 yX4_tell_) ∈ gx_G := gx_mem 929 (by decide +kernel) (by decide +kernel)
theorem mw_930 : (Cond.instanceMethod yX4_tell_) ∈ gx_G := gx_mem 930 (by decide +kernel) (by decide +kernel)
theorem mw_931 : (Cond.selects RX4 yX4_tell_ yX4_tell_) ∈ gx_G := gx_mem 931 (by decide +kernel) (by decide +kernel)
theorem mw_932 : (Cond.code yX4_tell_ cX4_tell_ 5 none) ∈ gx_G := gx_mem 932 (by decide +kernel) (by decide +kernel)
theorem mw_954 : (Cond.methodLink RX2 65 yX7_letter) ∈ gx_G := gx_mem 954 (by decide +kernel) (by decide +kernel)
theorem mw_955 : (Cond.methodLink RX2 69 yX2_behindNumber) ∈ gx_G := gx_mem 955 (by decide +kernel) (by decide +kernel)
theorem mw_956 : (Cond.static yX2_behindNumber) ∈ gx_G := gx_mem 956 (by decide +kernel) (by decide +kernel)
theorem mw_957 : (Cond.code yX2_behindNumber cX2_behindNumber 2 (some .int)) ∈ gx_G := gx_mem 957 (by decide +kernel) (by decide +kernel)
theorem mw_958 : (Cond.methodLink RX2 80 yX7_digit) ∈ gx_G := gx_mem 958 (by decide +kernel) (by decide +kernel)
theorem mw_959 : (Cond.methodLink RX2 72 yX2_numberAt) ∈ gx_G := gx_mem 959 (by decide +kernel) (by decide +kernel)
theorem mw_960 : (Cond.static yX2_numberAt) ∈ gx_G := gx_mem 960 (by decide +kernel) (by decide +kernel)
theorem mw_961 : (Cond.code yX2_numberAt cX2_numberAt 4 (some .int)) ∈ gx_G := gx_mem 961 (by decide +kernel) (by decide +kernel)
theorem mw_962 : (Cond.methodLink RX2 43 yX7_hasSign) ∈ gx_G := gx_mem 962 (by decide +kernel) (by decide +kernel)
theorem mw_963 : (Cond.methodLink RX2 76 yX2_add) ∈ gx_G := gx_mem 963 (by decide +kernel) (by decide +kernel)
theorem mw_965 : (Cond.instanceMethod yX2_add) ∈ gx_G := gx_mem 965 (by decide +kernel) (by decide +kernel)
theorem mw_966 : (Cond.code yX2_add cX2_add 5 none) ∈ gx_G := gx_mem 966 (by decide +kernel) (by decide +kernel)
theorem mw_1016 : (Cond.methodLink RX11 172 yX6_has) ∈ gx_G := gx_mem 1016 (by decide +kernel) (by decide +kernel)
theorem mw_1017 : (Cond.instanceMethod yX6_has) ∈ gx_G := gx_mem 1017 (by decide +kernel) (by decide +kernel)
theorem mw_1018 : (Cond.selects RX6 yX6_has yX6_has) ∈ gx_G := gx_mem 1018 (by decide +kernel) (by decide +kernel)
theorem mw_1019 : (Cond.code yX6_has cX6_has 2 (some .boolean)) ∈ gx_G := gx_mem 1019 (by decide +kernel) (by decide +kernel)
theorem mw_1029 : (Cond.instanceMethod yX6_onWay) ∈ gx_G := gx_mem 1029 (by decide +kernel) (by decide +kernel)
theorem mw_1030 : (Cond.selects RX6 yX6_onWay yX6_onWay) ∈ gx_G := gx_mem 1030 (by decide +kernel) (by decide +kernel)
theorem mw_1031 : (Cond.code yX6_onWay cX6_onWay 1 (some .int)) ∈ gx_G := gx_mem 1031 (by decide +kernel) (by decide +kernel)
theorem mw_1032 : (Cond.methodLink RX9 105 yX1_pass) ∈ gx_G := gx_mem 1032 (by decide +kernel) (by decide +kernel)
theorem mw_1033 : (Cond.methodLink RX11 187 yX6_fateOf) ∈ gx_G := gx_mem 1033 (by decide +kernel) (by decide +kernel)
theorem mw_1034 : (Cond.instanceMethod yX6_fateOf) ∈ gx_G := gx_mem 1034 (by decide +kernel) (by decide +kernel)
theorem mw_1035 : (Cond.selects RX6 yX6_fateOf yX6_fateOf) ∈ gx_G := gx_mem 1035 (by decide +kernel) (by decide +kernel)
theorem mw_1036 : (Cond.code yX6_fateOf cX6_fateOf 2 (some .int)) ∈ gx_G := gx_mem 1036 (by decide +kernel) (by decide +kernel)
theorem mw_1043 : (Cond.methodLink RX11 175 yX6_spotOf) ∈ gx_G := gx_mem 1043 (by decide +kernel) (by decide +kernel)
theorem mw_1048 : (Cond.methodLink RX11 303 yX9_settle) ∈ gx_G := gx_mem 1048 (by decide +kernel) (by decide +kernel)
theorem mw_1049 : (Cond.instanceMethod yX9_settle) ∈ gx_G := gx_mem 1049 (by decide +kernel) (by decide +kernel)
theorem mw_1050 : (Cond.selects RX9 yX9_settle yX9_settle) ∈ gx_G := gx_mem 1050 (by decide +kernel) (by decide +kernel)
theorem mw_1051 : (Cond.code yX9_settle cX9_settle 4 (some .int)) ∈ gx_G := gx_mem 1051 (by decide +kernel) (by decide +kernel)
theorem mw_1052 : (Cond.methodLink RX9 112 yX6_isOnWay) ∈ gx_G := gx_mem 1052 (by decide +kernel) (by decide +kernel)
theorem mw_1053 : (Cond.methodLink RX11 184 yX6_trailOf) ∈ gx_G := gx_mem 1053 (by decide +kernel) (by decide +kernel)
theorem mw_1054 : (Cond.instanceMethod yX6_trailOf) ∈ gx_G := gx_mem 1054 (by decide +kernel) (by decide +kernel)
theorem mw_1055 : (Cond.selects RX6 yX6_trailOf yX6_trailOf) ∈ gx_G := gx_mem 1055 (by decide +kernel) (by decide +kernel)
theorem mw_1056 : (Cond.code yX6_trailOf cX6_trailOf 2 (some .int)) ∈ gx_G := gx_mem 1056 (by decide +kernel) (by decide +kernel)
theorem mw_1057 : (Cond.methodLink RX11 307 yX4_tell) ∈ gx_G := gx_mem 1057 (by decide +kernel) (by decide +kernel)
theorem mw_1058 : (Cond.instanceMethod yX4_tell) ∈ gx_G := gx_mem 1058 (by decide +kernel) (by decide +kernel)
theorem mw_1059 : (Cond.selects RX4 yX4_tell yX4_tell) ∈ gx_G := gx_mem 1059 (by decide +kernel) (by decide +kernel)
theorem mw_1060 : (Cond.code yX4_tell cX4_tell 3 none) ∈ gx_G := gx_mem 1060 (by decide +kernel) (by decide +kernel)
theorem mw_1065 : (Cond.methodLink RX11 166 yX6_onWay) ∈ gx_G := gx_mem 1065 (by decide +kernel) (by decide +kernel)
theorem mw_1077 : (Cond.methodLink RX11 313 yX11_sailed) ∈ gx_G := gx_mem 1077 (by decide +kernel) (by decide +kernel)
theorem mw_1079 : (Cond.instanceMethod yX11_sailed) ∈ gx_G := gx_mem 1079 (by decide +kernel) (by decide +kernel)
theorem mw_1080 : (Cond.code yX11_sailed cX11_sailed 5 (some .int)) ∈ gx_G := gx_mem 1080 (by decide +kernel) (by decide +kernel)
theorem mw_1081 : (Cond.methodLink RX11 327 yX9_thinkOf) ∈ gx_G := gx_mem 1081 (by decide +kernel) (by decide +kernel)
theorem mw_1082 : (Cond.instanceMethod yX9_thinkOf) ∈ gx_G := gx_mem 1082 (by decide +kernel) (by decide +kernel)
theorem mw_1083 : (Cond.selects RX9 yX9_thinkOf yX9_thinkOf) ∈ gx_G := gx_mem 1083 (by decide +kernel) (by decide +kernel)
theorem mw_1084 : (Cond.code yX9_thinkOf cX9_thinkOf 6 none) ∈ gx_G := gx_mem 1084 (by decide +kernel) (by decide +kernel)
theorem mw_1088 : (Cond.methodLink RX11 420 yX9_go) ∈ gx_G := gx_mem 1088 (by decide +kernel) (by decide +kernel)
theorem mw_1089 : (Cond.instanceMethod yX9_go) ∈ gx_G := gx_mem 1089 (by decide +kernel) (by decide +kernel)
theorem mw_1090 : (Cond.selects RX9 yX9_go yX9_go) ∈ gx_G := gx_mem 1090 (by decide +kernel) (by decide +kernel)
theorem mw_1091 : (Cond.code yX9_go cX9_go 3 (some .int)) ∈ gx_G := gx_mem 1091 (by decide +kernel) (by decide +kernel)
theorem mw_1092 : (Cond.methodLink RX9 86 yX9_begin) ∈ gx_G := gx_mem 1092 (by decide +kernel) (by decide +kernel)
theorem mw_1093 : (Cond.instanceMethod yX9_begin) ∈ gx_G := gx_mem 1093 (by decide +kernel) (by decide +kernel)
theorem mw_1094 : (Cond.selects RX9 yX9_begin yX9_begin) ∈ gx_G := gx_mem 1094 (by decide +kernel) (by decide +kernel)
theorem mw_1095 : (Cond.code yX9_begin cX9_begin 2 none) ∈ gx_G := gx_mem 1095 (by decide +kernel) (by decide +kernel)
theorem mw_1096 : (Cond.methodLink RX9 95 yX6_spotOf) ∈ gx_G := gx_mem 1096 (by decide +kernel) (by decide +kernel)
theorem mw_1097 : (Cond.methodLink RX9 99 Lib.Math.max.name) ∈ gx_G := gx_mem 1097 (by decide +kernel) (by decide +kernel)
theorem mw_1098 : (Cond.methodLink RX11 317 yX11_isIn) ∈ gx_G := gx_mem 1098 (by decide +kernel) (by decide +kernel)
theorem mw_1099 : (Cond.static yX11_isIn) ∈ gx_G := gx_mem 1099 (by decide +kernel) (by decide +kernel)
theorem mw_1100 : (Cond.code yX11_isIn cX11_isIn 2 (some .boolean)) ∈ gx_G := gx_mem 1100 (by decide +kernel) (by decide +kernel)
theorem mw_1101 : (Cond.methodLink RX11 320 yX11_minutesOf) ∈ gx_G := gx_mem 1101 (by decide +kernel) (by decide +kernel)
theorem mw_1102 : (Cond.static yX11_minutesOf) ∈ gx_G := gx_mem 1102 (by decide +kernel) (by decide +kernel)
theorem mw_1103 : (Cond.code yX11_minutesOf cX11_minutesOf 1 (some .int)) ∈ gx_G := gx_mem 1103 (by decide +kernel) (by decide +kernel)
theorem mw_1198 : (Cond.methodLink RX11 366 yX11_isCorkMinute) ∈ gx_G := gx_mem 1198 (by decide +kernel) (by decide +kernel)
theorem mw_1199 : (Cond.static yX11_isCorkMinute) ∈ gx_G := gx_mem 1199 (by decide +kernel) (by decide +kernel)
theorem mw_1200 : (Cond.code yX11_isCorkMinute cX11_isCorkMinute 1 (some .boolean)) ∈ gx_G := gx_mem 1200 (by decide +kernel) (by decide +kernel)
theorem mw_1201 : (Cond.methodLink RX11 369 yX0_add) ∈ gx_G := gx_mem 1201 (by decide +kernel) (by decide +kernel)
theorem mw_1202 : (Cond.instanceMethod yX0_add) ∈ gx_G := gx_mem 1202 (by decide +kernel) (by decide +kernel)
theorem mw_1203 : (Cond.selects RX0 yX0_add yX0_add) ∈ gx_G := gx_mem 1203 (by decide +kernel) (by decide +kernel)
theorem mw_1204 : (Cond.code yX0_add cX0_add 4 (some .boolean)) ∈ gx_G := gx_mem 1204 (by decide +kernel) (by decide +kernel)
theorem mw_1697 : (Cond.fieldLink RJ0 9 "java/lang/String" "value" "[B") ∈ gx_G := gx_mem 1697 (by decide +kernel) (by decide +kernel)
theorem mw_1698 : (Cond.fieldLink RJ0 15 "java/lang/String" "coder" "B") ∈ gx_G := gx_mem 1698 (by decide +kernel) (by decide +kernel)
theorem cw_X1_146 : gx_Wv RX1 146 yX6_setPaper cX6_setPaper 3 none 2 := ⟨⟨mw_922, mw_791, mw_792, mw_95, mw_793⟩, by decide +kernel⟩
theorem cw_X1_149 : gx_Wv RX1 149 yX6_move cX6_move 3 none 2 := ⟨⟨mw_923, mw_924, mw_925, mw_95, mw_926⟩, by decide +kernel⟩
theorem cw_X1_152 : gx_Wv RX1 152 yX8_isKitchen cX8_isKitchen 2 (some .boolean) 1 := ⟨⟨mw_927, mw_809, mw_810, mw_91, mw_811⟩, by decide +kernel⟩
theorem cw_X1_155 : gx_Wv RX1 155 yX6_comeHome cX6_comeHome 2 none 1 := ⟨⟨mw_928, mw_817, mw_818, mw_95, mw_819⟩, by decide +kernel⟩
theorem cw_X1_92 : gx_Wv RX1 92 yX6_lose cX6_lose 2 none 1 := ⟨⟨mw_913, mw_914, mw_915, mw_95, mw_916⟩, by decide +kernel⟩
theorem cw_X1_99 : gx_Wv RX1 99 yX1_arrives cX1_arrives 6 (some .boolean) 4 := ⟨⟨mw_917, mw_919, mw_23, mw_99, mw_920⟩, by decide +kernel⟩
theorem cw_X1_71 : gx_Wv RX1 71 yX6_spotOf cX6_spotOf 2 (some .int) 1 := ⟨⟨mw_859, mw_860, mw_861, mw_95, mw_862⟩, by decide +kernel⟩
theorem cw_X1_74 : gx_Wv RX1 74 yX8_figureOf cX8_figureOf 2 (some .int) 1 := ⟨⟨mw_863, mw_864, mw_865, mw_91, mw_866⟩, by decide +kernel⟩
theorem cw_X1_82 : gx_Wv RX1 82 yX8_kindOf cX8_kindOf 2 (some .int) 1 := ⟨⟨mw_871, mw_872, mw_873, mw_91, mw_874⟩, by decide +kernel⟩
theorem cw_X1_85 : gx_Wv RX1 85 yX1_wayOf cX1_wayOf 7 (some .int) 4 := ⟨⟨mw_875, mw_877, mw_21, mw_99, mw_878⟩, by decide +kernel⟩
theorem cw_X1_89 : gx_Wv RX1 89 yX1_pays cX1_pays 5 (some .boolean) 3 := ⟨⟨mw_905, mw_907, mw_22, mw_99, mw_908⟩, by decide +kernel⟩
theorem cw_X1_67 : gx_Wv RX1 67 yX1_step cX1_step 9 (some .boolean) 3 := ⟨⟨mw_855, mw_857, mw_20, mw_99, mw_858⟩, by decide +kernel⟩
theorem cw_X1_63 : gx_Wv RX1 63 yX6_isAfloat cX6_isAfloat 3 (some .boolean) 1 := ⟨⟨mw_851, mw_852, mw_853, mw_95, mw_854⟩, by decide +kernel⟩
theorem cw_X1_57 : gx_Wv RX1 57 yX1_flowIn cX1_flowIn 5 (some .int) 1 := ⟨⟨mw_845, mw_847, mw_19, mw_99, mw_848⟩, by decide +kernel⟩
theorem cw_X9_105 : gx_Wv RX9 105 yX1_pass cX1_pass 6 none 1 := ⟨⟨mw_1032, mw_842, mw_843, mw_99, mw_844⟩, by decide +kernel⟩
theorem cw_X9_95 : gx_Wv RX9 95 yX6_spotOf cX6_spotOf 2 (some .int) 1 := ⟨⟨mw_1096, mw_860, mw_861, mw_95, mw_862⟩, by decide +kernel⟩
theorem cw_X9_86 : gx_Wv RX9 86 yX9_begin cX9_begin 2 none 1 := ⟨⟨mw_1092, mw_1093, mw_1094, mw_100, mw_1095⟩, by decide +kernel⟩
theorem cw_X11_327 : gx_Wv RX11 327 yX9_thinkOf cX9_thinkOf 6 none 5 := ⟨⟨mw_1081, mw_1082, mw_1083, mw_100, mw_1084⟩, by decide +kernel⟩
theorem cw_X11_420 : gx_Wv RX11 420 yX9_go cX9_go 3 (some .int) 1 := ⟨⟨mw_1088, mw_1089, mw_1090, mw_100, mw_1091⟩, by decide +kernel⟩
theorem cw_X11_257 : gx_Wv RX11 257 yX4_tell_ cX4_tell_ 5 none 2 := ⟨⟨mw_929, mw_930, mw_931, mw_98, mw_932⟩, by decide +kernel⟩
theorem cw_X11_313 : gx_Wv RX11 313 yX11_sailed cX11_sailed 5 (some .int) 4 := ⟨⟨mw_1077, mw_1079, mw_32, mw_89, mw_1080⟩, by decide +kernel⟩
theorem cw_X11_317 : gx_Ws RX11 317 yX11_isIn cX11_isIn 2 (some .boolean) 2 := ⟨⟨mw_1098, mw_1099, mw_89, mw_1100⟩, by decide +kernel⟩
theorem cw_X11_227 : gx_Ws RX11 227 yX11_isLoad cX11_isLoad 2 (some .boolean) 2 := ⟨⟨mw_802, mw_803, mw_89, mw_804⟩, by decide +kernel⟩
theorem cw_X11_234 : gx_Wv RX11 234 yX8_isKitchen cX8_isKitchen 2 (some .boolean) 1 := ⟨⟨mw_808, mw_809, mw_810, mw_91, mw_811⟩, by decide +kernel⟩
theorem cw_X11_320 : gx_Ws RX11 320 yX11_minutesOf cX11_minutesOf 1 (some .int) 1 := ⟨⟨mw_1101, mw_1102, mw_89, mw_1103⟩, by decide +kernel⟩
theorem cw_X11_307 : gx_Wv RX11 307 yX4_tell cX4_tell 3 none 1 := ⟨⟨mw_1057, mw_1058, mw_1059, mw_98, mw_1060⟩, by decide +kernel⟩
theorem cw_X11_137 : gx_Wv RX11 137 yX8_has cX8_has 2 (some .boolean) 1 := ⟨⟨mw_798, mw_799, mw_800, mw_91, mw_801⟩, by decide +kernel⟩
theorem cw_X9_112 : gx_Wv RX9 112 yX6_isOnWay cX6_isOnWay 2 (some .boolean) 1 := ⟨⟨mw_1052, mw_825, mw_826, mw_95, mw_827⟩, by decide +kernel⟩
theorem cw_X11_172 : gx_Wv RX11 172 yX6_has cX6_has 2 (some .boolean) 1 := ⟨⟨mw_1016, mw_1017, mw_1018, mw_95, mw_1019⟩, by decide +kernel⟩
theorem cw_X11_303 : gx_Wv RX11 303 yX9_settle cX9_settle 4 (some .int) 2 := ⟨⟨mw_1048, mw_1049, mw_1050, mw_100, mw_1051⟩, by decide +kernel⟩
theorem cw_X11_187 : gx_Wv RX11 187 yX6_fateOf cX6_fateOf 2 (some .int) 1 := ⟨⟨mw_1033, mw_1034, mw_1035, mw_95, mw_1036⟩, by decide +kernel⟩
theorem cw_X11_175 : gx_Wv RX11 175 yX6_spotOf cX6_spotOf 2 (some .int) 1 := ⟨⟨mw_1043, mw_860, mw_861, mw_95, mw_862⟩, by decide +kernel⟩
theorem cw_X11_184 : gx_Wv RX11 184 yX6_trailOf cX6_trailOf 2 (some .int) 1 := ⟨⟨mw_1053, mw_1054, mw_1055, mw_95, mw_1056⟩, by decide +kernel⟩
theorem cw_X11_366 : gx_Ws RX11 366 yX11_isCorkMinute cX11_isCorkMinute 1 (some .boolean) 1 := ⟨⟨mw_1198, mw_1199, mw_89, mw_1200⟩, by decide +kernel⟩
theorem cw_X11_369 : gx_Wv RX11 369 yX0_add cX0_add 4 (some .boolean) 3 := ⟨⟨mw_1201, mw_1202, mw_1203, mw_97, mw_1204⟩, by decide +kernel⟩
theorem cw_X11_166 : gx_Wv RX11 166 yX6_onWay cX6_onWay 1 (some .int) 0 := ⟨⟨mw_1065, mw_1029, mw_1030, mw_95, mw_1031⟩, by decide +kernel⟩
theorem cw_J0_335 : gx_Wv RJ0 335 yJ0_coder_7d493 cJ0_coder_7d493 1 (some .byte) 0 := ⟨⟨mw_566, mw_567, mw_568, mw_103, mw_569⟩, by decide +kernel⟩
theorem cw_J1_88 : gx_Ws RJ1 88 yJ1_canEncode_9a6ad cJ1_canEncode_9a6ad 1 (some .boolean) 1 := ⟨⟨mw_573, mw_574, mw_104, mw_575⟩, by decide +kernel⟩
theorem cw_J1_95 : gx_Ws RJ1 95 yJ1_indexOfChar_4cfef cJ1_indexOfChar_4cfef 6 (some .int) 4 := ⟨⟨mw_580, mw_581, mw_104, mw_582⟩, by decide +kernel⟩
theorem cw_J0_1062 : gx_Ws RJ0 1062 yJ3_checkFromToIndex_8c36e cJ3_checkFromToIndex_8c36e 4 (some .int) 4 := ⟨⟨mw_603, mw_604, mw_106, mw_605⟩, by decide +kernel⟩
theorem cw_J0_492 : gx_Wv RJ0 492 yJ0_isLatin1_aae02 cJ0_isLatin1_aae02 1 (some .boolean) 0 := ⟨⟨mw_556, mw_557, mw_558, mw_103, mw_559⟩, by decide +kernel⟩
theorem cw_J0_505 : gx_Wv RJ0 505 yJ0_length_8abf5 cJ0_length_8abf5 1 (some .int) 0 := ⟨⟨mw_562, mw_563, mw_564, mw_103, mw_565⟩, by decide +kernel⟩
theorem cw_J0_637 : gx_Ws RJ0 637 yJ1_indexOf_4cfef cJ1_indexOf_4cfef 4 (some .int) 4 := ⟨⟨mw_570, mw_571, mw_104, mw_572⟩, by decide +kernel⟩
theorem cw_J0_633 : gx_Wv RJ0 633 yJ0_indexOf_7cf53 cJ0_indexOf_7cf53 3 (some .int) 2 := ⟨⟨mw_552, mw_553, mw_554, mw_103, mw_555⟩, by decide +kernel⟩
theorem cw_X7_32 : gx_Wv RX7 32 yJ0_indexOf_0f7a4 cJ0_indexOf_0f7a4 2 (some .int) 1 := ⟨⟨mw_548, mw_549, mw_550, mw_103, mw_551⟩, by decide +kernel⟩
theorem cw_X2_80 : gx_Wv RX2 80 yX7_digit cX7_digit 3 (some .int) 1 := ⟨⟨mw_958, mw_653, mw_654, mw_90, mw_655⟩, by decide +kernel⟩
theorem cw_X2_65 : gx_Wv RX2 65 yX7_letter cX7_letter 3 (some .int) 1 := ⟨⟨mw_954, mw_637, mw_638, mw_90, mw_639⟩, by decide +kernel⟩
theorem cw_X2_69 : gx_Ws RX2 69 yX2_behindNumber cX2_behindNumber 2 (some .int) 2 := ⟨⟨mw_955, mw_956, mw_94, mw_957⟩, by decide +kernel⟩
theorem cw_X2_72 : gx_Ws RX2 72 yX2_numberAt cX2_numberAt 4 (some .int) 3 := ⟨⟨mw_959, mw_960, mw_94, mw_961⟩, by decide +kernel⟩
theorem cw_X2_43 : gx_Wv RX2 43 yX7_hasSign cX7_hasSign 3 (some .boolean) 2 := ⟨⟨mw_962, mw_665, mw_666, mw_90, mw_667⟩, by decide +kernel⟩
theorem cw_X2_76 : gx_Wv RX2 76 yX2_add cX2_add 5 none 4 := ⟨⟨mw_963, mw_965, mw_26, mw_94, mw_966⟩, by decide +kernel⟩
theorem t_25 : gx_tb[25]? = some (.inl (3, [some (some 26), some (some 27), some (some 28), some (some 29), none])) := rfl
theorem t_26 : gx_tb[26]? = some (.inr (0, 20, [])) := rfl
theorem t_27 : gx_tb[27]? = some (.inr (0, 20, [])) := rfl
theorem t_28 : gx_tb[28]? = some (.inr (0, 20, [])) := rfl
theorem t_29 : gx_tb[29]? = some (.inr (0, 20, [])) := rfl
theorem t_156 : gx_tb[156]? = some (.inl (5, [some (some 157), none])) := rfl
theorem t_157 : gx_tb[157]? = some (.inr (1, 3, [])) := rfl
theorem dJ0_checkBoundsBeginEnd_23922_0 : decode cJ0_checkBoundsBeginEnd_23922 0 = .ok (.iload_n 0, 1) := by decide +kernel
theorem dJ0_checkBoundsBeginEnd_23922_1 : decode cJ0_checkBoundsBeginEnd_23922 1 = .ok (.iload_n 1, 1) := by decide +kernel
theorem dJ0_checkBoundsBeginEnd_23922_2 : decode cJ0_checkBoundsBeginEnd_23922 2 = .ok (.iload_n 2, 1) := by decide +kernel
theorem dJ0_checkBoundsBeginEnd_23922_3 : decode cJ0_checkBoundsBeginEnd_23922 3 = .ok (.getstatic 1053, 3) := by decide +kernel
theorem dJ0_checkBoundsBeginEnd_23922_6 : decode cJ0_checkBoundsBeginEnd_23922 6 = .ok (.invokestatic 1062, 3) := by decide +kernel
theorem dJ0_checkBoundsBeginEnd_23922_9 : decode cJ0_checkBoundsBeginEnd_23922 9 = .ok (.pop, 1) := by decide +kernel
theorem dJ0_checkBoundsBeginEnd_23922_10 : decode cJ0_checkBoundsBeginEnd_23922 10 = .ok (.return_, 1) := by decide +kernel
theorem dJ0_coder_7d493_0 : decode cJ0_coder_7d493 0 = .ok (.getstatic 38, 3) := by decide +kernel
theorem dJ0_coder_7d493_3 : decode cJ0_coder_7d493 3 = .ok (.ifCond .eq 10, 3) := by decide +kernel
theorem dJ0_coder_7d493_6 : decode cJ0_coder_7d493 6 = .ok (.aload_n 0, 1) := by decide +kernel
theorem dJ0_coder_7d493_7 : decode cJ0_coder_7d493 7 = .ok (.getfield 15, 3) := by decide +kernel
theorem dJ0_coder_7d493_10 : decode cJ0_coder_7d493 10 = .ok (.goto 4, 3) := by decide +kernel
theorem dJ0_coder_7d493_14 : decode cJ0_coder_7d493 14 = .ok (.ireturn, 1) := by decide +kernel
theorem dJ0_indexOf_0f7a4_0 : decode cJ0_indexOf_0f7a4 0 = .ok (.aload_n 0, 1) := by decide +kernel
theorem dJ0_indexOf_0f7a4_1 : decode cJ0_indexOf_0f7a4 1 = .ok (.iload_n 1, 1) := by decide +kernel
theorem dJ0_indexOf_0f7a4_2 : decode cJ0_indexOf_0f7a4 2 = .ok (.iconst 0, 1) := by decide +kernel
theorem dJ0_indexOf_0f7a4_3 : decode cJ0_indexOf_0f7a4 3 = .ok (.invokevirtual 633, 3) := by decide +kernel
theorem dJ0_indexOf_0f7a4_6 : decode cJ0_indexOf_0f7a4 6 = .ok (.ireturn, 1) := by decide +kernel
theorem dJ0_indexOf_7cf53_0 : decode cJ0_indexOf_7cf53 0 = .ok (.aload_n 0, 1) := by decide +kernel
theorem dJ0_indexOf_7cf53_1 : decode cJ0_indexOf_7cf53 1 = .ok (.invokevirtual 492, 3) := by decide +kernel
theorem dJ0_indexOf_7cf53_4 : decode cJ0_indexOf_7cf53 4 = .ok (.ifCond .eq 19, 3) := by decide +kernel
theorem dJ0_indexOf_7cf53_7 : decode cJ0_indexOf_7cf53 7 = .ok (.aload_n 0, 1) := by decide +kernel
theorem dJ0_indexOf_7cf53_8 : decode cJ0_indexOf_7cf53 8 = .ok (.getfield 9, 3) := by decide +kernel
theorem dJ0_indexOf_7cf53_11 : decode cJ0_indexOf_7cf53 11 = .ok (.iload_n 1, 1) := by decide +kernel
theorem dJ0_indexOf_7cf53_12 : decode cJ0_indexOf_7cf53 12 = .ok (.iload_n 2, 1) := by decide +kernel
theorem dJ0_indexOf_7cf53_13 : decode cJ0_indexOf_7cf53 13 = .ok (.aload_n 0, 1) := by decide +kernel
theorem dJ0_indexOf_7cf53_14 : decode cJ0_indexOf_7cf53 14 = .ok (.invokevirtual 505, 3) := by decide +kernel
theorem dJ0_indexOf_7cf53_17 : decode cJ0_indexOf_7cf53 17 = .ok (.invokestatic 637, 3) := by decide +kernel
theorem dJ0_indexOf_7cf53_20 : decode cJ0_indexOf_7cf53 20 = .ok (.goto 16, 3) := by decide +kernel
theorem dJ0_indexOf_7cf53_23 : decode cJ0_indexOf_7cf53 23 = .ok (.aload_n 0, 1) := by decide +kernel
theorem dJ0_indexOf_7cf53_24 : decode cJ0_indexOf_7cf53 24 = .ok (.getfield 9, 3) := by decide +kernel
theorem dJ0_indexOf_7cf53_27 : decode cJ0_indexOf_7cf53 27 = .ok (.iload_n 1, 1) := by decide +kernel
theorem dJ0_indexOf_7cf53_28 : decode cJ0_indexOf_7cf53 28 = .ok (.iload_n 2, 1) := by decide +kernel
theorem dJ0_indexOf_7cf53_29 : decode cJ0_indexOf_7cf53 29 = .ok (.aload_n 0, 1) := by decide +kernel
theorem dJ0_indexOf_7cf53_30 : decode cJ0_indexOf_7cf53 30 = .ok (.invokevirtual 505, 3) := by decide +kernel
theorem dJ0_indexOf_7cf53_33 : decode cJ0_indexOf_7cf53 33 = .ok (.invokestatic 640, 3) := by decide +kernel
theorem dJ0_indexOf_7cf53_36 : decode cJ0_indexOf_7cf53 36 = .ok (.ireturn, 1) := by decide +kernel
theorem dJ0_isLatin1_aae02_0 : decode cJ0_isLatin1_aae02 0 = .ok (.getstatic 38, 3) := by decide +kernel
theorem dJ0_isLatin1_aae02_3 : decode cJ0_isLatin1_aae02 3 = .ok (.ifCond .eq 14, 3) := by decide +kernel
theorem dJ0_isLatin1_aae02_6 : decode cJ0_isLatin1_aae02 6 = .ok (.aload_n 0, 1) := by decide +kernel
theorem dJ0_isLatin1_aae02_7 : decode cJ0_isLatin1_aae02 7 = .ok (.getfield 15, 3) := by decide +kernel
theorem dJ0_isLatin1_aae02_10 : decode cJ0_isLatin1_aae02 10 = .ok (.ifCond .ne 7, 3) := by decide +kernel
theorem dJ0_isLatin1_aae02_13 : decode cJ0_isLatin1_aae02 13 = .ok (.iconst 1, 1) := by decide +kernel
theorem dJ0_isLatin1_aae02_14 : decode cJ0_isLatin1_aae02 14 = .ok (.goto 4, 3) := by decide +kernel
theorem dJ0_isLatin1_aae02_18 : decode cJ0_isLatin1_aae02 18 = .ok (.ireturn, 1) := by decide +kernel
theorem dJ0_length_8abf5_0 : decode cJ0_length_8abf5 0 = .ok (.aload_n 0, 1) := by decide +kernel
theorem dJ0_length_8abf5_1 : decode cJ0_length_8abf5 1 = .ok (.getfield 9, 3) := by decide +kernel
theorem dJ0_length_8abf5_4 : decode cJ0_length_8abf5 4 = .ok (.arraylength, 1) := by decide +kernel
theorem dJ0_length_8abf5_5 : decode cJ0_length_8abf5 5 = .ok (.aload_n 0, 1) := by decide +kernel
theorem dJ0_length_8abf5_6 : decode cJ0_length_8abf5 6 = .ok (.invokevirtual 335, 3) := by decide +kernel
theorem dJ0_length_8abf5_9 : decode cJ0_length_8abf5 9 = .ok (.ishr, 1) := by decide +kernel
theorem dJ0_length_8abf5_10 : decode cJ0_length_8abf5 10 = .ok (.ireturn, 1) := by decide +kernel
theorem dJ1_canEncode_9a6ad_0 : decode cJ1_canEncode_9a6ad 0 = .ok (.iload_n 0, 1) := by decide +kernel
theorem dJ1_canEncode_9a6ad_1 : decode cJ1_canEncode_9a6ad 1 = .ok (.ifCond .lt 14, 3) := by decide +kernel
theorem dJ1_canEncode_9a6ad_4 : decode cJ1_canEncode_9a6ad 4 = .ok (.iload_n 0, 1) := by decide +kernel
theorem dJ1_canEncode_9a6ad_5 : decode cJ1_canEncode_9a6ad 5 = .ok (.sipush 255, 3) := by decide +kernel
theorem dJ1_canEncode_9a6ad_8 : decode cJ1_canEncode_9a6ad 8 = .ok (.if_icmp .gt 7, 3) := by decide +kernel
theorem dJ1_canEncode_9a6ad_11 : decode cJ1_canEncode_9a6ad 11 = .ok (.iconst 1, 1) := by decide +kernel
theorem dJ1_canEncode_9a6ad_12 : decode cJ1_canEncode_9a6ad 12 = .ok (.goto 4, 3) := by decide +kernel
theorem dJ1_canEncode_9a6ad_15 : decode cJ1_canEncode_9a6ad 15 = .ok (.iconst 0, 1) := by decide +kernel
theorem dJ1_canEncode_9a6ad_16 : decode cJ1_canEncode_9a6ad 16 = .ok (.ireturn, 1) := by decide +kernel
theorem dJ1_indexOfChar_4cfef_0 : decode cJ1_indexOfChar_4cfef 0 = .ok (.iload_n 1, 1) := by decide +kernel
theorem dJ1_indexOfChar_4cfef_1 : decode cJ1_indexOfChar_4cfef 1 = .ok (.i2b, 1) := by decide +kernel
theorem dJ1_indexOfChar_4cfef_2 : decode cJ1_indexOfChar_4cfef 2 = .ok (.istore 4, 2) := by decide +kernel
theorem dJ1_indexOfChar_4cfef_4 : decode cJ1_indexOfChar_4cfef 4 = .ok (.iload_n 2, 1) := by decide +kernel
theorem dJ1_indexOfChar_4cfef_5 : decode cJ1_indexOfChar_4cfef 5 = .ok (.istore 5, 2) := by decide +kernel
theorem dJ1_indexOfChar_4cfef_7 : decode cJ1_indexOfChar_4cfef 7 = .ok (.iload 5, 2) := by decide +kernel
theorem dJ1_indexOfChar_4cfef_9 : decode cJ1_indexOfChar_4cfef 9 = .ok (.iload_n 3, 1) := by decide +kernel
theorem dJ1_indexOfChar_4cfef_10 : decode cJ1_indexOfChar_4cfef 10 = .ok (.if_icmp .ge 21, 3) := by decide +kernel
theorem dJ1_indexOfChar_4cfef_13 : decode cJ1_indexOfChar_4cfef 13 = .ok (.aload_n 0, 1) := by decide +kernel
theorem dJ1_indexOfChar_4cfef_14 : decode cJ1_indexOfChar_4cfef 14 = .ok (.iload 5, 2) := by decide +kernel
theorem dJ1_indexOfChar_4cfef_16 : decode cJ1_indexOfChar_4cfef 16 = .ok (.baload, 1) := by decide +kernel
theorem dJ1_indexOfChar_4cfef_17 : decode cJ1_indexOfChar_4cfef 17 = .ok (.iload 4, 2) := by decide +kernel
theorem dJ1_indexOfChar_4cfef_19 : decode cJ1_indexOfChar_4cfef 19 = .ok (.if_icmp .ne 6, 3) := by decide +kernel
theorem dJ1_indexOfChar_4cfef_22 : decode cJ1_indexOfChar_4cfef 22 = .ok (.iload 5, 2) := by decide +kernel
theorem dJ1_indexOfChar_4cfef_24 : decode cJ1_indexOfChar_4cfef 24 = .ok (.ireturn, 1) := by decide +kernel
theorem dJ1_indexOfChar_4cfef_25 : decode cJ1_indexOfChar_4cfef 25 = .ok (.iinc 5 1, 3) := by decide +kernel
theorem dJ1_indexOfChar_4cfef_28 : decode cJ1_indexOfChar_4cfef 28 = .ok (.goto (-21), 3) := by decide +kernel
theorem dJ1_indexOfChar_4cfef_31 : decode cJ1_indexOfChar_4cfef 31 = .ok (.iconst (-1), 1) := by decide +kernel
theorem dJ1_indexOfChar_4cfef_32 : decode cJ1_indexOfChar_4cfef 32 = .ok (.ireturn, 1) := by decide +kernel
theorem dJ1_indexOf_4cfef_0 : decode cJ1_indexOf_4cfef 0 = .ok (.iload_n 1, 1) := by decide +kernel
theorem dJ1_indexOf_4cfef_1 : decode cJ1_indexOf_4cfef 1 = .ok (.invokestatic 88, 3) := by decide +kernel
theorem dJ1_indexOf_4cfef_4 : decode cJ1_indexOf_4cfef 4 = .ok (.ifCond .ne 5, 3) := by decide +kernel
theorem dJ1_indexOf_4cfef_7 : decode cJ1_indexOf_4cfef 7 = .ok (.iconst (-1), 1) := by decide +kernel
theorem dJ1_indexOf_4cfef_8 : decode cJ1_indexOf_4cfef 8 = .ok (.ireturn, 1) := by decide +kernel
theorem dJ1_indexOf_4cfef_9 : decode cJ1_indexOf_4cfef 9 = .ok (.iload_n 2, 1) := by decide +kernel
theorem dJ1_indexOf_4cfef_10 : decode cJ1_indexOf_4cfef 10 = .ok (.iconst 0, 1) := by decide +kernel
theorem dJ1_indexOf_4cfef_11 : decode cJ1_indexOf_4cfef 11 = .ok (.invokestatic 92, 3) := by decide +kernel
theorem dJ1_indexOf_4cfef_14 : decode cJ1_indexOf_4cfef 14 = .ok (.istore_n 2, 1) := by decide +kernel
theorem dJ1_indexOf_4cfef_15 : decode cJ1_indexOf_4cfef 15 = .ok (.iload_n 3, 1) := by decide +kernel
theorem dJ1_indexOf_4cfef_16 : decode cJ1_indexOf_4cfef 16 = .ok (.aload_n 0, 1) := by decide +kernel
theorem dJ1_indexOf_4cfef_17 : decode cJ1_indexOf_4cfef 17 = .ok (.arraylength, 1) := by decide +kernel
theorem dJ1_indexOf_4cfef_18 : decode cJ1_indexOf_4cfef 18 = .ok (.invokestatic 38, 3) := by decide +kernel
theorem dJ1_indexOf_4cfef_21 : decode cJ1_indexOf_4cfef 21 = .ok (.istore_n 3, 1) := by decide +kernel
theorem dJ1_indexOf_4cfef_22 : decode cJ1_indexOf_4cfef 22 = .ok (.iload_n 2, 1) := by decide +kernel
theorem dJ1_indexOf_4cfef_23 : decode cJ1_indexOf_4cfef 23 = .ok (.iload_n 3, 1) := by decide +kernel
theorem dJ1_indexOf_4cfef_24 : decode cJ1_indexOf_4cfef 24 = .ok (.if_icmp .lt 5, 3) := by decide +kernel
theorem dJ1_indexOf_4cfef_27 : decode cJ1_indexOf_4cfef 27 = .ok (.iconst (-1), 1) := by decide +kernel
theorem dJ1_indexOf_4cfef_28 : decode cJ1_indexOf_4cfef 28 = .ok (.ireturn, 1) := by decide +kernel
theorem dJ1_indexOf_4cfef_29 : decode cJ1_indexOf_4cfef 29 = .ok (.aload_n 0, 1) := by decide +kernel
theorem dJ1_indexOf_4cfef_30 : decode cJ1_indexOf_4cfef 30 = .ok (.iload_n 1, 1) := by decide +kernel
theorem dJ1_indexOf_4cfef_31 : decode cJ1_indexOf_4cfef 31 = .ok (.iload_n 2, 1) := by decide +kernel
theorem dJ1_indexOf_4cfef_32 : decode cJ1_indexOf_4cfef 32 = .ok (.iload_n 3, 1) := by decide +kernel
theorem dJ1_indexOf_4cfef_33 : decode cJ1_indexOf_4cfef 33 = .ok (.invokestatic 95, 3) := by decide +kernel
theorem dJ1_indexOf_4cfef_36 : decode cJ1_indexOf_4cfef 36 = .ok (.ireturn, 1) := by decide +kernel
theorem dJ3_checkFromToIndex_8c36e_0 : decode cJ3_checkFromToIndex_8c36e 0 = .ok (.iload_n 0, 1) := by decide +kernel
theorem dJ3_checkFromToIndex_8c36e_1 : decode cJ3_checkFromToIndex_8c36e 1 = .ok (.ifCond .lt 13, 3) := by decide +kernel
theorem dJ3_checkFromToIndex_8c36e_4 : decode cJ3_checkFromToIndex_8c36e 4 = .ok (.iload_n 0, 1) := by decide +kernel
theorem dJ3_checkFromToIndex_8c36e_5 : decode cJ3_checkFromToIndex_8c36e 5 = .ok (.iload_n 1, 1) := by decide +kernel
theorem dJ3_checkFromToIndex_8c36e_6 : decode cJ3_checkFromToIndex_8c36e 6 = .ok (.if_icmp .gt 8, 3) := by decide +kernel
theorem dJ3_checkFromToIndex_8c36e_9 : decode cJ3_checkFromToIndex_8c36e 9 = .ok (.iload_n 1, 1) := by decide +kernel
theorem dJ3_checkFromToIndex_8c36e_10 : decode cJ3_checkFromToIndex_8c36e 10 = .ok (.iload_n 2, 1) := by decide +kernel
theorem dJ3_checkFromToIndex_8c36e_11 : decode cJ3_checkFromToIndex_8c36e 11 = .ok (.if_icmp .le 11, 3) := by decide +kernel
theorem dJ3_checkFromToIndex_8c36e_14 : decode cJ3_checkFromToIndex_8c36e 14 = .ok (.aload_n 3, 1) := by decide +kernel
theorem dJ3_checkFromToIndex_8c36e_15 : decode cJ3_checkFromToIndex_8c36e 15 = .ok (.iload_n 0, 1) := by decide +kernel
theorem dJ3_checkFromToIndex_8c36e_16 : decode cJ3_checkFromToIndex_8c36e 16 = .ok (.iload_n 1, 1) := by decide +kernel
theorem dJ3_checkFromToIndex_8c36e_17 : decode cJ3_checkFromToIndex_8c36e 17 = .ok (.iload_n 2, 1) := by decide +kernel
theorem dJ3_checkFromToIndex_8c36e_18 : decode cJ3_checkFromToIndex_8c36e 18 = .ok (.invokestatic 99, 3) := by decide +kernel
theorem dJ3_checkFromToIndex_8c36e_22 : decode cJ3_checkFromToIndex_8c36e 22 = .ok (.iload_n 0, 1) := by decide +kernel
theorem dJ3_checkFromToIndex_8c36e_23 : decode cJ3_checkFromToIndex_8c36e 23 = .ok (.ireturn, 1) := by decide +kernel
theorem dX11_basin_0 : decode cX11_basin 0 = .ok (.iload_n 1, 1) := by decide +kernel
theorem dX11_basin_1 : decode cX11_basin 1 = .ok (.iload_n 2, 1) := by decide +kernel
theorem dX11_basin_2 : decode cX11_basin 2 = .ok (.invokestatic 227, 3) := by decide +kernel
theorem dX11_basin_5 : decode cX11_basin 5 = .ok (.ifCond .eq 14, 3) := by decide +kernel
theorem dX11_basin_8 : decode cX11_basin 8 = .ok (.aload_n 0, 1) := by decide +kernel
theorem dX11_basin_9 : decode cX11_basin 9 = .ok (.getfield 19, 3) := by decide +kernel
theorem dX11_basin_12 : decode cX11_basin 12 = .ok (.iload_n 3, 1) := by decide +kernel
theorem dX11_basin_13 : decode cX11_basin 13 = .ok (.invokevirtual 234, 3) := by decide +kernel
theorem dX11_basin_16 : decode cX11_basin 16 = .ok (.ifCond .ne 5, 3) := by decide +kernel
theorem dX11_basin_19 : decode cX11_basin 19 = .ok (.iconst (-1), 1) := by decide +kernel
theorem dX11_basin_20 : decode cX11_basin 20 = .ok (.ireturn, 1) := by decide +kernel
theorem dX11_basin_21 : decode cX11_basin 21 = .ok (.iconst 0, 1) := by decide +kernel
theorem dX11_basin_22 : decode cX11_basin 22 = .ok (.istore 4, 2) := by decide +kernel
theorem dX11_basin_24 : decode cX11_basin 24 = .ok (.iconst 0, 1) := by decide +kernel
theorem dX11_basin_25 : decode cX11_basin 25 = .ok (.istore 5, 2) := by decide +kernel
theorem dX11_basin_27 : decode cX11_basin 27 = .ok (.iconst 0, 1) := by decide +kernel
theorem dX11_basin_28 : decode cX11_basin 28 = .ok (.istore 6, 2) := by decide +kernel
theorem dX11_basin_30 : decode cX11_basin 30 = .ok (.iconst 0, 1) := by decide +kernel
theorem dX11_basin_31 : decode cX11_basin 31 = .ok (.istore 7, 2) := by decide +kernel
theorem dX11_basin_33 : decode cX11_basin 33 = .ok (.iload 7, 2) := by decide +kernel
theorem dX11_basin_35 : decode cX11_basin 35 = .ok (.aload_n 0, 1) := by decide +kernel
theorem dX11_basin_36 : decode cX11_basin 36 = .ok (.getfield 19, 3) := by decide +kernel
theorem dX11_basin_39 : decode cX11_basin 39 = .ok (.getfield 323, 3) := by decide +kernel
theorem dX11_basin_42 : decode cX11_basin 42 = .ok (.if_icmp .ge 94, 3) := by decide +kernel
theorem dX11_basin_45 : decode cX11_basin 45 = .ok (.aload_n 0, 1) := by decide +kernel
theorem dX11_basin_46 : decode cX11_basin 46 = .ok (.iload 7, 2) := by decide +kernel
theorem dX11_basin_48 : decode cX11_basin 48 = .ok (.iload_n 1, 1) := by decide +kernel
theorem dX11_basin_49 : decode cX11_basin 49 = .ok (.iload_n 2, 1) := by decide +kernel
theorem dX11_basin_50 : decode cX11_basin 50 = .ok (.iconst 0, 1) := by decide +kernel
theorem dX11_basin_51 : decode cX11_basin 51 = .ok (.invokevirtual 313, 3) := by decide +kernel
theorem dX11_basin_54 : decode cX11_basin 54 = .ok (.istore 8, 2) := by decide +kernel
theorem dX11_basin_56 : decode cX11_basin 56 = .ok (.iload 4, 2) := by decide +kernel
theorem dX11_basin_58 : decode cX11_basin 58 = .ok (.iload 8, 2) := by decide +kernel
theorem dX11_basin_60 : decode cX11_basin 60 = .ok (.iload_n 3, 1) := by decide +kernel
theorem dX11_basin_61 : decode cX11_basin 61 = .ok (.invokestatic 317, 3) := by decide +kernel
theorem dX11_basin_64 : decode cX11_basin 64 = .ok (.ifCond .eq 10, 3) := by decide +kernel
theorem dX11_basin_67 : decode cX11_basin 67 = .ok (.iconst 1, 1) := by decide +kernel
theorem dX11_basin_68 : decode cX11_basin 68 = .ok (.iload 7, 2) := by decide +kernel
theorem dX11_basin_70 : decode cX11_basin 70 = .ok (.ishl, 1) := by decide +kernel
theorem dX11_basin_71 : decode cX11_basin 71 = .ok (.goto 4, 3) := by decide +kernel
theorem dX11_basin_74 : decode cX11_basin 74 = .ok (.iconst 0, 1) := by decide +kernel
theorem dX11_basin_75 : decode cX11_basin 75 = .ok (.ior, 1) := by decide +kernel
theorem dX11_basin_76 : decode cX11_basin 76 = .ok (.istore 4, 2) := by decide +kernel
theorem dX11_basin_78 : decode cX11_basin 78 = .ok (.iload 5, 2) := by decide +kernel
theorem dX11_basin_80 : decode cX11_basin 80 = .ok (.aload_n 0, 1) := by decide +kernel
theorem dX11_basin_81 : decode cX11_basin 81 = .ok (.getfield 99, 3) := by decide +kernel
theorem dX11_basin_84 : decode cX11_basin 84 = .ok (.getfield 297, 3) := by decide +kernel
theorem dX11_basin_87 : decode cX11_basin 87 = .ok (.getfield 247, 3) := by decide +kernel
theorem dX11_basin_90 : decode cX11_basin 90 = .ok (.ifCond .eq 10, 3) := by decide +kernel
theorem dX11_basin_93 : decode cX11_basin 93 = .ok (.iconst 1, 1) := by decide +kernel
theorem dX11_basin_94 : decode cX11_basin 94 = .ok (.iload 7, 2) := by decide +kernel
theorem dX11_basin_96 : decode cX11_basin 96 = .ok (.ishl, 1) := by decide +kernel
theorem dX11_basin_97 : decode cX11_basin 97 = .ok (.goto 4, 3) := by decide +kernel
theorem dX11_basin_100 : decode cX11_basin 100 = .ok (.iconst 0, 1) := by decide +kernel
theorem dX11_basin_101 : decode cX11_basin 101 = .ok (.ior, 1) := by decide +kernel
theorem dX11_basin_102 : decode cX11_basin 102 = .ok (.istore 5, 2) := by decide +kernel
theorem dX11_basin_104 : decode cX11_basin 104 = .ok (.iload 6, 2) := by decide +kernel
theorem dX11_basin_106 : decode cX11_basin 106 = .ok (.aload_n 0, 1) := by decide +kernel
theorem dX11_basin_107 : decode cX11_basin 107 = .ok (.getfield 99, 3) := by decide +kernel
theorem dX11_basin_110 : decode cX11_basin 110 = .ok (.getfield 297, 3) := by decide +kernel
theorem dX11_basin_113 : decode cX11_basin 113 = .ok (.getfield 250, 3) := by decide +kernel
theorem dX11_basin_116 : decode cX11_basin 116 = .ok (.ifCond .eq 10, 3) := by decide +kernel
theorem dX11_basin_119 : decode cX11_basin 119 = .ok (.iconst 1, 1) := by decide +kernel
theorem dX11_basin_120 : decode cX11_basin 120 = .ok (.iload 7, 2) := by decide +kernel
theorem dX11_basin_122 : decode cX11_basin 122 = .ok (.ishl, 1) := by decide +kernel
theorem dX11_basin_123 : decode cX11_basin 123 = .ok (.goto 4, 3) := by decide +kernel
theorem dX11_basin_126 : decode cX11_basin 126 = .ok (.iconst 0, 1) := by decide +kernel
theorem dX11_basin_127 : decode cX11_basin 127 = .ok (.ior, 1) := by decide +kernel
theorem dX11_basin_128 : decode cX11_basin 128 = .ok (.istore 6, 2) := by decide +kernel
theorem dX11_basin_130 : decode cX11_basin 130 = .ok (.iinc 7 1, 3) := by decide +kernel
theorem dX11_basin_133 : decode cX11_basin 133 = .ok (.goto (-100), 3) := by decide +kernel
theorem dX11_basin_136 : decode cX11_basin 136 = .ok (.aload_n 0, 1) := by decide +kernel
theorem dX11_basin_137 : decode cX11_basin 137 = .ok (.getfield 81, 3) := by decide +kernel
theorem dX11_basin_140 : decode cX11_basin 140 = .ok (.iload 5, 2) := by decide +kernel
theorem dX11_basin_142 : decode cX11_basin 142 = .ok (.i2l, 1) := by decide +kernel
theorem dX11_basin_143 : decode cX11_basin 143 = .ok (.iload 6, 2) := by decide +kernel
theorem dX11_basin_145 : decode cX11_basin 145 = .ok (.i2l, 1) := by decide +kernel
theorem dX11_basin_146 : decode cX11_basin 146 = .ok (.invokevirtual 257, 3) := by decide +kernel
theorem dX11_basin_149 : decode cX11_basin 149 = .ok (.iload 4, 2) := by decide +kernel
theorem dX11_basin_151 : decode cX11_basin 151 = .ok (.ireturn, 1) := by decide +kernel
theorem dX11_boat_0 : decode cX11_boat 0 = .ok (.aload_n 0, 1) := by decide +kernel
theorem dX11_boat_1 : decode cX11_boat 1 = .ok (.getfield 19, 3) := by decide +kernel
theorem dX11_boat_4 : decode cX11_boat 4 = .ok (.iload_n 1, 1) := by decide +kernel
theorem dX11_boat_5 : decode cX11_boat 5 = .ok (.invokevirtual 137, 3) := by decide +kernel
theorem dX11_boat_8 : decode cX11_boat 8 = .ok (.ifCond .eq 22, 3) := by decide +kernel
theorem dX11_boat_11 : decode cX11_boat 11 = .ok (.iconst 0, 1) := by decide +kernel
theorem dX11_boat_12 : decode cX11_boat 12 = .ok (.iload_n 2, 1) := by decide +kernel
theorem dX11_boat_13 : decode cX11_boat 13 = .ok (.invokestatic 227, 3) := by decide +kernel
theorem dX11_boat_16 : decode cX11_boat 16 = .ok (.ifCond .eq 14, 3) := by decide +kernel
theorem dX11_boat_19 : decode cX11_boat 19 = .ok (.aload_n 0, 1) := by decide +kernel
theorem dX11_boat_20 : decode cX11_boat 20 = .ok (.getfield 19, 3) := by decide +kernel
theorem dX11_boat_23 : decode cX11_boat 23 = .ok (.iload_n 3, 1) := by decide +kernel
theorem dX11_boat_24 : decode cX11_boat 24 = .ok (.invokevirtual 234, 3) := by decide +kernel
theorem dX11_boat_27 : decode cX11_boat 27 = .ok (.ifCond .ne 5, 3) := by decide +kernel
theorem dX11_boat_30 : decode cX11_boat 30 = .ok (.iconst (-1), 1) := by decide +kernel
theorem dX11_boat_31 : decode cX11_boat 31 = .ok (.ireturn, 1) := by decide +kernel
theorem dX11_boat_32 : decode cX11_boat 32 = .ok (.iconst 0, 1) := by decide +kernel
theorem dX11_boat_33 : decode cX11_boat 33 = .ok (.istore 4, 2) := by decide +kernel
theorem dX11_boat_35 : decode cX11_boat 35 = .ok (.iload 4, 2) := by decide +kernel
theorem dX11_boat_37 : decode cX11_boat 37 = .ok (.bipush 99, 2) := by decide +kernel
theorem dX11_boat_39 : decode cX11_boat 39 = .ok (.if_icmp .gt 45, 3) := by decide +kernel
theorem dX11_boat_42 : decode cX11_boat 42 = .ok (.aload_n 0, 1) := by decide +kernel
theorem dX11_boat_43 : decode cX11_boat 43 = .ok (.iload_n 1, 1) := by decide +kernel
theorem dX11_boat_44 : decode cX11_boat 44 = .ok (.iload 4, 2) := by decide +kernel
theorem dX11_boat_46 : decode cX11_boat 46 = .ok (.iload_n 2, 1) := by decide +kernel
theorem dX11_boat_47 : decode cX11_boat 47 = .ok (.iconst 0, 1) := by decide +kernel
theorem dX11_boat_48 : decode cX11_boat 48 = .ok (.invokevirtual 313, 3) := by decide +kernel
theorem dX11_boat_51 : decode cX11_boat 51 = .ok (.istore 5, 2) := by decide +kernel
theorem dX11_boat_53 : decode cX11_boat 53 = .ok (.iload 5, 2) := by decide +kernel
theorem dX11_boat_55 : decode cX11_boat 55 = .ok (.iload_n 3, 1) := by decide +kernel
theorem dX11_boat_56 : decode cX11_boat 56 = .ok (.invokestatic 317, 3) := by decide +kernel
theorem dX11_boat_59 : decode cX11_boat 59 = .ok (.ifCond .eq 19, 3) := by decide +kernel
theorem dX11_boat_62 : decode cX11_boat 62 = .ok (.aload_n 0, 1) := by decide +kernel
theorem dX11_boat_63 : decode cX11_boat 63 = .ok (.getfield 81, 3) := by decide +kernel
theorem dX11_boat_66 : decode cX11_boat 66 = .ok (.iload 5, 2) := by decide +kernel
theorem dX11_boat_68 : decode cX11_boat 68 = .ok (.invokestatic 320, 3) := by decide +kernel
theorem dX11_boat_71 : decode cX11_boat 71 = .ok (.i2l, 1) := by decide +kernel
theorem dX11_boat_72 : decode cX11_boat 72 = .ok (.invokevirtual 307, 3) := by decide +kernel
theorem dX11_boat_75 : decode cX11_boat 75 = .ok (.iload 4, 2) := by decide +kernel
theorem dX11_boat_77 : decode cX11_boat 77 = .ok (.ireturn, 1) := by decide +kernel
theorem dX11_boat_78 : decode cX11_boat 78 = .ok (.iinc 4 1, 3) := by decide +kernel
theorem dX11_boat_81 : decode cX11_boat 81 = .ok (.goto (-46), 3) := by decide +kernel
theorem dX11_boat_84 : decode cX11_boat 84 = .ok (.bipush (-2), 2) := by decide +kernel
theorem dX11_boat_86 : decode cX11_boat 86 = .ok (.ireturn, 1) := by decide +kernel
theorem dX11_coins_0 : decode cX11_coins 0 = .ok (.aload_n 0, 1) := by decide +kernel
theorem dX11_coins_1 : decode cX11_coins 1 = .ok (.getfield 19, 3) := by decide +kernel
theorem dX11_coins_4 : decode cX11_coins 4 = .ok (.iload_n 1, 1) := by decide +kernel
theorem dX11_coins_5 : decode cX11_coins 5 = .ok (.invokevirtual 137, 3) := by decide +kernel
theorem dX11_coins_8 : decode cX11_coins 8 = .ok (.ifCond .eq 22, 3) := by decide +kernel
theorem dX11_coins_11 : decode cX11_coins 11 = .ok (.iload_n 2, 1) := by decide +kernel
theorem dX11_coins_12 : decode cX11_coins 12 = .ok (.iconst 0, 1) := by decide +kernel
theorem dX11_coins_13 : decode cX11_coins 13 = .ok (.invokestatic 227, 3) := by decide +kernel
theorem dX11_coins_16 : decode cX11_coins 16 = .ok (.ifCond .eq 14, 3) := by decide +kernel
theorem dX11_coins_19 : decode cX11_coins 19 = .ok (.aload_n 0, 1) := by decide +kernel
theorem dX11_coins_20 : decode cX11_coins 20 = .ok (.getfield 19, 3) := by decide +kernel
theorem dX11_coins_23 : decode cX11_coins 23 = .ok (.iload_n 3, 1) := by decide +kernel
theorem dX11_coins_24 : decode cX11_coins 24 = .ok (.invokevirtual 234, 3) := by decide +kernel
theorem dX11_coins_27 : decode cX11_coins 27 = .ok (.ifCond .ne 5, 3) := by decide +kernel
theorem dX11_coins_30 : decode cX11_coins 30 = .ok (.iconst (-1), 1) := by decide +kernel
theorem dX11_coins_31 : decode cX11_coins 31 = .ok (.ireturn, 1) := by decide +kernel
theorem dX11_coins_32 : decode cX11_coins 32 = .ok (.iconst 0, 1) := by decide +kernel
theorem dX11_coins_33 : decode cX11_coins 33 = .ok (.istore 4, 2) := by decide +kernel
theorem dX11_coins_35 : decode cX11_coins 35 = .ok (.iload 4, 2) := by decide +kernel
theorem dX11_coins_37 : decode cX11_coins 37 = .ok (.bipush 9, 2) := by decide +kernel
theorem dX11_coins_39 : decode cX11_coins 39 = .ok (.if_icmp .gt 45, 3) := by decide +kernel
theorem dX11_coins_42 : decode cX11_coins 42 = .ok (.aload_n 0, 1) := by decide +kernel
theorem dX11_coins_43 : decode cX11_coins 43 = .ok (.iload_n 1, 1) := by decide +kernel
theorem dX11_coins_44 : decode cX11_coins 44 = .ok (.iload_n 2, 1) := by decide +kernel
theorem dX11_coins_45 : decode cX11_coins 45 = .ok (.iload 4, 2) := by decide +kernel
theorem dX11_coins_47 : decode cX11_coins 47 = .ok (.iconst 0, 1) := by decide +kernel
theorem dX11_coins_48 : decode cX11_coins 48 = .ok (.invokevirtual 313, 3) := by decide +kernel
theorem dX11_coins_51 : decode cX11_coins 51 = .ok (.istore 5, 2) := by decide +kernel
theorem dX11_coins_53 : decode cX11_coins 53 = .ok (.iload 5, 2) := by decide +kernel
theorem dX11_coins_55 : decode cX11_coins 55 = .ok (.iload_n 3, 1) := by decide +kernel
theorem dX11_coins_56 : decode cX11_coins 56 = .ok (.invokestatic 317, 3) := by decide +kernel
theorem dX11_coins_59 : decode cX11_coins 59 = .ok (.ifCond .eq 19, 3) := by decide +kernel
theorem dX11_coins_62 : decode cX11_coins 62 = .ok (.aload_n 0, 1) := by decide +kernel
theorem dX11_coins_63 : decode cX11_coins 63 = .ok (.getfield 81, 3) := by decide +kernel
theorem dX11_coins_66 : decode cX11_coins 66 = .ok (.iload 5, 2) := by decide +kernel
theorem dX11_coins_68 : decode cX11_coins 68 = .ok (.invokestatic 320, 3) := by decide +kernel
theorem dX11_coins_71 : decode cX11_coins 71 = .ok (.i2l, 1) := by decide +kernel
theorem dX11_coins_72 : decode cX11_coins 72 = .ok (.invokevirtual 307, 3) := by decide +kernel
theorem dX11_coins_75 : decode cX11_coins 75 = .ok (.iload 4, 2) := by decide +kernel
theorem dX11_coins_77 : decode cX11_coins 77 = .ok (.ireturn, 1) := by decide +kernel
theorem dX11_coins_78 : decode cX11_coins 78 = .ok (.iinc 4 1, 3) := by decide +kernel
theorem dX11_coins_81 : decode cX11_coins 81 = .ok (.goto (-46), 3) := by decide +kernel
theorem dX11_coins_84 : decode cX11_coins 84 = .ok (.bipush (-2), 2) := by decide +kernel
theorem dX11_coins_86 : decode cX11_coins 86 = .ok (.ireturn, 1) := by decide +kernel
theorem dX11_comes_0 : decode cX11_comes 0 = .ok (.aload_n 0, 1) := by decide +kernel
theorem dX11_comes_1 : decode cX11_comes 1 = .ok (.getfield 53, 3) := by decide +kernel
theorem dX11_comes_4 : decode cX11_comes 4 = .ok (.iload_n 1, 1) := by decide +kernel
theorem dX11_comes_5 : decode cX11_comes 5 = .ok (.invokevirtual 172, 3) := by decide +kernel
theorem dX11_comes_8 : decode cX11_comes 8 = .ok (.ifCond .ne 5, 3) := by decide +kernel
theorem dX11_comes_11 : decode cX11_comes 11 = .ok (.iconst (-1), 1) := by decide +kernel
theorem dX11_comes_12 : decode cX11_comes 12 = .ok (.ireturn, 1) := by decide +kernel
theorem dX11_comes_13 : decode cX11_comes 13 = .ok (.aload_n 0, 1) := by decide +kernel
theorem dX11_comes_14 : decode cX11_comes 14 = .ok (.getfield 99, 3) := by decide +kernel
theorem dX11_comes_17 : decode cX11_comes 17 = .ok (.aload_n 0, 1) := by decide +kernel
theorem dX11_comes_18 : decode cX11_comes 18 = .ok (.getfield 53, 3) := by decide +kernel
theorem dX11_comes_21 : decode cX11_comes 21 = .ok (.iload_n 1, 1) := by decide +kernel
theorem dX11_comes_22 : decode cX11_comes 22 = .ok (.invokevirtual 303, 3) := by decide +kernel
theorem dX11_comes_25 : decode cX11_comes 25 = .ok (.istore_n 2, 1) := by decide +kernel
theorem dX11_comes_26 : decode cX11_comes 26 = .ok (.aload_n 0, 1) := by decide +kernel
theorem dX11_comes_27 : decode cX11_comes 27 = .ok (.getfield 99, 3) := by decide +kernel
theorem dX11_comes_30 : decode cX11_comes 30 = .ok (.getfield 297, 3) := by decide +kernel
theorem dX11_comes_33 : decode cX11_comes 33 = .ok (.astore_n 3, 1) := by decide +kernel
theorem dX11_comes_34 : decode cX11_comes 34 = .ok (.aload_n 3, 1) := by decide +kernel
theorem dX11_comes_35 : decode cX11_comes 35 = .ok (.iload_n 1, 1) := by decide +kernel
theorem dX11_comes_36 : decode cX11_comes 36 = .ok (.invokevirtual 187, 3) := by decide +kernel
theorem dX11_comes_39 : decode cX11_comes 39 = .ok (.istore 4, 2) := by decide +kernel
theorem dX11_comes_41 : decode cX11_comes 41 = .ok (.iload 4, 2) := by decide +kernel
theorem dX11_comes_43 : decode cX11_comes 43 = .ok (.iconst 1, 1) := by decide +kernel
theorem dX11_comes_44 : decode cX11_comes 44 = .ok (.if_icmp .ne 24, 3) := by decide +kernel
theorem dX11_comes_47 : decode cX11_comes 47 = .ok (.aload_n 0, 1) := by decide +kernel
theorem dX11_comes_48 : decode cX11_comes 48 = .ok (.getfield 81, 3) := by decide +kernel
theorem dX11_comes_51 : decode cX11_comes 51 = .ok (.aload_n 3, 1) := by decide +kernel
theorem dX11_comes_52 : decode cX11_comes 52 = .ok (.iload_n 1, 1) := by decide +kernel
theorem dX11_comes_53 : decode cX11_comes 53 = .ok (.invokevirtual 175, 3) := by decide +kernel
theorem dX11_comes_56 : decode cX11_comes 56 = .ok (.i2l, 1) := by decide +kernel
theorem dX11_comes_57 : decode cX11_comes 57 = .ok (.aload_n 3, 1) := by decide +kernel
theorem dX11_comes_58 : decode cX11_comes 58 = .ok (.iload_n 1, 1) := by decide +kernel
theorem dX11_comes_59 : decode cX11_comes 59 = .ok (.invokevirtual 184, 3) := by decide +kernel
theorem dX11_comes_62 : decode cX11_comes 62 = .ok (.i2l, 1) := by decide +kernel
theorem dX11_comes_63 : decode cX11_comes 63 = .ok (.invokevirtual 257, 3) := by decide +kernel
theorem dX11_comes_66 : decode cX11_comes 66 = .ok (.iload_n 2, 1) := by decide +kernel
theorem dX11_comes_67 : decode cX11_comes 67 = .ok (.ireturn, 1) := by decide +kernel
theorem dX11_comes_68 : decode cX11_comes 68 = .ok (.aload_n 0, 1) := by decide +kernel
theorem dX11_comes_69 : decode cX11_comes 69 = .ok (.getfield 81, 3) := by decide +kernel
theorem dX11_comes_72 : decode cX11_comes 72 = .ok (.aload_n 3, 1) := by decide +kernel
theorem dX11_comes_73 : decode cX11_comes 73 = .ok (.iload_n 1, 1) := by decide +kernel
theorem dX11_comes_74 : decode cX11_comes 74 = .ok (.invokevirtual 175, 3) := by decide +kernel
theorem dX11_comes_77 : decode cX11_comes 77 = .ok (.i2l, 1) := by decide +kernel
theorem dX11_comes_78 : decode cX11_comes 78 = .ok (.invokevirtual 307, 3) := by decide +kernel
theorem dX11_comes_81 : decode cX11_comes 81 = .ok (.iload 4, 2) := by decide +kernel
theorem dX11_comes_83 : decode cX11_comes 83 = .ok (.iconst 2, 1) := by decide +kernel
theorem dX11_comes_84 : decode cX11_comes 84 = .ok (.if_icmp .ne 8, 3) := by decide +kernel
theorem dX11_comes_87 : decode cX11_comes 87 = .ok (.bipush (-2), 2) := by decide +kernel
theorem dX11_comes_89 : decode cX11_comes 89 = .ok (.goto 5, 3) := by decide +kernel
theorem dX11_comes_92 : decode cX11_comes 92 = .ok (.bipush (-3), 2) := by decide +kernel
theorem dX11_comes_94 : decode cX11_comes 94 = .ok (.ireturn, 1) := by decide +kernel
theorem dX11_commonDivisor_0 : decode cX11_commonDivisor 0 = .ok (.iload_n 0, 1) := by decide +kernel
theorem dX11_commonDivisor_1 : decode cX11_commonDivisor 1 = .ok (.istore_n 2, 1) := by decide +kernel
theorem dX11_commonDivisor_2 : decode cX11_commonDivisor 2 = .ok (.iload_n 1, 1) := by decide +kernel
theorem dX11_commonDivisor_3 : decode cX11_commonDivisor 3 = .ok (.istore_n 3, 1) := by decide +kernel
theorem dX11_commonDivisor_4 : decode cX11_commonDivisor 4 = .ok (.iconst 0, 1) := by decide +kernel
theorem dX11_commonDivisor_5 : decode cX11_commonDivisor 5 = .ok (.istore 4, 2) := by decide +kernel
theorem dX11_commonDivisor_7 : decode cX11_commonDivisor 7 = .ok (.iload 4, 2) := by decide +kernel
theorem dX11_commonDivisor_9 : decode cX11_commonDivisor 9 = .ok (.bipush 100, 2) := by decide +kernel
theorem dX11_commonDivisor_11 : decode cX11_commonDivisor 11 = .ok (.if_icmp .ge 23, 3) := by decide +kernel
theorem dX11_commonDivisor_14 : decode cX11_commonDivisor 14 = .ok (.iload_n 3, 1) := by decide +kernel
theorem dX11_commonDivisor_15 : decode cX11_commonDivisor 15 = .ok (.ifCond .eq 19, 3) := by decide +kernel
theorem dX11_commonDivisor_18 : decode cX11_commonDivisor 18 = .ok (.iload_n 2, 1) := by decide +kernel
theorem dX11_commonDivisor_19 : decode cX11_commonDivisor 19 = .ok (.iload_n 3, 1) := by decide +kernel
theorem dX11_commonDivisor_20 : decode cX11_commonDivisor 20 = .ok (.irem, 1) := by decide +kernel
theorem dX11_commonDivisor_21 : decode cX11_commonDivisor 21 = .ok (.istore 5, 2) := by decide +kernel
theorem dX11_commonDivisor_23 : decode cX11_commonDivisor 23 = .ok (.iload_n 3, 1) := by decide +kernel
theorem dX11_commonDivisor_24 : decode cX11_commonDivisor 24 = .ok (.istore_n 2, 1) := by decide +kernel
theorem dX11_commonDivisor_25 : decode cX11_commonDivisor 25 = .ok (.iload 5, 2) := by decide +kernel
theorem dX11_commonDivisor_27 : decode cX11_commonDivisor 27 = .ok (.istore_n 3, 1) := by decide +kernel
theorem dX11_commonDivisor_28 : decode cX11_commonDivisor 28 = .ok (.iinc 4 1, 3) := by decide +kernel
theorem dX11_commonDivisor_31 : decode cX11_commonDivisor 31 = .ok (.goto (-24), 3) := by decide +kernel
theorem dX11_commonDivisor_34 : decode cX11_commonDivisor 34 = .ok (.iconst 1, 1) := by decide +kernel
theorem dX11_commonDivisor_35 : decode cX11_commonDivisor 35 = .ok (.iload_n 2, 1) := by decide +kernel
theorem dX11_commonDivisor_36 : decode cX11_commonDivisor 36 = .ok (.invokestatic 224, 3) := by decide +kernel
theorem dX11_commonDivisor_39 : decode cX11_commonDivisor 39 = .ok (.ireturn, 1) := by decide +kernel
theorem dX11_cork_0 : decode cX11_cork 0 = .ok (.iload_n 3, 1) := by decide +kernel
theorem dX11_cork_1 : decode cX11_cork 1 = .ok (.iconst (-1), 1) := by decide +kernel
theorem dX11_cork_2 : decode cX11_cork 2 = .ok (.if_icmp .eq 14, 3) := by decide +kernel
theorem dX11_cork_5 : decode cX11_cork 5 = .ok (.aload_n 0, 1) := by decide +kernel
theorem dX11_cork_6 : decode cX11_cork 6 = .ok (.getfield 19, 3) := by decide +kernel
theorem dX11_cork_9 : decode cX11_cork 9 = .ok (.iload_n 3, 1) := by decide +kernel
theorem dX11_cork_10 : decode cX11_cork 10 = .ok (.invokevirtual 234, 3) := by decide +kernel
theorem dX11_cork_13 : decode cX11_cork 13 = .ok (.ifCond .eq 7, 3) := by decide +kernel
theorem dX11_cork_16 : decode cX11_cork 16 = .ok (.iconst 1, 1) := by decide +kernel
theorem dX11_cork_17 : decode cX11_cork 17 = .ok (.goto 4, 3) := by decide +kernel
theorem dX11_cork_20 : decode cX11_cork 20 = .ok (.iconst 0, 1) := by decide +kernel
theorem dX11_cork_21 : decode cX11_cork 21 = .ok (.istore 4, 2) := by decide +kernel
theorem dX11_cork_23 : decode cX11_cork 23 = .ok (.aload_n 0, 1) := by decide +kernel
theorem dX11_cork_24 : decode cX11_cork 24 = .ok (.getfield 19, 3) := by decide +kernel
theorem dX11_cork_27 : decode cX11_cork 27 = .ok (.iload_n 1, 1) := by decide +kernel
theorem dX11_cork_28 : decode cX11_cork 28 = .ok (.invokevirtual 137, 3) := by decide +kernel
theorem dX11_cork_31 : decode cX11_cork 31 = .ok (.ifCond .eq 15, 3) := by decide +kernel
theorem dX11_cork_34 : decode cX11_cork 34 = .ok (.iload_n 2, 1) := by decide +kernel
theorem dX11_cork_35 : decode cX11_cork 35 = .ok (.invokestatic 366, 3) := by decide +kernel
theorem dX11_cork_38 : decode cX11_cork 38 = .ok (.ifCond .eq 8, 3) := by decide +kernel
theorem dX11_cork_41 : decode cX11_cork 41 = .ok (.iload 4, 2) := by decide +kernel
theorem dX11_cork_43 : decode cX11_cork 43 = .ok (.ifCond .ne 5, 3) := by decide +kernel
theorem dX11_cork_46 : decode cX11_cork 46 = .ok (.iconst (-1), 1) := by decide +kernel
theorem dX11_cork_47 : decode cX11_cork 47 = .ok (.ireturn, 1) := by decide +kernel
theorem dX11_cork_48 : decode cX11_cork 48 = .ok (.aload_n 0, 1) := by decide +kernel
theorem dX11_cork_49 : decode cX11_cork 49 = .ok (.getfield 74, 3) := by decide +kernel
theorem dX11_cork_52 : decode cX11_cork 52 = .ok (.iload_n 1, 1) := by decide +kernel
theorem dX11_cork_53 : decode cX11_cork 53 = .ok (.iload_n 2, 1) := by decide +kernel
theorem dX11_cork_54 : decode cX11_cork 54 = .ok (.iload_n 3, 1) := by decide +kernel
theorem dX11_cork_55 : decode cX11_cork 55 = .ok (.invokevirtual 369, 3) := by decide +kernel
theorem dX11_cork_58 : decode cX11_cork 58 = .ok (.ifCond .eq 13, 3) := by decide +kernel
theorem dX11_cork_61 : decode cX11_cork 61 = .ok (.aload_n 0, 1) := by decide +kernel
theorem dX11_cork_62 : decode cX11_cork 62 = .ok (.getfield 74, 3) := by decide +kernel
theorem dX11_cork_65 : decode cX11_cork 65 = .ok (.getfield 126, 3) := by decide +kernel
theorem dX11_cork_68 : decode cX11_cork 68 = .ok (.goto 4, 3) := by decide +kernel
theorem dX11_cork_71 : decode cX11_cork 71 = .ok (.iconst (-1), 1) := by decide +kernel
theorem dX11_cork_72 : decode cX11_cork 72 = .ok (.ireturn, 1) := by decide +kernel
theorem dX11_count_0 : decode cX11_count 0 = .ok (.iload_n 1, 1) := by decide +kernel
theorem dX11_count_1 : decode cX11_count 1 = .ok (.tableswitch 159 0 11 #[63, 71, 79, 87, 95, 103, 111, 119, 127, 135, 143, 151], 63) := by decide +kernel
theorem dX11_count_64 : decode cX11_count 64 = .ok (.aload_n 0, 1) := by decide +kernel
theorem dX11_count_65 : decode cX11_count 65 = .ok (.getfield 19, 3) := by decide +kernel
theorem dX11_count_68 : decode cX11_count 68 = .ok (.getfield 323, 3) := by decide +kernel
theorem dX11_count_71 : decode cX11_count 71 = .ok (.ireturn, 1) := by decide +kernel
theorem dX11_count_72 : decode cX11_count 72 = .ok (.aload_n 0, 1) := by decide +kernel
theorem dX11_count_73 : decode cX11_count 73 = .ok (.getfield 53, 3) := by decide +kernel
theorem dX11_count_76 : decode cX11_count 76 = .ok (.getfield 208, 3) := by decide +kernel
theorem dX11_count_79 : decode cX11_count 79 = .ok (.ireturn, 1) := by decide +kernel
theorem dX11_count_80 : decode cX11_count 80 = .ok (.aload_n 0, 1) := by decide +kernel
theorem dX11_count_81 : decode cX11_count 81 = .ok (.getfield 53, 3) := by decide +kernel
theorem dX11_count_84 : decode cX11_count 84 = .ok (.getfield 324, 3) := by decide +kernel
theorem dX11_count_87 : decode cX11_count 87 = .ok (.ireturn, 1) := by decide +kernel
theorem dX11_count_88 : decode cX11_count 88 = .ok (.aload_n 0, 1) := by decide +kernel
theorem dX11_count_89 : decode cX11_count 89 = .ok (.getfield 19, 3) := by decide +kernel
theorem dX11_count_92 : decode cX11_count 92 = .ok (.getfield 375, 3) := by decide +kernel
theorem dX11_count_95 : decode cX11_count 95 = .ok (.ireturn, 1) := by decide +kernel
theorem dX11_count_96 : decode cX11_count 96 = .ok (.aload_n 0, 1) := by decide +kernel
theorem dX11_count_97 : decode cX11_count 97 = .ok (.getfield 53, 3) := by decide +kernel
theorem dX11_count_100 : decode cX11_count 100 = .ok (.getfield 157, 3) := by decide +kernel
theorem dX11_count_103 : decode cX11_count 103 = .ok (.ireturn, 1) := by decide +kernel
theorem dX11_count_104 : decode cX11_count 104 = .ok (.aload_n 0, 1) := by decide +kernel
theorem dX11_count_105 : decode cX11_count 105 = .ok (.getfield 53, 3) := by decide +kernel
theorem dX11_count_108 : decode cX11_count 108 = .ok (.invokevirtual 166, 3) := by decide +kernel
theorem dX11_count_111 : decode cX11_count 111 = .ok (.ireturn, 1) := by decide +kernel
theorem dX11_count_112 : decode cX11_count 112 = .ok (.aload_n 0, 1) := by decide +kernel
theorem dX11_count_113 : decode cX11_count 113 = .ok (.getfield 53, 3) := by decide +kernel
theorem dX11_count_116 : decode cX11_count 116 = .ok (.getfield 247, 3) := by decide +kernel
theorem dX11_count_119 : decode cX11_count 119 = .ok (.ireturn, 1) := by decide +kernel
theorem dX11_count_120 : decode cX11_count 120 = .ok (.aload_n 0, 1) := by decide +kernel
theorem dX11_count_121 : decode cX11_count 121 = .ok (.getfield 53, 3) := by decide +kernel
theorem dX11_count_124 : decode cX11_count 124 = .ok (.getfield 250, 3) := by decide +kernel
theorem dX11_count_127 : decode cX11_count 127 = .ok (.ireturn, 1) := by decide +kernel
theorem dX11_count_128 : decode cX11_count 128 = .ok (.aload_n 0, 1) := by decide +kernel
theorem dX11_count_129 : decode cX11_count 129 = .ok (.getfield 63, 3) := by decide +kernel
theorem dX11_count_132 : decode cX11_count 132 = .ok (.getfield 287, 3) := by decide +kernel
theorem dX11_count_135 : decode cX11_count 135 = .ok (.ireturn, 1) := by decide +kernel
theorem dX11_count_136 : decode cX11_count 136 = .ok (.aload_n 0, 1) := by decide +kernel
theorem dX11_count_137 : decode cX11_count 137 = .ok (.getfield 74, 3) := by decide +kernel
theorem dX11_count_140 : decode cX11_count 140 = .ok (.getfield 126, 3) := by decide +kernel
theorem dX11_count_143 : decode cX11_count 143 = .ok (.ireturn, 1) := by decide +kernel
theorem dX11_count_144 : decode cX11_count 144 = .ok (.aload_n 0, 1) := by decide +kernel
theorem dX11_count_145 : decode cX11_count 145 = .ok (.getfield 81, 3) := by decide +kernel
theorem dX11_count_148 : decode cX11_count 148 = .ok (.getfield 423, 3) := by decide +kernel
theorem dX11_count_151 : decode cX11_count 151 = .ok (.ireturn, 1) := by decide +kernel
theorem dX11_count_152 : decode cX11_count 152 = .ok (.aload_n 0, 1) := by decide +kernel
theorem dX11_count_153 : decode cX11_count 153 = .ok (.getfield 12, 3) := by decide +kernel
theorem dX11_count_156 : decode cX11_count 156 = .ok (.getfield 107, 3) := by decide +kernel
theorem dX11_count_159 : decode cX11_count 159 = .ok (.ireturn, 1) := by decide +kernel
theorem dX11_count_160 : decode cX11_count 160 = .ok (.bipush (-100), 2) := by decide +kernel
theorem dX11_count_162 : decode cX11_count 162 = .ok (.ireturn, 1) := by decide +kernel
theorem dX11_isCorkMinute_0 : decode cX11_isCorkMinute 0 = .ok (.iload_n 0, 1) := by decide +kernel
theorem dX11_isCorkMinute_1 : decode cX11_isCorkMinute 1 = .ok (.ifCond .lt 14, 3) := by decide +kernel
theorem dX11_isCorkMinute_4 : decode cX11_isCorkMinute 4 = .ok (.iload_n 0, 1) := by decide +kernel
theorem dX11_isCorkMinute_5 : decode cX11_isCorkMinute 5 = .ok (.sipush 999, 3) := by decide +kernel
theorem dX11_isCorkMinute_8 : decode cX11_isCorkMinute 8 = .ok (.if_icmp .gt 7, 3) := by decide +kernel
theorem dX11_isCorkMinute_11 : decode cX11_isCorkMinute 11 = .ok (.iconst 1, 1) := by decide +kernel
theorem dX11_isCorkMinute_12 : decode cX11_isCorkMinute 12 = .ok (.goto 4, 3) := by decide +kernel
theorem dX11_isCorkMinute_15 : decode cX11_isCorkMinute 15 = .ok (.iconst 0, 1) := by decide +kernel
theorem dX11_isCorkMinute_16 : decode cX11_isCorkMinute 16 = .ok (.ireturn, 1) := by decide +kernel
theorem dX11_isIn_0 : decode cX11_isIn 0 = .ok (.iload_n 0, 1) := by decide +kernel
theorem dX11_isIn_1 : decode cX11_isIn 1 = .ok (.ifCond .lt 15, 3) := by decide +kernel
theorem dX11_isIn_4 : decode cX11_isIn 4 = .ok (.iload_n 0, 1) := by decide +kernel
theorem dX11_isIn_5 : decode cX11_isIn 5 = .ok (.bipush 16, 2) := by decide +kernel
theorem dX11_isIn_7 : decode cX11_isIn 7 = .ok (.irem, 1) := by decide +kernel
theorem dX11_isIn_8 : decode cX11_isIn 8 = .ok (.iload_n 1, 1) := by decide +kernel
theorem dX11_isIn_9 : decode cX11_isIn 9 = .ok (.if_icmp .ne 7, 3) := by decide +kernel
theorem dX11_isIn_12 : decode cX11_isIn 12 = .ok (.iconst 1, 1) := by decide +kernel
theorem dX11_isIn_13 : decode cX11_isIn 13 = .ok (.goto 4, 3) := by decide +kernel
theorem dX11_isIn_16 : decode cX11_isIn 16 = .ok (.iconst 0, 1) := by decide +kernel
theorem dX11_isIn_17 : decode cX11_isIn 17 = .ok (.ireturn, 1) := by decide +kernel
theorem dX11_minutesOf_0 : decode cX11_minutesOf 0 = .ok (.iload_n 0, 1) := by decide +kernel
theorem dX11_minutesOf_1 : decode cX11_minutesOf 1 = .ok (.bipush 16, 2) := by decide +kernel
theorem dX11_minutesOf_3 : decode cX11_minutesOf 3 = .ok (.idiv, 1) := by decide +kernel
theorem dX11_minutesOf_4 : decode cX11_minutesOf 4 = .ok (.ireturn, 1) := by decide +kernel
theorem dX11_sailed_0 : decode cX11_sailed 0 = .ok (.aload_n 0, 1) := by decide +kernel
theorem dX11_sailed_1 : decode cX11_sailed 1 = .ok (.getfield 99, 3) := by decide +kernel
theorem dX11_sailed_4 : decode cX11_sailed 4 = .ok (.iload_n 1, 1) := by decide +kernel
theorem dX11_sailed_5 : decode cX11_sailed 5 = .ok (.iload_n 2, 1) := by decide +kernel
theorem dX11_sailed_6 : decode cX11_sailed 6 = .ok (.iload_n 3, 1) := by decide +kernel
theorem dX11_sailed_7 : decode cX11_sailed 7 = .ok (.iload 4, 2) := by decide +kernel
theorem dX11_sailed_9 : decode cX11_sailed 9 = .ok (.aload_n 0, 1) := by decide +kernel
theorem dX11_sailed_10 : decode cX11_sailed 10 = .ok (.getfield 53, 3) := by decide +kernel
theorem dX11_sailed_13 : decode cX11_sailed 13 = .ok (.getfield 324, 3) := by decide +kernel
theorem dX11_sailed_16 : decode cX11_sailed 16 = .ok (.invokevirtual 327, 3) := by decide +kernel
theorem dX11_sailed_19 : decode cX11_sailed 19 = .ok (.aload_n 0, 1) := by decide +kernel
theorem dX11_sailed_20 : decode cX11_sailed 20 = .ok (.getfield 99, 3) := by decide +kernel
theorem dX11_sailed_23 : decode cX11_sailed 23 = .ok (.aload_n 0, 1) := by decide +kernel
theorem dX11_sailed_24 : decode cX11_sailed 24 = .ok (.getfield 53, 3) := by decide +kernel
theorem dX11_sailed_27 : decode cX11_sailed 27 = .ok (.getfield 157, 3) := by decide +kernel
theorem dX11_sailed_30 : decode cX11_sailed 30 = .ok (.invokevirtual 420, 3) := by decide +kernel
theorem dX11_sailed_33 : decode cX11_sailed 33 = .ok (.ireturn, 1) := by decide +kernel
theorem dX1_arrives_0 : decode cX1_arrives 0 = .ok (.aload_n 0, 1) := by decide +kernel
theorem dX1_arrives_1 : decode cX1_arrives 1 = .ok (.getfield 136, 3) := by decide +kernel
theorem dX1_arrives_4 : decode cX1_arrives 4 = .ok (.ifCond .eq 11, 3) := by decide +kernel
theorem dX1_arrives_7 : decode cX1_arrives 7 = .ok (.aload_n 1, 1) := by decide +kernel
theorem dX1_arrives_8 : decode cX1_arrives 8 = .ok (.iload_n 2, 1) := by decide +kernel
theorem dX1_arrives_9 : decode cX1_arrives 9 = .ok (.invokevirtual 115, 3) := by decide +kernel
theorem dX1_arrives_12 : decode cX1_arrives 12 = .ok (.goto 11, 3) := by decide +kernel
theorem dX1_arrives_15 : decode cX1_arrives 15 = .ok (.aload_n 1, 1) := by decide +kernel
theorem dX1_arrives_16 : decode cX1_arrives 16 = .ok (.iload_n 2, 1) := by decide +kernel
theorem dX1_arrives_17 : decode cX1_arrives 17 = .ok (.invokevirtual 115, 3) := by decide +kernel
theorem dX1_arrives_20 : decode cX1_arrives 20 = .ok (.iload 4, 2) := by decide +kernel
theorem dX1_arrives_22 : decode cX1_arrives 22 = .ok (.isub, 1) := by decide +kernel
theorem dX1_arrives_23 : decode cX1_arrives 23 = .ok (.istore 5, 2) := by decide +kernel
theorem dX1_arrives_25 : decode cX1_arrives 25 = .ok (.aload_n 1, 1) := by decide +kernel
theorem dX1_arrives_26 : decode cX1_arrives 26 = .ok (.iload_n 2, 1) := by decide +kernel
theorem dX1_arrives_27 : decode cX1_arrives 27 = .ok (.iconst 0, 1) := by decide +kernel
theorem dX1_arrives_28 : decode cX1_arrives 28 = .ok (.iload 5, 2) := by decide +kernel
theorem dX1_arrives_30 : decode cX1_arrives 30 = .ok (.invokestatic 143, 3) := by decide +kernel
theorem dX1_arrives_33 : decode cX1_arrives 33 = .ok (.invokevirtual 146, 3) := by decide +kernel
theorem dX1_arrives_36 : decode cX1_arrives 36 = .ok (.aload_n 1, 1) := by decide +kernel
theorem dX1_arrives_37 : decode cX1_arrives 37 = .ok (.iload_n 2, 1) := by decide +kernel
theorem dX1_arrives_38 : decode cX1_arrives 38 = .ok (.iload_n 3, 1) := by decide +kernel
theorem dX1_arrives_39 : decode cX1_arrives 39 = .ok (.invokevirtual 149, 3) := by decide +kernel
theorem dX1_arrives_42 : decode cX1_arrives 42 = .ok (.iload 5, 2) := by decide +kernel
theorem dX1_arrives_44 : decode cX1_arrives 44 = .ok (.ifCond .ge 10, 3) := by decide +kernel
theorem dX1_arrives_47 : decode cX1_arrives 47 = .ok (.aload_n 1, 1) := by decide +kernel
theorem dX1_arrives_48 : decode cX1_arrives 48 = .ok (.iload_n 2, 1) := by decide +kernel
theorem dX1_arrives_49 : decode cX1_arrives 49 = .ok (.invokevirtual 92, 3) := by decide +kernel
theorem dX1_arrives_52 : decode cX1_arrives 52 = .ok (.iconst 0, 1) := by decide +kernel
theorem dX1_arrives_53 : decode cX1_arrives 53 = .ok (.ireturn, 1) := by decide +kernel
theorem dX1_arrives_54 : decode cX1_arrives 54 = .ok (.aload_n 0, 1) := by decide +kernel
theorem dX1_arrives_55 : decode cX1_arrives 55 = .ok (.getfield 17, 3) := by decide +kernel
theorem dX1_arrives_58 : decode cX1_arrives 58 = .ok (.iload_n 3, 1) := by decide +kernel
theorem dX1_arrives_59 : decode cX1_arrives 59 = .ok (.invokevirtual 152, 3) := by decide +kernel
theorem dX1_arrives_62 : decode cX1_arrives 62 = .ok (.ifCond .eq 10, 3) := by decide +kernel
theorem dX1_arrives_65 : decode cX1_arrives 65 = .ok (.aload_n 1, 1) := by decide +kernel
theorem dX1_arrives_66 : decode cX1_arrives 66 = .ok (.iload_n 2, 1) := by decide +kernel
theorem dX1_arrives_67 : decode cX1_arrives 67 = .ok (.invokevirtual 155, 3) := by decide +kernel
theorem dX1_arrives_70 : decode cX1_arrives 70 = .ok (.iconst 0, 1) := by decide +kernel
theorem dX1_arrives_71 : decode cX1_arrives 71 = .ok (.ireturn, 1) := by decide +kernel
theorem dX1_arrives_72 : decode cX1_arrives 72 = .ok (.iconst 1, 1) := by decide +kernel
theorem dX1_arrives_73 : decode cX1_arrives 73 = .ok (.ireturn, 1) := by decide +kernel
theorem dX1_pass_0 : decode cX1_pass 0 = .ok (.aload_n 0, 1) := by decide +kernel
theorem dX1_pass_1 : decode cX1_pass 1 = .ok (.aload_n 1, 1) := by decide +kernel
theorem dX1_pass_2 : decode cX1_pass 2 = .ok (.getfield 52, 3) := by decide +kernel
theorem dX1_pass_5 : decode cX1_pass 5 = .ok (.invokevirtual 57, 3) := by decide +kernel
theorem dX1_pass_8 : decode cX1_pass 8 = .ok (.istore_n 2, 1) := by decide +kernel
theorem dX1_pass_9 : decode cX1_pass 9 = .ok (.iconst 0, 1) := by decide +kernel
theorem dX1_pass_10 : decode cX1_pass 10 = .ok (.istore_n 3, 1) := by decide +kernel
theorem dX1_pass_11 : decode cX1_pass 11 = .ok (.iload_n 3, 1) := by decide +kernel
theorem dX1_pass_12 : decode cX1_pass 12 = .ok (.aload_n 1, 1) := by decide +kernel
theorem dX1_pass_13 : decode cX1_pass 13 = .ok (.getfield 60, 3) := by decide +kernel
theorem dX1_pass_16 : decode cX1_pass 16 = .ok (.if_icmp .ge 49, 3) := by decide +kernel
theorem dX1_pass_19 : decode cX1_pass 19 = .ok (.iload_n 2, 1) := by decide +kernel
theorem dX1_pass_20 : decode cX1_pass 20 = .ok (.ifCond .le 45, 3) := by decide +kernel
theorem dX1_pass_23 : decode cX1_pass 23 = .ok (.aload_n 1, 1) := by decide +kernel
theorem dX1_pass_24 : decode cX1_pass 24 = .ok (.iload_n 3, 1) := by decide +kernel
theorem dX1_pass_25 : decode cX1_pass 25 = .ok (.invokevirtual 63, 3) := by decide +kernel
theorem dX1_pass_28 : decode cX1_pass 28 = .ok (.istore 4, 2) := by decide +kernel
theorem dX1_pass_30 : decode cX1_pass 30 = .ok (.iconst 0, 1) := by decide +kernel
theorem dX1_pass_31 : decode cX1_pass 31 = .ok (.istore 5, 2) := by decide +kernel
theorem dX1_pass_33 : decode cX1_pass 33 = .ok (.iload 5, 2) := by decide +kernel
theorem dX1_pass_35 : decode cX1_pass 35 = .ok (.iload_n 2, 1) := by decide +kernel
theorem dX1_pass_36 : decode cX1_pass 36 = .ok (.if_icmp .ge 23, 3) := by decide +kernel
theorem dX1_pass_39 : decode cX1_pass 39 = .ok (.iload 4, 2) := by decide +kernel
theorem dX1_pass_41 : decode cX1_pass 41 = .ok (.ifCond .eq 18, 3) := by decide +kernel
theorem dX1_pass_44 : decode cX1_pass 44 = .ok (.aload_n 0, 1) := by decide +kernel
theorem dX1_pass_45 : decode cX1_pass 45 = .ok (.aload_n 1, 1) := by decide +kernel
theorem dX1_pass_46 : decode cX1_pass 46 = .ok (.iload_n 3, 1) := by decide +kernel
theorem dX1_pass_47 : decode cX1_pass 47 = .ok (.iload_n 2, 1) := by decide +kernel
theorem dX1_pass_48 : decode cX1_pass 48 = .ok (.invokevirtual 67, 3) := by decide +kernel
theorem dX1_pass_51 : decode cX1_pass 51 = .ok (.istore 4, 2) := by decide +kernel
theorem dX1_pass_53 : decode cX1_pass 53 = .ok (.iinc 5 1, 3) := by decide +kernel
theorem dX1_pass_56 : decode cX1_pass 56 = .ok (.goto (-23), 3) := by decide +kernel
theorem dX1_pass_59 : decode cX1_pass 59 = .ok (.iinc 3 1, 3) := by decide +kernel
theorem dX1_pass_62 : decode cX1_pass 62 = .ok (.goto (-51), 3) := by decide +kernel
theorem dX1_pass_65 : decode cX1_pass 65 = .ok (.aload_n 1, 1) := by decide +kernel
theorem dX1_pass_66 : decode cX1_pass 66 = .ok (.dup, 1) := by decide +kernel
theorem dX1_pass_67 : decode cX1_pass 67 = .ok (.getfield 52, 3) := by decide +kernel
theorem dX1_pass_70 : decode cX1_pass 70 = .ok (.iconst 1, 1) := by decide +kernel
theorem dX1_pass_71 : decode cX1_pass 71 = .ok (.iadd, 1) := by decide +kernel
theorem dX1_pass_72 : decode cX1_pass 72 = .ok (.putfield 52, 3) := by decide +kernel
theorem dX1_pass_75 : decode cX1_pass 75 = .ok (.return_, 1) := by decide +kernel
theorem dX1_step_0 : decode cX1_step 0 = .ok (.aload_n 1, 1) := by decide +kernel
theorem dX1_step_1 : decode cX1_step 1 = .ok (.iload_n 2, 1) := by decide +kernel
theorem dX1_step_2 : decode cX1_step 2 = .ok (.invokevirtual 71, 3) := by decide +kernel
theorem dX1_step_5 : decode cX1_step 5 = .ok (.istore 4, 2) := by decide +kernel
theorem dX1_step_7 : decode cX1_step 7 = .ok (.aload_n 0, 1) := by decide +kernel
theorem dX1_step_8 : decode cX1_step 8 = .ok (.getfield 17, 3) := by decide +kernel
theorem dX1_step_11 : decode cX1_step 11 = .ok (.iload 4, 2) := by decide +kernel
theorem dX1_step_13 : decode cX1_step 13 = .ok (.invokevirtual 74, 3) := by decide +kernel
theorem dX1_step_16 : decode cX1_step 16 = .ok (.istore 5, 2) := by decide +kernel
theorem dX1_step_18 : decode cX1_step 18 = .ok (.aload_n 0, 1) := by decide +kernel
theorem dX1_step_19 : decode cX1_step 19 = .ok (.getfield 17, 3) := by decide +kernel
theorem dX1_step_22 : decode cX1_step 22 = .ok (.iload 4, 2) := by decide +kernel
theorem dX1_step_24 : decode cX1_step 24 = .ok (.invokevirtual 79, 3) := by decide +kernel
theorem dX1_step_27 : decode cX1_step 27 = .ok (.istore 6, 2) := by decide +kernel
theorem dX1_step_29 : decode cX1_step 29 = .ok (.iconst 1, 1) := by decide +kernel
theorem dX1_step_30 : decode cX1_step 30 = .ok (.istore 7, 2) := by decide +kernel
theorem dX1_step_32 : decode cX1_step 32 = .ok (.aload_n 0, 1) := by decide +kernel
theorem dX1_step_33 : decode cX1_step 33 = .ok (.getfield 17, 3) := by decide +kernel
theorem dX1_step_36 : decode cX1_step 36 = .ok (.iload 4, 2) := by decide +kernel
theorem dX1_step_38 : decode cX1_step 38 = .ok (.invokevirtual 82, 3) := by decide +kernel
theorem dX1_step_41 : decode cX1_step 41 = .ok (.tableswitch 131 1 6 #[39, 53, 63, 76, 112, 129], 39) := by decide +kernel
theorem dX1_step_80 : decode cX1_step 80 = .ok (.aload_n 0, 1) := by decide +kernel
theorem dX1_step_81 : decode cX1_step 81 = .ok (.aload_n 1, 1) := by decide +kernel
theorem dX1_step_82 : decode cX1_step 82 = .ok (.iload_n 2, 1) := by decide +kernel
theorem dX1_step_83 : decode cX1_step 83 = .ok (.iload 4, 2) := by decide +kernel
theorem dX1_step_85 : decode cX1_step 85 = .ok (.iload_n 3, 1) := by decide +kernel
theorem dX1_step_86 : decode cX1_step 86 = .ok (.invokevirtual 85, 3) := by decide +kernel
theorem dX1_step_89 : decode cX1_step 89 = .ok (.istore 6, 2) := by decide +kernel
theorem dX1_step_91 : decode cX1_step 91 = .ok (.goto 81, 3) := by decide +kernel
theorem dX1_step_94 : decode cX1_step 94 = .ok (.iload 7, 2) := by decide +kernel
theorem dX1_step_96 : decode cX1_step 96 = .ok (.iload 5, 2) := by decide +kernel
theorem dX1_step_98 : decode cX1_step 98 = .ok (.iadd, 1) := by decide +kernel
theorem dX1_step_99 : decode cX1_step 99 = .ok (.istore 7, 2) := by decide +kernel
theorem dX1_step_101 : decode cX1_step 101 = .ok (.goto 71, 3) := by decide +kernel
theorem dX1_step_104 : decode cX1_step 104 = .ok (.aload_n 0, 1) := by decide +kernel
theorem dX1_step_105 : decode cX1_step 105 = .ok (.aload_n 1, 1) := by decide +kernel
theorem dX1_step_106 : decode cX1_step 106 = .ok (.iload_n 2, 1) := by decide +kernel
theorem dX1_step_107 : decode cX1_step 107 = .ok (.iload 5, 2) := by decide +kernel
theorem dX1_step_109 : decode cX1_step 109 = .ok (.invokevirtual 89, 3) := by decide +kernel
theorem dX1_step_112 : decode cX1_step 112 = .ok (.ifCond .ne 60, 3) := by decide +kernel
theorem dX1_step_115 : decode cX1_step 115 = .ok (.iconst 0, 1) := by decide +kernel
theorem dX1_step_116 : decode cX1_step 116 = .ok (.ireturn, 1) := by decide +kernel
theorem dX1_step_117 : decode cX1_step 117 = .ok (.aload_n 1, 1) := by decide +kernel
theorem dX1_step_118 : decode cX1_step 118 = .ok (.getfield 52, 3) := by decide +kernel
theorem dX1_step_121 : decode cX1_step 121 = .ok (.bipush 10, 2) := by decide +kernel
theorem dX1_step_123 : decode cX1_step 123 = .ok (.irem, 1) := by decide +kernel
theorem dX1_step_124 : decode cX1_step 124 = .ok (.istore 8, 2) := by decide +kernel
theorem dX1_step_126 : decode cX1_step 126 = .ok (.iload 8, 2) := by decide +kernel
theorem dX1_step_128 : decode cX1_step 128 = .ok (.iload 5, 2) := by decide +kernel
theorem dX1_step_130 : decode cX1_step 130 = .ok (.bipush 10, 2) := by decide +kernel
theorem dX1_step_132 : decode cX1_step 132 = .ok (.idiv, 1) := by decide +kernel
theorem dX1_step_133 : decode cX1_step 133 = .ok (.if_icmp .lt 39, 3) := by decide +kernel
theorem dX1_step_136 : decode cX1_step 136 = .ok (.iload 8, 2) := by decide +kernel
theorem dX1_step_138 : decode cX1_step 138 = .ok (.iload 5, 2) := by decide +kernel
theorem dX1_step_140 : decode cX1_step 140 = .ok (.bipush 10, 2) := by decide +kernel
theorem dX1_step_142 : decode cX1_step 142 = .ok (.irem, 1) := by decide +kernel
theorem dX1_step_143 : decode cX1_step 143 = .ok (.if_icmp .gt 29, 3) := by decide +kernel
theorem dX1_step_146 : decode cX1_step 146 = .ok (.aload_n 1, 1) := by decide +kernel
theorem dX1_step_147 : decode cX1_step 147 = .ok (.iload_n 2, 1) := by decide +kernel
theorem dX1_step_148 : decode cX1_step 148 = .ok (.invokevirtual 92, 3) := by decide +kernel
theorem dX1_step_151 : decode cX1_step 151 = .ok (.iconst 0, 1) := by decide +kernel
theorem dX1_step_152 : decode cX1_step 152 = .ok (.ireturn, 1) := by decide +kernel
theorem dX1_step_153 : decode cX1_step 153 = .ok (.iload 5, 2) := by decide +kernel
theorem dX1_step_155 : decode cX1_step 155 = .ok (.ifCond .le 13, 3) := by decide +kernel
theorem dX1_step_158 : decode cX1_step 158 = .ok (.aload_n 1, 1) := by decide +kernel
theorem dX1_step_159 : decode cX1_step 159 = .ok (.getfield 52, 3) := by decide +kernel
theorem dX1_step_162 : decode cX1_step 162 = .ok (.iload 5, 2) := by decide +kernel
theorem dX1_step_164 : decode cX1_step 164 = .ok (.irem, 1) := by decide +kernel
theorem dX1_step_165 : decode cX1_step 165 = .ok (.ifCond .eq 7, 3) := by decide +kernel
theorem dX1_step_168 : decode cX1_step 168 = .ok (.iconst 0, 1) := by decide +kernel
theorem dX1_step_169 : decode cX1_step 169 = .ok (.ireturn, 1) := by decide +kernel
theorem dX1_step_170 : decode cX1_step 170 = .ok (.iconst 0, 1) := by decide +kernel
theorem dX1_step_171 : decode cX1_step 171 = .ok (.ireturn, 1) := by decide +kernel
theorem dX1_step_172 : decode cX1_step 172 = .ok (.aload_n 0, 1) := by decide +kernel
theorem dX1_step_173 : decode cX1_step 173 = .ok (.dup, 1) := by decide +kernel
theorem dX1_step_174 : decode cX1_step 174 = .ok (.getfield 96, 3) := by decide +kernel
theorem dX1_step_177 : decode cX1_step 177 = .ok (.iconst 1, 1) := by decide +kernel
theorem dX1_step_178 : decode cX1_step 178 = .ok (.iadd, 1) := by decide +kernel
theorem dX1_step_179 : decode cX1_step 179 = .ok (.putfield 96, 3) := by decide +kernel
theorem dX1_step_182 : decode cX1_step 182 = .ok (.aload_n 0, 1) := by decide +kernel
theorem dX1_step_183 : decode cX1_step 183 = .ok (.aload_n 1, 1) := by decide +kernel
theorem dX1_step_184 : decode cX1_step 184 = .ok (.iload_n 2, 1) := by decide +kernel
theorem dX1_step_185 : decode cX1_step 185 = .ok (.iload 6, 2) := by decide +kernel
theorem dX1_step_187 : decode cX1_step 187 = .ok (.iload 7, 2) := by decide +kernel
theorem dX1_step_189 : decode cX1_step 189 = .ok (.invokevirtual 99, 3) := by decide +kernel
theorem dX1_step_192 : decode cX1_step 192 = .ok (.ireturn, 1) := by decide +kernel
theorem dX2_add_0 : decode cX2_add 0 = .ok (.aload_n 0, 1) := by decide +kernel
theorem dX2_add_1 : decode cX2_add 1 = .ok (.getfield 22, 3) := by decide +kernel
theorem dX2_add_4 : decode cX2_add 4 = .ok (.ifCond .lt 12, 3) := by decide +kernel
theorem dX2_add_7 : decode cX2_add 7 = .ok (.aload_n 0, 1) := by decide +kernel
theorem dX2_add_8 : decode cX2_add 8 = .ok (.getfield 22, 3) := by decide +kernel
theorem dX2_add_11 : decode cX2_add 11 = .ok (.bipush 20, 2) := by decide +kernel
theorem dX2_add_13 : decode cX2_add 13 = .ok (.if_icmp .lt 4, 3) := by decide +kernel
theorem dX2_add_16 : decode cX2_add 16 = .ok (.return_, 1) := by decide +kernel
theorem dX2_add_17 : decode cX2_add 17 = .ok (.aload_n 0, 1) := by decide +kernel
theorem dX2_add_18 : decode cX2_add 18 = .ok (.getfield 9, 3) := by decide +kernel
theorem dX2_add_21 : decode cX2_add 21 = .ok (.aload_n 0, 1) := by decide +kernel
theorem dX2_add_22 : decode cX2_add 22 = .ok (.getfield 22, 3) := by decide +kernel
theorem dX2_add_25 : decode cX2_add 25 = .ok (.iload_n 1, 1) := by decide +kernel
theorem dX2_add_26 : decode cX2_add 26 = .ok (.iastore, 1) := by decide +kernel
theorem dX2_add_27 : decode cX2_add 27 = .ok (.aload_n 0, 1) := by decide +kernel
theorem dX2_add_28 : decode cX2_add 28 = .ok (.getfield 13, 3) := by decide +kernel
theorem dX2_add_31 : decode cX2_add 31 = .ok (.aload_n 0, 1) := by decide +kernel
theorem dX2_add_32 : decode cX2_add 32 = .ok (.getfield 22, 3) := by decide +kernel
theorem dX2_add_35 : decode cX2_add 35 = .ok (.iload_n 2, 1) := by decide +kernel
theorem dX2_add_36 : decode cX2_add 36 = .ok (.iastore, 1) := by decide +kernel
theorem dX2_add_37 : decode cX2_add 37 = .ok (.aload_n 0, 1) := by decide +kernel
theorem dX2_add_38 : decode cX2_add 38 = .ok (.getfield 16, 3) := by decide +kernel
theorem dX2_add_41 : decode cX2_add 41 = .ok (.aload_n 0, 1) := by decide +kernel
theorem dX2_add_42 : decode cX2_add 42 = .ok (.getfield 22, 3) := by decide +kernel
theorem dX2_add_45 : decode cX2_add 45 = .ok (.iload_n 3, 1) := by decide +kernel
theorem dX2_add_46 : decode cX2_add 46 = .ok (.iastore, 1) := by decide +kernel
theorem dX2_add_47 : decode cX2_add 47 = .ok (.aload_n 0, 1) := by decide +kernel
theorem dX2_add_48 : decode cX2_add 48 = .ok (.getfield 19, 3) := by decide +kernel
theorem dX2_add_51 : decode cX2_add 51 = .ok (.aload_n 0, 1) := by decide +kernel
theorem dX2_add_52 : decode cX2_add 52 = .ok (.getfield 22, 3) := by decide +kernel
theorem dX2_add_55 : decode cX2_add 55 = .ok (.iload 4, 2) := by decide +kernel
theorem dX2_add_57 : decode cX2_add 57 = .ok (.iastore, 1) := by decide +kernel
theorem dX2_add_58 : decode cX2_add 58 = .ok (.aload_n 0, 1) := by decide +kernel
theorem dX2_add_59 : decode cX2_add 59 = .ok (.dup, 1) := by decide +kernel
theorem dX2_add_60 : decode cX2_add 60 = .ok (.getfield 22, 3) := by decide +kernel
theorem dX2_add_63 : decode cX2_add 63 = .ok (.iconst 1, 1) := by decide +kernel
theorem dX2_add_64 : decode cX2_add 64 = .ok (.iadd, 1) := by decide +kernel
theorem dX2_add_65 : decode cX2_add 65 = .ok (.putfield 22, 3) := by decide +kernel
theorem dX2_add_68 : decode cX2_add 68 = .ok (.return_, 1) := by decide +kernel
theorem dX2_behindNumber_0 : decode cX2_behindNumber 0 = .ok (.aload_n 0, 1) := by decide +kernel
theorem dX2_behindNumber_1 : decode cX2_behindNumber 1 = .ok (.iload_n 1, 1) := by decide +kernel
theorem dX2_behindNumber_2 : decode cX2_behindNumber 2 = .ok (.invokevirtual 80, 3) := by decide +kernel
theorem dX2_behindNumber_5 : decode cX2_behindNumber 5 = .ok (.ifCond .ge 7, 3) := by decide +kernel
theorem dX2_behindNumber_8 : decode cX2_behindNumber 8 = .ok (.iconst (-1), 1) := by decide +kernel
theorem dX2_behindNumber_9 : decode cX2_behindNumber 9 = .ok (.iload_n 1, 1) := by decide +kernel
theorem dX2_behindNumber_10 : decode cX2_behindNumber 10 = .ok (.isub, 1) := by decide +kernel
theorem dX2_behindNumber_11 : decode cX2_behindNumber 11 = .ok (.ireturn, 1) := by decide +kernel
theorem dX2_behindNumber_12 : decode cX2_behindNumber 12 = .ok (.aload_n 0, 1) := by decide +kernel
theorem dX2_behindNumber_13 : decode cX2_behindNumber 13 = .ok (.iload_n 1, 1) := by decide +kernel
theorem dX2_behindNumber_14 : decode cX2_behindNumber 14 = .ok (.iconst 1, 1) := by decide +kernel
theorem dX2_behindNumber_15 : decode cX2_behindNumber 15 = .ok (.iadd, 1) := by decide +kernel
theorem dX2_behindNumber_16 : decode cX2_behindNumber 16 = .ok (.invokevirtual 80, 3) := by decide +kernel
theorem dX2_behindNumber_19 : decode cX2_behindNumber 19 = .ok (.ifCond .ge 9, 3) := by decide +kernel
theorem dX2_behindNumber_22 : decode cX2_behindNumber 22 = .ok (.iload_n 1, 1) := by decide +kernel
theorem dX2_behindNumber_23 : decode cX2_behindNumber 23 = .ok (.iconst 1, 1) := by decide +kernel
theorem dX2_behindNumber_24 : decode cX2_behindNumber 24 = .ok (.iadd, 1) := by decide +kernel
theorem dX2_behindNumber_25 : decode cX2_behindNumber 25 = .ok (.goto 6, 3) := by decide +kernel
theorem dX2_behindNumber_28 : decode cX2_behindNumber 28 = .ok (.iload_n 1, 1) := by decide +kernel
theorem dX2_behindNumber_29 : decode cX2_behindNumber 29 = .ok (.iconst 2, 1) := by decide +kernel
theorem dX2_behindNumber_30 : decode cX2_behindNumber 30 = .ok (.iadd, 1) := by decide +kernel
theorem dX2_behindNumber_31 : decode cX2_behindNumber 31 = .ok (.ireturn, 1) := by decide +kernel
theorem dX2_numberAt_0 : decode cX2_numberAt 0 = .ok (.aload_n 0, 1) := by decide +kernel
theorem dX2_numberAt_1 : decode cX2_numberAt 1 = .ok (.iload_n 1, 1) := by decide +kernel
theorem dX2_numberAt_2 : decode cX2_numberAt 2 = .ok (.invokevirtual 80, 3) := by decide +kernel
theorem dX2_numberAt_5 : decode cX2_numberAt 5 = .ok (.istore_n 3, 1) := by decide +kernel
theorem dX2_numberAt_6 : decode cX2_numberAt 6 = .ok (.iload_n 2, 1) := by decide +kernel
theorem dX2_numberAt_7 : decode cX2_numberAt 7 = .ok (.iload_n 1, 1) := by decide +kernel
theorem dX2_numberAt_8 : decode cX2_numberAt 8 = .ok (.iconst 1, 1) := by decide +kernel
theorem dX2_numberAt_9 : decode cX2_numberAt 9 = .ok (.iadd, 1) := by decide +kernel
theorem dX2_numberAt_10 : decode cX2_numberAt 10 = .ok (.if_icmp .ne 7, 3) := by decide +kernel
theorem dX2_numberAt_13 : decode cX2_numberAt 13 = .ok (.iload_n 3, 1) := by decide +kernel
theorem dX2_numberAt_14 : decode cX2_numberAt 14 = .ok (.goto 15, 3) := by decide +kernel
theorem dX2_numberAt_17 : decode cX2_numberAt 17 = .ok (.bipush 10, 2) := by decide +kernel
theorem dX2_numberAt_19 : decode cX2_numberAt 19 = .ok (.iload_n 3, 1) := by decide +kernel
theorem dX2_numberAt_20 : decode cX2_numberAt 20 = .ok (.imul, 1) := by decide +kernel
theorem dX2_numberAt_21 : decode cX2_numberAt 21 = .ok (.aload_n 0, 1) := by decide +kernel
theorem dX2_numberAt_22 : decode cX2_numberAt 22 = .ok (.iload_n 1, 1) := by decide +kernel
theorem dX2_numberAt_23 : decode cX2_numberAt 23 = .ok (.iconst 1, 1) := by decide +kernel
theorem dX2_numberAt_24 : decode cX2_numberAt 24 = .ok (.iadd, 1) := by decide +kernel
theorem dX2_numberAt_25 : decode cX2_numberAt 25 = .ok (.invokevirtual 80, 3) := by decide +kernel
theorem dX2_numberAt_28 : decode cX2_numberAt 28 = .ok (.iadd, 1) := by decide +kernel
theorem dX2_numberAt_29 : decode cX2_numberAt 29 = .ok (.ireturn, 1) := by decide +kernel
theorem dX2_readPut_0 : decode cX2_readPut 0 = .ok (.aload_n 1, 1) := by decide +kernel
theorem dX2_readPut_1 : decode cX2_readPut 1 = .ok (.iload_n 2, 1) := by decide +kernel
theorem dX2_readPut_2 : decode cX2_readPut 2 = .ok (.invokevirtual 65, 3) := by decide +kernel
theorem dX2_readPut_5 : decode cX2_readPut 5 = .ok (.istore_n 3, 1) := by decide +kernel
theorem dX2_readPut_6 : decode cX2_readPut 6 = .ok (.iload_n 3, 1) := by decide +kernel
theorem dX2_readPut_7 : decode cX2_readPut 7 = .ok (.ifCond .ge 7, 3) := by decide +kernel
theorem dX2_readPut_10 : decode cX2_readPut 10 = .ok (.iconst (-1), 1) := by decide +kernel
theorem dX2_readPut_11 : decode cX2_readPut 11 = .ok (.iload_n 2, 1) := by decide +kernel
theorem dX2_readPut_12 : decode cX2_readPut 12 = .ok (.isub, 1) := by decide +kernel
theorem dX2_readPut_13 : decode cX2_readPut 13 = .ok (.ireturn, 1) := by decide +kernel
theorem dX2_readPut_14 : decode cX2_readPut 14 = .ok (.aload_n 1, 1) := by decide +kernel
theorem dX2_readPut_15 : decode cX2_readPut 15 = .ok (.iload_n 2, 1) := by decide +kernel
theorem dX2_readPut_16 : decode cX2_readPut 16 = .ok (.iconst 1, 1) := by decide +kernel
theorem dX2_readPut_17 : decode cX2_readPut 17 = .ok (.iadd, 1) := by decide +kernel
theorem dX2_readPut_18 : decode cX2_readPut 18 = .ok (.invokestatic 69, 3) := by decide +kernel
theorem dX2_readPut_21 : decode cX2_readPut 21 = .ok (.istore 4, 2) := by decide +kernel
theorem dX2_readPut_23 : decode cX2_readPut 23 = .ok (.iload 4, 2) := by decide +kernel
theorem dX2_readPut_25 : decode cX2_readPut 25 = .ok (.ifCond .ge 6, 3) := by decide +kernel
theorem dX2_readPut_28 : decode cX2_readPut 28 = .ok (.iload 4, 2) := by decide +kernel
theorem dX2_readPut_30 : decode cX2_readPut 30 = .ok (.ireturn, 1) := by decide +kernel
theorem dX2_readPut_31 : decode cX2_readPut 31 = .ok (.aload_n 1, 1) := by decide +kernel
theorem dX2_readPut_32 : decode cX2_readPut 32 = .ok (.iload_n 2, 1) := by decide +kernel
theorem dX2_readPut_33 : decode cX2_readPut 33 = .ok (.iconst 1, 1) := by decide +kernel
theorem dX2_readPut_34 : decode cX2_readPut 34 = .ok (.iadd, 1) := by decide +kernel
theorem dX2_readPut_35 : decode cX2_readPut 35 = .ok (.iload 4, 2) := by decide +kernel
theorem dX2_readPut_37 : decode cX2_readPut 37 = .ok (.invokestatic 72, 3) := by decide +kernel
theorem dX2_readPut_40 : decode cX2_readPut 40 = .ok (.istore 5, 2) := by decide +kernel
theorem dX2_readPut_42 : decode cX2_readPut 42 = .ok (.aload_n 1, 1) := by decide +kernel
theorem dX2_readPut_43 : decode cX2_readPut 43 = .ok (.iload 4, 2) := by decide +kernel
theorem dX2_readPut_45 : decode cX2_readPut 45 = .ok (.bipush 43, 2) := by decide +kernel
theorem dX2_readPut_47 : decode cX2_readPut 47 = .ok (.invokevirtual 43, 3) := by decide +kernel
theorem dX2_readPut_50 : decode cX2_readPut 50 = .ok (.ifCond .ne 15, 3) := by decide +kernel
theorem dX2_readPut_53 : decode cX2_readPut 53 = .ok (.aload_n 0, 1) := by decide +kernel
theorem dX2_readPut_54 : decode cX2_readPut 54 = .ok (.iconst 0, 1) := by decide +kernel
theorem dX2_readPut_55 : decode cX2_readPut 55 = .ok (.iload_n 3, 1) := by decide +kernel
theorem dX2_readPut_56 : decode cX2_readPut 56 = .ok (.iload 5, 2) := by decide +kernel
theorem dX2_readPut_58 : decode cX2_readPut 58 = .ok (.iconst 0, 1) := by decide +kernel
theorem dX2_readPut_59 : decode cX2_readPut 59 = .ok (.invokevirtual 76, 3) := by decide +kernel
theorem dX2_readPut_62 : decode cX2_readPut 62 = .ok (.iload 4, 2) := by decide +kernel
theorem dX2_readPut_64 : decode cX2_readPut 64 = .ok (.ireturn, 1) := by decide +kernel
theorem dX2_readPut_65 : decode cX2_readPut 65 = .ok (.aload_n 1, 1) := by decide +kernel
theorem dX2_readPut_66 : decode cX2_readPut 66 = .ok (.iload 4, 2) := by decide +kernel
theorem dX2_readPut_68 : decode cX2_readPut 68 = .ok (.iconst 1, 1) := by decide +kernel
theorem dX2_readPut_69 : decode cX2_readPut 69 = .ok (.iadd, 1) := by decide +kernel
theorem dX2_readPut_70 : decode cX2_readPut 70 = .ok (.invokevirtual 80, 3) := by decide +kernel
theorem dX2_readPut_73 : decode cX2_readPut 73 = .ok (.istore 6, 2) := by decide +kernel
theorem dX2_readPut_75 : decode cX2_readPut 75 = .ok (.iload 6, 2) := by decide +kernel
theorem dX2_readPut_77 : decode cX2_readPut 77 = .ok (.ifCond .ge 10, 3) := by decide +kernel
theorem dX2_readPut_80 : decode cX2_readPut 80 = .ok (.iconst (-1), 1) := by decide +kernel
theorem dX2_readPut_81 : decode cX2_readPut 81 = .ok (.iload 4, 2) := by decide +kernel
theorem dX2_readPut_83 : decode cX2_readPut 83 = .ok (.iconst 1, 1) := by decide +kernel
theorem dX2_readPut_84 : decode cX2_readPut 84 = .ok (.iadd, 1) := by decide +kernel
theorem dX2_readPut_85 : decode cX2_readPut 85 = .ok (.isub, 1) := by decide +kernel
theorem dX2_readPut_86 : decode cX2_readPut 86 = .ok (.ireturn, 1) := by decide +kernel
theorem dX2_readPut_87 : decode cX2_readPut 87 = .ok (.aload_n 0, 1) := by decide +kernel
theorem dX2_readPut_88 : decode cX2_readPut 88 = .ok (.iconst 0, 1) := by decide +kernel
theorem dX2_readPut_89 : decode cX2_readPut 89 = .ok (.iload_n 3, 1) := by decide +kernel
theorem dX2_readPut_90 : decode cX2_readPut 90 = .ok (.iload 5, 2) := by decide +kernel
theorem dX2_readPut_92 : decode cX2_readPut 92 = .ok (.iload 6, 2) := by decide +kernel
theorem dX2_readPut_94 : decode cX2_readPut 94 = .ok (.invokevirtual 76, 3) := by decide +kernel
theorem dX2_readPut_97 : decode cX2_readPut 97 = .ok (.iload 4, 2) := by decide +kernel
theorem dX2_readPut_99 : decode cX2_readPut 99 = .ok (.iconst 2, 1) := by decide +kernel
theorem dX2_readPut_100 : decode cX2_readPut 100 = .ok (.iadd, 1) := by decide +kernel
theorem dX2_readPut_101 : decode cX2_readPut 101 = .ok (.ireturn, 1) := by decide +kernel
theorem dX2_readTurn_0 : decode cX2_readTurn 0 = .ok (.aload_n 1, 1) := by decide +kernel
theorem dX2_readTurn_1 : decode cX2_readTurn 1 = .ok (.iload_n 2, 1) := by decide +kernel
theorem dX2_readTurn_2 : decode cX2_readTurn 2 = .ok (.invokevirtual 65, 3) := by decide +kernel
theorem dX2_readTurn_5 : decode cX2_readTurn 5 = .ok (.istore_n 3, 1) := by decide +kernel
theorem dX2_readTurn_6 : decode cX2_readTurn 6 = .ok (.iload_n 3, 1) := by decide +kernel
theorem dX2_readTurn_7 : decode cX2_readTurn 7 = .ok (.ifCond .ge 7, 3) := by decide +kernel
theorem dX2_readTurn_10 : decode cX2_readTurn 10 = .ok (.iconst (-1), 1) := by decide +kernel
theorem dX2_readTurn_11 : decode cX2_readTurn 11 = .ok (.iload_n 2, 1) := by decide +kernel
theorem dX2_readTurn_12 : decode cX2_readTurn 12 = .ok (.isub, 1) := by decide +kernel
theorem dX2_readTurn_13 : decode cX2_readTurn 13 = .ok (.ireturn, 1) := by decide +kernel
theorem dX2_readTurn_14 : decode cX2_readTurn 14 = .ok (.aload_n 0, 1) := by decide +kernel
theorem dX2_readTurn_15 : decode cX2_readTurn 15 = .ok (.iconst 1, 1) := by decide +kernel
theorem dX2_readTurn_16 : decode cX2_readTurn 16 = .ok (.iload_n 3, 1) := by decide +kernel
theorem dX2_readTurn_17 : decode cX2_readTurn 17 = .ok (.iconst 0, 1) := by decide +kernel
theorem dX2_readTurn_18 : decode cX2_readTurn 18 = .ok (.iconst 0, 1) := by decide +kernel
theorem dX2_readTurn_19 : decode cX2_readTurn 19 = .ok (.invokevirtual 76, 3) := by decide +kernel
theorem dX2_readTurn_22 : decode cX2_readTurn 22 = .ok (.iload_n 2, 1) := by decide +kernel
theorem dX2_readTurn_23 : decode cX2_readTurn 23 = .ok (.iconst 1, 1) := by decide +kernel
theorem dX2_readTurn_24 : decode cX2_readTurn 24 = .ok (.iadd, 1) := by decide +kernel
theorem dX2_readTurn_25 : decode cX2_readTurn 25 = .ok (.ireturn, 1) := by decide +kernel
theorem dX4_tell_0 : decode cX4_tell 0 = .ok (.aload_n 0, 1) := by decide +kernel
theorem dX4_tell_1 : decode cX4_tell 1 = .ok (.getfield 9, 3) := by decide +kernel
theorem dX4_tell_4 : decode cX4_tell 4 = .ok (.iconst 0, 1) := by decide +kernel
theorem dX4_tell_5 : decode cX4_tell 5 = .ok (.lload_n 1, 1) := by decide +kernel
theorem dX4_tell_6 : decode cX4_tell 6 = .ok (.lastore, 1) := by decide +kernel
theorem dX4_tell_7 : decode cX4_tell 7 = .ok (.aload_n 0, 1) := by decide +kernel
theorem dX4_tell_8 : decode cX4_tell 8 = .ok (.iconst 1, 1) := by decide +kernel
theorem dX4_tell_9 : decode cX4_tell 9 = .ok (.putfield 13, 3) := by decide +kernel
theorem dX4_tell_12 : decode cX4_tell 12 = .ok (.return_, 1) := by decide +kernel
theorem dX4_tell__0 : decode cX4_tell_ 0 = .ok (.aload_n 0, 1) := by decide +kernel
theorem dX4_tell__1 : decode cX4_tell_ 1 = .ok (.getfield 9, 3) := by decide +kernel
theorem dX4_tell__4 : decode cX4_tell_ 4 = .ok (.iconst 0, 1) := by decide +kernel
theorem dX4_tell__5 : decode cX4_tell_ 5 = .ok (.lload_n 1, 1) := by decide +kernel
theorem dX4_tell__6 : decode cX4_tell_ 6 = .ok (.lastore, 1) := by decide +kernel
theorem dX4_tell__7 : decode cX4_tell_ 7 = .ok (.aload_n 0, 1) := by decide +kernel
theorem dX4_tell__8 : decode cX4_tell_ 8 = .ok (.getfield 9, 3) := by decide +kernel
theorem dX4_tell__11 : decode cX4_tell_ 11 = .ok (.iconst 1, 1) := by decide +kernel
theorem dX4_tell__12 : decode cX4_tell_ 12 = .ok (.lload_n 3, 1) := by decide +kernel
theorem dX4_tell__13 : decode cX4_tell_ 13 = .ok (.lastore, 1) := by decide +kernel
theorem dX4_tell__14 : decode cX4_tell_ 14 = .ok (.aload_n 0, 1) := by decide +kernel
theorem dX4_tell__15 : decode cX4_tell_ 15 = .ok (.iconst 2, 1) := by decide +kernel
theorem dX4_tell__16 : decode cX4_tell_ 16 = .ok (.putfield 13, 3) := by decide +kernel
theorem dX4_tell__19 : decode cX4_tell_ 19 = .ok (.return_, 1) := by decide +kernel
theorem dX6_fateOf_0 : decode cX6_fateOf 0 = .ok (.aload_n 0, 1) := by decide +kernel
theorem dX6_fateOf_1 : decode cX6_fateOf 1 = .ok (.getfield 40, 3) := by decide +kernel
theorem dX6_fateOf_4 : decode cX6_fateOf 4 = .ok (.iload_n 1, 1) := by decide +kernel
theorem dX6_fateOf_5 : decode cX6_fateOf 5 = .ok (.ishr, 1) := by decide +kernel
theorem dX6_fateOf_6 : decode cX6_fateOf 6 = .ok (.iconst 1, 1) := by decide +kernel
theorem dX6_fateOf_7 : decode cX6_fateOf 7 = .ok (.iand, 1) := by decide +kernel
theorem dX6_fateOf_8 : decode cX6_fateOf 8 = .ok (.ifCond .eq 5, 3) := by decide +kernel
theorem dX6_fateOf_11 : decode cX6_fateOf 11 = .ok (.iconst 1, 1) := by decide +kernel
theorem dX6_fateOf_12 : decode cX6_fateOf 12 = .ok (.ireturn, 1) := by decide +kernel
theorem dX6_fateOf_13 : decode cX6_fateOf 13 = .ok (.aload_n 0, 1) := by decide +kernel
theorem dX6_fateOf_14 : decode cX6_fateOf 14 = .ok (.getfield 43, 3) := by decide +kernel
theorem dX6_fateOf_17 : decode cX6_fateOf 17 = .ok (.iload_n 1, 1) := by decide +kernel
theorem dX6_fateOf_18 : decode cX6_fateOf 18 = .ok (.ishr, 1) := by decide +kernel
theorem dX6_fateOf_19 : decode cX6_fateOf 19 = .ok (.iconst 1, 1) := by decide +kernel
theorem dX6_fateOf_20 : decode cX6_fateOf 20 = .ok (.iand, 1) := by decide +kernel
theorem dX6_fateOf_21 : decode cX6_fateOf 21 = .ok (.ifCond .eq 7, 3) := by decide +kernel
theorem dX6_fateOf_24 : decode cX6_fateOf 24 = .ok (.iconst 2, 1) := by decide +kernel
theorem dX6_fateOf_25 : decode cX6_fateOf 25 = .ok (.goto 4, 3) := by decide +kernel
theorem dX6_fateOf_28 : decode cX6_fateOf 28 = .ok (.iconst 0, 1) := by decide +kernel
theorem dX6_fateOf_29 : decode cX6_fateOf 29 = .ok (.ireturn, 1) := by decide +kernel
theorem dX6_has_0 : decode cX6_has 0 = .ok (.iload_n 1, 1) := by decide +kernel
theorem dX6_has_1 : decode cX6_has 1 = .ok (.ifCond .lt 15, 3) := by decide +kernel
theorem dX6_has_4 : decode cX6_has 4 = .ok (.iload_n 1, 1) := by decide +kernel
theorem dX6_has_5 : decode cX6_has 5 = .ok (.aload_n 0, 1) := by decide +kernel
theorem dX6_has_6 : decode cX6_has 6 = .ok (.getfield 30, 3) := by decide +kernel
theorem dX6_has_9 : decode cX6_has 9 = .ok (.if_icmp .ge 7, 3) := by decide +kernel
theorem dX6_has_12 : decode cX6_has 12 = .ok (.iconst 1, 1) := by decide +kernel
theorem dX6_has_13 : decode cX6_has 13 = .ok (.goto 4, 3) := by decide +kernel
theorem dX6_has_16 : decode cX6_has 16 = .ok (.iconst 0, 1) := by decide +kernel
theorem dX6_has_17 : decode cX6_has 17 = .ok (.ireturn, 1) := by decide +kernel
theorem dX6_isOnWay_0 : decode cX6_isOnWay 0 = .ok (.iload_n 1, 1) := by decide +kernel
theorem dX6_isOnWay_1 : decode cX6_isOnWay 1 = .ok (.ifCond .lt 31, 3) := by decide +kernel
theorem dX6_isOnWay_4 : decode cX6_isOnWay 4 = .ok (.iload_n 1, 1) := by decide +kernel
theorem dX6_isOnWay_5 : decode cX6_isOnWay 5 = .ok (.aload_n 0, 1) := by decide +kernel
theorem dX6_isOnWay_6 : decode cX6_isOnWay 6 = .ok (.getfield 30, 3) := by decide +kernel
theorem dX6_isOnWay_9 : decode cX6_isOnWay 9 = .ok (.if_icmp .ge 23, 3) := by decide +kernel
theorem dX6_isOnWay_12 : decode cX6_isOnWay 12 = .ok (.aload_n 0, 1) := by decide +kernel
theorem dX6_isOnWay_13 : decode cX6_isOnWay 13 = .ok (.getfield 40, 3) := by decide +kernel
theorem dX6_isOnWay_16 : decode cX6_isOnWay 16 = .ok (.aload_n 0, 1) := by decide +kernel
theorem dX6_isOnWay_17 : decode cX6_isOnWay 17 = .ok (.getfield 43, 3) := by decide +kernel
theorem dX6_isOnWay_20 : decode cX6_isOnWay 20 = .ok (.ior, 1) := by decide +kernel
theorem dX6_isOnWay_21 : decode cX6_isOnWay 21 = .ok (.iload_n 1, 1) := by decide +kernel
theorem dX6_isOnWay_22 : decode cX6_isOnWay 22 = .ok (.ishr, 1) := by decide +kernel
theorem dX6_isOnWay_23 : decode cX6_isOnWay 23 = .ok (.iconst 1, 1) := by decide +kernel
theorem dX6_isOnWay_24 : decode cX6_isOnWay 24 = .ok (.iand, 1) := by decide +kernel
theorem dX6_isOnWay_25 : decode cX6_isOnWay 25 = .ok (.ifCond .ne 7, 3) := by decide +kernel
theorem dX6_isOnWay_28 : decode cX6_isOnWay 28 = .ok (.iconst 1, 1) := by decide +kernel
theorem dX6_isOnWay_29 : decode cX6_isOnWay 29 = .ok (.goto 4, 3) := by decide +kernel
theorem dX6_isOnWay_32 : decode cX6_isOnWay 32 = .ok (.iconst 0, 1) := by decide +kernel
theorem dX6_isOnWay_33 : decode cX6_isOnWay 33 = .ok (.ireturn, 1) := by decide +kernel
theorem dX6_onWay_0 : decode cX6_onWay 0 = .ok (.iconst 1, 1) := by decide +kernel
theorem dX6_onWay_1 : decode cX6_onWay 1 = .ok (.aload_n 0, 1) := by decide +kernel
theorem dX6_onWay_2 : decode cX6_onWay 2 = .ok (.getfield 30, 3) := by decide +kernel
theorem dX6_onWay_5 : decode cX6_onWay 5 = .ok (.ishl, 1) := by decide +kernel
theorem dX6_onWay_6 : decode cX6_onWay 6 = .ok (.iconst 1, 1) := by decide +kernel
theorem dX6_onWay_7 : decode cX6_onWay 7 = .ok (.isub, 1) := by decide +kernel
theorem dX6_onWay_8 : decode cX6_onWay 8 = .ok (.aload_n 0, 1) := by decide +kernel
theorem dX6_onWay_9 : decode cX6_onWay 9 = .ok (.getfield 40, 3) := by decide +kernel
theorem dX6_onWay_12 : decode cX6_onWay 12 = .ok (.aload_n 0, 1) := by decide +kernel
theorem dX6_onWay_13 : decode cX6_onWay 13 = .ok (.getfield 43, 3) := by decide +kernel
theorem dX6_onWay_16 : decode cX6_onWay 16 = .ok (.ior, 1) := by decide +kernel
theorem dX6_onWay_17 : decode cX6_onWay 17 = .ok (.iconst (-1), 1) := by decide +kernel
theorem dX6_onWay_18 : decode cX6_onWay 18 = .ok (.ixor, 1) := by decide +kernel
theorem dX6_onWay_19 : decode cX6_onWay 19 = .ok (.iand, 1) := by decide +kernel
theorem dX6_onWay_20 : decode cX6_onWay 20 = .ok (.ireturn, 1) := by decide +kernel
theorem dX6_trailOf_0 : decode cX6_trailOf 0 = .ok (.iload_n 1, 1) := by decide +kernel
theorem dX6_trailOf_1 : decode cX6_trailOf 1 = .ok (.ifCond .lt 18, 3) := by decide +kernel
theorem dX6_trailOf_4 : decode cX6_trailOf 4 = .ok (.iload_n 1, 1) := by decide +kernel
theorem dX6_trailOf_5 : decode cX6_trailOf 5 = .ok (.bipush 6, 2) := by decide +kernel
theorem dX6_trailOf_7 : decode cX6_trailOf 7 = .ok (.if_icmp .ge 12, 3) := by decide +kernel
theorem dX6_trailOf_10 : decode cX6_trailOf 10 = .ok (.aload_n 0, 1) := by decide +kernel
theorem dX6_trailOf_11 : decode cX6_trailOf 11 = .ok (.getfield 21, 3) := by decide +kernel
theorem dX6_trailOf_14 : decode cX6_trailOf 14 = .ok (.iload_n 1, 1) := by decide +kernel
theorem dX6_trailOf_15 : decode cX6_trailOf 15 = .ok (.iaload, 1) := by decide +kernel
theorem dX6_trailOf_16 : decode cX6_trailOf 16 = .ok (.goto 4, 3) := by decide +kernel
theorem dX6_trailOf_19 : decode cX6_trailOf 19 = .ok (.iconst 0, 1) := by decide +kernel
theorem dX6_trailOf_20 : decode cX6_trailOf 20 = .ok (.ireturn, 1) := by decide +kernel
theorem dX7_hasSign_0 : decode cX7_hasSign 0 = .ok (.aload_n 0, 1) := by decide +kernel
theorem dX7_hasSign_1 : decode cX7_hasSign 1 = .ok (.iload_n 1, 1) := by decide +kernel
theorem dX7_hasSign_2 : decode cX7_hasSign 2 = .ok (.invokevirtual 28, 3) := by decide +kernel
theorem dX7_hasSign_5 : decode cX7_hasSign 5 = .ok (.iload_n 2, 1) := by decide +kernel
theorem dX7_hasSign_6 : decode cX7_hasSign 6 = .ok (.if_icmp .ne 7, 3) := by decide +kernel
theorem dX7_hasSign_9 : decode cX7_hasSign 9 = .ok (.iconst 1, 1) := by decide +kernel
theorem dX7_hasSign_10 : decode cX7_hasSign 10 = .ok (.goto 4, 3) := by decide +kernel
theorem dX7_hasSign_13 : decode cX7_hasSign 13 = .ok (.iconst 0, 1) := by decide +kernel
theorem dX7_hasSign_14 : decode cX7_hasSign 14 = .ok (.ireturn, 1) := by decide +kernel
theorem dX7_letter_0 : decode cX7_letter 0 = .ok (.aload_n 0, 1) := by decide +kernel
theorem dX7_letter_1 : decode cX7_letter 1 = .ok (.iload_n 1, 1) := by decide +kernel
theorem dX7_letter_2 : decode cX7_letter 2 = .ok (.invokevirtual 28, 3) := by decide +kernel
theorem dX7_letter_5 : decode cX7_letter 5 = .ok (.istore_n 2, 1) := by decide +kernel
theorem dX7_letter_6 : decode cX7_letter 6 = .ok (.iload_n 2, 1) := by decide +kernel
theorem dX7_letter_7 : decode cX7_letter 7 = .ok (.bipush 97, 2) := by decide +kernel
theorem dX7_letter_9 : decode cX7_letter 9 = .ok (.if_icmp .lt 16, 3) := by decide +kernel
theorem dX7_letter_12 : decode cX7_letter 12 = .ok (.iload_n 2, 1) := by decide +kernel
theorem dX7_letter_13 : decode cX7_letter 13 = .ok (.bipush 109, 2) := by decide +kernel
theorem dX7_letter_15 : decode cX7_letter 15 = .ok (.if_icmp .ge 10, 3) := by decide +kernel
theorem dX7_letter_18 : decode cX7_letter 18 = .ok (.iload_n 2, 1) := by decide +kernel
theorem dX7_letter_19 : decode cX7_letter 19 = .ok (.bipush 97, 2) := by decide +kernel
theorem dX7_letter_21 : decode cX7_letter 21 = .ok (.isub, 1) := by decide +kernel
theorem dX7_letter_22 : decode cX7_letter 22 = .ok (.goto 4, 3) := by decide +kernel
theorem dX7_letter_25 : decode cX7_letter 25 = .ok (.iconst (-1), 1) := by decide +kernel
theorem dX7_letter_26 : decode cX7_letter 26 = .ok (.ireturn, 1) := by decide +kernel
theorem dX7_oneOf_0 : decode cX7_oneOf 0 = .ok (.aload_n 0, 1) := by decide +kernel
theorem dX7_oneOf_1 : decode cX7_oneOf 1 = .ok (.iload_n 2, 1) := by decide +kernel
theorem dX7_oneOf_2 : decode cX7_oneOf 2 = .ok (.invokevirtual 28, 3) := by decide +kernel
theorem dX7_oneOf_5 : decode cX7_oneOf 5 = .ok (.istore_n 3, 1) := by decide +kernel
theorem dX7_oneOf_6 : decode cX7_oneOf 6 = .ok (.iload_n 3, 1) := by decide +kernel
theorem dX7_oneOf_7 : decode cX7_oneOf 7 = .ok (.ifCond .ge 7, 3) := by decide +kernel
theorem dX7_oneOf_10 : decode cX7_oneOf 10 = .ok (.iconst (-1), 1) := by decide +kernel
theorem dX7_oneOf_11 : decode cX7_oneOf 11 = .ok (.goto 9, 3) := by decide +kernel
theorem dX7_oneOf_14 : decode cX7_oneOf 14 = .ok (.aload_n 1, 1) := by decide +kernel
theorem dX7_oneOf_15 : decode cX7_oneOf 15 = .ok (.iload_n 3, 1) := by decide +kernel
theorem dX7_oneOf_16 : decode cX7_oneOf 16 = .ok (.i2c, 1) := by decide +kernel
theorem dX7_oneOf_17 : decode cX7_oneOf 17 = .ok (.invokevirtual 32, 3) := by decide +kernel
theorem dX7_oneOf_20 : decode cX7_oneOf 20 = .ok (.ireturn, 1) := by decide +kernel
theorem dX8_has_0 : decode cX8_has 0 = .ok (.iload_n 1, 1) := by decide +kernel
theorem dX8_has_1 : decode cX8_has 1 = .ok (.ifCond .lt 15, 3) := by decide +kernel
theorem dX8_has_4 : decode cX8_has 4 = .ok (.iload_n 1, 1) := by decide +kernel
theorem dX8_has_5 : decode cX8_has 5 = .ok (.aload_n 0, 1) := by decide +kernel
theorem dX8_has_6 : decode cX8_has 6 = .ok (.getfield 31, 3) := by decide +kernel
theorem dX8_has_9 : decode cX8_has 9 = .ok (.if_icmp .ge 7, 3) := by decide +kernel
theorem dX8_has_12 : decode cX8_has 12 = .ok (.iconst 1, 1) := by decide +kernel
theorem dX8_has_13 : decode cX8_has 13 = .ok (.goto 4, 3) := by decide +kernel
theorem dX8_has_16 : decode cX8_has 16 = .ok (.iconst 0, 1) := by decide +kernel
theorem dX8_has_17 : decode cX8_has 17 = .ok (.ireturn, 1) := by decide +kernel
theorem dX9_go_0 : decode cX9_go 0 = .ok (.aload_n 0, 1) := by decide +kernel
theorem dX9_go_1 : decode cX9_go 1 = .ok (.iload_n 1, 1) := by decide +kernel
theorem dX9_go_2 : decode cX9_go 2 = .ok (.invokevirtual 86, 3) := by decide +kernel
theorem dX9_go_5 : decode cX9_go 5 = .ok (.iconst 0, 1) := by decide +kernel
theorem dX9_go_6 : decode cX9_go 6 = .ok (.istore_n 2, 1) := by decide +kernel
theorem dX9_go_7 : decode cX9_go 7 = .ok (.iload_n 2, 1) := by decide +kernel
theorem dX9_go_8 : decode cX9_go 8 = .ok (.sipush 300, 3) := by decide +kernel
theorem dX9_go_11 : decode cX9_go 11 = .ok (.if_icmp .gt 92, 3) := by decide +kernel
theorem dX9_go_14 : decode cX9_go 14 = .ok (.aload_n 0, 1) := by decide +kernel
theorem dX9_go_15 : decode cX9_go 15 = .ok (.getfield 29, 3) := by decide +kernel
theorem dX9_go_18 : decode cX9_go 18 = .ok (.getfield 89, 3) := by decide +kernel
theorem dX9_go_21 : decode cX9_go 21 = .ok (.aload_n 0, 1) := by decide +kernel
theorem dX9_go_22 : decode cX9_go 22 = .ok (.getfield 36, 3) := by decide +kernel
theorem dX9_go_25 : decode cX9_go 25 = .ok (.getfield 83, 3) := by decide +kernel
theorem dX9_go_28 : decode cX9_go 28 = .ok (.ior, 1) := by decide +kernel
theorem dX9_go_29 : decode cX9_go 29 = .ok (.aload_n 0, 1) := by decide +kernel
theorem dX9_go_30 : decode cX9_go 30 = .ok (.getfield 57, 3) := by decide +kernel
theorem dX9_go_33 : decode cX9_go 33 = .ok (.iand, 1) := by decide +kernel
theorem dX9_go_34 : decode cX9_go 34 = .ok (.ifCond .eq 5, 3) := by decide +kernel
theorem dX9_go_37 : decode cX9_go 37 = .ok (.iconst (-1), 1) := by decide +kernel
theorem dX9_go_38 : decode cX9_go 38 = .ok (.ireturn, 1) := by decide +kernel
theorem dX9_go_39 : decode cX9_go 39 = .ok (.aload_n 0, 1) := by decide +kernel
theorem dX9_go_40 : decode cX9_go 40 = .ok (.getfield 29, 3) := by decide +kernel
theorem dX9_go_43 : decode cX9_go 43 = .ok (.getfield 92, 3) := by decide +kernel
theorem dX9_go_46 : decode cX9_go 46 = .ok (.aload_n 0, 1) := by decide +kernel
theorem dX9_go_47 : decode cX9_go 47 = .ok (.getfield 57, 3) := by decide +kernel
theorem dX9_go_50 : decode cX9_go 50 = .ok (.iand, 1) := by decide +kernel
theorem dX9_go_51 : decode cX9_go 51 = .ok (.aload_n 0, 1) := by decide +kernel
theorem dX9_go_52 : decode cX9_go 52 = .ok (.getfield 57, 3) := by decide +kernel
theorem dX9_go_55 : decode cX9_go 55 = .ok (.if_icmp .ne 24, 3) := by decide +kernel
theorem dX9_go_58 : decode cX9_go 58 = .ok (.iload_n 2, 1) := by decide +kernel
theorem dX9_go_59 : decode cX9_go 59 = .ok (.bipush 16, 2) := by decide +kernel
theorem dX9_go_61 : decode cX9_go 61 = .ok (.imul, 1) := by decide +kernel
theorem dX9_go_62 : decode cX9_go 62 = .ok (.iconst 0, 1) := by decide +kernel
theorem dX9_go_63 : decode cX9_go 63 = .ok (.aload_n 0, 1) := by decide +kernel
theorem dX9_go_64 : decode cX9_go 64 = .ok (.getfield 29, 3) := by decide +kernel
theorem dX9_go_67 : decode cX9_go 67 = .ok (.aload_n 0, 1) := by decide +kernel
theorem dX9_go_68 : decode cX9_go 68 = .ok (.getfield 60, 3) := by decide +kernel
theorem dX9_go_71 : decode cX9_go 71 = .ok (.invokevirtual 95, 3) := by decide +kernel
theorem dX9_go_74 : decode cX9_go 74 = .ok (.invokestatic 99, 3) := by decide +kernel
theorem dX9_go_77 : decode cX9_go 77 = .ok (.iadd, 1) := by decide +kernel
theorem dX9_go_78 : decode cX9_go 78 = .ok (.ireturn, 1) := by decide +kernel
theorem dX9_go_79 : decode cX9_go 79 = .ok (.iload_n 2, 1) := by decide +kernel
theorem dX9_go_80 : decode cX9_go 80 = .ok (.sipush 300, 3) := by decide +kernel
theorem dX9_go_83 : decode cX9_go 83 = .ok (.if_icmp .ge 14, 3) := by decide +kernel
theorem dX9_go_86 : decode cX9_go 86 = .ok (.aload_n 0, 1) := by decide +kernel
theorem dX9_go_87 : decode cX9_go 87 = .ok (.getfield 36, 3) := by decide +kernel
theorem dX9_go_90 : decode cX9_go 90 = .ok (.aload_n 0, 1) := by decide +kernel
theorem dX9_go_91 : decode cX9_go 91 = .ok (.getfield 29, 3) := by decide +kernel
theorem dX9_go_94 : decode cX9_go 94 = .ok (.invokevirtual 105, 3) := by decide +kernel
theorem dX9_go_97 : decode cX9_go 97 = .ok (.iinc 2 1, 3) := by decide +kernel
theorem dX9_go_100 : decode cX9_go 100 = .ok (.goto (-93), 3) := by decide +kernel
theorem dX9_go_103 : decode cX9_go 103 = .ok (.iconst (-1), 1) := by decide +kernel
theorem dX9_go_104 : decode cX9_go 104 = .ok (.ireturn, 1) := by decide +kernel
theorem dX9_settle_0 : decode cX9_settle 0 = .ok (.aload_n 0, 1) := by decide +kernel
theorem dX9_settle_1 : decode cX9_settle 1 = .ok (.getfield 29, 3) := by decide +kernel
theorem dX9_settle_4 : decode cX9_settle 4 = .ok (.aload_n 1, 1) := by decide +kernel
theorem dX9_settle_5 : decode cX9_settle 5 = .ok (.invokevirtual 63, 3) := by decide +kernel
theorem dX9_settle_8 : decode cX9_settle 8 = .ok (.iconst 0, 1) := by decide +kernel
theorem dX9_settle_9 : decode cX9_settle 9 = .ok (.istore_n 3, 1) := by decide +kernel
theorem dX9_settle_10 : decode cX9_settle 10 = .ok (.iload_n 3, 1) := by decide +kernel
theorem dX9_settle_11 : decode cX9_settle 11 = .ok (.sipush 300, 3) := by decide +kernel
theorem dX9_settle_14 : decode cX9_settle 14 = .ok (.if_icmp .ge 33, 3) := by decide +kernel
theorem dX9_settle_17 : decode cX9_settle 17 = .ok (.aload_n 0, 1) := by decide +kernel
theorem dX9_settle_18 : decode cX9_settle 18 = .ok (.getfield 29, 3) := by decide +kernel
theorem dX9_settle_21 : decode cX9_settle 21 = .ok (.iload_n 2, 1) := by decide +kernel
theorem dX9_settle_22 : decode cX9_settle 22 = .ok (.invokevirtual 112, 3) := by decide +kernel
theorem dX9_settle_25 : decode cX9_settle 25 = .ok (.ifCond .ne 5, 3) := by decide +kernel
theorem dX9_settle_28 : decode cX9_settle 28 = .ok (.iload_n 3, 1) := by decide +kernel
theorem dX9_settle_29 : decode cX9_settle 29 = .ok (.ireturn, 1) := by decide +kernel
theorem dX9_settle_30 : decode cX9_settle 30 = .ok (.aload_n 0, 1) := by decide +kernel
theorem dX9_settle_31 : decode cX9_settle 31 = .ok (.getfield 36, 3) := by decide +kernel
theorem dX9_settle_34 : decode cX9_settle 34 = .ok (.aload_n 0, 1) := by decide +kernel
theorem dX9_settle_35 : decode cX9_settle 35 = .ok (.getfield 29, 3) := by decide +kernel
theorem dX9_settle_38 : decode cX9_settle 38 = .ok (.invokevirtual 105, 3) := by decide +kernel
theorem dX9_settle_41 : decode cX9_settle 41 = .ok (.iinc 3 1, 3) := by decide +kernel
theorem dX9_settle_44 : decode cX9_settle 44 = .ok (.goto (-34), 3) := by decide +kernel
theorem dX9_settle_47 : decode cX9_settle 47 = .ok (.sipush 300, 3) := by decide +kernel
theorem dX9_settle_50 : decode cX9_settle 50 = .ok (.ireturn, 1) := by decide +kernel
