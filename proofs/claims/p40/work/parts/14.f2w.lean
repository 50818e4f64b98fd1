theorem mw_18 : (Cond.selects RX11 yX11_passMinutes yX11_passMinutes) ∈ gx_G := gx_mem 18 (by decide +kernel) (by decide +kernel)
theorem mw_24 : (Cond.selects RX2 yX2_readAct yX2_readAct) ∈ gx_G := gx_mem 24 (by decide +kernel) (by decide +kernel)
theorem mw_25 : (Cond.selects RX2 yX2_readPut yX2_readPut) ∈ gx_G := gx_mem 25 (by decide +kernel) (by decide +kernel)
theorem mw_27 : (Cond.selects RX2 yX2_readTurn yX2_readTurn) ∈ gx_G := gx_mem 27 (by decide +kernel) (by decide +kernel)
theorem mw_28 : (Cond.selects RX2 yX2_readMinutes yX2_readMinutes) ∈ gx_G := gx_mem 28 (by decide +kernel) (by decide +kernel)
theorem mw_29 : (Cond.selects RX2 yX2_readGive yX2_readGive) ∈ gx_G := gx_mem 29 (by decide +kernel) (by decide +kernel)
theorem mw_30 : (Cond.selects RX11 yX11_perform yX11_perform) ∈ gx_G := gx_mem 30 (by decide +kernel) (by decide +kernel)
theorem mw_31 : (Cond.selects RX2 yX2_has yX2_has) ∈ gx_G := gx_mem 31 (by decide +kernel) (by decide +kernel)
theorem mw_34 : (Cond.selects RX9 yX9_remember yX9_remember) ∈ gx_G := gx_mem 34 (by decide +kernel) (by decide +kernel)
theorem mw_35 : (Cond.selects RX9 yX9_spread yX9_spread) ∈ gx_G := gx_mem 35 (by decide +kernel) (by decide +kernel)
theorem mw_36 : (Cond.selects RX11 yX11_firstGets yX11_firstGets) ∈ gx_G := gx_mem 36 (by decide +kernel) (by decide +kernel)
theorem mw_156 : (Cond.fieldLink RX8 34 "DownTheGutter$Town" "forks" "I") ∈ gx_G := gx_mem 156 (by decide +kernel) (by decide +kernel)
theorem mw_157 : (Cond.fieldLink RX9 134 "DownTheGutter$Town" "forks" "I") ∈ gx_G := gx_mem 157 (by decide +kernel) (by decide +kernel)
theorem mw_160 : (Cond.fieldLink RX9 118 "DownTheGutter$Town" "sets" "I") ∈ gx_G := gx_mem 160 (by decide +kernel) (by decide +kernel)
theorem mw_161 : (Cond.fieldLink RX11 353 "DownTheGutter$Town" "sets" "I") ∈ gx_G := gx_mem 161 (by decide +kernel) (by decide +kernel)
theorem mw_319 : (Cond.fieldLink RX3 11 "DownTheGutter$Past" "scenes" "[LDownTheGutter$Scene;") ∈ gx_G := gx_mem 319 (by decide +kernel) (by decide +kernel)
theorem mw_320 : (Cond.fieldLink RX3 20 "DownTheGutter$Past" "top" "I") ∈ gx_G := gx_mem 320 (by decide +kernel) (by decide +kernel)
theorem mw_418 : (Cond.fieldLink RX9 9 "DownTheGutter$Trials" "tells" "[I") ∈ gx_G := gx_mem 418 (by decide +kernel) (by decide +kernel)
theorem mw_419 : (Cond.fieldLink RX9 15 "DownTheGutter$Trials" "fitting" "[Z") ∈ gx_G := gx_mem 419 (by decide +kernel) (by decide +kernel)
theorem mw_450 : (Cond.fieldLink RX11 29 "DownTheGutter" "water" "LDownTheGutter$Water;") ∈ gx_G := gx_mem 450 (by decide +kernel) (by decide +kernel)
theorem mw_453 : (Cond.fieldLink RX11 46 "DownTheGutter" "diary" "LDownTheGutter$Diary;") ∈ gx_G := gx_mem 453 (by decide +kernel) (by decide +kernel)
theorem mw_455 : (Cond.fieldLink RX11 57 "DownTheGutter" "before" "LDownTheGutter$Scene;") ∈ gx_G := gx_mem 455 (by decide +kernel) (by decide +kernel)
theorem mw_461 : (Cond.fieldLink RX11 90 "DownTheGutter" "current" "LDownTheGutter$Current;") ∈ gx_G := gx_mem 461 (by decide +kernel) (by decide +kernel)
theorem mw_508 : (Cond.methodLink RX11 111 yX7_cut) ∈ gx_G := gx_mem 508 (by decide +kernel) (by decide +kernel)
theorem mw_509 : (Cond.instanceMethod yX7_cut) ∈ gx_G := gx_mem 509 (by decide +kernel) (by decide +kernel)
theorem mw_510 : (Cond.selects RX7 yX7_cut yX7_cut) ∈ gx_G := gx_mem 510 (by decide +kernel) (by decide +kernel)
theorem mw_511 : (Cond.code yX7_cut cX7_cut 2 (some .boolean)) ∈ gx_G := gx_mem 511 (by decide +kernel) (by decide +kernel)
theorem mw_541 : (Cond.instanceMethod yX7_oneOf) ∈ gx_G := gx_mem 541 (by decide +kernel) (by decide +kernel)
theorem mw_542 : (Cond.selects RX7 yX7_oneOf yX7_oneOf) ∈ gx_G := gx_mem 542 (by decide +kernel) (by decide +kernel)
theorem mw_543 : (Cond.code yX7_oneOf cX7_oneOf 4 (some .int)) ∈ gx_G := gx_mem 543 (by decide +kernel) (by decide +kernel)
theorem mw_760 : (Cond.methodLink RX11 198 yX10_in) ∈ gx_G := gx_mem 760 (by decide +kernel) (by decide +kernel)
theorem mw_768 : (Cond.methodLink RX11 201 yX8_isFork) ∈ gx_G := gx_mem 768 (by decide +kernel) (by decide +kernel)
theorem mw_769 : (Cond.instanceMethod yX8_isFork) ∈ gx_G := gx_mem 769 (by decide +kernel) (by decide +kernel)
theorem mw_770 : (Cond.selects RX8 yX8_isFork yX8_isFork) ∈ gx_G := gx_mem 770 (by decide +kernel) (by decide +kernel)
theorem mw_771 : (Cond.code yX8_isFork cX8_isFork 2 (some .boolean)) ∈ gx_G := gx_mem 771 (by decide +kernel) (by decide +kernel)
theorem mw_772 : (Cond.methodLink RX11 204 yX3_push) ∈ gx_G := gx_mem 772 (by decide +kernel) (by decide +kernel)
theorem mw_773 : (Cond.instanceMethod yX3_push) ∈ gx_G := gx_mem 773 (by decide +kernel) (by decide +kernel)
theorem mw_774 : (Cond.selects RX3 yX3_push yX3_push) ∈ gx_G := gx_mem 774 (by decide +kernel) (by decide +kernel)
theorem mw_775 : (Cond.code yX3_push cX3_push 2 none) ∈ gx_G := gx_mem 775 (by decide +kernel) (by decide +kernel)
theorem mw_776 : (Cond.methodLink RX3 23 yX6_copy) ∈ gx_G := gx_mem 776 (by decide +kernel) (by decide +kernel)
theorem mw_780 : (Cond.methodLink RX3 27 Lib.Math.min.name) ∈ gx_G := gx_mem 780 (by decide +kernel) (by decide +kernel)
theorem mw_788 : (Cond.methodLink RX11 219 Lib.Math.min.name) ∈ gx_G := gx_mem 788 (by decide +kernel) (by decide +kernel)
theorem mw_812 : (Cond.methodLink RX11 237 yX6_add) ∈ gx_G := gx_mem 812 (by decide +kernel) (by decide +kernel)
theorem mw_824 : (Cond.methodLink RX11 241 yX6_isOnWay) ∈ gx_G := gx_mem 824 (by decide +kernel) (by decide +kernel)
theorem mw_828 : (Cond.methodLink RX11 244 yX6_enrich) ∈ gx_G := gx_mem 828 (by decide +kernel) (by decide +kernel)
theorem mw_829 : (Cond.instanceMethod yX6_enrich) ∈ gx_G := gx_mem 829 (by decide +kernel) (by decide +kernel)
theorem mw_830 : (Cond.selects RX6 yX6_enrich yX6_enrich) ∈ gx_G := gx_mem 830 (by decide +kernel) (by decide +kernel)
theorem mw_831 : (Cond.code yX6_enrich cX6_enrich 3 (some .int)) ∈ gx_G := gx_mem 831 (by decide +kernel) (by decide +kernel)
theorem mw_832 : (Cond.methodLink RX6 56 Lib.Math.min.name) ∈ gx_G := gx_mem 832 (by decide +kernel) (by decide +kernel)
theorem mw_837 : (Cond.methodLink RX11 253 yX11_passMinutes) ∈ gx_G := gx_mem 837 (by decide +kernel) (by decide +kernel)
theorem mw_839 : (Cond.instanceMethod yX11_passMinutes) ∈ gx_G := gx_mem 839 (by decide +kernel) (by decide +kernel)
theorem mw_840 : (Cond.code yX11_passMinutes cX11_passMinutes 3 none) ∈ gx_G := gx_mem 840 (by decide +kernel) (by decide +kernel)
theorem mw_841 : (Cond.methodLink RX11 266 yX1_pass) ∈ gx_G := gx_mem 841 (by decide +kernel) (by decide +kernel)
theorem mw_933 : (Cond.methodLink RX11 261 yJ6_bitCount_0f7a4) ∈ gx_G := gx_mem 933 (by decide +kernel) (by decide +kernel)
theorem mw_938 : (Cond.methodLink RX11 269 yX2_read) ∈ gx_G := gx_mem 938 (by decide +kernel) (by decide +kernel)
theorem mw_939 : (Cond.instanceMethod yX2_read) ∈ gx_G := gx_mem 939 (by decide +kernel) (by decide +kernel)
theorem mw_940 : (Cond.selects RX2 yX2_read yX2_read) ∈ gx_G := gx_mem 940 (by decide +kernel) (by decide +kernel)
theorem mw_941 : (Cond.code yX2_read cX2_read 5 (some .int)) ∈ gx_G := gx_mem 941 (by decide +kernel) (by decide +kernel)
theorem mw_942 : (Cond.methodLink RX2 30 yX7_showAtMost) ∈ gx_G := gx_mem 942 (by decide +kernel) (by decide +kernel)
theorem mw_943 : (Cond.methodLink RX2 36 yX7_isOver) ∈ gx_G := gx_mem 943 (by decide +kernel) (by decide +kernel)
theorem mw_944 : (Cond.methodLink RX2 39 yX2_readAct) ∈ gx_G := gx_mem 944 (by decide +kernel) (by decide +kernel)
theorem mw_946 : (Cond.instanceMethod yX2_readAct) ∈ gx_G := gx_mem 946 (by decide +kernel) (by decide +kernel)
theorem mw_947 : (Cond.code yX2_readAct cX2_readAct 3 (some .int)) ∈ gx_G := gx_mem 947 (by decide +kernel) (by decide +kernel)
theorem mw_949 : (Cond.methodLink RX2 49 yX7_oneOf) ∈ gx_G := gx_mem 949 (by decide +kernel) (by decide +kernel)
theorem mw_950 : (Cond.methodLink RX2 53 yX2_readPut) ∈ gx_G := gx_mem 950 (by decide +kernel) (by decide +kernel)
theorem mw_952 : (Cond.instanceMethod yX2_readPut) ∈ gx_G := gx_mem 952 (by decide +kernel) (by decide +kernel)
theorem mw_953 : (Cond.code yX2_readPut cX2_readPut 7 (some .int)) ∈ gx_G := gx_mem 953 (by decide +kernel) (by decide +kernel)
theorem mw_967 : (Cond.methodLink RX2 56 yX2_readTurn) ∈ gx_G := gx_mem 967 (by decide +kernel) (by decide +kernel)
theorem mw_969 : (Cond.instanceMethod yX2_readTurn) ∈ gx_G := gx_mem 969 (by decide +kernel) (by decide +kernel)
theorem mw_970 : (Cond.code yX2_readTurn cX2_readTurn 4 (some .int)) ∈ gx_G := gx_mem 970 (by decide +kernel) (by decide +kernel)
theorem mw_971 : (Cond.methodLink RX2 59 yX2_readMinutes) ∈ gx_G := gx_mem 971 (by decide +kernel) (by decide +kernel)
theorem mw_973 : (Cond.instanceMethod yX2_readMinutes) ∈ gx_G := gx_mem 973 (by decide +kernel) (by decide +kernel)
theorem mw_974 : (Cond.code yX2_readMinutes cX2_readMinutes 4 (some .int)) ∈ gx_G := gx_mem 974 (by decide +kernel) (by decide +kernel)
theorem mw_975 : (Cond.methodLink RX2 62 yX2_readGive) ∈ gx_G := gx_mem 975 (by decide +kernel) (by decide +kernel)
theorem mw_977 : (Cond.instanceMethod yX2_readGive) ∈ gx_G := gx_mem 977 (by decide +kernel) (by decide +kernel)
theorem mw_978 : (Cond.code yX2_readGive cX2_readGive 5 (some .int)) ∈ gx_G := gx_mem 978 (by decide +kernel) (by decide +kernel)
theorem mw_980 : (Cond.methodLink RX11 272 yX11_perform) ∈ gx_G := gx_mem 980 (by decide +kernel) (by decide +kernel)
theorem mw_982 : (Cond.instanceMethod yX11_perform) ∈ gx_G := gx_mem 982 (by decide +kernel) (by decide +kernel)
theorem mw_983 : (Cond.code yX11_perform cX11_perform 5 (some .int)) ∈ gx_G := gx_mem 983 (by decide +kernel) (by decide +kernel)
theorem mw_984 : (Cond.methodLink RX11 275 yX2_firstOf) ∈ gx_G := gx_mem 984 (by decide +kernel) (by decide +kernel)
theorem mw_985 : (Cond.instanceMethod yX2_firstOf) ∈ gx_G := gx_mem 985 (by decide +kernel) (by decide +kernel)
theorem mw_986 : (Cond.selects RX2 yX2_firstOf yX2_firstOf) ∈ gx_G := gx_mem 986 (by decide +kernel) (by decide +kernel)
theorem mw_987 : (Cond.code yX2_firstOf cX2_firstOf 2 (some .int)) ∈ gx_G := gx_mem 987 (by decide +kernel) (by decide +kernel)
theorem mw_988 : (Cond.methodLink RX2 26 yX2_has) ∈ gx_G := gx_mem 988 (by decide +kernel) (by decide +kernel)
theorem mw_990 : (Cond.instanceMethod yX2_has) ∈ gx_G := gx_mem 990 (by decide +kernel) (by decide +kernel)
theorem mw_991 : (Cond.code yX2_has cX2_has 2 (some .boolean)) ∈ gx_G := gx_mem 991 (by decide +kernel) (by decide +kernel)
theorem mw_992 : (Cond.methodLink RX11 278 yX2_secondOf) ∈ gx_G := gx_mem 992 (by decide +kernel) (by decide +kernel)
theorem mw_993 : (Cond.instanceMethod yX2_secondOf) ∈ gx_G := gx_mem 993 (by decide +kernel) (by decide +kernel)
theorem mw_994 : (Cond.selects RX2 yX2_secondOf yX2_secondOf) ∈ gx_G := gx_mem 994 (by decide +kernel) (by decide +kernel)
theorem mw_995 : (Cond.code yX2_secondOf cX2_secondOf 2 (some .int)) ∈ gx_G := gx_mem 995 (by decide +kernel) (by decide +kernel)
theorem mw_996 : (Cond.methodLink RX11 279 yX2_kindOf) ∈ gx_G := gx_mem 996 (by decide +kernel) (by decide +kernel)
theorem mw_997 : (Cond.instanceMethod yX2_kindOf) ∈ gx_G := gx_mem 997 (by decide +kernel) (by decide +kernel)
theorem mw_998 : (Cond.selects RX2 yX2_kindOf yX2_kindOf) ∈ gx_G := gx_mem 998 (by decide +kernel) (by decide +kernel)
theorem mw_999 : (Cond.code yX2_kindOf cX2_kindOf 2 (some .int)) ∈ gx_G := gx_mem 999 (by decide +kernel) (by decide +kernel)
theorem mw_1000 : (Cond.methodLink RX11 280 yX2_thirdOf) ∈ gx_G := gx_mem 1000 (by decide +kernel) (by decide +kernel)
theorem mw_1001 : (Cond.instanceMethod yX2_thirdOf) ∈ gx_G := gx_mem 1001 (by decide +kernel) (by decide +kernel)
theorem mw_1002 : (Cond.selects RX2 yX2_thirdOf yX2_thirdOf) ∈ gx_G := gx_mem 1002 (by decide +kernel) (by decide +kernel)
theorem mw_1003 : (Cond.code yX2_thirdOf cX2_thirdOf 2 (some .int)) ∈ gx_G := gx_mem 1003 (by decide +kernel) (by decide +kernel)
theorem mw_1028 : (Cond.methodLink RX9 108 yX6_onWay) ∈ gx_G := gx_mem 1028 (by decide +kernel) (by decide +kernel)
theorem mw_1155 : (Cond.methodLink RX11 350 yX9_forgetSets) ∈ gx_G := gx_mem 1155 (by decide +kernel) (by decide +kernel)
theorem mw_1156 : (Cond.instanceMethod yX9_forgetSets) ∈ gx_G := gx_mem 1156 (by decide +kernel) (by decide +kernel)
theorem mw_1157 : (Cond.selects RX9 yX9_forgetSets yX9_forgetSets) ∈ gx_G := gx_mem 1157 (by decide +kernel) (by decide +kernel)
theorem mw_1158 : (Cond.code yX9_forgetSets cX9_forgetSets 3 none) ∈ gx_G := gx_mem 1158 (by decide +kernel) (by decide +kernel)
theorem mw_1159 : (Cond.methodLink RX9 121 yX9_remember) ∈ gx_G := gx_mem 1159 (by decide +kernel) (by decide +kernel)
theorem mw_1161 : (Cond.instanceMethod yX9_remember) ∈ gx_G := gx_mem 1161 (by decide +kernel) (by decide +kernel)
theorem mw_1162 : (Cond.code yX9_remember cX9_remember 3 none) ∈ gx_G := gx_mem 1162 (by decide +kernel) (by decide +kernel)
theorem mw_1163 : (Cond.methodLink RX9 125 yX8_nextSet) ∈ gx_G := gx_mem 1163 (by decide +kernel) (by decide +kernel)
theorem mw_1164 : (Cond.instanceMethod yX8_nextSet) ∈ gx_G := gx_mem 1164 (by decide +kernel) (by decide +kernel)
theorem mw_1165 : (Cond.selects RX8 yX8_nextSet yX8_nextSet) ∈ gx_G := gx_mem 1165 (by decide +kernel) (by decide +kernel)
theorem mw_1166 : (Cond.code yX8_nextSet cX8_nextSet 2 (some .int)) ∈ gx_G := gx_mem 1166 (by decide +kernel) (by decide +kernel)
theorem mw_1167 : (Cond.methodLink RX11 356 yX9_outcome) ∈ gx_G := gx_mem 1167 (by decide +kernel) (by decide +kernel)
theorem mw_1168 : (Cond.instanceMethod yX9_outcome) ∈ gx_G := gx_mem 1168 (by decide +kernel) (by decide +kernel)
theorem mw_1169 : (Cond.selects RX9 yX9_outcome yX9_outcome) ∈ gx_G := gx_mem 1169 (by decide +kernel) (by decide +kernel)
theorem mw_1170 : (Cond.code yX9_outcome cX9_outcome 2 (some .int)) ∈ gx_G := gx_mem 1170 (by decide +kernel) (by decide +kernel)
theorem mw_1171 : (Cond.methodLink RX9 128 yX9_go) ∈ gx_G := gx_mem 1171 (by decide +kernel) (by decide +kernel)
theorem mw_1172 : (Cond.methodLink RX9 131 yX9_spread) ∈ gx_G := gx_mem 1172 (by decide +kernel) (by decide +kernel)
theorem mw_1174 : (Cond.instanceMethod yX9_spread) ∈ gx_G := gx_mem 1174 (by decide +kernel) (by decide +kernel)
theorem mw_1175 : (Cond.code yX9_spread cX9_spread 7 none) ∈ gx_G := gx_mem 1175 (by decide +kernel) (by decide +kernel)
theorem mw_1176 : (Cond.methodLink RX9 137 yJ6_bitCount_0f7a4) ∈ gx_G := gx_mem 1176 (by decide +kernel) (by decide +kernel)
theorem mw_1177 : (Cond.methodLink RX11 359 yX8_nextSet) ∈ gx_G := gx_mem 1177 (by decide +kernel) (by decide +kernel)
theorem mw_1190 : (Cond.methodLink RX11 362 yX11_firstGets) ∈ gx_G := gx_mem 1190 (by decide +kernel) (by decide +kernel)
theorem mw_1192 : (Cond.instanceMethod yX11_firstGets) ∈ gx_G := gx_mem 1192 (by decide +kernel) (by decide +kernel)
theorem mw_1193 : (Cond.code yX11_firstGets cX11_firstGets 7 (some .boolean)) ∈ gx_G := gx_mem 1193 (by decide +kernel) (by decide +kernel)
theorem mw_1217 : (Cond.methodLink RX11 384 yX9_fitAll) ∈ gx_G := gx_mem 1217 (by decide +kernel) (by decide +kernel)
theorem mw_1218 : (Cond.instanceMethod yX9_fitAll) ∈ gx_G := gx_mem 1218 (by decide +kernel) (by decide +kernel)
theorem mw_1219 : (Cond.selects RX9 yX9_fitAll yX9_fitAll) ∈ gx_G := gx_mem 1219 (by decide +kernel) (by decide +kernel)
theorem mw_1220 : (Cond.code yX9_fitAll cX9_fitAll 3 none) ∈ gx_G := gx_mem 1220 (by decide +kernel) (by decide +kernel)
theorem mw_1221 : (Cond.methodLink RX9 142 yX9_setFitting) ∈ gx_G := gx_mem 1221 (by decide +kernel) (by decide +kernel)
theorem mw_1222 : (Cond.instanceMethod yX9_setFitting) ∈ gx_G := gx_mem 1222 (by decide +kernel) (by decide +kernel)
theorem mw_1223 : (Cond.selects RX9 yX9_setFitting yX9_setFitting) ∈ gx_G := gx_mem 1223 (by decide +kernel) (by decide +kernel)
theorem mw_1224 : (Cond.code yX9_setFitting cX9_setFitting 3 none) ∈ gx_G := gx_mem 1224 (by decide +kernel) (by decide +kernel)
theorem mw_1225 : (Cond.methodLink RX11 387 yX0_endOf) ∈ gx_G := gx_mem 1225 (by decide +kernel) (by decide +kernel)
theorem mw_1226 : (Cond.instanceMethod yX0_endOf) ∈ gx_G := gx_mem 1226 (by decide +kernel) (by decide +kernel)
theorem mw_1227 : (Cond.selects RX0 yX0_endOf yX0_endOf) ∈ gx_G := gx_mem 1227 (by decide +kernel) (by decide +kernel)
theorem mw_1228 : (Cond.code yX0_endOf cX0_endOf 2 (some .int)) ∈ gx_G := gx_mem 1228 (by decide +kernel) (by decide +kernel)
theorem mw_1233 : (Cond.methodLink RX11 390 yX0_spotOf) ∈ gx_G := gx_mem 1233 (by decide +kernel) (by decide +kernel)
theorem mw_1234 : (Cond.instanceMethod yX0_spotOf) ∈ gx_G := gx_mem 1234 (by decide +kernel) (by decide +kernel)
theorem mw_1235 : (Cond.selects RX0 yX0_spotOf yX0_spotOf) ∈ gx_G := gx_mem 1235 (by decide +kernel) (by decide +kernel)
theorem mw_1236 : (Cond.code yX0_spotOf cX0_spotOf 2 (some .int)) ∈ gx_G := gx_mem 1236 (by decide +kernel) (by decide +kernel)
theorem mw_1237 : (Cond.methodLink RX11 391 yX0_minuteOf) ∈ gx_G := gx_mem 1237 (by decide +kernel) (by decide +kernel)
theorem mw_1238 : (Cond.instanceMethod yX0_minuteOf) ∈ gx_G := gx_mem 1238 (by decide +kernel) (by decide +kernel)
theorem mw_1239 : (Cond.selects RX0 yX0_minuteOf yX0_minuteOf) ∈ gx_G := gx_mem 1239 (by decide +kernel) (by decide +kernel)
theorem mw_1240 : (Cond.code yX0_minuteOf cX0_minuteOf 2 (some .int)) ∈ gx_G := gx_mem 1240 (by decide +kernel) (by decide +kernel)
theorem mw_1241 : (Cond.methodLink RX11 378 yX9_fits) ∈ gx_G := gx_mem 1241 (by decide +kernel) (by decide +kernel)
theorem mw_1242 : (Cond.instanceMethod yX9_fits) ∈ gx_G := gx_mem 1242 (by decide +kernel) (by decide +kernel)
theorem mw_1243 : (Cond.selects RX9 yX9_fits yX9_fits) ∈ gx_G := gx_mem 1243 (by decide +kernel) (by decide +kernel)
theorem mw_1244 : (Cond.code yX9_fits cX9_fits 2 (some .boolean)) ∈ gx_G := gx_mem 1244 (by decide +kernel) (by decide +kernel)
theorem mw_1245 : (Cond.methodLink RX11 394 yX11_kitchenOf) ∈ gx_G := gx_mem 1245 (by decide +kernel) (by decide +kernel)
theorem mw_1246 : (Cond.static yX11_kitchenOf) ∈ gx_G := gx_mem 1246 (by decide +kernel) (by decide +kernel)
theorem mw_1247 : (Cond.code yX11_kitchenOf cX11_kitchenOf 1 (some .int)) ∈ gx_G := gx_mem 1247 (by decide +kernel) (by decide +kernel)
theorem mw_1248 : (Cond.methodLink RX11 397 yX9_setFitting) ∈ gx_G := gx_mem 1248 (by decide +kernel) (by decide +kernel)
theorem cw_X2_49 : gx_Wv RX2 49 yX7_oneOf cX7_oneOf 4 (some .int) 2 := ⟨⟨mw_949, mw_541, mw_542, mw_90, mw_543⟩, by decide +kernel⟩
theorem cw_X2_53 : gx_Wv RX2 53 yX2_readPut cX2_readPut 7 (some .int) 2 := ⟨⟨mw_950, mw_952, mw_25, mw_94, mw_953⟩, by decide +kernel⟩
theorem cw_X2_56 : gx_Wv RX2 56 yX2_readTurn cX2_readTurn 4 (some .int) 2 := ⟨⟨mw_967, mw_969, mw_27, mw_94, mw_970⟩, by decide +kernel⟩
theorem cw_X2_59 : gx_Wv RX2 59 yX2_readMinutes cX2_readMinutes 4 (some .int) 2 := ⟨⟨mw_971, mw_973, mw_28, mw_94, mw_974⟩, by decide +kernel⟩
theorem cw_X2_62 : gx_Wv RX2 62 yX2_readGive cX2_readGive 5 (some .int) 2 := ⟨⟨mw_975, mw_977, mw_29, mw_94, mw_978⟩, by decide +kernel⟩
theorem cw_X2_39 : gx_Wv RX2 39 yX2_readAct cX2_readAct 3 (some .int) 2 := ⟨⟨mw_944, mw_946, mw_24, mw_94, mw_947⟩, by decide +kernel⟩
theorem cw_X2_36 : gx_Wv RX2 36 yX7_isOver cX7_isOver 2 (some .boolean) 1 := ⟨⟨mw_943, mw_532, mw_533, mw_90, mw_534⟩, by decide +kernel⟩
theorem cw_X2_30 : gx_Wv RX2 30 yX7_showAtMost cX7_showAtMost 2 none 1 := ⟨⟨mw_942, mw_525, mw_526, mw_90, mw_527⟩, by decide +kernel⟩
theorem cw_X2_26 : gx_Wv RX2 26 yX2_has cX2_has 2 (some .boolean) 1 := ⟨⟨mw_988, mw_990, mw_31, mw_94, mw_991⟩, by decide +kernel⟩
theorem cw_X11_266 : gx_Wv RX11 266 yX1_pass cX1_pass 6 none 1 := ⟨⟨mw_841, mw_842, mw_843, mw_99, mw_844⟩, by decide +kernel⟩
theorem cw_X11_275 : gx_Wv RX11 275 yX2_firstOf cX2_firstOf 2 (some .int) 1 := ⟨⟨mw_984, mw_985, mw_986, mw_94, mw_987⟩, by decide +kernel⟩
theorem cw_X11_278 : gx_Wv RX11 278 yX2_secondOf cX2_secondOf 2 (some .int) 1 := ⟨⟨mw_992, mw_993, mw_994, mw_94, mw_995⟩, by decide +kernel⟩
theorem cw_X11_279 : gx_Wv RX11 279 yX2_kindOf cX2_kindOf 2 (some .int) 1 := ⟨⟨mw_996, mw_997, mw_998, mw_94, mw_999⟩, by decide +kernel⟩
theorem cw_X11_280 : gx_Wv RX11 280 yX2_thirdOf cX2_thirdOf 2 (some .int) 1 := ⟨⟨mw_1000, mw_1001, mw_1002, mw_94, mw_1003⟩, by decide +kernel⟩
theorem cw_X11_237 : gx_Wv RX11 237 yX6_add cX6_add 7 (some .int) 5 := ⟨⟨mw_812, mw_813, mw_814, mw_95, mw_815⟩, by decide +kernel⟩
theorem cw_X11_201 : gx_Wv RX11 201 yX8_isFork cX8_isFork 2 (some .boolean) 1 := ⟨⟨mw_768, mw_769, mw_770, mw_91, mw_771⟩, by decide +kernel⟩
theorem cw_X11_253 : gx_Wv RX11 253 yX11_passMinutes cX11_passMinutes 3 none 1 := ⟨⟨mw_837, mw_839, mw_18, mw_89, mw_840⟩, by decide +kernel⟩
theorem cw_X11_261 : gx_Ws RX11 261 yJ6_bitCount_0f7a4 cJ6_bitCount_0f7a4 1 (some .int) 1 := ⟨⟨mw_933, mw_896, mw_114, mw_897⟩, by decide +kernel⟩
theorem cw_X11_241 : gx_Wv RX11 241 yX6_isOnWay cX6_isOnWay 2 (some .boolean) 1 := ⟨⟨mw_824, mw_825, mw_826, mw_95, mw_827⟩, by decide +kernel⟩
theorem cw_X11_244 : gx_Wv RX11 244 yX6_enrich cX6_enrich 3 (some .int) 2 := ⟨⟨mw_828, mw_829, mw_830, mw_95, mw_831⟩, by decide +kernel⟩
theorem cw_X3_23 : gx_Wv RX3 23 yX6_copy cX6_copy 3 none 1 := ⟨⟨mw_776, mw_777, mw_778, mw_95, mw_779⟩, by decide +kernel⟩
theorem cw_X11_204 : gx_Wv RX11 204 yX3_push cX3_push 2 none 1 := ⟨⟨mw_772, mw_773, mw_774, mw_96, mw_775⟩, by decide +kernel⟩
theorem cw_X11_272 : gx_Wv RX11 272 yX11_perform cX11_perform 5 (some .int) 1 := ⟨⟨mw_980, mw_982, mw_30, mw_89, mw_983⟩, by decide +kernel⟩
theorem cw_X11_269 : gx_Wv RX11 269 yX2_read cX2_read 5 (some .int) 1 := ⟨⟨mw_938, mw_939, mw_940, mw_94, mw_941⟩, by decide +kernel⟩
theorem cw_X11_111 : gx_Wv RX11 111 yX7_cut cX7_cut 2 (some .boolean) 1 := ⟨⟨mw_508, mw_509, mw_510, mw_90, mw_511⟩, by decide +kernel⟩
theorem cw_X9_121 : gx_Wv RX9 121 yX9_remember cX9_remember 3 none 2 := ⟨⟨mw_1159, mw_1161, mw_34, mw_100, mw_1162⟩, by decide +kernel⟩
theorem cw_X9_125 : gx_Wv RX9 125 yX8_nextSet cX8_nextSet 2 (some .int) 1 := ⟨⟨mw_1163, mw_1164, mw_1165, mw_91, mw_1166⟩, by decide +kernel⟩
theorem cw_X9_137 : gx_Ws RX9 137 yJ6_bitCount_0f7a4 cJ6_bitCount_0f7a4 1 (some .int) 1 := ⟨⟨mw_1176, mw_896, mw_114, mw_897⟩, by decide +kernel⟩
theorem cw_X9_128 : gx_Wv RX9 128 yX9_go cX9_go 3 (some .int) 1 := ⟨⟨mw_1171, mw_1089, mw_1090, mw_100, mw_1091⟩, by decide +kernel⟩
theorem cw_X9_131 : gx_Wv RX9 131 yX9_spread cX9_spread 7 none 2 := ⟨⟨mw_1172, mw_1174, mw_35, mw_100, mw_1175⟩, by decide +kernel⟩
theorem cw_X11_362 : gx_Wv RX11 362 yX11_firstGets cX11_firstGets 7 (some .boolean) 4 := ⟨⟨mw_1190, mw_1192, mw_36, mw_89, mw_1193⟩, by decide +kernel⟩
theorem cw_X11_356 : gx_Wv RX11 356 yX9_outcome cX9_outcome 2 (some .int) 1 := ⟨⟨mw_1167, mw_1168, mw_1169, mw_100, mw_1170⟩, by decide +kernel⟩
theorem cw_X11_350 : gx_Wv RX11 350 yX9_forgetSets cX9_forgetSets 3 none 0 := ⟨⟨mw_1155, mw_1156, mw_1157, mw_100, mw_1158⟩, by decide +kernel⟩
theorem cw_X11_359 : gx_Wv RX11 359 yX8_nextSet cX8_nextSet 2 (some .int) 1 := ⟨⟨mw_1177, mw_1164, mw_1165, mw_91, mw_1166⟩, by decide +kernel⟩
theorem cw_X9_142 : gx_Wv RX9 142 yX9_setFitting cX9_setFitting 3 none 2 := ⟨⟨mw_1221, mw_1222, mw_1223, mw_100, mw_1224⟩, by decide +kernel⟩
theorem cw_X11_378 : gx_Wv RX11 378 yX9_fits cX9_fits 2 (some .boolean) 1 := ⟨⟨mw_1241, mw_1242, mw_1243, mw_100, mw_1244⟩, by decide +kernel⟩
theorem cw_X11_394 : gx_Ws RX11 394 yX11_kitchenOf cX11_kitchenOf 1 (some .int) 1 := ⟨⟨mw_1245, mw_1246, mw_89, mw_1247⟩, by decide +kernel⟩
theorem cw_X11_397 : gx_Wv RX11 397 yX9_setFitting cX9_setFitting 3 none 2 := ⟨⟨mw_1248, mw_1222, mw_1223, mw_100, mw_1224⟩, by decide +kernel⟩
theorem cw_X11_387 : gx_Wv RX11 387 yX0_endOf cX0_endOf 2 (some .int) 1 := ⟨⟨mw_1225, mw_1226, mw_1227, mw_97, mw_1228⟩, by decide +kernel⟩
theorem cw_X11_390 : gx_Wv RX11 390 yX0_spotOf cX0_spotOf 2 (some .int) 1 := ⟨⟨mw_1233, mw_1234, mw_1235, mw_97, mw_1236⟩, by decide +kernel⟩
theorem cw_X11_391 : gx_Wv RX11 391 yX0_minuteOf cX0_minuteOf 2 (some .int) 1 := ⟨⟨mw_1237, mw_1238, mw_1239, mw_97, mw_1240⟩, by decide +kernel⟩
theorem cw_X11_384 : gx_Wv RX11 384 yX9_fitAll cX9_fitAll 3 none 0 := ⟨⟨mw_1217, mw_1218, mw_1219, mw_100, mw_1220⟩, by decide +kernel⟩
theorem cw_X11_198 : gx_Wv RX11 198 yX10_in cX10_in 2 (some .int) 1 := ⟨⟨mw_760, mw_761, mw_762, mw_92, mw_763⟩, by decide +kernel⟩
theorem cw_X9_108 : gx_Wv RX9 108 yX6_onWay cX6_onWay 1 (some .int) 0 := ⟨⟨mw_1028, mw_1029, mw_1030, mw_95, mw_1031⟩, by decide +kernel⟩
theorem t_37 : gx_tb[37]? = some (.inl (7, [some (some 38), some (some 39), some (some 40), some (some 41), some (some 42), some (some 43), none, none, none, none, none])) := rfl
theorem t_45 : gx_tb[45]? = some (.inr (3, 15, [some 46, some 53, some 60, some 67, some 74, some 81, some 88, some 95, some 102, some 109, some 116, some 123, some 130, some 137, some 144])) := rfl
theorem t_161 : gx_tb[161]? = some (.inr (0, 4096, [])) := rfl
theorem t_162 : gx_tb[162]? = some (.inr (2, 4096, [])) := rfl
theorem ss_3 : gx_ss[3]? = some (RX2, 47, "tpnc", [116, 112, 110, 99]) := rfl
theorem dX11_day_0 : decode cX11_day 0 = .ok (.aload_n 0, 1) := by decide +kernel
theorem dX11_day_1 : decode cX11_day 1 = .ok (.getfield 46, 3) := by decide +kernel
theorem dX11_day_4 : decode cX11_day 4 = .ok (.aload_n 0, 1) := by decide +kernel
theorem dX11_day_5 : decode cX11_day 5 = .ok (.getfield 12, 3) := by decide +kernel
theorem dX11_day_8 : decode cX11_day 8 = .ok (.invokevirtual 269, 3) := by decide +kernel
theorem dX11_day_11 : decode cX11_day 11 = .ok (.istore_n 1, 1) := by decide +kernel
theorem dX11_day_12 : decode cX11_day 12 = .ok (.aload_n 0, 1) := by decide +kernel
theorem dX11_day_13 : decode cX11_day 13 = .ok (.getfield 12, 3) := by decide +kernel
theorem dX11_day_16 : decode cX11_day 16 = .ok (.iconst 0, 1) := by decide +kernel
theorem dX11_day_17 : decode cX11_day 17 = .ok (.invokevirtual 111, 3) := by decide +kernel
theorem dX11_day_20 : decode cX11_day 20 = .ok (.pop, 1) := by decide +kernel
theorem dX11_day_21 : decode cX11_day 21 = .ok (.iload_n 1, 1) := by decide +kernel
theorem dX11_day_22 : decode cX11_day 22 = .ok (.ifCond .ge 5, 3) := by decide +kernel
theorem dX11_day_25 : decode cX11_day 25 = .ok (.iload_n 1, 1) := by decide +kernel
theorem dX11_day_26 : decode cX11_day 26 = .ok (.ireturn, 1) := by decide +kernel
theorem dX11_day_27 : decode cX11_day 27 = .ok (.aload_n 0, 1) := by decide +kernel
theorem dX11_day_28 : decode cX11_day 28 = .ok (.getfield 57, 3) := by decide +kernel
theorem dX11_day_31 : decode cX11_day 31 = .ok (.aload_n 0, 1) := by decide +kernel
theorem dX11_day_32 : decode cX11_day 32 = .ok (.getfield 53, 3) := by decide +kernel
theorem dX11_day_35 : decode cX11_day 35 = .ok (.invokevirtual 270, 3) := by decide +kernel
theorem dX11_day_38 : decode cX11_day 38 = .ok (.iconst 0, 1) := by decide +kernel
theorem dX11_day_39 : decode cX11_day 39 = .ok (.istore_n 2, 1) := by decide +kernel
theorem dX11_day_40 : decode cX11_day 40 = .ok (.iconst 0, 1) := by decide +kernel
theorem dX11_day_41 : decode cX11_day 41 = .ok (.istore_n 3, 1) := by decide +kernel
theorem dX11_day_42 : decode cX11_day 42 = .ok (.iconst 1, 1) := by decide +kernel
theorem dX11_day_43 : decode cX11_day 43 = .ok (.istore 4, 2) := by decide +kernel
theorem dX11_day_45 : decode cX11_day 45 = .ok (.iconst 0, 1) := by decide +kernel
theorem dX11_day_46 : decode cX11_day 46 = .ok (.istore 5, 2) := by decide +kernel
theorem dX11_day_48 : decode cX11_day 48 = .ok (.iload 5, 2) := by decide +kernel
theorem dX11_day_50 : decode cX11_day 50 = .ok (.iload_n 1, 1) := by decide +kernel
theorem dX11_day_51 : decode cX11_day 51 = .ok (.if_icmp .ge 47, 3) := by decide +kernel
theorem dX11_day_54 : decode cX11_day 54 = .ok (.iload 4, 2) := by decide +kernel
theorem dX11_day_56 : decode cX11_day 56 = .ok (.ifCond .eq 42, 3) := by decide +kernel
theorem dX11_day_59 : decode cX11_day 59 = .ok (.aload_n 0, 1) := by decide +kernel
theorem dX11_day_60 : decode cX11_day 60 = .ok (.iload 5, 2) := by decide +kernel
theorem dX11_day_62 : decode cX11_day 62 = .ok (.invokevirtual 272, 3) := by decide +kernel
theorem dX11_day_65 : decode cX11_day 65 = .ok (.istore 6, 2) := by decide +kernel
theorem dX11_day_67 : decode cX11_day 67 = .ok (.iload 6, 2) := by decide +kernel
theorem dX11_day_69 : decode cX11_day 69 = .ok (.ifCond .lt 7, 3) := by decide +kernel
theorem dX11_day_72 : decode cX11_day 72 = .ok (.iconst 1, 1) := by decide +kernel
theorem dX11_day_73 : decode cX11_day 73 = .ok (.goto 4, 3) := by decide +kernel
theorem dX11_day_76 : decode cX11_day 76 = .ok (.iconst 0, 1) := by decide +kernel
theorem dX11_day_77 : decode cX11_day 77 = .ok (.istore 4, 2) := by decide +kernel
theorem dX11_day_79 : decode cX11_day 79 = .ok (.iload 4, 2) := by decide +kernel
theorem dX11_day_81 : decode cX11_day 81 = .ok (.ifCond .eq 11, 3) := by decide +kernel
theorem dX11_day_84 : decode cX11_day 84 = .ok (.iinc 2 1, 3) := by decide +kernel
theorem dX11_day_87 : decode cX11_day 87 = .ok (.iload_n 3, 1) := by decide +kernel
theorem dX11_day_88 : decode cX11_day 88 = .ok (.iload 6, 2) := by decide +kernel
theorem dX11_day_90 : decode cX11_day 90 = .ok (.iadd, 1) := by decide +kernel
theorem dX11_day_91 : decode cX11_day 91 = .ok (.istore_n 3, 1) := by decide +kernel
theorem dX11_day_92 : decode cX11_day 92 = .ok (.iinc 5 1, 3) := by decide +kernel
theorem dX11_day_95 : decode cX11_day 95 = .ok (.goto (-47), 3) := by decide +kernel
theorem dX11_day_98 : decode cX11_day 98 = .ok (.iload_n 2, 1) := by decide +kernel
theorem dX11_day_99 : decode cX11_day 99 = .ok (.ifCond .le 14, 3) := by decide +kernel
theorem dX11_day_102 : decode cX11_day 102 = .ok (.aload_n 0, 1) := by decide +kernel
theorem dX11_day_103 : decode cX11_day 103 = .ok (.getfield 63, 3) := by decide +kernel
theorem dX11_day_106 : decode cX11_day 106 = .ok (.aload_n 0, 1) := by decide +kernel
theorem dX11_day_107 : decode cX11_day 107 = .ok (.getfield 57, 3) := by decide +kernel
theorem dX11_day_110 : decode cX11_day 110 = .ok (.invokevirtual 204, 3) := by decide +kernel
theorem dX11_day_113 : decode cX11_day 113 = .ok (.aload_n 0, 1) := by decide +kernel
theorem dX11_day_114 : decode cX11_day 114 = .ok (.getfield 81, 3) := by decide +kernel
theorem dX11_day_117 : decode cX11_day 117 = .ok (.iload 4, 2) := by decide +kernel
theorem dX11_day_119 : decode cX11_day 119 = .ok (.ifCond .eq 7, 3) := by decide +kernel
theorem dX11_day_122 : decode cX11_day 122 = .ok (.lconst 0, 1) := by decide +kernel
theorem dX11_day_123 : decode cX11_day 123 = .ok (.goto 4, 3) := by decide +kernel
theorem dX11_day_126 : decode cX11_day 126 = .ok (.lconst 1, 1) := by decide +kernel
theorem dX11_day_127 : decode cX11_day 127 = .ok (.iload_n 3, 1) := by decide +kernel
theorem dX11_day_128 : decode cX11_day 128 = .ok (.i2l, 1) := by decide +kernel
theorem dX11_day_129 : decode cX11_day 129 = .ok (.invokevirtual 257, 3) := by decide +kernel
theorem dX11_day_132 : decode cX11_day 132 = .ok (.iload_n 2, 1) := by decide +kernel
theorem dX11_day_133 : decode cX11_day 133 = .ok (.ireturn, 1) := by decide +kernel
theorem dX11_duel_0 : decode cX11_duel 0 = .ok (.aload_n 0, 1) := by decide +kernel
theorem dX11_duel_1 : decode cX11_duel 1 = .ok (.getfield 19, 3) := by decide +kernel
theorem dX11_duel_4 : decode cX11_duel 4 = .ok (.iload_n 1, 1) := by decide +kernel
theorem dX11_duel_5 : decode cX11_duel 5 = .ok (.invokevirtual 137, 3) := by decide +kernel
theorem dX11_duel_8 : decode cX11_duel 8 = .ok (.ifCond .eq 34, 3) := by decide +kernel
theorem dX11_duel_11 : decode cX11_duel 11 = .ok (.iload_n 2, 1) := by decide +kernel
theorem dX11_duel_12 : decode cX11_duel 12 = .ok (.iload_n 3, 1) := by decide +kernel
theorem dX11_duel_13 : decode cX11_duel 13 = .ok (.invokestatic 227, 3) := by decide +kernel
theorem dX11_duel_16 : decode cX11_duel 16 = .ok (.ifCond .eq 26, 3) := by decide +kernel
theorem dX11_duel_19 : decode cX11_duel 19 = .ok (.aload_n 0, 1) := by decide +kernel
theorem dX11_duel_20 : decode cX11_duel 20 = .ok (.getfield 19, 3) := by decide +kernel
theorem dX11_duel_23 : decode cX11_duel 23 = .ok (.iload 4, 2) := by decide +kernel
theorem dX11_duel_25 : decode cX11_duel 25 = .ok (.invokevirtual 234, 3) := by decide +kernel
theorem dX11_duel_28 : decode cX11_duel 28 = .ok (.ifCond .eq 14, 3) := by decide +kernel
theorem dX11_duel_31 : decode cX11_duel 31 = .ok (.iload 5, 2) := by decide +kernel
theorem dX11_duel_33 : decode cX11_duel 33 = .ok (.ifCond .lt 9, 3) := by decide +kernel
theorem dX11_duel_36 : decode cX11_duel 36 = .ok (.iload 5, 2) := by decide +kernel
theorem dX11_duel_38 : decode cX11_duel 38 = .ok (.iconst 3, 1) := by decide +kernel
theorem dX11_duel_39 : decode cX11_duel 39 = .ok (.if_icmp .le 5, 3) := by decide +kernel
theorem dX11_duel_42 : decode cX11_duel 42 = .ok (.iconst (-1), 1) := by decide +kernel
theorem dX11_duel_43 : decode cX11_duel 43 = .ok (.ireturn, 1) := by decide +kernel
theorem dX11_duel_44 : decode cX11_duel 44 = .ok (.aload_n 0, 1) := by decide +kernel
theorem dX11_duel_45 : decode cX11_duel 45 = .ok (.getfield 99, 3) := by decide +kernel
theorem dX11_duel_48 : decode cX11_duel 48 = .ok (.iload_n 1, 1) := by decide +kernel
theorem dX11_duel_49 : decode cX11_duel 49 = .ok (.iload_n 2, 1) := by decide +kernel
theorem dX11_duel_50 : decode cX11_duel 50 = .ok (.iload_n 3, 1) := by decide +kernel
theorem dX11_duel_51 : decode cX11_duel 51 = .ok (.iconst 0, 1) := by decide +kernel
theorem dX11_duel_52 : decode cX11_duel 52 = .ok (.aload_n 0, 1) := by decide +kernel
theorem dX11_duel_53 : decode cX11_duel 53 = .ok (.getfield 53, 3) := by decide +kernel
theorem dX11_duel_56 : decode cX11_duel 56 = .ok (.getfield 324, 3) := by decide +kernel
theorem dX11_duel_59 : decode cX11_duel 59 = .ok (.invokevirtual 327, 3) := by decide +kernel
theorem dX11_duel_62 : decode cX11_duel 62 = .ok (.aload_n 0, 1) := by decide +kernel
theorem dX11_duel_63 : decode cX11_duel 63 = .ok (.getfield 99, 3) := by decide +kernel
theorem dX11_duel_66 : decode cX11_duel 66 = .ok (.invokevirtual 350, 3) := by decide +kernel
theorem dX11_duel_69 : decode cX11_duel 69 = .ok (.iconst (-1), 1) := by decide +kernel
theorem dX11_duel_70 : decode cX11_duel 70 = .ok (.istore 6, 2) := by decide +kernel
theorem dX11_duel_72 : decode cX11_duel 72 = .ok (.aload_n 0, 1) := by decide +kernel
theorem dX11_duel_73 : decode cX11_duel 73 = .ok (.aload_n 0, 1) := by decide +kernel
theorem dX11_duel_74 : decode cX11_duel 74 = .ok (.getfield 53, 3) := by decide +kernel
theorem dX11_duel_77 : decode cX11_duel 77 = .ok (.getfield 157, 3) := by decide +kernel
theorem dX11_duel_80 : decode cX11_duel 80 = .ok (.iload 4, 2) := by decide +kernel
theorem dX11_duel_82 : decode cX11_duel 82 = .ok (.iconst 0, 1) := by decide +kernel
theorem dX11_duel_83 : decode cX11_duel 83 = .ok (.iload 5, 2) := by decide +kernel
theorem dX11_duel_85 : decode cX11_duel 85 = .ok (.iconst 1, 1) := by decide +kernel
theorem dX11_duel_86 : decode cX11_duel 86 = .ok (.isub, 1) := by decide +kernel
theorem dX11_duel_87 : decode cX11_duel 87 = .ok (.invokestatic 224, 3) := by decide +kernel
theorem dX11_duel_90 : decode cX11_duel 90 = .ok (.iconst 0, 1) := by decide +kernel
theorem dX11_duel_91 : decode cX11_duel 91 = .ok (.invokevirtual 362, 3) := by decide +kernel
theorem dX11_duel_94 : decode cX11_duel 94 = .ok (.istore 7, 2) := by decide +kernel
theorem dX11_duel_96 : decode cX11_duel 96 = .ok (.iconst 0, 1) := by decide +kernel
theorem dX11_duel_97 : decode cX11_duel 97 = .ok (.istore 8, 2) := by decide +kernel
theorem dX11_duel_99 : decode cX11_duel 99 = .ok (.iload 8, 2) := by decide +kernel
theorem dX11_duel_101 : decode cX11_duel 101 = .ok (.aload_n 0, 1) := by decide +kernel
theorem dX11_duel_102 : decode cX11_duel 102 = .ok (.getfield 19, 3) := by decide +kernel
theorem dX11_duel_105 : decode cX11_duel 105 = .ok (.getfield 323, 3) := by decide +kernel
theorem dX11_duel_108 : decode cX11_duel 108 = .ok (.if_icmp .ge 64, 3) := by decide +kernel
theorem dX11_duel_111 : decode cX11_duel 111 = .ok (.iload 5, 2) := by decide +kernel
theorem dX11_duel_113 : decode cX11_duel 113 = .ok (.ifCond .le 59, 3) := by decide +kernel
theorem dX11_duel_116 : decode cX11_duel 116 = .ok (.iload 7, 2) := by decide +kernel
theorem dX11_duel_118 : decode cX11_duel 118 = .ok (.ifCond .ne 54, 3) := by decide +kernel
theorem dX11_duel_121 : decode cX11_duel 121 = .ok (.aload_n 0, 1) := by decide +kernel
theorem dX11_duel_122 : decode cX11_duel 122 = .ok (.getfield 19, 3) := by decide +kernel
theorem dX11_duel_125 : decode cX11_duel 125 = .ok (.iload 8, 2) := by decide +kernel
theorem dX11_duel_127 : decode cX11_duel 127 = .ok (.invokevirtual 201, 3) := by decide +kernel
theorem dX11_duel_130 : decode cX11_duel 130 = .ok (.ifCond .eq 36, 3) := by decide +kernel
theorem dX11_duel_133 : decode cX11_duel 133 = .ok (.aload_n 0, 1) := by decide +kernel
theorem dX11_duel_134 : decode cX11_duel 134 = .ok (.aload_n 0, 1) := by decide +kernel
theorem dX11_duel_135 : decode cX11_duel 135 = .ok (.getfield 53, 3) := by decide +kernel
theorem dX11_duel_138 : decode cX11_duel 138 = .ok (.getfield 157, 3) := by decide +kernel
theorem dX11_duel_141 : decode cX11_duel 141 = .ok (.iconst 1, 1) := by decide +kernel
theorem dX11_duel_142 : decode cX11_duel 142 = .ok (.iload 8, 2) := by decide +kernel
theorem dX11_duel_144 : decode cX11_duel 144 = .ok (.ishl, 1) := by decide +kernel
theorem dX11_duel_145 : decode cX11_duel 145 = .ok (.ixor, 1) := by decide +kernel
theorem dX11_duel_146 : decode cX11_duel 146 = .ok (.iload 4, 2) := by decide +kernel
theorem dX11_duel_148 : decode cX11_duel 148 = .ok (.iload 5, 2) := by decide +kernel
theorem dX11_duel_150 : decode cX11_duel 150 = .ok (.iconst 1, 1) := by decide +kernel
theorem dX11_duel_151 : decode cX11_duel 151 = .ok (.isub, 1) := by decide +kernel
theorem dX11_duel_152 : decode cX11_duel 152 = .ok (.iconst 0, 1) := by decide +kernel
theorem dX11_duel_153 : decode cX11_duel 153 = .ok (.invokevirtual 362, 3) := by decide +kernel
theorem dX11_duel_156 : decode cX11_duel 156 = .ok (.ifCond .eq 10, 3) := by decide +kernel
theorem dX11_duel_159 : decode cX11_duel 159 = .ok (.iconst 1, 1) := by decide +kernel
theorem dX11_duel_160 : decode cX11_duel 160 = .ok (.istore 7, 2) := by decide +kernel
theorem dX11_duel_162 : decode cX11_duel 162 = .ok (.iload 8, 2) := by decide +kernel
theorem dX11_duel_164 : decode cX11_duel 164 = .ok (.istore 6, 2) := by decide +kernel
theorem dX11_duel_166 : decode cX11_duel 166 = .ok (.iinc 8 1, 3) := by decide +kernel
theorem dX11_duel_169 : decode cX11_duel 169 = .ok (.goto (-70), 3) := by decide +kernel
theorem dX11_duel_172 : decode cX11_duel 172 = .ok (.aload_n 0, 1) := by decide +kernel
theorem dX11_duel_173 : decode cX11_duel 173 = .ok (.getfield 81, 3) := by decide +kernel
theorem dX11_duel_176 : decode cX11_duel 176 = .ok (.iload 6, 2) := by decide +kernel
theorem dX11_duel_178 : decode cX11_duel 178 = .ok (.i2l, 1) := by decide +kernel
theorem dX11_duel_179 : decode cX11_duel 179 = .ok (.invokevirtual 307, 3) := by decide +kernel
theorem dX11_duel_182 : decode cX11_duel 182 = .ok (.iload 7, 2) := by decide +kernel
theorem dX11_duel_184 : decode cX11_duel 184 = .ok (.ifCond .eq 7, 3) := by decide +kernel
theorem dX11_duel_187 : decode cX11_duel 187 = .ok (.iconst 1, 1) := by decide +kernel
theorem dX11_duel_188 : decode cX11_duel 188 = .ok (.goto 4, 3) := by decide +kernel
theorem dX11_duel_191 : decode cX11_duel 191 = .ok (.iconst 0, 1) := by decide +kernel
theorem dX11_duel_192 : decode cX11_duel 192 = .ok (.ireturn, 1) := by decide +kernel
theorem dX11_end_0 : decode cX11_end 0 = .ok (.aload_n 0, 1) := by decide +kernel
theorem dX11_end_1 : decode cX11_end 1 = .ok (.getfield 12, 3) := by decide +kernel
theorem dX11_end_4 : decode cX11_end 4 = .ok (.iload_n 1, 1) := by decide +kernel
theorem dX11_end_5 : decode cX11_end 5 = .ok (.invokevirtual 111, 3) := by decide +kernel
theorem dX11_end_8 : decode cX11_end 8 = .ok (.ireturn, 1) := by decide +kernel
theorem dX11_entry_0 : decode cX11_entry 0 = .ok (.iload_n 0, 1) := by decide +kernel
theorem dX11_entry_1 : decode cX11_entry 1 = .ok (.ifCond .ne 8, 3) := by decide +kernel
theorem dX11_entry_4 : decode cX11_entry 4 = .ok (.iload_n 1, 1) := by decide +kernel
theorem dX11_entry_5 : decode cX11_entry 5 = .ok (.i2b, 1) := by decide +kernel
theorem dX11_entry_6 : decode cX11_entry 6 = .ok (.goto 14, 3) := by decide +kernel
theorem dX11_entry_9 : decode cX11_entry 9 = .ok (.iload_n 0, 1) := by decide +kernel
theorem dX11_entry_10 : decode cX11_entry 10 = .ok (.iconst 1, 1) := by decide +kernel
theorem dX11_entry_11 : decode cX11_entry 11 = .ok (.if_icmp .ne 8, 3) := by decide +kernel
theorem dX11_entry_14 : decode cX11_entry 14 = .ok (.iload_n 1, 1) := by decide +kernel
theorem dX11_entry_15 : decode cX11_entry 15 = .ok (.i2s, 1) := by decide +kernel
theorem dX11_entry_16 : decode cX11_entry 16 = .ok (.goto 4, 3) := by decide +kernel
theorem dX11_entry_19 : decode cX11_entry 19 = .ok (.iload_n 1, 1) := by decide +kernel
theorem dX11_entry_20 : decode cX11_entry 20 = .ok (.istore_n 2, 1) := by decide +kernel
theorem dX11_entry_21 : decode cX11_entry 21 = .ok (.iconst 0, 1) := by decide +kernel
theorem dX11_entry_22 : decode cX11_entry 22 = .ok (.bipush 99, 2) := by decide +kernel
theorem dX11_entry_24 : decode cX11_entry 24 = .ok (.iload_n 2, 1) := by decide +kernel
theorem dX11_entry_25 : decode cX11_entry 25 = .ok (.invokestatic 219, 3) := by decide +kernel
theorem dX11_entry_28 : decode cX11_entry 28 = .ok (.invokestatic 224, 3) := by decide +kernel
theorem dX11_entry_31 : decode cX11_entry 31 = .ok (.ireturn, 1) := by decide +kernel
theorem dX11_fewestTurns_0 : decode cX11_fewestTurns 0 = .ok (.aload_n 0, 1) := by decide +kernel
theorem dX11_fewestTurns_1 : decode cX11_fewestTurns 1 = .ok (.getfield 99, 3) := by decide +kernel
theorem dX11_fewestTurns_4 : decode cX11_fewestTurns 4 = .ok (.invokevirtual 350, 3) := by decide +kernel
theorem dX11_fewestTurns_7 : decode cX11_fewestTurns 7 = .ok (.bipush 13, 2) := by decide +kernel
theorem dX11_fewestTurns_9 : decode cX11_fewestTurns 9 = .ok (.istore_n 2, 1) := by decide +kernel
theorem dX11_fewestTurns_10 : decode cX11_fewestTurns 10 = .ok (.iconst (-1), 1) := by decide +kernel
theorem dX11_fewestTurns_11 : decode cX11_fewestTurns 11 = .ok (.istore_n 3, 1) := by decide +kernel
theorem dX11_fewestTurns_12 : decode cX11_fewestTurns 12 = .ok (.iconst 0, 1) := by decide +kernel
theorem dX11_fewestTurns_13 : decode cX11_fewestTurns 13 = .ok (.istore 4, 2) := by decide +kernel
theorem dX11_fewestTurns_15 : decode cX11_fewestTurns 15 = .ok (.iconst 0, 1) := by decide +kernel
theorem dX11_fewestTurns_16 : decode cX11_fewestTurns 16 = .ok (.istore 5, 2) := by decide +kernel
theorem dX11_fewestTurns_18 : decode cX11_fewestTurns 18 = .ok (.iconst 0, 1) := by decide +kernel
theorem dX11_fewestTurns_19 : decode cX11_fewestTurns 19 = .ok (.istore 6, 2) := by decide +kernel
theorem dX11_fewestTurns_21 : decode cX11_fewestTurns 21 = .ok (.iload 6, 2) := by decide +kernel
theorem dX11_fewestTurns_23 : decode cX11_fewestTurns 23 = .ok (.aload_n 0, 1) := by decide +kernel
theorem dX11_fewestTurns_24 : decode cX11_fewestTurns 24 = .ok (.getfield 19, 3) := by decide +kernel
theorem dX11_fewestTurns_27 : decode cX11_fewestTurns 27 = .ok (.getfield 353, 3) := by decide +kernel
theorem dX11_fewestTurns_30 : decode cX11_fewestTurns 30 = .ok (.if_icmp .ge 89, 3) := by decide +kernel
theorem dX11_fewestTurns_33 : decode cX11_fewestTurns 33 = .ok (.iload 5, 2) := by decide +kernel
theorem dX11_fewestTurns_35 : decode cX11_fewestTurns 35 = .ok (.invokestatic 261, 3) := by decide +kernel
theorem dX11_fewestTurns_38 : decode cX11_fewestTurns 38 = .ok (.istore 7, 2) := by decide +kernel
theorem dX11_fewestTurns_40 : decode cX11_fewestTurns 40 = .ok (.iload 7, 2) := by decide +kernel
theorem dX11_fewestTurns_42 : decode cX11_fewestTurns 42 = .ok (.iload_n 2, 1) := by decide +kernel
theorem dX11_fewestTurns_43 : decode cX11_fewestTurns 43 = .ok (.if_icmp .ge 23, 3) := by decide +kernel
theorem dX11_fewestTurns_46 : decode cX11_fewestTurns 46 = .ok (.aload_n 0, 1) := by decide +kernel
theorem dX11_fewestTurns_47 : decode cX11_fewestTurns 47 = .ok (.getfield 99, 3) := by decide +kernel
theorem dX11_fewestTurns_50 : decode cX11_fewestTurns 50 = .ok (.aload_n 0, 1) := by decide +kernel
theorem dX11_fewestTurns_51 : decode cX11_fewestTurns 51 = .ok (.getfield 53, 3) := by decide +kernel
theorem dX11_fewestTurns_54 : decode cX11_fewestTurns 54 = .ok (.getfield 157, 3) := by decide +kernel
theorem dX11_fewestTurns_57 : decode cX11_fewestTurns 57 = .ok (.iload 5, 2) := by decide +kernel
theorem dX11_fewestTurns_59 : decode cX11_fewestTurns 59 = .ok (.ixor, 1) := by decide +kernel
theorem dX11_fewestTurns_60 : decode cX11_fewestTurns 60 = .ok (.invokevirtual 356, 3) := by decide +kernel
theorem dX11_fewestTurns_63 : decode cX11_fewestTurns 63 = .ok (.goto 4, 3) := by decide +kernel
theorem dX11_fewestTurns_66 : decode cX11_fewestTurns 66 = .ok (.iconst (-1), 1) := by decide +kernel
theorem dX11_fewestTurns_67 : decode cX11_fewestTurns 67 = .ok (.istore 8, 2) := by decide +kernel
theorem dX11_fewestTurns_69 : decode cX11_fewestTurns 69 = .ok (.iload 8, 2) := by decide +kernel
theorem dX11_fewestTurns_71 : decode cX11_fewestTurns 71 = .ok (.iconst (-1), 1) := by decide +kernel
theorem dX11_fewestTurns_72 : decode cX11_fewestTurns 72 = .ok (.if_icmp .eq 30, 3) := by decide +kernel
theorem dX11_fewestTurns_75 : decode cX11_fewestTurns 75 = .ok (.iload_n 1, 1) := by decide +kernel
theorem dX11_fewestTurns_76 : decode cX11_fewestTurns 76 = .ok (.iconst (-1), 1) := by decide +kernel
theorem dX11_fewestTurns_77 : decode cX11_fewestTurns 77 = .ok (.if_icmp .eq 12, 3) := by decide +kernel
theorem dX11_fewestTurns_80 : decode cX11_fewestTurns 80 = .ok (.iload 8, 2) := by decide +kernel
theorem dX11_fewestTurns_82 : decode cX11_fewestTurns 82 = .ok (.iload_n 1, 1) := by decide +kernel
theorem dX11_fewestTurns_83 : decode cX11_fewestTurns 83 = .ok (.invokestatic 317, 3) := by decide +kernel
theorem dX11_fewestTurns_86 : decode cX11_fewestTurns 86 = .ok (.ifCond .eq 16, 3) := by decide +kernel
theorem dX11_fewestTurns_89 : decode cX11_fewestTurns 89 = .ok (.iload 7, 2) := by decide +kernel
theorem dX11_fewestTurns_91 : decode cX11_fewestTurns 91 = .ok (.istore_n 2, 1) := by decide +kernel
theorem dX11_fewestTurns_92 : decode cX11_fewestTurns 92 = .ok (.iload 5, 2) := by decide +kernel
theorem dX11_fewestTurns_94 : decode cX11_fewestTurns 94 = .ok (.istore_n 3, 1) := by decide +kernel
theorem dX11_fewestTurns_95 : decode cX11_fewestTurns 95 = .ok (.iload 8, 2) := by decide +kernel
theorem dX11_fewestTurns_97 : decode cX11_fewestTurns 97 = .ok (.invokestatic 320, 3) := by decide +kernel
theorem dX11_fewestTurns_100 : decode cX11_fewestTurns 100 = .ok (.istore 4, 2) := by decide +kernel
theorem dX11_fewestTurns_102 : decode cX11_fewestTurns 102 = .ok (.aload_n 0, 1) := by decide +kernel
theorem dX11_fewestTurns_103 : decode cX11_fewestTurns 103 = .ok (.getfield 19, 3) := by decide +kernel
theorem dX11_fewestTurns_106 : decode cX11_fewestTurns 106 = .ok (.iload 5, 2) := by decide +kernel
theorem dX11_fewestTurns_108 : decode cX11_fewestTurns 108 = .ok (.invokevirtual 359, 3) := by decide +kernel
theorem dX11_fewestTurns_111 : decode cX11_fewestTurns 111 = .ok (.istore 5, 2) := by decide +kernel
theorem dX11_fewestTurns_113 : decode cX11_fewestTurns 113 = .ok (.iinc 6 1, 3) := by decide +kernel
theorem dX11_fewestTurns_116 : decode cX11_fewestTurns 116 = .ok (.goto (-95), 3) := by decide +kernel
theorem dX11_fewestTurns_119 : decode cX11_fewestTurns 119 = .ok (.iload_n 3, 1) := by decide +kernel
theorem dX11_fewestTurns_120 : decode cX11_fewestTurns 120 = .ok (.iconst (-1), 1) := by decide +kernel
theorem dX11_fewestTurns_121 : decode cX11_fewestTurns 121 = .ok (.if_icmp .ne 6, 3) := by decide +kernel
theorem dX11_fewestTurns_124 : decode cX11_fewestTurns 124 = .ok (.bipush (-2), 2) := by decide +kernel
theorem dX11_fewestTurns_126 : decode cX11_fewestTurns 126 = .ok (.ireturn, 1) := by decide +kernel
theorem dX11_fewestTurns_127 : decode cX11_fewestTurns 127 = .ok (.aload_n 0, 1) := by decide +kernel
theorem dX11_fewestTurns_128 : decode cX11_fewestTurns 128 = .ok (.getfield 81, 3) := by decide +kernel
theorem dX11_fewestTurns_131 : decode cX11_fewestTurns 131 = .ok (.iload_n 3, 1) := by decide +kernel
theorem dX11_fewestTurns_132 : decode cX11_fewestTurns 132 = .ok (.i2l, 1) := by decide +kernel
theorem dX11_fewestTurns_133 : decode cX11_fewestTurns 133 = .ok (.iload 4, 2) := by decide +kernel
theorem dX11_fewestTurns_135 : decode cX11_fewestTurns 135 = .ok (.i2l, 1) := by decide +kernel
theorem dX11_fewestTurns_136 : decode cX11_fewestTurns 136 = .ok (.invokevirtual 257, 3) := by decide +kernel
theorem dX11_fewestTurns_139 : decode cX11_fewestTurns 139 = .ok (.iload_n 2, 1) := by decide +kernel
theorem dX11_fewestTurns_140 : decode cX11_fewestTurns 140 = .ok (.ireturn, 1) := by decide +kernel
theorem dX11_findFits_0 : decode cX11_findFits 0 = .ok (.aload_n 0, 1) := by decide +kernel
theorem dX11_findFits_1 : decode cX11_findFits 1 = .ok (.getfield 99, 3) := by decide +kernel
theorem dX11_findFits_4 : decode cX11_findFits 4 = .ok (.invokevirtual 384, 3) := by decide +kernel
theorem dX11_findFits_7 : decode cX11_findFits 7 = .ok (.iconst 0, 1) := by decide +kernel
theorem dX11_findFits_8 : decode cX11_findFits 8 = .ok (.istore_n 1, 1) := by decide +kernel
theorem dX11_findFits_9 : decode cX11_findFits 9 = .ok (.iload_n 1, 1) := by decide +kernel
theorem dX11_findFits_10 : decode cX11_findFits 10 = .ok (.aload_n 0, 1) := by decide +kernel
theorem dX11_findFits_11 : decode cX11_findFits 11 = .ok (.getfield 74, 3) := by decide +kernel
theorem dX11_findFits_14 : decode cX11_findFits 14 = .ok (.getfield 126, 3) := by decide +kernel
theorem dX11_findFits_17 : decode cX11_findFits 17 = .ok (.if_icmp .ge 119, 3) := by decide +kernel
theorem dX11_findFits_20 : decode cX11_findFits 20 = .ok (.aload_n 0, 1) := by decide +kernel
theorem dX11_findFits_21 : decode cX11_findFits 21 = .ok (.getfield 74, 3) := by decide +kernel
theorem dX11_findFits_24 : decode cX11_findFits 24 = .ok (.iload_n 1, 1) := by decide +kernel
theorem dX11_findFits_25 : decode cX11_findFits 25 = .ok (.invokevirtual 387, 3) := by decide +kernel
theorem dX11_findFits_28 : decode cX11_findFits 28 = .ok (.istore_n 2, 1) := by decide +kernel
theorem dX11_findFits_29 : decode cX11_findFits 29 = .ok (.aload_n 0, 1) := by decide +kernel
theorem dX11_findFits_30 : decode cX11_findFits 30 = .ok (.getfield 99, 3) := by decide +kernel
theorem dX11_findFits_33 : decode cX11_findFits 33 = .ok (.aload_n 0, 1) := by decide +kernel
theorem dX11_findFits_34 : decode cX11_findFits 34 = .ok (.getfield 74, 3) := by decide +kernel
theorem dX11_findFits_37 : decode cX11_findFits 37 = .ok (.iload_n 1, 1) := by decide +kernel
theorem dX11_findFits_38 : decode cX11_findFits 38 = .ok (.invokevirtual 390, 3) := by decide +kernel
theorem dX11_findFits_41 : decode cX11_findFits 41 = .ok (.bipush 99, 2) := by decide +kernel
theorem dX11_findFits_43 : decode cX11_findFits 43 = .ok (.iconst 0, 1) := by decide +kernel
theorem dX11_findFits_44 : decode cX11_findFits 44 = .ok (.iconst 0, 1) := by decide +kernel
theorem dX11_findFits_45 : decode cX11_findFits 45 = .ok (.aload_n 0, 1) := by decide +kernel
theorem dX11_findFits_46 : decode cX11_findFits 46 = .ok (.getfield 74, 3) := by decide +kernel
theorem dX11_findFits_49 : decode cX11_findFits 49 = .ok (.iload_n 1, 1) := by decide +kernel
theorem dX11_findFits_50 : decode cX11_findFits 50 = .ok (.invokevirtual 391, 3) := by decide +kernel
theorem dX11_findFits_53 : decode cX11_findFits 53 = .ok (.invokevirtual 327, 3) := by decide +kernel
theorem dX11_findFits_56 : decode cX11_findFits 56 = .ok (.aload_n 0, 1) := by decide +kernel
theorem dX11_findFits_57 : decode cX11_findFits 57 = .ok (.getfield 99, 3) := by decide +kernel
theorem dX11_findFits_60 : decode cX11_findFits 60 = .ok (.invokevirtual 350, 3) := by decide +kernel
theorem dX11_findFits_63 : decode cX11_findFits 63 = .ok (.iconst 0, 1) := by decide +kernel
theorem dX11_findFits_64 : decode cX11_findFits 64 = .ok (.istore_n 3, 1) := by decide +kernel
theorem dX11_findFits_65 : decode cX11_findFits 65 = .ok (.iconst 0, 1) := by decide +kernel
theorem dX11_findFits_66 : decode cX11_findFits 66 = .ok (.istore 4, 2) := by decide +kernel
theorem dX11_findFits_68 : decode cX11_findFits 68 = .ok (.iload 4, 2) := by decide +kernel
theorem dX11_findFits_70 : decode cX11_findFits 70 = .ok (.aload_n 0, 1) := by decide +kernel
theorem dX11_findFits_71 : decode cX11_findFits 71 = .ok (.getfield 19, 3) := by decide +kernel
theorem dX11_findFits_74 : decode cX11_findFits 74 = .ok (.getfield 353, 3) := by decide +kernel
theorem dX11_findFits_77 : decode cX11_findFits 77 = .ok (.if_icmp .ge 53, 3) := by decide +kernel
theorem dX11_findFits_80 : decode cX11_findFits 80 = .ok (.aload_n 0, 1) := by decide +kernel
theorem dX11_findFits_81 : decode cX11_findFits 81 = .ok (.getfield 99, 3) := by decide +kernel
theorem dX11_findFits_84 : decode cX11_findFits 84 = .ok (.iload_n 3, 1) := by decide +kernel
theorem dX11_findFits_85 : decode cX11_findFits 85 = .ok (.invokevirtual 378, 3) := by decide +kernel
theorem dX11_findFits_88 : decode cX11_findFits 88 = .ok (.ifCond .eq 27, 3) := by decide +kernel
theorem dX11_findFits_91 : decode cX11_findFits 91 = .ok (.aload_n 0, 1) := by decide +kernel
theorem dX11_findFits_92 : decode cX11_findFits 92 = .ok (.getfield 99, 3) := by decide +kernel
theorem dX11_findFits_95 : decode cX11_findFits 95 = .ok (.iload_n 3, 1) := by decide +kernel
theorem dX11_findFits_96 : decode cX11_findFits 96 = .ok (.invokevirtual 356, 3) := by decide +kernel
theorem dX11_findFits_99 : decode cX11_findFits 99 = .ok (.invokestatic 394, 3) := by decide +kernel
theorem dX11_findFits_102 : decode cX11_findFits 102 = .ok (.iload_n 2, 1) := by decide +kernel
theorem dX11_findFits_103 : decode cX11_findFits 103 = .ok (.if_icmp .eq 12, 3) := by decide +kernel
theorem dX11_findFits_106 : decode cX11_findFits 106 = .ok (.aload_n 0, 1) := by decide +kernel
theorem dX11_findFits_107 : decode cX11_findFits 107 = .ok (.getfield 99, 3) := by decide +kernel
theorem dX11_findFits_110 : decode cX11_findFits 110 = .ok (.iload_n 3, 1) := by decide +kernel
theorem dX11_findFits_111 : decode cX11_findFits 111 = .ok (.iconst 0, 1) := by decide +kernel
theorem dX11_findFits_112 : decode cX11_findFits 112 = .ok (.invokevirtual 397, 3) := by decide +kernel
theorem dX11_findFits_115 : decode cX11_findFits 115 = .ok (.aload_n 0, 1) := by decide +kernel
theorem dX11_findFits_116 : decode cX11_findFits 116 = .ok (.getfield 19, 3) := by decide +kernel
theorem dX11_findFits_119 : decode cX11_findFits 119 = .ok (.iload_n 3, 1) := by decide +kernel
theorem dX11_findFits_120 : decode cX11_findFits 120 = .ok (.invokevirtual 359, 3) := by decide +kernel
theorem dX11_findFits_123 : decode cX11_findFits 123 = .ok (.istore_n 3, 1) := by decide +kernel
theorem dX11_findFits_124 : decode cX11_findFits 124 = .ok (.iinc 4 1, 3) := by decide +kernel
theorem dX11_findFits_127 : decode cX11_findFits 127 = .ok (.goto (-59), 3) := by decide +kernel
theorem dX11_findFits_130 : decode cX11_findFits 130 = .ok (.iinc 1 1, 3) := by decide +kernel
theorem dX11_findFits_133 : decode cX11_findFits 133 = .ok (.goto (-124), 3) := by decide +kernel
theorem dX11_findFits_136 : decode cX11_findFits 136 = .ok (.return_, 1) := by decide +kernel
theorem dX11_firstGets_0 : decode cX11_firstGets 0 = .ok (.iload_n 3, 1) := by decide +kernel
theorem dX11_firstGets_1 : decode cX11_firstGets 1 = .ok (.ifCond .gt 16, 3) := by decide +kernel
theorem dX11_firstGets_4 : decode cX11_firstGets 4 = .ok (.aload_n 0, 1) := by decide +kernel
theorem dX11_firstGets_5 : decode cX11_firstGets 5 = .ok (.getfield 99, 3) := by decide +kernel
theorem dX11_firstGets_8 : decode cX11_firstGets 8 = .ok (.iload_n 1, 1) := by decide +kernel
theorem dX11_firstGets_9 : decode cX11_firstGets 9 = .ok (.invokevirtual 356, 3) := by decide +kernel
theorem dX11_firstGets_12 : decode cX11_firstGets 12 = .ok (.iload_n 2, 1) := by decide +kernel
theorem dX11_firstGets_13 : decode cX11_firstGets 13 = .ok (.invokestatic 317, 3) := by decide +kernel
theorem dX11_firstGets_16 : decode cX11_firstGets 16 = .ok (.ireturn, 1) := by decide +kernel
theorem dX11_firstGets_17 : decode cX11_firstGets 17 = .ok (.aload_n 0, 1) := by decide +kernel
theorem dX11_firstGets_18 : decode cX11_firstGets 18 = .ok (.iload_n 1, 1) := by decide +kernel
theorem dX11_firstGets_19 : decode cX11_firstGets 19 = .ok (.iload_n 2, 1) := by decide +kernel
theorem dX11_firstGets_20 : decode cX11_firstGets 20 = .ok (.iload_n 3, 1) := by decide +kernel
theorem dX11_firstGets_21 : decode cX11_firstGets 21 = .ok (.iconst 1, 1) := by decide +kernel
theorem dX11_firstGets_22 : decode cX11_firstGets 22 = .ok (.isub, 1) := by decide +kernel
theorem dX11_firstGets_23 : decode cX11_firstGets 23 = .ok (.iload 4, 2) := by decide +kernel
theorem dX11_firstGets_25 : decode cX11_firstGets 25 = .ok (.ifCond .ne 7, 3) := by decide +kernel
theorem dX11_firstGets_28 : decode cX11_firstGets 28 = .ok (.iconst 1, 1) := by decide +kernel
theorem dX11_firstGets_29 : decode cX11_firstGets 29 = .ok (.goto 4, 3) := by decide +kernel
theorem dX11_firstGets_32 : decode cX11_firstGets 32 = .ok (.iconst 0, 1) := by decide +kernel
theorem dX11_firstGets_33 : decode cX11_firstGets 33 = .ok (.invokevirtual 362, 3) := by decide +kernel
theorem dX11_firstGets_36 : decode cX11_firstGets 36 = .ok (.istore 5, 2) := by decide +kernel
theorem dX11_firstGets_38 : decode cX11_firstGets 38 = .ok (.iconst 0, 1) := by decide +kernel
theorem dX11_firstGets_39 : decode cX11_firstGets 39 = .ok (.istore 6, 2) := by decide +kernel
theorem dX11_firstGets_41 : decode cX11_firstGets 41 = .ok (.iload 6, 2) := by decide +kernel
theorem dX11_firstGets_43 : decode cX11_firstGets 43 = .ok (.aload_n 0, 1) := by decide +kernel
theorem dX11_firstGets_44 : decode cX11_firstGets 44 = .ok (.getfield 19, 3) := by decide +kernel
theorem dX11_firstGets_47 : decode cX11_firstGets 47 = .ok (.getfield 323, 3) := by decide +kernel
theorem dX11_firstGets_50 : decode cX11_firstGets 50 = .ok (.if_icmp .ge 54, 3) := by decide +kernel
theorem dX11_firstGets_53 : decode cX11_firstGets 53 = .ok (.iload 5, 2) := by decide +kernel
theorem dX11_firstGets_55 : decode cX11_firstGets 55 = .ok (.iload 4, 2) := by decide +kernel
theorem dX11_firstGets_57 : decode cX11_firstGets 57 = .ok (.if_icmp .eq 47, 3) := by decide +kernel
theorem dX11_firstGets_60 : decode cX11_firstGets 60 = .ok (.aload_n 0, 1) := by decide +kernel
theorem dX11_firstGets_61 : decode cX11_firstGets 61 = .ok (.getfield 19, 3) := by decide +kernel
theorem dX11_firstGets_64 : decode cX11_firstGets 64 = .ok (.iload 6, 2) := by decide +kernel
theorem dX11_firstGets_66 : decode cX11_firstGets 66 = .ok (.invokevirtual 201, 3) := by decide +kernel
theorem dX11_firstGets_69 : decode cX11_firstGets 69 = .ok (.ifCond .eq 29, 3) := by decide +kernel
theorem dX11_firstGets_72 : decode cX11_firstGets 72 = .ok (.aload_n 0, 1) := by decide +kernel
theorem dX11_firstGets_73 : decode cX11_firstGets 73 = .ok (.iload_n 1, 1) := by decide +kernel
theorem dX11_firstGets_74 : decode cX11_firstGets 74 = .ok (.iconst 1, 1) := by decide +kernel
theorem dX11_firstGets_75 : decode cX11_firstGets 75 = .ok (.iload 6, 2) := by decide +kernel
theorem dX11_firstGets_77 : decode cX11_firstGets 77 = .ok (.ishl, 1) := by decide +kernel
theorem dX11_firstGets_78 : decode cX11_firstGets 78 = .ok (.ixor, 1) := by decide +kernel
theorem dX11_firstGets_79 : decode cX11_firstGets 79 = .ok (.iload_n 2, 1) := by decide +kernel
theorem dX11_firstGets_80 : decode cX11_firstGets 80 = .ok (.iload_n 3, 1) := by decide +kernel
theorem dX11_firstGets_81 : decode cX11_firstGets 81 = .ok (.iconst 1, 1) := by decide +kernel
theorem dX11_firstGets_82 : decode cX11_firstGets 82 = .ok (.isub, 1) := by decide +kernel
theorem dX11_firstGets_83 : decode cX11_firstGets 83 = .ok (.iload 4, 2) := by decide +kernel
theorem dX11_firstGets_85 : decode cX11_firstGets 85 = .ok (.ifCond .ne 7, 3) := by decide +kernel
theorem dX11_firstGets_88 : decode cX11_firstGets 88 = .ok (.iconst 1, 1) := by decide +kernel
theorem dX11_firstGets_89 : decode cX11_firstGets 89 = .ok (.goto 4, 3) := by decide +kernel
theorem dX11_firstGets_92 : decode cX11_firstGets 92 = .ok (.iconst 0, 1) := by decide +kernel
theorem dX11_firstGets_93 : decode cX11_firstGets 93 = .ok (.invokevirtual 362, 3) := by decide +kernel
theorem dX11_firstGets_96 : decode cX11_firstGets 96 = .ok (.istore 5, 2) := by decide +kernel
theorem dX11_firstGets_98 : decode cX11_firstGets 98 = .ok (.iinc 6 1, 3) := by decide +kernel
theorem dX11_firstGets_101 : decode cX11_firstGets 101 = .ok (.goto (-60), 3) := by decide +kernel
theorem dX11_firstGets_104 : decode cX11_firstGets 104 = .ok (.iload 5, 2) := by decide +kernel
theorem dX11_firstGets_106 : decode cX11_firstGets 106 = .ok (.ireturn, 1) := by decide +kernel
theorem dX11_flow_0 : decode cX11_flow 0 = .ok (.iload_n 1, 1) := by decide +kernel
theorem dX11_flow_1 : decode cX11_flow 1 = .ok (.ifCond .lt 21, 3) := by decide +kernel
theorem dX11_flow_4 : decode cX11_flow 4 = .ok (.iload_n 1, 1) := by decide +kernel
theorem dX11_flow_5 : decode cX11_flow 5 = .ok (.sipush 9999, 3) := by decide +kernel
theorem dX11_flow_8 : decode cX11_flow 8 = .ok (.if_icmp .gt 14, 3) := by decide +kernel
theorem dX11_flow_11 : decode cX11_flow 11 = .ok (.aload_n 0, 1) := by decide +kernel
theorem dX11_flow_12 : decode cX11_flow 12 = .ok (.getfield 29, 3) := by decide +kernel
theorem dX11_flow_15 : decode cX11_flow 15 = .ok (.iload_n 1, 1) := by decide +kernel
theorem dX11_flow_16 : decode cX11_flow 16 = .ok (.invokevirtual 198, 3) := by decide +kernel
theorem dX11_flow_19 : decode cX11_flow 19 = .ok (.goto 4, 3) := by decide +kernel
theorem dX11_flow_22 : decode cX11_flow 22 = .ok (.iconst (-1), 1) := by decide +kernel
theorem dX11_flow_23 : decode cX11_flow 23 = .ok (.ireturn, 1) := by decide +kernel
theorem dX11_forget_0 : decode cX11_forget 0 = .ok (.aload_n 0, 1) := by decide +kernel
theorem dX11_forget_1 : decode cX11_forget 1 = .ok (.getfield 74, 3) := by decide +kernel
theorem dX11_forget_4 : decode cX11_forget 4 = .ok (.getfield 126, 3) := by decide +kernel
theorem dX11_forget_7 : decode cX11_forget 7 = .ok (.istore_n 1, 1) := by decide +kernel
theorem dX11_forget_8 : decode cX11_forget 8 = .ok (.aload_n 0, 1) := by decide +kernel
theorem dX11_forget_9 : decode cX11_forget 9 = .ok (.getfield 74, 3) := by decide +kernel
theorem dX11_forget_12 : decode cX11_forget 12 = .ok (.iconst 0, 1) := by decide +kernel
theorem dX11_forget_13 : decode cX11_forget 13 = .ok (.putfield 126, 3) := by decide +kernel
theorem dX11_forget_16 : decode cX11_forget 16 = .ok (.iload_n 1, 1) := by decide +kernel
theorem dX11_forget_17 : decode cX11_forget 17 = .ok (.ireturn, 1) := by decide +kernel
theorem dX11_give_0 : decode cX11_give 0 = .ok (.aload_n 0, 1) := by decide +kernel
theorem dX11_give_1 : decode cX11_give 1 = .ok (.getfield 53, 3) := by decide +kernel
theorem dX11_give_4 : decode cX11_give 4 = .ok (.iload_n 1, 1) := by decide +kernel
theorem dX11_give_5 : decode cX11_give 5 = .ok (.invokevirtual 241, 3) := by decide +kernel
theorem dX11_give_8 : decode cX11_give 8 = .ok (.ifCond .eq 14, 3) := by decide +kernel
theorem dX11_give_11 : decode cX11_give 11 = .ok (.iload_n 2, 1) := by decide +kernel
theorem dX11_give_12 : decode cX11_give 12 = .ok (.iconst 1, 1) := by decide +kernel
theorem dX11_give_13 : decode cX11_give 13 = .ok (.if_icmp .lt 9, 3) := by decide +kernel
theorem dX11_give_16 : decode cX11_give 16 = .ok (.iload_n 2, 1) := by decide +kernel
theorem dX11_give_17 : decode cX11_give 17 = .ok (.bipush 9, 2) := by decide +kernel
theorem dX11_give_19 : decode cX11_give 19 = .ok (.if_icmp .le 5, 3) := by decide +kernel
theorem dX11_give_22 : decode cX11_give 22 = .ok (.iconst (-1), 1) := by decide +kernel
theorem dX11_give_23 : decode cX11_give 23 = .ok (.ireturn, 1) := by decide +kernel
theorem dX11_give_24 : decode cX11_give 24 = .ok (.aload_n 0, 1) := by decide +kernel
theorem dX11_give_25 : decode cX11_give 25 = .ok (.getfield 63, 3) := by decide +kernel
theorem dX11_give_28 : decode cX11_give 28 = .ok (.aload_n 0, 1) := by decide +kernel
theorem dX11_give_29 : decode cX11_give 29 = .ok (.getfield 53, 3) := by decide +kernel
theorem dX11_give_32 : decode cX11_give 32 = .ok (.invokevirtual 204, 3) := by decide +kernel
theorem dX11_give_35 : decode cX11_give 35 = .ok (.aload_n 0, 1) := by decide +kernel
theorem dX11_give_36 : decode cX11_give 36 = .ok (.getfield 53, 3) := by decide +kernel
theorem dX11_give_39 : decode cX11_give 39 = .ok (.iload_n 1, 1) := by decide +kernel
theorem dX11_give_40 : decode cX11_give 40 = .ok (.iload_n 2, 1) := by decide +kernel
theorem dX11_give_41 : decode cX11_give 41 = .ok (.invokevirtual 244, 3) := by decide +kernel
theorem dX11_give_44 : decode cX11_give 44 = .ok (.ireturn, 1) := by decide +kernel
theorem dX11_isAhead_0 : decode cX11_isAhead 0 = .ok (.iload_n 0, 1) := by decide +kernel
theorem dX11_isAhead_1 : decode cX11_isAhead 1 = .ok (.ifCond .lt 14, 3) := by decide +kernel
theorem dX11_isAhead_4 : decode cX11_isAhead 4 = .ok (.iload_n 0, 1) := by decide +kernel
theorem dX11_isAhead_5 : decode cX11_isAhead 5 = .ok (.sipush 300, 3) := by decide +kernel
theorem dX11_isAhead_8 : decode cX11_isAhead 8 = .ok (.if_icmp .gt 7, 3) := by decide +kernel
theorem dX11_isAhead_11 : decode cX11_isAhead 11 = .ok (.iconst 1, 1) := by decide +kernel
theorem dX11_isAhead_12 : decode cX11_isAhead 12 = .ok (.goto 4, 3) := by decide +kernel
theorem dX11_isAhead_15 : decode cX11_isAhead 15 = .ok (.iconst 0, 1) := by decide +kernel
theorem dX11_isAhead_16 : decode cX11_isAhead 16 = .ok (.ireturn, 1) := by decide +kernel
theorem dX11_kitchenOf_0 : decode cX11_kitchenOf 0 = .ok (.iload_n 0, 1) := by decide +kernel
theorem dX11_kitchenOf_1 : decode cX11_kitchenOf 1 = .ok (.ifCond .lt 10, 3) := by decide +kernel
theorem dX11_kitchenOf_4 : decode cX11_kitchenOf 4 = .ok (.iload_n 0, 1) := by decide +kernel
theorem dX11_kitchenOf_5 : decode cX11_kitchenOf 5 = .ok (.bipush 16, 2) := by decide +kernel
theorem dX11_kitchenOf_7 : decode cX11_kitchenOf 7 = .ok (.irem, 1) := by decide +kernel
theorem dX11_kitchenOf_8 : decode cX11_kitchenOf 8 = .ok (.goto 4, 3) := by decide +kernel
theorem dX11_kitchenOf_11 : decode cX11_kitchenOf 11 = .ok (.iconst (-1), 1) := by decide +kernel
theorem dX11_kitchenOf_12 : decode cX11_kitchenOf 12 = .ok (.ireturn, 1) := by decide +kernel
theorem dX11_passMinutes_0 : decode cX11_passMinutes 0 = .ok (.iconst 0, 1) := by decide +kernel
theorem dX11_passMinutes_1 : decode cX11_passMinutes 1 = .ok (.istore_n 2, 1) := by decide +kernel
theorem dX11_passMinutes_2 : decode cX11_passMinutes 2 = .ok (.iload_n 2, 1) := by decide +kernel
theorem dX11_passMinutes_3 : decode cX11_passMinutes 3 = .ok (.iload_n 1, 1) := by decide +kernel
theorem dX11_passMinutes_4 : decode cX11_passMinutes 4 = .ok (.if_icmp .ge 20, 3) := by decide +kernel
theorem dX11_passMinutes_7 : decode cX11_passMinutes 7 = .ok (.aload_n 0, 1) := by decide +kernel
theorem dX11_passMinutes_8 : decode cX11_passMinutes 8 = .ok (.getfield 90, 3) := by decide +kernel
theorem dX11_passMinutes_11 : decode cX11_passMinutes 11 = .ok (.aload_n 0, 1) := by decide +kernel
theorem dX11_passMinutes_12 : decode cX11_passMinutes 12 = .ok (.getfield 53, 3) := by decide +kernel
theorem dX11_passMinutes_15 : decode cX11_passMinutes 15 = .ok (.invokevirtual 266, 3) := by decide +kernel
theorem dX11_passMinutes_18 : decode cX11_passMinutes 18 = .ok (.iinc 2 1, 3) := by decide +kernel
theorem dX11_passMinutes_21 : decode cX11_passMinutes 21 = .ok (.goto (-19), 3) := by decide +kernel
theorem dX11_passMinutes_24 : decode cX11_passMinutes 24 = .ok (.return_, 1) := by decide +kernel
theorem dX11_perform_0 : decode cX11_perform 0 = .ok (.aload_n 0, 1) := by decide +kernel
theorem dX11_perform_1 : decode cX11_perform 1 = .ok (.getfield 46, 3) := by decide +kernel
theorem dX11_perform_4 : decode cX11_perform 4 = .ok (.iload_n 1, 1) := by decide +kernel
theorem dX11_perform_5 : decode cX11_perform 5 = .ok (.invokevirtual 275, 3) := by decide +kernel
theorem dX11_perform_8 : decode cX11_perform 8 = .ok (.istore_n 2, 1) := by decide +kernel
theorem dX11_perform_9 : decode cX11_perform 9 = .ok (.aload_n 0, 1) := by decide +kernel
theorem dX11_perform_10 : decode cX11_perform 10 = .ok (.getfield 46, 3) := by decide +kernel
theorem dX11_perform_13 : decode cX11_perform 13 = .ok (.iload_n 1, 1) := by decide +kernel
theorem dX11_perform_14 : decode cX11_perform 14 = .ok (.invokevirtual 278, 3) := by decide +kernel
theorem dX11_perform_17 : decode cX11_perform 17 = .ok (.istore_n 3, 1) := by decide +kernel
theorem dX11_perform_18 : decode cX11_perform 18 = .ok (.aload_n 0, 1) := by decide +kernel
theorem dX11_perform_19 : decode cX11_perform 19 = .ok (.getfield 46, 3) := by decide +kernel
theorem dX11_perform_22 : decode cX11_perform 22 = .ok (.iload_n 1, 1) := by decide +kernel
theorem dX11_perform_23 : decode cX11_perform 23 = .ok (.invokevirtual 279, 3) := by decide +kernel
theorem dX11_perform_26 : decode cX11_perform 26 = .ok (.tableswitch 139 0 3 #[30, 84, 139, 114], 30) := by decide +kernel
theorem dX11_perform_56 : decode cX11_perform 56 = .ok (.aload_n 0, 1) := by decide +kernel
theorem dX11_perform_57 : decode cX11_perform 57 = .ok (.getfield 19, 3) := by decide +kernel
theorem dX11_perform_60 : decode cX11_perform 60 = .ok (.iload_n 2, 1) := by decide +kernel
theorem dX11_perform_61 : decode cX11_perform 61 = .ok (.invokevirtual 137, 3) := by decide +kernel
theorem dX11_perform_64 : decode cX11_perform 64 = .ok (.ifCond .eq 15, 3) := by decide +kernel
theorem dX11_perform_67 : decode cX11_perform 67 = .ok (.aload_n 0, 1) := by decide +kernel
theorem dX11_perform_68 : decode cX11_perform 68 = .ok (.getfield 53, 3) := by decide +kernel
theorem dX11_perform_71 : decode cX11_perform 71 = .ok (.getfield 208, 3) := by decide +kernel
theorem dX11_perform_74 : decode cX11_perform 74 = .ok (.bipush 6, 2) := by decide +kernel
theorem dX11_perform_76 : decode cX11_perform 76 = .ok (.if_icmp .lt 5, 3) := by decide +kernel
theorem dX11_perform_79 : decode cX11_perform 79 = .ok (.iconst (-1), 1) := by decide +kernel
theorem dX11_perform_80 : decode cX11_perform 80 = .ok (.ireturn, 1) := by decide +kernel
theorem dX11_perform_81 : decode cX11_perform 81 = .ok (.aload_n 0, 1) := by decide +kernel
theorem dX11_perform_82 : decode cX11_perform 82 = .ok (.getfield 53, 3) := by decide +kernel
theorem dX11_perform_85 : decode cX11_perform 85 = .ok (.iload_n 2, 1) := by decide +kernel
theorem dX11_perform_86 : decode cX11_perform 86 = .ok (.iload_n 3, 1) := by decide +kernel
theorem dX11_perform_87 : decode cX11_perform 87 = .ok (.aload_n 0, 1) := by decide +kernel
theorem dX11_perform_88 : decode cX11_perform 88 = .ok (.getfield 46, 3) := by decide +kernel
theorem dX11_perform_91 : decode cX11_perform 91 = .ok (.iload_n 1, 1) := by decide +kernel
theorem dX11_perform_92 : decode cX11_perform 92 = .ok (.invokevirtual 280, 3) := by decide +kernel
theorem dX11_perform_95 : decode cX11_perform 95 = .ok (.iconst 0, 1) := by decide +kernel
theorem dX11_perform_96 : decode cX11_perform 96 = .ok (.aload_n 0, 1) := by decide +kernel
theorem dX11_perform_97 : decode cX11_perform 97 = .ok (.getfield 19, 3) := by decide +kernel
theorem dX11_perform_100 : decode cX11_perform 100 = .ok (.iload_n 2, 1) := by decide +kernel
theorem dX11_perform_101 : decode cX11_perform 101 = .ok (.invokevirtual 234, 3) := by decide +kernel
theorem dX11_perform_104 : decode cX11_perform 104 = .ok (.invokevirtual 237, 3) := by decide +kernel
theorem dX11_perform_107 : decode cX11_perform 107 = .ok (.pop, 1) := by decide +kernel
theorem dX11_perform_108 : decode cX11_perform 108 = .ok (.iconst 0, 1) := by decide +kernel
theorem dX11_perform_109 : decode cX11_perform 109 = .ok (.ireturn, 1) := by decide +kernel
theorem dX11_perform_110 : decode cX11_perform 110 = .ok (.aload_n 0, 1) := by decide +kernel
theorem dX11_perform_111 : decode cX11_perform 111 = .ok (.getfield 19, 3) := by decide +kernel
theorem dX11_perform_114 : decode cX11_perform 114 = .ok (.iload_n 2, 1) := by decide +kernel
theorem dX11_perform_115 : decode cX11_perform 115 = .ok (.invokevirtual 201, 3) := by decide +kernel
theorem dX11_perform_118 : decode cX11_perform 118 = .ok (.ifCond .ne 5, 3) := by decide +kernel
theorem dX11_perform_121 : decode cX11_perform 121 = .ok (.iconst (-1), 1) := by decide +kernel
theorem dX11_perform_122 : decode cX11_perform 122 = .ok (.ireturn, 1) := by decide +kernel
theorem dX11_perform_123 : decode cX11_perform 123 = .ok (.aload_n 0, 1) := by decide +kernel
theorem dX11_perform_124 : decode cX11_perform 124 = .ok (.getfield 53, 3) := by decide +kernel
theorem dX11_perform_127 : decode cX11_perform 127 = .ok (.dup, 1) := by decide +kernel
theorem dX11_perform_128 : decode cX11_perform 128 = .ok (.getfield 157, 3) := by decide +kernel
theorem dX11_perform_131 : decode cX11_perform 131 = .ok (.iconst 1, 1) := by decide +kernel
theorem dX11_perform_132 : decode cX11_perform 132 = .ok (.iload_n 2, 1) := by decide +kernel
theorem dX11_perform_133 : decode cX11_perform 133 = .ok (.ishl, 1) := by decide +kernel
theorem dX11_perform_134 : decode cX11_perform 134 = .ok (.ixor, 1) := by decide +kernel
theorem dX11_perform_135 : decode cX11_perform 135 = .ok (.putfield 157, 3) := by decide +kernel
theorem dX11_perform_138 : decode cX11_perform 138 = .ok (.iconst 0, 1) := by decide +kernel
theorem dX11_perform_139 : decode cX11_perform 139 = .ok (.ireturn, 1) := by decide +kernel
theorem dX11_perform_140 : decode cX11_perform 140 = .ok (.aload_n 0, 1) := by decide +kernel
theorem dX11_perform_141 : decode cX11_perform 141 = .ok (.getfield 53, 3) := by decide +kernel
theorem dX11_perform_144 : decode cX11_perform 144 = .ok (.iload_n 2, 1) := by decide +kernel
theorem dX11_perform_145 : decode cX11_perform 145 = .ok (.invokevirtual 241, 3) := by decide +kernel
theorem dX11_perform_148 : decode cX11_perform 148 = .ok (.ifCond .ne 5, 3) := by decide +kernel
theorem dX11_perform_151 : decode cX11_perform 151 = .ok (.iconst (-1), 1) := by decide +kernel
theorem dX11_perform_152 : decode cX11_perform 152 = .ok (.ireturn, 1) := by decide +kernel
theorem dX11_perform_153 : decode cX11_perform 153 = .ok (.aload_n 0, 1) := by decide +kernel
theorem dX11_perform_154 : decode cX11_perform 154 = .ok (.getfield 53, 3) := by decide +kernel
theorem dX11_perform_157 : decode cX11_perform 157 = .ok (.iload_n 2, 1) := by decide +kernel
theorem dX11_perform_158 : decode cX11_perform 158 = .ok (.iload_n 3, 1) := by decide +kernel
theorem dX11_perform_159 : decode cX11_perform 159 = .ok (.invokevirtual 244, 3) := by decide +kernel
theorem dX11_perform_162 : decode cX11_perform 162 = .ok (.pop, 1) := by decide +kernel
theorem dX11_perform_163 : decode cX11_perform 163 = .ok (.iconst 0, 1) := by decide +kernel
theorem dX11_perform_164 : decode cX11_perform 164 = .ok (.ireturn, 1) := by decide +kernel
theorem dX11_perform_165 : decode cX11_perform 165 = .ok (.aload_n 0, 1) := by decide +kernel
theorem dX11_perform_166 : decode cX11_perform 166 = .ok (.getfield 53, 3) := by decide +kernel
theorem dX11_perform_169 : decode cX11_perform 169 = .ok (.getfield 247, 3) := by decide +kernel
theorem dX11_perform_172 : decode cX11_perform 172 = .ok (.istore 4, 2) := by decide +kernel
theorem dX11_perform_174 : decode cX11_perform 174 = .ok (.aload_n 0, 1) := by decide +kernel
theorem dX11_perform_175 : decode cX11_perform 175 = .ok (.iload_n 2, 1) := by decide +kernel
theorem dX11_perform_176 : decode cX11_perform 176 = .ok (.invokevirtual 253, 3) := by decide +kernel
theorem dX11_perform_179 : decode cX11_perform 179 = .ok (.aload_n 0, 1) := by decide +kernel
theorem dX11_perform_180 : decode cX11_perform 180 = .ok (.getfield 53, 3) := by decide +kernel
theorem dX11_perform_183 : decode cX11_perform 183 = .ok (.getfield 247, 3) := by decide +kernel
theorem dX11_perform_186 : decode cX11_perform 186 = .ok (.iload 4, 2) := by decide +kernel
theorem dX11_perform_188 : decode cX11_perform 188 = .ok (.iconst (-1), 1) := by decide +kernel
theorem dX11_perform_189 : decode cX11_perform 189 = .ok (.ixor, 1) := by decide +kernel
theorem dX11_perform_190 : decode cX11_perform 190 = .ok (.iand, 1) := by decide +kernel
theorem dX11_perform_191 : decode cX11_perform 191 = .ok (.invokestatic 261, 3) := by decide +kernel
theorem dX11_perform_194 : decode cX11_perform 194 = .ok (.ireturn, 1) := by decide +kernel
theorem dX2_firstOf_0 : decode cX2_firstOf 0 = .ok (.aload_n 0, 1) := by decide +kernel
theorem dX2_firstOf_1 : decode cX2_firstOf 1 = .ok (.iload_n 1, 1) := by decide +kernel
theorem dX2_firstOf_2 : decode cX2_firstOf 2 = .ok (.invokevirtual 26, 3) := by decide +kernel
theorem dX2_firstOf_5 : decode cX2_firstOf 5 = .ok (.ifCond .eq 12, 3) := by decide +kernel
theorem dX2_firstOf_8 : decode cX2_firstOf 8 = .ok (.aload_n 0, 1) := by decide +kernel
theorem dX2_firstOf_9 : decode cX2_firstOf 9 = .ok (.getfield 13, 3) := by decide +kernel
theorem dX2_firstOf_12 : decode cX2_firstOf 12 = .ok (.iload_n 1, 1) := by decide +kernel
theorem dX2_firstOf_13 : decode cX2_firstOf 13 = .ok (.iaload, 1) := by decide +kernel
theorem dX2_firstOf_14 : decode cX2_firstOf 14 = .ok (.goto 4, 3) := by decide +kernel
theorem dX2_firstOf_17 : decode cX2_firstOf 17 = .ok (.iconst 0, 1) := by decide +kernel
theorem dX2_firstOf_18 : decode cX2_firstOf 18 = .ok (.ireturn, 1) := by decide +kernel
theorem dX2_has_0 : decode cX2_has 0 = .ok (.iload_n 1, 1) := by decide +kernel
theorem dX2_has_1 : decode cX2_has 1 = .ok (.ifCond .lt 21, 3) := by decide +kernel
theorem dX2_has_4 : decode cX2_has 4 = .ok (.iload_n 1, 1) := by decide +kernel
theorem dX2_has_5 : decode cX2_has 5 = .ok (.aload_n 0, 1) := by decide +kernel
theorem dX2_has_6 : decode cX2_has 6 = .ok (.getfield 22, 3) := by decide +kernel
theorem dX2_has_9 : decode cX2_has 9 = .ok (.if_icmp .ge 13, 3) := by decide +kernel
theorem dX2_has_12 : decode cX2_has 12 = .ok (.iload_n 1, 1) := by decide +kernel
theorem dX2_has_13 : decode cX2_has 13 = .ok (.bipush 20, 2) := by decide +kernel
theorem dX2_has_15 : decode cX2_has 15 = .ok (.if_icmp .ge 7, 3) := by decide +kernel
theorem dX2_has_18 : decode cX2_has 18 = .ok (.iconst 1, 1) := by decide +kernel
theorem dX2_has_19 : decode cX2_has 19 = .ok (.goto 4, 3) := by decide +kernel
theorem dX2_has_22 : decode cX2_has 22 = .ok (.iconst 0, 1) := by decide +kernel
theorem dX2_has_23 : decode cX2_has 23 = .ok (.ireturn, 1) := by decide +kernel
theorem dX2_kindOf_0 : decode cX2_kindOf 0 = .ok (.aload_n 0, 1) := by decide +kernel
theorem dX2_kindOf_1 : decode cX2_kindOf 1 = .ok (.iload_n 1, 1) := by decide +kernel
theorem dX2_kindOf_2 : decode cX2_kindOf 2 = .ok (.invokevirtual 26, 3) := by decide +kernel
theorem dX2_kindOf_5 : decode cX2_kindOf 5 = .ok (.ifCond .eq 12, 3) := by decide +kernel
theorem dX2_kindOf_8 : decode cX2_kindOf 8 = .ok (.aload_n 0, 1) := by decide +kernel
theorem dX2_kindOf_9 : decode cX2_kindOf 9 = .ok (.getfield 9, 3) := by decide +kernel
theorem dX2_kindOf_12 : decode cX2_kindOf 12 = .ok (.iload_n 1, 1) := by decide +kernel
theorem dX2_kindOf_13 : decode cX2_kindOf 13 = .ok (.iaload, 1) := by decide +kernel
theorem dX2_kindOf_14 : decode cX2_kindOf 14 = .ok (.goto 4, 3) := by decide +kernel
theorem dX2_kindOf_17 : decode cX2_kindOf 17 = .ok (.iconst 2, 1) := by decide +kernel
theorem dX2_kindOf_18 : decode cX2_kindOf 18 = .ok (.ireturn, 1) := by decide +kernel
theorem dX2_read_0 : decode cX2_read 0 = .ok (.aload_n 0, 1) := by decide +kernel
theorem dX2_read_1 : decode cX2_read 1 = .ok (.iconst 0, 1) := by decide +kernel
theorem dX2_read_2 : decode cX2_read 2 = .ok (.putfield 22, 3) := by decide +kernel
theorem dX2_read_5 : decode cX2_read 5 = .ok (.aload_n 1, 1) := by decide +kernel
theorem dX2_read_6 : decode cX2_read 6 = .ok (.bipush 60, 2) := by decide +kernel
theorem dX2_read_8 : decode cX2_read 8 = .ok (.invokevirtual 30, 3) := by decide +kernel
theorem dX2_read_11 : decode cX2_read 11 = .ok (.aload_n 1, 1) := by decide +kernel
theorem dX2_read_12 : decode cX2_read 12 = .ok (.iconst 0, 1) := by decide +kernel
theorem dX2_read_13 : decode cX2_read 13 = .ok (.invokevirtual 36, 3) := by decide +kernel
theorem dX2_read_16 : decode cX2_read 16 = .ok (.ifCond .eq 5, 3) := by decide +kernel
theorem dX2_read_19 : decode cX2_read 19 = .ok (.iconst 0, 1) := by decide +kernel
theorem dX2_read_20 : decode cX2_read 20 = .ok (.ireturn, 1) := by decide +kernel
theorem dX2_read_21 : decode cX2_read 21 = .ok (.iconst 0, 1) := by decide +kernel
theorem dX2_read_22 : decode cX2_read 22 = .ok (.istore_n 2, 1) := by decide +kernel
theorem dX2_read_23 : decode cX2_read 23 = .ok (.iconst 0, 1) := by decide +kernel
theorem dX2_read_24 : decode cX2_read 24 = .ok (.istore_n 3, 1) := by decide +kernel
theorem dX2_read_25 : decode cX2_read 25 = .ok (.iload_n 3, 1) := by decide +kernel
theorem dX2_read_26 : decode cX2_read 26 = .ok (.bipush 20, 2) := by decide +kernel
theorem dX2_read_28 : decode cX2_read 28 = .ok (.if_icmp .ge 60, 3) := by decide +kernel
theorem dX2_read_31 : decode cX2_read 31 = .ok (.aload_n 0, 1) := by decide +kernel
theorem dX2_read_32 : decode cX2_read 32 = .ok (.aload_n 1, 1) := by decide +kernel
theorem dX2_read_33 : decode cX2_read 33 = .ok (.iload_n 2, 1) := by decide +kernel
theorem dX2_read_34 : decode cX2_read 34 = .ok (.invokevirtual 39, 3) := by decide +kernel
theorem dX2_read_37 : decode cX2_read 37 = .ok (.istore 4, 2) := by decide +kernel
theorem dX2_read_39 : decode cX2_read 39 = .ok (.iload 4, 2) := by decide +kernel
theorem dX2_read_41 : decode cX2_read 41 = .ok (.ifCond .ge 6, 3) := by decide +kernel
theorem dX2_read_44 : decode cX2_read 44 = .ok (.iload 4, 2) := by decide +kernel
theorem dX2_read_46 : decode cX2_read 46 = .ok (.ireturn, 1) := by decide +kernel
theorem dX2_read_47 : decode cX2_read 47 = .ok (.aload_n 1, 1) := by decide +kernel
theorem dX2_read_48 : decode cX2_read 48 = .ok (.iload 4, 2) := by decide +kernel
theorem dX2_read_50 : decode cX2_read 50 = .ok (.invokevirtual 36, 3) := by decide +kernel
theorem dX2_read_53 : decode cX2_read 53 = .ok (.ifCond .eq 8, 3) := by decide +kernel
theorem dX2_read_56 : decode cX2_read 56 = .ok (.aload_n 0, 1) := by decide +kernel
theorem dX2_read_57 : decode cX2_read 57 = .ok (.getfield 22, 3) := by decide +kernel
theorem dX2_read_60 : decode cX2_read 60 = .ok (.ireturn, 1) := by decide +kernel
theorem dX2_read_61 : decode cX2_read 61 = .ok (.aload_n 1, 1) := by decide +kernel
theorem dX2_read_62 : decode cX2_read 62 = .ok (.iload 4, 2) := by decide +kernel
theorem dX2_read_64 : decode cX2_read 64 = .ok (.bipush 59, 2) := by decide +kernel
theorem dX2_read_66 : decode cX2_read 66 = .ok (.invokevirtual 43, 3) := by decide +kernel
theorem dX2_read_69 : decode cX2_read 69 = .ok (.ifCond .ne 8, 3) := by decide +kernel
theorem dX2_read_72 : decode cX2_read 72 = .ok (.iconst (-1), 1) := by decide +kernel
theorem dX2_read_73 : decode cX2_read 73 = .ok (.iload 4, 2) := by decide +kernel
theorem dX2_read_75 : decode cX2_read 75 = .ok (.isub, 1) := by decide +kernel
theorem dX2_read_76 : decode cX2_read 76 = .ok (.ireturn, 1) := by decide +kernel
theorem dX2_read_77 : decode cX2_read 77 = .ok (.iload 4, 2) := by decide +kernel
theorem dX2_read_79 : decode cX2_read 79 = .ok (.iconst 1, 1) := by decide +kernel
theorem dX2_read_80 : decode cX2_read 80 = .ok (.iadd, 1) := by decide +kernel
theorem dX2_read_81 : decode cX2_read 81 = .ok (.istore_n 2, 1) := by decide +kernel
theorem dX2_read_82 : decode cX2_read 82 = .ok (.iinc 3 1, 3) := by decide +kernel
theorem dX2_read_85 : decode cX2_read 85 = .ok (.goto (-60), 3) := by decide +kernel
theorem dX2_read_88 : decode cX2_read 88 = .ok (.iconst (-1), 1) := by decide +kernel
theorem dX2_read_89 : decode cX2_read 89 = .ok (.iload_n 2, 1) := by decide +kernel
theorem dX2_read_90 : decode cX2_read 90 = .ok (.isub, 1) := by decide +kernel
theorem dX2_read_91 : decode cX2_read 91 = .ok (.ireturn, 1) := by decide +kernel
theorem dX2_readAct_0 : decode cX2_readAct 0 = .ok (.aload_n 1, 1) := by decide +kernel
theorem dX2_readAct_1 : decode cX2_readAct 1 = .ok (.ldc 47, 2) := by decide +kernel
theorem dX2_readAct_3 : decode cX2_readAct 3 = .ok (.iload_n 2, 1) := by decide +kernel
theorem dX2_readAct_4 : decode cX2_readAct 4 = .ok (.invokevirtual 49, 3) := by decide +kernel
theorem dX2_readAct_7 : decode cX2_readAct 7 = .ok (.tableswitch 65 0 3 #[29, 38, 47, 56], 29) := by decide +kernel
theorem dX2_readAct_36 : decode cX2_readAct 36 = .ok (.aload_n 0, 1) := by decide +kernel
theorem dX2_readAct_37 : decode cX2_readAct 37 = .ok (.aload_n 1, 1) := by decide +kernel
theorem dX2_readAct_38 : decode cX2_readAct 38 = .ok (.iload_n 2, 1) := by decide +kernel
theorem dX2_readAct_39 : decode cX2_readAct 39 = .ok (.iconst 1, 1) := by decide +kernel
theorem dX2_readAct_40 : decode cX2_readAct 40 = .ok (.iadd, 1) := by decide +kernel
theorem dX2_readAct_41 : decode cX2_readAct 41 = .ok (.invokevirtual 53, 3) := by decide +kernel
theorem dX2_readAct_44 : decode cX2_readAct 44 = .ok (.ireturn, 1) := by decide +kernel
theorem dX2_readAct_45 : decode cX2_readAct 45 = .ok (.aload_n 0, 1) := by decide +kernel
theorem dX2_readAct_46 : decode cX2_readAct 46 = .ok (.aload_n 1, 1) := by decide +kernel
theorem dX2_readAct_47 : decode cX2_readAct 47 = .ok (.iload_n 2, 1) := by decide +kernel
theorem dX2_readAct_48 : decode cX2_readAct 48 = .ok (.iconst 1, 1) := by decide +kernel
theorem dX2_readAct_49 : decode cX2_readAct 49 = .ok (.iadd, 1) := by decide +kernel
theorem dX2_readAct_50 : decode cX2_readAct 50 = .ok (.invokevirtual 56, 3) := by decide +kernel
theorem dX2_readAct_53 : decode cX2_readAct 53 = .ok (.ireturn, 1) := by decide +kernel
theorem dX2_readAct_54 : decode cX2_readAct 54 = .ok (.aload_n 0, 1) := by decide +kernel
theorem dX2_readAct_55 : decode cX2_readAct 55 = .ok (.aload_n 1, 1) := by decide +kernel
theorem dX2_readAct_56 : decode cX2_readAct 56 = .ok (.iload_n 2, 1) := by decide +kernel
theorem dX2_readAct_57 : decode cX2_readAct 57 = .ok (.iconst 1, 1) := by decide +kernel
theorem dX2_readAct_58 : decode cX2_readAct 58 = .ok (.iadd, 1) := by decide +kernel
theorem dX2_readAct_59 : decode cX2_readAct 59 = .ok (.invokevirtual 59, 3) := by decide +kernel
theorem dX2_readAct_62 : decode cX2_readAct 62 = .ok (.ireturn, 1) := by decide +kernel
theorem dX2_readAct_63 : decode cX2_readAct 63 = .ok (.aload_n 0, 1) := by decide +kernel
theorem dX2_readAct_64 : decode cX2_readAct 64 = .ok (.aload_n 1, 1) := by decide +kernel
theorem dX2_readAct_65 : decode cX2_readAct 65 = .ok (.iload_n 2, 1) := by decide +kernel
theorem dX2_readAct_66 : decode cX2_readAct 66 = .ok (.iconst 1, 1) := by decide +kernel
theorem dX2_readAct_67 : decode cX2_readAct 67 = .ok (.iadd, 1) := by decide +kernel
theorem dX2_readAct_68 : decode cX2_readAct 68 = .ok (.invokevirtual 62, 3) := by decide +kernel
theorem dX2_readAct_71 : decode cX2_readAct 71 = .ok (.ireturn, 1) := by decide +kernel
theorem dX2_readAct_72 : decode cX2_readAct 72 = .ok (.iconst (-1), 1) := by decide +kernel
theorem dX2_readAct_73 : decode cX2_readAct 73 = .ok (.iload_n 2, 1) := by decide +kernel
theorem dX2_readAct_74 : decode cX2_readAct 74 = .ok (.isub, 1) := by decide +kernel
theorem dX2_readAct_75 : decode cX2_readAct 75 = .ok (.ireturn, 1) := by decide +kernel
theorem dX2_readGive_0 : decode cX2_readGive 0 = .ok (.aload_n 1, 1) := by decide +kernel
theorem dX2_readGive_1 : decode cX2_readGive 1 = .ok (.iload_n 2, 1) := by decide +kernel
theorem dX2_readGive_2 : decode cX2_readGive 2 = .ok (.invokevirtual 80, 3) := by decide +kernel
theorem dX2_readGive_5 : decode cX2_readGive 5 = .ok (.istore_n 3, 1) := by decide +kernel
theorem dX2_readGive_6 : decode cX2_readGive 6 = .ok (.iload_n 3, 1) := by decide +kernel
theorem dX2_readGive_7 : decode cX2_readGive 7 = .ok (.ifCond .ge 7, 3) := by decide +kernel
theorem dX2_readGive_10 : decode cX2_readGive 10 = .ok (.iconst (-1), 1) := by decide +kernel
theorem dX2_readGive_11 : decode cX2_readGive 11 = .ok (.iload_n 2, 1) := by decide +kernel
theorem dX2_readGive_12 : decode cX2_readGive 12 = .ok (.isub, 1) := by decide +kernel
theorem dX2_readGive_13 : decode cX2_readGive 13 = .ok (.ireturn, 1) := by decide +kernel
theorem dX2_readGive_14 : decode cX2_readGive 14 = .ok (.aload_n 1, 1) := by decide +kernel
theorem dX2_readGive_15 : decode cX2_readGive 15 = .ok (.iload_n 2, 1) := by decide +kernel
theorem dX2_readGive_16 : decode cX2_readGive 16 = .ok (.iconst 1, 1) := by decide +kernel
theorem dX2_readGive_17 : decode cX2_readGive 17 = .ok (.iadd, 1) := by decide +kernel
theorem dX2_readGive_18 : decode cX2_readGive 18 = .ok (.invokevirtual 80, 3) := by decide +kernel
theorem dX2_readGive_21 : decode cX2_readGive 21 = .ok (.istore 4, 2) := by decide +kernel
theorem dX2_readGive_23 : decode cX2_readGive 23 = .ok (.iload 4, 2) := by decide +kernel
theorem dX2_readGive_25 : decode cX2_readGive 25 = .ok (.iconst 1, 1) := by decide +kernel
theorem dX2_readGive_26 : decode cX2_readGive 26 = .ok (.if_icmp .ge 9, 3) := by decide +kernel
theorem dX2_readGive_29 : decode cX2_readGive 29 = .ok (.iconst (-1), 1) := by decide +kernel
theorem dX2_readGive_30 : decode cX2_readGive 30 = .ok (.iload_n 2, 1) := by decide +kernel
theorem dX2_readGive_31 : decode cX2_readGive 31 = .ok (.iconst 1, 1) := by decide +kernel
theorem dX2_readGive_32 : decode cX2_readGive 32 = .ok (.iadd, 1) := by decide +kernel
theorem dX2_readGive_33 : decode cX2_readGive 33 = .ok (.isub, 1) := by decide +kernel
theorem dX2_readGive_34 : decode cX2_readGive 34 = .ok (.ireturn, 1) := by decide +kernel
theorem dX2_readGive_35 : decode cX2_readGive 35 = .ok (.aload_n 0, 1) := by decide +kernel
theorem dX2_readGive_36 : decode cX2_readGive 36 = .ok (.iconst 3, 1) := by decide +kernel
theorem dX2_readGive_37 : decode cX2_readGive 37 = .ok (.iload_n 3, 1) := by decide +kernel
theorem dX2_readGive_38 : decode cX2_readGive 38 = .ok (.iload 4, 2) := by decide +kernel
theorem dX2_readGive_40 : decode cX2_readGive 40 = .ok (.iconst 0, 1) := by decide +kernel
theorem dX2_readGive_41 : decode cX2_readGive 41 = .ok (.invokevirtual 76, 3) := by decide +kernel
theorem dX2_readGive_44 : decode cX2_readGive 44 = .ok (.iload_n 2, 1) := by decide +kernel
theorem dX2_readGive_45 : decode cX2_readGive 45 = .ok (.iconst 2, 1) := by decide +kernel
theorem dX2_readGive_46 : decode cX2_readGive 46 = .ok (.iadd, 1) := by decide +kernel
theorem dX2_readGive_47 : decode cX2_readGive 47 = .ok (.ireturn, 1) := by decide +kernel
theorem dX2_readMinutes_0 : decode cX2_readMinutes 0 = .ok (.aload_n 1, 1) := by decide +kernel
theorem dX2_readMinutes_1 : decode cX2_readMinutes 1 = .ok (.iload_n 2, 1) := by decide +kernel
theorem dX2_readMinutes_2 : decode cX2_readMinutes 2 = .ok (.invokestatic 69, 3) := by decide +kernel
theorem dX2_readMinutes_5 : decode cX2_readMinutes 5 = .ok (.istore_n 3, 1) := by decide +kernel
theorem dX2_readMinutes_6 : decode cX2_readMinutes 6 = .ok (.iload_n 3, 1) := by decide +kernel
theorem dX2_readMinutes_7 : decode cX2_readMinutes 7 = .ok (.ifCond .lt 16, 3) := by decide +kernel
theorem dX2_readMinutes_10 : decode cX2_readMinutes 10 = .ok (.aload_n 0, 1) := by decide +kernel
theorem dX2_readMinutes_11 : decode cX2_readMinutes 11 = .ok (.iconst 2, 1) := by decide +kernel
theorem dX2_readMinutes_12 : decode cX2_readMinutes 12 = .ok (.aload_n 1, 1) := by decide +kernel
theorem dX2_readMinutes_13 : decode cX2_readMinutes 13 = .ok (.iload_n 2, 1) := by decide +kernel
theorem dX2_readMinutes_14 : decode cX2_readMinutes 14 = .ok (.iload_n 3, 1) := by decide +kernel
theorem dX2_readMinutes_15 : decode cX2_readMinutes 15 = .ok (.invokestatic 72, 3) := by decide +kernel
theorem dX2_readMinutes_18 : decode cX2_readMinutes 18 = .ok (.iconst 0, 1) := by decide +kernel
theorem dX2_readMinutes_19 : decode cX2_readMinutes 19 = .ok (.iconst 0, 1) := by decide +kernel
theorem dX2_readMinutes_20 : decode cX2_readMinutes 20 = .ok (.invokevirtual 76, 3) := by decide +kernel
theorem dX2_readMinutes_23 : decode cX2_readMinutes 23 = .ok (.iload_n 3, 1) := by decide +kernel
theorem dX2_readMinutes_24 : decode cX2_readMinutes 24 = .ok (.ireturn, 1) := by decide +kernel
theorem dX2_secondOf_0 : decode cX2_secondOf 0 = .ok (.aload_n 0, 1) := by decide +kernel
theorem dX2_secondOf_1 : decode cX2_secondOf 1 = .ok (.iload_n 1, 1) := by decide +kernel
theorem dX2_secondOf_2 : decode cX2_secondOf 2 = .ok (.invokevirtual 26, 3) := by decide +kernel
theorem dX2_secondOf_5 : decode cX2_secondOf 5 = .ok (.ifCond .eq 12, 3) := by decide +kernel
theorem dX2_secondOf_8 : decode cX2_secondOf 8 = .ok (.aload_n 0, 1) := by decide +kernel
theorem dX2_secondOf_9 : decode cX2_secondOf 9 = .ok (.getfield 16, 3) := by decide +kernel
theorem dX2_secondOf_12 : decode cX2_secondOf 12 = .ok (.iload_n 1, 1) := by decide +kernel
theorem dX2_secondOf_13 : decode cX2_secondOf 13 = .ok (.iaload, 1) := by decide +kernel
theorem dX2_secondOf_14 : decode cX2_secondOf 14 = .ok (.goto 4, 3) := by decide +kernel
theorem dX2_secondOf_17 : decode cX2_secondOf 17 = .ok (.iconst 0, 1) := by decide +kernel
theorem dX2_secondOf_18 : decode cX2_secondOf 18 = .ok (.ireturn, 1) := by decide +kernel
theorem dX2_thirdOf_0 : decode cX2_thirdOf 0 = .ok (.aload_n 0, 1) := by decide +kernel
theorem dX2_thirdOf_1 : decode cX2_thirdOf 1 = .ok (.iload_n 1, 1) := by decide +kernel
theorem dX2_thirdOf_2 : decode cX2_thirdOf 2 = .ok (.invokevirtual 26, 3) := by decide +kernel
theorem dX2_thirdOf_5 : decode cX2_thirdOf 5 = .ok (.ifCond .eq 12, 3) := by decide +kernel
theorem dX2_thirdOf_8 : decode cX2_thirdOf 8 = .ok (.aload_n 0, 1) := by decide +kernel
theorem dX2_thirdOf_9 : decode cX2_thirdOf 9 = .ok (.getfield 19, 3) := by decide +kernel
theorem dX2_thirdOf_12 : decode cX2_thirdOf 12 = .ok (.iload_n 1, 1) := by decide +kernel
theorem dX2_thirdOf_13 : decode cX2_thirdOf 13 = .ok (.iaload, 1) := by decide +kernel
theorem dX2_thirdOf_14 : decode cX2_thirdOf 14 = .ok (.goto 4, 3) := by decide +kernel
theorem dX2_thirdOf_17 : decode cX2_thirdOf 17 = .ok (.iconst 0, 1) := by decide +kernel
theorem dX2_thirdOf_18 : decode cX2_thirdOf 18 = .ok (.ireturn, 1) := by decide +kernel
theorem dX3_push_0 : decode cX3_push 0 = .ok (.aload_n 0, 1) := by decide +kernel
theorem dX3_push_1 : decode cX3_push 1 = .ok (.getfield 20, 3) := by decide +kernel
theorem dX3_push_4 : decode cX3_push 4 = .ok (.ifCond .lt 12, 3) := by decide +kernel
theorem dX3_push_7 : decode cX3_push 7 = .ok (.aload_n 0, 1) := by decide +kernel
theorem dX3_push_8 : decode cX3_push 8 = .ok (.getfield 20, 3) := by decide +kernel
theorem dX3_push_11 : decode cX3_push 11 = .ok (.bipush 15, 2) := by decide +kernel
theorem dX3_push_13 : decode cX3_push 13 = .ok (.if_icmp .lt 4, 3) := by decide +kernel
theorem dX3_push_16 : decode cX3_push 16 = .ok (.return_, 1) := by decide +kernel
theorem dX3_push_17 : decode cX3_push 17 = .ok (.aload_n 0, 1) := by decide +kernel
theorem dX3_push_18 : decode cX3_push 18 = .ok (.getfield 11, 3) := by decide +kernel
theorem dX3_push_21 : decode cX3_push 21 = .ok (.aload_n 0, 1) := by decide +kernel
theorem dX3_push_22 : decode cX3_push 22 = .ok (.getfield 20, 3) := by decide +kernel
theorem dX3_push_25 : decode cX3_push 25 = .ok (.aaload, 1) := by decide +kernel
theorem dX3_push_26 : decode cX3_push 26 = .ok (.aload_n 1, 1) := by decide +kernel
theorem dX3_push_27 : decode cX3_push 27 = .ok (.invokevirtual 23, 3) := by decide +kernel
theorem dX3_push_30 : decode cX3_push 30 = .ok (.aload_n 0, 1) := by decide +kernel
theorem dX3_push_31 : decode cX3_push 31 = .ok (.aload_n 0, 1) := by decide +kernel
theorem dX3_push_32 : decode cX3_push 32 = .ok (.getfield 20, 3) := by decide +kernel
theorem dX3_push_35 : decode cX3_push 35 = .ok (.iconst 1, 1) := by decide +kernel
theorem dX3_push_36 : decode cX3_push 36 = .ok (.iadd, 1) := by decide +kernel
theorem dX3_push_37 : decode cX3_push 37 = .ok (.bipush 15, 2) := by decide +kernel
theorem dX3_push_39 : decode cX3_push 39 = .ok (.if_icmp .ge 12, 3) := by decide +kernel
theorem dX3_push_42 : decode cX3_push 42 = .ok (.aload_n 0, 1) := by decide +kernel
theorem dX3_push_43 : decode cX3_push 43 = .ok (.getfield 20, 3) := by decide +kernel
theorem dX3_push_46 : decode cX3_push 46 = .ok (.iconst 1, 1) := by decide +kernel
theorem dX3_push_47 : decode cX3_push 47 = .ok (.iadd, 1) := by decide +kernel
theorem dX3_push_48 : decode cX3_push 48 = .ok (.goto 4, 3) := by decide +kernel
theorem dX3_push_51 : decode cX3_push 51 = .ok (.iconst 0, 1) := by decide +kernel
theorem dX3_push_52 : decode cX3_push 52 = .ok (.putfield 20, 3) := by decide +kernel
theorem dX3_push_55 : decode cX3_push 55 = .ok (.aload_n 0, 1) := by decide +kernel
theorem dX3_push_56 : decode cX3_push 56 = .ok (.bipush 15, 2) := by decide +kernel
theorem dX3_push_58 : decode cX3_push 58 = .ok (.aload_n 0, 1) := by decide +kernel
theorem dX3_push_59 : decode cX3_push 59 = .ok (.getfield 16, 3) := by decide +kernel
theorem dX3_push_62 : decode cX3_push 62 = .ok (.iconst 1, 1) := by decide +kernel
theorem dX3_push_63 : decode cX3_push 63 = .ok (.iadd, 1) := by decide +kernel
theorem dX3_push_64 : decode cX3_push 64 = .ok (.invokestatic 27, 3) := by decide +kernel
theorem dX3_push_67 : decode cX3_push 67 = .ok (.putfield 16, 3) := by decide +kernel
theorem dX3_push_70 : decode cX3_push 70 = .ok (.return_, 1) := by decide +kernel
theorem dX6_enrich_0 : decode cX6_enrich 0 = .ok (.iload_n 1, 1) := by decide +kernel
theorem dX6_enrich_1 : decode cX6_enrich 1 = .ok (.ifCond .lt 9, 3) := by decide +kernel
theorem dX6_enrich_4 : decode cX6_enrich 4 = .ok (.iload_n 1, 1) := by decide +kernel
theorem dX6_enrich_5 : decode cX6_enrich 5 = .ok (.bipush 6, 2) := by decide +kernel
theorem dX6_enrich_7 : decode cX6_enrich 7 = .ok (.if_icmp .lt 5, 3) := by decide +kernel
theorem dX6_enrich_10 : decode cX6_enrich 10 = .ok (.iconst (-1), 1) := by decide +kernel
theorem dX6_enrich_11 : decode cX6_enrich 11 = .ok (.ireturn, 1) := by decide +kernel
theorem dX6_enrich_12 : decode cX6_enrich 12 = .ok (.aload_n 0, 1) := by decide +kernel
theorem dX6_enrich_13 : decode cX6_enrich 13 = .ok (.getfield 18, 3) := by decide +kernel
theorem dX6_enrich_16 : decode cX6_enrich 16 = .ok (.iload_n 1, 1) := by decide +kernel
theorem dX6_enrich_17 : decode cX6_enrich 17 = .ok (.bipush 9, 2) := by decide +kernel
theorem dX6_enrich_19 : decode cX6_enrich 19 = .ok (.aload_n 0, 1) := by decide +kernel
theorem dX6_enrich_20 : decode cX6_enrich 20 = .ok (.getfield 18, 3) := by decide +kernel
theorem dX6_enrich_23 : decode cX6_enrich 23 = .ok (.iload_n 1, 1) := by decide +kernel
theorem dX6_enrich_24 : decode cX6_enrich 24 = .ok (.iaload, 1) := by decide +kernel
theorem dX6_enrich_25 : decode cX6_enrich 25 = .ok (.iload_n 2, 1) := by decide +kernel
theorem dX6_enrich_26 : decode cX6_enrich 26 = .ok (.iadd, 1) := by decide +kernel
theorem dX6_enrich_27 : decode cX6_enrich 27 = .ok (.invokestatic 56, 3) := by decide +kernel
theorem dX6_enrich_30 : decode cX6_enrich 30 = .ok (.iastore, 1) := by decide +kernel
theorem dX6_enrich_31 : decode cX6_enrich 31 = .ok (.aload_n 0, 1) := by decide +kernel
theorem dX6_enrich_32 : decode cX6_enrich 32 = .ok (.getfield 18, 3) := by decide +kernel
theorem dX6_enrich_35 : decode cX6_enrich 35 = .ok (.iload_n 1, 1) := by decide +kernel
theorem dX6_enrich_36 : decode cX6_enrich 36 = .ok (.iaload, 1) := by decide +kernel
theorem dX6_enrich_37 : decode cX6_enrich 37 = .ok (.ireturn, 1) := by decide +kernel
theorem dX7_cut_0 : decode cX7_cut 0 = .ok (.iload_n 1, 1) := by decide +kernel
theorem dX7_cut_1 : decode cX7_cut 1 = .ok (.ifCond .lt 11, 3) := by decide +kernel
theorem dX7_cut_4 : decode cX7_cut 4 = .ok (.iload_n 1, 1) := by decide +kernel
theorem dX7_cut_5 : decode cX7_cut 5 = .ok (.aload_n 0, 1) := by decide +kernel
theorem dX7_cut_6 : decode cX7_cut 6 = .ok (.getfield 15, 3) := by decide +kernel
theorem dX7_cut_9 : decode cX7_cut 9 = .ok (.if_icmp .le 5, 3) := by decide +kernel
theorem dX7_cut_12 : decode cX7_cut 12 = .ok (.iconst 0, 1) := by decide +kernel
theorem dX7_cut_13 : decode cX7_cut 13 = .ok (.ireturn, 1) := by decide +kernel
theorem dX7_cut_14 : decode cX7_cut 14 = .ok (.aload_n 0, 1) := by decide +kernel
theorem dX7_cut_15 : decode cX7_cut 15 = .ok (.iload_n 1, 1) := by decide +kernel
theorem dX7_cut_16 : decode cX7_cut 16 = .ok (.putfield 15, 3) := by decide +kernel
theorem dX7_cut_19 : decode cX7_cut 19 = .ok (.iconst 1, 1) := by decide +kernel
theorem dX7_cut_20 : decode cX7_cut 20 = .ok (.ireturn, 1) := by decide +kernel
theorem dX8_isFork_0 : decode cX8_isFork 0 = .ok (.iload_n 1, 1) := by decide +kernel
theorem dX8_isFork_1 : decode cX8_isFork 1 = .ok (.ifCond .lt 24, 3) := by decide +kernel
theorem dX8_isFork_4 : decode cX8_isFork 4 = .ok (.iload_n 1, 1) := by decide +kernel
theorem dX8_isFork_5 : decode cX8_isFork 5 = .ok (.bipush 12, 2) := by decide +kernel
theorem dX8_isFork_7 : decode cX8_isFork 7 = .ok (.if_icmp .ge 18, 3) := by decide +kernel
theorem dX8_isFork_10 : decode cX8_isFork 10 = .ok (.aload_n 0, 1) := by decide +kernel
theorem dX8_isFork_11 : decode cX8_isFork 11 = .ok (.getfield 34, 3) := by decide +kernel
theorem dX8_isFork_14 : decode cX8_isFork 14 = .ok (.iload_n 1, 1) := by decide +kernel
theorem dX8_isFork_15 : decode cX8_isFork 15 = .ok (.ishr, 1) := by decide +kernel
theorem dX8_isFork_16 : decode cX8_isFork 16 = .ok (.iconst 1, 1) := by decide +kernel
theorem dX8_isFork_17 : decode cX8_isFork 17 = .ok (.iand, 1) := by decide +kernel
theorem dX8_isFork_18 : decode cX8_isFork 18 = .ok (.ifCond .eq 7, 3) := by decide +kernel
theorem dX8_isFork_21 : decode cX8_isFork 21 = .ok (.iconst 1, 1) := by decide +kernel
theorem dX8_isFork_22 : decode cX8_isFork 22 = .ok (.goto 4, 3) := by decide +kernel
theorem dX8_isFork_25 : decode cX8_isFork 25 = .ok (.iconst 0, 1) := by decide +kernel
theorem dX8_isFork_26 : decode cX8_isFork 26 = .ok (.ireturn, 1) := by decide +kernel
theorem dX8_nextSet_0 : decode cX8_nextSet 0 = .ok (.iload_n 1, 1) := by decide +kernel
theorem dX8_nextSet_1 : decode cX8_nextSet 1 = .ok (.aload_n 0, 1) := by decide +kernel
theorem dX8_nextSet_2 : decode cX8_nextSet 2 = .ok (.getfield 34, 3) := by decide +kernel
theorem dX8_nextSet_5 : decode cX8_nextSet 5 = .ok (.isub, 1) := by decide +kernel
theorem dX8_nextSet_6 : decode cX8_nextSet 6 = .ok (.aload_n 0, 1) := by decide +kernel
theorem dX8_nextSet_7 : decode cX8_nextSet 7 = .ok (.getfield 34, 3) := by decide +kernel
theorem dX8_nextSet_10 : decode cX8_nextSet 10 = .ok (.iand, 1) := by decide +kernel
theorem dX8_nextSet_11 : decode cX8_nextSet 11 = .ok (.ireturn, 1) := by decide +kernel
theorem dX9_fitAll_0 : decode cX9_fitAll 0 = .ok (.iconst 0, 1) := by decide +kernel
theorem dX9_fitAll_1 : decode cX9_fitAll 1 = .ok (.istore_n 1, 1) := by decide +kernel
theorem dX9_fitAll_2 : decode cX9_fitAll 2 = .ok (.iconst 0, 1) := by decide +kernel
theorem dX9_fitAll_3 : decode cX9_fitAll 3 = .ok (.istore_n 2, 1) := by decide +kernel
theorem dX9_fitAll_4 : decode cX9_fitAll 4 = .ok (.iload_n 2, 1) := by decide +kernel
theorem dX9_fitAll_5 : decode cX9_fitAll 5 = .ok (.aload_n 0, 1) := by decide +kernel
theorem dX9_fitAll_6 : decode cX9_fitAll 6 = .ok (.getfield 32, 3) := by decide +kernel
theorem dX9_fitAll_9 : decode cX9_fitAll 9 = .ok (.getfield 118, 3) := by decide +kernel
theorem dX9_fitAll_12 : decode cX9_fitAll 12 = .ok (.if_icmp .ge 24, 3) := by decide +kernel
theorem dX9_fitAll_15 : decode cX9_fitAll 15 = .ok (.aload_n 0, 1) := by decide +kernel
theorem dX9_fitAll_16 : decode cX9_fitAll 16 = .ok (.iload_n 1, 1) := by decide +kernel
theorem dX9_fitAll_17 : decode cX9_fitAll 17 = .ok (.iconst 1, 1) := by decide +kernel
theorem dX9_fitAll_18 : decode cX9_fitAll 18 = .ok (.invokevirtual 142, 3) := by decide +kernel
theorem dX9_fitAll_21 : decode cX9_fitAll 21 = .ok (.aload_n 0, 1) := by decide +kernel
theorem dX9_fitAll_22 : decode cX9_fitAll 22 = .ok (.getfield 32, 3) := by decide +kernel
theorem dX9_fitAll_25 : decode cX9_fitAll 25 = .ok (.iload_n 1, 1) := by decide +kernel
theorem dX9_fitAll_26 : decode cX9_fitAll 26 = .ok (.invokevirtual 125, 3) := by decide +kernel
theorem dX9_fitAll_29 : decode cX9_fitAll 29 = .ok (.istore_n 1, 1) := by decide +kernel
theorem dX9_fitAll_30 : decode cX9_fitAll 30 = .ok (.iinc 2 1, 3) := by decide +kernel
theorem dX9_fitAll_33 : decode cX9_fitAll 33 = .ok (.goto (-29), 3) := by decide +kernel
theorem dX9_fitAll_36 : decode cX9_fitAll 36 = .ok (.return_, 1) := by decide +kernel
theorem dX9_fits_0 : decode cX9_fits 0 = .ok (.iload_n 1, 1) := by decide +kernel
theorem dX9_fits_1 : decode cX9_fits 1 = .ok (.ifCond .lt 23, 3) := by decide +kernel
theorem dX9_fits_4 : decode cX9_fits 4 = .ok (.iload_n 1, 1) := by decide +kernel
theorem dX9_fits_5 : decode cX9_fits 5 = .ok (.sipush 4096, 3) := by decide +kernel
theorem dX9_fits_8 : decode cX9_fits 8 = .ok (.if_icmp .ge 16, 3) := by decide +kernel
theorem dX9_fits_11 : decode cX9_fits 11 = .ok (.aload_n 0, 1) := by decide +kernel
theorem dX9_fits_12 : decode cX9_fits 12 = .ok (.getfield 15, 3) := by decide +kernel
theorem dX9_fits_15 : decode cX9_fits 15 = .ok (.iload_n 1, 1) := by decide +kernel
theorem dX9_fits_16 : decode cX9_fits 16 = .ok (.baload, 1) := by decide +kernel
theorem dX9_fits_17 : decode cX9_fits 17 = .ok (.ifCond .eq 7, 3) := by decide +kernel
theorem dX9_fits_20 : decode cX9_fits 20 = .ok (.iconst 1, 1) := by decide +kernel
theorem dX9_fits_21 : decode cX9_fits 21 = .ok (.goto 4, 3) := by decide +kernel
theorem dX9_fits_24 : decode cX9_fits 24 = .ok (.iconst 0, 1) := by decide +kernel
theorem dX9_fits_25 : decode cX9_fits 25 = .ok (.ireturn, 1) := by decide +kernel
theorem dX9_forgetSets_0 : decode cX9_forgetSets 0 = .ok (.iconst 0, 1) := by decide +kernel
theorem dX9_forgetSets_1 : decode cX9_forgetSets 1 = .ok (.istore_n 1, 1) := by decide +kernel
theorem dX9_forgetSets_2 : decode cX9_forgetSets 2 = .ok (.iconst 0, 1) := by decide +kernel
theorem dX9_forgetSets_3 : decode cX9_forgetSets 3 = .ok (.istore_n 2, 1) := by decide +kernel
theorem dX9_forgetSets_4 : decode cX9_forgetSets 4 = .ok (.iload_n 2, 1) := by decide +kernel
theorem dX9_forgetSets_5 : decode cX9_forgetSets 5 = .ok (.aload_n 0, 1) := by decide +kernel
theorem dX9_forgetSets_6 : decode cX9_forgetSets 6 = .ok (.getfield 32, 3) := by decide +kernel
theorem dX9_forgetSets_9 : decode cX9_forgetSets 9 = .ok (.getfield 118, 3) := by decide +kernel
theorem dX9_forgetSets_12 : decode cX9_forgetSets 12 = .ok (.if_icmp .ge 25, 3) := by decide +kernel
theorem dX9_forgetSets_15 : decode cX9_forgetSets 15 = .ok (.aload_n 0, 1) := by decide +kernel
theorem dX9_forgetSets_16 : decode cX9_forgetSets 16 = .ok (.iload_n 1, 1) := by decide +kernel
theorem dX9_forgetSets_17 : decode cX9_forgetSets 17 = .ok (.bipush (-2), 2) := by decide +kernel
theorem dX9_forgetSets_19 : decode cX9_forgetSets 19 = .ok (.invokevirtual 121, 3) := by decide +kernel
theorem dX9_forgetSets_22 : decode cX9_forgetSets 22 = .ok (.aload_n 0, 1) := by decide +kernel
theorem dX9_forgetSets_23 : decode cX9_forgetSets 23 = .ok (.getfield 32, 3) := by decide +kernel
theorem dX9_forgetSets_26 : decode cX9_forgetSets 26 = .ok (.iload_n 1, 1) := by decide +kernel
theorem dX9_forgetSets_27 : decode cX9_forgetSets 27 = .ok (.invokevirtual 125, 3) := by decide +kernel
theorem dX9_forgetSets_30 : decode cX9_forgetSets 30 = .ok (.istore_n 1, 1) := by decide +kernel
theorem dX9_forgetSets_31 : decode cX9_forgetSets 31 = .ok (.iinc 2 1, 3) := by decide +kernel
theorem dX9_forgetSets_34 : decode cX9_forgetSets 34 = .ok (.goto (-30), 3) := by decide +kernel
theorem dX9_forgetSets_37 : decode cX9_forgetSets 37 = .ok (.return_, 1) := by decide +kernel
theorem dX9_goOn_0 : decode cX9_goOn 0 = .ok (.aload_n 0, 1) := by decide +kernel
theorem dX9_goOn_1 : decode cX9_goOn 1 = .ok (.getfield 29, 3) := by decide +kernel
theorem dX9_goOn_4 : decode cX9_goOn 4 = .ok (.aload_n 1, 1) := by decide +kernel
theorem dX9_goOn_5 : decode cX9_goOn 5 = .ok (.invokevirtual 63, 3) := by decide +kernel
theorem dX9_goOn_8 : decode cX9_goOn 8 = .ok (.iconst 0, 1) := by decide +kernel
theorem dX9_goOn_9 : decode cX9_goOn 9 = .ok (.istore_n 3, 1) := by decide +kernel
theorem dX9_goOn_10 : decode cX9_goOn 10 = .ok (.iload_n 3, 1) := by decide +kernel
theorem dX9_goOn_11 : decode cX9_goOn 11 = .ok (.iload_n 2, 1) := by decide +kernel
theorem dX9_goOn_12 : decode cX9_goOn 12 = .ok (.if_icmp .ge 30, 3) := by decide +kernel
theorem dX9_goOn_15 : decode cX9_goOn 15 = .ok (.aload_n 0, 1) := by decide +kernel
theorem dX9_goOn_16 : decode cX9_goOn 16 = .ok (.getfield 29, 3) := by decide +kernel
theorem dX9_goOn_19 : decode cX9_goOn 19 = .ok (.invokevirtual 108, 3) := by decide +kernel
theorem dX9_goOn_22 : decode cX9_goOn 22 = .ok (.ifCond .eq 20, 3) := by decide +kernel
theorem dX9_goOn_25 : decode cX9_goOn 25 = .ok (.aload_n 0, 1) := by decide +kernel
theorem dX9_goOn_26 : decode cX9_goOn 26 = .ok (.getfield 36, 3) := by decide +kernel
theorem dX9_goOn_29 : decode cX9_goOn 29 = .ok (.aload_n 0, 1) := by decide +kernel
theorem dX9_goOn_30 : decode cX9_goOn 30 = .ok (.getfield 29, 3) := by decide +kernel
theorem dX9_goOn_33 : decode cX9_goOn 33 = .ok (.invokevirtual 105, 3) := by decide +kernel
theorem dX9_goOn_36 : decode cX9_goOn 36 = .ok (.iinc 3 1, 3) := by decide +kernel
theorem dX9_goOn_39 : decode cX9_goOn 39 = .ok (.goto (-29), 3) := by decide +kernel
theorem dX9_goOn_42 : decode cX9_goOn 42 = .ok (.return_, 1) := by decide +kernel
theorem dX9_outcome_0 : decode cX9_outcome 0 = .ok (.iload_n 1, 1) := by decide +kernel
theorem dX9_outcome_1 : decode cX9_outcome 1 = .ok (.ifCond .lt 10, 3) := by decide +kernel
theorem dX9_outcome_4 : decode cX9_outcome 4 = .ok (.iload_n 1, 1) := by decide +kernel
theorem dX9_outcome_5 : decode cX9_outcome 5 = .ok (.sipush 4096, 3) := by decide +kernel
theorem dX9_outcome_8 : decode cX9_outcome 8 = .ok (.if_icmp .lt 5, 3) := by decide +kernel
theorem dX9_outcome_11 : decode cX9_outcome 11 = .ok (.iconst (-1), 1) := by decide +kernel
theorem dX9_outcome_12 : decode cX9_outcome 12 = .ok (.ireturn, 1) := by decide +kernel
theorem dX9_outcome_13 : decode cX9_outcome 13 = .ok (.aload_n 0, 1) := by decide +kernel
theorem dX9_outcome_14 : decode cX9_outcome 14 = .ok (.getfield 9, 3) := by decide +kernel
theorem dX9_outcome_17 : decode cX9_outcome 17 = .ok (.iload_n 1, 1) := by decide +kernel
theorem dX9_outcome_18 : decode cX9_outcome 18 = .ok (.iaload, 1) := by decide +kernel
theorem dX9_outcome_19 : decode cX9_outcome 19 = .ok (.bipush (-2), 2) := by decide +kernel
theorem dX9_outcome_21 : decode cX9_outcome 21 = .ok (.if_icmp .ne 13, 3) := by decide +kernel
theorem dX9_outcome_24 : decode cX9_outcome 24 = .ok (.aload_n 0, 1) := by decide +kernel
theorem dX9_outcome_25 : decode cX9_outcome 25 = .ok (.iload_n 1, 1) := by decide +kernel
theorem dX9_outcome_26 : decode cX9_outcome 26 = .ok (.aload_n 0, 1) := by decide +kernel
theorem dX9_outcome_27 : decode cX9_outcome 27 = .ok (.iload_n 1, 1) := by decide +kernel
theorem dX9_outcome_28 : decode cX9_outcome 28 = .ok (.invokevirtual 128, 3) := by decide +kernel
theorem dX9_outcome_31 : decode cX9_outcome 31 = .ok (.invokevirtual 131, 3) := by decide +kernel
theorem dX9_outcome_34 : decode cX9_outcome 34 = .ok (.aload_n 0, 1) := by decide +kernel
theorem dX9_outcome_35 : decode cX9_outcome 35 = .ok (.getfield 9, 3) := by decide +kernel
theorem dX9_outcome_38 : decode cX9_outcome 38 = .ok (.iload_n 1, 1) := by decide +kernel
theorem dX9_outcome_39 : decode cX9_outcome 39 = .ok (.iaload, 1) := by decide +kernel
theorem dX9_outcome_40 : decode cX9_outcome 40 = .ok (.ireturn, 1) := by decide +kernel
theorem dX9_remember_0 : decode cX9_remember 0 = .ok (.iload_n 1, 1) := by decide +kernel
theorem dX9_remember_1 : decode cX9_remember 1 = .ok (.ifCond .lt 17, 3) := by decide +kernel
theorem dX9_remember_4 : decode cX9_remember 4 = .ok (.iload_n 1, 1) := by decide +kernel
theorem dX9_remember_5 : decode cX9_remember 5 = .ok (.sipush 4096, 3) := by decide +kernel
theorem dX9_remember_8 : decode cX9_remember 8 = .ok (.if_icmp .ge 10, 3) := by decide +kernel
theorem dX9_remember_11 : decode cX9_remember 11 = .ok (.aload_n 0, 1) := by decide +kernel
theorem dX9_remember_12 : decode cX9_remember 12 = .ok (.getfield 9, 3) := by decide +kernel
theorem dX9_remember_15 : decode cX9_remember 15 = .ok (.iload_n 1, 1) := by decide +kernel
theorem dX9_remember_16 : decode cX9_remember 16 = .ok (.iload_n 2, 1) := by decide +kernel
theorem dX9_remember_17 : decode cX9_remember 17 = .ok (.iastore, 1) := by decide +kernel
theorem dX9_remember_18 : decode cX9_remember 18 = .ok (.return_, 1) := by decide +kernel
theorem dX9_setFitting_0 : decode cX9_setFitting 0 = .ok (.iload_n 1, 1) := by decide +kernel
theorem dX9_setFitting_1 : decode cX9_setFitting 1 = .ok (.ifCond .lt 17, 3) := by decide +kernel
theorem dX9_setFitting_4 : decode cX9_setFitting 4 = .ok (.iload_n 1, 1) := by decide +kernel
theorem dX9_setFitting_5 : decode cX9_setFitting 5 = .ok (.sipush 4096, 3) := by decide +kernel
theorem dX9_setFitting_8 : decode cX9_setFitting 8 = .ok (.if_icmp .ge 10, 3) := by decide +kernel
theorem dX9_setFitting_11 : decode cX9_setFitting 11 = .ok (.aload_n 0, 1) := by decide +kernel
theorem dX9_setFitting_12 : decode cX9_setFitting 12 = .ok (.getfield 15, 3) := by decide +kernel
theorem dX9_setFitting_15 : decode cX9_setFitting 15 = .ok (.iload_n 1, 1) := by decide +kernel
theorem dX9_setFitting_16 : decode cX9_setFitting 16 = .ok (.iload_n 2, 1) := by decide +kernel
theorem dX9_setFitting_17 : decode cX9_setFitting 17 = .ok (.bastore, 1) := by decide +kernel
theorem dX9_setFitting_18 : decode cX9_setFitting 18 = .ok (.return_, 1) := by decide +kernel
theorem dX9_spread_0 : decode cX9_spread 0 = .ok (.aload_n 0, 1) := by decide +kernel
theorem dX9_spread_1 : decode cX9_spread 1 = .ok (.getfield 32, 3) := by decide +kernel
theorem dX9_spread_4 : decode cX9_spread 4 = .ok (.getfield 134, 3) := by decide +kernel
theorem dX9_spread_7 : decode cX9_spread 7 = .ok (.aload_n 0, 1) := by decide +kernel
theorem dX9_spread_8 : decode cX9_spread 8 = .ok (.getfield 36, 3) := by decide +kernel
theorem dX9_spread_11 : decode cX9_spread 11 = .ok (.getfield 80, 3) := by decide +kernel
theorem dX9_spread_14 : decode cX9_spread 14 = .ok (.iconst (-1), 1) := by decide +kernel
theorem dX9_spread_15 : decode cX9_spread 15 = .ok (.ixor, 1) := by decide +kernel
theorem dX9_spread_16 : decode cX9_spread 16 = .ok (.iand, 1) := by decide +kernel
theorem dX9_spread_17 : decode cX9_spread 17 = .ok (.istore_n 3, 1) := by decide +kernel
theorem dX9_spread_18 : decode cX9_spread 18 = .ok (.iconst 1, 1) := by decide +kernel
theorem dX9_spread_19 : decode cX9_spread 19 = .ok (.iload_n 3, 1) := by decide +kernel
theorem dX9_spread_20 : decode cX9_spread 20 = .ok (.invokestatic 137, 3) := by decide +kernel
theorem dX9_spread_23 : decode cX9_spread 23 = .ok (.ishl, 1) := by decide +kernel
theorem dX9_spread_24 : decode cX9_spread 24 = .ok (.istore 4, 2) := by decide +kernel
theorem dX9_spread_26 : decode cX9_spread 26 = .ok (.iconst 0, 1) := by decide +kernel
theorem dX9_spread_27 : decode cX9_spread 27 = .ok (.istore 5, 2) := by decide +kernel
theorem dX9_spread_29 : decode cX9_spread 29 = .ok (.iconst 0, 1) := by decide +kernel
theorem dX9_spread_30 : decode cX9_spread 30 = .ok (.istore 6, 2) := by decide +kernel
theorem dX9_spread_32 : decode cX9_spread 32 = .ok (.iload 6, 2) := by decide +kernel
theorem dX9_spread_34 : decode cX9_spread 34 = .ok (.iload 4, 2) := by decide +kernel
theorem dX9_spread_36 : decode cX9_spread 36 = .ok (.if_icmp .ge 30, 3) := by decide +kernel
theorem dX9_spread_39 : decode cX9_spread 39 = .ok (.aload_n 0, 1) := by decide +kernel
theorem dX9_spread_40 : decode cX9_spread 40 = .ok (.iload_n 1, 1) := by decide +kernel
theorem dX9_spread_41 : decode cX9_spread 41 = .ok (.iload_n 3, 1) := by decide +kernel
theorem dX9_spread_42 : decode cX9_spread 42 = .ok (.iconst (-1), 1) := by decide +kernel
theorem dX9_spread_43 : decode cX9_spread 43 = .ok (.ixor, 1) := by decide +kernel
theorem dX9_spread_44 : decode cX9_spread 44 = .ok (.iand, 1) := by decide +kernel
theorem dX9_spread_45 : decode cX9_spread 45 = .ok (.iload 5, 2) := by decide +kernel
theorem dX9_spread_47 : decode cX9_spread 47 = .ok (.ior, 1) := by decide +kernel
theorem dX9_spread_48 : decode cX9_spread 48 = .ok (.iload_n 2, 1) := by decide +kernel
theorem dX9_spread_49 : decode cX9_spread 49 = .ok (.invokevirtual 121, 3) := by decide +kernel
theorem dX9_spread_52 : decode cX9_spread 52 = .ok (.iload 5, 2) := by decide +kernel
theorem dX9_spread_54 : decode cX9_spread 54 = .ok (.iload_n 3, 1) := by decide +kernel
theorem dX9_spread_55 : decode cX9_spread 55 = .ok (.isub, 1) := by decide +kernel
theorem dX9_spread_56 : decode cX9_spread 56 = .ok (.iload_n 3, 1) := by decide +kernel
theorem dX9_spread_57 : decode cX9_spread 57 = .ok (.iand, 1) := by decide +kernel
theorem dX9_spread_58 : decode cX9_spread 58 = .ok (.istore 5, 2) := by decide +kernel
theorem dX9_spread_60 : decode cX9_spread 60 = .ok (.iinc 6 1, 3) := by decide +kernel
theorem dX9_spread_63 : decode cX9_spread 63 = .ok (.goto (-31), 3) := by decide +kernel
theorem dX9_spread_66 : decode cX9_spread 66 = .ok (.return_, 1) := by decide +kernel
