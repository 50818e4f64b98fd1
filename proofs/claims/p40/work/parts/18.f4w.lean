theorem mw_0 : (Cond.selects RX8 yX8_clear yX8_clear) ∈ gx_G := gx_mem 0 (by decide +kernel) (by decide +kernel)
theorem mw_1 : (Cond.selects RX8 yX8_readLine yX8_readLine) ∈ gx_G := gx_mem 1 (by decide +kernel) (by decide +kernel)
theorem mw_2 : (Cond.selects RX8 yX8_addPlace yX8_addPlace) ∈ gx_G := gx_mem 2 (by decide +kernel) (by decide +kernel)
theorem mw_3 : (Cond.selects RX8 yX8_use yX8_use) ∈ gx_G := gx_mem 3 (by decide +kernel) (by decide +kernel)
theorem mw_4 : (Cond.selects RX8 yX8_readFork yX8_readFork) ∈ gx_G := gx_mem 4 (by decide +kernel) (by decide +kernel)
theorem mw_5 : (Cond.selects RX8 yX8_readMill yX8_readMill) ∈ gx_G := gx_mem 5 (by decide +kernel) (by decide +kernel)
theorem mw_6 : (Cond.selects RX8 yX8_readFigure yX8_readFigure) ∈ gx_G := gx_mem 6 (by decide +kernel) (by decide +kernel)
theorem mw_7 : (Cond.selects RX8 yX8_judgeLetters yX8_judgeLetters) ∈ gx_G := gx_mem 7 (by decide +kernel) (by decide +kernel)
theorem mw_8 : (Cond.selects RX5 yX5_clear yX5_clear) ∈ gx_G := gx_mem 8 (by decide +kernel) (by decide +kernel)
theorem mw_9 : (Cond.selects RX5 yX5_addFact yX5_addFact) ∈ gx_G := gx_mem 9 (by decide +kernel) (by decide +kernel)
theorem mw_11 : (Cond.selects RX5 yX5_finish yX5_finish) ∈ gx_G := gx_mem 11 (by decide +kernel) (by decide +kernel)
theorem mw_13 : (Cond.selects RX5 yX5_takeThing yX5_takeThing) ∈ gx_G := gx_mem 13 (by decide +kernel) (by decide +kernel)
theorem mw_14 : (Cond.selects RX5 yX5_hold yX5_hold) ∈ gx_G := gx_mem 14 (by decide +kernel) (by decide +kernel)
theorem mw_15 : (Cond.selects RX5 yX5_takeBehindThing yX5_takeBehindThing) ∈ gx_G := gx_mem 15 (by decide +kernel) (by decide +kernel)
theorem mw_16 : (Cond.selects RX5 yX5_lengthenNumber yX5_lengthenNumber) ∈ gx_G := gx_mem 16 (by decide +kernel) (by decide +kernel)
theorem mw_17 : (Cond.selects RX5 yX5_close yX5_close) ∈ gx_G := gx_mem 17 (by decide +kernel) (by decide +kernel)
theorem mw_33 : (Cond.selects RX11 yX11_fewestTurns yX11_fewestTurns) ∈ gx_G := gx_mem 33 (by decide +kernel) (by decide +kernel)
theorem mw_152 : (Cond.fieldLink RX8 24 "DownTheGutter$Town" "firstUse" "[I") ∈ gx_G := gx_mem 152 (by decide +kernel) (by decide +kernel)
theorem mw_159 : (Cond.fieldLink RX8 27 "DownTheGutter$Town" "sets" "I") ∈ gx_G := gx_mem 159 (by decide +kernel) (by decide +kernel)
theorem mw_449 : (Cond.fieldLink RX11 23 "DownTheGutter" "draftTown" "LDownTheGutter$Town;") ∈ gx_G := gx_mem 449 (by decide +kernel) (by decide +kernel)
theorem mw_451 : (Cond.fieldLink RX11 36 "DownTheGutter" "rule" "LDownTheGutter$Rule;") ∈ gx_G := gx_mem 451 (by decide +kernel) (by decide +kernel)
theorem mw_452 : (Cond.fieldLink RX11 40 "DownTheGutter" "draftRule" "LDownTheGutter$Rule;") ∈ gx_G := gx_mem 452 (by decide +kernel) (by decide +kernel)
theorem mw_500 : (Cond.methodLink RX11 103 yX7_addFour) ∈ gx_G := gx_mem 500 (by decide +kernel) (by decide +kernel)
theorem mw_501 : (Cond.instanceMethod yX7_addFour) ∈ gx_G := gx_mem 501 (by decide +kernel) (by decide +kernel)
theorem mw_502 : (Cond.selects RX7 yX7_addFour yX7_addFour) ∈ gx_G := gx_mem 502 (by decide +kernel) (by decide +kernel)
theorem mw_503 : (Cond.code yX7_addFour cX7_addFour 2 (some .boolean)) ∈ gx_G := gx_mem 503 (by decide +kernel) (by decide +kernel)
theorem mw_516 : (Cond.methodLink RX11 114 yX8_read) ∈ gx_G := gx_mem 516 (by decide +kernel) (by decide +kernel)
theorem mw_517 : (Cond.instanceMethod yX8_read) ∈ gx_G := gx_mem 517 (by decide +kernel) (by decide +kernel)
theorem mw_518 : (Cond.selects RX8 yX8_read yX8_read) ∈ gx_G := gx_mem 518 (by decide +kernel) (by decide +kernel)
theorem mw_519 : (Cond.code yX8_read cX8_read 5 (some .int)) ∈ gx_G := gx_mem 519 (by decide +kernel) (by decide +kernel)
theorem mw_520 : (Cond.methodLink RX8 40 yX8_clear) ∈ gx_G := gx_mem 520 (by decide +kernel) (by decide +kernel)
theorem mw_522 : (Cond.instanceMethod yX8_clear) ∈ gx_G := gx_mem 522 (by decide +kernel) (by decide +kernel)
theorem mw_523 : (Cond.code yX8_clear cX8_clear 2 none) ∈ gx_G := gx_mem 523 (by decide +kernel) (by decide +kernel)
theorem mw_524 : (Cond.methodLink RX8 43 yX7_showAtMost) ∈ gx_G := gx_mem 524 (by decide +kernel) (by decide +kernel)
theorem mw_531 : (Cond.methodLink RX8 49 yX7_isOver) ∈ gx_G := gx_mem 531 (by decide +kernel) (by decide +kernel)
theorem mw_535 : (Cond.methodLink RX8 53 yX8_readLine) ∈ gx_G := gx_mem 535 (by decide +kernel) (by decide +kernel)
theorem mw_537 : (Cond.instanceMethod yX8_readLine) ∈ gx_G := gx_mem 537 (by decide +kernel) (by decide +kernel)
theorem mw_538 : (Cond.code yX8_readLine cX8_readLine 5 (some .int)) ∈ gx_G := gx_mem 538 (by decide +kernel) (by decide +kernel)
theorem mw_540 : (Cond.methodLink RX8 67 yX7_oneOf) ∈ gx_G := gx_mem 540 (by decide +kernel) (by decide +kernel)
theorem mw_632 : (Cond.methodLink RX8 71 yX8_addPlace) ∈ gx_G := gx_mem 632 (by decide +kernel) (by decide +kernel)
theorem mw_634 : (Cond.instanceMethod yX8_addPlace) ∈ gx_G := gx_mem 634 (by decide +kernel) (by decide +kernel)
theorem mw_635 : (Cond.code yX8_addPlace cX8_addPlace 5 none) ∈ gx_G := gx_mem 635 (by decide +kernel) (by decide +kernel)
theorem mw_636 : (Cond.methodLink RX8 75 yX7_letter) ∈ gx_G := gx_mem 636 (by decide +kernel) (by decide +kernel)
theorem mw_640 : (Cond.methodLink RX8 79 yX8_use) ∈ gx_G := gx_mem 640 (by decide +kernel) (by decide +kernel)
theorem mw_642 : (Cond.instanceMethod yX8_use) ∈ gx_G := gx_mem 642 (by decide +kernel) (by decide +kernel)
theorem mw_643 : (Cond.code yX8_use cX8_use 3 none) ∈ gx_G := gx_mem 643 (by decide +kernel) (by decide +kernel)
theorem mw_644 : (Cond.methodLink RX8 83 yX8_readFork) ∈ gx_G := gx_mem 644 (by decide +kernel) (by decide +kernel)
theorem mw_646 : (Cond.instanceMethod yX8_readFork) ∈ gx_G := gx_mem 646 (by decide +kernel) (by decide +kernel)
theorem mw_647 : (Cond.code yX8_readFork cX8_readFork 5 (some .int)) ∈ gx_G := gx_mem 647 (by decide +kernel) (by decide +kernel)
theorem mw_648 : (Cond.methodLink RX8 87 yX8_readMill) ∈ gx_G := gx_mem 648 (by decide +kernel) (by decide +kernel)
theorem mw_650 : (Cond.instanceMethod yX8_readMill) ∈ gx_G := gx_mem 650 (by decide +kernel) (by decide +kernel)
theorem mw_651 : (Cond.code yX8_readMill cX8_readMill 6 (some .int)) ∈ gx_G := gx_mem 651 (by decide +kernel) (by decide +kernel)
theorem mw_652 : (Cond.methodLink RX8 94 yX7_digit) ∈ gx_G := gx_mem 652 (by decide +kernel) (by decide +kernel)
theorem mw_656 : (Cond.methodLink RX8 90 yX8_readFigure) ∈ gx_G := gx_mem 656 (by decide +kernel) (by decide +kernel)
theorem mw_658 : (Cond.instanceMethod yX8_readFigure) ∈ gx_G := gx_mem 658 (by decide +kernel) (by decide +kernel)
theorem mw_659 : (Cond.code yX8_readFigure cX8_readFigure 6 (some .int)) ∈ gx_G := gx_mem 659 (by decide +kernel) (by decide +kernel)
theorem mw_660 : (Cond.methodLink RX8 57 yX8_judgeLetters) ∈ gx_G := gx_mem 660 (by decide +kernel) (by decide +kernel)
theorem mw_662 : (Cond.instanceMethod yX8_judgeLetters) ∈ gx_G := gx_mem 662 (by decide +kernel) (by decide +kernel)
theorem mw_663 : (Cond.code yX8_judgeLetters cX8_judgeLetters 4 (some .int)) ∈ gx_G := gx_mem 663 (by decide +kernel) (by decide +kernel)
theorem mw_664 : (Cond.methodLink RX8 61 yX7_hasSign) ∈ gx_G := gx_mem 664 (by decide +kernel) (by decide +kernel)
theorem mw_668 : (Cond.methodLink RX11 118 yX8_copy) ∈ gx_G := gx_mem 668 (by decide +kernel) (by decide +kernel)
theorem mw_669 : (Cond.instanceMethod yX8_copy) ∈ gx_G := gx_mem 669 (by decide +kernel) (by decide +kernel)
theorem mw_670 : (Cond.selects RX8 yX8_copy yX8_copy) ∈ gx_G := gx_mem 670 (by decide +kernel) (by decide +kernel)
theorem mw_671 : (Cond.code yX8_copy cX8_copy 3 none) ∈ gx_G := gx_mem 671 (by decide +kernel) (by decide +kernel)
theorem mw_672 : (Cond.methodLink RX11 122 yX6_clear) ∈ gx_G := gx_mem 672 (by decide +kernel) (by decide +kernel)
theorem mw_697 : (Cond.methodLink RX11 133 yX5_read) ∈ gx_G := gx_mem 697 (by decide +kernel) (by decide +kernel)
theorem mw_698 : (Cond.instanceMethod yX5_read) ∈ gx_G := gx_mem 698 (by decide +kernel) (by decide +kernel)
theorem mw_699 : (Cond.selects RX5 yX5_read yX5_read) ∈ gx_G := gx_mem 699 (by decide +kernel) (by decide +kernel)
theorem mw_700 : (Cond.code yX5_read cX5_read 4 (some .int)) ∈ gx_G := gx_mem 700 (by decide +kernel) (by decide +kernel)
theorem mw_701 : (Cond.methodLink RX5 30 yX5_clear) ∈ gx_G := gx_mem 701 (by decide +kernel) (by decide +kernel)
theorem mw_703 : (Cond.instanceMethod yX5_clear) ∈ gx_G := gx_mem 703 (by decide +kernel) (by decide +kernel)
theorem mw_704 : (Cond.code yX5_clear cX5_clear 1 none) ∈ gx_G := gx_mem 704 (by decide +kernel) (by decide +kernel)
theorem mw_705 : (Cond.methodLink RX5 33 yX7_showAtMost) ∈ gx_G := gx_mem 705 (by decide +kernel) (by decide +kernel)
theorem mw_706 : (Cond.methodLink RX5 39 yX7_isOver) ∈ gx_G := gx_mem 706 (by decide +kernel) (by decide +kernel)
theorem mw_707 : (Cond.methodLink RX5 43 yX5_addFact) ∈ gx_G := gx_mem 707 (by decide +kernel) (by decide +kernel)
theorem mw_709 : (Cond.instanceMethod yX5_addFact) ∈ gx_G := gx_mem 709 (by decide +kernel) (by decide +kernel)
theorem mw_710 : (Cond.code yX5_addFact cX5_addFact 2 none) ∈ gx_G := gx_mem 710 (by decide +kernel) (by decide +kernel)
theorem mw_715 : (Cond.methodLink RX5 46 yX5_finish) ∈ gx_G := gx_mem 715 (by decide +kernel) (by decide +kernel)
theorem mw_717 : (Cond.instanceMethod yX5_finish) ∈ gx_G := gx_mem 717 (by decide +kernel) (by decide +kernel)
theorem mw_718 : (Cond.code yX5_finish cX5_finish 2 (some .int)) ∈ gx_G := gx_mem 718 (by decide +kernel) (by decide +kernel)
theorem mw_726 : (Cond.methodLink RX5 53 yX5_takeThing) ∈ gx_G := gx_mem 726 (by decide +kernel) (by decide +kernel)
theorem mw_728 : (Cond.instanceMethod yX5_takeThing) ∈ gx_G := gx_mem 728 (by decide +kernel) (by decide +kernel)
theorem mw_729 : (Cond.code yX5_takeThing cX5_takeThing 5 (some .boolean)) ∈ gx_G := gx_mem 729 (by decide +kernel) (by decide +kernel)
theorem mw_731 : (Cond.methodLink RX5 77 yX7_oneOf) ∈ gx_G := gx_mem 731 (by decide +kernel) (by decide +kernel)
theorem mw_732 : (Cond.methodLink RX5 81 yX7_digit) ∈ gx_G := gx_mem 732 (by decide +kernel) (by decide +kernel)
theorem mw_733 : (Cond.methodLink RX5 87 yX7_hasSign) ∈ gx_G := gx_mem 733 (by decide +kernel) (by decide +kernel)
theorem mw_734 : (Cond.methodLink RX5 91 yX5_hold) ∈ gx_G := gx_mem 734 (by decide +kernel) (by decide +kernel)
theorem mw_736 : (Cond.instanceMethod yX5_hold) ∈ gx_G := gx_mem 736 (by decide +kernel) (by decide +kernel)
theorem mw_737 : (Cond.code yX5_hold cX5_hold 2 none) ∈ gx_G := gx_mem 737 (by decide +kernel) (by decide +kernel)
theorem mw_738 : (Cond.methodLink RX5 57 yX5_takeBehindThing) ∈ gx_G := gx_mem 738 (by decide +kernel) (by decide +kernel)
theorem mw_740 : (Cond.instanceMethod yX5_takeBehindThing) ∈ gx_G := gx_mem 740 (by decide +kernel) (by decide +kernel)
theorem mw_741 : (Cond.code yX5_takeBehindThing cX5_takeBehindThing 6 (some .boolean)) ∈ gx_G := gx_mem 741 (by decide +kernel) (by decide +kernel)
theorem mw_742 : (Cond.methodLink RX5 94 yX5_lengthenNumber) ∈ gx_G := gx_mem 742 (by decide +kernel) (by decide +kernel)
theorem mw_744 : (Cond.instanceMethod yX5_lengthenNumber) ∈ gx_G := gx_mem 744 (by decide +kernel) (by decide +kernel)
theorem mw_745 : (Cond.code yX5_lengthenNumber cX5_lengthenNumber 3 (some .boolean)) ∈ gx_G := gx_mem 745 (by decide +kernel) (by decide +kernel)
theorem mw_746 : (Cond.methodLink RX5 97 yX5_close) ∈ gx_G := gx_mem 746 (by decide +kernel) (by decide +kernel)
theorem mw_748 : (Cond.instanceMethod yX5_close) ∈ gx_G := gx_mem 748 (by decide +kernel) (by decide +kernel)
theorem mw_749 : (Cond.code yX5_close cX5_close 1 (some .boolean)) ∈ gx_G := gx_mem 749 (by decide +kernel) (by decide +kernel)
theorem mw_750 : (Cond.methodLink RX5 106 Lib.Math.max.name) ∈ gx_G := gx_mem 750 (by decide +kernel) (by decide +kernel)
theorem mw_752 : (Cond.methodLink RX11 134 yX5_copy) ∈ gx_G := gx_mem 752 (by decide +kernel) (by decide +kernel)
theorem mw_753 : (Cond.instanceMethod yX5_copy) ∈ gx_G := gx_mem 753 (by decide +kernel) (by decide +kernel)
theorem mw_754 : (Cond.selects RX5 yX5_copy yX5_copy) ∈ gx_G := gx_mem 754 (by decide +kernel) (by decide +kernel)
theorem mw_755 : (Cond.code yX5_copy cX5_copy 3 none) ∈ gx_G := gx_mem 755 (by decide +kernel) (by decide +kernel)
theorem mw_785 : (Cond.methodLink RX11 211 yX11_entry) ∈ gx_G := gx_mem 785 (by decide +kernel) (by decide +kernel)
theorem mw_786 : (Cond.static yX11_entry) ∈ gx_G := gx_mem 786 (by decide +kernel) (by decide +kernel)
theorem mw_787 : (Cond.code yX11_entry cX11_entry 3 (some .int)) ∈ gx_G := gx_mem 787 (by decide +kernel) (by decide +kernel)
theorem mw_790 : (Cond.methodLink RX11 215 yX6_setPaper) ∈ gx_G := gx_mem 790 (by decide +kernel) (by decide +kernel)
theorem mw_1008 : (Cond.methodLink RX11 283 yX3_pop) ∈ gx_G := gx_mem 1008 (by decide +kernel) (by decide +kernel)
theorem mw_1009 : (Cond.instanceMethod yX3_pop) ∈ gx_G := gx_mem 1009 (by decide +kernel) (by decide +kernel)
theorem mw_1010 : (Cond.selects RX3 yX3_pop yX3_pop) ∈ gx_G := gx_mem 1010 (by decide +kernel) (by decide +kernel)
theorem mw_1011 : (Cond.code yX3_pop cX3_pop 3 (some .boolean)) ∈ gx_G := gx_mem 1011 (by decide +kernel) (by decide +kernel)
theorem mw_1151 : (Cond.methodLink RX11 347 yX11_fewestTurns) ∈ gx_G := gx_mem 1151 (by decide +kernel) (by decide +kernel)
theorem mw_1153 : (Cond.instanceMethod yX11_fewestTurns) ∈ gx_G := gx_mem 1153 (by decide +kernel) (by decide +kernel)
theorem mw_1154 : (Cond.code yX11_fewestTurns cX11_fewestTurns 9 (some .int)) ∈ gx_G := gx_mem 1154 (by decide +kernel) (by decide +kernel)
theorem cw_X5_77 : gx_Wv RX5 77 yX7_oneOf cX7_oneOf 4 (some .int) 2 := ⟨⟨mw_731, mw_541, mw_542, mw_90, mw_543⟩, by decide +kernel⟩
theorem cw_X5_81 : gx_Wv RX5 81 yX7_digit cX7_digit 3 (some .int) 1 := ⟨⟨mw_732, mw_653, mw_654, mw_90, mw_655⟩, by decide +kernel⟩
theorem cw_X5_87 : gx_Wv RX5 87 yX7_hasSign cX7_hasSign 3 (some .boolean) 2 := ⟨⟨mw_733, mw_665, mw_666, mw_90, mw_667⟩, by decide +kernel⟩
theorem cw_X5_91 : gx_Wv RX5 91 yX5_hold cX5_hold 2 none 1 := ⟨⟨mw_734, mw_736, mw_14, mw_93, mw_737⟩, by decide +kernel⟩
theorem cw_X5_43 : gx_Wv RX5 43 yX5_addFact cX5_addFact 2 none 1 := ⟨⟨mw_707, mw_709, mw_9, mw_93, mw_710⟩, by decide +kernel⟩
theorem cw_X5_97 : gx_Wv RX5 97 yX5_close cX5_close 1 (some .boolean) 0 := ⟨⟨mw_746, mw_748, mw_17, mw_93, mw_749⟩, by decide +kernel⟩
theorem cw_X5_94 : gx_Wv RX5 94 yX5_lengthenNumber cX5_lengthenNumber 3 (some .boolean) 1 := ⟨⟨mw_742, mw_744, mw_16, mw_93, mw_745⟩, by decide +kernel⟩
theorem cw_X5_39 : gx_Wv RX5 39 yX7_isOver cX7_isOver 2 (some .boolean) 1 := ⟨⟨mw_706, mw_532, mw_533, mw_90, mw_534⟩, by decide +kernel⟩
theorem cw_X5_57 : gx_Wv RX5 57 yX5_takeBehindThing cX5_takeBehindThing 6 (some .boolean) 2 := ⟨⟨mw_738, mw_740, mw_15, mw_93, mw_741⟩, by decide +kernel⟩
theorem cw_X5_53 : gx_Wv RX5 53 yX5_takeThing cX5_takeThing 5 (some .boolean) 2 := ⟨⟨mw_726, mw_728, mw_13, mw_93, mw_729⟩, by decide +kernel⟩
theorem cw_X5_46 : gx_Wv RX5 46 yX5_finish cX5_finish 2 (some .int) 1 := ⟨⟨mw_715, mw_717, mw_11, mw_93, mw_718⟩, by decide +kernel⟩
theorem cw_X5_30 : gx_Wv RX5 30 yX5_clear cX5_clear 1 none 0 := ⟨⟨mw_701, mw_703, mw_8, mw_93, mw_704⟩, by decide +kernel⟩
theorem cw_X5_33 : gx_Wv RX5 33 yX7_showAtMost cX7_showAtMost 2 none 1 := ⟨⟨mw_705, mw_525, mw_526, mw_90, mw_527⟩, by decide +kernel⟩
theorem cw_X11_133 : gx_Wv RX11 133 yX5_read cX5_read 4 (some .int) 1 := ⟨⟨mw_697, mw_698, mw_699, mw_93, mw_700⟩, by decide +kernel⟩
theorem cw_X11_134 : gx_Wv RX11 134 yX5_copy cX5_copy 3 none 1 := ⟨⟨mw_752, mw_753, mw_754, mw_93, mw_755⟩, by decide +kernel⟩
theorem cw_X11_347 : gx_Wv RX11 347 yX11_fewestTurns cX11_fewestTurns 9 (some .int) 1 := ⟨⟨mw_1151, mw_1153, mw_33, mw_89, mw_1154⟩, by decide +kernel⟩
theorem cw_X11_215 : gx_Wv RX11 215 yX6_setPaper cX6_setPaper 3 none 2 := ⟨⟨mw_790, mw_791, mw_792, mw_95, mw_793⟩, by decide +kernel⟩
theorem cw_X11_211 : gx_Ws RX11 211 yX11_entry cX11_entry 3 (some .int) 2 := ⟨⟨mw_785, mw_786, mw_89, mw_787⟩, by decide +kernel⟩
theorem cw_X11_103 : gx_Wv RX11 103 yX7_addFour cX7_addFour 2 (some .boolean) 1 := ⟨⟨mw_500, mw_501, mw_502, mw_90, mw_503⟩, by decide +kernel⟩
theorem cw_X8_75 : gx_Wv RX8 75 yX7_letter cX7_letter 3 (some .int) 1 := ⟨⟨mw_636, mw_637, mw_638, mw_90, mw_639⟩, by decide +kernel⟩
theorem cw_X8_79 : gx_Wv RX8 79 yX8_use cX8_use 3 none 2 := ⟨⟨mw_640, mw_642, mw_3, mw_91, mw_643⟩, by decide +kernel⟩
theorem cw_X8_71 : gx_Wv RX8 71 yX8_addPlace cX8_addPlace 5 none 4 := ⟨⟨mw_632, mw_634, mw_2, mw_91, mw_635⟩, by decide +kernel⟩
theorem cw_X8_94 : gx_Wv RX8 94 yX7_digit cX7_digit 3 (some .int) 1 := ⟨⟨mw_652, mw_653, mw_654, mw_90, mw_655⟩, by decide +kernel⟩
theorem cw_X8_67 : gx_Wv RX8 67 yX7_oneOf cX7_oneOf 4 (some .int) 2 := ⟨⟨mw_540, mw_541, mw_542, mw_90, mw_543⟩, by decide +kernel⟩
theorem cw_X8_90 : gx_Wv RX8 90 yX8_readFigure cX8_readFigure 6 (some .int) 4 := ⟨⟨mw_656, mw_658, mw_6, mw_91, mw_659⟩, by decide +kernel⟩
theorem cw_X8_87 : gx_Wv RX8 87 yX8_readMill cX8_readMill 6 (some .int) 3 := ⟨⟨mw_648, mw_650, mw_5, mw_91, mw_651⟩, by decide +kernel⟩
theorem cw_X8_83 : gx_Wv RX8 83 yX8_readFork cX8_readFork 5 (some .int) 3 := ⟨⟨mw_644, mw_646, mw_4, mw_91, mw_647⟩, by decide +kernel⟩
theorem cw_X8_53 : gx_Wv RX8 53 yX8_readLine cX8_readLine 5 (some .int) 2 := ⟨⟨mw_535, mw_537, mw_1, mw_91, mw_538⟩, by decide +kernel⟩
theorem cw_X8_49 : gx_Wv RX8 49 yX7_isOver cX7_isOver 2 (some .boolean) 1 := ⟨⟨mw_531, mw_532, mw_533, mw_90, mw_534⟩, by decide +kernel⟩
theorem cw_X8_61 : gx_Wv RX8 61 yX7_hasSign cX7_hasSign 3 (some .boolean) 2 := ⟨⟨mw_664, mw_665, mw_666, mw_90, mw_667⟩, by decide +kernel⟩
theorem cw_X8_57 : gx_Wv RX8 57 yX8_judgeLetters cX8_judgeLetters 4 (some .int) 0 := ⟨⟨mw_660, mw_662, mw_7, mw_91, mw_663⟩, by decide +kernel⟩
theorem cw_X8_40 : gx_Wv RX8 40 yX8_clear cX8_clear 2 none 0 := ⟨⟨mw_520, mw_522, mw_0, mw_91, mw_523⟩, by decide +kernel⟩
theorem cw_X8_43 : gx_Wv RX8 43 yX7_showAtMost cX7_showAtMost 2 none 1 := ⟨⟨mw_524, mw_525, mw_526, mw_90, mw_527⟩, by decide +kernel⟩
theorem cw_X11_114 : gx_Wv RX11 114 yX8_read cX8_read 5 (some .int) 1 := ⟨⟨mw_516, mw_517, mw_518, mw_91, mw_519⟩, by decide +kernel⟩
theorem cw_X11_118 : gx_Wv RX11 118 yX8_copy cX8_copy 3 none 1 := ⟨⟨mw_668, mw_669, mw_670, mw_91, mw_671⟩, by decide +kernel⟩
theorem cw_X11_122 : gx_Wv RX11 122 yX6_clear cX6_clear 1 none 0 := ⟨⟨mw_672, mw_673, mw_674, mw_95, mw_675⟩, by decide +kernel⟩
theorem cw_X11_283 : gx_Wv RX11 283 yX3_pop cX3_pop 3 (some .boolean) 1 := ⟨⟨mw_1008, mw_1009, mw_1010, mw_96, mw_1011⟩, by decide +kernel⟩
theorem t_9 : gx_tb[9]? = some (.inl (9, [some (some 10), some (some 11), some (some 12), some (some 13), some (some 14), none, none, none, none])) := rfl
theorem t_10 : gx_tb[10]? = some (.inr (0, 12, [])) := rfl
theorem t_11 : gx_tb[11]? = some (.inr (0, 12, [])) := rfl
theorem t_12 : gx_tb[12]? = some (.inr (0, 12, [])) := rfl
theorem t_13 : gx_tb[13]? = some (.inr (0, 12, [])) := rfl
theorem t_14 : gx_tb[14]? = some (.inr (0, 12, [])) := rfl
theorem ss_0 : gx_ss[0]? = some (RX8, 65, "gdfrmik", [103, 100, 102, 114, 109, 105, 107]) := rfl
theorem ss_1 : gx_ss[1]? = some (RX5, 75, "pmwibcnf", [112, 109, 119, 105, 98, 99, 110, 102]) := rfl
theorem ss_2 : gx_ss[2]? = some (RX5, 101, "+-*/<>=", [43, 45, 42, 47, 60, 62, 61]) := rfl
theorem dX11_rule_0 : decode cX11_rule 0 = .ok (.aload_n 0, 1) := by decide +kernel
theorem dX11_rule_1 : decode cX11_rule 1 = .ok (.getfield 40, 3) := by decide +kernel
theorem dX11_rule_4 : decode cX11_rule 4 = .ok (.aload_n 0, 1) := by decide +kernel
theorem dX11_rule_5 : decode cX11_rule 5 = .ok (.getfield 12, 3) := by decide +kernel
theorem dX11_rule_8 : decode cX11_rule 8 = .ok (.invokevirtual 133, 3) := by decide +kernel
theorem dX11_rule_11 : decode cX11_rule 11 = .ok (.istore_n 1, 1) := by decide +kernel
theorem dX11_rule_12 : decode cX11_rule 12 = .ok (.aload_n 0, 1) := by decide +kernel
theorem dX11_rule_13 : decode cX11_rule 13 = .ok (.getfield 12, 3) := by decide +kernel
theorem dX11_rule_16 : decode cX11_rule 16 = .ok (.iconst 0, 1) := by decide +kernel
theorem dX11_rule_17 : decode cX11_rule 17 = .ok (.invokevirtual 111, 3) := by decide +kernel
theorem dX11_rule_20 : decode cX11_rule 20 = .ok (.pop, 1) := by decide +kernel
theorem dX11_rule_21 : decode cX11_rule 21 = .ok (.iload_n 1, 1) := by decide +kernel
theorem dX11_rule_22 : decode cX11_rule 22 = .ok (.ifCond .lt 14, 3) := by decide +kernel
theorem dX11_rule_25 : decode cX11_rule 25 = .ok (.aload_n 0, 1) := by decide +kernel
theorem dX11_rule_26 : decode cX11_rule 26 = .ok (.getfield 36, 3) := by decide +kernel
theorem dX11_rule_29 : decode cX11_rule 29 = .ok (.aload_n 0, 1) := by decide +kernel
theorem dX11_rule_30 : decode cX11_rule 30 = .ok (.getfield 40, 3) := by decide +kernel
theorem dX11_rule_33 : decode cX11_rule 33 = .ok (.invokevirtual 134, 3) := by decide +kernel
theorem dX11_rule_36 : decode cX11_rule 36 = .ok (.iload_n 1, 1) := by decide +kernel
theorem dX11_rule_37 : decode cX11_rule 37 = .ok (.ireturn, 1) := by decide +kernel
theorem dX11_run_0 : decode cX11_run 0 = .ok (.iload_n 1, 1) := by decide +kernel
theorem dX11_run_1 : decode cX11_run 1 = .ok (.ifCond .lt 9, 3) := by decide +kernel
theorem dX11_run_4 : decode cX11_run 4 = .ok (.iload_n 1, 1) := by decide +kernel
theorem dX11_run_5 : decode cX11_run 5 = .ok (.bipush 99, 2) := by decide +kernel
theorem dX11_run_7 : decode cX11_run 7 = .ok (.if_icmp .le 5, 3) := by decide +kernel
theorem dX11_run_10 : decode cX11_run 10 = .ok (.iconst (-1), 1) := by decide +kernel
theorem dX11_run_11 : decode cX11_run 11 = .ok (.ireturn, 1) := by decide +kernel
theorem dX11_run_12 : decode cX11_run 12 = .ok (.iload_n 1, 1) := by decide +kernel
theorem dX11_run_13 : decode cX11_run 13 = .ok (.ifCond .le 14, 3) := by decide +kernel
theorem dX11_run_16 : decode cX11_run 16 = .ok (.aload_n 0, 1) := by decide +kernel
theorem dX11_run_17 : decode cX11_run 17 = .ok (.getfield 63, 3) := by decide +kernel
theorem dX11_run_20 : decode cX11_run 20 = .ok (.aload_n 0, 1) := by decide +kernel
theorem dX11_run_21 : decode cX11_run 21 = .ok (.getfield 53, 3) := by decide +kernel
theorem dX11_run_24 : decode cX11_run 24 = .ok (.invokevirtual 204, 3) := by decide +kernel
theorem dX11_run_27 : decode cX11_run 27 = .ok (.aload_n 0, 1) := by decide +kernel
theorem dX11_run_28 : decode cX11_run 28 = .ok (.getfield 53, 3) := by decide +kernel
theorem dX11_run_31 : decode cX11_run 31 = .ok (.getfield 247, 3) := by decide +kernel
theorem dX11_run_34 : decode cX11_run 34 = .ok (.istore_n 2, 1) := by decide +kernel
theorem dX11_run_35 : decode cX11_run 35 = .ok (.aload_n 0, 1) := by decide +kernel
theorem dX11_run_36 : decode cX11_run 36 = .ok (.getfield 53, 3) := by decide +kernel
theorem dX11_run_39 : decode cX11_run 39 = .ok (.getfield 250, 3) := by decide +kernel
theorem dX11_run_42 : decode cX11_run 42 = .ok (.istore_n 3, 1) := by decide +kernel
theorem dX11_run_43 : decode cX11_run 43 = .ok (.aload_n 0, 1) := by decide +kernel
theorem dX11_run_44 : decode cX11_run 44 = .ok (.iload_n 1, 1) := by decide +kernel
theorem dX11_run_45 : decode cX11_run 45 = .ok (.invokevirtual 253, 3) := by decide +kernel
theorem dX11_run_48 : decode cX11_run 48 = .ok (.aload_n 0, 1) := by decide +kernel
theorem dX11_run_49 : decode cX11_run 49 = .ok (.getfield 53, 3) := by decide +kernel
theorem dX11_run_52 : decode cX11_run 52 = .ok (.getfield 247, 3) := by decide +kernel
theorem dX11_run_55 : decode cX11_run 55 = .ok (.iload_n 2, 1) := by decide +kernel
theorem dX11_run_56 : decode cX11_run 56 = .ok (.iconst (-1), 1) := by decide +kernel
theorem dX11_run_57 : decode cX11_run 57 = .ok (.ixor, 1) := by decide +kernel
theorem dX11_run_58 : decode cX11_run 58 = .ok (.iand, 1) := by decide +kernel
theorem dX11_run_59 : decode cX11_run 59 = .ok (.istore 4, 2) := by decide +kernel
theorem dX11_run_61 : decode cX11_run 61 = .ok (.aload_n 0, 1) := by decide +kernel
theorem dX11_run_62 : decode cX11_run 62 = .ok (.getfield 81, 3) := by decide +kernel
theorem dX11_run_65 : decode cX11_run 65 = .ok (.iload 4, 2) := by decide +kernel
theorem dX11_run_67 : decode cX11_run 67 = .ok (.i2l, 1) := by decide +kernel
theorem dX11_run_68 : decode cX11_run 68 = .ok (.aload_n 0, 1) := by decide +kernel
theorem dX11_run_69 : decode cX11_run 69 = .ok (.getfield 53, 3) := by decide +kernel
theorem dX11_run_72 : decode cX11_run 72 = .ok (.getfield 250, 3) := by decide +kernel
theorem dX11_run_75 : decode cX11_run 75 = .ok (.iload_n 3, 1) := by decide +kernel
theorem dX11_run_76 : decode cX11_run 76 = .ok (.iconst (-1), 1) := by decide +kernel
theorem dX11_run_77 : decode cX11_run 77 = .ok (.ixor, 1) := by decide +kernel
theorem dX11_run_78 : decode cX11_run 78 = .ok (.iand, 1) := by decide +kernel
theorem dX11_run_79 : decode cX11_run 79 = .ok (.i2l, 1) := by decide +kernel
theorem dX11_run_80 : decode cX11_run 80 = .ok (.invokevirtual 257, 3) := by decide +kernel
theorem dX11_run_83 : decode cX11_run 83 = .ok (.iload 4, 2) := by decide +kernel
theorem dX11_run_85 : decode cX11_run 85 = .ok (.invokestatic 261, 3) := by decide +kernel
theorem dX11_run_88 : decode cX11_run 88 = .ok (.ireturn, 1) := by decide +kernel
theorem dX11_sail_0 : decode cX11_sail 0 = .ok (.aload_n 0, 1) := by decide +kernel
theorem dX11_sail_1 : decode cX11_sail 1 = .ok (.getfield 19, 3) := by decide +kernel
theorem dX11_sail_4 : decode cX11_sail 4 = .ok (.iload_n 1, 1) := by decide +kernel
theorem dX11_sail_5 : decode cX11_sail 5 = .ok (.invokevirtual 137, 3) := by decide +kernel
theorem dX11_sail_8 : decode cX11_sail 8 = .ok (.ifCond .eq 31, 3) := by decide +kernel
theorem dX11_sail_11 : decode cX11_sail 11 = .ok (.iload_n 2, 1) := by decide +kernel
theorem dX11_sail_12 : decode cX11_sail 12 = .ok (.iload_n 3, 1) := by decide +kernel
theorem dX11_sail_13 : decode cX11_sail 13 = .ok (.invokestatic 227, 3) := by decide +kernel
theorem dX11_sail_16 : decode cX11_sail 16 = .ok (.ifCond .eq 23, 3) := by decide +kernel
theorem dX11_sail_19 : decode cX11_sail 19 = .ok (.iload 4, 2) := by decide +kernel
theorem dX11_sail_21 : decode cX11_sail 21 = .ok (.invokestatic 231, 3) := by decide +kernel
theorem dX11_sail_24 : decode cX11_sail 24 = .ok (.ifCond .eq 15, 3) := by decide +kernel
theorem dX11_sail_27 : decode cX11_sail 27 = .ok (.aload_n 0, 1) := by decide +kernel
theorem dX11_sail_28 : decode cX11_sail 28 = .ok (.getfield 19, 3) := by decide +kernel
theorem dX11_sail_31 : decode cX11_sail 31 = .ok (.iload 5, 2) := by decide +kernel
theorem dX11_sail_33 : decode cX11_sail 33 = .ok (.invokevirtual 234, 3) := by decide +kernel
theorem dX11_sail_36 : decode cX11_sail 36 = .ok (.ifCond .ne 5, 3) := by decide +kernel
theorem dX11_sail_39 : decode cX11_sail 39 = .ok (.iconst (-1), 1) := by decide +kernel
theorem dX11_sail_40 : decode cX11_sail 40 = .ok (.ireturn, 1) := by decide +kernel
theorem dX11_sail_41 : decode cX11_sail 41 = .ok (.aload_n 0, 1) := by decide +kernel
theorem dX11_sail_42 : decode cX11_sail 42 = .ok (.iload_n 1, 1) := by decide +kernel
theorem dX11_sail_43 : decode cX11_sail 43 = .ok (.iload_n 2, 1) := by decide +kernel
theorem dX11_sail_44 : decode cX11_sail 44 = .ok (.iload_n 3, 1) := by decide +kernel
theorem dX11_sail_45 : decode cX11_sail 45 = .ok (.iload 4, 2) := by decide +kernel
theorem dX11_sail_47 : decode cX11_sail 47 = .ok (.invokevirtual 313, 3) := by decide +kernel
theorem dX11_sail_50 : decode cX11_sail 50 = .ok (.istore 6, 2) := by decide +kernel
theorem dX11_sail_52 : decode cX11_sail 52 = .ok (.iload 6, 2) := by decide +kernel
theorem dX11_sail_54 : decode cX11_sail 54 = .ok (.iload 5, 2) := by decide +kernel
theorem dX11_sail_56 : decode cX11_sail 56 = .ok (.invokestatic 317, 3) := by decide +kernel
theorem dX11_sail_59 : decode cX11_sail 59 = .ok (.ifCond .eq 11, 3) := by decide +kernel
theorem dX11_sail_62 : decode cX11_sail 62 = .ok (.iload 6, 2) := by decide +kernel
theorem dX11_sail_64 : decode cX11_sail 64 = .ok (.invokestatic 320, 3) := by decide +kernel
theorem dX11_sail_67 : decode cX11_sail 67 = .ok (.goto 5, 3) := by decide +kernel
theorem dX11_sail_70 : decode cX11_sail 70 = .ok (.bipush (-2), 2) := by decide +kernel
theorem dX11_sail_72 : decode cX11_sail 72 = .ok (.ireturn, 1) := by decide +kernel
theorem dX11_save_0 : decode cX11_save 0 = .ok (.iload_n 1, 1) := by decide +kernel
theorem dX11_save_1 : decode cX11_save 1 = .ok (.ifCond .lt 16, 3) := by decide +kernel
theorem dX11_save_4 : decode cX11_save 4 = .ok (.iload_n 1, 1) := by decide +kernel
theorem dX11_save_5 : decode cX11_save 5 = .ok (.iconst 1, 1) := by decide +kernel
theorem dX11_save_6 : decode cX11_save 6 = .ok (.aload_n 0, 1) := by decide +kernel
theorem dX11_save_7 : decode cX11_save 7 = .ok (.getfield 53, 3) := by decide +kernel
theorem dX11_save_10 : decode cX11_save 10 = .ok (.getfield 208, 3) := by decide +kernel
theorem dX11_save_13 : decode cX11_save 13 = .ok (.ishl, 1) := by decide +kernel
theorem dX11_save_14 : decode cX11_save 14 = .ok (.if_icmp .lt 5, 3) := by decide +kernel
theorem dX11_save_17 : decode cX11_save 17 = .ok (.iconst (-1), 1) := by decide +kernel
theorem dX11_save_18 : decode cX11_save 18 = .ok (.ireturn, 1) := by decide +kernel
theorem dX11_save_19 : decode cX11_save 19 = .ok (.aload_n 0, 1) := by decide +kernel
theorem dX11_save_20 : decode cX11_save 20 = .ok (.getfield 99, 3) := by decide +kernel
theorem dX11_save_23 : decode cX11_save 23 = .ok (.aload_n 0, 1) := by decide +kernel
theorem dX11_save_24 : decode cX11_save 24 = .ok (.getfield 53, 3) := by decide +kernel
theorem dX11_save_27 : decode cX11_save 27 = .ok (.iload_n 1, 1) := by decide +kernel
theorem dX11_save_28 : decode cX11_save 28 = .ok (.iconst 0, 1) := by decide +kernel
theorem dX11_save_29 : decode cX11_save 29 = .ok (.invokevirtual 343, 3) := by decide +kernel
theorem dX11_save_32 : decode cX11_save 32 = .ok (.aload_n 0, 1) := by decide +kernel
theorem dX11_save_33 : decode cX11_save 33 = .ok (.iconst (-1), 1) := by decide +kernel
theorem dX11_save_34 : decode cX11_save 34 = .ok (.invokevirtual 347, 3) := by decide +kernel
theorem dX11_save_37 : decode cX11_save 37 = .ok (.ireturn, 1) := by decide +kernel
theorem dX11_sheet_0 : decode cX11_sheet 0 = .ok (.iload_n 1, 1) := by decide +kernel
theorem dX11_sheet_1 : decode cX11_sheet 1 = .ok (.ifCond .lt 14, 3) := by decide +kernel
theorem dX11_sheet_4 : decode cX11_sheet 4 = .ok (.iload_n 1, 1) := by decide +kernel
theorem dX11_sheet_5 : decode cX11_sheet 5 = .ok (.iconst 3, 1) := by decide +kernel
theorem dX11_sheet_6 : decode cX11_sheet 6 = .ok (.if_icmp .gt 9, 3) := by decide +kernel
theorem dX11_sheet_9 : decode cX11_sheet 9 = .ok (.iload_n 2, 1) := by decide +kernel
theorem dX11_sheet_10 : decode cX11_sheet 10 = .ok (.bipush 6, 2) := by decide +kernel
theorem dX11_sheet_12 : decode cX11_sheet 12 = .ok (.if_icmp .le 5, 3) := by decide +kernel
theorem dX11_sheet_15 : decode cX11_sheet 15 = .ok (.iconst (-1), 1) := by decide +kernel
theorem dX11_sheet_16 : decode cX11_sheet 16 = .ok (.ireturn, 1) := by decide +kernel
theorem dX11_sheet_17 : decode cX11_sheet 17 = .ok (.iload_n 1, 1) := by decide +kernel
theorem dX11_sheet_18 : decode cX11_sheet 18 = .ok (.iconst 3, 1) := by decide +kernel
theorem dX11_sheet_19 : decode cX11_sheet 19 = .ok (.if_icmp .ne 7, 3) := by decide +kernel
theorem dX11_sheet_22 : decode cX11_sheet 22 = .ok (.iconst 1, 1) := by decide +kernel
theorem dX11_sheet_23 : decode cX11_sheet 23 = .ok (.goto 4, 3) := by decide +kernel
theorem dX11_sheet_26 : decode cX11_sheet 26 = .ok (.iconst 0, 1) := by decide +kernel
theorem dX11_sheet_27 : decode cX11_sheet 27 = .ok (.istore 5, 2) := by decide +kernel
theorem dX11_sheet_29 : decode cX11_sheet 29 = .ok (.iload 5, 2) := by decide +kernel
theorem dX11_sheet_31 : decode cX11_sheet 31 = .ok (.ifCond .ne 10, 3) := by decide +kernel
theorem dX11_sheet_34 : decode cX11_sheet 34 = .ok (.iload_n 2, 1) := by decide +kernel
theorem dX11_sheet_35 : decode cX11_sheet 35 = .ok (.ifCond .ge 6, 3) := by decide +kernel
theorem dX11_sheet_38 : decode cX11_sheet 38 = .ok (.bipush (-2), 2) := by decide +kernel
theorem dX11_sheet_40 : decode cX11_sheet 40 = .ok (.ireturn, 1) := by decide +kernel
theorem dX11_sheet_41 : decode cX11_sheet 41 = .ok (.iconst 0, 1) := by decide +kernel
theorem dX11_sheet_42 : decode cX11_sheet 42 = .ok (.istore 6, 2) := by decide +kernel
theorem dX11_sheet_44 : decode cX11_sheet 44 = .ok (.iconst 0, 1) := by decide +kernel
theorem dX11_sheet_45 : decode cX11_sheet 45 = .ok (.istore 7, 2) := by decide +kernel
theorem dX11_sheet_47 : decode cX11_sheet 47 = .ok (.iload 7, 2) := by decide +kernel
theorem dX11_sheet_49 : decode cX11_sheet 49 = .ok (.aload_n 0, 1) := by decide +kernel
theorem dX11_sheet_50 : decode cX11_sheet 50 = .ok (.getfield 53, 3) := by decide +kernel
theorem dX11_sheet_53 : decode cX11_sheet 53 = .ok (.getfield 208, 3) := by decide +kernel
theorem dX11_sheet_56 : decode cX11_sheet 56 = .ok (.if_icmp .ge 55, 3) := by decide +kernel
theorem dX11_sheet_59 : decode cX11_sheet 59 = .ok (.iload 5, 2) := by decide +kernel
theorem dX11_sheet_61 : decode cX11_sheet 61 = .ok (.ifCond .ne 9, 3) := by decide +kernel
theorem dX11_sheet_64 : decode cX11_sheet 64 = .ok (.iload 7, 2) := by decide +kernel
theorem dX11_sheet_66 : decode cX11_sheet 66 = .ok (.iload_n 2, 1) := by decide +kernel
theorem dX11_sheet_67 : decode cX11_sheet 67 = .ok (.if_icmp .lt 7, 3) := by decide +kernel
theorem dX11_sheet_70 : decode cX11_sheet 70 = .ok (.iconst 0, 1) := by decide +kernel
theorem dX11_sheet_71 : decode cX11_sheet 71 = .ok (.goto 14, 3) := by decide +kernel
theorem dX11_sheet_74 : decode cX11_sheet 74 = .ok (.iload_n 1, 1) := by decide +kernel
theorem dX11_sheet_75 : decode cX11_sheet 75 = .ok (.iload_n 3, 1) := by decide +kernel
theorem dX11_sheet_76 : decode cX11_sheet 76 = .ok (.iload 7, 2) := by decide +kernel
theorem dX11_sheet_78 : decode cX11_sheet 78 = .ok (.iload 4, 2) := by decide +kernel
theorem dX11_sheet_80 : decode cX11_sheet 80 = .ok (.imul, 1) := by decide +kernel
theorem dX11_sheet_81 : decode cX11_sheet 81 = .ok (.iadd, 1) := by decide +kernel
theorem dX11_sheet_82 : decode cX11_sheet 82 = .ok (.invokestatic 211, 3) := by decide +kernel
theorem dX11_sheet_85 : decode cX11_sheet 85 = .ok (.istore 8, 2) := by decide +kernel
theorem dX11_sheet_87 : decode cX11_sheet 87 = .ok (.aload_n 0, 1) := by decide +kernel
theorem dX11_sheet_88 : decode cX11_sheet 88 = .ok (.getfield 53, 3) := by decide +kernel
theorem dX11_sheet_91 : decode cX11_sheet 91 = .ok (.iload 7, 2) := by decide +kernel
theorem dX11_sheet_93 : decode cX11_sheet 93 = .ok (.iload 8, 2) := by decide +kernel
theorem dX11_sheet_95 : decode cX11_sheet 95 = .ok (.invokevirtual 215, 3) := by decide +kernel
theorem dX11_sheet_98 : decode cX11_sheet 98 = .ok (.iload 6, 2) := by decide +kernel
theorem dX11_sheet_100 : decode cX11_sheet 100 = .ok (.iload 8, 2) := by decide +kernel
theorem dX11_sheet_102 : decode cX11_sheet 102 = .ok (.iadd, 1) := by decide +kernel
theorem dX11_sheet_103 : decode cX11_sheet 103 = .ok (.istore 6, 2) := by decide +kernel
theorem dX11_sheet_105 : decode cX11_sheet 105 = .ok (.iinc 7 1, 3) := by decide +kernel
theorem dX11_sheet_108 : decode cX11_sheet 108 = .ok (.goto (-61), 3) := by decide +kernel
theorem dX11_sheet_111 : decode cX11_sheet 111 = .ok (.iload 5, 2) := by decide +kernel
theorem dX11_sheet_113 : decode cX11_sheet 113 = .ok (.ifCond .eq 8, 3) := by decide +kernel
theorem dX11_sheet_116 : decode cX11_sheet 116 = .ok (.bipush (-3), 2) := by decide +kernel
theorem dX11_sheet_118 : decode cX11_sheet 118 = .ok (.goto 5, 3) := by decide +kernel
theorem dX11_sheet_121 : decode cX11_sheet 121 = .ok (.iload 6, 2) := by decide +kernel
theorem dX11_sheet_123 : decode cX11_sheet 123 = .ok (.ireturn, 1) := by decide +kernel
theorem dX11_sign_0 : decode cX11_sign 0 = .ok (.aload_n 0, 1) := by decide +kernel
theorem dX11_sign_1 : decode cX11_sign 1 = .ok (.getfield 12, 3) := by decide +kernel
theorem dX11_sign_4 : decode cX11_sign 4 = .ok (.iload_n 1, 1) := by decide +kernel
theorem dX11_sign_5 : decode cX11_sign 5 = .ok (.invokevirtual 103, 3) := by decide +kernel
theorem dX11_sign_8 : decode cX11_sign 8 = .ok (.ifCond .eq 13, 3) := by decide +kernel
theorem dX11_sign_11 : decode cX11_sign 11 = .ok (.aload_n 0, 1) := by decide +kernel
theorem dX11_sign_12 : decode cX11_sign 12 = .ok (.getfield 12, 3) := by decide +kernel
theorem dX11_sign_15 : decode cX11_sign 15 = .ok (.getfield 107, 3) := by decide +kernel
theorem dX11_sign_18 : decode cX11_sign 18 = .ok (.goto 4, 3) := by decide +kernel
theorem dX11_sign_21 : decode cX11_sign 21 = .ok (.iconst (-1), 1) := by decide +kernel
theorem dX11_sign_22 : decode cX11_sign 22 = .ok (.ireturn, 1) := by decide +kernel
theorem dX11_soonest_0 : decode cX11_soonest 0 = .ok (.iload_n 1, 1) := by decide +kernel
theorem dX11_soonest_1 : decode cX11_soonest 1 = .ok (.iload_n 2, 1) := by decide +kernel
theorem dX11_soonest_2 : decode cX11_soonest 2 = .ok (.invokestatic 227, 3) := by decide +kernel
theorem dX11_soonest_5 : decode cX11_soonest 5 = .ok (.ifCond .eq 14, 3) := by decide +kernel
theorem dX11_soonest_8 : decode cX11_soonest 8 = .ok (.aload_n 0, 1) := by decide +kernel
theorem dX11_soonest_9 : decode cX11_soonest 9 = .ok (.getfield 19, 3) := by decide +kernel
theorem dX11_soonest_12 : decode cX11_soonest 12 = .ok (.iload_n 3, 1) := by decide +kernel
theorem dX11_soonest_13 : decode cX11_soonest 13 = .ok (.invokevirtual 234, 3) := by decide +kernel
theorem dX11_soonest_16 : decode cX11_soonest 16 = .ok (.ifCond .ne 5, 3) := by decide +kernel
theorem dX11_soonest_19 : decode cX11_soonest 19 = .ok (.iconst (-1), 1) := by decide +kernel
theorem dX11_soonest_20 : decode cX11_soonest 20 = .ok (.ireturn, 1) := by decide +kernel
theorem dX11_soonest_21 : decode cX11_soonest 21 = .ok (.sipush 301, 3) := by decide +kernel
theorem dX11_soonest_24 : decode cX11_soonest 24 = .ok (.istore 4, 2) := by decide +kernel
theorem dX11_soonest_26 : decode cX11_soonest 26 = .ok (.iconst (-1), 1) := by decide +kernel
theorem dX11_soonest_27 : decode cX11_soonest 27 = .ok (.istore 5, 2) := by decide +kernel
theorem dX11_soonest_29 : decode cX11_soonest 29 = .ok (.iconst (-1), 1) := by decide +kernel
theorem dX11_soonest_30 : decode cX11_soonest 30 = .ok (.istore 6, 2) := by decide +kernel
theorem dX11_soonest_32 : decode cX11_soonest 32 = .ok (.iconst 0, 1) := by decide +kernel
theorem dX11_soonest_33 : decode cX11_soonest 33 = .ok (.istore 7, 2) := by decide +kernel
theorem dX11_soonest_35 : decode cX11_soonest 35 = .ok (.iload 7, 2) := by decide +kernel
theorem dX11_soonest_37 : decode cX11_soonest 37 = .ok (.aload_n 0, 1) := by decide +kernel
theorem dX11_soonest_38 : decode cX11_soonest 38 = .ok (.getfield 19, 3) := by decide +kernel
theorem dX11_soonest_41 : decode cX11_soonest 41 = .ok (.getfield 323, 3) := by decide +kernel
theorem dX11_soonest_44 : decode cX11_soonest 44 = .ok (.if_icmp .ge 84, 3) := by decide +kernel
theorem dX11_soonest_47 : decode cX11_soonest 47 = .ok (.iconst 0, 1) := by decide +kernel
theorem dX11_soonest_48 : decode cX11_soonest 48 = .ok (.istore 8, 2) := by decide +kernel
theorem dX11_soonest_50 : decode cX11_soonest 50 = .ok (.iload 8, 2) := by decide +kernel
theorem dX11_soonest_52 : decode cX11_soonest 52 = .ok (.bipush 30, 2) := by decide +kernel
theorem dX11_soonest_54 : decode cX11_soonest 54 = .ok (.if_icmp .gt 68, 3) := by decide +kernel
theorem dX11_soonest_57 : decode cX11_soonest 57 = .ok (.iload 8, 2) := by decide +kernel
theorem dX11_soonest_59 : decode cX11_soonest 59 = .ok (.iload 4, 2) := by decide +kernel
theorem dX11_soonest_61 : decode cX11_soonest 61 = .ok (.if_icmp .ge 61, 3) := by decide +kernel
theorem dX11_soonest_64 : decode cX11_soonest 64 = .ok (.iload 7, 2) := by decide +kernel
theorem dX11_soonest_66 : decode cX11_soonest 66 = .ok (.iload_n 3, 1) := by decide +kernel
theorem dX11_soonest_67 : decode cX11_soonest 67 = .ok (.if_icmp .eq 55, 3) := by decide +kernel
theorem dX11_soonest_70 : decode cX11_soonest 70 = .ok (.aload_n 0, 1) := by decide +kernel
theorem dX11_soonest_71 : decode cX11_soonest 71 = .ok (.iload 7, 2) := by decide +kernel
theorem dX11_soonest_73 : decode cX11_soonest 73 = .ok (.iload_n 1, 1) := by decide +kernel
theorem dX11_soonest_74 : decode cX11_soonest 74 = .ok (.iload_n 2, 1) := by decide +kernel
theorem dX11_soonest_75 : decode cX11_soonest 75 = .ok (.iload 8, 2) := by decide +kernel
theorem dX11_soonest_77 : decode cX11_soonest 77 = .ok (.invokevirtual 313, 3) := by decide +kernel
theorem dX11_soonest_80 : decode cX11_soonest 80 = .ok (.istore 9, 2) := by decide +kernel
theorem dX11_soonest_82 : decode cX11_soonest 82 = .ok (.iload 9, 2) := by decide +kernel
theorem dX11_soonest_84 : decode cX11_soonest 84 = .ok (.iload_n 3, 1) := by decide +kernel
theorem dX11_soonest_85 : decode cX11_soonest 85 = .ok (.invokestatic 317, 3) := by decide +kernel
theorem dX11_soonest_88 : decode cX11_soonest 88 = .ok (.ifCond .eq 28, 3) := by decide +kernel
theorem dX11_soonest_91 : decode cX11_soonest 91 = .ok (.iload 9, 2) := by decide +kernel
theorem dX11_soonest_93 : decode cX11_soonest 93 = .ok (.invokestatic 320, 3) := by decide +kernel
theorem dX11_soonest_96 : decode cX11_soonest 96 = .ok (.iload 4, 2) := by decide +kernel
theorem dX11_soonest_98 : decode cX11_soonest 98 = .ok (.if_icmp .ge 18, 3) := by decide +kernel
theorem dX11_soonest_101 : decode cX11_soonest 101 = .ok (.iload 9, 2) := by decide +kernel
theorem dX11_soonest_103 : decode cX11_soonest 103 = .ok (.invokestatic 320, 3) := by decide +kernel
theorem dX11_soonest_106 : decode cX11_soonest 106 = .ok (.istore 4, 2) := by decide +kernel
theorem dX11_soonest_108 : decode cX11_soonest 108 = .ok (.iload 7, 2) := by decide +kernel
theorem dX11_soonest_110 : decode cX11_soonest 110 = .ok (.istore 5, 2) := by decide +kernel
theorem dX11_soonest_112 : decode cX11_soonest 112 = .ok (.iload 8, 2) := by decide +kernel
theorem dX11_soonest_114 : decode cX11_soonest 114 = .ok (.istore 6, 2) := by decide +kernel
theorem dX11_soonest_116 : decode cX11_soonest 116 = .ok (.iinc 8 1, 3) := by decide +kernel
theorem dX11_soonest_119 : decode cX11_soonest 119 = .ok (.goto (-69), 3) := by decide +kernel
theorem dX11_soonest_122 : decode cX11_soonest 122 = .ok (.iinc 7 1, 3) := by decide +kernel
theorem dX11_soonest_125 : decode cX11_soonest 125 = .ok (.goto (-90), 3) := by decide +kernel
theorem dX11_soonest_128 : decode cX11_soonest 128 = .ok (.iload 5, 2) := by decide +kernel
theorem dX11_soonest_130 : decode cX11_soonest 130 = .ok (.iconst (-1), 1) := by decide +kernel
theorem dX11_soonest_131 : decode cX11_soonest 131 = .ok (.if_icmp .ne 6, 3) := by decide +kernel
theorem dX11_soonest_134 : decode cX11_soonest 134 = .ok (.bipush (-2), 2) := by decide +kernel
theorem dX11_soonest_136 : decode cX11_soonest 136 = .ok (.ireturn, 1) := by decide +kernel
theorem dX11_soonest_137 : decode cX11_soonest 137 = .ok (.aload_n 0, 1) := by decide +kernel
theorem dX11_soonest_138 : decode cX11_soonest 138 = .ok (.getfield 81, 3) := by decide +kernel
theorem dX11_soonest_141 : decode cX11_soonest 141 = .ok (.iload 5, 2) := by decide +kernel
theorem dX11_soonest_143 : decode cX11_soonest 143 = .ok (.i2l, 1) := by decide +kernel
theorem dX11_soonest_144 : decode cX11_soonest 144 = .ok (.iload 6, 2) := by decide +kernel
theorem dX11_soonest_146 : decode cX11_soonest 146 = .ok (.i2l, 1) := by decide +kernel
theorem dX11_soonest_147 : decode cX11_soonest 147 = .ok (.invokevirtual 257, 3) := by decide +kernel
theorem dX11_soonest_150 : decode cX11_soonest 150 = .ok (.iload 4, 2) := by decide +kernel
theorem dX11_soonest_152 : decode cX11_soonest 152 = .ok (.ireturn, 1) := by decide +kernel
theorem dX11_steer_0 : decode cX11_steer 0 = .ok (.aload_n 0, 1) := by decide +kernel
theorem dX11_steer_1 : decode cX11_steer 1 = .ok (.getfield 53, 3) := by decide +kernel
theorem dX11_steer_4 : decode cX11_steer 4 = .ok (.iload_n 1, 1) := by decide +kernel
theorem dX11_steer_5 : decode cX11_steer 5 = .ok (.invokevirtual 172, 3) := by decide +kernel
theorem dX11_steer_8 : decode cX11_steer 8 = .ok (.ifCond .eq 14, 3) := by decide +kernel
theorem dX11_steer_11 : decode cX11_steer 11 = .ok (.aload_n 0, 1) := by decide +kernel
theorem dX11_steer_12 : decode cX11_steer 12 = .ok (.getfield 19, 3) := by decide +kernel
theorem dX11_steer_15 : decode cX11_steer 15 = .ok (.iload_n 2, 1) := by decide +kernel
theorem dX11_steer_16 : decode cX11_steer 16 = .ok (.invokevirtual 234, 3) := by decide +kernel
theorem dX11_steer_19 : decode cX11_steer 19 = .ok (.ifCond .ne 5, 3) := by decide +kernel
theorem dX11_steer_22 : decode cX11_steer 22 = .ok (.iconst (-1), 1) := by decide +kernel
theorem dX11_steer_23 : decode cX11_steer 23 = .ok (.ireturn, 1) := by decide +kernel
theorem dX11_steer_24 : decode cX11_steer 24 = .ok (.aload_n 0, 1) := by decide +kernel
theorem dX11_steer_25 : decode cX11_steer 25 = .ok (.getfield 99, 3) := by decide +kernel
theorem dX11_steer_28 : decode cX11_steer 28 = .ok (.aload_n 0, 1) := by decide +kernel
theorem dX11_steer_29 : decode cX11_steer 29 = .ok (.getfield 53, 3) := by decide +kernel
theorem dX11_steer_32 : decode cX11_steer 32 = .ok (.iconst 1, 1) := by decide +kernel
theorem dX11_steer_33 : decode cX11_steer 33 = .ok (.iload_n 1, 1) := by decide +kernel
theorem dX11_steer_34 : decode cX11_steer 34 = .ok (.ishl, 1) := by decide +kernel
theorem dX11_steer_35 : decode cX11_steer 35 = .ok (.iload_n 1, 1) := by decide +kernel
theorem dX11_steer_36 : decode cX11_steer 36 = .ok (.invokevirtual 343, 3) := by decide +kernel
theorem dX11_steer_39 : decode cX11_steer 39 = .ok (.aload_n 0, 1) := by decide +kernel
theorem dX11_steer_40 : decode cX11_steer 40 = .ok (.iload_n 2, 1) := by decide +kernel
theorem dX11_steer_41 : decode cX11_steer 41 = .ok (.invokevirtual 347, 3) := by decide +kernel
theorem dX11_steer_44 : decode cX11_steer 44 = .ok (.ireturn, 1) := by decide +kernel
theorem dX11_town_0 : decode cX11_town 0 = .ok (.aload_n 0, 1) := by decide +kernel
theorem dX11_town_1 : decode cX11_town 1 = .ok (.getfield 23, 3) := by decide +kernel
theorem dX11_town_4 : decode cX11_town 4 = .ok (.aload_n 0, 1) := by decide +kernel
theorem dX11_town_5 : decode cX11_town 5 = .ok (.getfield 12, 3) := by decide +kernel
theorem dX11_town_8 : decode cX11_town 8 = .ok (.invokevirtual 114, 3) := by decide +kernel
theorem dX11_town_11 : decode cX11_town 11 = .ok (.istore_n 1, 1) := by decide +kernel
theorem dX11_town_12 : decode cX11_town 12 = .ok (.aload_n 0, 1) := by decide +kernel
theorem dX11_town_13 : decode cX11_town 13 = .ok (.getfield 12, 3) := by decide +kernel
theorem dX11_town_16 : decode cX11_town 16 = .ok (.iconst 0, 1) := by decide +kernel
theorem dX11_town_17 : decode cX11_town 17 = .ok (.invokevirtual 111, 3) := by decide +kernel
theorem dX11_town_20 : decode cX11_town 20 = .ok (.pop, 1) := by decide +kernel
theorem dX11_town_21 : decode cX11_town 21 = .ok (.iload_n 1, 1) := by decide +kernel
theorem dX11_town_22 : decode cX11_town 22 = .ok (.ifCond .ge 5, 3) := by decide +kernel
theorem dX11_town_25 : decode cX11_town 25 = .ok (.iload_n 1, 1) := by decide +kernel
theorem dX11_town_26 : decode cX11_town 26 = .ok (.ireturn, 1) := by decide +kernel
theorem dX11_town_27 : decode cX11_town 27 = .ok (.aload_n 0, 1) := by decide +kernel
theorem dX11_town_28 : decode cX11_town 28 = .ok (.getfield 19, 3) := by decide +kernel
theorem dX11_town_31 : decode cX11_town 31 = .ok (.aload_n 0, 1) := by decide +kernel
theorem dX11_town_32 : decode cX11_town 32 = .ok (.getfield 23, 3) := by decide +kernel
theorem dX11_town_35 : decode cX11_town 35 = .ok (.invokevirtual 118, 3) := by decide +kernel
theorem dX11_town_38 : decode cX11_town 38 = .ok (.aload_n 0, 1) := by decide +kernel
theorem dX11_town_39 : decode cX11_town 39 = .ok (.getfield 53, 3) := by decide +kernel
theorem dX11_town_42 : decode cX11_town 42 = .ok (.invokevirtual 122, 3) := by decide +kernel
theorem dX11_town_45 : decode cX11_town 45 = .ok (.aload_n 0, 1) := by decide +kernel
theorem dX11_town_46 : decode cX11_town 46 = .ok (.getfield 63, 3) := by decide +kernel
theorem dX11_town_49 : decode cX11_town 49 = .ok (.invokevirtual 125, 3) := by decide +kernel
theorem dX11_town_52 : decode cX11_town 52 = .ok (.aload_n 0, 1) := by decide +kernel
theorem dX11_town_53 : decode cX11_town 53 = .ok (.getfield 74, 3) := by decide +kernel
theorem dX11_town_56 : decode cX11_town 56 = .ok (.iconst 0, 1) := by decide +kernel
theorem dX11_town_57 : decode cX11_town 57 = .ok (.putfield 126, 3) := by decide +kernel
theorem dX11_town_60 : decode cX11_town 60 = .ok (.aload_n 0, 1) := by decide +kernel
theorem dX11_town_61 : decode cX11_town 61 = .ok (.iconst 0, 1) := by decide +kernel
theorem dX11_town_62 : decode cX11_town 62 = .ok (.putfield 129, 3) := by decide +kernel
theorem dX11_town_65 : decode cX11_town 65 = .ok (.iload_n 1, 1) := by decide +kernel
theorem dX11_town_66 : decode cX11_town 66 = .ok (.ireturn, 1) := by decide +kernel
theorem dX11_undo_0 : decode cX11_undo 0 = .ok (.aload_n 0, 1) := by decide +kernel
theorem dX11_undo_1 : decode cX11_undo 1 = .ok (.getfield 63, 3) := by decide +kernel
theorem dX11_undo_4 : decode cX11_undo 4 = .ok (.aload_n 0, 1) := by decide +kernel
theorem dX11_undo_5 : decode cX11_undo 5 = .ok (.getfield 53, 3) := by decide +kernel
theorem dX11_undo_8 : decode cX11_undo 8 = .ok (.invokevirtual 283, 3) := by decide +kernel
theorem dX11_undo_11 : decode cX11_undo 11 = .ok (.ifCond .eq 13, 3) := by decide +kernel
theorem dX11_undo_14 : decode cX11_undo 14 = .ok (.aload_n 0, 1) := by decide +kernel
theorem dX11_undo_15 : decode cX11_undo 15 = .ok (.getfield 63, 3) := by decide +kernel
theorem dX11_undo_18 : decode cX11_undo 18 = .ok (.getfield 287, 3) := by decide +kernel
theorem dX11_undo_21 : decode cX11_undo 21 = .ok (.goto 4, 3) := by decide +kernel
theorem dX11_undo_24 : decode cX11_undo 24 = .ok (.iconst (-1), 1) := by decide +kernel
theorem dX11_undo_25 : decode cX11_undo 25 = .ok (.ireturn, 1) := by decide +kernel
theorem dX11_waits_0 : decode cX11_waits 0 = .ok (.aload_n 0, 1) := by decide +kernel
theorem dX11_waits_1 : decode cX11_waits 1 = .ok (.getfield 19, 3) := by decide +kernel
theorem dX11_waits_4 : decode cX11_waits 4 = .ok (.iload_n 1, 1) := by decide +kernel
theorem dX11_waits_5 : decode cX11_waits 5 = .ok (.invokevirtual 137, 3) := by decide +kernel
theorem dX11_waits_8 : decode cX11_waits 8 = .ok (.ifCond .eq 23, 3) := by decide +kernel
theorem dX11_waits_11 : decode cX11_waits 11 = .ok (.iload_n 2, 1) := by decide +kernel
theorem dX11_waits_12 : decode cX11_waits 12 = .ok (.iload_n 3, 1) := by decide +kernel
theorem dX11_waits_13 : decode cX11_waits 13 = .ok (.invokestatic 227, 3) := by decide +kernel
theorem dX11_waits_16 : decode cX11_waits 16 = .ok (.ifCond .eq 15, 3) := by decide +kernel
theorem dX11_waits_19 : decode cX11_waits 19 = .ok (.aload_n 0, 1) := by decide +kernel
theorem dX11_waits_20 : decode cX11_waits 20 = .ok (.getfield 19, 3) := by decide +kernel
theorem dX11_waits_23 : decode cX11_waits 23 = .ok (.iload 4, 2) := by decide +kernel
theorem dX11_waits_25 : decode cX11_waits 25 = .ok (.invokevirtual 234, 3) := by decide +kernel
theorem dX11_waits_28 : decode cX11_waits 28 = .ok (.ifCond .ne 5, 3) := by decide +kernel
theorem dX11_waits_31 : decode cX11_waits 31 = .ok (.iconst (-1), 1) := by decide +kernel
theorem dX11_waits_32 : decode cX11_waits 32 = .ok (.ireturn, 1) := by decide +kernel
theorem dX11_waits_33 : decode cX11_waits 33 = .ok (.iconst 0, 1) := by decide +kernel
theorem dX11_waits_34 : decode cX11_waits 34 = .ok (.istore 5, 2) := by decide +kernel
theorem dX11_waits_36 : decode cX11_waits 36 = .ok (.iconst (-1), 1) := by decide +kernel
theorem dX11_waits_37 : decode cX11_waits 37 = .ok (.istore 6, 2) := by decide +kernel
theorem dX11_waits_39 : decode cX11_waits 39 = .ok (.iconst (-1), 1) := by decide +kernel
theorem dX11_waits_40 : decode cX11_waits 40 = .ok (.istore 7, 2) := by decide +kernel
theorem dX11_waits_42 : decode cX11_waits 42 = .ok (.iconst 0, 1) := by decide +kernel
theorem dX11_waits_43 : decode cX11_waits 43 = .ok (.istore 8, 2) := by decide +kernel
theorem dX11_waits_45 : decode cX11_waits 45 = .ok (.iload 8, 2) := by decide +kernel
theorem dX11_waits_47 : decode cX11_waits 47 = .ok (.bipush 30, 2) := by decide +kernel
theorem dX11_waits_49 : decode cX11_waits 49 = .ok (.if_icmp .ge 77, 3) := by decide +kernel
theorem dX11_waits_52 : decode cX11_waits 52 = .ok (.aload_n 0, 1) := by decide +kernel
theorem dX11_waits_53 : decode cX11_waits 53 = .ok (.iload_n 1, 1) := by decide +kernel
theorem dX11_waits_54 : decode cX11_waits 54 = .ok (.iload_n 2, 1) := by decide +kernel
theorem dX11_waits_55 : decode cX11_waits 55 = .ok (.iload_n 3, 1) := by decide +kernel
theorem dX11_waits_56 : decode cX11_waits 56 = .ok (.iload 8, 2) := by decide +kernel
theorem dX11_waits_58 : decode cX11_waits 58 = .ok (.invokevirtual 313, 3) := by decide +kernel
theorem dX11_waits_61 : decode cX11_waits 61 = .ok (.istore 9, 2) := by decide +kernel
theorem dX11_waits_63 : decode cX11_waits 63 = .ok (.iload 9, 2) := by decide +kernel
theorem dX11_waits_65 : decode cX11_waits 65 = .ok (.iload 4, 2) := by decide +kernel
theorem dX11_waits_67 : decode cX11_waits 67 = .ok (.invokestatic 317, 3) := by decide +kernel
theorem dX11_waits_70 : decode cX11_waits 70 = .ok (.ifCond .ne 6, 3) := by decide +kernel
theorem dX11_waits_73 : decode cX11_waits 73 = .ok (.goto 47, 3) := by decide +kernel
theorem dX11_waits_76 : decode cX11_waits 76 = .ok (.iload 5, 2) := by decide +kernel
theorem dX11_waits_78 : decode cX11_waits 78 = .ok (.iconst 1, 1) := by decide +kernel
theorem dX11_waits_79 : decode cX11_waits 79 = .ok (.iload 8, 2) := by decide +kernel
theorem dX11_waits_81 : decode cX11_waits 81 = .ok (.ishl, 1) := by decide +kernel
theorem dX11_waits_82 : decode cX11_waits 82 = .ok (.ior, 1) := by decide +kernel
theorem dX11_waits_83 : decode cX11_waits 83 = .ok (.istore 5, 2) := by decide +kernel
theorem dX11_waits_85 : decode cX11_waits 85 = .ok (.iconst 0, 1) := by decide +kernel
theorem dX11_waits_86 : decode cX11_waits 86 = .ok (.iload 9, 2) := by decide +kernel
theorem dX11_waits_88 : decode cX11_waits 88 = .ok (.invokestatic 320, 3) := by decide +kernel
theorem dX11_waits_91 : decode cX11_waits 91 = .ok (.iload 8, 2) := by decide +kernel
theorem dX11_waits_93 : decode cX11_waits 93 = .ok (.isub, 1) := by decide +kernel
theorem dX11_waits_94 : decode cX11_waits 94 = .ok (.invokestatic 224, 3) := by decide +kernel
theorem dX11_waits_97 : decode cX11_waits 97 = .ok (.istore 10, 2) := by decide +kernel
theorem dX11_waits_99 : decode cX11_waits 99 = .ok (.iload 6, 2) := by decide +kernel
theorem dX11_waits_101 : decode cX11_waits 101 = .ok (.iconst (-1), 1) := by decide +kernel
theorem dX11_waits_102 : decode cX11_waits 102 = .ok (.if_icmp .eq 10, 3) := by decide +kernel
theorem dX11_waits_105 : decode cX11_waits 105 = .ok (.iload 10, 2) := by decide +kernel
theorem dX11_waits_107 : decode cX11_waits 107 = .ok (.iload 7, 2) := by decide +kernel
theorem dX11_waits_109 : decode cX11_waits 109 = .ok (.if_icmp .ge 11, 3) := by decide +kernel
theorem dX11_waits_112 : decode cX11_waits 112 = .ok (.iload 8, 2) := by decide +kernel
theorem dX11_waits_114 : decode cX11_waits 114 = .ok (.istore 6, 2) := by decide +kernel
theorem dX11_waits_116 : decode cX11_waits 116 = .ok (.iload 10, 2) := by decide +kernel
theorem dX11_waits_118 : decode cX11_waits 118 = .ok (.istore 7, 2) := by decide +kernel
theorem dX11_waits_120 : decode cX11_waits 120 = .ok (.iinc 8 1, 3) := by decide +kernel
theorem dX11_waits_123 : decode cX11_waits 123 = .ok (.goto (-78), 3) := by decide +kernel
theorem dX11_waits_126 : decode cX11_waits 126 = .ok (.aload_n 0, 1) := by decide +kernel
theorem dX11_waits_127 : decode cX11_waits 127 = .ok (.getfield 81, 3) := by decide +kernel
theorem dX11_waits_130 : decode cX11_waits 130 = .ok (.iload 6, 2) := by decide +kernel
theorem dX11_waits_132 : decode cX11_waits 132 = .ok (.i2l, 1) := by decide +kernel
theorem dX11_waits_133 : decode cX11_waits 133 = .ok (.iload 7, 2) := by decide +kernel
theorem dX11_waits_135 : decode cX11_waits 135 = .ok (.i2l, 1) := by decide +kernel
theorem dX11_waits_136 : decode cX11_waits 136 = .ok (.invokevirtual 257, 3) := by decide +kernel
theorem dX11_waits_139 : decode cX11_waits 139 = .ok (.iload 5, 2) := by decide +kernel
theorem dX11_waits_141 : decode cX11_waits 141 = .ok (.ireturn, 1) := by decide +kernel
theorem dX3_pop_0 : decode cX3_pop 0 = .ok (.aload_n 0, 1) := by decide +kernel
theorem dX3_pop_1 : decode cX3_pop 1 = .ok (.getfield 20, 3) := by decide +kernel
theorem dX3_pop_4 : decode cX3_pop 4 = .ok (.ifCond .le 12, 3) := by decide +kernel
theorem dX3_pop_7 : decode cX3_pop 7 = .ok (.aload_n 0, 1) := by decide +kernel
theorem dX3_pop_8 : decode cX3_pop 8 = .ok (.getfield 20, 3) := by decide +kernel
theorem dX3_pop_11 : decode cX3_pop 11 = .ok (.iconst 1, 1) := by decide +kernel
theorem dX3_pop_12 : decode cX3_pop 12 = .ok (.isub, 1) := by decide +kernel
theorem dX3_pop_13 : decode cX3_pop 13 = .ok (.goto 5, 3) := by decide +kernel
theorem dX3_pop_16 : decode cX3_pop 16 = .ok (.bipush 14, 2) := by decide +kernel
theorem dX3_pop_18 : decode cX3_pop 18 = .ok (.istore_n 2, 1) := by decide +kernel
theorem dX3_pop_19 : decode cX3_pop 19 = .ok (.aload_n 0, 1) := by decide +kernel
theorem dX3_pop_20 : decode cX3_pop 20 = .ok (.getfield 16, 3) := by decide +kernel
theorem dX3_pop_23 : decode cX3_pop 23 = .ok (.ifCond .le 9, 3) := by decide +kernel
theorem dX3_pop_26 : decode cX3_pop 26 = .ok (.iload_n 2, 1) := by decide +kernel
theorem dX3_pop_27 : decode cX3_pop 27 = .ok (.bipush 15, 2) := by decide +kernel
theorem dX3_pop_29 : decode cX3_pop 29 = .ok (.if_icmp .lt 5, 3) := by decide +kernel
theorem dX3_pop_32 : decode cX3_pop 32 = .ok (.iconst 0, 1) := by decide +kernel
theorem dX3_pop_33 : decode cX3_pop 33 = .ok (.ireturn, 1) := by decide +kernel
theorem dX3_pop_34 : decode cX3_pop 34 = .ok (.aload_n 1, 1) := by decide +kernel
theorem dX3_pop_35 : decode cX3_pop 35 = .ok (.aload_n 0, 1) := by decide +kernel
theorem dX3_pop_36 : decode cX3_pop 36 = .ok (.getfield 11, 3) := by decide +kernel
theorem dX3_pop_39 : decode cX3_pop 39 = .ok (.iload_n 2, 1) := by decide +kernel
theorem dX3_pop_40 : decode cX3_pop 40 = .ok (.aaload, 1) := by decide +kernel
theorem dX3_pop_41 : decode cX3_pop 41 = .ok (.invokevirtual 23, 3) := by decide +kernel
theorem dX3_pop_44 : decode cX3_pop 44 = .ok (.aload_n 0, 1) := by decide +kernel
theorem dX3_pop_45 : decode cX3_pop 45 = .ok (.iload_n 2, 1) := by decide +kernel
theorem dX3_pop_46 : decode cX3_pop 46 = .ok (.putfield 20, 3) := by decide +kernel
theorem dX3_pop_49 : decode cX3_pop 49 = .ok (.aload_n 0, 1) := by decide +kernel
theorem dX3_pop_50 : decode cX3_pop 50 = .ok (.dup, 1) := by decide +kernel
theorem dX3_pop_51 : decode cX3_pop 51 = .ok (.getfield 16, 3) := by decide +kernel
theorem dX3_pop_54 : decode cX3_pop 54 = .ok (.iconst 1, 1) := by decide +kernel
theorem dX3_pop_55 : decode cX3_pop 55 = .ok (.isub, 1) := by decide +kernel
theorem dX3_pop_56 : decode cX3_pop 56 = .ok (.putfield 16, 3) := by decide +kernel
theorem dX3_pop_59 : decode cX3_pop 59 = .ok (.iconst 1, 1) := by decide +kernel
theorem dX3_pop_60 : decode cX3_pop 60 = .ok (.ireturn, 1) := by decide +kernel
theorem dX5_close_0 : decode cX5_close 0 = .ok (.aload_n 0, 1) := by decide +kernel
theorem dX5_close_1 : decode cX5_close 1 = .ok (.getfield 63, 3) := by decide +kernel
theorem dX5_close_4 : decode cX5_close 4 = .ok (.ifCond .gt 5, 3) := by decide +kernel
theorem dX5_close_7 : decode cX5_close 7 = .ok (.iconst 0, 1) := by decide +kernel
theorem dX5_close_8 : decode cX5_close 8 = .ok (.ireturn, 1) := by decide +kernel
theorem dX5_close_9 : decode cX5_close 9 = .ok (.aload_n 0, 1) := by decide +kernel
theorem dX5_close_10 : decode cX5_close 10 = .ok (.iconst 0, 1) := by decide +kernel
theorem dX5_close_11 : decode cX5_close 11 = .ok (.invokevirtual 72, 3) := by decide +kernel
theorem dX5_close_14 : decode cX5_close 14 = .ok (.aload_n 0, 1) := by decide +kernel
theorem dX5_close_15 : decode cX5_close 15 = .ok (.iconst 0, 1) := by decide +kernel
theorem dX5_close_16 : decode cX5_close 16 = .ok (.aload_n 0, 1) := by decide +kernel
theorem dX5_close_17 : decode cX5_close 17 = .ok (.getfield 60, 3) := by decide +kernel
theorem dX5_close_20 : decode cX5_close 20 = .ok (.iconst 1, 1) := by decide +kernel
theorem dX5_close_21 : decode cX5_close 21 = .ok (.isub, 1) := by decide +kernel
theorem dX5_close_22 : decode cX5_close 22 = .ok (.invokestatic 106, 3) := by decide +kernel
theorem dX5_close_25 : decode cX5_close 25 = .ok (.putfield 60, 3) := by decide +kernel
theorem dX5_close_28 : decode cX5_close 28 = .ok (.aload_n 0, 1) := by decide +kernel
theorem dX5_close_29 : decode cX5_close 29 = .ok (.dup, 1) := by decide +kernel
theorem dX5_close_30 : decode cX5_close 30 = .ok (.getfield 63, 3) := by decide +kernel
theorem dX5_close_33 : decode cX5_close 33 = .ok (.iconst 1, 1) := by decide +kernel
theorem dX5_close_34 : decode cX5_close 34 = .ok (.isub, 1) := by decide +kernel
theorem dX5_close_35 : decode cX5_close 35 = .ok (.putfield 63, 3) := by decide +kernel
theorem dX5_close_38 : decode cX5_close 38 = .ok (.aload_n 0, 1) := by decide +kernel
theorem dX5_close_39 : decode cX5_close 39 = .ok (.iconst 3, 1) := by decide +kernel
theorem dX5_close_40 : decode cX5_close 40 = .ok (.putfield 69, 3) := by decide +kernel
theorem dX5_close_43 : decode cX5_close 43 = .ok (.iconst 1, 1) := by decide +kernel
theorem dX5_close_44 : decode cX5_close 44 = .ok (.ireturn, 1) := by decide +kernel
theorem dX5_copy_0 : decode cX5_copy 0 = .ok (.aload_n 0, 1) := by decide +kernel
theorem dX5_copy_1 : decode cX5_copy 1 = .ok (.aload_n 1, 1) := by decide +kernel
theorem dX5_copy_2 : decode cX5_copy 2 = .ok (.getfield 19, 3) := by decide +kernel
theorem dX5_copy_5 : decode cX5_copy 5 = .ok (.putfield 19, 3) := by decide +kernel
theorem dX5_copy_8 : decode cX5_copy 8 = .ok (.aload_n 0, 1) := by decide +kernel
theorem dX5_copy_9 : decode cX5_copy 9 = .ok (.aload_n 1, 1) := by decide +kernel
theorem dX5_copy_10 : decode cX5_copy 10 = .ok (.getfield 23, 3) := by decide +kernel
theorem dX5_copy_13 : decode cX5_copy 13 = .ok (.putfield 23, 3) := by decide +kernel
theorem dX5_copy_16 : decode cX5_copy 16 = .ok (.aload_n 0, 1) := by decide +kernel
theorem dX5_copy_17 : decode cX5_copy 17 = .ok (.aload_n 1, 1) := by decide +kernel
theorem dX5_copy_18 : decode cX5_copy 18 = .ok (.getfield 27, 3) := by decide +kernel
theorem dX5_copy_21 : decode cX5_copy 21 = .ok (.putfield 27, 3) := by decide +kernel
theorem dX5_copy_24 : decode cX5_copy 24 = .ok (.iconst 0, 1) := by decide +kernel
theorem dX5_copy_25 : decode cX5_copy 25 = .ok (.istore_n 2, 1) := by decide +kernel
theorem dX5_copy_26 : decode cX5_copy 26 = .ok (.iload_n 2, 1) := by decide +kernel
theorem dX5_copy_27 : decode cX5_copy 27 = .ok (.bipush 40, 2) := by decide +kernel
theorem dX5_copy_29 : decode cX5_copy 29 = .ok (.if_icmp .ge 21, 3) := by decide +kernel
theorem dX5_copy_32 : decode cX5_copy 32 = .ok (.aload_n 0, 1) := by decide +kernel
theorem dX5_copy_33 : decode cX5_copy 33 = .ok (.getfield 9, 3) := by decide +kernel
theorem dX5_copy_36 : decode cX5_copy 36 = .ok (.iload_n 2, 1) := by decide +kernel
theorem dX5_copy_37 : decode cX5_copy 37 = .ok (.aload_n 1, 1) := by decide +kernel
theorem dX5_copy_38 : decode cX5_copy 38 = .ok (.getfield 9, 3) := by decide +kernel
theorem dX5_copy_41 : decode cX5_copy 41 = .ok (.iload_n 2, 1) := by decide +kernel
theorem dX5_copy_42 : decode cX5_copy 42 = .ok (.iaload, 1) := by decide +kernel
theorem dX5_copy_43 : decode cX5_copy 43 = .ok (.iastore, 1) := by decide +kernel
theorem dX5_copy_44 : decode cX5_copy 44 = .ok (.iinc 2 1, 3) := by decide +kernel
theorem dX5_copy_47 : decode cX5_copy 47 = .ok (.goto (-21), 3) := by decide +kernel
theorem dX5_copy_50 : decode cX5_copy 50 = .ok (.return_, 1) := by decide +kernel
theorem dX5_lengthenNumber_0 : decode cX5_lengthenNumber 0 = .ok (.aload_n 0, 1) := by decide +kernel
theorem dX5_lengthenNumber_1 : decode cX5_lengthenNumber 1 = .ok (.getfield 69, 3) := by decide +kernel
theorem dX5_lengthenNumber_4 : decode cX5_lengthenNumber 4 = .ok (.iconst 3, 1) := by decide +kernel
theorem dX5_lengthenNumber_5 : decode cX5_lengthenNumber 5 = .ok (.if_icmp .ge 20, 3) := by decide +kernel
theorem dX5_lengthenNumber_8 : decode cX5_lengthenNumber 8 = .ok (.aload_n 0, 1) := by decide +kernel
theorem dX5_lengthenNumber_9 : decode cX5_lengthenNumber 9 = .ok (.getfield 19, 3) := by decide +kernel
theorem dX5_lengthenNumber_12 : decode cX5_lengthenNumber 12 = .ok (.iconst 1, 1) := by decide +kernel
theorem dX5_lengthenNumber_13 : decode cX5_lengthenNumber 13 = .ok (.if_icmp .lt 12, 3) := by decide +kernel
theorem dX5_lengthenNumber_16 : decode cX5_lengthenNumber 16 = .ok (.aload_n 0, 1) := by decide +kernel
theorem dX5_lengthenNumber_17 : decode cX5_lengthenNumber 17 = .ok (.getfield 19, 3) := by decide +kernel
theorem dX5_lengthenNumber_20 : decode cX5_lengthenNumber 20 = .ok (.bipush 40, 2) := by decide +kernel
theorem dX5_lengthenNumber_22 : decode cX5_lengthenNumber 22 = .ok (.if_icmp .le 5, 3) := by decide +kernel
theorem dX5_lengthenNumber_25 : decode cX5_lengthenNumber 25 = .ok (.iconst 0, 1) := by decide +kernel
theorem dX5_lengthenNumber_26 : decode cX5_lengthenNumber 26 = .ok (.ireturn, 1) := by decide +kernel
theorem dX5_lengthenNumber_27 : decode cX5_lengthenNumber 27 = .ok (.aload_n 0, 1) := by decide +kernel
theorem dX5_lengthenNumber_28 : decode cX5_lengthenNumber 28 = .ok (.getfield 9, 3) := by decide +kernel
theorem dX5_lengthenNumber_31 : decode cX5_lengthenNumber 31 = .ok (.aload_n 0, 1) := by decide +kernel
theorem dX5_lengthenNumber_32 : decode cX5_lengthenNumber 32 = .ok (.getfield 19, 3) := by decide +kernel
theorem dX5_lengthenNumber_35 : decode cX5_lengthenNumber 35 = .ok (.iconst 1, 1) := by decide +kernel
theorem dX5_lengthenNumber_36 : decode cX5_lengthenNumber 36 = .ok (.isub, 1) := by decide +kernel
theorem dX5_lengthenNumber_37 : decode cX5_lengthenNumber 37 = .ok (.iaload, 1) := by decide +kernel
theorem dX5_lengthenNumber_38 : decode cX5_lengthenNumber 38 = .ok (.bipush 32, 2) := by decide +kernel
theorem dX5_lengthenNumber_40 : decode cX5_lengthenNumber 40 = .ok (.isub, 1) := by decide +kernel
theorem dX5_lengthenNumber_41 : decode cX5_lengthenNumber 41 = .ok (.istore_n 2, 1) := by decide +kernel
theorem dX5_lengthenNumber_42 : decode cX5_lengthenNumber 42 = .ok (.aload_n 0, 1) := by decide +kernel
theorem dX5_lengthenNumber_43 : decode cX5_lengthenNumber 43 = .ok (.getfield 9, 3) := by decide +kernel
theorem dX5_lengthenNumber_46 : decode cX5_lengthenNumber 46 = .ok (.aload_n 0, 1) := by decide +kernel
theorem dX5_lengthenNumber_47 : decode cX5_lengthenNumber 47 = .ok (.getfield 19, 3) := by decide +kernel
theorem dX5_lengthenNumber_50 : decode cX5_lengthenNumber 50 = .ok (.iconst 1, 1) := by decide +kernel
theorem dX5_lengthenNumber_51 : decode cX5_lengthenNumber 51 = .ok (.isub, 1) := by decide +kernel
theorem dX5_lengthenNumber_52 : decode cX5_lengthenNumber 52 = .ok (.bipush 32, 2) := by decide +kernel
theorem dX5_lengthenNumber_54 : decode cX5_lengthenNumber 54 = .ok (.bipush 10, 2) := by decide +kernel
theorem dX5_lengthenNumber_56 : decode cX5_lengthenNumber 56 = .ok (.iload_n 2, 1) := by decide +kernel
theorem dX5_lengthenNumber_57 : decode cX5_lengthenNumber 57 = .ok (.imul, 1) := by decide +kernel
theorem dX5_lengthenNumber_58 : decode cX5_lengthenNumber 58 = .ok (.iadd, 1) := by decide +kernel
theorem dX5_lengthenNumber_59 : decode cX5_lengthenNumber 59 = .ok (.iload_n 1, 1) := by decide +kernel
theorem dX5_lengthenNumber_60 : decode cX5_lengthenNumber 60 = .ok (.iadd, 1) := by decide +kernel
theorem dX5_lengthenNumber_61 : decode cX5_lengthenNumber 61 = .ok (.iastore, 1) := by decide +kernel
theorem dX5_lengthenNumber_62 : decode cX5_lengthenNumber 62 = .ok (.aload_n 0, 1) := by decide +kernel
theorem dX5_lengthenNumber_63 : decode cX5_lengthenNumber 63 = .ok (.dup, 1) := by decide +kernel
theorem dX5_lengthenNumber_64 : decode cX5_lengthenNumber 64 = .ok (.getfield 69, 3) := by decide +kernel
theorem dX5_lengthenNumber_67 : decode cX5_lengthenNumber 67 = .ok (.iconst 1, 1) := by decide +kernel
theorem dX5_lengthenNumber_68 : decode cX5_lengthenNumber 68 = .ok (.iadd, 1) := by decide +kernel
theorem dX5_lengthenNumber_69 : decode cX5_lengthenNumber 69 = .ok (.putfield 69, 3) := by decide +kernel
theorem dX5_lengthenNumber_72 : decode cX5_lengthenNumber 72 = .ok (.iconst 1, 1) := by decide +kernel
theorem dX5_lengthenNumber_73 : decode cX5_lengthenNumber 73 = .ok (.ireturn, 1) := by decide +kernel
theorem dX5_read_0 : decode cX5_read 0 = .ok (.aload_n 0, 1) := by decide +kernel
theorem dX5_read_1 : decode cX5_read 1 = .ok (.invokevirtual 30, 3) := by decide +kernel
theorem dX5_read_4 : decode cX5_read 4 = .ok (.aload_n 1, 1) := by decide +kernel
theorem dX5_read_5 : decode cX5_read 5 = .ok (.bipush 40, 2) := by decide +kernel
theorem dX5_read_7 : decode cX5_read 7 = .ok (.invokevirtual 33, 3) := by decide +kernel
theorem dX5_read_10 : decode cX5_read 10 = .ok (.aload_n 1, 1) := by decide +kernel
theorem dX5_read_11 : decode cX5_read 11 = .ok (.iconst 0, 1) := by decide +kernel
theorem dX5_read_12 : decode cX5_read 12 = .ok (.invokevirtual 39, 3) := by decide +kernel
theorem dX5_read_15 : decode cX5_read 15 = .ok (.ifCond .eq 10, 3) := by decide +kernel
theorem dX5_read_18 : decode cX5_read 18 = .ok (.aload_n 0, 1) := by decide +kernel
theorem dX5_read_19 : decode cX5_read 19 = .ok (.iconst 0, 1) := by decide +kernel
theorem dX5_read_20 : decode cX5_read 20 = .ok (.invokevirtual 43, 3) := by decide +kernel
theorem dX5_read_23 : decode cX5_read 23 = .ok (.iconst 0, 1) := by decide +kernel
theorem dX5_read_24 : decode cX5_read 24 = .ok (.ireturn, 1) := by decide +kernel
theorem dX5_read_25 : decode cX5_read 25 = .ok (.iconst 0, 1) := by decide +kernel
theorem dX5_read_26 : decode cX5_read 26 = .ok (.istore_n 2, 1) := by decide +kernel
theorem dX5_read_27 : decode cX5_read 27 = .ok (.iload_n 2, 1) := by decide +kernel
theorem dX5_read_28 : decode cX5_read 28 = .ok (.bipush 40, 2) := by decide +kernel
theorem dX5_read_30 : decode cX5_read 30 = .ok (.if_icmp .gt 54, 3) := by decide +kernel
theorem dX5_read_33 : decode cX5_read 33 = .ok (.aload_n 1, 1) := by decide +kernel
theorem dX5_read_34 : decode cX5_read 34 = .ok (.iload_n 2, 1) := by decide +kernel
theorem dX5_read_35 : decode cX5_read 35 = .ok (.invokevirtual 39, 3) := by decide +kernel
theorem dX5_read_38 : decode cX5_read 38 = .ok (.ifCond .eq 9, 3) := by decide +kernel
theorem dX5_read_41 : decode cX5_read 41 = .ok (.aload_n 0, 1) := by decide +kernel
theorem dX5_read_42 : decode cX5_read 42 = .ok (.iload_n 2, 1) := by decide +kernel
theorem dX5_read_43 : decode cX5_read 43 = .ok (.invokevirtual 46, 3) := by decide +kernel
theorem dX5_read_46 : decode cX5_read 46 = .ok (.ireturn, 1) := by decide +kernel
theorem dX5_read_47 : decode cX5_read 47 = .ok (.aload_n 0, 1) := by decide +kernel
theorem dX5_read_48 : decode cX5_read 48 = .ok (.getfield 50, 3) := by decide +kernel
theorem dX5_read_51 : decode cX5_read 51 = .ok (.ifCond .eq 12, 3) := by decide +kernel
theorem dX5_read_54 : decode cX5_read 54 = .ok (.aload_n 0, 1) := by decide +kernel
theorem dX5_read_55 : decode cX5_read 55 = .ok (.aload_n 1, 1) := by decide +kernel
theorem dX5_read_56 : decode cX5_read 56 = .ok (.iload_n 2, 1) := by decide +kernel
theorem dX5_read_57 : decode cX5_read 57 = .ok (.invokevirtual 53, 3) := by decide +kernel
theorem dX5_read_60 : decode cX5_read 60 = .ok (.goto 9, 3) := by decide +kernel
theorem dX5_read_63 : decode cX5_read 63 = .ok (.aload_n 0, 1) := by decide +kernel
theorem dX5_read_64 : decode cX5_read 64 = .ok (.aload_n 1, 1) := by decide +kernel
theorem dX5_read_65 : decode cX5_read 65 = .ok (.iload_n 2, 1) := by decide +kernel
theorem dX5_read_66 : decode cX5_read 66 = .ok (.invokevirtual 57, 3) := by decide +kernel
theorem dX5_read_69 : decode cX5_read 69 = .ok (.istore_n 3, 1) := by decide +kernel
theorem dX5_read_70 : decode cX5_read 70 = .ok (.iload_n 3, 1) := by decide +kernel
theorem dX5_read_71 : decode cX5_read 71 = .ok (.ifCond .ne 7, 3) := by decide +kernel
theorem dX5_read_74 : decode cX5_read 74 = .ok (.iconst (-1), 1) := by decide +kernel
theorem dX5_read_75 : decode cX5_read 75 = .ok (.iload_n 2, 1) := by decide +kernel
theorem dX5_read_76 : decode cX5_read 76 = .ok (.isub, 1) := by decide +kernel
theorem dX5_read_77 : decode cX5_read 77 = .ok (.ireturn, 1) := by decide +kernel
theorem dX5_read_78 : decode cX5_read 78 = .ok (.iinc 2 1, 3) := by decide +kernel
theorem dX5_read_81 : decode cX5_read 81 = .ok (.goto (-54), 3) := by decide +kernel
theorem dX5_read_84 : decode cX5_read 84 = .ok (.bipush (-41), 2) := by decide +kernel
theorem dX5_read_86 : decode cX5_read 86 = .ok (.ireturn, 1) := by decide +kernel
theorem dX5_takeBehindThing_0 : decode cX5_takeBehindThing 0 = .ok (.aload_n 1, 1) := by decide +kernel
theorem dX5_takeBehindThing_1 : decode cX5_takeBehindThing 1 = .ok (.iload_n 2, 1) := by decide +kernel
theorem dX5_takeBehindThing_2 : decode cX5_takeBehindThing 2 = .ok (.invokevirtual 81, 3) := by decide +kernel
theorem dX5_takeBehindThing_5 : decode cX5_takeBehindThing 5 = .ok (.istore_n 3, 1) := by decide +kernel
theorem dX5_takeBehindThing_6 : decode cX5_takeBehindThing 6 = .ok (.iload_n 3, 1) := by decide +kernel
theorem dX5_takeBehindThing_7 : decode cX5_takeBehindThing 7 = .ok (.ifCond .lt 9, 3) := by decide +kernel
theorem dX5_takeBehindThing_10 : decode cX5_takeBehindThing 10 = .ok (.aload_n 0, 1) := by decide +kernel
theorem dX5_takeBehindThing_11 : decode cX5_takeBehindThing 11 = .ok (.iload_n 3, 1) := by decide +kernel
theorem dX5_takeBehindThing_12 : decode cX5_takeBehindThing 12 = .ok (.invokevirtual 94, 3) := by decide +kernel
theorem dX5_takeBehindThing_15 : decode cX5_takeBehindThing 15 = .ok (.ireturn, 1) := by decide +kernel
theorem dX5_takeBehindThing_16 : decode cX5_takeBehindThing 16 = .ok (.aload_n 1, 1) := by decide +kernel
theorem dX5_takeBehindThing_17 : decode cX5_takeBehindThing 17 = .ok (.iload_n 2, 1) := by decide +kernel
theorem dX5_takeBehindThing_18 : decode cX5_takeBehindThing 18 = .ok (.bipush 41, 2) := by decide +kernel
theorem dX5_takeBehindThing_20 : decode cX5_takeBehindThing 20 = .ok (.invokevirtual 87, 3) := by decide +kernel
theorem dX5_takeBehindThing_23 : decode cX5_takeBehindThing 23 = .ok (.ifCond .eq 8, 3) := by decide +kernel
theorem dX5_takeBehindThing_26 : decode cX5_takeBehindThing 26 = .ok (.aload_n 0, 1) := by decide +kernel
theorem dX5_takeBehindThing_27 : decode cX5_takeBehindThing 27 = .ok (.invokevirtual 97, 3) := by decide +kernel
theorem dX5_takeBehindThing_30 : decode cX5_takeBehindThing 30 = .ok (.ireturn, 1) := by decide +kernel
theorem dX5_takeBehindThing_31 : decode cX5_takeBehindThing 31 = .ok (.aload_n 1, 1) := by decide +kernel
theorem dX5_takeBehindThing_32 : decode cX5_takeBehindThing 32 = .ok (.ldc 101, 2) := by decide +kernel
theorem dX5_takeBehindThing_34 : decode cX5_takeBehindThing 34 = .ok (.iload_n 2, 1) := by decide +kernel
theorem dX5_takeBehindThing_35 : decode cX5_takeBehindThing 35 = .ok (.invokevirtual 77, 3) := by decide +kernel
theorem dX5_takeBehindThing_38 : decode cX5_takeBehindThing 38 = .ok (.istore 4, 2) := by decide +kernel
theorem dX5_takeBehindThing_40 : decode cX5_takeBehindThing 40 = .ok (.iload 4, 2) := by decide +kernel
theorem dX5_takeBehindThing_42 : decode cX5_takeBehindThing 42 = .ok (.ifCond .ge 5, 3) := by decide +kernel
theorem dX5_takeBehindThing_45 : decode cX5_takeBehindThing 45 = .ok (.iconst 0, 1) := by decide +kernel
theorem dX5_takeBehindThing_46 : decode cX5_takeBehindThing 46 = .ok (.ireturn, 1) := by decide +kernel
theorem dX5_takeBehindThing_47 : decode cX5_takeBehindThing 47 = .ok (.bipush 9, 2) := by decide +kernel
theorem dX5_takeBehindThing_49 : decode cX5_takeBehindThing 49 = .ok (.iload 4, 2) := by decide +kernel
theorem dX5_takeBehindThing_51 : decode cX5_takeBehindThing 51 = .ok (.iadd, 1) := by decide +kernel
theorem dX5_takeBehindThing_52 : decode cX5_takeBehindThing 52 = .ok (.istore 5, 2) := by decide +kernel
theorem dX5_takeBehindThing_54 : decode cX5_takeBehindThing 54 = .ok (.iload 5, 2) := by decide +kernel
theorem dX5_takeBehindThing_56 : decode cX5_takeBehindThing 56 = .ok (.bipush 13, 2) := by decide +kernel
theorem dX5_takeBehindThing_58 : decode cX5_takeBehindThing 58 = .ok (.if_icmp .lt 34, 3) := by decide +kernel
theorem dX5_takeBehindThing_61 : decode cX5_takeBehindThing 61 = .ok (.aload_n 0, 1) := by decide +kernel
theorem dX5_takeBehindThing_62 : decode cX5_takeBehindThing 62 = .ok (.getfield 66, 3) := by decide +kernel
theorem dX5_takeBehindThing_65 : decode cX5_takeBehindThing 65 = .ok (.aload_n 0, 1) := by decide +kernel
theorem dX5_takeBehindThing_66 : decode cX5_takeBehindThing 66 = .ok (.getfield 63, 3) := by decide +kernel
theorem dX5_takeBehindThing_69 : decode cX5_takeBehindThing 69 = .ok (.ishr, 1) := by decide +kernel
theorem dX5_takeBehindThing_70 : decode cX5_takeBehindThing 70 = .ok (.iconst 1, 1) := by decide +kernel
theorem dX5_takeBehindThing_71 : decode cX5_takeBehindThing 71 = .ok (.iand, 1) := by decide +kernel
theorem dX5_takeBehindThing_72 : decode cX5_takeBehindThing 72 = .ok (.ifCond .eq 5, 3) := by decide +kernel
theorem dX5_takeBehindThing_75 : decode cX5_takeBehindThing 75 = .ok (.iconst 0, 1) := by decide +kernel
theorem dX5_takeBehindThing_76 : decode cX5_takeBehindThing 76 = .ok (.ireturn, 1) := by decide +kernel
theorem dX5_takeBehindThing_77 : decode cX5_takeBehindThing 77 = .ok (.aload_n 0, 1) := by decide +kernel
theorem dX5_takeBehindThing_78 : decode cX5_takeBehindThing 78 = .ok (.dup, 1) := by decide +kernel
theorem dX5_takeBehindThing_79 : decode cX5_takeBehindThing 79 = .ok (.getfield 66, 3) := by decide +kernel
theorem dX5_takeBehindThing_82 : decode cX5_takeBehindThing 82 = .ok (.iconst 1, 1) := by decide +kernel
theorem dX5_takeBehindThing_83 : decode cX5_takeBehindThing 83 = .ok (.aload_n 0, 1) := by decide +kernel
theorem dX5_takeBehindThing_84 : decode cX5_takeBehindThing 84 = .ok (.getfield 63, 3) := by decide +kernel
theorem dX5_takeBehindThing_87 : decode cX5_takeBehindThing 87 = .ok (.ishl, 1) := by decide +kernel
theorem dX5_takeBehindThing_88 : decode cX5_takeBehindThing 88 = .ok (.ior, 1) := by decide +kernel
theorem dX5_takeBehindThing_89 : decode cX5_takeBehindThing 89 = .ok (.putfield 66, 3) := by decide +kernel
theorem dX5_takeBehindThing_92 : decode cX5_takeBehindThing 92 = .ok (.aload_n 0, 1) := by decide +kernel
theorem dX5_takeBehindThing_93 : decode cX5_takeBehindThing 93 = .ok (.iload 5, 2) := by decide +kernel
theorem dX5_takeBehindThing_95 : decode cX5_takeBehindThing 95 = .ok (.invokestatic 103, 3) := by decide +kernel
theorem dX5_takeBehindThing_98 : decode cX5_takeBehindThing 98 = .ok (.invokevirtual 72, 3) := by decide +kernel
theorem dX5_takeBehindThing_101 : decode cX5_takeBehindThing 101 = .ok (.aload_n 0, 1) := by decide +kernel
theorem dX5_takeBehindThing_102 : decode cX5_takeBehindThing 102 = .ok (.iload 5, 2) := by decide +kernel
theorem dX5_takeBehindThing_104 : decode cX5_takeBehindThing 104 = .ok (.invokevirtual 91, 3) := by decide +kernel
theorem dX5_takeBehindThing_107 : decode cX5_takeBehindThing 107 = .ok (.aload_n 0, 1) := by decide +kernel
theorem dX5_takeBehindThing_108 : decode cX5_takeBehindThing 108 = .ok (.iconst 1, 1) := by decide +kernel
theorem dX5_takeBehindThing_109 : decode cX5_takeBehindThing 109 = .ok (.putfield 50, 3) := by decide +kernel
theorem dX5_takeBehindThing_112 : decode cX5_takeBehindThing 112 = .ok (.iconst 1, 1) := by decide +kernel
theorem dX5_takeBehindThing_113 : decode cX5_takeBehindThing 113 = .ok (.ireturn, 1) := by decide +kernel
theorem dX5_takeThing_0 : decode cX5_takeThing 0 = .ok (.aload_n 1, 1) := by decide +kernel
theorem dX5_takeThing_1 : decode cX5_takeThing 1 = .ok (.ldc 75, 2) := by decide +kernel
theorem dX5_takeThing_3 : decode cX5_takeThing 3 = .ok (.iload_n 2, 1) := by decide +kernel
theorem dX5_takeThing_4 : decode cX5_takeThing 4 = .ok (.invokevirtual 77, 3) := by decide +kernel
theorem dX5_takeThing_7 : decode cX5_takeThing 7 = .ok (.istore_n 3, 1) := by decide +kernel
theorem dX5_takeThing_8 : decode cX5_takeThing 8 = .ok (.aload_n 1, 1) := by decide +kernel
theorem dX5_takeThing_9 : decode cX5_takeThing 9 = .ok (.iload_n 2, 1) := by decide +kernel
theorem dX5_takeThing_10 : decode cX5_takeThing 10 = .ok (.invokevirtual 81, 3) := by decide +kernel
theorem dX5_takeThing_13 : decode cX5_takeThing 13 = .ok (.istore 4, 2) := by decide +kernel
theorem dX5_takeThing_15 : decode cX5_takeThing 15 = .ok (.iload_n 3, 1) := by decide +kernel
theorem dX5_takeThing_16 : decode cX5_takeThing 16 = .ok (.ifCond .lt 11, 3) := by decide +kernel
theorem dX5_takeThing_19 : decode cX5_takeThing 19 = .ok (.aload_n 0, 1) := by decide +kernel
theorem dX5_takeThing_20 : decode cX5_takeThing 20 = .ok (.iload_n 3, 1) := by decide +kernel
theorem dX5_takeThing_21 : decode cX5_takeThing 21 = .ok (.invokevirtual 43, 3) := by decide +kernel
theorem dX5_takeThing_24 : decode cX5_takeThing 24 = .ok (.goto 105, 3) := by decide +kernel
theorem dX5_takeThing_27 : decode cX5_takeThing 27 = .ok (.iload 4, 2) := by decide +kernel
theorem dX5_takeThing_29 : decode cX5_takeThing 29 = .ok (.ifCond .lt 25, 3) := by decide +kernel
theorem dX5_takeThing_32 : decode cX5_takeThing 32 = .ok (.aload_n 0, 1) := by decide +kernel
theorem dX5_takeThing_33 : decode cX5_takeThing 33 = .ok (.bipush 32, 2) := by decide +kernel
theorem dX5_takeThing_35 : decode cX5_takeThing 35 = .ok (.iload 4, 2) := by decide +kernel
theorem dX5_takeThing_37 : decode cX5_takeThing 37 = .ok (.iadd, 1) := by decide +kernel
theorem dX5_takeThing_38 : decode cX5_takeThing 38 = .ok (.invokevirtual 84, 3) := by decide +kernel
theorem dX5_takeThing_41 : decode cX5_takeThing 41 = .ok (.aload_n 0, 1) := by decide +kernel
theorem dX5_takeThing_42 : decode cX5_takeThing 42 = .ok (.iconst 1, 1) := by decide +kernel
theorem dX5_takeThing_43 : decode cX5_takeThing 43 = .ok (.putfield 69, 3) := by decide +kernel
theorem dX5_takeThing_46 : decode cX5_takeThing 46 = .ok (.aload_n 0, 1) := by decide +kernel
theorem dX5_takeThing_47 : decode cX5_takeThing 47 = .ok (.iconst 0, 1) := by decide +kernel
theorem dX5_takeThing_48 : decode cX5_takeThing 48 = .ok (.putfield 50, 3) := by decide +kernel
theorem dX5_takeThing_51 : decode cX5_takeThing 51 = .ok (.goto 78, 3) := by decide +kernel
theorem dX5_takeThing_54 : decode cX5_takeThing 54 = .ok (.aload_n 1, 1) := by decide +kernel
theorem dX5_takeThing_55 : decode cX5_takeThing 55 = .ok (.iload_n 2, 1) := by decide +kernel
theorem dX5_takeThing_56 : decode cX5_takeThing 56 = .ok (.bipush 45, 2) := by decide +kernel
theorem dX5_takeThing_58 : decode cX5_takeThing 58 = .ok (.invokevirtual 87, 3) := by decide +kernel
theorem dX5_takeThing_61 : decode cX5_takeThing 61 = .ok (.ifCond .eq 12, 3) := by decide +kernel
theorem dX5_takeThing_64 : decode cX5_takeThing 64 = .ok (.aload_n 0, 1) := by decide +kernel
theorem dX5_takeThing_65 : decode cX5_takeThing 65 = .ok (.bipush 8, 2) := by decide +kernel
theorem dX5_takeThing_67 : decode cX5_takeThing 67 = .ok (.invokevirtual 91, 3) := by decide +kernel
theorem dX5_takeThing_70 : decode cX5_takeThing 70 = .ok (.goto 59, 3) := by decide +kernel
theorem dX5_takeThing_73 : decode cX5_takeThing 73 = .ok (.aload_n 1, 1) := by decide +kernel
theorem dX5_takeThing_74 : decode cX5_takeThing 74 = .ok (.iload_n 2, 1) := by decide +kernel
theorem dX5_takeThing_75 : decode cX5_takeThing 75 = .ok (.bipush 40, 2) := by decide +kernel
theorem dX5_takeThing_77 : decode cX5_takeThing 77 = .ok (.invokevirtual 87, 3) := by decide +kernel
theorem dX5_takeThing_80 : decode cX5_takeThing 80 = .ok (.ifCond .eq 47, 3) := by decide +kernel
theorem dX5_takeThing_83 : decode cX5_takeThing 83 = .ok (.aload_n 0, 1) := by decide +kernel
theorem dX5_takeThing_84 : decode cX5_takeThing 84 = .ok (.getfield 63, 3) := by decide +kernel
theorem dX5_takeThing_87 : decode cX5_takeThing 87 = .ok (.iconst 4, 1) := by decide +kernel
theorem dX5_takeThing_88 : decode cX5_takeThing 88 = .ok (.if_icmp .ge 39, 3) := by decide +kernel
theorem dX5_takeThing_91 : decode cX5_takeThing 91 = .ok (.aload_n 0, 1) := by decide +kernel
theorem dX5_takeThing_92 : decode cX5_takeThing 92 = .ok (.dup, 1) := by decide +kernel
theorem dX5_takeThing_93 : decode cX5_takeThing 93 = .ok (.getfield 63, 3) := by decide +kernel
theorem dX5_takeThing_96 : decode cX5_takeThing 96 = .ok (.iconst 1, 1) := by decide +kernel
theorem dX5_takeThing_97 : decode cX5_takeThing 97 = .ok (.iadd, 1) := by decide +kernel
theorem dX5_takeThing_98 : decode cX5_takeThing 98 = .ok (.putfield 63, 3) := by decide +kernel
theorem dX5_takeThing_101 : decode cX5_takeThing 101 = .ok (.aload_n 0, 1) := by decide +kernel
theorem dX5_takeThing_102 : decode cX5_takeThing 102 = .ok (.dup, 1) := by decide +kernel
theorem dX5_takeThing_103 : decode cX5_takeThing 103 = .ok (.getfield 66, 3) := by decide +kernel
theorem dX5_takeThing_106 : decode cX5_takeThing 106 = .ok (.iconst 1, 1) := by decide +kernel
theorem dX5_takeThing_107 : decode cX5_takeThing 107 = .ok (.aload_n 0, 1) := by decide +kernel
theorem dX5_takeThing_108 : decode cX5_takeThing 108 = .ok (.getfield 63, 3) := by decide +kernel
theorem dX5_takeThing_111 : decode cX5_takeThing 111 = .ok (.ishl, 1) := by decide +kernel
theorem dX5_takeThing_112 : decode cX5_takeThing 112 = .ok (.iconst (-1), 1) := by decide +kernel
theorem dX5_takeThing_113 : decode cX5_takeThing 113 = .ok (.ixor, 1) := by decide +kernel
theorem dX5_takeThing_114 : decode cX5_takeThing 114 = .ok (.iand, 1) := by decide +kernel
theorem dX5_takeThing_115 : decode cX5_takeThing 115 = .ok (.putfield 66, 3) := by decide +kernel
theorem dX5_takeThing_118 : decode cX5_takeThing 118 = .ok (.aload_n 0, 1) := by decide +kernel
theorem dX5_takeThing_119 : decode cX5_takeThing 119 = .ok (.bipush 16, 2) := by decide +kernel
theorem dX5_takeThing_121 : decode cX5_takeThing 121 = .ok (.invokevirtual 91, 3) := by decide +kernel
theorem dX5_takeThing_124 : decode cX5_takeThing 124 = .ok (.goto 5, 3) := by decide +kernel
theorem dX5_takeThing_127 : decode cX5_takeThing 127 = .ok (.iconst 0, 1) := by decide +kernel
theorem dX5_takeThing_128 : decode cX5_takeThing 128 = .ok (.ireturn, 1) := by decide +kernel
theorem dX5_takeThing_129 : decode cX5_takeThing 129 = .ok (.iconst 1, 1) := by decide +kernel
theorem dX5_takeThing_130 : decode cX5_takeThing 130 = .ok (.ireturn, 1) := by decide +kernel
theorem dX7_addFour_0 : decode cX7_addFour 0 = .ok (.aload_n 0, 1) := by decide +kernel
theorem dX7_addFour_1 : decode cX7_addFour 1 = .ok (.getfield 15, 3) := by decide +kernel
theorem dX7_addFour_4 : decode cX7_addFour 4 = .ok (.ifCond .lt 12, 3) := by decide +kernel
theorem dX7_addFour_7 : decode cX7_addFour 7 = .ok (.aload_n 0, 1) := by decide +kernel
theorem dX7_addFour_8 : decode cX7_addFour 8 = .ok (.getfield 15, 3) := by decide +kernel
theorem dX7_addFour_11 : decode cX7_addFour 11 = .ok (.bipush 76, 2) := by decide +kernel
theorem dX7_addFour_13 : decode cX7_addFour 13 = .ok (.if_icmp .le 5, 3) := by decide +kernel
theorem dX7_addFour_16 : decode cX7_addFour 16 = .ok (.iconst 0, 1) := by decide +kernel
theorem dX7_addFour_17 : decode cX7_addFour 17 = .ok (.ireturn, 1) := by decide +kernel
theorem dX7_addFour_18 : decode cX7_addFour 18 = .ok (.aload_n 0, 1) := by decide +kernel
theorem dX7_addFour_19 : decode cX7_addFour 19 = .ok (.getfield 11, 3) := by decide +kernel
theorem dX7_addFour_22 : decode cX7_addFour 22 = .ok (.aload_n 0, 1) := by decide +kernel
theorem dX7_addFour_23 : decode cX7_addFour 23 = .ok (.getfield 15, 3) := by decide +kernel
theorem dX7_addFour_26 : decode cX7_addFour 26 = .ok (.iload_n 1, 1) := by decide +kernel
theorem dX7_addFour_27 : decode cX7_addFour 27 = .ok (.bipush 24, 2) := by decide +kernel
theorem dX7_addFour_29 : decode cX7_addFour 29 = .ok (.iushr, 1) := by decide +kernel
theorem dX7_addFour_30 : decode cX7_addFour 30 = .ok (.sipush 255, 3) := by decide +kernel
theorem dX7_addFour_33 : decode cX7_addFour 33 = .ok (.iand, 1) := by decide +kernel
theorem dX7_addFour_34 : decode cX7_addFour 34 = .ok (.iastore, 1) := by decide +kernel
theorem dX7_addFour_35 : decode cX7_addFour 35 = .ok (.aload_n 0, 1) := by decide +kernel
theorem dX7_addFour_36 : decode cX7_addFour 36 = .ok (.getfield 11, 3) := by decide +kernel
theorem dX7_addFour_39 : decode cX7_addFour 39 = .ok (.aload_n 0, 1) := by decide +kernel
theorem dX7_addFour_40 : decode cX7_addFour 40 = .ok (.getfield 15, 3) := by decide +kernel
theorem dX7_addFour_43 : decode cX7_addFour 43 = .ok (.iconst 1, 1) := by decide +kernel
theorem dX7_addFour_44 : decode cX7_addFour 44 = .ok (.iadd, 1) := by decide +kernel
theorem dX7_addFour_45 : decode cX7_addFour 45 = .ok (.iload_n 1, 1) := by decide +kernel
theorem dX7_addFour_46 : decode cX7_addFour 46 = .ok (.bipush 16, 2) := by decide +kernel
theorem dX7_addFour_48 : decode cX7_addFour 48 = .ok (.iushr, 1) := by decide +kernel
theorem dX7_addFour_49 : decode cX7_addFour 49 = .ok (.sipush 255, 3) := by decide +kernel
theorem dX7_addFour_52 : decode cX7_addFour 52 = .ok (.iand, 1) := by decide +kernel
theorem dX7_addFour_53 : decode cX7_addFour 53 = .ok (.iastore, 1) := by decide +kernel
theorem dX7_addFour_54 : decode cX7_addFour 54 = .ok (.aload_n 0, 1) := by decide +kernel
theorem dX7_addFour_55 : decode cX7_addFour 55 = .ok (.getfield 11, 3) := by decide +kernel
theorem dX7_addFour_58 : decode cX7_addFour 58 = .ok (.aload_n 0, 1) := by decide +kernel
theorem dX7_addFour_59 : decode cX7_addFour 59 = .ok (.getfield 15, 3) := by decide +kernel
theorem dX7_addFour_62 : decode cX7_addFour 62 = .ok (.iconst 2, 1) := by decide +kernel
theorem dX7_addFour_63 : decode cX7_addFour 63 = .ok (.iadd, 1) := by decide +kernel
theorem dX7_addFour_64 : decode cX7_addFour 64 = .ok (.iload_n 1, 1) := by decide +kernel
theorem dX7_addFour_65 : decode cX7_addFour 65 = .ok (.bipush 8, 2) := by decide +kernel
theorem dX7_addFour_67 : decode cX7_addFour 67 = .ok (.iushr, 1) := by decide +kernel
theorem dX7_addFour_68 : decode cX7_addFour 68 = .ok (.sipush 255, 3) := by decide +kernel
theorem dX7_addFour_71 : decode cX7_addFour 71 = .ok (.iand, 1) := by decide +kernel
theorem dX7_addFour_72 : decode cX7_addFour 72 = .ok (.iastore, 1) := by decide +kernel
theorem dX7_addFour_73 : decode cX7_addFour 73 = .ok (.aload_n 0, 1) := by decide +kernel
theorem dX7_addFour_74 : decode cX7_addFour 74 = .ok (.getfield 11, 3) := by decide +kernel
theorem dX7_addFour_77 : decode cX7_addFour 77 = .ok (.aload_n 0, 1) := by decide +kernel
theorem dX7_addFour_78 : decode cX7_addFour 78 = .ok (.getfield 15, 3) := by decide +kernel
theorem dX7_addFour_81 : decode cX7_addFour 81 = .ok (.iconst 3, 1) := by decide +kernel
theorem dX7_addFour_82 : decode cX7_addFour 82 = .ok (.iadd, 1) := by decide +kernel
theorem dX7_addFour_83 : decode cX7_addFour 83 = .ok (.iload_n 1, 1) := by decide +kernel
theorem dX7_addFour_84 : decode cX7_addFour 84 = .ok (.sipush 255, 3) := by decide +kernel
theorem dX7_addFour_87 : decode cX7_addFour 87 = .ok (.iand, 1) := by decide +kernel
theorem dX7_addFour_88 : decode cX7_addFour 88 = .ok (.iastore, 1) := by decide +kernel
theorem dX7_addFour_89 : decode cX7_addFour 89 = .ok (.aload_n 0, 1) := by decide +kernel
theorem dX7_addFour_90 : decode cX7_addFour 90 = .ok (.dup, 1) := by decide +kernel
theorem dX7_addFour_91 : decode cX7_addFour 91 = .ok (.getfield 15, 3) := by decide +kernel
theorem dX7_addFour_94 : decode cX7_addFour 94 = .ok (.iconst 4, 1) := by decide +kernel
theorem dX7_addFour_95 : decode cX7_addFour 95 = .ok (.iadd, 1) := by decide +kernel
theorem dX7_addFour_96 : decode cX7_addFour 96 = .ok (.putfield 15, 3) := by decide +kernel
theorem dX7_addFour_99 : decode cX7_addFour 99 = .ok (.iconst 1, 1) := by decide +kernel
theorem dX7_addFour_100 : decode cX7_addFour 100 = .ok (.ireturn, 1) := by decide +kernel
theorem dX8_addPlace_0 : decode cX8_addPlace 0 = .ok (.aload_n 0, 1) := by decide +kernel
theorem dX8_addPlace_1 : decode cX8_addPlace 1 = .ok (.getfield 31, 3) := by decide +kernel
theorem dX8_addPlace_4 : decode cX8_addPlace 4 = .ok (.ifCond .lt 12, 3) := by decide +kernel
theorem dX8_addPlace_7 : decode cX8_addPlace 7 = .ok (.aload_n 0, 1) := by decide +kernel
theorem dX8_addPlace_8 : decode cX8_addPlace 8 = .ok (.getfield 31, 3) := by decide +kernel
theorem dX8_addPlace_11 : decode cX8_addPlace 11 = .ok (.bipush 12, 2) := by decide +kernel
theorem dX8_addPlace_13 : decode cX8_addPlace 13 = .ok (.if_icmp .lt 4, 3) := by decide +kernel
theorem dX8_addPlace_16 : decode cX8_addPlace 16 = .ok (.return_, 1) := by decide +kernel
theorem dX8_addPlace_17 : decode cX8_addPlace 17 = .ok (.aload_n 0, 1) := by decide +kernel
theorem dX8_addPlace_18 : decode cX8_addPlace 18 = .ok (.getfield 9, 3) := by decide +kernel
theorem dX8_addPlace_21 : decode cX8_addPlace 21 = .ok (.aload_n 0, 1) := by decide +kernel
theorem dX8_addPlace_22 : decode cX8_addPlace 22 = .ok (.getfield 31, 3) := by decide +kernel
theorem dX8_addPlace_25 : decode cX8_addPlace 25 = .ok (.iload_n 1, 1) := by decide +kernel
theorem dX8_addPlace_26 : decode cX8_addPlace 26 = .ok (.iastore, 1) := by decide +kernel
theorem dX8_addPlace_27 : decode cX8_addPlace 27 = .ok (.aload_n 0, 1) := by decide +kernel
theorem dX8_addPlace_28 : decode cX8_addPlace 28 = .ok (.getfield 15, 3) := by decide +kernel
theorem dX8_addPlace_31 : decode cX8_addPlace 31 = .ok (.aload_n 0, 1) := by decide +kernel
theorem dX8_addPlace_32 : decode cX8_addPlace 32 = .ok (.getfield 31, 3) := by decide +kernel
theorem dX8_addPlace_35 : decode cX8_addPlace 35 = .ok (.iload_n 2, 1) := by decide +kernel
theorem dX8_addPlace_36 : decode cX8_addPlace 36 = .ok (.iastore, 1) := by decide +kernel
theorem dX8_addPlace_37 : decode cX8_addPlace 37 = .ok (.aload_n 0, 1) := by decide +kernel
theorem dX8_addPlace_38 : decode cX8_addPlace 38 = .ok (.getfield 18, 3) := by decide +kernel
theorem dX8_addPlace_41 : decode cX8_addPlace 41 = .ok (.aload_n 0, 1) := by decide +kernel
theorem dX8_addPlace_42 : decode cX8_addPlace 42 = .ok (.getfield 31, 3) := by decide +kernel
theorem dX8_addPlace_45 : decode cX8_addPlace 45 = .ok (.iload_n 3, 1) := by decide +kernel
theorem dX8_addPlace_46 : decode cX8_addPlace 46 = .ok (.iastore, 1) := by decide +kernel
theorem dX8_addPlace_47 : decode cX8_addPlace 47 = .ok (.aload_n 0, 1) := by decide +kernel
theorem dX8_addPlace_48 : decode cX8_addPlace 48 = .ok (.getfield 21, 3) := by decide +kernel
theorem dX8_addPlace_51 : decode cX8_addPlace 51 = .ok (.aload_n 0, 1) := by decide +kernel
theorem dX8_addPlace_52 : decode cX8_addPlace 52 = .ok (.getfield 31, 3) := by decide +kernel
theorem dX8_addPlace_55 : decode cX8_addPlace 55 = .ok (.iload 4, 2) := by decide +kernel
theorem dX8_addPlace_57 : decode cX8_addPlace 57 = .ok (.iastore, 1) := by decide +kernel
theorem dX8_addPlace_58 : decode cX8_addPlace 58 = .ok (.iload_n 1, 1) := by decide +kernel
theorem dX8_addPlace_59 : decode cX8_addPlace 59 = .ok (.iconst 1, 1) := by decide +kernel
theorem dX8_addPlace_60 : decode cX8_addPlace 60 = .ok (.if_icmp .ne 28, 3) := by decide +kernel
theorem dX8_addPlace_63 : decode cX8_addPlace 63 = .ok (.aload_n 0, 1) := by decide +kernel
theorem dX8_addPlace_64 : decode cX8_addPlace 64 = .ok (.dup, 1) := by decide +kernel
theorem dX8_addPlace_65 : decode cX8_addPlace 65 = .ok (.getfield 34, 3) := by decide +kernel
theorem dX8_addPlace_68 : decode cX8_addPlace 68 = .ok (.iconst 1, 1) := by decide +kernel
theorem dX8_addPlace_69 : decode cX8_addPlace 69 = .ok (.aload_n 0, 1) := by decide +kernel
theorem dX8_addPlace_70 : decode cX8_addPlace 70 = .ok (.getfield 31, 3) := by decide +kernel
theorem dX8_addPlace_73 : decode cX8_addPlace 73 = .ok (.ishl, 1) := by decide +kernel
theorem dX8_addPlace_74 : decode cX8_addPlace 74 = .ok (.ior, 1) := by decide +kernel
theorem dX8_addPlace_75 : decode cX8_addPlace 75 = .ok (.putfield 34, 3) := by decide +kernel
theorem dX8_addPlace_78 : decode cX8_addPlace 78 = .ok (.aload_n 0, 1) := by decide +kernel
theorem dX8_addPlace_79 : decode cX8_addPlace 79 = .ok (.dup, 1) := by decide +kernel
theorem dX8_addPlace_80 : decode cX8_addPlace 80 = .ok (.getfield 27, 3) := by decide +kernel
theorem dX8_addPlace_83 : decode cX8_addPlace 83 = .ok (.iconst 2, 1) := by decide +kernel
theorem dX8_addPlace_84 : decode cX8_addPlace 84 = .ok (.imul, 1) := by decide +kernel
theorem dX8_addPlace_85 : decode cX8_addPlace 85 = .ok (.putfield 27, 3) := by decide +kernel
theorem dX8_addPlace_88 : decode cX8_addPlace 88 = .ok (.iload_n 1, 1) := by decide +kernel
theorem dX8_addPlace_89 : decode cX8_addPlace 89 = .ok (.bipush 6, 2) := by decide +kernel
theorem dX8_addPlace_91 : decode cX8_addPlace 91 = .ok (.if_icmp .ne 18, 3) := by decide +kernel
theorem dX8_addPlace_94 : decode cX8_addPlace 94 = .ok (.aload_n 0, 1) := by decide +kernel
theorem dX8_addPlace_95 : decode cX8_addPlace 95 = .ok (.dup, 1) := by decide +kernel
theorem dX8_addPlace_96 : decode cX8_addPlace 96 = .ok (.getfield 37, 3) := by decide +kernel
theorem dX8_addPlace_99 : decode cX8_addPlace 99 = .ok (.iconst 1, 1) := by decide +kernel
theorem dX8_addPlace_100 : decode cX8_addPlace 100 = .ok (.aload_n 0, 1) := by decide +kernel
theorem dX8_addPlace_101 : decode cX8_addPlace 101 = .ok (.getfield 31, 3) := by decide +kernel
theorem dX8_addPlace_104 : decode cX8_addPlace 104 = .ok (.ishl, 1) := by decide +kernel
theorem dX8_addPlace_105 : decode cX8_addPlace 105 = .ok (.ior, 1) := by decide +kernel
theorem dX8_addPlace_106 : decode cX8_addPlace 106 = .ok (.putfield 37, 3) := by decide +kernel
theorem dX8_addPlace_109 : decode cX8_addPlace 109 = .ok (.aload_n 0, 1) := by decide +kernel
theorem dX8_addPlace_110 : decode cX8_addPlace 110 = .ok (.dup, 1) := by decide +kernel
theorem dX8_addPlace_111 : decode cX8_addPlace 111 = .ok (.getfield 31, 3) := by decide +kernel
theorem dX8_addPlace_114 : decode cX8_addPlace 114 = .ok (.iconst 1, 1) := by decide +kernel
theorem dX8_addPlace_115 : decode cX8_addPlace 115 = .ok (.iadd, 1) := by decide +kernel
theorem dX8_addPlace_116 : decode cX8_addPlace 116 = .ok (.putfield 31, 3) := by decide +kernel
theorem dX8_addPlace_119 : decode cX8_addPlace 119 = .ok (.return_, 1) := by decide +kernel
theorem dX8_clear_0 : decode cX8_clear 0 = .ok (.aload_n 0, 1) := by decide +kernel
theorem dX8_clear_1 : decode cX8_clear 1 = .ok (.iconst 0, 1) := by decide +kernel
theorem dX8_clear_2 : decode cX8_clear 2 = .ok (.putfield 31, 3) := by decide +kernel
theorem dX8_clear_5 : decode cX8_clear 5 = .ok (.aload_n 0, 1) := by decide +kernel
theorem dX8_clear_6 : decode cX8_clear 6 = .ok (.iconst 0, 1) := by decide +kernel
theorem dX8_clear_7 : decode cX8_clear 7 = .ok (.putfield 34, 3) := by decide +kernel
theorem dX8_clear_10 : decode cX8_clear 10 = .ok (.aload_n 0, 1) := by decide +kernel
theorem dX8_clear_11 : decode cX8_clear 11 = .ok (.iconst 0, 1) := by decide +kernel
theorem dX8_clear_12 : decode cX8_clear 12 = .ok (.putfield 37, 3) := by decide +kernel
theorem dX8_clear_15 : decode cX8_clear 15 = .ok (.aload_n 0, 1) := by decide +kernel
theorem dX8_clear_16 : decode cX8_clear 16 = .ok (.iconst 1, 1) := by decide +kernel
theorem dX8_clear_17 : decode cX8_clear 17 = .ok (.putfield 27, 3) := by decide +kernel
theorem dX8_clear_20 : decode cX8_clear 20 = .ok (.iconst 0, 1) := by decide +kernel
theorem dX8_clear_21 : decode cX8_clear 21 = .ok (.istore_n 1, 1) := by decide +kernel
theorem dX8_clear_22 : decode cX8_clear 22 = .ok (.iload_n 1, 1) := by decide +kernel
theorem dX8_clear_23 : decode cX8_clear 23 = .ok (.bipush 12, 2) := by decide +kernel
theorem dX8_clear_25 : decode cX8_clear 25 = .ok (.if_icmp .ge 16, 3) := by decide +kernel
theorem dX8_clear_28 : decode cX8_clear 28 = .ok (.aload_n 0, 1) := by decide +kernel
theorem dX8_clear_29 : decode cX8_clear 29 = .ok (.getfield 24, 3) := by decide +kernel
theorem dX8_clear_32 : decode cX8_clear 32 = .ok (.iload_n 1, 1) := by decide +kernel
theorem dX8_clear_33 : decode cX8_clear 33 = .ok (.iconst (-1), 1) := by decide +kernel
theorem dX8_clear_34 : decode cX8_clear 34 = .ok (.iastore, 1) := by decide +kernel
theorem dX8_clear_35 : decode cX8_clear 35 = .ok (.iinc 1 1, 3) := by decide +kernel
theorem dX8_clear_38 : decode cX8_clear 38 = .ok (.goto (-16), 3) := by decide +kernel
theorem dX8_clear_41 : decode cX8_clear 41 = .ok (.return_, 1) := by decide +kernel
theorem dX8_copy_0 : decode cX8_copy 0 = .ok (.aload_n 0, 1) := by decide +kernel
theorem dX8_copy_1 : decode cX8_copy 1 = .ok (.aload_n 1, 1) := by decide +kernel
theorem dX8_copy_2 : decode cX8_copy 2 = .ok (.getfield 31, 3) := by decide +kernel
theorem dX8_copy_5 : decode cX8_copy 5 = .ok (.putfield 31, 3) := by decide +kernel
theorem dX8_copy_8 : decode cX8_copy 8 = .ok (.aload_n 0, 1) := by decide +kernel
theorem dX8_copy_9 : decode cX8_copy 9 = .ok (.aload_n 1, 1) := by decide +kernel
theorem dX8_copy_10 : decode cX8_copy 10 = .ok (.getfield 34, 3) := by decide +kernel
theorem dX8_copy_13 : decode cX8_copy 13 = .ok (.putfield 34, 3) := by decide +kernel
theorem dX8_copy_16 : decode cX8_copy 16 = .ok (.aload_n 0, 1) := by decide +kernel
theorem dX8_copy_17 : decode cX8_copy 17 = .ok (.aload_n 1, 1) := by decide +kernel
theorem dX8_copy_18 : decode cX8_copy 18 = .ok (.getfield 37, 3) := by decide +kernel
theorem dX8_copy_21 : decode cX8_copy 21 = .ok (.putfield 37, 3) := by decide +kernel
theorem dX8_copy_24 : decode cX8_copy 24 = .ok (.aload_n 0, 1) := by decide +kernel
theorem dX8_copy_25 : decode cX8_copy 25 = .ok (.aload_n 1, 1) := by decide +kernel
theorem dX8_copy_26 : decode cX8_copy 26 = .ok (.getfield 27, 3) := by decide +kernel
theorem dX8_copy_29 : decode cX8_copy 29 = .ok (.putfield 27, 3) := by decide +kernel
theorem dX8_copy_32 : decode cX8_copy 32 = .ok (.iconst 0, 1) := by decide +kernel
theorem dX8_copy_33 : decode cX8_copy 33 = .ok (.istore_n 2, 1) := by decide +kernel
theorem dX8_copy_34 : decode cX8_copy 34 = .ok (.iload_n 2, 1) := by decide +kernel
theorem dX8_copy_35 : decode cX8_copy 35 = .ok (.bipush 12, 2) := by decide +kernel
theorem dX8_copy_37 : decode cX8_copy 37 = .ok (.if_icmp .ge 57, 3) := by decide +kernel
theorem dX8_copy_40 : decode cX8_copy 40 = .ok (.aload_n 0, 1) := by decide +kernel
theorem dX8_copy_41 : decode cX8_copy 41 = .ok (.getfield 9, 3) := by decide +kernel
theorem dX8_copy_44 : decode cX8_copy 44 = .ok (.iload_n 2, 1) := by decide +kernel
theorem dX8_copy_45 : decode cX8_copy 45 = .ok (.aload_n 1, 1) := by decide +kernel
theorem dX8_copy_46 : decode cX8_copy 46 = .ok (.getfield 9, 3) := by decide +kernel
theorem dX8_copy_49 : decode cX8_copy 49 = .ok (.iload_n 2, 1) := by decide +kernel
theorem dX8_copy_50 : decode cX8_copy 50 = .ok (.iaload, 1) := by decide +kernel
theorem dX8_copy_51 : decode cX8_copy 51 = .ok (.iastore, 1) := by decide +kernel
theorem dX8_copy_52 : decode cX8_copy 52 = .ok (.aload_n 0, 1) := by decide +kernel
theorem dX8_copy_53 : decode cX8_copy 53 = .ok (.getfield 15, 3) := by decide +kernel
theorem dX8_copy_56 : decode cX8_copy 56 = .ok (.iload_n 2, 1) := by decide +kernel
theorem dX8_copy_57 : decode cX8_copy 57 = .ok (.aload_n 1, 1) := by decide +kernel
theorem dX8_copy_58 : decode cX8_copy 58 = .ok (.getfield 15, 3) := by decide +kernel
theorem dX8_copy_61 : decode cX8_copy 61 = .ok (.iload_n 2, 1) := by decide +kernel
theorem dX8_copy_62 : decode cX8_copy 62 = .ok (.iaload, 1) := by decide +kernel
theorem dX8_copy_63 : decode cX8_copy 63 = .ok (.iastore, 1) := by decide +kernel
theorem dX8_copy_64 : decode cX8_copy 64 = .ok (.aload_n 0, 1) := by decide +kernel
theorem dX8_copy_65 : decode cX8_copy 65 = .ok (.getfield 18, 3) := by decide +kernel
theorem dX8_copy_68 : decode cX8_copy 68 = .ok (.iload_n 2, 1) := by decide +kernel
theorem dX8_copy_69 : decode cX8_copy 69 = .ok (.aload_n 1, 1) := by decide +kernel
theorem dX8_copy_70 : decode cX8_copy 70 = .ok (.getfield 18, 3) := by decide +kernel
theorem dX8_copy_73 : decode cX8_copy 73 = .ok (.iload_n 2, 1) := by decide +kernel
theorem dX8_copy_74 : decode cX8_copy 74 = .ok (.iaload, 1) := by decide +kernel
theorem dX8_copy_75 : decode cX8_copy 75 = .ok (.iastore, 1) := by decide +kernel
theorem dX8_copy_76 : decode cX8_copy 76 = .ok (.aload_n 0, 1) := by decide +kernel
theorem dX8_copy_77 : decode cX8_copy 77 = .ok (.getfield 21, 3) := by decide +kernel
theorem dX8_copy_80 : decode cX8_copy 80 = .ok (.iload_n 2, 1) := by decide +kernel
theorem dX8_copy_81 : decode cX8_copy 81 = .ok (.aload_n 1, 1) := by decide +kernel
theorem dX8_copy_82 : decode cX8_copy 82 = .ok (.getfield 21, 3) := by decide +kernel
theorem dX8_copy_85 : decode cX8_copy 85 = .ok (.iload_n 2, 1) := by decide +kernel
theorem dX8_copy_86 : decode cX8_copy 86 = .ok (.iaload, 1) := by decide +kernel
theorem dX8_copy_87 : decode cX8_copy 87 = .ok (.iastore, 1) := by decide +kernel
theorem dX8_copy_88 : decode cX8_copy 88 = .ok (.iinc 2 1, 3) := by decide +kernel
theorem dX8_copy_91 : decode cX8_copy 91 = .ok (.goto (-57), 3) := by decide +kernel
theorem dX8_copy_94 : decode cX8_copy 94 = .ok (.return_, 1) := by decide +kernel
theorem dX8_judgeLetters_0 : decode cX8_judgeLetters 0 = .ok (.iconst (-1), 1) := by decide +kernel
theorem dX8_judgeLetters_1 : decode cX8_judgeLetters 1 = .ok (.istore_n 1, 1) := by decide +kernel
theorem dX8_judgeLetters_2 : decode cX8_judgeLetters 2 = .ok (.aload_n 0, 1) := by decide +kernel
theorem dX8_judgeLetters_3 : decode cX8_judgeLetters 3 = .ok (.getfield 31, 3) := by decide +kernel
theorem dX8_judgeLetters_6 : decode cX8_judgeLetters 6 = .ok (.istore_n 2, 1) := by decide +kernel
theorem dX8_judgeLetters_7 : decode cX8_judgeLetters 7 = .ok (.iload_n 2, 1) := by decide +kernel
theorem dX8_judgeLetters_8 : decode cX8_judgeLetters 8 = .ok (.bipush 12, 2) := by decide +kernel
theorem dX8_judgeLetters_10 : decode cX8_judgeLetters 10 = .ok (.if_icmp .ge 33, 3) := by decide +kernel
theorem dX8_judgeLetters_13 : decode cX8_judgeLetters 13 = .ok (.aload_n 0, 1) := by decide +kernel
theorem dX8_judgeLetters_14 : decode cX8_judgeLetters 14 = .ok (.getfield 24, 3) := by decide +kernel
theorem dX8_judgeLetters_17 : decode cX8_judgeLetters 17 = .ok (.iload_n 2, 1) := by decide +kernel
theorem dX8_judgeLetters_18 : decode cX8_judgeLetters 18 = .ok (.iaload, 1) := by decide +kernel
theorem dX8_judgeLetters_19 : decode cX8_judgeLetters 19 = .ok (.istore_n 3, 1) := by decide +kernel
theorem dX8_judgeLetters_20 : decode cX8_judgeLetters 20 = .ok (.iload_n 3, 1) := by decide +kernel
theorem dX8_judgeLetters_21 : decode cX8_judgeLetters 21 = .ok (.iconst (-1), 1) := by decide +kernel
theorem dX8_judgeLetters_22 : decode cX8_judgeLetters 22 = .ok (.if_icmp .eq 15, 3) := by decide +kernel
theorem dX8_judgeLetters_25 : decode cX8_judgeLetters 25 = .ok (.iload_n 1, 1) := by decide +kernel
theorem dX8_judgeLetters_26 : decode cX8_judgeLetters 26 = .ok (.iconst (-1), 1) := by decide +kernel
theorem dX8_judgeLetters_27 : decode cX8_judgeLetters 27 = .ok (.if_icmp .eq 8, 3) := by decide +kernel
theorem dX8_judgeLetters_30 : decode cX8_judgeLetters 30 = .ok (.iload_n 3, 1) := by decide +kernel
theorem dX8_judgeLetters_31 : decode cX8_judgeLetters 31 = .ok (.iload_n 1, 1) := by decide +kernel
theorem dX8_judgeLetters_32 : decode cX8_judgeLetters 32 = .ok (.if_icmp .ge 5, 3) := by decide +kernel
theorem dX8_judgeLetters_35 : decode cX8_judgeLetters 35 = .ok (.iload_n 3, 1) := by decide +kernel
theorem dX8_judgeLetters_36 : decode cX8_judgeLetters 36 = .ok (.istore_n 1, 1) := by decide +kernel
theorem dX8_judgeLetters_37 : decode cX8_judgeLetters 37 = .ok (.iinc 2 1, 3) := by decide +kernel
theorem dX8_judgeLetters_40 : decode cX8_judgeLetters 40 = .ok (.goto (-33), 3) := by decide +kernel
theorem dX8_judgeLetters_43 : decode cX8_judgeLetters 43 = .ok (.iload_n 1, 1) := by decide +kernel
theorem dX8_judgeLetters_44 : decode cX8_judgeLetters 44 = .ok (.iconst (-1), 1) := by decide +kernel
theorem dX8_judgeLetters_45 : decode cX8_judgeLetters 45 = .ok (.if_icmp .ne 10, 3) := by decide +kernel
theorem dX8_judgeLetters_48 : decode cX8_judgeLetters 48 = .ok (.aload_n 0, 1) := by decide +kernel
theorem dX8_judgeLetters_49 : decode cX8_judgeLetters 49 = .ok (.getfield 31, 3) := by decide +kernel
theorem dX8_judgeLetters_52 : decode cX8_judgeLetters 52 = .ok (.goto 6, 3) := by decide +kernel
theorem dX8_judgeLetters_55 : decode cX8_judgeLetters 55 = .ok (.iconst (-1), 1) := by decide +kernel
theorem dX8_judgeLetters_56 : decode cX8_judgeLetters 56 = .ok (.iload_n 1, 1) := by decide +kernel
theorem dX8_judgeLetters_57 : decode cX8_judgeLetters 57 = .ok (.isub, 1) := by decide +kernel
theorem dX8_judgeLetters_58 : decode cX8_judgeLetters 58 = .ok (.ireturn, 1) := by decide +kernel
theorem dX8_read_0 : decode cX8_read 0 = .ok (.aload_n 0, 1) := by decide +kernel
theorem dX8_read_1 : decode cX8_read 1 = .ok (.invokevirtual 40, 3) := by decide +kernel
theorem dX8_read_4 : decode cX8_read 4 = .ok (.aload_n 1, 1) := by decide +kernel
theorem dX8_read_5 : decode cX8_read 5 = .ok (.bipush 76, 2) := by decide +kernel
theorem dX8_read_7 : decode cX8_read 7 = .ok (.invokevirtual 43, 3) := by decide +kernel
theorem dX8_read_10 : decode cX8_read 10 = .ok (.aload_n 1, 1) := by decide +kernel
theorem dX8_read_11 : decode cX8_read 11 = .ok (.iconst 0, 1) := by decide +kernel
theorem dX8_read_12 : decode cX8_read 12 = .ok (.invokevirtual 49, 3) := by decide +kernel
theorem dX8_read_15 : decode cX8_read 15 = .ok (.ifCond .eq 5, 3) := by decide +kernel
theorem dX8_read_18 : decode cX8_read 18 = .ok (.iconst 0, 1) := by decide +kernel
theorem dX8_read_19 : decode cX8_read 19 = .ok (.ireturn, 1) := by decide +kernel
theorem dX8_read_20 : decode cX8_read 20 = .ok (.iconst 0, 1) := by decide +kernel
theorem dX8_read_21 : decode cX8_read 21 = .ok (.istore_n 2, 1) := by decide +kernel
theorem dX8_read_22 : decode cX8_read 22 = .ok (.iconst 0, 1) := by decide +kernel
theorem dX8_read_23 : decode cX8_read 23 = .ok (.istore_n 3, 1) := by decide +kernel
theorem dX8_read_24 : decode cX8_read 24 = .ok (.iload_n 3, 1) := by decide +kernel
theorem dX8_read_25 : decode cX8_read 25 = .ok (.bipush 12, 2) := by decide +kernel
theorem dX8_read_27 : decode cX8_read 27 = .ok (.if_icmp .ge 60, 3) := by decide +kernel
theorem dX8_read_30 : decode cX8_read 30 = .ok (.aload_n 0, 1) := by decide +kernel
theorem dX8_read_31 : decode cX8_read 31 = .ok (.aload_n 1, 1) := by decide +kernel
theorem dX8_read_32 : decode cX8_read 32 = .ok (.iload_n 2, 1) := by decide +kernel
theorem dX8_read_33 : decode cX8_read 33 = .ok (.invokevirtual 53, 3) := by decide +kernel
theorem dX8_read_36 : decode cX8_read 36 = .ok (.istore 4, 2) := by decide +kernel
theorem dX8_read_38 : decode cX8_read 38 = .ok (.iload 4, 2) := by decide +kernel
theorem dX8_read_40 : decode cX8_read 40 = .ok (.ifCond .ge 6, 3) := by decide +kernel
theorem dX8_read_43 : decode cX8_read 43 = .ok (.iload 4, 2) := by decide +kernel
theorem dX8_read_45 : decode cX8_read 45 = .ok (.ireturn, 1) := by decide +kernel
theorem dX8_read_46 : decode cX8_read 46 = .ok (.aload_n 1, 1) := by decide +kernel
theorem dX8_read_47 : decode cX8_read 47 = .ok (.iload 4, 2) := by decide +kernel
theorem dX8_read_49 : decode cX8_read 49 = .ok (.invokevirtual 49, 3) := by decide +kernel
theorem dX8_read_52 : decode cX8_read 52 = .ok (.ifCond .eq 8, 3) := by decide +kernel
theorem dX8_read_55 : decode cX8_read 55 = .ok (.aload_n 0, 1) := by decide +kernel
theorem dX8_read_56 : decode cX8_read 56 = .ok (.invokevirtual 57, 3) := by decide +kernel
theorem dX8_read_59 : decode cX8_read 59 = .ok (.ireturn, 1) := by decide +kernel
theorem dX8_read_60 : decode cX8_read 60 = .ok (.aload_n 1, 1) := by decide +kernel
theorem dX8_read_61 : decode cX8_read 61 = .ok (.iload 4, 2) := by decide +kernel
theorem dX8_read_63 : decode cX8_read 63 = .ok (.bipush 59, 2) := by decide +kernel
theorem dX8_read_65 : decode cX8_read 65 = .ok (.invokevirtual 61, 3) := by decide +kernel
theorem dX8_read_68 : decode cX8_read 68 = .ok (.ifCond .ne 8, 3) := by decide +kernel
theorem dX8_read_71 : decode cX8_read 71 = .ok (.iconst (-1), 1) := by decide +kernel
theorem dX8_read_72 : decode cX8_read 72 = .ok (.iload 4, 2) := by decide +kernel
theorem dX8_read_74 : decode cX8_read 74 = .ok (.isub, 1) := by decide +kernel
theorem dX8_read_75 : decode cX8_read 75 = .ok (.ireturn, 1) := by decide +kernel
theorem dX8_read_76 : decode cX8_read 76 = .ok (.iload 4, 2) := by decide +kernel
theorem dX8_read_78 : decode cX8_read 78 = .ok (.iconst 1, 1) := by decide +kernel
theorem dX8_read_79 : decode cX8_read 79 = .ok (.iadd, 1) := by decide +kernel
theorem dX8_read_80 : decode cX8_read 80 = .ok (.istore_n 2, 1) := by decide +kernel
theorem dX8_read_81 : decode cX8_read 81 = .ok (.iinc 3 1, 3) := by decide +kernel
theorem dX8_read_84 : decode cX8_read 84 = .ok (.goto (-60), 3) := by decide +kernel
theorem dX8_read_87 : decode cX8_read 87 = .ok (.iconst (-1), 1) := by decide +kernel
theorem dX8_read_88 : decode cX8_read 88 = .ok (.iload_n 2, 1) := by decide +kernel
theorem dX8_read_89 : decode cX8_read 89 = .ok (.isub, 1) := by decide +kernel
theorem dX8_read_90 : decode cX8_read 90 = .ok (.ireturn, 1) := by decide +kernel
theorem dX8_readFigure_0 : decode cX8_readFigure 0 = .ok (.aload_n 1, 1) := by decide +kernel
theorem dX8_readFigure_1 : decode cX8_readFigure 1 = .ok (.iload 4, 2) := by decide +kernel
theorem dX8_readFigure_3 : decode cX8_readFigure 3 = .ok (.invokevirtual 94, 3) := by decide +kernel
theorem dX8_readFigure_6 : decode cX8_readFigure 6 = .ok (.istore 5, 2) := by decide +kernel
theorem dX8_readFigure_8 : decode cX8_readFigure 8 = .ok (.iload 5, 2) := by decide +kernel
theorem dX8_readFigure_10 : decode cX8_readFigure 10 = .ok (.iload_n 2, 1) := by decide +kernel
theorem dX8_readFigure_11 : decode cX8_readFigure 11 = .ok (.iconst 5, 1) := by decide +kernel
theorem dX8_readFigure_12 : decode cX8_readFigure 12 = .ok (.if_icmp .ne 7, 3) := by decide +kernel
theorem dX8_readFigure_15 : decode cX8_readFigure 15 = .ok (.iconst 2, 1) := by decide +kernel
theorem dX8_readFigure_16 : decode cX8_readFigure 16 = .ok (.goto 4, 3) := by decide +kernel
theorem dX8_readFigure_19 : decode cX8_readFigure 19 = .ok (.iconst 1, 1) := by decide +kernel
theorem dX8_readFigure_20 : decode cX8_readFigure 20 = .ok (.if_icmp .ge 8, 3) := by decide +kernel
theorem dX8_readFigure_23 : decode cX8_readFigure 23 = .ok (.iconst (-1), 1) := by decide +kernel
theorem dX8_readFigure_24 : decode cX8_readFigure 24 = .ok (.iload 4, 2) := by decide +kernel
theorem dX8_readFigure_26 : decode cX8_readFigure 26 = .ok (.isub, 1) := by decide +kernel
theorem dX8_readFigure_27 : decode cX8_readFigure 27 = .ok (.ireturn, 1) := by decide +kernel
theorem dX8_readFigure_28 : decode cX8_readFigure 28 = .ok (.aload_n 0, 1) := by decide +kernel
theorem dX8_readFigure_29 : decode cX8_readFigure 29 = .ok (.iload_n 2, 1) := by decide +kernel
theorem dX8_readFigure_30 : decode cX8_readFigure 30 = .ok (.iload_n 3, 1) := by decide +kernel
theorem dX8_readFigure_31 : decode cX8_readFigure 31 = .ok (.iconst (-1), 1) := by decide +kernel
theorem dX8_readFigure_32 : decode cX8_readFigure 32 = .ok (.iload 5, 2) := by decide +kernel
theorem dX8_readFigure_34 : decode cX8_readFigure 34 = .ok (.invokevirtual 71, 3) := by decide +kernel
theorem dX8_readFigure_37 : decode cX8_readFigure 37 = .ok (.iload 4, 2) := by decide +kernel
theorem dX8_readFigure_39 : decode cX8_readFigure 39 = .ok (.iconst 1, 1) := by decide +kernel
theorem dX8_readFigure_40 : decode cX8_readFigure 40 = .ok (.iadd, 1) := by decide +kernel
theorem dX8_readFigure_41 : decode cX8_readFigure 41 = .ok (.ireturn, 1) := by decide +kernel
theorem dX8_readFork_0 : decode cX8_readFork 0 = .ok (.aload_n 1, 1) := by decide +kernel
theorem dX8_readFork_1 : decode cX8_readFork 1 = .ok (.iload_n 3, 1) := by decide +kernel
theorem dX8_readFork_2 : decode cX8_readFork 2 = .ok (.invokevirtual 75, 3) := by decide +kernel
theorem dX8_readFork_5 : decode cX8_readFork 5 = .ok (.istore 4, 2) := by decide +kernel
theorem dX8_readFork_7 : decode cX8_readFork 7 = .ok (.iload 4, 2) := by decide +kernel
theorem dX8_readFork_9 : decode cX8_readFork 9 = .ok (.ifCond .ge 7, 3) := by decide +kernel
theorem dX8_readFork_12 : decode cX8_readFork 12 = .ok (.iconst (-1), 1) := by decide +kernel
theorem dX8_readFork_13 : decode cX8_readFork 13 = .ok (.iload_n 3, 1) := by decide +kernel
theorem dX8_readFork_14 : decode cX8_readFork 14 = .ok (.isub, 1) := by decide +kernel
theorem dX8_readFork_15 : decode cX8_readFork 15 = .ok (.ireturn, 1) := by decide +kernel
theorem dX8_readFork_16 : decode cX8_readFork 16 = .ok (.aload_n 0, 1) := by decide +kernel
theorem dX8_readFork_17 : decode cX8_readFork 17 = .ok (.iload 4, 2) := by decide +kernel
theorem dX8_readFork_19 : decode cX8_readFork 19 = .ok (.iload_n 3, 1) := by decide +kernel
theorem dX8_readFork_20 : decode cX8_readFork 20 = .ok (.invokevirtual 79, 3) := by decide +kernel
theorem dX8_readFork_23 : decode cX8_readFork 23 = .ok (.aload_n 0, 1) := by decide +kernel
theorem dX8_readFork_24 : decode cX8_readFork 24 = .ok (.iconst 1, 1) := by decide +kernel
theorem dX8_readFork_25 : decode cX8_readFork 25 = .ok (.iload_n 2, 1) := by decide +kernel
theorem dX8_readFork_26 : decode cX8_readFork 26 = .ok (.iload 4, 2) := by decide +kernel
theorem dX8_readFork_28 : decode cX8_readFork 28 = .ok (.iconst 0, 1) := by decide +kernel
theorem dX8_readFork_29 : decode cX8_readFork 29 = .ok (.invokevirtual 71, 3) := by decide +kernel
theorem dX8_readFork_32 : decode cX8_readFork 32 = .ok (.iload_n 3, 1) := by decide +kernel
theorem dX8_readFork_33 : decode cX8_readFork 33 = .ok (.iconst 1, 1) := by decide +kernel
theorem dX8_readFork_34 : decode cX8_readFork 34 = .ok (.iadd, 1) := by decide +kernel
theorem dX8_readFork_35 : decode cX8_readFork 35 = .ok (.ireturn, 1) := by decide +kernel
theorem dX8_readLine_0 : decode cX8_readLine 0 = .ok (.aload_n 1, 1) := by decide +kernel
theorem dX8_readLine_1 : decode cX8_readLine 1 = .ok (.ldc 65, 2) := by decide +kernel
theorem dX8_readLine_3 : decode cX8_readLine 3 = .ok (.iload_n 2, 1) := by decide +kernel
theorem dX8_readLine_4 : decode cX8_readLine 4 = .ok (.invokevirtual 67, 3) := by decide +kernel
theorem dX8_readLine_7 : decode cX8_readLine 7 = .ok (.istore_n 3, 1) := by decide +kernel
theorem dX8_readLine_8 : decode cX8_readLine 8 = .ok (.iload_n 3, 1) := by decide +kernel
theorem dX8_readLine_9 : decode cX8_readLine 9 = .ok (.ifCond .ge 7, 3) := by decide +kernel
theorem dX8_readLine_12 : decode cX8_readLine 12 = .ok (.iconst (-1), 1) := by decide +kernel
theorem dX8_readLine_13 : decode cX8_readLine 13 = .ok (.iload_n 2, 1) := by decide +kernel
theorem dX8_readLine_14 : decode cX8_readLine 14 = .ok (.isub, 1) := by decide +kernel
theorem dX8_readLine_15 : decode cX8_readLine 15 = .ok (.ireturn, 1) := by decide +kernel
theorem dX8_readLine_16 : decode cX8_readLine 16 = .ok (.iload_n 3, 1) := by decide +kernel
theorem dX8_readLine_17 : decode cX8_readLine 17 = .ok (.bipush 6, 2) := by decide +kernel
theorem dX8_readLine_19 : decode cX8_readLine 19 = .ok (.if_icmp .ne 15, 3) := by decide +kernel
theorem dX8_readLine_22 : decode cX8_readLine 22 = .ok (.aload_n 0, 1) := by decide +kernel
theorem dX8_readLine_23 : decode cX8_readLine 23 = .ok (.iload_n 3, 1) := by decide +kernel
theorem dX8_readLine_24 : decode cX8_readLine 24 = .ok (.iconst (-1), 1) := by decide +kernel
theorem dX8_readLine_25 : decode cX8_readLine 25 = .ok (.iconst (-1), 1) := by decide +kernel
theorem dX8_readLine_26 : decode cX8_readLine 26 = .ok (.iconst 0, 1) := by decide +kernel
theorem dX8_readLine_27 : decode cX8_readLine 27 = .ok (.invokevirtual 71, 3) := by decide +kernel
theorem dX8_readLine_30 : decode cX8_readLine 30 = .ok (.iload_n 2, 1) := by decide +kernel
theorem dX8_readLine_31 : decode cX8_readLine 31 = .ok (.iconst 1, 1) := by decide +kernel
theorem dX8_readLine_32 : decode cX8_readLine 32 = .ok (.iadd, 1) := by decide +kernel
theorem dX8_readLine_33 : decode cX8_readLine 33 = .ok (.ireturn, 1) := by decide +kernel
theorem dX8_readLine_34 : decode cX8_readLine 34 = .ok (.aload_n 1, 1) := by decide +kernel
theorem dX8_readLine_35 : decode cX8_readLine 35 = .ok (.iload_n 2, 1) := by decide +kernel
theorem dX8_readLine_36 : decode cX8_readLine 36 = .ok (.iconst 1, 1) := by decide +kernel
theorem dX8_readLine_37 : decode cX8_readLine 37 = .ok (.iadd, 1) := by decide +kernel
theorem dX8_readLine_38 : decode cX8_readLine 38 = .ok (.invokevirtual 75, 3) := by decide +kernel
theorem dX8_readLine_41 : decode cX8_readLine 41 = .ok (.istore 4, 2) := by decide +kernel
theorem dX8_readLine_43 : decode cX8_readLine 43 = .ok (.iload 4, 2) := by decide +kernel
theorem dX8_readLine_45 : decode cX8_readLine 45 = .ok (.ifCond .ge 9, 3) := by decide +kernel
theorem dX8_readLine_48 : decode cX8_readLine 48 = .ok (.iconst (-1), 1) := by decide +kernel
theorem dX8_readLine_49 : decode cX8_readLine 49 = .ok (.iload_n 2, 1) := by decide +kernel
theorem dX8_readLine_50 : decode cX8_readLine 50 = .ok (.iconst 1, 1) := by decide +kernel
theorem dX8_readLine_51 : decode cX8_readLine 51 = .ok (.iadd, 1) := by decide +kernel
theorem dX8_readLine_52 : decode cX8_readLine 52 = .ok (.isub, 1) := by decide +kernel
theorem dX8_readLine_53 : decode cX8_readLine 53 = .ok (.ireturn, 1) := by decide +kernel
theorem dX8_readLine_54 : decode cX8_readLine 54 = .ok (.aload_n 0, 1) := by decide +kernel
theorem dX8_readLine_55 : decode cX8_readLine 55 = .ok (.iload 4, 2) := by decide +kernel
theorem dX8_readLine_57 : decode cX8_readLine 57 = .ok (.iload_n 2, 1) := by decide +kernel
theorem dX8_readLine_58 : decode cX8_readLine 58 = .ok (.iconst 1, 1) := by decide +kernel
theorem dX8_readLine_59 : decode cX8_readLine 59 = .ok (.iadd, 1) := by decide +kernel
theorem dX8_readLine_60 : decode cX8_readLine 60 = .ok (.invokevirtual 79, 3) := by decide +kernel
theorem dX8_readLine_63 : decode cX8_readLine 63 = .ok (.iload_n 3, 1) := by decide +kernel
theorem dX8_readLine_64 : decode cX8_readLine 64 = .ok (.ifCond .ne 16, 3) := by decide +kernel
theorem dX8_readLine_67 : decode cX8_readLine 67 = .ok (.aload_n 0, 1) := by decide +kernel
theorem dX8_readLine_68 : decode cX8_readLine 68 = .ok (.iload_n 3, 1) := by decide +kernel
theorem dX8_readLine_69 : decode cX8_readLine 69 = .ok (.iload 4, 2) := by decide +kernel
theorem dX8_readLine_71 : decode cX8_readLine 71 = .ok (.iconst (-1), 1) := by decide +kernel
theorem dX8_readLine_72 : decode cX8_readLine 72 = .ok (.iconst 0, 1) := by decide +kernel
theorem dX8_readLine_73 : decode cX8_readLine 73 = .ok (.invokevirtual 71, 3) := by decide +kernel
theorem dX8_readLine_76 : decode cX8_readLine 76 = .ok (.iload_n 2, 1) := by decide +kernel
theorem dX8_readLine_77 : decode cX8_readLine 77 = .ok (.iconst 2, 1) := by decide +kernel
theorem dX8_readLine_78 : decode cX8_readLine 78 = .ok (.iadd, 1) := by decide +kernel
theorem dX8_readLine_79 : decode cX8_readLine 79 = .ok (.ireturn, 1) := by decide +kernel
theorem dX8_readLine_80 : decode cX8_readLine 80 = .ok (.iload_n 3, 1) := by decide +kernel
theorem dX8_readLine_81 : decode cX8_readLine 81 = .ok (.iconst 1, 1) := by decide +kernel
theorem dX8_readLine_82 : decode cX8_readLine 82 = .ok (.if_icmp .ne 14, 3) := by decide +kernel
theorem dX8_readLine_85 : decode cX8_readLine 85 = .ok (.aload_n 0, 1) := by decide +kernel
theorem dX8_readLine_86 : decode cX8_readLine 86 = .ok (.aload_n 1, 1) := by decide +kernel
theorem dX8_readLine_87 : decode cX8_readLine 87 = .ok (.iload 4, 2) := by decide +kernel
theorem dX8_readLine_89 : decode cX8_readLine 89 = .ok (.iload_n 2, 1) := by decide +kernel
theorem dX8_readLine_90 : decode cX8_readLine 90 = .ok (.iconst 2, 1) := by decide +kernel
theorem dX8_readLine_91 : decode cX8_readLine 91 = .ok (.iadd, 1) := by decide +kernel
theorem dX8_readLine_92 : decode cX8_readLine 92 = .ok (.invokevirtual 83, 3) := by decide +kernel
theorem dX8_readLine_95 : decode cX8_readLine 95 = .ok (.ireturn, 1) := by decide +kernel
theorem dX8_readLine_96 : decode cX8_readLine 96 = .ok (.iload_n 3, 1) := by decide +kernel
theorem dX8_readLine_97 : decode cX8_readLine 97 = .ok (.iconst 4, 1) := by decide +kernel
theorem dX8_readLine_98 : decode cX8_readLine 98 = .ok (.if_icmp .ne 16, 3) := by decide +kernel
theorem dX8_readLine_101 : decode cX8_readLine 101 = .ok (.aload_n 0, 1) := by decide +kernel
theorem dX8_readLine_102 : decode cX8_readLine 102 = .ok (.aload_n 1, 1) := by decide +kernel
theorem dX8_readLine_103 : decode cX8_readLine 103 = .ok (.iload 4, 2) := by decide +kernel
theorem dX8_readLine_105 : decode cX8_readLine 105 = .ok (.iload_n 2, 1) := by decide +kernel
theorem dX8_readLine_106 : decode cX8_readLine 106 = .ok (.iconst 2, 1) := by decide +kernel
theorem dX8_readLine_107 : decode cX8_readLine 107 = .ok (.iadd, 1) := by decide +kernel
theorem dX8_readLine_108 : decode cX8_readLine 108 = .ok (.invokevirtual 87, 3) := by decide +kernel
theorem dX8_readLine_111 : decode cX8_readLine 111 = .ok (.goto 14, 3) := by decide +kernel
theorem dX8_readLine_114 : decode cX8_readLine 114 = .ok (.aload_n 0, 1) := by decide +kernel
theorem dX8_readLine_115 : decode cX8_readLine 115 = .ok (.aload_n 1, 1) := by decide +kernel
theorem dX8_readLine_116 : decode cX8_readLine 116 = .ok (.iload_n 3, 1) := by decide +kernel
theorem dX8_readLine_117 : decode cX8_readLine 117 = .ok (.iload 4, 2) := by decide +kernel
theorem dX8_readLine_119 : decode cX8_readLine 119 = .ok (.iload_n 2, 1) := by decide +kernel
theorem dX8_readLine_120 : decode cX8_readLine 120 = .ok (.iconst 2, 1) := by decide +kernel
theorem dX8_readLine_121 : decode cX8_readLine 121 = .ok (.iadd, 1) := by decide +kernel
theorem dX8_readLine_122 : decode cX8_readLine 122 = .ok (.invokevirtual 90, 3) := by decide +kernel
theorem dX8_readLine_125 : decode cX8_readLine 125 = .ok (.ireturn, 1) := by decide +kernel
theorem dX8_readMill_0 : decode cX8_readMill 0 = .ok (.aload_n 1, 1) := by decide +kernel
theorem dX8_readMill_1 : decode cX8_readMill 1 = .ok (.iload_n 3, 1) := by decide +kernel
theorem dX8_readMill_2 : decode cX8_readMill 2 = .ok (.invokevirtual 94, 3) := by decide +kernel
theorem dX8_readMill_5 : decode cX8_readMill 5 = .ok (.istore 4, 2) := by decide +kernel
theorem dX8_readMill_7 : decode cX8_readMill 7 = .ok (.iload 4, 2) := by decide +kernel
theorem dX8_readMill_9 : decode cX8_readMill 9 = .ok (.ifCond .ge 7, 3) := by decide +kernel
theorem dX8_readMill_12 : decode cX8_readMill 12 = .ok (.iconst (-1), 1) := by decide +kernel
theorem dX8_readMill_13 : decode cX8_readMill 13 = .ok (.iload_n 3, 1) := by decide +kernel
theorem dX8_readMill_14 : decode cX8_readMill 14 = .ok (.isub, 1) := by decide +kernel
theorem dX8_readMill_15 : decode cX8_readMill 15 = .ok (.ireturn, 1) := by decide +kernel
theorem dX8_readMill_16 : decode cX8_readMill 16 = .ok (.aload_n 1, 1) := by decide +kernel
theorem dX8_readMill_17 : decode cX8_readMill 17 = .ok (.iload_n 3, 1) := by decide +kernel
theorem dX8_readMill_18 : decode cX8_readMill 18 = .ok (.iconst 1, 1) := by decide +kernel
theorem dX8_readMill_19 : decode cX8_readMill 19 = .ok (.iadd, 1) := by decide +kernel
theorem dX8_readMill_20 : decode cX8_readMill 20 = .ok (.invokevirtual 94, 3) := by decide +kernel
theorem dX8_readMill_23 : decode cX8_readMill 23 = .ok (.istore 5, 2) := by decide +kernel
theorem dX8_readMill_25 : decode cX8_readMill 25 = .ok (.iload 5, 2) := by decide +kernel
theorem dX8_readMill_27 : decode cX8_readMill 27 = .ok (.iload 4, 2) := by decide +kernel
theorem dX8_readMill_29 : decode cX8_readMill 29 = .ok (.if_icmp .ge 9, 3) := by decide +kernel
theorem dX8_readMill_32 : decode cX8_readMill 32 = .ok (.iconst (-1), 1) := by decide +kernel
theorem dX8_readMill_33 : decode cX8_readMill 33 = .ok (.iload_n 3, 1) := by decide +kernel
theorem dX8_readMill_34 : decode cX8_readMill 34 = .ok (.iconst 1, 1) := by decide +kernel
theorem dX8_readMill_35 : decode cX8_readMill 35 = .ok (.iadd, 1) := by decide +kernel
theorem dX8_readMill_36 : decode cX8_readMill 36 = .ok (.isub, 1) := by decide +kernel
theorem dX8_readMill_37 : decode cX8_readMill 37 = .ok (.ireturn, 1) := by decide +kernel
theorem dX8_readMill_38 : decode cX8_readMill 38 = .ok (.aload_n 0, 1) := by decide +kernel
theorem dX8_readMill_39 : decode cX8_readMill 39 = .ok (.iconst 4, 1) := by decide +kernel
theorem dX8_readMill_40 : decode cX8_readMill 40 = .ok (.iload_n 2, 1) := by decide +kernel
theorem dX8_readMill_41 : decode cX8_readMill 41 = .ok (.iconst (-1), 1) := by decide +kernel
theorem dX8_readMill_42 : decode cX8_readMill 42 = .ok (.bipush 10, 2) := by decide +kernel
theorem dX8_readMill_44 : decode cX8_readMill 44 = .ok (.iload 4, 2) := by decide +kernel
theorem dX8_readMill_46 : decode cX8_readMill 46 = .ok (.imul, 1) := by decide +kernel
theorem dX8_readMill_47 : decode cX8_readMill 47 = .ok (.iload 5, 2) := by decide +kernel
theorem dX8_readMill_49 : decode cX8_readMill 49 = .ok (.iadd, 1) := by decide +kernel
theorem dX8_readMill_50 : decode cX8_readMill 50 = .ok (.invokevirtual 71, 3) := by decide +kernel
theorem dX8_readMill_53 : decode cX8_readMill 53 = .ok (.iload_n 3, 1) := by decide +kernel
theorem dX8_readMill_54 : decode cX8_readMill 54 = .ok (.iconst 2, 1) := by decide +kernel
theorem dX8_readMill_55 : decode cX8_readMill 55 = .ok (.iadd, 1) := by decide +kernel
theorem dX8_readMill_56 : decode cX8_readMill 56 = .ok (.ireturn, 1) := by decide +kernel
theorem dX8_use_0 : decode cX8_use 0 = .ok (.iload_n 1, 1) := by decide +kernel
theorem dX8_use_1 : decode cX8_use 1 = .ok (.ifCond .lt 26, 3) := by decide +kernel
theorem dX8_use_4 : decode cX8_use 4 = .ok (.iload_n 1, 1) := by decide +kernel
theorem dX8_use_5 : decode cX8_use 5 = .ok (.bipush 12, 2) := by decide +kernel
theorem dX8_use_7 : decode cX8_use 7 = .ok (.if_icmp .ge 20, 3) := by decide +kernel
theorem dX8_use_10 : decode cX8_use 10 = .ok (.aload_n 0, 1) := by decide +kernel
theorem dX8_use_11 : decode cX8_use 11 = .ok (.getfield 24, 3) := by decide +kernel
theorem dX8_use_14 : decode cX8_use 14 = .ok (.iload_n 1, 1) := by decide +kernel
theorem dX8_use_15 : decode cX8_use 15 = .ok (.iaload, 1) := by decide +kernel
theorem dX8_use_16 : decode cX8_use 16 = .ok (.iconst (-1), 1) := by decide +kernel
theorem dX8_use_17 : decode cX8_use 17 = .ok (.if_icmp .ne 10, 3) := by decide +kernel
theorem dX8_use_20 : decode cX8_use 20 = .ok (.aload_n 0, 1) := by decide +kernel
theorem dX8_use_21 : decode cX8_use 21 = .ok (.getfield 24, 3) := by decide +kernel
theorem dX8_use_24 : decode cX8_use 24 = .ok (.iload_n 1, 1) := by decide +kernel
theorem dX8_use_25 : decode cX8_use 25 = .ok (.iload_n 2, 1) := by decide +kernel
theorem dX8_use_26 : decode cX8_use 26 = .ok (.iastore, 1) := by decide +kernel
theorem dX8_use_27 : decode cX8_use 27 = .ok (.return_, 1) := by decide +kernel
