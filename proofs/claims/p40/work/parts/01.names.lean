-- ===== PART A: goes FIRST, ahead of the names: the tables' words, and 'selects' of the private methods out of them =====
/-- a private method of a class that the tables say can be made, by its rows of tables_1 -/
def lw_okq (q : MethodName × Nat) : Prop := (q.1.cls ≠ "java/lang/invoke/MethodHandle" ∧ q.1.cls ≠ "java/lang/invoke/VarHandle") ∧ Cond.instantiable q.1.cls q.2 ∈ tables_1 ∧ Cond.privateMethod q.1 ∈ tables_1 ∧ Cond.instanceMethod q.1 ∈ tables_1
theorem lw_p0 : lw_okq (⟨"DownTheGutter$Town", "clear", "()V"⟩, 9) := ⟨⟨by decide +kernel, by decide +kernel⟩, List.mem_of_getElem? (i := 55) (by decide +kernel), List.mem_of_getElem? (i := 433) (by decide +kernel), List.mem_of_getElem? (i := 434) (by decide +kernel)⟩
theorem lw_p1 : lw_okq (⟨"DownTheGutter$Town", "readLine", "(LDownTheGutter$Signs;I)I"⟩, 9) := ⟨⟨by decide +kernel, by decide +kernel⟩, List.mem_of_getElem? (i := 55) (by decide +kernel), List.mem_of_getElem? (i := 448) (by decide +kernel), List.mem_of_getElem? (i := 449) (by decide +kernel)⟩
theorem lw_p2 : lw_okq (⟨"DownTheGutter$Town", "addPlace", "(IIII)V"⟩, 9) := ⟨⟨by decide +kernel, by decide +kernel⟩, List.mem_of_getElem? (i := 55) (by decide +kernel), List.mem_of_getElem? (i := 545) (by decide +kernel), List.mem_of_getElem? (i := 546) (by decide +kernel)⟩
theorem lw_p3 : lw_okq (⟨"DownTheGutter$Town", "use", "(II)V"⟩, 9) := ⟨⟨by decide +kernel, by decide +kernel⟩, List.mem_of_getElem? (i := 55) (by decide +kernel), List.mem_of_getElem? (i := 553) (by decide +kernel), List.mem_of_getElem? (i := 554) (by decide +kernel)⟩
theorem lw_p4 : lw_okq (⟨"DownTheGutter$Town", "readFork", "(LDownTheGutter$Signs;II)I"⟩, 9) := ⟨⟨by decide +kernel, by decide +kernel⟩, List.mem_of_getElem? (i := 55) (by decide +kernel), List.mem_of_getElem? (i := 557) (by decide +kernel), List.mem_of_getElem? (i := 558) (by decide +kernel)⟩
theorem lw_p5 : lw_okq (⟨"DownTheGutter$Town", "readMill", "(LDownTheGutter$Signs;II)I"⟩, 9) := ⟨⟨by decide +kernel, by decide +kernel⟩, List.mem_of_getElem? (i := 55) (by decide +kernel), List.mem_of_getElem? (i := 561) (by decide +kernel), List.mem_of_getElem? (i := 562) (by decide +kernel)⟩
theorem lw_p6 : lw_okq (⟨"DownTheGutter$Town", "readFigure", "(LDownTheGutter$Signs;III)I"⟩, 9) := ⟨⟨by decide +kernel, by decide +kernel⟩, List.mem_of_getElem? (i := 55) (by decide +kernel), List.mem_of_getElem? (i := 569) (by decide +kernel), List.mem_of_getElem? (i := 570) (by decide +kernel)⟩
theorem lw_p7 : lw_okq (⟨"DownTheGutter$Town", "judgeLetters", "()I"⟩, 9) := ⟨⟨by decide +kernel, by decide +kernel⟩, List.mem_of_getElem? (i := 55) (by decide +kernel), List.mem_of_getElem? (i := 573) (by decide +kernel), List.mem_of_getElem? (i := 574) (by decide +kernel)⟩
theorem lw_p8 : lw_okq (⟨"DownTheGutter$Rule", "clear", "()V"⟩, 11) := ⟨⟨by decide +kernel, by decide +kernel⟩, List.mem_of_getElem? (i := 107) (by decide +kernel), List.mem_of_getElem? (i := 614) (by decide +kernel), List.mem_of_getElem? (i := 615) (by decide +kernel)⟩
theorem lw_p9 : lw_okq (⟨"DownTheGutter$Rule", "addFact", "(I)V"⟩, 11) := ⟨⟨by decide +kernel, by decide +kernel⟩, List.mem_of_getElem? (i := 107) (by decide +kernel), List.mem_of_getElem? (i := 620) (by decide +kernel), List.mem_of_getElem? (i := 621) (by decide +kernel)⟩
theorem lw_p10 : lw_okq (⟨"DownTheGutter$Rule", "addStep", "(I)V"⟩, 11) := ⟨⟨by decide +kernel, by decide +kernel⟩, List.mem_of_getElem? (i := 107) (by decide +kernel), List.mem_of_getElem? (i := 624) (by decide +kernel), List.mem_of_getElem? (i := 625) (by decide +kernel)⟩
theorem lw_p11 : lw_okq (⟨"DownTheGutter$Rule", "finish", "(I)I"⟩, 11) := ⟨⟨by decide +kernel, by decide +kernel⟩, List.mem_of_getElem? (i := 107) (by decide +kernel), List.mem_of_getElem? (i := 628) (by decide +kernel), List.mem_of_getElem? (i := 629) (by decide +kernel)⟩
theorem lw_p12 : lw_okq (⟨"DownTheGutter$Rule", "release", "(I)V"⟩, 11) := ⟨⟨by decide +kernel, by decide +kernel⟩, List.mem_of_getElem? (i := 107) (by decide +kernel), List.mem_of_getElem? (i := 632) (by decide +kernel), List.mem_of_getElem? (i := 633) (by decide +kernel)⟩
theorem lw_p13 : lw_okq (⟨"DownTheGutter$Rule", "takeThing", "(LDownTheGutter$Signs;I)Z"⟩, 11) := ⟨⟨by decide +kernel, by decide +kernel⟩, List.mem_of_getElem? (i := 107) (by decide +kernel), List.mem_of_getElem? (i := 639) (by decide +kernel), List.mem_of_getElem? (i := 640) (by decide +kernel)⟩
theorem lw_p14 : lw_okq (⟨"DownTheGutter$Rule", "hold", "(I)V"⟩, 11) := ⟨⟨by decide +kernel, by decide +kernel⟩, List.mem_of_getElem? (i := 107) (by decide +kernel), List.mem_of_getElem? (i := 647) (by decide +kernel), List.mem_of_getElem? (i := 648) (by decide +kernel)⟩
theorem lw_p15 : lw_okq (⟨"DownTheGutter$Rule", "takeBehindThing", "(LDownTheGutter$Signs;I)Z"⟩, 11) := ⟨⟨by decide +kernel, by decide +kernel⟩, List.mem_of_getElem? (i := 107) (by decide +kernel), List.mem_of_getElem? (i := 651) (by decide +kernel), List.mem_of_getElem? (i := 652) (by decide +kernel)⟩
def lw_privs_1 : List (MethodName × Nat) := [(⟨"DownTheGutter$Town", "clear", "()V"⟩, 9), (⟨"DownTheGutter$Town", "readLine", "(LDownTheGutter$Signs;I)I"⟩, 9), (⟨"DownTheGutter$Town", "addPlace", "(IIII)V"⟩, 9), (⟨"DownTheGutter$Town", "use", "(II)V"⟩, 9), (⟨"DownTheGutter$Town", "readFork", "(LDownTheGutter$Signs;II)I"⟩, 9), (⟨"DownTheGutter$Town", "readMill", "(LDownTheGutter$Signs;II)I"⟩, 9), (⟨"DownTheGutter$Town", "readFigure", "(LDownTheGutter$Signs;III)I"⟩, 9), (⟨"DownTheGutter$Town", "judgeLetters", "()I"⟩, 9), (⟨"DownTheGutter$Rule", "clear", "()V"⟩, 11), (⟨"DownTheGutter$Rule", "addFact", "(I)V"⟩, 11), (⟨"DownTheGutter$Rule", "addStep", "(I)V"⟩, 11), (⟨"DownTheGutter$Rule", "finish", "(I)I"⟩, 11), (⟨"DownTheGutter$Rule", "release", "(I)V"⟩, 11), (⟨"DownTheGutter$Rule", "takeThing", "(LDownTheGutter$Signs;I)Z"⟩, 11), (⟨"DownTheGutter$Rule", "hold", "(I)V"⟩, 11), (⟨"DownTheGutter$Rule", "takeBehindThing", "(LDownTheGutter$Signs;I)Z"⟩, 11)]
theorem lw_r1 : ∀ q ∈ lw_privs_1, lw_okq q := List.forall_mem_cons.mpr ⟨lw_p0, List.forall_mem_cons.mpr ⟨lw_p1, List.forall_mem_cons.mpr ⟨lw_p2, List.forall_mem_cons.mpr ⟨lw_p3, List.forall_mem_cons.mpr ⟨lw_p4, List.forall_mem_cons.mpr ⟨lw_p5, List.forall_mem_cons.mpr ⟨lw_p6, List.forall_mem_cons.mpr ⟨lw_p7, List.forall_mem_cons.mpr ⟨lw_p8, List.forall_mem_cons.mpr ⟨lw_p9, List.forall_mem_cons.mpr ⟨lw_p10, List.forall_mem_cons.mpr ⟨lw_p11, List.forall_mem_cons.mpr ⟨lw_p12, List.forall_mem_cons.mpr ⟨lw_p13, List.forall_mem_cons.mpr ⟨lw_p14, List.forall_mem_cons.mpr ⟨lw_p15, fun _ h => absurd h List.not_mem_nil⟩⟩⟩⟩⟩⟩⟩⟩⟩⟩⟩⟩⟩⟩⟩⟩
theorem lw_p16 : lw_okq (⟨"DownTheGutter$Rule", "lengthenNumber", "(I)Z"⟩, 11) := ⟨⟨by decide +kernel, by decide +kernel⟩, List.mem_of_getElem? (i := 107) (by decide +kernel), List.mem_of_getElem? (i := 655) (by decide +kernel), List.mem_of_getElem? (i := 656) (by decide +kernel)⟩
theorem lw_p17 : lw_okq (⟨"DownTheGutter$Rule", "close", "()Z"⟩, 11) := ⟨⟨by decide +kernel, by decide +kernel⟩, List.mem_of_getElem? (i := 107) (by decide +kernel), List.mem_of_getElem? (i := 659) (by decide +kernel), List.mem_of_getElem? (i := 660) (by decide +kernel)⟩
theorem lw_p18 : lw_okq (⟨"DownTheGutter", "passMinutes", "(I)V"⟩, 16) := ⟨⟨by decide +kernel, by decide +kernel⟩, List.mem_of_getElem? (i := 28) (by decide +kernel), List.mem_of_getElem? (i := 750) (by decide +kernel), List.mem_of_getElem? (i := 751) (by decide +kernel)⟩
theorem lw_p19 : lw_okq (⟨"DownTheGutter$Current", "flowIn", "(I)I"⟩, 10) := ⟨⟨by decide +kernel, by decide +kernel⟩, List.mem_of_getElem? (i := 278) (by decide +kernel), List.mem_of_getElem? (i := 758) (by decide +kernel), List.mem_of_getElem? (i := 759) (by decide +kernel)⟩
theorem lw_p20 : lw_okq (⟨"DownTheGutter$Current", "step", "(LDownTheGutter$Scene;II)Z"⟩, 10) := ⟨⟨by decide +kernel, by decide +kernel⟩, List.mem_of_getElem? (i := 278) (by decide +kernel), List.mem_of_getElem? (i := 768) (by decide +kernel), List.mem_of_getElem? (i := 769) (by decide +kernel)⟩
theorem lw_p21 : lw_okq (⟨"DownTheGutter$Current", "wayOf", "(LDownTheGutter$Scene;III)I"⟩, 10) := ⟨⟨by decide +kernel, by decide +kernel⟩, List.mem_of_getElem? (i := 278) (by decide +kernel), List.mem_of_getElem? (i := 788) (by decide +kernel), List.mem_of_getElem? (i := 789) (by decide +kernel)⟩
theorem lw_p22 : lw_okq (⟨"DownTheGutter$Current", "pays", "(LDownTheGutter$Scene;II)Z"⟩, 10) := ⟨⟨by decide +kernel, by decide +kernel⟩, List.mem_of_getElem? (i := 278) (by decide +kernel), List.mem_of_getElem? (i := 818) (by decide +kernel), List.mem_of_getElem? (i := 819) (by decide +kernel)⟩
theorem lw_p23 : lw_okq (⟨"DownTheGutter$Current", "arrives", "(LDownTheGutter$Scene;III)Z"⟩, 10) := ⟨⟨by decide +kernel, by decide +kernel⟩, List.mem_of_getElem? (i := 278) (by decide +kernel), List.mem_of_getElem? (i := 830) (by decide +kernel), List.mem_of_getElem? (i := 831) (by decide +kernel)⟩
theorem lw_p24 : lw_okq (⟨"DownTheGutter$Diary", "readAct", "(LDownTheGutter$Signs;I)I"⟩, 5) := ⟨⟨by decide +kernel, by decide +kernel⟩, List.mem_of_getElem? (i := 149) (by decide +kernel), List.mem_of_getElem? (i := 857) (by decide +kernel), List.mem_of_getElem? (i := 858) (by decide +kernel)⟩
theorem lw_p25 : lw_okq (⟨"DownTheGutter$Diary", "readPut", "(LDownTheGutter$Signs;I)I"⟩, 5) := ⟨⟨by decide +kernel, by decide +kernel⟩, List.mem_of_getElem? (i := 149) (by decide +kernel), List.mem_of_getElem? (i := 863) (by decide +kernel), List.mem_of_getElem? (i := 864) (by decide +kernel)⟩
theorem lw_p26 : lw_okq (⟨"DownTheGutter$Diary", "add", "(IIII)V"⟩, 5) := ⟨⟨by decide +kernel, by decide +kernel⟩, List.mem_of_getElem? (i := 149) (by decide +kernel), List.mem_of_getElem? (i := 876) (by decide +kernel), List.mem_of_getElem? (i := 877) (by decide +kernel)⟩
theorem lw_p27 : lw_okq (⟨"DownTheGutter$Diary", "readTurn", "(LDownTheGutter$Signs;I)I"⟩, 5) := ⟨⟨by decide +kernel, by decide +kernel⟩, List.mem_of_getElem? (i := 149) (by decide +kernel), List.mem_of_getElem? (i := 880) (by decide +kernel), List.mem_of_getElem? (i := 881) (by decide +kernel)⟩
theorem lw_p28 : lw_okq (⟨"DownTheGutter$Diary", "readMinutes", "(LDownTheGutter$Signs;I)I"⟩, 5) := ⟨⟨by decide +kernel, by decide +kernel⟩, List.mem_of_getElem? (i := 149) (by decide +kernel), List.mem_of_getElem? (i := 884) (by decide +kernel), List.mem_of_getElem? (i := 885) (by decide +kernel)⟩
theorem lw_p29 : lw_okq (⟨"DownTheGutter$Diary", "readGive", "(LDownTheGutter$Signs;I)I"⟩, 5) := ⟨⟨by decide +kernel, by decide +kernel⟩, List.mem_of_getElem? (i := 149) (by decide +kernel), List.mem_of_getElem? (i := 888) (by decide +kernel), List.mem_of_getElem? (i := 889) (by decide +kernel)⟩
theorem lw_p30 : lw_okq (⟨"DownTheGutter", "perform", "(I)I"⟩, 16) := ⟨⟨by decide +kernel, by decide +kernel⟩, List.mem_of_getElem? (i := 28) (by decide +kernel), List.mem_of_getElem? (i := 893) (by decide +kernel), List.mem_of_getElem? (i := 894) (by decide +kernel)⟩
theorem lw_p31 : lw_okq (⟨"DownTheGutter$Diary", "has", "(I)Z"⟩, 5) := ⟨⟨by decide +kernel, by decide +kernel⟩, List.mem_of_getElem? (i := 149) (by decide +kernel), List.mem_of_getElem? (i := 901) (by decide +kernel), List.mem_of_getElem? (i := 902) (by decide +kernel)⟩
def lw_privs_2 : List (MethodName × Nat) := [(⟨"DownTheGutter$Rule", "lengthenNumber", "(I)Z"⟩, 11), (⟨"DownTheGutter$Rule", "close", "()Z"⟩, 11), (⟨"DownTheGutter", "passMinutes", "(I)V"⟩, 16), (⟨"DownTheGutter$Current", "flowIn", "(I)I"⟩, 10), (⟨"DownTheGutter$Current", "step", "(LDownTheGutter$Scene;II)Z"⟩, 10), (⟨"DownTheGutter$Current", "wayOf", "(LDownTheGutter$Scene;III)I"⟩, 10), (⟨"DownTheGutter$Current", "pays", "(LDownTheGutter$Scene;II)Z"⟩, 10), (⟨"DownTheGutter$Current", "arrives", "(LDownTheGutter$Scene;III)Z"⟩, 10), (⟨"DownTheGutter$Diary", "readAct", "(LDownTheGutter$Signs;I)I"⟩, 5), (⟨"DownTheGutter$Diary", "readPut", "(LDownTheGutter$Signs;I)I"⟩, 5), (⟨"DownTheGutter$Diary", "add", "(IIII)V"⟩, 5), (⟨"DownTheGutter$Diary", "readTurn", "(LDownTheGutter$Signs;I)I"⟩, 5), (⟨"DownTheGutter$Diary", "readMinutes", "(LDownTheGutter$Signs;I)I"⟩, 5), (⟨"DownTheGutter$Diary", "readGive", "(LDownTheGutter$Signs;I)I"⟩, 5), (⟨"DownTheGutter", "perform", "(I)I"⟩, 16), (⟨"DownTheGutter$Diary", "has", "(I)Z"⟩, 5)]
theorem lw_r2 : ∀ q ∈ lw_privs_2, lw_okq q := List.forall_mem_cons.mpr ⟨lw_p16, List.forall_mem_cons.mpr ⟨lw_p17, List.forall_mem_cons.mpr ⟨lw_p18, List.forall_mem_cons.mpr ⟨lw_p19, List.forall_mem_cons.mpr ⟨lw_p20, List.forall_mem_cons.mpr ⟨lw_p21, List.forall_mem_cons.mpr ⟨lw_p22, List.forall_mem_cons.mpr ⟨lw_p23, List.forall_mem_cons.mpr ⟨lw_p24, List.forall_mem_cons.mpr ⟨lw_p25, List.forall_mem_cons.mpr ⟨lw_p26, List.forall_mem_cons.mpr ⟨lw_p27, List.forall_mem_cons.mpr ⟨lw_p28, List.forall_mem_cons.mpr ⟨lw_p29, List.forall_mem_cons.mpr ⟨lw_p30, List.forall_mem_cons.mpr ⟨lw_p31, fun _ h => absurd h List.not_mem_nil⟩⟩⟩⟩⟩⟩⟩⟩⟩⟩⟩⟩⟩⟩⟩⟩
theorem lw_p32 : lw_okq (⟨"DownTheGutter", "sailed", "(IIII)I"⟩, 16) := ⟨⟨by decide +kernel, by decide +kernel⟩, List.mem_of_getElem? (i := 28) (by decide +kernel), List.mem_of_getElem? (i := 990) (by decide +kernel), List.mem_of_getElem? (i := 991) (by decide +kernel)⟩
theorem lw_p33 : lw_okq (⟨"DownTheGutter", "fewestTurns", "(I)I"⟩, 16) := ⟨⟨by decide +kernel, by decide +kernel⟩, List.mem_of_getElem? (i := 28) (by decide +kernel), List.mem_of_getElem? (i := 1064) (by decide +kernel), List.mem_of_getElem? (i := 1065) (by decide +kernel)⟩
theorem lw_p34 : lw_okq (⟨"DownTheGutter$Trials", "remember", "(II)V"⟩, 9) := ⟨⟨by decide +kernel, by decide +kernel⟩, List.mem_of_getElem? (i := 321) (by decide +kernel), List.mem_of_getElem? (i := 1072) (by decide +kernel), List.mem_of_getElem? (i := 1073) (by decide +kernel)⟩
theorem lw_p35 : lw_okq (⟨"DownTheGutter$Trials", "spread", "(II)V"⟩, 9) := ⟨⟨by decide +kernel, by decide +kernel⟩, List.mem_of_getElem? (i := 321) (by decide +kernel), List.mem_of_getElem? (i := 1085) (by decide +kernel), List.mem_of_getElem? (i := 1086) (by decide +kernel)⟩
theorem lw_p36 : lw_okq (⟨"DownTheGutter", "firstGets", "(IIIZ)Z"⟩, 16) := ⟨⟨by decide +kernel, by decide +kernel⟩, List.mem_of_getElem? (i := 28) (by decide +kernel), List.mem_of_getElem? (i := 1103) (by decide +kernel), List.mem_of_getElem? (i := 1104) (by decide +kernel)⟩
theorem lw_p37 : lw_okq (⟨"DownTheGutter", "findFits", "()V"⟩, 16) := ⟨⟨by decide +kernel, by decide +kernel⟩, List.mem_of_getElem? (i := 28) (by decide +kernel), List.mem_of_getElem? (i := 1126) (by decide +kernel), List.mem_of_getElem? (i := 1127) (by decide +kernel)⟩
theorem lw_p38 : lw_okq (⟨"DownTheGutter$Corks", "has", "(I)Z"⟩, 4) := ⟨⟨by decide +kernel, by decide +kernel⟩, List.mem_of_getElem? (i := 243) (by decide +kernel), List.mem_of_getElem? (i := 1142) (by decide +kernel), List.mem_of_getElem? (i := 1143) (by decide +kernel)⟩
theorem lw_p39 : lw_okq (⟨"DownTheGutter$Trials", "tally", "(I)I"⟩, 9) := ⟨⟨by decide +kernel, by decide +kernel⟩, List.mem_of_getElem? (i := 321) (by decide +kernel), List.mem_of_getElem? (i := 1174) (by decide +kernel), List.mem_of_getElem? (i := 1175) (by decide +kernel)⟩
theorem lw_p40 : lw_okq (⟨"java/lang/Throwable", "fillInStackTrace", "(I)Ljava/lang/Throwable;"⟩, 6) := ⟨⟨by decide +kernel, by decide +kernel⟩, List.mem_of_getElem? (i := 1256) (by decide +kernel), List.mem_of_getElem? (i := 1254) (by decide +kernel), List.mem_of_getElem? (i := 1255) (by decide +kernel)⟩
theorem lw_p41 : lw_okq (⟨"DownTheGutterModel", "begins", "(I)I"⟩, 60) := ⟨⟨by decide +kernel, by decide +kernel⟩, List.mem_of_getElem? (i := 1321) (by decide +kernel), List.mem_of_getElem? (i := 1523) (by decide +kernel), List.mem_of_getElem? (i := 1524) (by decide +kernel)⟩
theorem lw_p42 : lw_okq (⟨"DownTheGutterModel", "readsPlace", "()Z"⟩, 60) := ⟨⟨by decide +kernel, by decide +kernel⟩, List.mem_of_getElem? (i := 1321) (by decide +kernel), List.mem_of_getElem? (i := 1528) (by decide +kernel), List.mem_of_getElem? (i := 1529) (by decide +kernel)⟩
theorem lw_p43 : lw_okq (⟨"DownTheGutterModel", "takesOf", "(Ljava/lang/String;)I"⟩, 60) := ⟨⟨by decide +kernel, by decide +kernel⟩, List.mem_of_getElem? (i := 1321) (by decide +kernel), List.mem_of_getElem? (i := 1533) (by decide +kernel), List.mem_of_getElem? (i := 1534) (by decide +kernel)⟩
theorem lw_p44 : lw_okq (⟨"DownTheGutterModel", "among", "(Ljava/lang/String;)I"⟩, 60) := ⟨⟨by decide +kernel, by decide +kernel⟩, List.mem_of_getElem? (i := 1321) (by decide +kernel), List.mem_of_getElem? (i := 1537) (by decide +kernel), List.mem_of_getElem? (i := 1538) (by decide +kernel)⟩
theorem lw_p45 : lw_okq (⟨"DownTheGutterModel", "readsLetter", "()I"⟩, 60) := ⟨⟨by decide +kernel, by decide +kernel⟩, List.mem_of_getElem? (i := 1321) (by decide +kernel), List.mem_of_getElem? (i := 1565) (by decide +kernel), List.mem_of_getElem? (i := 1566) (by decide +kernel)⟩
theorem lw_p46 : lw_okq (⟨"DownTheGutterModel", "takes", "(I)Z"⟩, 60) := ⟨⟨by decide +kernel, by decide +kernel⟩, List.mem_of_getElem? (i := 1321) (by decide +kernel), List.mem_of_getElem? (i := 1651) (by decide +kernel), List.mem_of_getElem? (i := 1652) (by decide +kernel)⟩
theorem lw_p47 : lw_okq (⟨"DownTheGutterModel", "faultOf", "(IIZ)I"⟩, 60) := ⟨⟨by decide +kernel, by decide +kernel⟩, List.mem_of_getElem? (i := 1321) (by decide +kernel), List.mem_of_getElem? (i := 1655) (by decide +kernel), List.mem_of_getElem? (i := 1656) (by decide +kernel)⟩
def lw_privs_3 : List (MethodName × Nat) := [(⟨"DownTheGutter", "sailed", "(IIII)I"⟩, 16), (⟨"DownTheGutter", "fewestTurns", "(I)I"⟩, 16), (⟨"DownTheGutter$Trials", "remember", "(II)V"⟩, 9), (⟨"DownTheGutter$Trials", "spread", "(II)V"⟩, 9), (⟨"DownTheGutter", "firstGets", "(IIIZ)Z"⟩, 16), (⟨"DownTheGutter", "findFits", "()V"⟩, 16), (⟨"DownTheGutter$Corks", "has", "(I)Z"⟩, 4), (⟨"DownTheGutter$Trials", "tally", "(I)I"⟩, 9), (⟨"java/lang/Throwable", "fillInStackTrace", "(I)Ljava/lang/Throwable;"⟩, 6), (⟨"DownTheGutterModel", "begins", "(I)I"⟩, 60), (⟨"DownTheGutterModel", "readsPlace", "()Z"⟩, 60), (⟨"DownTheGutterModel", "takesOf", "(Ljava/lang/String;)I"⟩, 60), (⟨"DownTheGutterModel", "among", "(Ljava/lang/String;)I"⟩, 60), (⟨"DownTheGutterModel", "readsLetter", "()I"⟩, 60), (⟨"DownTheGutterModel", "takes", "(I)Z"⟩, 60), (⟨"DownTheGutterModel", "faultOf", "(IIZ)I"⟩, 60)]
theorem lw_r3 : ∀ q ∈ lw_privs_3, lw_okq q := List.forall_mem_cons.mpr ⟨lw_p32, List.forall_mem_cons.mpr ⟨lw_p33, List.forall_mem_cons.mpr ⟨lw_p34, List.forall_mem_cons.mpr ⟨lw_p35, List.forall_mem_cons.mpr ⟨lw_p36, List.forall_mem_cons.mpr ⟨lw_p37, List.forall_mem_cons.mpr ⟨lw_p38, List.forall_mem_cons.mpr ⟨lw_p39, List.forall_mem_cons.mpr ⟨lw_p40, List.forall_mem_cons.mpr ⟨lw_p41, List.forall_mem_cons.mpr ⟨lw_p42, List.forall_mem_cons.mpr ⟨lw_p43, List.forall_mem_cons.mpr ⟨lw_p44, List.forall_mem_cons.mpr ⟨lw_p45, List.forall_mem_cons.mpr ⟨lw_p46, List.forall_mem_cons.mpr ⟨lw_p47, fun _ h => absurd h List.not_mem_nil⟩⟩⟩⟩⟩⟩⟩⟩⟩⟩⟩⟩⟩⟩⟩⟩
theorem lw_p48 : lw_okq (⟨"DownTheGutterModel", "readsRank", "(I)Z"⟩, 60) := ⟨⟨by decide +kernel, by decide +kernel⟩, List.mem_of_getElem? (i := 1321) (by decide +kernel), List.mem_of_getElem? (i := 1668) (by decide +kernel), List.mem_of_getElem? (i := 1669) (by decide +kernel)⟩
theorem lw_p49 : lw_okq (⟨"DownTheGutterModel", "readsThing", "()Z"⟩, 60) := ⟨⟨by decide +kernel, by decide +kernel⟩, List.mem_of_getElem? (i := 1321) (by decide +kernel), List.mem_of_getElem? (i := 1672) (by decide +kernel), List.mem_of_getElem? (i := 1673) (by decide +kernel)⟩
theorem lw_p50 : lw_okq (⟨"DownTheGutterModel", "codes", "(I)V"⟩, 60) := ⟨⟨by decide +kernel, by decide +kernel⟩, List.mem_of_getElem? (i := 1321) (by decide +kernel), List.mem_of_getElem? (i := 1676) (by decide +kernel), List.mem_of_getElem? (i := 1677) (by decide +kernel)⟩
theorem lw_p51 : lw_okq (⟨"DownTheGutterModel", "isDigit", "()Z"⟩, 60) := ⟨⟨by decide +kernel, by decide +kernel⟩, List.mem_of_getElem? (i := 1321) (by decide +kernel), List.mem_of_getElem? (i := 1680) (by decide +kernel), List.mem_of_getElem? (i := 1681) (by decide +kernel)⟩
theorem lw_p52 : lw_okq (⟨"DownTheGutterModel", "numberOf", "(I)I"⟩, 60) := ⟨⟨by decide +kernel, by decide +kernel⟩, List.mem_of_getElem? (i := 1321) (by decide +kernel), List.mem_of_getElem? (i := 1686) (by decide +kernel), List.mem_of_getElem? (i := 1687) (by decide +kernel)⟩
theorem lw_p53 : lw_okq (⟨"DownTheGutterModel", "isPlace", "(I)Z"⟩, 60) := ⟨⟨by decide +kernel, by decide +kernel⟩, List.mem_of_getElem? (i := 1321) (by decide +kernel), List.mem_of_getElem? (i := 1698) (by decide +kernel), List.mem_of_getElem? (i := 1699) (by decide +kernel)⟩
theorem lw_p54 : lw_okq (⟨"DownTheGutterModel", "refuse", "()I"⟩, 60) := ⟨⟨by decide +kernel, by decide +kernel⟩, List.mem_of_getElem? (i := 1321) (by decide +kernel), List.mem_of_getElem? (i := 1703) (by decide +kernel), List.mem_of_getElem? (i := 1704) (by decide +kernel)⟩
theorem lw_p55 : lw_okq (⟨"DownTheGutterModel", "isThing", "(I)Z"⟩, 60) := ⟨⟨by decide +kernel, by decide +kernel⟩, List.mem_of_getElem? (i := 1321) (by decide +kernel), List.mem_of_getElem? (i := 1711) (by decide +kernel), List.mem_of_getElem? (i := 1712) (by decide +kernel)⟩
theorem lw_p56 : lw_okq (⟨"DownTheGutterModel", "waterIn", "(I)I"⟩, 60) := ⟨⟨by decide +kernel, by decide +kernel⟩, List.mem_of_getElem? (i := 1321) (by decide +kernel), List.mem_of_getElem? (i := 1722) (by decide +kernel), List.mem_of_getElem? (i := 1723) (by decide +kernel)⟩
theorem lw_p57 : lw_okq (⟨"DownTheGutterModel", "isFork", "(I)Z"⟩, 60) := ⟨⟨by decide +kernel, by decide +kernel⟩, List.mem_of_getElem? (i := 1321) (by decide +kernel), List.mem_of_getElem? (i := 1737) (by decide +kernel), List.mem_of_getElem? (i := 1738) (by decide +kernel)⟩
theorem lw_p58 : lw_okq (⟨"DownTheGutterModel", "putsBy", "()V"⟩, 60) := ⟨⟨by decide +kernel, by decide +kernel⟩, List.mem_of_getElem? (i := 1321) (by decide +kernel), List.mem_of_getElem? (i := 1741) (by decide +kernel), List.mem_of_getElem? (i := 1742) (by decide +kernel)⟩
theorem lw_p59 : lw_okq (⟨"DownTheGutterModel", "adds", "(I)I"⟩, 60) := ⟨⟨by decide +kernel, by decide +kernel⟩, List.mem_of_getElem? (i := 1321) (by decide +kernel), List.mem_of_getElem? (i := 1745) (by decide +kernel), List.mem_of_getElem? (i := 1746) (by decide +kernel)⟩
theorem lw_p60 : lw_okq (⟨"DownTheGutterModel", "comesNow", "(IIII)I"⟩, 60) := ⟨⟨by decide +kernel, by decide +kernel⟩, List.mem_of_getElem? (i := 1321) (by decide +kernel), List.mem_of_getElem? (i := 1758) (by decide +kernel), List.mem_of_getElem? (i := 1759) (by decide +kernel)⟩
theorem lw_p61 : lw_okq (⟨"DownTheGutterModel", "canPut", "(III)Z"⟩, 60) := ⟨⟨by decide +kernel, by decide +kernel⟩, List.mem_of_getElem? (i := 1321) (by decide +kernel), List.mem_of_getElem? (i := 1762) (by decide +kernel), List.mem_of_getElem? (i := 1763) (by decide +kernel)⟩
theorem lw_p62 : lw_okq (⟨"DownTheGutterModel", "lays", "([IIIIII)V"⟩, 60) := ⟨⟨by decide +kernel, by decide +kernel⟩, List.mem_of_getElem? (i := 1321) (by decide +kernel), List.mem_of_getElem? (i := 1768) (by decide +kernel), List.mem_of_getElem? (i := 1769) (by decide +kernel)⟩
theorem lw_p63 : lw_okq (⟨"DownTheGutterModel", "gives", "(II)I"⟩, 60) := ⟨⟨by decide +kernel, by decide +kernel⟩, List.mem_of_getElem? (i := 1321) (by decide +kernel), List.mem_of_getElem? (i := 1776) (by decide +kernel), List.mem_of_getElem? (i := 1777) (by decide +kernel)⟩
def lw_privs_4 : List (MethodName × Nat) := [(⟨"DownTheGutterModel", "readsRank", "(I)Z"⟩, 60), (⟨"DownTheGutterModel", "readsThing", "()Z"⟩, 60), (⟨"DownTheGutterModel", "codes", "(I)V"⟩, 60), (⟨"DownTheGutterModel", "isDigit", "()Z"⟩, 60), (⟨"DownTheGutterModel", "numberOf", "(I)I"⟩, 60), (⟨"DownTheGutterModel", "isPlace", "(I)Z"⟩, 60), (⟨"DownTheGutterModel", "refuse", "()I"⟩, 60), (⟨"DownTheGutterModel", "isThing", "(I)Z"⟩, 60), (⟨"DownTheGutterModel", "waterIn", "(I)I"⟩, 60), (⟨"DownTheGutterModel", "isFork", "(I)Z"⟩, 60), (⟨"DownTheGutterModel", "putsBy", "()V"⟩, 60), (⟨"DownTheGutterModel", "adds", "(I)I"⟩, 60), (⟨"DownTheGutterModel", "comesNow", "(IIII)I"⟩, 60), (⟨"DownTheGutterModel", "canPut", "(III)Z"⟩, 60), (⟨"DownTheGutterModel", "lays", "([IIIIII)V"⟩, 60), (⟨"DownTheGutterModel", "gives", "(II)I"⟩, 60)]
theorem lw_r4 : ∀ q ∈ lw_privs_4, lw_okq q := List.forall_mem_cons.mpr ⟨lw_p48, List.forall_mem_cons.mpr ⟨lw_p49, List.forall_mem_cons.mpr ⟨lw_p50, List.forall_mem_cons.mpr ⟨lw_p51, List.forall_mem_cons.mpr ⟨lw_p52, List.forall_mem_cons.mpr ⟨lw_p53, List.forall_mem_cons.mpr ⟨lw_p54, List.forall_mem_cons.mpr ⟨lw_p55, List.forall_mem_cons.mpr ⟨lw_p56, List.forall_mem_cons.mpr ⟨lw_p57, List.forall_mem_cons.mpr ⟨lw_p58, List.forall_mem_cons.mpr ⟨lw_p59, List.forall_mem_cons.mpr ⟨lw_p60, List.forall_mem_cons.mpr ⟨lw_p61, List.forall_mem_cons.mpr ⟨lw_p62, List.forall_mem_cons.mpr ⟨lw_p63, fun _ h => absurd h List.not_mem_nil⟩⟩⟩⟩⟩⟩⟩⟩⟩⟩⟩⟩⟩⟩⟩⟩
theorem lw_p64 : lw_okq (⟨"DownTheGutterModel", "minuteGoes", "([I)V"⟩, 60) := ⟨⟨by decide +kernel, by decide +kernel⟩, List.mem_of_getElem? (i := 1321) (by decide +kernel), List.mem_of_getElem? (i := 1787) (by decide +kernel), List.mem_of_getElem? (i := 1788) (by decide +kernel)⟩
theorem lw_p65 : lw_okq (⟨"DownTheGutterModel", "steps", "([II)Z"⟩, 60) := ⟨⟨by decide +kernel, by decide +kernel⟩, List.mem_of_getElem? (i := 1321) (by decide +kernel), List.mem_of_getElem? (i := 1791) (by decide +kernel), List.mem_of_getElem? (i := 1792) (by decide +kernel)⟩
theorem lw_p66 : lw_okq (⟨"DownTheGutterModel", "ends", "([III)V"⟩, 60) := ⟨⟨by decide +kernel, by decide +kernel⟩, List.mem_of_getElem? (i := 1321) (by decide +kernel), List.mem_of_getElem? (i := 1795) (by decide +kernel), List.mem_of_getElem? (i := 1796) (by decide +kernel)⟩
theorem lw_p67 : lw_okq (⟨"DownTheGutterModel", "ruled", "([II)I"⟩, 60) := ⟨⟨by decide +kernel, by decide +kernel⟩, List.mem_of_getElem? (i := 1321) (by decide +kernel), List.mem_of_getElem? (i := 1799) (by decide +kernel), List.mem_of_getElem? (i := 1800) (by decide +kernel)⟩
theorem lw_p68 : lw_okq (⟨"DownTheGutterModel", "askedOf", "([III)I"⟩, 60) := ⟨⟨by decide +kernel, by decide +kernel⟩, List.mem_of_getElem? (i := 1321) (by decide +kernel), List.mem_of_getElem? (i := 1806) (by decide +kernel), List.mem_of_getElem? (i := 1807) (by decide +kernel)⟩
theorem lw_p69 : lw_okq (⟨"DownTheGutterModel", "enters", "(J)V"⟩, 60) := ⟨⟨by decide +kernel, by decide +kernel⟩, List.mem_of_getElem? (i := 1321) (by decide +kernel), List.mem_of_getElem? (i := 1813) (by decide +kernel), List.mem_of_getElem? (i := 1814) (by decide +kernel)⟩
theorem lw_p70 : lw_okq (⟨"DownTheGutterModel", "readsAct", "()Z"⟩, 60) := ⟨⟨by decide +kernel, by decide +kernel⟩, List.mem_of_getElem? (i := 1321) (by decide +kernel), List.mem_of_getElem? (i := 1822) (by decide +kernel), List.mem_of_getElem? (i := 1823) (by decide +kernel)⟩
theorem lw_p71 : lw_okq (⟨"DownTheGutterModel", "does", "(I)Z"⟩, 60) := ⟨⟨by decide +kernel, by decide +kernel⟩, List.mem_of_getElem? (i := 1321) (by decide +kernel), List.mem_of_getElem? (i := 1828) (by decide +kernel), List.mem_of_getElem? (i := 1829) (by decide +kernel)⟩
theorem lw_p72 : lw_okq (⟨"DownTheGutterModel", "goesOn", "(I)V"⟩, 60) := ⟨⟨by decide +kernel, by decide +kernel⟩, List.mem_of_getElem? (i := 1321) (by decide +kernel), List.mem_of_getElem? (i := 1837) (by decide +kernel), List.mem_of_getElem? (i := 1838) (by decide +kernel)⟩
theorem lw_p73 : lw_okq (⟨"DownTheGutterModel", "endsAfter", "([III)I"⟩, 60) := ⟨⟨by decide +kernel, by decide +kernel⟩, List.mem_of_getElem? (i := 1321) (by decide +kernel), List.mem_of_getElem? (i := 1848) (by decide +kernel), List.mem_of_getElem? (i := 1849) (by decide +kernel)⟩
theorem lw_p74 : lw_okq (⟨"DownTheGutterModel", "canSail", "(IIII)Z"⟩, 60) := ⟨⟨by decide +kernel, by decide +kernel⟩, List.mem_of_getElem? (i := 1321) (by decide +kernel), List.mem_of_getElem? (i := 1868) (by decide +kernel), List.mem_of_getElem? (i := 1869) (by decide +kernel)⟩
theorem lw_p75 : lw_okq (⟨"DownTheGutterModel", "isKitchen", "(I)Z"⟩, 60) := ⟨⟨by decide +kernel, by decide +kernel⟩, List.mem_of_getElem? (i := 1321) (by decide +kernel), List.mem_of_getElem? (i := 1872) (by decide +kernel), List.mem_of_getElem? (i := 1873) (by decide +kernel)⟩
theorem lw_p76 : lw_okq (⟨"DownTheGutterModel", "thinksNow", "()V"⟩, 60) := ⟨⟨by decide +kernel, by decide +kernel⟩, List.mem_of_getElem? (i := 1321) (by decide +kernel), List.mem_of_getElem? (i := 1876) (by decide +kernel), List.mem_of_getElem? (i := 1877) (by decide +kernel)⟩
theorem lw_p77 : lw_okq (⟨"DownTheGutterModel", "sails", "(IIIII)I"⟩, 60) := ⟨⟨by decide +kernel, by decide +kernel⟩, List.mem_of_getElem? (i := 1321) (by decide +kernel), List.mem_of_getElem? (i := 1880) (by decide +kernel), List.mem_of_getElem? (i := 1881) (by decide +kernel)⟩
theorem lw_p78 : lw_okq (⟨"DownTheGutterModel", "goesAlone", "(IIII)I"⟩, 60) := ⟨⟨by decide +kernel, by decide +kernel⟩, List.mem_of_getElem? (i := 1321) (by decide +kernel), List.mem_of_getElem? (i := 1884) (by decide +kernel), List.mem_of_getElem? (i := 1885) (by decide +kernel)⟩
theorem lw_p79 : lw_okq (⟨"DownTheGutterModel", "laysAlone", "(IIII)V"⟩, 60) := ⟨⟨by decide +kernel, by decide +kernel⟩, List.mem_of_getElem? (i := 1321) (by decide +kernel), List.mem_of_getElem? (i := 1888) (by decide +kernel), List.mem_of_getElem? (i := 1889) (by decide +kernel)⟩
def lw_privs_5 : List (MethodName × Nat) := [(⟨"DownTheGutterModel", "minuteGoes", "([I)V"⟩, 60), (⟨"DownTheGutterModel", "steps", "([II)Z"⟩, 60), (⟨"DownTheGutterModel", "ends", "([III)V"⟩, 60), (⟨"DownTheGutterModel", "ruled", "([II)I"⟩, 60), (⟨"DownTheGutterModel", "askedOf", "([III)I"⟩, 60), (⟨"DownTheGutterModel", "enters", "(J)V"⟩, 60), (⟨"DownTheGutterModel", "readsAct", "()Z"⟩, 60), (⟨"DownTheGutterModel", "does", "(I)Z"⟩, 60), (⟨"DownTheGutterModel", "goesOn", "(I)V"⟩, 60), (⟨"DownTheGutterModel", "endsAfter", "([III)I"⟩, 60), (⟨"DownTheGutterModel", "canSail", "(IIII)Z"⟩, 60), (⟨"DownTheGutterModel", "isKitchen", "(I)Z"⟩, 60), (⟨"DownTheGutterModel", "thinksNow", "()V"⟩, 60), (⟨"DownTheGutterModel", "sails", "(IIIII)I"⟩, 60), (⟨"DownTheGutterModel", "goesAlone", "(IIII)I"⟩, 60), (⟨"DownTheGutterModel", "laysAlone", "(IIII)V"⟩, 60)]
theorem lw_r5 : ∀ q ∈ lw_privs_5, lw_okq q := List.forall_mem_cons.mpr ⟨lw_p64, List.forall_mem_cons.mpr ⟨lw_p65, List.forall_mem_cons.mpr ⟨lw_p66, List.forall_mem_cons.mpr ⟨lw_p67, List.forall_mem_cons.mpr ⟨lw_p68, List.forall_mem_cons.mpr ⟨lw_p69, List.forall_mem_cons.mpr ⟨lw_p70, List.forall_mem_cons.mpr ⟨lw_p71, List.forall_mem_cons.mpr ⟨lw_p72, List.forall_mem_cons.mpr ⟨lw_p73, List.forall_mem_cons.mpr ⟨lw_p74, List.forall_mem_cons.mpr ⟨lw_p75, List.forall_mem_cons.mpr ⟨lw_p76, List.forall_mem_cons.mpr ⟨lw_p77, List.forall_mem_cons.mpr ⟨lw_p78, List.forall_mem_cons.mpr ⟨lw_p79, fun _ h => absurd h List.not_mem_nil⟩⟩⟩⟩⟩⟩⟩⟩⟩⟩⟩⟩⟩⟩⟩⟩
theorem lw_p80 : lw_okq (⟨"DownTheGutterModel", "saves", "(III)I"⟩, 60) := ⟨⟨by decide +kernel, by decide +kernel⟩, List.mem_of_getElem? (i := 1321) (by decide +kernel), List.mem_of_getElem? (i := 1920) (by decide +kernel), List.mem_of_getElem? (i := 1921) (by decide +kernel)⟩
theorem lw_p81 : lw_okq (⟨"DownTheGutterModel", "forks", "()I"⟩, 60) := ⟨⟨by decide +kernel, by decide +kernel⟩, List.mem_of_getElem? (i := 1321) (by decide +kernel), List.mem_of_getElem? (i := 1924) (by decide +kernel), List.mem_of_getElem? (i := 1925) (by decide +kernel)⟩
theorem lw_p82 : lw_okq (⟨"DownTheGutterModel", "savedAfter", "(II)I"⟩, 60) := ⟨⟨by decide +kernel, by decide +kernel⟩, List.mem_of_getElem? (i := 1321) (by decide +kernel), List.mem_of_getElem? (i := 1928) (by decide +kernel), List.mem_of_getElem? (i := 1929) (by decide +kernel)⟩
theorem lw_p83 : lw_okq (⟨"DownTheGutterModel", "plays", "(III)I"⟩, 60) := ⟨⟨by decide +kernel, by decide +kernel⟩, List.mem_of_getElem? (i := 1321) (by decide +kernel), List.mem_of_getElem? (i := 1944) (by decide +kernel), List.mem_of_getElem? (i := 1945) (by decide +kernel)⟩
theorem lw_p84 : lw_okq (⟨"DownTheGutterModel", "playsOut", "(I)I"⟩, 60) := ⟨⟨by decide +kernel, by decide +kernel⟩, List.mem_of_getElem? (i := 1321) (by decide +kernel), List.mem_of_getElem? (i := 1948) (by decide +kernel), List.mem_of_getElem? (i := 1949) (by decide +kernel)⟩
theorem lw_p85 : lw_okq (⟨"DownTheGutterModel", "laysFits", "()I"⟩, 60) := ⟨⟨by decide +kernel, by decide +kernel⟩, List.mem_of_getElem? (i := 1321) (by decide +kernel), List.mem_of_getElem? (i := 1965) (by decide +kernel), List.mem_of_getElem? (i := 1966) (by decide +kernel)⟩
theorem lw_p86 : lw_okq (⟨"DownTheGutterModel", "floatsTo", "(III)I"⟩, 60) := ⟨⟨by decide +kernel, by decide +kernel⟩, List.mem_of_getElem? (i := 1321) (by decide +kernel), List.mem_of_getElem? (i := 1969) (by decide +kernel), List.mem_of_getElem? (i := 1970) (by decide +kernel)⟩
theorem lw_p87 : lw_okq (⟨"DownTheGutterModel", "entersFraction", "(JJ)V"⟩, 60) := ⟨⟨by decide +kernel, by decide +kernel⟩, List.mem_of_getElem? (i := 1321) (by decide +kernel), List.mem_of_getElem? (i := 1983) (by decide +kernel), List.mem_of_getElem? (i := 1984) (by decide +kernel)⟩
def lw_privs_6 : List (MethodName × Nat) := [(⟨"DownTheGutterModel", "saves", "(III)I"⟩, 60), (⟨"DownTheGutterModel", "forks", "()I"⟩, 60), (⟨"DownTheGutterModel", "savedAfter", "(II)I"⟩, 60), (⟨"DownTheGutterModel", "plays", "(III)I"⟩, 60), (⟨"DownTheGutterModel", "playsOut", "(I)I"⟩, 60), (⟨"DownTheGutterModel", "laysFits", "()I"⟩, 60), (⟨"DownTheGutterModel", "floatsTo", "(III)I"⟩, 60), (⟨"DownTheGutterModel", "entersFraction", "(JJ)V"⟩, 60)]
theorem lw_r6 : ∀ q ∈ lw_privs_6, lw_okq q := List.forall_mem_cons.mpr ⟨lw_p80, List.forall_mem_cons.mpr ⟨lw_p81, List.forall_mem_cons.mpr ⟨lw_p82, List.forall_mem_cons.mpr ⟨lw_p83, List.forall_mem_cons.mpr ⟨lw_p84, List.forall_mem_cons.mpr ⟨lw_p85, List.forall_mem_cons.mpr ⟨lw_p86, List.forall_mem_cons.mpr ⟨lw_p87, fun _ h => absurd h List.not_mem_nil⟩⟩⟩⟩⟩⟩⟩⟩
def lw_privs : List (MethodName × Nat) := lw_privs_1 ++ (lw_privs_2 ++ (lw_privs_3 ++ (lw_privs_4 ++ (lw_privs_5 ++ (lw_privs_6)))))
def lw_tbl : List Cond := k2_sels lw_privs ++ tables_1
theorem lw_privs_ok : ∀ q ∈ lw_privs, lw_okq q := by
  show ∀ q ∈ lw_privs_1 ++ (lw_privs_2 ++ (lw_privs_3 ++ (lw_privs_4 ++ (lw_privs_5 ++ (lw_privs_6))))), lw_okq q
  exact List.forall_mem_append.mpr ⟨lw_r1, List.forall_mem_append.mpr ⟨lw_r2, List.forall_mem_append.mpr ⟨lw_r3, List.forall_mem_append.mpr ⟨lw_r4, List.forall_mem_append.mpr ⟨lw_r5, lw_r6⟩⟩⟩⟩⟩
def RX0 : String := "DownTheGutter$Corks"
def TX0 : u_T := fun k => match k with
  | 0 => ("DownTheGutter$Corks", "spots", "[I", true)
  | 1 => ("DownTheGutter$Corks", "minutes", "[I", true)
  | 2 => ("DownTheGutter$Corks", "ends", "[I", true)
  | _ => ("DownTheGutter$Corks", "told", "I", false)
def tyX0 : Nat → FieldType := fun k => match k with
  | 0 => .array .int
  | 1 => .array .int
  | 2 => .array .int
  | _ => .int
abbrev wsX00 : List Cond := u_ws RX0 TX0 4
theorem nmX0 : ∀ a, a < 4 → ∀ b, b < 4 → a ≠ b → (TX0 a).2.1 ≠ (TX0 b).2.1 := by decide +kernel
theorem tyX0_ok : ∀ k, k < 4 → parseFieldDescriptor (TX0 k).2.2.1 = some (tyX0 k) := by decide +kernel
abbrev cX0_init : ByteArray := prog_2_method_1_code
def yX0_init : MethodName := ⟨RX0, "<init>", "()V"⟩
abbrev cX0_has : ByteArray := prog_2_method_2_code
def yX0_has : MethodName := ⟨RX0, "has", "(I)Z"⟩
abbrev cX0_spotOf : ByteArray := prog_2_method_3_code
def yX0_spotOf : MethodName := ⟨RX0, "spotOf", "(I)I"⟩
abbrev cX0_minuteOf : ByteArray := prog_2_method_4_code
def yX0_minuteOf : MethodName := ⟨RX0, "minuteOf", "(I)I"⟩
abbrev cX0_endOf : ByteArray := prog_2_method_5_code
def yX0_endOf : MethodName := ⟨RX0, "endOf", "(I)I"⟩
abbrev cX0_add : ByteArray := prog_2_method_6_code
def yX0_add : MethodName := ⟨RX0, "add", "(III)Z"⟩
def RX1 : String := "DownTheGutter$Current"
def TX1 : u_T := fun k => match k with
  | 0 => ("DownTheGutter$Current", "town", "LDownTheGutter$Town;", true)
  | 1 => ("DownTheGutter$Current", "water", "LDownTheGutter$Water;", true)
  | 2 => ("DownTheGutter$Current", "rule", "LDownTheGutter$Rule;", true)
  | 3 => ("DownTheGutter$Current", "facts", "[I", true)
  | 4 => ("DownTheGutter$Current", "asked", "I", false)
  | 5 => ("DownTheGutter$Current", "stuck", "I", false)
  | 6 => ("DownTheGutter$Current", "steps", "I", false)
  | 7 => ("DownTheGutter$Current", "isEndless", "Z", false)
  | 8 => ("DownTheGutter$Current", "rain", "I", false)
  | _ => ("DownTheGutter$Current", "rainFrom", "I", false)
def tyX1 : Nat → FieldType := fun k => match k with
  | 0 => .object "DownTheGutter$Town"
  | 1 => .object "DownTheGutter$Water"
  | 2 => .object "DownTheGutter$Rule"
  | 3 => .array .int
  | 4 => .int
  | 5 => .int
  | 6 => .int
  | 7 => .boolean
  | 8 => .int
  | _ => .int
abbrev wsX10 : List Cond := u_ws RX1 TX1 10
theorem nmX1 : ∀ a, a < 10 → ∀ b, b < 10 → a ≠ b → (TX1 a).2.1 ≠ (TX1 b).2.1 := by decide +kernel
theorem tyX1_ok : ∀ k, k < 10 → parseFieldDescriptor (TX1 k).2.2.1 = some (tyX1 k) := by decide +kernel
abbrev cX1_init : ByteArray := prog_3_method_1_code
def yX1_init : MethodName := ⟨RX1, "<init>", "(LDownTheGutter$Town;LDownTheGutter$Water;LDownTheGutter$Rule;)V"⟩
abbrev cX1_seesOthers : ByteArray := prog_3_method_2_code
def yX1_seesOthers : MethodName := ⟨RX1, "seesOthers", "()Z"⟩
abbrev cX1_flowIn : ByteArray := prog_3_method_3_code
def yX1_flowIn : MethodName := ⟨RX1, "flowIn", "(I)I"⟩
abbrev cX1_pass : ByteArray := prog_3_method_4_code
def yX1_pass : MethodName := ⟨RX1, "pass", "(LDownTheGutter$Scene;)V"⟩
abbrev cX1_step : ByteArray := prog_3_method_5_code
def yX1_step : MethodName := ⟨RX1, "step", "(LDownTheGutter$Scene;II)Z"⟩
abbrev cX1_wayOf : ByteArray := prog_3_method_6_code
def yX1_wayOf : MethodName := ⟨RX1, "wayOf", "(LDownTheGutter$Scene;III)I"⟩
abbrev cX1_pays : ByteArray := prog_3_method_7_code
def yX1_pays : MethodName := ⟨RX1, "pays", "(LDownTheGutter$Scene;II)Z"⟩
abbrev cX1_arrives : ByteArray := prog_3_method_8_code
def yX1_arrives : MethodName := ⟨RX1, "arrives", "(LDownTheGutter$Scene;III)Z"⟩
def RX2 : String := "DownTheGutter$Diary"
def TX2 : u_T := fun k => match k with
  | 0 => ("DownTheGutter$Diary", "kinds", "[I", true)
  | 1 => ("DownTheGutter$Diary", "firsts", "[I", true)
  | 2 => ("DownTheGutter$Diary", "seconds", "[I", true)
  | 3 => ("DownTheGutter$Diary", "thirds", "[I", true)
  | _ => ("DownTheGutter$Diary", "acts", "I", false)
def tyX2 : Nat → FieldType := fun k => match k with
  | 0 => .array .int
  | 1 => .array .int
  | 2 => .array .int
  | 3 => .array .int
  | _ => .int
abbrev wsX20 : List Cond := u_ws RX2 TX2 5
theorem nmX2 : ∀ a, a < 5 → ∀ b, b < 5 → a ≠ b → (TX2 a).2.1 ≠ (TX2 b).2.1 := by decide +kernel
theorem tyX2_ok : ∀ k, k < 5 → parseFieldDescriptor (TX2 k).2.2.1 = some (tyX2 k) := by decide +kernel
abbrev cX2_init : ByteArray := prog_4_method_1_code
def yX2_init : MethodName := ⟨RX2, "<init>", "()V"⟩
abbrev cX2_has : ByteArray := prog_4_method_2_code
def yX2_has : MethodName := ⟨RX2, "has", "(I)Z"⟩
abbrev cX2_kindOf : ByteArray := prog_4_method_3_code
def yX2_kindOf : MethodName := ⟨RX2, "kindOf", "(I)I"⟩
abbrev cX2_firstOf : ByteArray := prog_4_method_4_code
def yX2_firstOf : MethodName := ⟨RX2, "firstOf", "(I)I"⟩
abbrev cX2_secondOf : ByteArray := prog_4_method_5_code
def yX2_secondOf : MethodName := ⟨RX2, "secondOf", "(I)I"⟩
abbrev cX2_thirdOf : ByteArray := prog_4_method_6_code
def yX2_thirdOf : MethodName := ⟨RX2, "thirdOf", "(I)I"⟩
abbrev cX2_read : ByteArray := prog_4_method_7_code
def yX2_read : MethodName := ⟨RX2, "read", "(LDownTheGutter$Signs;)I"⟩
abbrev cX2_readAct : ByteArray := prog_4_method_8_code
def yX2_readAct : MethodName := ⟨RX2, "readAct", "(LDownTheGutter$Signs;I)I"⟩
abbrev cX2_readPut : ByteArray := prog_4_method_9_code
def yX2_readPut : MethodName := ⟨RX2, "readPut", "(LDownTheGutter$Signs;I)I"⟩
abbrev cX2_readTurn : ByteArray := prog_4_method_10_code
def yX2_readTurn : MethodName := ⟨RX2, "readTurn", "(LDownTheGutter$Signs;I)I"⟩
abbrev cX2_readMinutes : ByteArray := prog_4_method_11_code
def yX2_readMinutes : MethodName := ⟨RX2, "readMinutes", "(LDownTheGutter$Signs;I)I"⟩
abbrev cX2_readGive : ByteArray := prog_4_method_12_code
def yX2_readGive : MethodName := ⟨RX2, "readGive", "(LDownTheGutter$Signs;I)I"⟩
abbrev cX2_behindNumber : ByteArray := prog_4_method_13_code
def yX2_behindNumber : MethodName := ⟨RX2, "behindNumber", "(LDownTheGutter$Signs;I)I"⟩
abbrev cX2_numberAt : ByteArray := prog_4_method_14_code
def yX2_numberAt : MethodName := ⟨RX2, "numberAt", "(LDownTheGutter$Signs;II)I"⟩
abbrev cX2_add : ByteArray := prog_4_method_15_code
def yX2_add : MethodName := ⟨RX2, "add", "(IIII)V"⟩
def RX3 : String := "DownTheGutter$Past"
def TX3 : u_T := fun k => match k with
  | 0 => ("DownTheGutter$Past", "scenes", "[LDownTheGutter$Scene;", true)
  | 1 => ("DownTheGutter$Past", "top", "I", false)
  | _ => ("DownTheGutter$Past", "size", "I", false)
def tyX3 : Nat → FieldType := fun k => match k with
  | 0 => .array (.object "DownTheGutter$Scene")
  | 1 => .int
  | _ => .int
abbrev wsX30 : List Cond := u_ws RX3 TX3 3
theorem nmX3 : ∀ a, a < 3 → ∀ b, b < 3 → a ≠ b → (TX3 a).2.1 ≠ (TX3 b).2.1 := by decide +kernel
theorem tyX3_ok : ∀ k, k < 3 → parseFieldDescriptor (TX3 k).2.2.1 = some (tyX3 k) := by decide +kernel
abbrev cX3_init : ByteArray := prog_5_method_1_code
def yX3_init : MethodName := ⟨RX3, "<init>", "()V"⟩
abbrev cX3_clear : ByteArray := prog_5_method_2_code
def yX3_clear : MethodName := ⟨RX3, "clear", "()V"⟩
abbrev cX3_push : ByteArray := prog_5_method_3_code
def yX3_push : MethodName := ⟨RX3, "push", "(LDownTheGutter$Scene;)V"⟩
abbrev cX3_pop : ByteArray := prog_5_method_4_code
def yX3_pop : MethodName := ⟨RX3, "pop", "(LDownTheGutter$Scene;)Z"⟩
def RX4 : String := "DownTheGutter$Row"
def TX4 : u_T := fun k => match k with
  | 0 => ("DownTheGutter$Row", "numbers", "[J", true)
  | _ => ("DownTheGutter$Row", "size", "I", false)
def tyX4 : Nat → FieldType := fun k => match k with
  | 0 => .array .long
  | _ => .int
abbrev wsX40 : List Cond := u_ws RX4 TX4 2
theorem nmX4 : ∀ a, a < 2 → ∀ b, b < 2 → a ≠ b → (TX4 a).2.1 ≠ (TX4 b).2.1 := by decide +kernel
theorem tyX4_ok : ∀ k, k < 2 → parseFieldDescriptor (TX4 k).2.2.1 = some (tyX4 k) := by decide +kernel
abbrev cX4_init : ByteArray := prog_6_method_1_code
def yX4_init : MethodName := ⟨RX4, "<init>", "()V"⟩
abbrev cX4_tell : ByteArray := prog_6_method_2_code
def yX4_tell : MethodName := ⟨RX4, "tell", "(J)V"⟩
abbrev cX4_tell_ : ByteArray := prog_6_method_3_code
def yX4_tell_ : MethodName := ⟨RX4, "tell", "(JJ)V"⟩
abbrev cX4_tell__ : ByteArray := prog_6_method_4_code
def yX4_tell__ : MethodName := ⟨RX4, "tell", "(JJJ)V"⟩
abbrev cX4_numberAt : ByteArray := prog_6_method_5_code
def yX4_numberAt : MethodName := ⟨RX4, "numberAt", "(I)J"⟩
def RX5 : String := "DownTheGutter$Rule"
def TX5 : u_T := fun k => match k with
  | 0 => ("DownTheGutter$Rule", "steps", "[I", true)
  | 1 => ("DownTheGutter$Rule", "stack", "[I", true)
  | 2 => ("DownTheGutter$Rule", "held", "[I", true)
  | 3 => ("DownTheGutter$Rule", "size", "I", false)
  | 4 => ("DownTheGutter$Rule", "holding", "I", false)
  | 5 => ("DownTheGutter$Rule", "open", "I", false)
  | 6 => ("DownTheGutter$Rule", "compared", "I", false)
  | 7 => ("DownTheGutter$Rule", "digits", "I", false)
  | 8 => ("DownTheGutter$Rule", "wantsThing", "Z", false)
  | 9 => ("DownTheGutter$Rule", "asksPlank", "Z", false)
  | _ => ("DownTheGutter$Rule", "asksOthers", "Z", false)
def tyX5 : Nat → FieldType := fun k => match k with
  | 0 => .array .int
  | 1 => .array .int
  | 2 => .array .int
  | 3 => .int
  | 4 => .int
  | 5 => .int
  | 6 => .int
  | 7 => .int
  | 8 => .boolean
  | 9 => .boolean
  | _ => .boolean
abbrev wsX50 : List Cond := u_ws RX5 TX5 11
theorem nmX5 : ∀ a, a < 11 → ∀ b, b < 11 → a ≠ b → (TX5 a).2.1 ≠ (TX5 b).2.1 := by decide +kernel
theorem tyX5_ok : ∀ k, k < 11 → parseFieldDescriptor (TX5 k).2.2.1 = some (tyX5 k) := by decide +kernel
abbrev cX5_init : ByteArray := prog_7_method_1_code
def yX5_init : MethodName := ⟨RX5, "<init>", "()V"⟩
abbrev cX5_copy : ByteArray := prog_7_method_2_code
def yX5_copy : MethodName := ⟨RX5, "copy", "(LDownTheGutter$Rule;)V"⟩
abbrev cX5_read : ByteArray := prog_7_method_3_code
def yX5_read : MethodName := ⟨RX5, "read", "(LDownTheGutter$Signs;)I"⟩
abbrev cX5_clear : ByteArray := prog_7_method_4_code
def yX5_clear : MethodName := ⟨RX5, "clear", "()V"⟩
abbrev cX5_finish : ByteArray := prog_7_method_5_code
def yX5_finish : MethodName := ⟨RX5, "finish", "(I)I"⟩
abbrev cX5_takeThing : ByteArray := prog_7_method_6_code
def yX5_takeThing : MethodName := ⟨RX5, "takeThing", "(LDownTheGutter$Signs;I)Z"⟩
abbrev cX5_takeBehindThing : ByteArray := prog_7_method_7_code
def yX5_takeBehindThing : MethodName := ⟨RX5, "takeBehindThing", "(LDownTheGutter$Signs;I)Z"⟩
abbrev cX5_lengthenNumber : ByteArray := prog_7_method_8_code
def yX5_lengthenNumber : MethodName := ⟨RX5, "lengthenNumber", "(I)Z"⟩
abbrev cX5_close : ByteArray := prog_7_method_9_code
def yX5_close : MethodName := ⟨RX5, "close", "()Z"⟩
abbrev cX5_addFact : ByteArray := prog_7_method_10_code
def yX5_addFact : MethodName := ⟨RX5, "addFact", "(I)V"⟩
abbrev cX5_addStep : ByteArray := prog_7_method_11_code
def yX5_addStep : MethodName := ⟨RX5, "addStep", "(I)V"⟩
abbrev cX5_hold : ByteArray := prog_7_method_12_code
def yX5_hold : MethodName := ⟨RX5, "hold", "(I)V"⟩
abbrev cX5_release : ByteArray := prog_7_method_13_code
def yX5_release : MethodName := ⟨RX5, "release", "(I)V"⟩
abbrev cX5_rankOf : ByteArray := prog_7_method_14_code
def yX5_rankOf : MethodName := ⟨RX5, "rankOf", "(I)I"⟩
abbrev cX5_value : ByteArray := prog_7_method_15_code
def yX5_value : MethodName := ⟨RX5, "value", "([I)I"⟩
def RX6 : String := "DownTheGutter$Scene"
def TX6 : u_T := fun k => match k with
  | 0 => ("DownTheGutter$Scene", "spots", "[I", true)
  | 1 => ("DownTheGutter$Scene", "papers", "[I", true)
  | 2 => ("DownTheGutter$Scene", "purses", "[I", true)
  | 3 => ("DownTheGutter$Scene", "trails", "[I", true)
  | 4 => ("DownTheGutter$Scene", "starts", "[I", true)
  | 5 => ("DownTheGutter$Scene", "ends", "[I", true)
  | 6 => ("DownTheGutter$Scene", "things", "I", false)
  | 7 => ("DownTheGutter$Scene", "planks", "I", false)
  | 8 => ("DownTheGutter$Scene", "now", "I", false)
  | 9 => ("DownTheGutter$Scene", "home", "I", false)
  | _ => ("DownTheGutter$Scene", "lost", "I", false)
def tyX6 : Nat → FieldType := fun k => match k with
  | 0 => .array .int
  | 1 => .array .int
  | 2 => .array .int
  | 3 => .array .int
  | 4 => .array .int
  | 5 => .array .int
  | 6 => .int
  | 7 => .int
  | 8 => .int
  | 9 => .int
  | _ => .int
abbrev wsX60 : List Cond := u_ws RX6 TX6 11
theorem nmX6 : ∀ a, a < 11 → ∀ b, b < 11 → a ≠ b → (TX6 a).2.1 ≠ (TX6 b).2.1 := by decide +kernel
theorem tyX6_ok : ∀ k, k < 11 → parseFieldDescriptor (TX6 k).2.2.1 = some (tyX6 k) := by decide +kernel
abbrev cX6_init : ByteArray := prog_8_method_1_code
def yX6_init : MethodName := ⟨RX6, "<init>", "()V"⟩
abbrev cX6_clear : ByteArray := prog_8_method_2_code
def yX6_clear : MethodName := ⟨RX6, "clear", "()V"⟩
abbrev cX6_copy : ByteArray := prog_8_method_3_code
def yX6_copy : MethodName := ⟨RX6, "copy", "(LDownTheGutter$Scene;)V"⟩
abbrev cX6_has : ByteArray := prog_8_method_4_code
def yX6_has : MethodName := ⟨RX6, "has", "(I)Z"⟩
abbrev cX6_isOnWay : ByteArray := prog_8_method_5_code
def yX6_isOnWay : MethodName := ⟨RX6, "isOnWay", "(I)Z"⟩
abbrev cX6_isAfloat : ByteArray := prog_8_method_6_code
def yX6_isAfloat : MethodName := ⟨RX6, "isAfloat", "(I)Z"⟩
abbrev cX6_onWay : ByteArray := prog_8_method_7_code
def yX6_onWay : MethodName := ⟨RX6, "onWay", "()I"⟩
abbrev cX6_spotOf : ByteArray := prog_8_method_8_code
def yX6_spotOf : MethodName := ⟨RX6, "spotOf", "(I)I"⟩
abbrev cX6_paperOf : ByteArray := prog_8_method_9_code
def yX6_paperOf : MethodName := ⟨RX6, "paperOf", "(I)I"⟩
abbrev cX6_purseOf : ByteArray := prog_8_method_10_code
def yX6_purseOf : MethodName := ⟨RX6, "purseOf", "(I)I"⟩
abbrev cX6_trailOf : ByteArray := prog_8_method_11_code
def yX6_trailOf : MethodName := ⟨RX6, "trailOf", "(I)I"⟩
abbrev cX6_startsIn : ByteArray := prog_8_method_12_code
def yX6_startsIn : MethodName := ⟨RX6, "startsIn", "(I)I"⟩
abbrev cX6_endedIn : ByteArray := prog_8_method_13_code
def yX6_endedIn : MethodName := ⟨RX6, "endedIn", "(I)I"⟩
abbrev cX6_fateOf : ByteArray := prog_8_method_14_code
def yX6_fateOf : MethodName := ⟨RX6, "fateOf", "(I)I"⟩
abbrev cX6_at : ByteArray := prog_8_method_15_code
def yX6_at : MethodName := ⟨RX6, "at", "(I)I"⟩
abbrev cX6_add : ByteArray := prog_8_method_16_code
def yX6_add : MethodName := ⟨RX6, "add", "(IIIIZ)I"⟩
abbrev cX6_enrich : ByteArray := prog_8_method_17_code
def yX6_enrich : MethodName := ⟨RX6, "enrich", "(II)I"⟩
abbrev cX6_setPaper : ByteArray := prog_8_method_18_code
def yX6_setPaper : MethodName := ⟨RX6, "setPaper", "(II)V"⟩
abbrev cX6_setPurse : ByteArray := prog_8_method_19_code
def yX6_setPurse : MethodName := ⟨RX6, "setPurse", "(II)V"⟩
abbrev cX6_setStart : ByteArray := prog_8_method_20_code
def yX6_setStart : MethodName := ⟨RX6, "setStart", "(II)V"⟩
abbrev cX6_holdBack : ByteArray := prog_8_method_21_code
def yX6_holdBack : MethodName := ⟨RX6, "holdBack", "(I)V"⟩
abbrev cX6_move : ByteArray := prog_8_method_22_code
def yX6_move : MethodName := ⟨RX6, "move", "(II)V"⟩
abbrev cX6_comeHome : ByteArray := prog_8_method_23_code
def yX6_comeHome : MethodName := ⟨RX6, "comeHome", "(I)V"⟩
abbrev cX6_lose : ByteArray := prog_8_method_24_code
def yX6_lose : MethodName := ⟨RX6, "lose", "(I)V"⟩
def RX7 : String := "DownTheGutter$Signs"
def TX7 : u_T := fun k => match k with
  | 0 => ("DownTheGutter$Signs", "signs", "[I", true)
  | 1 => ("DownTheGutter$Signs", "seen", "I", false)
  | _ => ("DownTheGutter$Signs", "length", "I", false)
def tyX7 : Nat → FieldType := fun k => match k with
  | 0 => .array .int
  | 1 => .int
  | _ => .int
abbrev wsX70 : List Cond := u_ws RX7 TX7 3
theorem nmX7 : ∀ a, a < 3 → ∀ b, b < 3 → a ≠ b → (TX7 a).2.1 ≠ (TX7 b).2.1 := by decide +kernel
theorem tyX7_ok : ∀ k, k < 3 → parseFieldDescriptor (TX7 k).2.2.1 = some (tyX7 k) := by decide +kernel
abbrev cX7_init : ByteArray := prog_9_method_1_code
def yX7_init : MethodName := ⟨RX7, "<init>", "()V"⟩
abbrev cX7_addFour : ByteArray := prog_9_method_2_code
def yX7_addFour : MethodName := ⟨RX7, "addFour", "(I)Z"⟩
abbrev cX7_cut : ByteArray := prog_9_method_3_code
def yX7_cut : MethodName := ⟨RX7, "cut", "(I)Z"⟩
abbrev cX7_showAtMost : ByteArray := prog_9_method_4_code
def yX7_showAtMost : MethodName := ⟨RX7, "showAtMost", "(I)V"⟩
abbrev cX7_look : ByteArray := prog_9_method_5_code
def yX7_look : MethodName := ⟨RX7, "look", "(I)I"⟩
abbrev cX7_isOver : ByteArray := prog_9_method_6_code
def yX7_isOver : MethodName := ⟨RX7, "isOver", "(I)Z"⟩
abbrev cX7_hasSign : ByteArray := prog_9_method_7_code
def yX7_hasSign : MethodName := ⟨RX7, "hasSign", "(IC)Z"⟩
abbrev cX7_digit : ByteArray := prog_9_method_8_code
def yX7_digit : MethodName := ⟨RX7, "digit", "(I)I"⟩
abbrev cX7_letter : ByteArray := prog_9_method_9_code
def yX7_letter : MethodName := ⟨RX7, "letter", "(I)I"⟩
abbrev cX7_oneOf : ByteArray := prog_9_method_10_code
def yX7_oneOf : MethodName := ⟨RX7, "oneOf", "(Ljava/lang/String;I)I"⟩
def RX8 : String := "DownTheGutter$Town"
def TX8 : u_T := fun k => match k with
  | 0 => ("DownTheGutter$Town", "kinds", "[I", true)
  | 1 => ("DownTheGutter$Town", "nexts", "[I", true)
  | 2 => ("DownTheGutter$Town", "seconds", "[I", true)
  | 3 => ("DownTheGutter$Town", "figures", "[I", true)
  | 4 => ("DownTheGutter$Town", "firstUse", "[I", true)
  | 5 => ("DownTheGutter$Town", "kitchens", "I", false)
  | 6 => ("DownTheGutter$Town", "size", "I", false)
  | 7 => ("DownTheGutter$Town", "forks", "I", false)
  | _ => ("DownTheGutter$Town", "sets", "I", false)
def tyX8 : Nat → FieldType := fun k => match k with
  | 0 => .array .int
  | 1 => .array .int
  | 2 => .array .int
  | 3 => .array .int
  | 4 => .array .int
  | 5 => .int
  | 6 => .int
  | 7 => .int
  | _ => .int
abbrev wsX80 : List Cond := u_ws RX8 TX8 9
theorem nmX8 : ∀ a, a < 9 → ∀ b, b < 9 → a ≠ b → (TX8 a).2.1 ≠ (TX8 b).2.1 := by decide +kernel
theorem tyX8_ok : ∀ k, k < 9 → parseFieldDescriptor (TX8 k).2.2.1 = some (tyX8 k) := by decide +kernel
abbrev cX8_init : ByteArray := prog_10_method_1_code
def yX8_init : MethodName := ⟨RX8, "<init>", "()V"⟩
abbrev cX8_has : ByteArray := prog_10_method_2_code
def yX8_has : MethodName := ⟨RX8, "has", "(I)Z"⟩
abbrev cX8_isFork : ByteArray := prog_10_method_3_code
def yX8_isFork : MethodName := ⟨RX8, "isFork", "(I)Z"⟩
abbrev cX8_isKitchen : ByteArray := prog_10_method_4_code
def yX8_isKitchen : MethodName := ⟨RX8, "isKitchen", "(I)Z"⟩
abbrev cX8_kindOf : ByteArray := prog_10_method_5_code
def yX8_kindOf : MethodName := ⟨RX8, "kindOf", "(I)I"⟩
abbrev cX8_nextOf : ByteArray := prog_10_method_6_code
def yX8_nextOf : MethodName := ⟨RX8, "nextOf", "(I)I"⟩
abbrev cX8_secondOf : ByteArray := prog_10_method_7_code
def yX8_secondOf : MethodName := ⟨RX8, "secondOf", "(I)I"⟩
abbrev cX8_figureOf : ByteArray := prog_10_method_8_code
def yX8_figureOf : MethodName := ⟨RX8, "figureOf", "(I)I"⟩
abbrev cX8_nextSet : ByteArray := prog_10_method_9_code
def yX8_nextSet : MethodName := ⟨RX8, "nextSet", "(I)I"⟩
abbrev cX8_copy : ByteArray := prog_10_method_10_code
def yX8_copy : MethodName := ⟨RX8, "copy", "(LDownTheGutter$Town;)V"⟩
abbrev cX8_read : ByteArray := prog_10_method_11_code
def yX8_read : MethodName := ⟨RX8, "read", "(LDownTheGutter$Signs;)I"⟩
abbrev cX8_clear : ByteArray := prog_10_method_12_code
def yX8_clear : MethodName := ⟨RX8, "clear", "()V"⟩
abbrev cX8_judgeLetters : ByteArray := prog_10_method_13_code
def yX8_judgeLetters : MethodName := ⟨RX8, "judgeLetters", "()I"⟩
abbrev cX8_readLine : ByteArray := prog_10_method_14_code
def yX8_readLine : MethodName := ⟨RX8, "readLine", "(LDownTheGutter$Signs;I)I"⟩
abbrev cX8_readFork : ByteArray := prog_10_method_15_code
def yX8_readFork : MethodName := ⟨RX8, "readFork", "(LDownTheGutter$Signs;II)I"⟩
abbrev cX8_readMill : ByteArray := prog_10_method_16_code
def yX8_readMill : MethodName := ⟨RX8, "readMill", "(LDownTheGutter$Signs;II)I"⟩
abbrev cX8_readFigure : ByteArray := prog_10_method_17_code
def yX8_readFigure : MethodName := ⟨RX8, "readFigure", "(LDownTheGutter$Signs;III)I"⟩
abbrev cX8_use : ByteArray := prog_10_method_18_code
def yX8_use : MethodName := ⟨RX8, "use", "(II)V"⟩
abbrev cX8_addPlace : ByteArray := prog_10_method_19_code
def yX8_addPlace : MethodName := ⟨RX8, "addPlace", "(IIII)V"⟩
def RX9 : String := "DownTheGutter$Trials"
def TX9 : u_T := fun k => match k with
  | 0 => ("DownTheGutter$Trials", "town", "LDownTheGutter$Town;", true)
  | 1 => ("DownTheGutter$Trials", "current", "LDownTheGutter$Current;", true)
  | 2 => ("DownTheGutter$Trials", "tells", "[I", true)
  | 3 => ("DownTheGutter$Trials", "fitting", "[Z", true)
  | 4 => ("DownTheGutter$Trials", "tallies", "[I", true)
  | 5 => ("DownTheGutter$Trials", "those", "I", false)
  | 6 => ("DownTheGutter$Trials", "lead", "I", false)
  | 7 => ("DownTheGutter$Trials", "start", "LDownTheGutter$Scene;", true)
  | _ => ("DownTheGutter$Trials", "scene", "LDownTheGutter$Scene;", true)
def tyX9 : Nat → FieldType := fun k => match k with
  | 0 => .object "DownTheGutter$Town"
  | 1 => .object "DownTheGutter$Current"
  | 2 => .array .int
  | 3 => .array .boolean
  | 4 => .array .int
  | 5 => .int
  | 6 => .int
  | 7 => .object "DownTheGutter$Scene"
  | _ => .object "DownTheGutter$Scene"
abbrev wsX90 : List Cond := u_ws RX9 TX9 9
theorem nmX9 : ∀ a, a < 9 → ∀ b, b < 9 → a ≠ b → (TX9 a).2.1 ≠ (TX9 b).2.1 := by decide +kernel
theorem tyX9_ok : ∀ k, k < 9 → parseFieldDescriptor (TX9 k).2.2.1 = some (tyX9 k) := by decide +kernel
abbrev cX9_init : ByteArray := prog_11_method_1_code
def yX9_init : MethodName := ⟨RX9, "<init>", "(LDownTheGutter$Town;LDownTheGutter$Current;)V"⟩
abbrev cX9_thinkOf : ByteArray := prog_11_method_2_code
def yX9_thinkOf : MethodName := ⟨RX9, "thinkOf", "(IIIII)V"⟩
abbrev cX9_startFrom : ByteArray := prog_11_method_3_code
def yX9_startFrom : MethodName := ⟨RX9, "startFrom", "(LDownTheGutter$Scene;II)V"⟩
abbrev cX9_begin : ByteArray := prog_11_method_4_code
def yX9_begin : MethodName := ⟨RX9, "begin", "(I)V"⟩
abbrev cX9_go : ByteArray := prog_11_method_5_code
def yX9_go : MethodName := ⟨RX9, "go", "(I)I"⟩
abbrev cX9_goOn : ByteArray := prog_11_method_6_code
def yX9_goOn : MethodName := ⟨RX9, "goOn", "(LDownTheGutter$Scene;I)V"⟩
abbrev cX9_settle : ByteArray := prog_11_method_7_code
def yX9_settle : MethodName := ⟨RX9, "settle", "(LDownTheGutter$Scene;I)I"⟩
abbrev cX9_circle : ByteArray := prog_11_method_8_code
def yX9_circle : MethodName := ⟨RX9, "circle", "(II)I"⟩
abbrev cX9_forgetSets : ByteArray := prog_11_method_9_code
def yX9_forgetSets : MethodName := ⟨RX9, "forgetSets", "()V"⟩
abbrev cX9_remember : ByteArray := prog_11_method_10_code
def yX9_remember : MethodName := ⟨RX9, "remember", "(II)V"⟩
abbrev cX9_outcome : ByteArray := prog_11_method_11_code
def yX9_outcome : MethodName := ⟨RX9, "outcome", "(I)I"⟩
abbrev cX9_spread : ByteArray := prog_11_method_12_code
def yX9_spread : MethodName := ⟨RX9, "spread", "(II)V"⟩
abbrev cX9_fits : ByteArray := prog_11_method_13_code
def yX9_fits : MethodName := ⟨RX9, "fits", "(I)Z"⟩
abbrev cX9_setFitting : ByteArray := prog_11_method_14_code
def yX9_setFitting : MethodName := ⟨RX9, "setFitting", "(IZ)V"⟩
abbrev cX9_fitAll : ByteArray := prog_11_method_15_code
def yX9_fitAll : MethodName := ⟨RX9, "fitAll", "()V"⟩
abbrev cX9_mostLeft : ByteArray := prog_11_method_16_code
def yX9_mostLeft : MethodName := ⟨RX9, "mostLeft", "()I"⟩
abbrev cX9_tally : ByteArray := prog_11_method_17_code
def yX9_tally : MethodName := ⟨RX9, "tally", "(I)I"⟩
def RX10 : String := "DownTheGutter$Water"
def TX10 : u_T := fun k => match k with
  | 0 => ("DownTheGutter$Water", "digits", "[I", true)
  | _ => ("DownTheGutter$Water", "length", "I", false)
def tyX10 : Nat → FieldType := fun k => match k with
  | 0 => .array .int
  | _ => .int
abbrev wsX100 : List Cond := u_ws RX10 TX10 2
theorem nmX10 : ∀ a, a < 2 → ∀ b, b < 2 → a ≠ b → (TX10 a).2.1 ≠ (TX10 b).2.1 := by decide +kernel
theorem tyX10_ok : ∀ k, k < 2 → parseFieldDescriptor (TX10 k).2.2.1 = some (tyX10 k) := by decide +kernel
abbrev cX10_init : ByteArray := prog_12_method_1_code
def yX10_init : MethodName := ⟨RX10, "<init>", "()V"⟩
abbrev cX10_in : ByteArray := prog_12_method_2_code
def yX10_in : MethodName := ⟨RX10, "in", "(I)I"⟩
abbrev cX10_read : ByteArray := prog_12_method_3_code
def yX10_read : MethodName := ⟨RX10, "read", "(LDownTheGutter$Signs;)I"⟩
def RX11 : String := "DownTheGutter"
def TX11 : u_T := fun k => match k with
  | 0 => ("DownTheGutter", "text", "LDownTheGutter$Signs;", true)
  | 1 => ("DownTheGutter", "town", "LDownTheGutter$Town;", true)
  | 2 => ("DownTheGutter", "draftTown", "LDownTheGutter$Town;", true)
  | 3 => ("DownTheGutter", "water", "LDownTheGutter$Water;", true)
  | 4 => ("DownTheGutter", "rule", "LDownTheGutter$Rule;", true)
  | 5 => ("DownTheGutter", "draftRule", "LDownTheGutter$Rule;", true)
  | 6 => ("DownTheGutter", "diary", "LDownTheGutter$Diary;", true)
  | 7 => ("DownTheGutter", "present", "LDownTheGutter$Scene;", true)
  | 8 => ("DownTheGutter", "before", "LDownTheGutter$Scene;", true)
  | 9 => ("DownTheGutter", "past", "LDownTheGutter$Past;", true)
  | 10 => ("DownTheGutter", "kept", "[LDownTheGutter$Scene;", true)
  | 11 => ("DownTheGutter", "keptBits", "I", false)
  | 12 => ("DownTheGutter", "corks", "LDownTheGutter$Corks;", true)
  | 13 => ("DownTheGutter", "row", "LDownTheGutter$Row;", true)
  | 14 => ("DownTheGutter", "current", "LDownTheGutter$Current;", true)
  | _ => ("DownTheGutter", "trials", "LDownTheGutter$Trials;", true)
def tyX11 : Nat → FieldType := fun k => match k with
  | 0 => .object "DownTheGutter$Signs"
  | 1 => .object "DownTheGutter$Town"
  | 2 => .object "DownTheGutter$Town"
  | 3 => .object "DownTheGutter$Water"
  | 4 => .object "DownTheGutter$Rule"
  | 5 => .object "DownTheGutter$Rule"
  | 6 => .object "DownTheGutter$Diary"
  | 7 => .object "DownTheGutter$Scene"
  | 8 => .object "DownTheGutter$Scene"
  | 9 => .object "DownTheGutter$Past"
  | 10 => .array (.object "DownTheGutter$Scene")
  | 11 => .int
  | 12 => .object "DownTheGutter$Corks"
  | 13 => .object "DownTheGutter$Row"
  | 14 => .object "DownTheGutter$Current"
  | _ => .object "DownTheGutter$Trials"
abbrev wsX110 : List Cond := u_ws RX11 TX11 16
theorem nmX11 : ∀ a, a < 16 → ∀ b, b < 16 → a ≠ b → (TX11 a).2.1 ≠ (TX11 b).2.1 := by decide +kernel
theorem tyX11_ok : ∀ k, k < 16 → parseFieldDescriptor (TX11 k).2.2.1 = some (tyX11 k) := by decide +kernel
abbrev cX11_init : ByteArray := prog_1_method_1_code
def yX11_init : MethodName := ⟨RX11, "<init>", "()V"⟩
abbrev cX11_sign : ByteArray := prog_1_method_2_code
def yX11_sign : MethodName := ⟨RX11, "sign", "(I)I"⟩
abbrev cX11_end : ByteArray := prog_1_method_3_code
def yX11_end : MethodName := ⟨RX11, "end", "(I)Z"⟩
abbrev cX11_town : ByteArray := prog_1_method_4_code
def yX11_town : MethodName := ⟨RX11, "town", "()I"⟩
abbrev cX11_water : ByteArray := prog_1_method_5_code
def yX11_water : MethodName := ⟨RX11, "water", "()I"⟩
abbrev cX11_rule : ByteArray := prog_1_method_6_code
def yX11_rule : MethodName := ⟨RX11, "rule", "()I"⟩
abbrev cX11_place : ByteArray := prog_1_method_7_code
def yX11_place : MethodName := ⟨RX11, "place", "(II)I"⟩
abbrev cX11_of : ByteArray := prog_1_method_8_code
def yX11_of : MethodName := ⟨RX11, "of", "(II)I"⟩
abbrev cX11_flow : ByteArray := prog_1_method_9_code
def yX11_flow : MethodName := ⟨RX11, "flow", "(I)I"⟩
abbrev cX11_plank : ByteArray := prog_1_method_10_code
def yX11_plank : MethodName := ⟨RX11, "plank", "(II)Z"⟩
abbrev cX11_sheet : ByteArray := prog_1_method_11_code
def yX11_sheet : MethodName := ⟨RX11, "sheet", "(IIII)I"⟩
abbrev cX11_entry : ByteArray := prog_1_method_12_code
def yX11_entry : MethodName := ⟨RX11, "entry", "(II)I"⟩
abbrev cX11_put : ByteArray := prog_1_method_13_code
def yX11_put : MethodName := ⟨RX11, "put", "(IIII)I"⟩
abbrev cX11_give : ByteArray := prog_1_method_14_code
def yX11_give : MethodName := ⟨RX11, "give", "(II)I"⟩
abbrev cX11_run : ByteArray := prog_1_method_15_code
def yX11_run : MethodName := ⟨RX11, "run", "(I)I"⟩
abbrev cX11_passMinutes : ByteArray := prog_1_method_16_code
def yX11_passMinutes : MethodName := ⟨RX11, "passMinutes", "(I)V"⟩
abbrev cX11_day : ByteArray := prog_1_method_17_code
def yX11_day : MethodName := ⟨RX11, "day", "()I"⟩
abbrev cX11_perform : ByteArray := prog_1_method_18_code
def yX11_perform : MethodName := ⟨RX11, "perform", "(I)I"⟩
abbrev cX11_undo : ByteArray := prog_1_method_19_code
def yX11_undo : MethodName := ⟨RX11, "undo", "()I"⟩
abbrev cX11_where : ByteArray := prog_1_method_20_code
def yX11_where : MethodName := ⟨RX11, "where", "(II)I"⟩
abbrev cX11_comes : ByteArray := prog_1_method_21_code
def yX11_comes : MethodName := ⟨RX11, "comes", "(I)I"⟩
abbrev cX11_lost : ByteArray := prog_1_method_22_code
def yX11_lost : MethodName := ⟨RX11, "lost", "(I)I"⟩
abbrev cX11_homes : ByteArray := prog_1_method_23_code
def yX11_homes : MethodName := ⟨RX11, "homes", "(I)I"⟩
abbrev cX11_sail : ByteArray := prog_1_method_24_code
def yX11_sail : MethodName := ⟨RX11, "sail", "(IIIII)I"⟩
abbrev cX11_soonest : ByteArray := prog_1_method_25_code
def yX11_soonest : MethodName := ⟨RX11, "soonest", "(III)I"⟩
abbrev cX11_basin : ByteArray := prog_1_method_26_code
def yX11_basin : MethodName := ⟨RX11, "basin", "(III)I"⟩
abbrev cX11_boat : ByteArray := prog_1_method_27_code
def yX11_boat : MethodName := ⟨RX11, "boat", "(III)I"⟩
abbrev cX11_coins : ByteArray := prog_1_method_28_code
def yX11_coins : MethodName := ⟨RX11, "coins", "(III)I"⟩
abbrev cX11_waits : ByteArray := prog_1_method_29_code
def yX11_waits : MethodName := ⟨RX11, "waits", "(IIII)I"⟩
abbrev cX11_round : ByteArray := prog_1_method_30_code
def yX11_round : MethodName := ⟨RX11, "round", "(I)I"⟩
abbrev cX11_save : ByteArray := prog_1_method_31_code
def yX11_save : MethodName := ⟨RX11, "save", "(I)I"⟩
abbrev cX11_steer : ByteArray := prog_1_method_32_code
def yX11_steer : MethodName := ⟨RX11, "steer", "(II)I"⟩
abbrev cX11_fewestTurns : ByteArray := prog_1_method_33_code
def yX11_fewestTurns : MethodName := ⟨RX11, "fewestTurns", "(I)I"⟩
abbrev cX11_ways : ByteArray := prog_1_method_34_code
def yX11_ways : MethodName := ⟨RX11, "ways", "(IIII)I"⟩
abbrev cX11_duel : ByteArray := prog_1_method_35_code
def yX11_duel : MethodName := ⟨RX11, "duel", "(IIIII)I"⟩
abbrev cX11_firstGets : ByteArray := prog_1_method_36_code
def yX11_firstGets : MethodName := ⟨RX11, "firstGets", "(IIIZ)Z"⟩
abbrev cX11_cork : ByteArray := prog_1_method_37_code
def yX11_cork : MethodName := ⟨RX11, "cork", "(III)I"⟩
abbrev cX11_forget : ByteArray := prog_1_method_38_code
def yX11_forget : MethodName := ⟨RX11, "forget", "()I"⟩
abbrev cX11_maps : ByteArray := prog_1_method_39_code
def yX11_maps : MethodName := ⟨RX11, "maps", "()I"⟩
abbrev cX11_next : ByteArray := prog_1_method_40_code
def yX11_next : MethodName := ⟨RX11, "next", "(I)I"⟩
abbrev cX11_findFits : ByteArray := prog_1_method_41_code
def yX11_findFits : MethodName := ⟨RX11, "findFits", "()V"⟩
abbrev cX11_odds : ByteArray := prog_1_method_42_code
def yX11_odds : MethodName := ⟨RX11, "odds", "(III)I"⟩
abbrev cX11_weightOf : ByteArray := prog_1_method_43_code
def yX11_weightOf : MethodName := ⟨RX11, "weightOf", "(III)I"⟩
abbrev cX11_commonDivisor : ByteArray := prog_1_method_44_code
def yX11_commonDivisor : MethodName := ⟨RX11, "commonDivisor", "(II)I"⟩
abbrev cX11_marks : ByteArray := prog_1_method_45_code
def yX11_marks : MethodName := ⟨RX11, "marks", "(III)I"⟩
abbrev cX11_order : ByteArray := prog_1_method_46_code
def yX11_order : MethodName := ⟨RX11, "order", "(II)I"⟩
abbrev cX11_keep : ByteArray := prog_1_method_47_code
def yX11_keep : MethodName := ⟨RX11, "keep", "(I)Z"⟩
abbrev cX11_again : ByteArray := prog_1_method_48_code
def yX11_again : MethodName := ⟨RX11, "again", "(I)Z"⟩
abbrev cX11_count : ByteArray := prog_1_method_49_code
def yX11_count : MethodName := ⟨RX11, "count", "(I)I"⟩
abbrev cX11_row : ByteArray := prog_1_method_50_code
def yX11_row : MethodName := ⟨RX11, "row", "(I)J"⟩
abbrev cX11_isLoad : ByteArray := prog_1_method_51_code
def yX11_isLoad : MethodName := ⟨RX11, "isLoad", "(II)Z"⟩
abbrev cX11_isWait : ByteArray := prog_1_method_52_code
def yX11_isWait : MethodName := ⟨RX11, "isWait", "(I)Z"⟩
abbrev cX11_isAhead : ByteArray := prog_1_method_53_code
def yX11_isAhead : MethodName := ⟨RX11, "isAhead", "(I)Z"⟩
abbrev cX11_isCorkMinute : ByteArray := prog_1_method_54_code
def yX11_isCorkMinute : MethodName := ⟨RX11, "isCorkMinute", "(I)Z"⟩
abbrev cX11_isIn : ByteArray := prog_1_method_55_code
def yX11_isIn : MethodName := ⟨RX11, "isIn", "(II)Z"⟩
abbrev cX11_kitchenOf : ByteArray := prog_1_method_56_code
def yX11_kitchenOf : MethodName := ⟨RX11, "kitchenOf", "(I)I"⟩
abbrev cX11_minutesOf : ByteArray := prog_1_method_57_code
def yX11_minutesOf : MethodName := ⟨RX11, "minutesOf", "(I)I"⟩
abbrev cX11_lowest : ByteArray := prog_1_method_58_code
def yX11_lowest : MethodName := ⟨RX11, "lowest", "(I)I"⟩
abbrev cX11_sailed : ByteArray := prog_1_method_59_code
def yX11_sailed : MethodName := ⟨RX11, "sailed", "(IIII)I"⟩
def RX12 : String := "DownTheGutterModel"
def TX12 : u_T := fun k => match k with
  | 0 => ("DownTheGutterModel", "thrown", "I", false)
  | 1 => ("DownTheGutterModel", "rows", "I", false)
  | 2 => ("DownTheGutterModel", "row", "[J", true)
  | 3 => ("DownTheGutterModel", "places", "I", false)
  | 4 => ("DownTheGutterModel", "waterLong", "I", false)
  | 5 => ("DownTheGutterModel", "kind", "[I", true)
  | 6 => ("DownTheGutterModel", "goes", "[I", true)
  | 7 => ("DownTheGutterModel", "second", "[I", true)
  | 8 => ("DownTheGutterModel", "number", "[I", true)
  | 9 => ("DownTheGutterModel", "waters", "[I", true)
  | 10 => ("DownTheGutterModel", "now", "[I", true)
  | 11 => ("DownTheGutterModel", "then", "[I", true)
  | 12 => ("DownTheGutterModel", "tape", "[I", true)
  | 13 => ("DownTheGutterModel", "taped", "I", false)
  | 14 => ("DownTheGutterModel", "at", "I", false)
  | 15 => ("DownTheGutterModel", "to", "I", false)
  | 16 => ("DownTheGutterModel", "nest", "I", false)
  | 17 => ("DownTheGutterModel", "readKind", "[I", true)
  | 18 => ("DownTheGutterModel", "readGoes", "[I", true)
  | 19 => ("DownTheGutterModel", "readSecond", "[I", true)
  | 20 => ("DownTheGutterModel", "readNumber", "[I", true)
  | 21 => ("DownTheGutterModel", "readMany", "I", false)
  | 22 => ("DownTheGutterModel", "meant", "[I", true)
  | 23 => ("DownTheGutterModel", "stood", "[I", true)
  | 24 => ("DownTheGutterModel", "meantMany", "I", false)
  | 25 => ("DownTheGutterModel", "readWaters", "[I", true)
  | 26 => ("DownTheGutterModel", "code", "[I", true)
  | 27 => ("DownTheGutterModel", "readCode", "[I", true)
  | 28 => ("DownTheGutterModel", "codeLong", "I", false)
  | 29 => ("DownTheGutterModel", "readLong", "I", false)
  | 30 => ("DownTheGutterModel", "stack", "[I", true)
  | 31 => ("DownTheGutterModel", "rains", "I", false)
  | 32 => ("DownTheGutterModel", "rainsFrom", "I", false)
  | 33 => ("DownTheGutterModel", "isForever", "Z", false)
  | 34 => ("DownTheGutterModel", "hasLeft", "Z", false)
  | 35 => ("DownTheGutterModel", "leaves", "I", false)
  | 36 => ("DownTheGutterModel", "undos", "I", false)
  | 37 => ("DownTheGutterModel", "undone", "[I", true)
  | 38 => ("DownTheGutterModel", "actSign", "[I", true)
  | 39 => ("DownTheGutterModel", "actOne", "[I", true)
  | 40 => ("DownTheGutterModel", "actTwo", "[I", true)
  | 41 => ("DownTheGutterModel", "actThree", "[I", true)
  | 42 => ("DownTheGutterModel", "acts", "I", false)
  | 43 => ("DownTheGutterModel", "cameHome", "I", false)
  | 44 => ("DownTheGutterModel", "alone", "[I", true)
  | 45 => ("DownTheGutterModel", "soloPlanks", "I", false)
  | 46 => ("DownTheGutterModel", "soloNow", "I", false)
  | 47 => ("DownTheGutterModel", "played", "[I", true)
  | 48 => ("DownTheGutterModel", "playPlace", "I", false)
  | 49 => ("DownTheGutterModel", "playBoat", "I", false)
  | 50 => ("DownTheGutterModel", "playCoins", "I", false)
  | 51 => ("DownTheGutterModel", "playKitchen", "I", false)
  | 52 => ("DownTheGutterModel", "corks", "I", false)
  | 53 => ("DownTheGutterModel", "corkPlace", "[I", true)
  | 54 => ("DownTheGutterModel", "corkMinute", "[I", true)
  | 55 => ("DownTheGutterModel", "corkHome", "[I", true)
  | 56 => ("DownTheGutterModel", "fits", "[Z", true)
  | 57 => ("DownTheGutterModel", "parts", "[I", true)
  | 58 => ("DownTheGutterModel", "isKept", "[Z", true)
  | _ => ("DownTheGutterModel", "kept", "[I", true)
def tyX12 : Nat → FieldType := fun k => match k with
  | 0 => .int
  | 1 => .int
  | 2 => .array .long
  | 3 => .int
  | 4 => .int
  | 5 => .array .int
  | 6 => .array .int
  | 7 => .array .int
  | 8 => .array .int
  | 9 => .array .int
  | 10 => .array .int
  | 11 => .array .int
  | 12 => .array .int
  | 13 => .int
  | 14 => .int
  | 15 => .int
  | 16 => .int
  | 17 => .array .int
  | 18 => .array .int
  | 19 => .array .int
  | 20 => .array .int
  | 21 => .int
  | 22 => .array .int
  | 23 => .array .int
  | 24 => .int
  | 25 => .array .int
  | 26 => .array .int
  | 27 => .array .int
  | 28 => .int
  | 29 => .int
  | 30 => .array .int
  | 31 => .int
  | 32 => .int
  | 33 => .boolean
  | 34 => .boolean
  | 35 => .int
  | 36 => .int
  | 37 => .array .int
  | 38 => .array .int
  | 39 => .array .int
  | 40 => .array .int
  | 41 => .array .int
  | 42 => .int
  | 43 => .int
  | 44 => .array .int
  | 45 => .int
  | 46 => .int
  | 47 => .array .int
  | 48 => .int
  | 49 => .int
  | 50 => .int
  | 51 => .int
  | 52 => .int
  | 53 => .array .int
  | 54 => .array .int
  | 55 => .array .int
  | 56 => .array .boolean
  | 57 => .array .int
  | 58 => .array .boolean
  | _ => .array .int
abbrev wsX120 : List Cond := u_ws RX12 TX12 60
theorem nmX12 : ∀ a, a < 60 → ∀ b, b < 60 → a ≠ b → (TX12 a).2.1 ≠ (TX12 b).2.1 := by decide +kernel
theorem tyX12_ok : ∀ k, k < 60 → parseFieldDescriptor (TX12 k).2.2.1 = some (tyX12 k) := by decide +kernel
abbrev cX12_init : ByteArray := prog_14_method_1_code
def yX12_init : MethodName := ⟨RX12, "<init>", "()V"⟩
abbrev cX12_refuse : ByteArray := prog_14_method_3_code
def yX12_refuse : MethodName := ⟨RX12, "refuse", "()I"⟩
abbrev cX12_in : ByteArray := prog_14_method_4_code
def yX12_in : MethodName := ⟨RX12, "in", "(JJJ)Z"⟩
abbrev cX12_has : ByteArray := prog_14_method_5_code
def yX12_has : MethodName := ⟨RX12, "has", "(II)Z"⟩
abbrev cX12_flag : ByteArray := prog_14_method_6_code
def yX12_flag : MethodName := ⟨RX12, "flag", "(Z)I"⟩
abbrev cX12_common : ByteArray := prog_14_method_7_code
def yX12_common : MethodName := ⟨RX12, "common", "(JJ)J"⟩
abbrev cX12_enters : ByteArray := prog_14_method_8_code
def yX12_enters : MethodName := ⟨RX12, "enters", "(J)V"⟩
abbrev cX12_entersFraction : ByteArray := prog_14_method_9_code
def yX12_entersFraction : MethodName := ⟨RX12, "entersFraction", "(JJ)V"⟩
abbrev cX12_isPlace : ByteArray := prog_14_method_10_code
def yX12_isPlace : MethodName := ⟨RX12, "isPlace", "(I)Z"⟩
abbrev cX12_isFork : ByteArray := prog_14_method_11_code
def yX12_isFork : MethodName := ⟨RX12, "isFork", "(I)Z"⟩
abbrev cX12_isKitchen : ByteArray := prog_14_method_12_code
def yX12_isKitchen : MethodName := ⟨RX12, "isKitchen", "(I)Z"⟩
abbrev cX12_isThing : ByteArray := prog_14_method_13_code
def yX12_isThing : MethodName := ⟨RX12, "isThing", "(I)Z"⟩
abbrev cX12_forks : ByteArray := prog_14_method_14_code
def yX12_forks : MethodName := ⟨RX12, "forks", "()I"⟩
abbrev cX12_sign : ByteArray := prog_14_method_15_code
def yX12_sign : MethodName := ⟨RX12, "sign", "(I)I"⟩
abbrev cX12_end : ByteArray := prog_14_method_16_code
def yX12_end : MethodName := ⟨RX12, "end", "(I)Z"⟩
abbrev cX12_begins : ByteArray := prog_14_method_17_code
def yX12_begins : MethodName := ⟨RX12, "begins", "(I)I"⟩
abbrev cX12_takes : ByteArray := prog_14_method_18_code
def yX12_takes : MethodName := ⟨RX12, "takes", "(I)Z"⟩
abbrev cX12_isDigit : ByteArray := prog_14_method_19_code
def yX12_isDigit : MethodName := ⟨RX12, "isDigit", "()Z"⟩
abbrev cX12_among : ByteArray := prog_14_method_20_code
def yX12_among : MethodName := ⟨RX12, "among", "(Ljava/lang/String;)I"⟩
abbrev cX12_takesOf : ByteArray := prog_14_method_21_code
def yX12_takesOf : MethodName := ⟨RX12, "takesOf", "(Ljava/lang/String;)I"⟩
abbrev cX12_numberOf : ByteArray := prog_14_method_22_code
def yX12_numberOf : MethodName := ⟨RX12, "numberOf", "(I)I"⟩
abbrev cX12_faultOf : ByteArray := prog_14_method_23_code
def yX12_faultOf : MethodName := ⟨RX12, "faultOf", "(IIZ)I"⟩
abbrev cX12_readsLetter : ByteArray := prog_14_method_24_code
def yX12_readsLetter : MethodName := ⟨RX12, "readsLetter", "()I"⟩
abbrev cX12_readsPlace : ByteArray := prog_14_method_25_code
def yX12_readsPlace : MethodName := ⟨RX12, "readsPlace", "()Z"⟩
abbrev cX12_town : ByteArray := prog_14_method_26_code
def yX12_town : MethodName := ⟨RX12, "town", "()I"⟩
abbrev cX12_water : ByteArray := prog_14_method_27_code
def yX12_water : MethodName := ⟨RX12, "water", "()I"⟩
abbrev cX12_codes : ByteArray := prog_14_method_28_code
def yX12_codes : MethodName := ⟨RX12, "codes", "(I)V"⟩
abbrev cX12_readsThing : ByteArray := prog_14_method_29_code
def yX12_readsThing : MethodName := ⟨RX12, "readsThing", "()Z"⟩
abbrev cX12_readsRank : ByteArray := prog_14_method_30_code
def yX12_readsRank : MethodName := ⟨RX12, "readsRank", "(I)Z"⟩
abbrev cX12_rule : ByteArray := prog_14_method_31_code
def yX12_rule : MethodName := ⟨RX12, "rule", "()I"⟩
abbrev cX12_waterIn : ByteArray := prog_14_method_32_code
def yX12_waterIn : MethodName := ⟨RX12, "waterIn", "(I)I"⟩
abbrev cX12_othersAt : ByteArray := prog_14_method_33_code
def yX12_othersAt : MethodName := ⟨RX12, "othersAt", "([II)I"⟩
abbrev cX12_askedOf : ByteArray := prog_14_method_34_code
def yX12_askedOf : MethodName := ⟨RX12, "askedOf", "([III)I"⟩
abbrev cX12_worked : ByteArray := prog_14_method_35_code
def yX12_worked : MethodName := ⟨RX12, "worked", "(III)I"⟩
abbrev cX12_ruled : ByteArray := prog_14_method_36_code
def yX12_ruled : MethodName := ⟨RX12, "ruled", "([II)I"⟩
abbrev cX12_ends : ByteArray := prog_14_method_37_code
def yX12_ends : MethodName := ⟨RX12, "ends", "([III)V"⟩
abbrev cX12_steps : ByteArray := prog_14_method_38_code
def yX12_steps : MethodName := ⟨RX12, "steps", "([II)Z"⟩
abbrev cX12_minuteGoes : ByteArray := prog_14_method_39_code
def yX12_minuteGoes : MethodName := ⟨RX12, "minuteGoes", "([I)V"⟩
abbrev cX12_thoseHow : ByteArray := prog_14_method_40_code
def yX12_thoseHow : MethodName := ⟨RX12, "thoseHow", "([II)I"⟩
abbrev cX12_place : ByteArray := prog_14_method_41_code
def yX12_place : MethodName := ⟨RX12, "place", "(II)I"⟩
abbrev cX12_of : ByteArray := prog_14_method_42_code
def yX12_of : MethodName := ⟨RX12, "of", "(II)I"⟩
abbrev cX12_flow : ByteArray := prog_14_method_43_code
def yX12_flow : MethodName := ⟨RX12, "flow", "(I)I"⟩
abbrev cX12_puts : ByteArray := prog_14_method_44_code
def yX12_puts : MethodName := ⟨RX12, "puts", "([I[I)V"⟩
abbrev cX12_putsBy : ByteArray := prog_14_method_45_code
def yX12_putsBy : MethodName := ⟨RX12, "putsBy", "()V"⟩
abbrev cX12_adds : ByteArray := prog_14_method_46_code
def yX12_adds : MethodName := ⟨RX12, "adds", "(I)I"⟩
abbrev cX12_undo : ByteArray := prog_14_method_47_code
def yX12_undo : MethodName := ⟨RX12, "undo", "()I"⟩
abbrev cX12_plank : ByteArray := prog_14_method_48_code
def yX12_plank : MethodName := ⟨RX12, "plank", "(II)Z"⟩
abbrev cX12_sheet : ByteArray := prog_14_method_49_code
def yX12_sheet : MethodName := ⟨RX12, "sheet", "(IIII)I"⟩
abbrev cX12_lays : ByteArray := prog_14_method_50_code
def yX12_lays : MethodName := ⟨RX12, "lays", "([IIIIII)V"⟩
abbrev cX12_canPut : ByteArray := prog_14_method_51_code
def yX12_canPut : MethodName := ⟨RX12, "canPut", "(III)Z"⟩
abbrev cX12_comesNow : ByteArray := prog_14_method_52_code
def yX12_comesNow : MethodName := ⟨RX12, "comesNow", "(IIII)I"⟩
abbrev cX12_gives : ByteArray := prog_14_method_53_code
def yX12_gives : MethodName := ⟨RX12, "gives", "(II)I"⟩
abbrev cX12_put : ByteArray := prog_14_method_54_code
def yX12_put : MethodName := ⟨RX12, "put", "(IIII)I"⟩
abbrev cX12_give : ByteArray := prog_14_method_55_code
def yX12_give : MethodName := ⟨RX12, "give", "(II)I"⟩
abbrev cX12_run : ByteArray := prog_14_method_56_code
def yX12_run : MethodName := ⟨RX12, "run", "(I)I"⟩
abbrev cX12_readsAct : ByteArray := prog_14_method_57_code
def yX12_readsAct : MethodName := ⟨RX12, "readsAct", "()Z"⟩
abbrev cX12_does : ByteArray := prog_14_method_58_code
def yX12_does : MethodName := ⟨RX12, "does", "(I)Z"⟩
abbrev cX12_day : ByteArray := prog_14_method_59_code
def yX12_day : MethodName := ⟨RX12, "day", "()I"⟩
abbrev cX12_goesOn : ByteArray := prog_14_method_60_code
def yX12_goesOn : MethodName := ⟨RX12, "goesOn", "(I)V"⟩
abbrev cX12_where : ByteArray := prog_14_method_61_code
def yX12_where : MethodName := ⟨RX12, "where", "(II)I"⟩
abbrev cX12_endsAfter : ByteArray := prog_14_method_62_code
def yX12_endsAfter : MethodName := ⟨RX12, "endsAfter", "([III)I"⟩
abbrev cX12_comes : ByteArray := prog_14_method_63_code
def yX12_comes : MethodName := ⟨RX12, "comes", "(I)I"⟩
abbrev cX12_lost : ByteArray := prog_14_method_64_code
def yX12_lost : MethodName := ⟨RX12, "lost", "(I)I"⟩
abbrev cX12_homes : ByteArray := prog_14_method_65_code
def yX12_homes : MethodName := ⟨RX12, "homes", "(I)I"⟩
abbrev cX12_thinksNow : ByteArray := prog_14_method_66_code
def yX12_thinksNow : MethodName := ⟨RX12, "thinksNow", "()V"⟩
abbrev cX12_goesAlone : ByteArray := prog_14_method_67_code
def yX12_goesAlone : MethodName := ⟨RX12, "goesAlone", "(IIII)I"⟩
abbrev cX12_laysAlone : ByteArray := prog_14_method_68_code
def yX12_laysAlone : MethodName := ⟨RX12, "laysAlone", "(IIII)V"⟩
abbrev cX12_sails : ByteArray := prog_14_method_69_code
def yX12_sails : MethodName := ⟨RX12, "sails", "(IIIII)I"⟩
abbrev cX12_canSail : ByteArray := prog_14_method_70_code
def yX12_canSail : MethodName := ⟨RX12, "canSail", "(IIII)Z"⟩
abbrev cX12_sail : ByteArray := prog_14_method_71_code
def yX12_sail : MethodName := ⟨RX12, "sail", "(IIIII)I"⟩
abbrev cX12_soonest : ByteArray := prog_14_method_72_code
def yX12_soonest : MethodName := ⟨RX12, "soonest", "(III)I"⟩
abbrev cX12_basin : ByteArray := prog_14_method_73_code
def yX12_basin : MethodName := ⟨RX12, "basin", "(III)I"⟩
abbrev cX12_boat : ByteArray := prog_14_method_74_code
def yX12_boat : MethodName := ⟨RX12, "boat", "(III)I"⟩
abbrev cX12_coins : ByteArray := prog_14_method_75_code
def yX12_coins : MethodName := ⟨RX12, "coins", "(III)I"⟩
abbrev cX12_waits : ByteArray := prog_14_method_76_code
def yX12_waits : MethodName := ⟨RX12, "waits", "(IIII)I"⟩
abbrev cX12_round : ByteArray := prog_14_method_77_code
def yX12_round : MethodName := ⟨RX12, "round", "(I)I"⟩
abbrev cX12_savedAfter : ByteArray := prog_14_method_78_code
def yX12_savedAfter : MethodName := ⟨RX12, "savedAfter", "(II)I"⟩
abbrev cX12_saves : ByteArray := prog_14_method_79_code
def yX12_saves : MethodName := ⟨RX12, "saves", "(III)I"⟩
abbrev cX12_save : ByteArray := prog_14_method_80_code
def yX12_save : MethodName := ⟨RX12, "save", "(I)I"⟩
abbrev cX12_steer : ByteArray := prog_14_method_81_code
def yX12_steer : MethodName := ⟨RX12, "steer", "(II)I"⟩
abbrev cX12_ways : ByteArray := prog_14_method_82_code
def yX12_ways : MethodName := ⟨RX12, "ways", "(IIII)I"⟩
abbrev cX12_playsOut : ByteArray := prog_14_method_83_code
def yX12_playsOut : MethodName := ⟨RX12, "playsOut", "(I)I"⟩
abbrev cX12_plays : ByteArray := prog_14_method_84_code
def yX12_plays : MethodName := ⟨RX12, "plays", "(III)I"⟩
abbrev cX12_duel : ByteArray := prog_14_method_85_code
def yX12_duel : MethodName := ⟨RX12, "duel", "(IIIII)I"⟩
abbrev cX12_cork : ByteArray := prog_14_method_86_code
def yX12_cork : MethodName := ⟨RX12, "cork", "(III)I"⟩
abbrev cX12_forget : ByteArray := prog_14_method_87_code
def yX12_forget : MethodName := ⟨RX12, "forget", "()I"⟩
abbrev cX12_floatsTo : ByteArray := prog_14_method_88_code
def yX12_floatsTo : MethodName := ⟨RX12, "floatsTo", "(III)I"⟩
abbrev cX12_laysFits : ByteArray := prog_14_method_89_code
def yX12_laysFits : MethodName := ⟨RX12, "laysFits", "()I"⟩
abbrev cX12_maps : ByteArray := prog_14_method_90_code
def yX12_maps : MethodName := ⟨RX12, "maps", "()I"⟩
abbrev cX12_next : ByteArray := prog_14_method_91_code
def yX12_next : MethodName := ⟨RX12, "next", "(I)I"⟩
abbrev cX12_odds : ByteArray := prog_14_method_92_code
def yX12_odds : MethodName := ⟨RX12, "odds", "(III)I"⟩
abbrev cX12_marks : ByteArray := prog_14_method_93_code
def yX12_marks : MethodName := ⟨RX12, "marks", "(III)I"⟩
abbrev cX12_order : ByteArray := prog_14_method_94_code
def yX12_order : MethodName := ⟨RX12, "order", "(II)I"⟩
abbrev cX12_keep : ByteArray := prog_14_method_95_code
def yX12_keep : MethodName := ⟨RX12, "keep", "(I)Z"⟩
abbrev cX12_again : ByteArray := prog_14_method_96_code
def yX12_again : MethodName := ⟨RX12, "again", "(I)Z"⟩
abbrev cX12_count : ByteArray := prog_14_method_97_code
def yX12_count : MethodName := ⟨RX12, "count", "(I)I"⟩
abbrev cX12_row : ByteArray := prog_14_method_98_code
def yX12_row : MethodName := ⟨RX12, "row", "(I)J"⟩
def RJx145de : String := "java/io/Serializable"
def TJx145de : u_T := fun k => match k with
  | _ => ("", "", "", false)
def tyJx145de : Nat → FieldType := fun k => match k with
  | _ => .int
abbrev wsJx145de0 : List Cond := u_ws RJx145de TJx145de 0
theorem nmJx145de : ∀ a, a < 0 → ∀ b, b < 0 → a ≠ b → (TJx145de a).2.1 ≠ (TJx145de b).2.1 := by decide +kernel
theorem tyJx145de_ok : ∀ k, k < 0 → parseFieldDescriptor (TJx145de k).2.2.1 = some (tyJx145de k) := by decide +kernel
def RJx9f9b0 : String := "java/lang/CharSequence"
def TJx9f9b0 : u_T := fun k => match k with
  | _ => ("", "", "", false)
def tyJx9f9b0 : Nat → FieldType := fun k => match k with
  | _ => .int
abbrev wsJx9f9b00 : List Cond := u_ws RJx9f9b0 TJx9f9b0 0
theorem nmJx9f9b0 : ∀ a, a < 0 → ∀ b, b < 0 → a ≠ b → (TJx9f9b0 a).2.1 ≠ (TJx9f9b0 b).2.1 := by decide +kernel
theorem tyJx9f9b0_ok : ∀ k, k < 0 → parseFieldDescriptor (TJx9f9b0 k).2.2.1 = some (tyJx9f9b0 k) := by decide +kernel
def RJ11 : String := "java/lang/Character"
def TJ11 : u_T := fun k => match k with
  | _ => ("", "", "", false)
def tyJ11 : Nat → FieldType := fun k => match k with
  | _ => .int
abbrev wsJ110 : List Cond := u_ws RJ11 TJ11 0
theorem nmJ11 : ∀ a, a < 0 → ∀ b, b < 0 → a ≠ b → (TJ11 a).2.1 ≠ (TJ11 b).2.1 := by decide +kernel
theorem tyJ11_ok : ∀ k, k < 0 → parseFieldDescriptor (TJ11 k).2.2.1 = some (tyJ11 k) := by decide +kernel
abbrev cJ11_isValidCodePoint_9a6ad : ByteArray := prog_17_method_11_code
def yJ11_isValidCodePoint_9a6ad : MethodName := ⟨RJ11, "isValidCodePoint", "(I)Z"⟩
abbrev cJ11_highSurrogate_5068e : ByteArray := prog_17_method_28_code
def yJ11_highSurrogate_5068e : MethodName := ⟨RJ11, "highSurrogate", "(I)C"⟩
abbrev cJ11_lowSurrogate_5068e : ByteArray := prog_17_method_29_code
def yJ11_lowSurrogate_5068e : MethodName := ⟨RJ11, "lowSurrogate", "(I)C"⟩
def RJx8e188 : String := "java/lang/Cloneable"
def TJx8e188 : u_T := fun k => match k with
  | _ => ("", "", "", false)
def tyJx8e188 : Nat → FieldType := fun k => match k with
  | _ => .int
abbrev wsJx8e1880 : List Cond := u_ws RJx8e188 TJx8e188 0
theorem nmJx8e188 : ∀ a, a < 0 → ∀ b, b < 0 → a ≠ b → (TJx8e188 a).2.1 ≠ (TJx8e188 b).2.1 := by decide +kernel
theorem tyJx8e188_ok : ∀ k, k < 0 → parseFieldDescriptor (TJx8e188 k).2.2.1 = some (tyJx8e188 k) := by decide +kernel
def RJxb160c : String := "java/lang/Comparable"
def TJxb160c : u_T := fun k => match k with
  | _ => ("", "", "", false)
def tyJxb160c : Nat → FieldType := fun k => match k with
  | _ => .int
abbrev wsJxb160c0 : List Cond := u_ws RJxb160c TJxb160c 0
theorem nmJxb160c : ∀ a, a < 0 → ∀ b, b < 0 → a ≠ b → (TJxb160c a).2.1 ≠ (TJxb160c b).2.1 := by decide +kernel
theorem tyJxb160c_ok : ∀ k, k < 0 → parseFieldDescriptor (TJxb160c k).2.2.1 = some (tyJxb160c k) := by decide +kernel
def RJ6 : String := "java/lang/Integer"
def TJ6 : u_T := fun k => match k with
  | _ => ("", "", "", false)
def tyJ6 : Nat → FieldType := fun k => match k with
  | _ => .int
abbrev wsJ60 : List Cond := u_ws RJ6 TJ6 0
theorem nmJ6 : ∀ a, a < 0 → ∀ b, b < 0 → a ≠ b → (TJ6 a).2.1 ≠ (TJ6 b).2.1 := by decide +kernel
theorem tyJ6_ok : ∀ k, k < 0 → parseFieldDescriptor (TJ6 k).2.2.1 = some (tyJ6 k) := by decide +kernel
abbrev cJ6_numberOfTrailingZeros_0f7a4 : ByteArray := prog_21_method_48_code
def yJ6_numberOfTrailingZeros_0f7a4 : MethodName := ⟨RJ6, "numberOfTrailingZeros", "(I)I"⟩
abbrev cJ6_bitCount_0f7a4 : ByteArray := prog_21_method_49_code
def yJ6_bitCount_0f7a4 : MethodName := ⟨RJ6, "bitCount", "(I)I"⟩
def RJ9 : String := "java/lang/Math"
def TJ9 : u_T := fun k => match k with
  | _ => ("", "", "", false)
def tyJ9 : Nat → FieldType := fun k => match k with
  | _ => .int
abbrev wsJ90 : List Cond := u_ws RJ9 TJ9 0
theorem nmJ9 : ∀ a, a < 0 → ∀ b, b < 0 → a ≠ b → (TJ9 a).2.1 ≠ (TJ9 b).2.1 := by decide +kernel
theorem tyJ9_ok : ∀ k, k < 0 → parseFieldDescriptor (TJ9 k).2.2.1 = some (tyJ9 k) := by decide +kernel
abbrev cJ9_max_7cf53 : ByteArray := prog_22_method_65_code
def yJ9_max_7cf53 : MethodName := ⟨RJ9, "max", "(II)I"⟩
abbrev cJ9_min_7cf53 : ByteArray := prog_22_method_69_code
def yJ9_min_7cf53 : MethodName := ⟨RJ9, "min", "(II)I"⟩
def RJ0 : String := "java/lang/String"
def TJ0 : u_T := fun k => match k with
  | 0 => ("java/lang/String", "value", "[B", true)
  | 1 => ("java/lang/String", "coder", "B", true)
  | 2 => ("java/lang/String", "hash", "I", false)
  | _ => ("java/lang/String", "hashIsZero", "Z", false)
def tyJ0 : Nat → FieldType := fun k => match k with
  | 0 => .array .byte
  | 1 => .byte
  | 2 => .int
  | _ => .boolean
abbrev wsJ00 : List Cond := u_ws RJ0 TJ0 4
theorem nmJ0 : ∀ a, a < 4 → ∀ b, b < 4 → a ≠ b → (TJ0 a).2.1 ≠ (TJ0 b).2.1 := by decide +kernel
theorem tyJ0_ok : ∀ k, k < 4 → parseFieldDescriptor (TJ0 k).2.2.1 = some (tyJ0 k) := by decide +kernel
abbrev cJ0_length_8abf5 : ByteArray := prog_24_method_54_code
def yJ0_length_8abf5 : MethodName := ⟨RJ0, "length", "()I"⟩
abbrev cJ0_charAt_5068e : ByteArray := prog_24_method_56_code
def yJ0_charAt_5068e : MethodName := ⟨RJ0, "charAt", "(I)C"⟩
abbrev cJ0_indexOf_0f7a4 : ByteArray := prog_24_method_79_code
def yJ0_indexOf_0f7a4 : MethodName := ⟨RJ0, "indexOf", "(I)I"⟩
abbrev cJ0_indexOf_7cf53 : ByteArray := prog_24_method_80_code
def yJ0_indexOf_7cf53 : MethodName := ⟨RJ0, "indexOf", "(II)I"⟩
abbrev cJ0_substring_b52d3 : ByteArray := prog_24_method_91_code
def yJ0_substring_b52d3 : MethodName := ⟨RJ0, "substring", "(I)Ljava/lang/String;"⟩
abbrev cJ0_substring_37a41 : ByteArray := prog_24_method_92_code
def yJ0_substring_37a41 : MethodName := ⟨RJ0, "substring", "(II)Ljava/lang/String;"⟩
abbrev cJ0_init_031fb : ByteArray := prog_24_method_151_code
def yJ0_init_031fb : MethodName := ⟨RJ0, "<init>", "([BB)V"⟩
abbrev cJ0_coder_7d493 : ByteArray := prog_24_method_152_code
def yJ0_coder_7d493 : MethodName := ⟨RJ0, "coder", "()B"⟩
abbrev cJ0_isLatin1_aae02 : ByteArray := prog_24_method_154_code
def yJ0_isLatin1_aae02 : MethodName := ⟨RJ0, "isLatin1", "()Z"⟩
abbrev cJ0_checkIndex_df160 : ByteArray := prog_24_method_155_code
def yJ0_checkIndex_df160 : MethodName := ⟨RJ0, "checkIndex", "(II)V"⟩
abbrev cJ0_checkBoundsOffCount_cabcc : ByteArray := prog_24_method_157_code
def yJ0_checkBoundsOffCount_cabcc : MethodName := ⟨RJ0, "checkBoundsOffCount", "(III)I"⟩
abbrev cJ0_checkBoundsBeginEnd_23922 : ByteArray := prog_24_method_158_code
def yJ0_checkBoundsBeginEnd_23922 : MethodName := ⟨RJ0, "checkBoundsBeginEnd", "(III)V"⟩
def RJ1 : String := "java/lang/StringLatin1"
def TJ1 : u_T := fun k => match k with
  | _ => ("", "", "", false)
def tyJ1 : Nat → FieldType := fun k => match k with
  | _ => .int
abbrev wsJ10 : List Cond := u_ws RJ1 TJ1 0
theorem nmJ1 : ∀ a, a < 0 → ∀ b, b < 0 → a ≠ b → (TJ1 a).2.1 ≠ (TJ1 b).2.1 := by decide +kernel
theorem tyJ1_ok : ∀ k, k < 0 → parseFieldDescriptor (TJ1 k).2.2.1 = some (tyJ1 k) := by decide +kernel
abbrev cJ1_charAt_3b067 : ByteArray := prog_25_method_2_code
def yJ1_charAt_3b067 : MethodName := ⟨RJ1, "charAt", "([BI)C"⟩
abbrev cJ1_canEncode_9a6ad : ByteArray := prog_25_method_4_code
def yJ1_canEncode_9a6ad : MethodName := ⟨RJ1, "canEncode", "(I)Z"⟩
abbrev cJ1_indexOf_4cfef : ByteArray := prog_25_method_22_code
def yJ1_indexOf_4cfef : MethodName := ⟨RJ1, "indexOf", "([BIII)I"⟩
abbrev cJ1_indexOfChar_4cfef : ByteArray := prog_25_method_23_code
def yJ1_indexOfChar_4cfef : MethodName := ⟨RJ1, "indexOfChar", "([BIII)I"⟩
abbrev cJ1_newString_b4f7a : ByteArray := prog_25_method_47_code
def yJ1_newString_b4f7a : MethodName := ⟨RJ1, "newString", "([BII)Ljava/lang/String;"⟩
def RJ2 : String := "java/lang/StringUTF16"
def TJ2 : u_T := fun k => match k with
  | _ => ("", "", "", false)
def tyJ2 : Nat → FieldType := fun k => match k with
  | _ => .int
abbrev wsJ20 : List Cond := u_ws RJ2 TJ2 0
theorem nmJ2 : ∀ a, a < 0 → ∀ b, b < 0 → a ≠ b → (TJ2 a).2.1 ≠ (TJ2 b).2.1 := by decide +kernel
theorem tyJ2_ok : ∀ k, k < 0 → parseFieldDescriptor (TJ2 k).2.2.1 = some (tyJ2 k) := by decide +kernel
abbrev cJ2_newBytesLength_0f7a4 : ByteArray := prog_26_method_3_code
def yJ2_newBytesLength_0f7a4 : MethodName := ⟨RJ2, "newBytesLength", "(I)I"⟩
abbrev cJ2_getChar_3b067 : ByteArray := prog_26_method_5_code
def yJ2_getChar_3b067 : MethodName := ⟨RJ2, "getChar", "([BI)C"⟩
abbrev cJ2_length_9d52b : ByteArray := prog_26_method_6_code
def yJ2_length_9d52b : MethodName := ⟨RJ2, "length", "([B)I"⟩
abbrev cJ2_coderFromArrayLen_85cad : ByteArray := prog_26_method_15_code
def yJ2_coderFromArrayLen_85cad : MethodName := ⟨RJ2, "coderFromArrayLen", "([BI)B"⟩
abbrev cJ2_compress_39247 : ByteArray := prog_26_method_17_code
def yJ2_compress_39247 : MethodName := ⟨RJ2, "compress", "([BII)[B"⟩
abbrev cJ2_compress_5af95 : ByteArray := prog_26_method_22_code
def yJ2_compress_5af95 : MethodName := ⟨RJ2, "compress", "([BI[BII)I"⟩
abbrev cJ2_indexOf_4cfef : ByteArray := prog_26_method_40_code
def yJ2_indexOf_4cfef : MethodName := ⟨RJ2, "indexOf", "([BIII)I"⟩
abbrev cJ2_indexOfChar_4cfef : ByteArray := prog_26_method_47_code
def yJ2_indexOfChar_4cfef : MethodName := ⟨RJ2, "indexOfChar", "([BIII)I"⟩
abbrev cJ2_indexOfCharUnsafe_4cfef : ByteArray := prog_26_method_48_code
def yJ2_indexOfCharUnsafe_4cfef : MethodName := ⟨RJ2, "indexOfCharUnsafe", "([BIII)I"⟩
abbrev cJ2_indexOfSupplementary_4cfef : ByteArray := prog_26_method_49_code
def yJ2_indexOfSupplementary_4cfef : MethodName := ⟨RJ2, "indexOfSupplementary", "([BIII)I"⟩
abbrev cJ2_newString_b4f7a : ByteArray := prog_26_method_69_code
def yJ2_newString_b4f7a : MethodName := ⟨RJ2, "newString", "([BII)Ljava/lang/String;"⟩
abbrev cJ2_charAt_3b067 : ByteArray := prog_26_method_83_code
def yJ2_charAt_3b067 : MethodName := ⟨RJ2, "charAt", "([BI)C"⟩
abbrev cJ2_checkIndex_2214a : ByteArray := prog_26_method_91_code
def yJ2_checkIndex_2214a : MethodName := ⟨RJ2, "checkIndex", "(I[B)V"⟩
abbrev cJ2_checkBoundsBeginEnd_d044e : ByteArray := prog_26_method_93_code
def yJ2_checkBoundsBeginEnd_d044e : MethodName := ⟨RJ2, "checkBoundsBeginEnd", "(II[B)V"⟩
abbrev cJ2_checkBoundsOffCount_d044e : ByteArray := prog_26_method_94_code
def yJ2_checkBoundsOffCount_d044e : MethodName := ⟨RJ2, "checkBoundsOffCount", "(II[B)V"⟩
def RJ10 : String := "java/lang/System"
def TJ10 : u_T := fun k => match k with
  | _ => ("", "", "", false)
def tyJ10 : Nat → FieldType := fun k => match k with
  | _ => .int
abbrev wsJ100 : List Cond := u_ws RJ10 TJ10 0
theorem nmJ10 : ∀ a, a < 0 → ∀ b, b < 0 → a ≠ b → (TJ10 a).2.1 ≠ (TJ10 b).2.1 := by decide +kernel
theorem tyJ10_ok : ∀ k, k < 0 → parseFieldDescriptor (TJ10 k).2.2.1 = some (tyJ10 k) := by decide +kernel
def RJxfd54e : String := "java/lang/constant/Constable"
def TJxfd54e : u_T := fun k => match k with
  | _ => ("", "", "", false)
def tyJxfd54e : Nat → FieldType := fun k => match k with
  | _ => .int
abbrev wsJxfd54e0 : List Cond := u_ws RJxfd54e TJxfd54e 0
theorem nmJxfd54e : ∀ a, a < 0 → ∀ b, b < 0 → a ≠ b → (TJxfd54e a).2.1 ≠ (TJxfd54e b).2.1 := by decide +kernel
theorem tyJxfd54e_ok : ∀ k, k < 0 → parseFieldDescriptor (TJxfd54e k).2.2.1 = some (tyJxfd54e k) := by decide +kernel
def RJx3cf43 : String := "java/lang/constant/ConstantDesc"
def TJx3cf43 : u_T := fun k => match k with
  | _ => ("", "", "", false)
def tyJx3cf43 : Nat → FieldType := fun k => match k with
  | _ => .int
abbrev wsJx3cf430 : List Cond := u_ws RJx3cf43 TJx3cf43 0
theorem nmJx3cf43 : ∀ a, a < 0 → ∀ b, b < 0 → a ≠ b → (TJx3cf43 a).2.1 ≠ (TJx3cf43 b).2.1 := by decide +kernel
theorem tyJx3cf43_ok : ∀ k, k < 0 → parseFieldDescriptor (TJx3cf43 k).2.2.1 = some (tyJx3cf43 k) := by decide +kernel
def RJ7 : String := "java/util/Arrays"
def TJ7 : u_T := fun k => match k with
  | _ => ("", "", "", false)
def tyJ7 : Nat → FieldType := fun k => match k with
  | _ => .int
abbrev wsJ70 : List Cond := u_ws RJ7 TJ7 0
theorem nmJ7 : ∀ a, a < 0 → ∀ b, b < 0 → a ≠ b → (TJ7 a).2.1 ≠ (TJ7 b).2.1 := by decide +kernel
theorem tyJ7_ok : ∀ k, k < 0 → parseFieldDescriptor (TJ7 k).2.2.1 = some (tyJ7 k) := by decide +kernel
abbrev cJ7_checkLength_df160 : ByteArray := prog_31_method_131_code
def yJ7_checkLength_df160 : MethodName := ⟨RJ7, "checkLength", "(II)V"⟩
abbrev cJ7_copyOfRange_39247 : ByteArray := prog_31_method_132_code
def yJ7_copyOfRange_39247 : MethodName := ⟨RJ7, "copyOfRange", "([BII)[B"⟩
abbrev cJ7_copyOfRangeByte_39247 : ByteArray := prog_31_method_133_code
def yJ7_copyOfRangeByte_39247 : MethodName := ⟨RJ7, "copyOfRangeByte", "([BII)[B"⟩
def RJ3 : String := "jdk/internal/util/Preconditions"
def TJ3 : u_T := fun k => match k with
  | _ => ("", "", "", false)
def tyJ3 : Nat → FieldType := fun k => match k with
  | _ => .int
abbrev wsJ30 : List Cond := u_ws RJ3 TJ3 0
theorem nmJ3 : ∀ a, a < 0 → ∀ b, b < 0 → a ≠ b → (TJ3 a).2.1 ≠ (TJ3 b).2.1 := by decide +kernel
theorem tyJ3_ok : ∀ k, k < 0 → parseFieldDescriptor (TJ3 k).2.2.1 = some (tyJ3 k) := by decide +kernel
abbrev cJ3_checkIndex_8e157 : ByteArray := prog_33_method_11_code
def yJ3_checkIndex_8e157 : MethodName := ⟨RJ3, "checkIndex", "(IILjava/util/function/BiFunction;)I"⟩
abbrev cJ3_checkFromToIndex_8c36e : ByteArray := prog_33_method_12_code
def yJ3_checkFromToIndex_8c36e : MethodName := ⟨RJ3, "checkFromToIndex", "(IIILjava/util/function/BiFunction;)I"⟩
abbrev cJ3_checkFromIndexSize_8c36e : ByteArray := prog_33_method_13_code
def yJ3_checkFromIndexSize_8c36e : MethodName := ⟨RJ3, "checkFromIndexSize", "(IIILjava/util/function/BiFunction;)I"⟩
def RL : String := "DownTheGutterLaw"
abbrev cL_place : ByteArray := method_3_code
def yL_place : MethodName := ⟨RL, "place", "(LDownTheGutter;II[J)I"⟩
abbrev cL_of : ByteArray := method_4_code
def yL_of : MethodName := ⟨RL, "of", "(LDownTheGutter;II[J)I"⟩
abbrev cL_row : ByteArray := method_5_code
def yL_row : MethodName := ⟨RL, "row", "(LDownTheGutter;I[J)I"⟩
abbrev cL_law : ByteArray := code
def yL_law : MethodName := ⟨RL, "law", "([I)Z"⟩
abbrev vwCl : List vw_C := [(RJ0, TJ0, 4), (RX0, TX0, 4), (RX1, TX1, 10), (RX2, TX2, 5), (RX3, TX3, 3), (RX4, TX4, 2), (RX5, TX5, 11), (RX6, TX6, 11), (RX7, TX7, 3), (RX8, TX8, 9), (RX9, TX9, 9), (RX10, TX10, 2), (RX11, TX11, 16), (RX12, TX12, 60)]
