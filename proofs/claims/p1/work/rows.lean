section
-- ===== PART A: goes FIRST, ahead of the names: the tables' words, and 'selects' of the private methods out of them =====
/-- a private method of a class that the tables say can be made, by its rows of tables_1 -/
def lw_okq (q : MethodName × Nat) : Prop := (q.1.cls ≠ "java/lang/invoke/MethodHandle" ∧ q.1.cls ≠ "java/lang/invoke/VarHandle") ∧ Cond.instantiable q.1.cls q.2 ∈ tables_1 ∧ Cond.privateMethod q.1 ∈ tables_1 ∧ Cond.instanceMethod q.1 ∈ tables_1
theorem lw_p0 : lw_okq (⟨"DownTheGutter$Town", "clear", "()V"⟩, 9) := ⟨⟨by decide +kernel, by decide +kernel⟩, List.mem_of_getElem? (i := 55) (by decide +kernel), List.mem_of_getElem? (i := 433) (by decide +kernel), List.mem_of_getElem? (i := 434) (by decide +kernel)⟩
theorem lw_p1 : lw_okq (⟨"DownTheGutter$Town", "readLine", "(LDownTheGutter$Signs;I)I"⟩, 9) := ⟨⟨by decide +kernel, by decide +kernel⟩, List.mem_of_getElem? (i := 55) (by decide +kernel), List.mem_of_getElem? (i := 448) (by decide +kernel), List.mem_of_getElem? (i := 449) (by decide +kernel)⟩
theorem lw_p2 : lw_okq (⟨"DownTheGutter$Town", "addPlace", "(IIII)V"⟩, 9) := ⟨⟨by decide +kernel, by decide +kernel⟩, List.mem_of_getElem? (i := 55) (by decide +kernel), List.mem_of_getElem? (i := 545) (by decide +kernel), List.mem_of_getElem? (i := 546) (by decide +kernel)⟩
theorem lw_p3 : lw_okq (⟨"DownTheGutter$Town", "use", "(II)V"⟩, 9) := ⟨⟨by decide +kernel, by decide +kernel⟩, List.mem_of_getElem? (i := 55) (by decide +kernel), List.mem_of_getElem? (i := 553) (by decide +kernel), List.mem_of_getElem? (i := 554) (by decide +kernel)⟩
theorem lw_p4 : lw_okq (⟨"DownTheGutter$Town", "readFork", "(LDownTheGutter$Signs;II)I"⟩, 9) := ⟨⟨by decide +kernel, by decide +kernel⟩, List.mem_of_getElem? (i := 55) (by decide +kernel), List.mem_of_getElem? (i := 557) (by decide +kernel), List.mem_of_getElem? (i := 558) (by decide +kernel)⟩
theorem lw_p5 : lw_okq (⟨"DownTheGutter$Town", "readMill", "(LDownTheGutter$Signs;II)I"⟩, 9) := ⟨⟨by decide +kernel, by decide +kernel⟩, List.mem_of_getElem? (i := 55) (by decide +kernel), List.mem_of_getElem? (i := 561) (by decide +kernel), List.mem_of_getElem? (i := 562) (by decide +kernel)⟩
theorem lw_p6 : lw_okq (⟨"DownTheGutter$Town", "readFigure", "(LDownTheGutter$Signs;III)I"⟩, 9) := ⟨⟨by decide +kernel, by decide +kernel⟩, List.mem_of_getElem? (i := 55) (by decide +kernel), List.mem_of_getElem? (i := 569) (by decide +kernel), List.mem_of_getElem? (i := 570) (by decide +kernel)⟩
theorem lw_p7 : lw_okq (⟨"DownTheGutter$Town", "judgeLetters", "()I"⟩, 9) := ⟨⟨by decide +kernel, by decide +kernel⟩, List.mem_of_getElem? (i := 55) (by decide +kernel), List.mem_of_getElem? (i := 573) (by decide +kernel), List.mem_of_getElem? (i := 574) (by decide +kernel)⟩
theorem lw_p8 : lw_okq (⟨"DownTheGutter$Rule", "clear", "()V"⟩, 11) := ⟨⟨by decide +kernel, by decide +kernel⟩, List.mem_of_getElem? (i := 107) (by decide +kernel), List.mem_of_getElem? (i := 614) (by decide +kernel), List.mem_of_getElem? (i := 615) (by decide +kernel)⟩
theorem lw_p9 : lw_okq (⟨"DownTheGutter$Rule", "addFact", "(I)V"⟩, 11) := ⟨⟨by decide +kernel, by decide +kernel⟩, List.mem_of_getElem? (i := 107) (by decide +kernel), List.mem_of_getElem? (i := 620) (by decide +kernel), List.mem_of_getElem? (i := 621) (by decide +kernel)⟩
theorem lw_p10 : lw_okq (⟨"DownTheGutter$Rule", "addStep", "(I)V"⟩, 11) := ⟨⟨by decide +kernel, by decide +kernel⟩, List.mem_of_getElem? (i := 107) (by decide +kernel), List.mem_of_getElem? (i := 624) (by decide +kernel), List.mem_of_getElem? (i := 625) (by decide +kernel)⟩
theorem lw_p11 : lw_okq (⟨"DownTheGutter$Rule", "finish", "(I)I"⟩, 11) := ⟨⟨by decide +kernel, by decide +kernel⟩, List.mem_of_getElem? (i := 107) (by decide +kernel), List.mem_of_getElem? (i := 628) (by decide +kernel), List.mem_of_getElem? (i := 629) (by decide +kernel)⟩
theorem lw_p12 : lw_okq (⟨"DownTheGutter$Rule", "release", "(I)V"⟩, 11) := ⟨⟨by decide +kernel, by decide +kernel⟩, List.mem_of_getElem? (i := 107) (by decide +kernel), List.mem_of_getElem? (i := 632) (by decide +kernel), List.mem_of_getElem? (i := 633) (by decide +kernel)⟩
theorem lw_p13 : lw_okq (⟨"DownTheGutter$Rule", "takeThing", "(LDownTheGutter$Signs;I)Z"⟩, 11) := ⟨⟨by decide +kernel, by decide +kernel⟩, List.mem_of_getElem? (i := 107) (by decide +kernel), List.mem_of_getElem? (i := 639) (by decide +kernel), List.mem_of_getElem? (i := 640) (by decide +kernel)⟩
theorem lw_p14 : lw_okq (⟨"DownTheGutter$Rule", "hold", "(I)V"⟩, 11) := ⟨⟨by decide +kernel, by decide +kernel⟩, List.mem_of_getElem? (i := 107) (by decide +kernel), List.mem_of_getElem? (i := 647) (by decide +kernel), List.mem_of_getElem? (i := 648) (by decide +kernel)⟩
theorem lw_p15 : lw_okq (⟨"DownTheGutter$Rule", "takeBehindThing", "(LDownTheGutter$Signs;I)Z"⟩, 11) := ⟨⟨by decide +kernel, by decide +kernel⟩, List.mem_of_getElem? (i := 107) (by decide +kernel), List.mem_of_getElem? (i := 651) (by decide +kernel), List.mem_of_getElem? (i := 652) (by decide +kernel)⟩
def lw_privs_1 : List (MethodName × Nat) := [(⟨"DownTheGutter$Town", "clear", "()V"⟩, 9), (⟨"DownTheGutter$Town", "readLine", "(LDownTheGutter$Signs;I)I"⟩, 9), (⟨"DownTheGutter$Town", "addPlace", "(IIII)V"⟩, 9), (⟨"DownTheGutter$Town", "use", "(II)V"⟩, 9), (⟨"DownTheGutter$Town", "readFork", "(LDownTheGutter$Signs;II)I"⟩, 9), (⟨"DownTheGutter$Town", "readMill", "(LDownTheGutter$Signs;II)I"⟩, 9), (⟨"DownTheGutter$Town", "readFigure", "(LDownTheGutter$Signs;III)I"⟩, 9), (⟨"DownTheGutter$Town", "judgeLetters", "()I"⟩, 9), (⟨"DownTheGutter$Rule", "clear", "()V"⟩, 11), (⟨"DownTheGutter$Rule", "addFact", "(I)V"⟩, 11), (⟨"DownTheGutter$Rule", "addStep", "(I)V"⟩, 11), (⟨"DownTheGutter$Rule", "finish", "(I)I"⟩, 11), (⟨"DownTheGutter$Rule", "release", "(I)V"⟩, 11), (⟨"DownTheGutter$Rule", "takeThing", "(LDownTheGutter$Signs;I)Z"⟩, 11), (⟨"DownTheGutter$Rule", "hold", "(I)V"⟩, 11), (⟨"DownTheGutter$Rule", "takeBehindThing", "(LDownTheGutter$Signs;I)Z"⟩, 11)]
theorem lw_r1 : ∀ q ∈ lw_privs_1, lw_okq q := List.forall_mem_cons.mpr ⟨lw_p0, List.forall_mem_cons.mpr ⟨lw_p1, List.forall_mem_cons.mpr ⟨lw_p2, List.forall_mem_cons.mpr ⟨lw_p3, List.forall_mem_cons.mpr ⟨lw_p4, List.forall_mem_cons.mpr ⟨lw_p5, List.forall_mem_cons.mpr ⟨lw_p6, List.forall_mem_cons.mpr ⟨lw_p7, List.forall_mem_cons.mpr ⟨lw_p8, List.forall_mem_cons.mpr ⟨lw_p9, List.forall_mem_cons.mpr ⟨lw_p10, List.forall_mem_cons.mpr ⟨lw_p11, List.forall_mem_cons.mpr ⟨lw_p12, List.forall_mem_cons.mpr ⟨lw_p13, List.forall_mem_cons.mpr ⟨lw_p14, List.forall_mem_cons.mpr ⟨lw_p15, fun _ h => absurd h List.not_mem_nil⟩⟩⟩⟩⟩⟩⟩⟩⟩⟩⟩⟩⟩⟩⟩⟩
theorem lw_p16 : lw_okq (⟨"DownTheGutter$Rule", "lengthenNumber", "(I)Z"⟩, 11) := ⟨⟨by decide +kernel, by decide +kernel⟩, List.mem_of_getElem? (i := 107) (by decide +kernel), List.mem_of_getElem? (i := 655) (by decide +kernel), List.mem_of_getElem? (i := 656) (by decide +kernel)⟩
theorem lw_p17 : lw_okq (⟨"DownTheGutter$Rule", "close", "()Z"⟩, 11) := ⟨⟨by decide +kernel, by decide +kernel⟩, List.mem_of_getElem? (i := 107) (by decide +kernel), List.mem_of_getElem? (i := 659) (by decide +kernel), List.mem_of_getElem? (i := 660) (by decide +kernel)⟩
theorem lw_p18 : lw_okq (⟨"DownTheGutter", "passMinutes", "(I)V"⟩, 16) := ⟨⟨by decide +kernel, by decide +kernel⟩, List.mem_of_getElem? (i := 28) (by decide +kernel), List.mem_of_getElem? (i := 750) (by decide +kernel), List.mem_of_getElem? (i := 751) (by decide +kernel)⟩
theorem lw_p19 : lw_okq (⟨"DownTheGutter$Current", "flowIn", "(I)I"⟩, 10) := ⟨⟨by decide +kernel, by decide +kernel⟩, List.mem_of_getElem? (i := 278) (by decide +kernel), List.mem_of_getElem? (i := 758) (by decide +kernel), List.mem_of_getElem? (i := 759) (by decide +kernel)⟩
theorem lw_p20 : lw_okq (⟨"DownTheGutter$Current", "step", "(LDownTheGutter$Scene;II)Z"⟩, 10) := ⟨⟨by decide +kernel, by decide +kernel⟩, List.mem_of_getElem? (i := 278) (by decide +kernel), List.mem_of_getElem? (i := 768) (by decide +kernel), List.mem_of_getElem? (i := 769) (by decide +kernel)⟩
theorem lw_p21 : lw_okq (⟨"DownTheGutter$Current", "wayOf", "(LDownTheGutter$Scene;III)I"⟩, 10) := ⟨⟨by decide +kernel, by decide +kernel⟩, List.mem_of_getElem? (i := 278) (by decide +kernel), List.mem_of_getElem? (i := 788) (by decide +kernel), List.mem_of_getElem? (i := 789) (by decide +kernel)⟩
theorem lw_p22 : lw_okq (⟨"DownTheGutter$Current", "pays", "(LDownTheGutter$Scene;II)Z"⟩, 10) := ⟨⟨by decide +kernel, by decide +kernel⟩, List.mem_of_getElem? (i := 278) (by decide +kernel), List.mem_of_getElem? (i := 818) (by decide +kernel), List.mem_of_getElem? (i := 819) (by decide +kernel)⟩
theorem lw_p23 : lw_okq (⟨"DownTheGutter$Current", "arrives", "(LDownTheGutter$Scene;III)Z"⟩, 10) := ⟨⟨by decide +kernel, by decide +kernel⟩, List.mem_of_getElem? (i := 278) (by decide +kernel), List.mem_of_getElem? (i := 830) (by decide +kernel), List.mem_of_getElem? (i := 831) (by decide +kernel)⟩
theorem lw_p24 : lw_okq (⟨"DownTheGutter$Diary", "readAct", "(LDownTheGutter$Signs;I)I"⟩, 5) := ⟨⟨by decide +kernel, by decide +kernel⟩, List.mem_of_getElem? (i := 149) (by decide +kernel), List.mem_of_getElem? (i := 857) (by decide +kernel), List.mem_of_getElem? (i := 858) (by decide +kernel)⟩
theorem lw_p25 : lw_okq (⟨"DownTheGutter$Diary", "readPut", "(LDownTheGutter$Signs;I)I"⟩, 5) := ⟨⟨by decide +kernel, by decide +kernel⟩, List.mem_of_getElem? (i := 149) (by decide +kernel), List.mem_of_getElem? (i := 863) (by decide +kernel), List.mem_of_getElem? (i := 864) (by decide +kernel)⟩
theorem lw_p26 : lw_okq (⟨"DownTheGutter$Diary", "add", "(IIII)V"⟩, 5) := ⟨⟨by decide +kernel, by decide +kernel⟩, List.mem_of_getElem? (i := 149) (by decide +kernel), List.mem_of_getElem? (i := 876) (by decide +kernel), List.mem_of_getElem? (i := 877) (by decide +kernel)⟩
theorem lw_p27 : lw_okq (⟨"DownTheGutter$Diary", "readTurn", "(LDownTheGutter$Signs;I)I"⟩, 5) := ⟨⟨by decide +kernel, by decide +kernel⟩, List.mem_of_getElem? (i := 149) (by decide +kernel), List.mem_of_getElem? (i := 880) (by decide +kernel), List.mem_of_getElem? (i := 881) (by decide +kernel)⟩
theorem lw_p28 : lw_okq (⟨"DownTheGutter$Diary", "readMinutes", "(LDownTheGutter$Signs;I)I"⟩, 5) := ⟨⟨by decide +kernel, by decide +kernel⟩, List.mem_of_getElem? (i := 149) (by decide +kernel), List.mem_of_getElem? (i := 884) (by decide +kernel), List.mem_of_getElem? (i := 885) (by decide +kernel)⟩
theorem lw_p29 : lw_okq (⟨"DownTheGutter$Diary", "readGive", "(LDownTheGutter$Signs;I)I"⟩, 5) := ⟨⟨by decide +kernel, by decide +kernel⟩, List.mem_of_getElem? (i := 149) (by decide +kernel), List.mem_of_getElem? (i := 888) (by decide +kernel), List.mem_of_getElem? (i := 889) (by decide +kernel)⟩
theorem lw_p30 : lw_okq (⟨"DownTheGutter", "perform", "(I)I"⟩, 16) := ⟨⟨by decide +kernel, by decide +kernel⟩, List.mem_of_getElem? (i := 28) (by decide +kernel), List.mem_of_getElem? (i := 893) (by decide +kernel), List.mem_of_getElem? (i := 894) (by decide +kernel)⟩
theorem lw_p31 : lw_okq (⟨"DownTheGutter$Diary", "has", "(I)Z"⟩, 5) := ⟨⟨by decide +kernel, by decide +kernel⟩, List.mem_of_getElem? (i := 149) (by decide +kernel), List.mem_of_getElem? (i := 901) (by decide +kernel), List.mem_of_getElem? (i := 902) (by decide +kernel)⟩
def lw_privs_2 : List (MethodName × Nat) := [(⟨"DownTheGutter$Rule", "lengthenNumber", "(I)Z"⟩, 11), (⟨"DownTheGutter$Rule", "close", "()Z"⟩, 11), (⟨"DownTheGutter", "passMinutes", "(I)V"⟩, 16), (⟨"DownTheGutter$Current", "flowIn", "(I)I"⟩, 10), (⟨"DownTheGutter$Current", "step", "(LDownTheGutter$Scene;II)Z"⟩, 10), (⟨"DownTheGutter$Current", "wayOf", "(LDownTheGutter$Scene;III)I"⟩, 10), (⟨"DownTheGutter$Current", "pays", "(LDownTheGutter$Scene;II)Z"⟩, 10), (⟨"DownTheGutter$Current", "arrives", "(LDownTheGutter$Scene;III)Z"⟩, 10), (⟨"DownTheGutter$Diary", "readAct", "(LDownTheGutter$Signs;I)I"⟩, 5), (⟨"DownTheGutter$Diary", "readPut", "(LDownTheGutter$Signs;I)I"⟩, 5), (⟨"DownTheGutter$Diary", "add", "(IIII)V"⟩, 5), (⟨"DownTheGutter$Diary", "readTurn", "(LDownTheGutter$Signs;I)I"⟩, 5), (⟨"DownTheGutter$Diary", "readMinutes", "(LDownTheGutter$Signs;I)I"⟩, 5), (⟨"DownTheGutter$Diary", "readGive", "(LDownTheGutter$Signs;I)I"⟩, 5), (⟨"DownTheGutter", "perform", "(I)I"⟩, 16), (⟨"DownTheGutter$Diary", "has", "(I)Z"⟩, 5)]
theorem lw_r2 : ∀ q ∈ lw_privs_2, lw_okq q := List.forall_mem_cons.mpr ⟨lw_p16, List.forall_mem_cons.mpr ⟨lw_p17, List.forall_mem_cons.mpr ⟨lw_p18, List.forall_mem_cons.mpr ⟨lw_p19, List.forall_mem_cons.mpr ⟨lw_p20, List.forall_mem_cons.mpr ⟨lw_p21, List.forall_mem_cons.mpr ⟨lw_p22, List.forall_mem_cons.mpr ⟨lw_p23, List.forall_mem_cons.mpr ⟨lw_p24, List.forall_mem_cons.mpr ⟨lw_p25, List.forall_mem_cons.mpr ⟨lw_p26, List.forall_mem_cons.mpr ⟨lw_p27, List.forall_mem_cons.mpr ⟨lw_p28, List.forall_mem_cons.mpr ⟨lw_p29, List.forall_mem_cons.mpr ⟨lw_p30, List.forall_mem_cons.mpr ⟨lw_p31, fun _ h => absurd h List.not_mem_nil⟩⟩⟩⟩⟩⟩⟩⟩⟩⟩⟩⟩⟩⟩⟩⟩
theorem lw_p32 : lw_okq (⟨"DownTheGutter", "sailed", "(IIII)I"⟩, 16) := ⟨⟨by decide +kernel, by decide +kernel⟩, List.mem_of_getElem? (i := 28) (by decide +kernel), List.mem_of_getElem? (i := 990) (by decide +kernel), List.mem_of_getElem? (i := 991) (by decide +kernel)⟩
theorem lw_p33 : lw_okq (⟨"DownTheGutter", "fewestTurns", "(I)I"⟩, 16) := ⟨⟨by decide +kernel, by decide +kernel⟩, List.mem_of_getElem? (i := 28) (by decide +kernel), List.mem_of_getElem? (i := 1064) (by decide +kernel), List.mem_of_getElem? (i := 1065) (by decide +kernel)⟩
theorem lw_p34 : lw_okq (⟨"DownTheGutter$Trials", "remember", "(II)V"⟩, 9) := ⟨⟨by decide +kernel, by decide +kernel⟩, List.mem_of_getElem? (i := 321) (by decide +kernel), List.mem_of_getElem? (i := 1072) (by decide +kernel), List.mem_of_getElem? (i := 1073) (by decide +kernel)⟩
theorem lw_p35 : lw_okq (⟨"DownTheGutter$Trials", "spread", "(II)V"⟩, 9) := ⟨⟨by decide +kernel, by decide +kernel⟩, List.mem_of_getElem? (i := 321) (by decide +kernel), List.mem_of_getElem? (i := 1085) (by decide +kernel), List.mem_of_getElem? (i := 1086) (by decide +kernel)⟩
theorem lw_p36 : lw_okq (⟨"DownTheGutter", "firstGets", "(IIIZ)Z"⟩, 16) := ⟨⟨by decide +kernel, by decide +kernel⟩, List.mem_of_getElem? (i := 28) (by decide +kernel), List.mem_of_getElem? (i := 1103) (by decide +kernel), List.mem_of_getElem? (i := 1104) (by decide +kernel)⟩
theorem lw_p37 : lw_okq (⟨"DownTheGutter", "findFits", "()V"⟩, 16) := ⟨⟨by decide +kernel, by decide +kernel⟩, List.mem_of_getElem? (i := 28) (by decide +kernel), List.mem_of_getElem? (i := 1126) (by decide +kernel), List.mem_of_getElem? (i := 1127) (by decide +kernel)⟩
theorem lw_p38 : lw_okq (⟨"DownTheGutter$Corks", "has", "(I)Z"⟩, 4) := ⟨⟨by decide +kernel, by decide +kernel⟩, List.mem_of_getElem? (i := 243) (by decide +kernel), List.mem_of_getElem? (i := 1142) (by decide +kernel), List.mem_of_getElem? (i := 1143) (by decide +kernel)⟩
theorem lw_p39 : lw_okq (⟨"DownTheGutter$Trials", "tally", "(I)I"⟩, 9) := ⟨⟨by decide +kernel, by decide +kernel⟩, List.mem_of_getElem? (i := 321) (by decide +kernel), List.mem_of_getElem? (i := 1174) (by decide +kernel), List.mem_of_getElem? (i := 1175) (by decide +kernel)⟩
theorem lw_p40 : lw_okq (⟨"java/lang/Throwable", "fillInStackTrace", "(I)Ljava/lang/Throwable;"⟩, 6) := ⟨⟨by decide +kernel, by decide +kernel⟩, List.mem_of_getElem? (i := 1256) (by decide +kernel), List.mem_of_getElem? (i := 1254) (by decide +kernel), List.mem_of_getElem? (i := 1255) (by decide +kernel)⟩
theorem lw_p41 : lw_okq (⟨"DownTheGutterModel", "begins", "(I)I"⟩, 60) := ⟨⟨by decide +kernel, by decide +kernel⟩, List.mem_of_getElem? (i := 1321) (by decide +kernel), List.mem_of_getElem? (i := 1527) (by decide +kernel), List.mem_of_getElem? (i := 1528) (by decide +kernel)⟩
theorem lw_p42 : lw_okq (⟨"DownTheGutterModel", "readsPlace", "()Z"⟩, 60) := ⟨⟨by decide +kernel, by decide +kernel⟩, List.mem_of_getElem? (i := 1321) (by decide +kernel), List.mem_of_getElem? (i := 1532) (by decide +kernel), List.mem_of_getElem? (i := 1533) (by decide +kernel)⟩
theorem lw_p43 : lw_okq (⟨"DownTheGutterModel", "takesOf", "(Ljava/lang/String;)I"⟩, 60) := ⟨⟨by decide +kernel, by decide +kernel⟩, List.mem_of_getElem? (i := 1321) (by decide +kernel), List.mem_of_getElem? (i := 1537) (by decide +kernel), List.mem_of_getElem? (i := 1538) (by decide +kernel)⟩
theorem lw_p44 : lw_okq (⟨"DownTheGutterModel", "among", "(Ljava/lang/String;)I"⟩, 60) := ⟨⟨by decide +kernel, by decide +kernel⟩, List.mem_of_getElem? (i := 1321) (by decide +kernel), List.mem_of_getElem? (i := 1541) (by decide +kernel), List.mem_of_getElem? (i := 1542) (by decide +kernel)⟩
theorem lw_p45 : lw_okq (⟨"DownTheGutterModel", "readsLetter", "()I"⟩, 60) := ⟨⟨by decide +kernel, by decide +kernel⟩, List.mem_of_getElem? (i := 1321) (by decide +kernel), List.mem_of_getElem? (i := 1569) (by decide +kernel), List.mem_of_getElem? (i := 1570) (by decide +kernel)⟩
theorem lw_p46 : lw_okq (⟨"DownTheGutterModel", "takes", "(I)Z"⟩, 60) := ⟨⟨by decide +kernel, by decide +kernel⟩, List.mem_of_getElem? (i := 1321) (by decide +kernel), List.mem_of_getElem? (i := 1655) (by decide +kernel), List.mem_of_getElem? (i := 1656) (by decide +kernel)⟩
theorem lw_p47 : lw_okq (⟨"DownTheGutterModel", "faultOf", "(IIZ)I"⟩, 60) := ⟨⟨by decide +kernel, by decide +kernel⟩, List.mem_of_getElem? (i := 1321) (by decide +kernel), List.mem_of_getElem? (i := 1659) (by decide +kernel), List.mem_of_getElem? (i := 1660) (by decide +kernel)⟩
def lw_privs_3 : List (MethodName × Nat) := [(⟨"DownTheGutter", "sailed", "(IIII)I"⟩, 16), (⟨"DownTheGutter", "fewestTurns", "(I)I"⟩, 16), (⟨"DownTheGutter$Trials", "remember", "(II)V"⟩, 9), (⟨"DownTheGutter$Trials", "spread", "(II)V"⟩, 9), (⟨"DownTheGutter", "firstGets", "(IIIZ)Z"⟩, 16), (⟨"DownTheGutter", "findFits", "()V"⟩, 16), (⟨"DownTheGutter$Corks", "has", "(I)Z"⟩, 4), (⟨"DownTheGutter$Trials", "tally", "(I)I"⟩, 9), (⟨"java/lang/Throwable", "fillInStackTrace", "(I)Ljava/lang/Throwable;"⟩, 6), (⟨"DownTheGutterModel", "begins", "(I)I"⟩, 60), (⟨"DownTheGutterModel", "readsPlace", "()Z"⟩, 60), (⟨"DownTheGutterModel", "takesOf", "(Ljava/lang/String;)I"⟩, 60), (⟨"DownTheGutterModel", "among", "(Ljava/lang/String;)I"⟩, 60), (⟨"DownTheGutterModel", "readsLetter", "()I"⟩, 60), (⟨"DownTheGutterModel", "takes", "(I)Z"⟩, 60), (⟨"DownTheGutterModel", "faultOf", "(IIZ)I"⟩, 60)]
theorem lw_r3 : ∀ q ∈ lw_privs_3, lw_okq q := List.forall_mem_cons.mpr ⟨lw_p32, List.forall_mem_cons.mpr ⟨lw_p33, List.forall_mem_cons.mpr ⟨lw_p34, List.forall_mem_cons.mpr ⟨lw_p35, List.forall_mem_cons.mpr ⟨lw_p36, List.forall_mem_cons.mpr ⟨lw_p37, List.forall_mem_cons.mpr ⟨lw_p38, List.forall_mem_cons.mpr ⟨lw_p39, List.forall_mem_cons.mpr ⟨lw_p40, List.forall_mem_cons.mpr ⟨lw_p41, List.forall_mem_cons.mpr ⟨lw_p42, List.forall_mem_cons.mpr ⟨lw_p43, List.forall_mem_cons.mpr ⟨lw_p44, List.forall_mem_cons.mpr ⟨lw_p45, List.forall_mem_cons.mpr ⟨lw_p46, List.forall_mem_cons.mpr ⟨lw_p47, fun _ h => absurd h List.not_mem_nil⟩⟩⟩⟩⟩⟩⟩⟩⟩⟩⟩⟩⟩⟩⟩⟩
theorem lw_p48 : lw_okq (⟨"DownTheGutterModel", "readsRank", "(I)Z"⟩, 60) := ⟨⟨by decide +kernel, by decide +kernel⟩, List.mem_of_getElem? (i := 1321) (by decide +kernel), List.mem_of_getElem? (i := 1672) (by decide +kernel), List.mem_of_getElem? (i := 1673) (by decide +kernel)⟩
theorem lw_p49 : lw_okq (⟨"DownTheGutterModel", "readsThing", "()Z"⟩, 60) := ⟨⟨by decide +kernel, by decide +kernel⟩, List.mem_of_getElem? (i := 1321) (by decide +kernel), List.mem_of_getElem? (i := 1676) (by decide +kernel), List.mem_of_getElem? (i := 1677) (by decide +kernel)⟩
theorem lw_p50 : lw_okq (⟨"DownTheGutterModel", "codes", "(I)V"⟩, 60) := ⟨⟨by decide +kernel, by decide +kernel⟩, List.mem_of_getElem? (i := 1321) (by decide +kernel), List.mem_of_getElem? (i := 1680) (by decide +kernel), List.mem_of_getElem? (i := 1681) (by decide +kernel)⟩
theorem lw_p51 : lw_okq (⟨"DownTheGutterModel", "isDigit", "()Z"⟩, 60) := ⟨⟨by decide +kernel, by decide +kernel⟩, List.mem_of_getElem? (i := 1321) (by decide +kernel), List.mem_of_getElem? (i := 1684) (by decide +kernel), List.mem_of_getElem? (i := 1685) (by decide +kernel)⟩
theorem lw_p52 : lw_okq (⟨"DownTheGutterModel", "numberOf", "(I)I"⟩, 60) := ⟨⟨by decide +kernel, by decide +kernel⟩, List.mem_of_getElem? (i := 1321) (by decide +kernel), List.mem_of_getElem? (i := 1690) (by decide +kernel), List.mem_of_getElem? (i := 1691) (by decide +kernel)⟩
theorem lw_p53 : lw_okq (⟨"DownTheGutterModel", "isPlace", "(I)Z"⟩, 60) := ⟨⟨by decide +kernel, by decide +kernel⟩, List.mem_of_getElem? (i := 1321) (by decide +kernel), List.mem_of_getElem? (i := 1702) (by decide +kernel), List.mem_of_getElem? (i := 1703) (by decide +kernel)⟩
theorem lw_p54 : lw_okq (⟨"DownTheGutterModel", "refuse", "()I"⟩, 60) := ⟨⟨by decide +kernel, by decide +kernel⟩, List.mem_of_getElem? (i := 1321) (by decide +kernel), List.mem_of_getElem? (i := 1707) (by decide +kernel), List.mem_of_getElem? (i := 1708) (by decide +kernel)⟩
theorem lw_p55 : lw_okq (⟨"DownTheGutterModel", "isThing", "(I)Z"⟩, 60) := ⟨⟨by decide +kernel, by decide +kernel⟩, List.mem_of_getElem? (i := 1321) (by decide +kernel), List.mem_of_getElem? (i := 1715) (by decide +kernel), List.mem_of_getElem? (i := 1716) (by decide +kernel)⟩
theorem lw_p56 : lw_okq (⟨"DownTheGutterModel", "waterIn", "(I)I"⟩, 60) := ⟨⟨by decide +kernel, by decide +kernel⟩, List.mem_of_getElem? (i := 1321) (by decide +kernel), List.mem_of_getElem? (i := 1726) (by decide +kernel), List.mem_of_getElem? (i := 1727) (by decide +kernel)⟩
theorem lw_p57 : lw_okq (⟨"DownTheGutterModel", "isFork", "(I)Z"⟩, 60) := ⟨⟨by decide +kernel, by decide +kernel⟩, List.mem_of_getElem? (i := 1321) (by decide +kernel), List.mem_of_getElem? (i := 1741) (by decide +kernel), List.mem_of_getElem? (i := 1742) (by decide +kernel)⟩
theorem lw_p58 : lw_okq (⟨"DownTheGutterModel", "putsBy", "()V"⟩, 60) := ⟨⟨by decide +kernel, by decide +kernel⟩, List.mem_of_getElem? (i := 1321) (by decide +kernel), List.mem_of_getElem? (i := 1745) (by decide +kernel), List.mem_of_getElem? (i := 1746) (by decide +kernel)⟩
theorem lw_p59 : lw_okq (⟨"DownTheGutterModel", "adds", "(I)I"⟩, 60) := ⟨⟨by decide +kernel, by decide +kernel⟩, List.mem_of_getElem? (i := 1321) (by decide +kernel), List.mem_of_getElem? (i := 1749) (by decide +kernel), List.mem_of_getElem? (i := 1750) (by decide +kernel)⟩
theorem lw_p60 : lw_okq (⟨"DownTheGutterModel", "comesNow", "(IIII)I"⟩, 60) := ⟨⟨by decide +kernel, by decide +kernel⟩, List.mem_of_getElem? (i := 1321) (by decide +kernel), List.mem_of_getElem? (i := 1762) (by decide +kernel), List.mem_of_getElem? (i := 1763) (by decide +kernel)⟩
theorem lw_p61 : lw_okq (⟨"DownTheGutterModel", "canPut", "(III)Z"⟩, 60) := ⟨⟨by decide +kernel, by decide +kernel⟩, List.mem_of_getElem? (i := 1321) (by decide +kernel), List.mem_of_getElem? (i := 1766) (by decide +kernel), List.mem_of_getElem? (i := 1767) (by decide +kernel)⟩
theorem lw_p62 : lw_okq (⟨"DownTheGutterModel", "lays", "([IIIIII)V"⟩, 60) := ⟨⟨by decide +kernel, by decide +kernel⟩, List.mem_of_getElem? (i := 1321) (by decide +kernel), List.mem_of_getElem? (i := 1772) (by decide +kernel), List.mem_of_getElem? (i := 1773) (by decide +kernel)⟩
theorem lw_p63 : lw_okq (⟨"DownTheGutterModel", "gives", "(II)I"⟩, 60) := ⟨⟨by decide +kernel, by decide +kernel⟩, List.mem_of_getElem? (i := 1321) (by decide +kernel), List.mem_of_getElem? (i := 1780) (by decide +kernel), List.mem_of_getElem? (i := 1781) (by decide +kernel)⟩
def lw_privs_4 : List (MethodName × Nat) := [(⟨"DownTheGutterModel", "readsRank", "(I)Z"⟩, 60), (⟨"DownTheGutterModel", "readsThing", "()Z"⟩, 60), (⟨"DownTheGutterModel", "codes", "(I)V"⟩, 60), (⟨"DownTheGutterModel", "isDigit", "()Z"⟩, 60), (⟨"DownTheGutterModel", "numberOf", "(I)I"⟩, 60), (⟨"DownTheGutterModel", "isPlace", "(I)Z"⟩, 60), (⟨"DownTheGutterModel", "refuse", "()I"⟩, 60), (⟨"DownTheGutterModel", "isThing", "(I)Z"⟩, 60), (⟨"DownTheGutterModel", "waterIn", "(I)I"⟩, 60), (⟨"DownTheGutterModel", "isFork", "(I)Z"⟩, 60), (⟨"DownTheGutterModel", "putsBy", "()V"⟩, 60), (⟨"DownTheGutterModel", "adds", "(I)I"⟩, 60), (⟨"DownTheGutterModel", "comesNow", "(IIII)I"⟩, 60), (⟨"DownTheGutterModel", "canPut", "(III)Z"⟩, 60), (⟨"DownTheGutterModel", "lays", "([IIIIII)V"⟩, 60), (⟨"DownTheGutterModel", "gives", "(II)I"⟩, 60)]
theorem lw_r4 : ∀ q ∈ lw_privs_4, lw_okq q := List.forall_mem_cons.mpr ⟨lw_p48, List.forall_mem_cons.mpr ⟨lw_p49, List.forall_mem_cons.mpr ⟨lw_p50, List.forall_mem_cons.mpr ⟨lw_p51, List.forall_mem_cons.mpr ⟨lw_p52, List.forall_mem_cons.mpr ⟨lw_p53, List.forall_mem_cons.mpr ⟨lw_p54, List.forall_mem_cons.mpr ⟨lw_p55, List.forall_mem_cons.mpr ⟨lw_p56, List.forall_mem_cons.mpr ⟨lw_p57, List.forall_mem_cons.mpr ⟨lw_p58, List.forall_mem_cons.mpr ⟨lw_p59, List.forall_mem_cons.mpr ⟨lw_p60, List.forall_mem_cons.mpr ⟨lw_p61, List.forall_mem_cons.mpr ⟨lw_p62, List.forall_mem_cons.mpr ⟨lw_p63, fun _ h => absurd h List.not_mem_nil⟩⟩⟩⟩⟩⟩⟩⟩⟩⟩⟩⟩⟩⟩⟩⟩
theorem lw_p64 : lw_okq (⟨"DownTheGutterModel", "minuteGoes", "([I)V"⟩, 60) := ⟨⟨by decide +kernel, by decide +kernel⟩, List.mem_of_getElem? (i := 1321) (by decide +kernel), List.mem_of_getElem? (i := 1791) (by decide +kernel), List.mem_of_getElem? (i := 1792) (by decide +kernel)⟩
theorem lw_p65 : lw_okq (⟨"DownTheGutterModel", "steps", "([II)Z"⟩, 60) := ⟨⟨by decide +kernel, by decide +kernel⟩, List.mem_of_getElem? (i := 1321) (by decide +kernel), List.mem_of_getElem? (i := 1795) (by decide +kernel), List.mem_of_getElem? (i := 1796) (by decide +kernel)⟩
theorem lw_p66 : lw_okq (⟨"DownTheGutterModel", "ends", "([III)V"⟩, 60) := ⟨⟨by decide +kernel, by decide +kernel⟩, List.mem_of_getElem? (i := 1321) (by decide +kernel), List.mem_of_getElem? (i := 1799) (by decide +kernel), List.mem_of_getElem? (i := 1800) (by decide +kernel)⟩
theorem lw_p67 : lw_okq (⟨"DownTheGutterModel", "ruled", "([II)I"⟩, 60) := ⟨⟨by decide +kernel, by decide +kernel⟩, List.mem_of_getElem? (i := 1321) (by decide +kernel), List.mem_of_getElem? (i := 1803) (by decide +kernel), List.mem_of_getElem? (i := 1804) (by decide +kernel)⟩
theorem lw_p68 : lw_okq (⟨"DownTheGutterModel", "askedOf", "([III)I"⟩, 60) := ⟨⟨by decide +kernel, by decide +kernel⟩, List.mem_of_getElem? (i := 1321) (by decide +kernel), List.mem_of_getElem? (i := 1810) (by decide +kernel), List.mem_of_getElem? (i := 1811) (by decide +kernel)⟩
theorem lw_p69 : lw_okq (⟨"DownTheGutterModel", "enters", "(J)V"⟩, 60) := ⟨⟨by decide +kernel, by decide +kernel⟩, List.mem_of_getElem? (i := 1321) (by decide +kernel), List.mem_of_getElem? (i := 1817) (by decide +kernel), List.mem_of_getElem? (i := 1818) (by decide +kernel)⟩
theorem lw_p70 : lw_okq (⟨"DownTheGutterModel", "readsAct", "()Z"⟩, 60) := ⟨⟨by decide +kernel, by decide +kernel⟩, List.mem_of_getElem? (i := 1321) (by decide +kernel), List.mem_of_getElem? (i := 1826) (by decide +kernel), List.mem_of_getElem? (i := 1827) (by decide +kernel)⟩
theorem lw_p71 : lw_okq (⟨"DownTheGutterModel", "does", "(I)Z"⟩, 60) := ⟨⟨by decide +kernel, by decide +kernel⟩, List.mem_of_getElem? (i := 1321) (by decide +kernel), List.mem_of_getElem? (i := 1832) (by decide +kernel), List.mem_of_getElem? (i := 1833) (by decide +kernel)⟩
theorem lw_p72 : lw_okq (⟨"DownTheGutterModel", "goesOn", "(I)V"⟩, 60) := ⟨⟨by decide +kernel, by decide +kernel⟩, List.mem_of_getElem? (i := 1321) (by decide +kernel), List.mem_of_getElem? (i := 1841) (by decide +kernel), List.mem_of_getElem? (i := 1842) (by decide +kernel)⟩
theorem lw_p73 : lw_okq (⟨"DownTheGutterModel", "endsAfter", "([III)I"⟩, 60) := ⟨⟨by decide +kernel, by decide +kernel⟩, List.mem_of_getElem? (i := 1321) (by decide +kernel), List.mem_of_getElem? (i := 1852) (by decide +kernel), List.mem_of_getElem? (i := 1853) (by decide +kernel)⟩
theorem lw_p74 : lw_okq (⟨"DownTheGutterModel", "canSail", "(IIII)Z"⟩, 60) := ⟨⟨by decide +kernel, by decide +kernel⟩, List.mem_of_getElem? (i := 1321) (by decide +kernel), List.mem_of_getElem? (i := 1872) (by decide +kernel), List.mem_of_getElem? (i := 1873) (by decide +kernel)⟩
theorem lw_p75 : lw_okq (⟨"DownTheGutterModel", "isKitchen", "(I)Z"⟩, 60) := ⟨⟨by decide +kernel, by decide +kernel⟩, List.mem_of_getElem? (i := 1321) (by decide +kernel), List.mem_of_getElem? (i := 1876) (by decide +kernel), List.mem_of_getElem? (i := 1877) (by decide +kernel)⟩
theorem lw_p76 : lw_okq (⟨"DownTheGutterModel", "thinksNow", "()V"⟩, 60) := ⟨⟨by decide +kernel, by decide +kernel⟩, List.mem_of_getElem? (i := 1321) (by decide +kernel), List.mem_of_getElem? (i := 1880) (by decide +kernel), List.mem_of_getElem? (i := 1881) (by decide +kernel)⟩
theorem lw_p77 : lw_okq (⟨"DownTheGutterModel", "sails", "(IIIII)I"⟩, 60) := ⟨⟨by decide +kernel, by decide +kernel⟩, List.mem_of_getElem? (i := 1321) (by decide +kernel), List.mem_of_getElem? (i := 1884) (by decide +kernel), List.mem_of_getElem? (i := 1885) (by decide +kernel)⟩
theorem lw_p78 : lw_okq (⟨"DownTheGutterModel", "goesAlone", "(IIII)I"⟩, 60) := ⟨⟨by decide +kernel, by decide +kernel⟩, List.mem_of_getElem? (i := 1321) (by decide +kernel), List.mem_of_getElem? (i := 1888) (by decide +kernel), List.mem_of_getElem? (i := 1889) (by decide +kernel)⟩
theorem lw_p79 : lw_okq (⟨"DownTheGutterModel", "laysAlone", "(IIII)V"⟩, 60) := ⟨⟨by decide +kernel, by decide +kernel⟩, List.mem_of_getElem? (i := 1321) (by decide +kernel), List.mem_of_getElem? (i := 1892) (by decide +kernel), List.mem_of_getElem? (i := 1893) (by decide +kernel)⟩
def lw_privs_5 : List (MethodName × Nat) := [(⟨"DownTheGutterModel", "minuteGoes", "([I)V"⟩, 60), (⟨"DownTheGutterModel", "steps", "([II)Z"⟩, 60), (⟨"DownTheGutterModel", "ends", "([III)V"⟩, 60), (⟨"DownTheGutterModel", "ruled", "([II)I"⟩, 60), (⟨"DownTheGutterModel", "askedOf", "([III)I"⟩, 60), (⟨"DownTheGutterModel", "enters", "(J)V"⟩, 60), (⟨"DownTheGutterModel", "readsAct", "()Z"⟩, 60), (⟨"DownTheGutterModel", "does", "(I)Z"⟩, 60), (⟨"DownTheGutterModel", "goesOn", "(I)V"⟩, 60), (⟨"DownTheGutterModel", "endsAfter", "([III)I"⟩, 60), (⟨"DownTheGutterModel", "canSail", "(IIII)Z"⟩, 60), (⟨"DownTheGutterModel", "isKitchen", "(I)Z"⟩, 60), (⟨"DownTheGutterModel", "thinksNow", "()V"⟩, 60), (⟨"DownTheGutterModel", "sails", "(IIIII)I"⟩, 60), (⟨"DownTheGutterModel", "goesAlone", "(IIII)I"⟩, 60), (⟨"DownTheGutterModel", "laysAlone", "(IIII)V"⟩, 60)]
theorem lw_r5 : ∀ q ∈ lw_privs_5, lw_okq q := List.forall_mem_cons.mpr ⟨lw_p64, List.forall_mem_cons.mpr ⟨lw_p65, List.forall_mem_cons.mpr ⟨lw_p66, List.forall_mem_cons.mpr ⟨lw_p67, List.forall_mem_cons.mpr ⟨lw_p68, List.forall_mem_cons.mpr ⟨lw_p69, List.forall_mem_cons.mpr ⟨lw_p70, List.forall_mem_cons.mpr ⟨lw_p71, List.forall_mem_cons.mpr ⟨lw_p72, List.forall_mem_cons.mpr ⟨lw_p73, List.forall_mem_cons.mpr ⟨lw_p74, List.forall_mem_cons.mpr ⟨lw_p75, List.forall_mem_cons.mpr ⟨lw_p76, List.forall_mem_cons.mpr ⟨lw_p77, List.forall_mem_cons.mpr ⟨lw_p78, List.forall_mem_cons.mpr ⟨lw_p79, fun _ h => absurd h List.not_mem_nil⟩⟩⟩⟩⟩⟩⟩⟩⟩⟩⟩⟩⟩⟩⟩⟩
theorem lw_p80 : lw_okq (⟨"DownTheGutterModel", "saves", "(III)I"⟩, 60) := ⟨⟨by decide +kernel, by decide +kernel⟩, List.mem_of_getElem? (i := 1321) (by decide +kernel), List.mem_of_getElem? (i := 1924) (by decide +kernel), List.mem_of_getElem? (i := 1925) (by decide +kernel)⟩
theorem lw_p81 : lw_okq (⟨"DownTheGutterModel", "forks", "()I"⟩, 60) := ⟨⟨by decide +kernel, by decide +kernel⟩, List.mem_of_getElem? (i := 1321) (by decide +kernel), List.mem_of_getElem? (i := 1928) (by decide +kernel), List.mem_of_getElem? (i := 1929) (by decide +kernel)⟩
theorem lw_p82 : lw_okq (⟨"DownTheGutterModel", "savedAfter", "(II)I"⟩, 60) := ⟨⟨by decide +kernel, by decide +kernel⟩, List.mem_of_getElem? (i := 1321) (by decide +kernel), List.mem_of_getElem? (i := 1932) (by decide +kernel), List.mem_of_getElem? (i := 1933) (by decide +kernel)⟩
theorem lw_p83 : lw_okq (⟨"DownTheGutterModel", "plays", "(III)I"⟩, 60) := ⟨⟨by decide +kernel, by decide +kernel⟩, List.mem_of_getElem? (i := 1321) (by decide +kernel), List.mem_of_getElem? (i := 1948) (by decide +kernel), List.mem_of_getElem? (i := 1949) (by decide +kernel)⟩
theorem lw_p84 : lw_okq (⟨"DownTheGutterModel", "playsOut", "(I)I"⟩, 60) := ⟨⟨by decide +kernel, by decide +kernel⟩, List.mem_of_getElem? (i := 1321) (by decide +kernel), List.mem_of_getElem? (i := 1952) (by decide +kernel), List.mem_of_getElem? (i := 1953) (by decide +kernel)⟩
theorem lw_p85 : lw_okq (⟨"DownTheGutterModel", "laysFits", "()I"⟩, 60) := ⟨⟨by decide +kernel, by decide +kernel⟩, List.mem_of_getElem? (i := 1321) (by decide +kernel), List.mem_of_getElem? (i := 1969) (by decide +kernel), List.mem_of_getElem? (i := 1970) (by decide +kernel)⟩
theorem lw_p86 : lw_okq (⟨"DownTheGutterModel", "floatsTo", "(III)I"⟩, 60) := ⟨⟨by decide +kernel, by decide +kernel⟩, List.mem_of_getElem? (i := 1321) (by decide +kernel), List.mem_of_getElem? (i := 1973) (by decide +kernel), List.mem_of_getElem? (i := 1974) (by decide +kernel)⟩
theorem lw_p87 : lw_okq (⟨"DownTheGutterModel", "entersFraction", "(JJ)V"⟩, 60) := ⟨⟨by decide +kernel, by decide +kernel⟩, List.mem_of_getElem? (i := 1321) (by decide +kernel), List.mem_of_getElem? (i := 1987) (by decide +kernel), List.mem_of_getElem? (i := 1988) (by decide +kernel)⟩
def lw_privs_6 : List (MethodName × Nat) := [(⟨"DownTheGutterModel", "saves", "(III)I"⟩, 60), (⟨"DownTheGutterModel", "forks", "()I"⟩, 60), (⟨"DownTheGutterModel", "savedAfter", "(II)I"⟩, 60), (⟨"DownTheGutterModel", "plays", "(III)I"⟩, 60), (⟨"DownTheGutterModel", "playsOut", "(I)I"⟩, 60), (⟨"DownTheGutterModel", "laysFits", "()I"⟩, 60), (⟨"DownTheGutterModel", "floatsTo", "(III)I"⟩, 60), (⟨"DownTheGutterModel", "entersFraction", "(JJ)V"⟩, 60)]
theorem lw_r6 : ∀ q ∈ lw_privs_6, lw_okq q := List.forall_mem_cons.mpr ⟨lw_p80, List.forall_mem_cons.mpr ⟨lw_p81, List.forall_mem_cons.mpr ⟨lw_p82, List.forall_mem_cons.mpr ⟨lw_p83, List.forall_mem_cons.mpr ⟨lw_p84, List.forall_mem_cons.mpr ⟨lw_p85, List.forall_mem_cons.mpr ⟨lw_p86, List.forall_mem_cons.mpr ⟨lw_p87, fun _ h => absurd h List.not_mem_nil⟩⟩⟩⟩⟩⟩⟩⟩
def lw_privs : List (MethodName × Nat) := lw_privs_1 ++ (lw_privs_2 ++ (lw_privs_3 ++ (lw_privs_4 ++ (lw_privs_5 ++ (lw_privs_6)))))
def lw_tbl : List Cond := k2_sels lw_privs ++ tables_1
theorem lw_privs_ok : ∀ q ∈ lw_privs, lw_okq q := by
  show ∀ q ∈ lw_privs_1 ++ (lw_privs_2 ++ (lw_privs_3 ++ (lw_privs_4 ++ (lw_privs_5 ++ (lw_privs_6))))), lw_okq q
  exact List.forall_mem_append.mpr ⟨lw_r1, List.forall_mem_append.mpr ⟨lw_r2, List.forall_mem_append.mpr ⟨lw_r3, List.forall_mem_append.mpr ⟨lw_r4, List.forall_mem_append.mpr ⟨lw_r5, lw_r6⟩⟩⟩⟩⟩
def RX0 : String := "DownTheGutter$Corks"
def TX0 : u_T := fun k => match k with
  | 0 => ("DownTheGutter$Corks", "spots", "[I", true)
  | 1 => ("DownTheGutter$Corks", "minutes", "[I", true)
  | 2 => ("DownTheGutter$Corks", "ends", "[I", true)
  | _ => ("DownTheGutter$Corks", "told", "I", false)
def tyX0 : Nat → FieldType := fun k => match k with
  | 0 => .array .int
  | 1 => .array .int
  | 2 => .array .int
  | _ => .int
abbrev wsX00 : List Cond := u_ws RX0 TX0 4
theorem nmX0 : ∀ a, a < 4 → ∀ b, b < 4 → a ≠ b → (TX0 a).2.1 ≠ (TX0 b).2.1 := by decide +kernel
theorem tyX0_ok : ∀ k, k < 4 → parseFieldDescriptor (TX0 k).2.2.1 = some (tyX0 k) := by decide +kernel
abbrev cX0_init : ByteArray := prog_2_method_1_code
def yX0_init : MethodName := ⟨RX0, "<init>", "()V"⟩
abbrev cX0_has : ByteArray := prog_2_method_2_code
def yX0_has : MethodName := ⟨RX0, "has", "(I)Z"⟩
abbrev cX0_spotOf : ByteArray := prog_2_method_3_code
def yX0_spotOf : MethodName := ⟨RX0, "spotOf", "(I)I"⟩
abbrev cX0_minuteOf : ByteArray := prog_2_method_4_code
def yX0_minuteOf : MethodName := ⟨RX0, "minuteOf", "(I)I"⟩
abbrev cX0_endOf : ByteArray := prog_2_method_5_code
def yX0_endOf : MethodName := ⟨RX0, "endOf", "(I)I"⟩
abbrev cX0_add : ByteArray := prog_2_method_6_code
def yX0_add : MethodName := ⟨RX0, "add", "(III)Z"⟩
def RX1 : String := "DownTheGutter$Current"
def TX1 : u_T := fun k => match k with
  | 0 => ("DownTheGutter$Current", "town", "LDownTheGutter$Town;", true)
  | 1 => ("DownTheGutter$Current", "water", "LDownTheGutter$Water;", true)
  | 2 => ("DownTheGutter$Current", "rule", "LDownTheGutter$Rule;", true)
  | 3 => ("DownTheGutter$Current", "facts", "[I", true)
  | 4 => ("DownTheGutter$Current", "asked", "I", false)
  | 5 => ("DownTheGutter$Current", "stuck", "I", false)
  | 6 => ("DownTheGutter$Current", "steps", "I", false)
  | 7 => ("DownTheGutter$Current", "isEndless", "Z", false)
  | 8 => ("DownTheGutter$Current", "rain", "I", false)
  | _ => ("DownTheGutter$Current", "rainFrom", "I", false)
def tyX1 : Nat → FieldType := fun k => match k with
  | 0 => .object "DownTheGutter$Town"
  | 1 => .object "DownTheGutter$Water"
  | 2 => .object "DownTheGutter$Rule"
  | 3 => .array .int
  | 4 => .int
  | 5 => .int
  | 6 => .int
  | 7 => .boolean
  | 8 => .int
  | _ => .int
abbrev wsX10 : List Cond := u_ws RX1 TX1 10
theorem nmX1 : ∀ a, a < 10 → ∀ b, b < 10 → a ≠ b → (TX1 a).2.1 ≠ (TX1 b).2.1 := by decide +kernel
theorem tyX1_ok : ∀ k, k < 10 → parseFieldDescriptor (TX1 k).2.2.1 = some (tyX1 k) := by decide +kernel
abbrev cX1_init : ByteArray := prog_3_method_1_code
def yX1_init : MethodName := ⟨RX1, "<init>", "(LDownTheGutter$Town;LDownTheGutter$Water;LDownTheGutter$Rule;)V"⟩
abbrev cX1_seesOthers : ByteArray := prog_3_method_2_code
def yX1_seesOthers : MethodName := ⟨RX1, "seesOthers", "()Z"⟩
abbrev cX1_flowIn : ByteArray := prog_3_method_3_code
def yX1_flowIn : MethodName := ⟨RX1, "flowIn", "(I)I"⟩
abbrev cX1_pass : ByteArray := prog_3_method_4_code
def yX1_pass : MethodName := ⟨RX1, "pass", "(LDownTheGutter$Scene;)V"⟩
abbrev cX1_step : ByteArray := prog_3_method_5_code
def yX1_step : MethodName := ⟨RX1, "step", "(LDownTheGutter$Scene;II)Z"⟩
abbrev cX1_wayOf : ByteArray := prog_3_method_6_code
def yX1_wayOf : MethodName := ⟨RX1, "wayOf", "(LDownTheGutter$Scene;III)I"⟩
abbrev cX1_pays : ByteArray := prog_3_method_7_code
def yX1_pays : MethodName := ⟨RX1, "pays", "(LDownTheGutter$Scene;II)Z"⟩
abbrev cX1_arrives : ByteArray := prog_3_method_8_code
def yX1_arrives : MethodName := ⟨RX1, "arrives", "(LDownTheGutter$Scene;III)Z"⟩
def RX2 : String := "DownTheGutter$Diary"
def TX2 : u_T := fun k => match k with
  | 0 => ("DownTheGutter$Diary", "kinds", "[I", true)
  | 1 => ("DownTheGutter$Diary", "firsts", "[I", true)
  | 2 => ("DownTheGutter$Diary", "seconds", "[I", true)
  | 3 => ("DownTheGutter$Diary", "thirds", "[I", true)
  | _ => ("DownTheGutter$Diary", "acts", "I", false)
def tyX2 : Nat → FieldType := fun k => match k with
  | 0 => .array .int
  | 1 => .array .int
  | 2 => .array .int
  | 3 => .array .int
  | _ => .int
abbrev wsX20 : List Cond := u_ws RX2 TX2 5
theorem nmX2 : ∀ a, a < 5 → ∀ b, b < 5 → a ≠ b → (TX2 a).2.1 ≠ (TX2 b).2.1 := by decide +kernel
theorem tyX2_ok : ∀ k, k < 5 → parseFieldDescriptor (TX2 k).2.2.1 = some (tyX2 k) := by decide +kernel
abbrev cX2_init : ByteArray := prog_4_method_1_code
def yX2_init : MethodName := ⟨RX2, "<init>", "()V"⟩
abbrev cX2_has : ByteArray := prog_4_method_2_code
def yX2_has : MethodName := ⟨RX2, "has", "(I)Z"⟩
abbrev cX2_kindOf : ByteArray := prog_4_method_3_code
def yX2_kindOf : MethodName := ⟨RX2, "kindOf", "(I)I"⟩
abbrev cX2_firstOf : ByteArray := prog_4_method_4_code
def yX2_firstOf : MethodName := ⟨RX2, "firstOf", "(I)I"⟩
abbrev cX2_secondOf : ByteArray := prog_4_method_5_code
def yX2_secondOf : MethodName := ⟨RX2, "secondOf", "(I)I"⟩
abbrev cX2_thirdOf : ByteArray := prog_4_method_6_code
def yX2_thirdOf : MethodName := ⟨RX2, "thirdOf", "(I)I"⟩
abbrev cX2_read : ByteArray := prog_4_method_7_code
def yX2_read : MethodName := ⟨RX2, "read", "(LDownTheGutter$Signs;)I"⟩
abbrev cX2_readAct : ByteArray := prog_4_method_8_code
def yX2_readAct : MethodName := ⟨RX2, "readAct", "(LDownTheGutter$Signs;I)I"⟩
abbrev cX2_readPut : ByteArray := prog_4_method_9_code
def yX2_readPut : MethodName := ⟨RX2, "readPut", "(LDownTheGutter$Signs;I)I"⟩
abbrev cX2_readTurn : ByteArray := prog_4_method_10_code
def yX2_readTurn : MethodName := ⟨RX2, "readTurn", "(LDownTheGutter$Signs;I)I"⟩
abbrev cX2_readMinutes : ByteArray := prog_4_method_11_code
def yX2_readMinutes : MethodName := ⟨RX2, "readMinutes", "(LDownTheGutter$Signs;I)I"⟩
abbrev cX2_readGive : ByteArray := prog_4_method_12_code
def yX2_readGive : MethodName := ⟨RX2, "readGive", "(LDownTheGutter$Signs;I)I"⟩
abbrev cX2_behindNumber : ByteArray := prog_4_method_13_code
def yX2_behindNumber : MethodName := ⟨RX2, "behindNumber", "(LDownTheGutter$Signs;I)I"⟩
abbrev cX2_numberAt : ByteArray := prog_4_method_14_code
def yX2_numberAt : MethodName := ⟨RX2, "numberAt", "(LDownTheGutter$Signs;II)I"⟩
abbrev cX2_add : ByteArray := prog_4_method_15_code
def yX2_add : MethodName := ⟨RX2, "add", "(IIII)V"⟩
def RX3 : String := "DownTheGutter$Past"
def TX3 : u_T := fun k => match k with
  | 0 => ("DownTheGutter$Past", "scenes", "[LDownTheGutter$Scene;", true)
  | 1 => ("DownTheGutter$Past", "top", "I", false)
  | _ => ("DownTheGutter$Past", "size", "I", false)
def tyX3 : Nat → FieldType := fun k => match k with
  | 0 => .array (.object "DownTheGutter$Scene")
  | 1 => .int
  | _ => .int
abbrev wsX30 : List Cond := u_ws RX3 TX3 3
theorem nmX3 : ∀ a, a < 3 → ∀ b, b < 3 → a ≠ b → (TX3 a).2.1 ≠ (TX3 b).2.1 := by decide +kernel
theorem tyX3_ok : ∀ k, k < 3 → parseFieldDescriptor (TX3 k).2.2.1 = some (tyX3 k) := by decide +kernel
abbrev cX3_init : ByteArray := prog_5_method_1_code
def yX3_init : MethodName := ⟨RX3, "<init>", "()V"⟩
abbrev cX3_clear : ByteArray := prog_5_method_2_code
def yX3_clear : MethodName := ⟨RX3, "clear", "()V"⟩
abbrev cX3_push : ByteArray := prog_5_method_3_code
def yX3_push : MethodName := ⟨RX3, "push", "(LDownTheGutter$Scene;)V"⟩
abbrev cX3_pop : ByteArray := prog_5_method_4_code
def yX3_pop : MethodName := ⟨RX3, "pop", "(LDownTheGutter$Scene;)Z"⟩
def RX4 : String := "DownTheGutter$Row"
def TX4 : u_T := fun k => match k with
  | 0 => ("DownTheGutter$Row", "numbers", "[J", true)
  | _ => ("DownTheGutter$Row", "size", "I", false)
def tyX4 : Nat → FieldType := fun k => match k with
  | 0 => .array .long
  | _ => .int
abbrev wsX40 : List Cond := u_ws RX4 TX4 2
theorem nmX4 : ∀ a, a < 2 → ∀ b, b < 2 → a ≠ b → (TX4 a).2.1 ≠ (TX4 b).2.1 := by decide +kernel
theorem tyX4_ok : ∀ k, k < 2 → parseFieldDescriptor (TX4 k).2.2.1 = some (tyX4 k) := by decide +kernel
abbrev cX4_init : ByteArray := prog_6_method_1_code
def yX4_init : MethodName := ⟨RX4, "<init>", "()V"⟩
abbrev cX4_tell : ByteArray := prog_6_method_2_code
def yX4_tell : MethodName := ⟨RX4, "tell", "(J)V"⟩
abbrev cX4_tell_ : ByteArray := prog_6_method_3_code
def yX4_tell_ : MethodName := ⟨RX4, "tell", "(JJ)V"⟩
abbrev cX4_tell__ : ByteArray := prog_6_method_4_code
def yX4_tell__ : MethodName := ⟨RX4, "tell", "(JJJ)V"⟩
abbrev cX4_numberAt : ByteArray := prog_6_method_5_code
def yX4_numberAt : MethodName := ⟨RX4, "numberAt", "(I)J"⟩
def RX5 : String := "DownTheGutter$Rule"
def TX5 : u_T := fun k => match k with
  | 0 => ("DownTheGutter$Rule", "steps", "[I", true)
  | 1 => ("DownTheGutter$Rule", "stack", "[I", true)
  | 2 => ("DownTheGutter$Rule", "held", "[I", true)
  | 3 => ("DownTheGutter$Rule", "size", "I", false)
  | 4 => ("DownTheGutter$Rule", "holding", "I", false)
  | 5 => ("DownTheGutter$Rule", "open", "I", false)
  | 6 => ("DownTheGutter$Rule", "compared", "I", false)
  | 7 => ("DownTheGutter$Rule", "digits", "I", false)
  | 8 => ("DownTheGutter$Rule", "wantsThing", "Z", false)
  | 9 => ("DownTheGutter$Rule", "asksPlank", "Z", false)
  | _ => ("DownTheGutter$Rule", "asksOthers", "Z", false)
def tyX5 : Nat → FieldType := fun k => match k with
  | 0 => .array .int
  | 1 => .array .int
  | 2 => .array .int
  | 3 => .int
  | 4 => .int
  | 5 => .int
  | 6 => .int
  | 7 => .int
  | 8 => .boolean
  | 9 => .boolean
  | _ => .boolean
abbrev wsX50 : List Cond := u_ws RX5 TX5 11
theorem nmX5 : ∀ a, a < 11 → ∀ b, b < 11 → a ≠ b → (TX5 a).2.1 ≠ (TX5 b).2.1 := by decide +kernel
theorem tyX5_ok : ∀ k, k < 11 → parseFieldDescriptor (TX5 k).2.2.1 = some (tyX5 k) := by decide +kernel
abbrev cX5_init : ByteArray := prog_7_method_1_code
def yX5_init : MethodName := ⟨RX5, "<init>", "()V"⟩
abbrev cX5_copy : ByteArray := prog_7_method_2_code
def yX5_copy : MethodName := ⟨RX5, "copy", "(LDownTheGutter$Rule;)V"⟩
abbrev cX5_read : ByteArray := prog_7_method_3_code
def yX5_read : MethodName := ⟨RX5, "read", "(LDownTheGutter$Signs;)I"⟩
abbrev cX5_clear : ByteArray := prog_7_method_4_code
def yX5_clear : MethodName := ⟨RX5, "clear", "()V"⟩
abbrev cX5_finish : ByteArray := prog_7_method_5_code
def yX5_finish : MethodName := ⟨RX5, "finish", "(I)I"⟩
abbrev cX5_takeThing : ByteArray := prog_7_method_6_code
def yX5_takeThing : MethodName := ⟨RX5, "takeThing", "(LDownTheGutter$Signs;I)Z"⟩
abbrev cX5_takeBehindThing : ByteArray := prog_7_method_7_code
def yX5_takeBehindThing : MethodName := ⟨RX5, "takeBehindThing", "(LDownTheGutter$Signs;I)Z"⟩
abbrev cX5_lengthenNumber : ByteArray := prog_7_method_8_code
def yX5_lengthenNumber : MethodName := ⟨RX5, "lengthenNumber", "(I)Z"⟩
abbrev cX5_close : ByteArray := prog_7_method_9_code
def yX5_close : MethodName := ⟨RX5, "close", "()Z"⟩
abbrev cX5_addFact : ByteArray := prog_7_method_10_code
def yX5_addFact : MethodName := ⟨RX5, "addFact", "(I)V"⟩
abbrev cX5_addStep : ByteArray := prog_7_method_11_code
def yX5_addStep : MethodName := ⟨RX5, "addStep", "(I)V"⟩
abbrev cX5_hold : ByteArray := prog_7_method_12_code
def yX5_hold : MethodName := ⟨RX5, "hold", "(I)V"⟩
abbrev cX5_release : ByteArray := prog_7_method_13_code
def yX5_release : MethodName := ⟨RX5, "release", "(I)V"⟩
abbrev cX5_rankOf : ByteArray := prog_7_method_14_code
def yX5_rankOf : MethodName := ⟨RX5, "rankOf", "(I)I"⟩
abbrev cX5_value : ByteArray := prog_7_method_15_code
def yX5_value : MethodName := ⟨RX5, "value", "([I)I"⟩
def RX6 : String := "DownTheGutter$Scene"
def TX6 : u_T := fun k => match k with
  | 0 => ("DownTheGutter$Scene", "spots", "[I", true)
  | 1 => ("DownTheGutter$Scene", "papers", "[I", true)
  | 2 => ("DownTheGutter$Scene", "purses", "[I", true)
  | 3 => ("DownTheGutter$Scene", "trails", "[I", true)
  | 4 => ("DownTheGutter$Scene", "starts", "[I", true)
  | 5 => ("DownTheGutter$Scene", "ends", "[I", true)
  | 6 => ("DownTheGutter$Scene", "things", "I", false)
  | 7 => ("DownTheGutter$Scene", "planks", "I", false)
  | 8 => ("DownTheGutter$Scene", "now", "I", false)
  | 9 => ("DownTheGutter$Scene", "home", "I", false)
  | _ => ("DownTheGutter$Scene", "lost", "I", false)
def tyX6 : Nat → FieldType := fun k => match k with
  | 0 => .array .int
  | 1 => .array .int
  | 2 => .array .int
  | 3 => .array .int
  | 4 => .array .int
  | 5 => .array .int
  | 6 => .int
  | 7 => .int
  | 8 => .int
  | 9 => .int
  | _ => .int
abbrev wsX60 : List Cond := u_ws RX6 TX6 11
theorem nmX6 : ∀ a, a < 11 → ∀ b, b < 11 → a ≠ b → (TX6 a).2.1 ≠ (TX6 b).2.1 := by decide +kernel
theorem tyX6_ok : ∀ k, k < 11 → parseFieldDescriptor (TX6 k).2.2.1 = some (tyX6 k) := by decide +kernel
abbrev cX6_init : ByteArray := prog_8_method_1_code
def yX6_init : MethodName := ⟨RX6, "<init>", "()V"⟩
abbrev cX6_clear : ByteArray := prog_8_method_2_code
def yX6_clear : MethodName := ⟨RX6, "clear", "()V"⟩
abbrev cX6_copy : ByteArray := prog_8_method_3_code
def yX6_copy : MethodName := ⟨RX6, "copy", "(LDownTheGutter$Scene;)V"⟩
abbrev cX6_has : ByteArray := prog_8_method_4_code
def yX6_has : MethodName := ⟨RX6, "has", "(I)Z"⟩
abbrev cX6_isOnWay : ByteArray := prog_8_method_5_code
def yX6_isOnWay : MethodName := ⟨RX6, "isOnWay", "(I)Z"⟩
abbrev cX6_isAfloat : ByteArray := prog_8_method_6_code
def yX6_isAfloat : MethodName := ⟨RX6, "isAfloat", "(I)Z"⟩
abbrev cX6_onWay : ByteArray := prog_8_method_7_code
def yX6_onWay : MethodName := ⟨RX6, "onWay", "()I"⟩
abbrev cX6_spotOf : ByteArray := prog_8_method_8_code
def yX6_spotOf : MethodName := ⟨RX6, "spotOf", "(I)I"⟩
abbrev cX6_paperOf : ByteArray := prog_8_method_9_code
def yX6_paperOf : MethodName := ⟨RX6, "paperOf", "(I)I"⟩
abbrev cX6_purseOf : ByteArray := prog_8_method_10_code
def yX6_purseOf : MethodName := ⟨RX6, "purseOf", "(I)I"⟩
abbrev cX6_trailOf : ByteArray := prog_8_method_11_code
def yX6_trailOf : MethodName := ⟨RX6, "trailOf", "(I)I"⟩
abbrev cX6_startsIn : ByteArray := prog_8_method_12_code
def yX6_startsIn : MethodName := ⟨RX6, "startsIn", "(I)I"⟩
abbrev cX6_endedIn : ByteArray := prog_8_method_13_code
def yX6_endedIn : MethodName := ⟨RX6, "endedIn", "(I)I"⟩
abbrev cX6_fateOf : ByteArray := prog_8_method_14_code
def yX6_fateOf : MethodName := ⟨RX6, "fateOf", "(I)I"⟩
abbrev cX6_at : ByteArray := prog_8_method_15_code
def yX6_at : MethodName := ⟨RX6, "at", "(I)I"⟩
abbrev cX6_add : ByteArray := prog_8_method_16_code
def yX6_add : MethodName := ⟨RX6, "add", "(IIIIZ)I"⟩
abbrev cX6_enrich : ByteArray := prog_8_method_17_code
def yX6_enrich : MethodName := ⟨RX6, "enrich", "(II)I"⟩
abbrev cX6_setPaper : ByteArray := prog_8_method_18_code
def yX6_setPaper : MethodName := ⟨RX6, "setPaper", "(II)V"⟩
abbrev cX6_setPurse : ByteArray := prog_8_method_19_code
def yX6_setPurse : MethodName := ⟨RX6, "setPurse", "(II)V"⟩
abbrev cX6_setStart : ByteArray := prog_8_method_20_code
def yX6_setStart : MethodName := ⟨RX6, "setStart", "(II)V"⟩
abbrev cX6_holdBack : ByteArray := prog_8_method_21_code
def yX6_holdBack : MethodName := ⟨RX6, "holdBack", "(I)V"⟩
abbrev cX6_move : ByteArray := prog_8_method_22_code
def yX6_move : MethodName := ⟨RX6, "move", "(II)V"⟩
abbrev cX6_comeHome : ByteArray := prog_8_method_23_code
def yX6_comeHome : MethodName := ⟨RX6, "comeHome", "(I)V"⟩
abbrev cX6_lose : ByteArray := prog_8_method_24_code
def yX6_lose : MethodName := ⟨RX6, "lose", "(I)V"⟩
def RX7 : String := "DownTheGutter$Signs"
def TX7 : u_T := fun k => match k with
  | 0 => ("DownTheGutter$Signs", "signs", "[I", true)
  | 1 => ("DownTheGutter$Signs", "seen", "I", false)
  | _ => ("DownTheGutter$Signs", "length", "I", false)
def tyX7 : Nat → FieldType := fun k => match k with
  | 0 => .array .int
  | 1 => .int
  | _ => .int
abbrev wsX70 : List Cond := u_ws RX7 TX7 3
theorem nmX7 : ∀ a, a < 3 → ∀ b, b < 3 → a ≠ b → (TX7 a).2.1 ≠ (TX7 b).2.1 := by decide +kernel
theorem tyX7_ok : ∀ k, k < 3 → parseFieldDescriptor (TX7 k).2.2.1 = some (tyX7 k) := by decide +kernel
abbrev cX7_init : ByteArray := prog_9_method_1_code
def yX7_init : MethodName := ⟨RX7, "<init>", "()V"⟩
abbrev cX7_addFour : ByteArray := prog_9_method_2_code
def yX7_addFour : MethodName := ⟨RX7, "addFour", "(I)Z"⟩
abbrev cX7_cut : ByteArray := prog_9_method_3_code
def yX7_cut : MethodName := ⟨RX7, "cut", "(I)Z"⟩
abbrev cX7_showAtMost : ByteArray := prog_9_method_4_code
def yX7_showAtMost : MethodName := ⟨RX7, "showAtMost", "(I)V"⟩
abbrev cX7_look : ByteArray := prog_9_method_5_code
def yX7_look : MethodName := ⟨RX7, "look", "(I)I"⟩
abbrev cX7_isOver : ByteArray := prog_9_method_6_code
def yX7_isOver : MethodName := ⟨RX7, "isOver", "(I)Z"⟩
abbrev cX7_hasSign : ByteArray := prog_9_method_7_code
def yX7_hasSign : MethodName := ⟨RX7, "hasSign", "(IC)Z"⟩
abbrev cX7_digit : ByteArray := prog_9_method_8_code
def yX7_digit : MethodName := ⟨RX7, "digit", "(I)I"⟩
abbrev cX7_letter : ByteArray := prog_9_method_9_code
def yX7_letter : MethodName := ⟨RX7, "letter", "(I)I"⟩
abbrev cX7_oneOf : ByteArray := prog_9_method_10_code
def yX7_oneOf : MethodName := ⟨RX7, "oneOf", "(Ljava/lang/String;I)I"⟩
def RX8 : String := "DownTheGutter$Town"
def TX8 : u_T := fun k => match k with
  | 0 => ("DownTheGutter$Town", "kinds", "[I", true)
  | 1 => ("DownTheGutter$Town", "nexts", "[I", true)
  | 2 => ("DownTheGutter$Town", "seconds", "[I", true)
  | 3 => ("DownTheGutter$Town", "figures", "[I", true)
  | 4 => ("DownTheGutter$Town", "firstUse", "[I", true)
  | 5 => ("DownTheGutter$Town", "kitchens", "I", false)
  | 6 => ("DownTheGutter$Town", "size", "I", false)
  | 7 => ("DownTheGutter$Town", "forks", "I", false)
  | _ => ("DownTheGutter$Town", "sets", "I", false)
def tyX8 : Nat → FieldType := fun k => match k with
  | 0 => .array .int
  | 1 => .array .int
  | 2 => .array .int
  | 3 => .array .int
  | 4 => .array .int
  | 5 => .int
  | 6 => .int
  | 7 => .int
  | _ => .int
abbrev wsX80 : List Cond := u_ws RX8 TX8 9
theorem nmX8 : ∀ a, a < 9 → ∀ b, b < 9 → a ≠ b → (TX8 a).2.1 ≠ (TX8 b).2.1 := by decide +kernel
theorem tyX8_ok : ∀ k, k < 9 → parseFieldDescriptor (TX8 k).2.2.1 = some (tyX8 k) := by decide +kernel
abbrev cX8_init : ByteArray := prog_10_method_1_code
def yX8_init : MethodName := ⟨RX8, "<init>", "()V"⟩
abbrev cX8_has : ByteArray := prog_10_method_2_code
def yX8_has : MethodName := ⟨RX8, "has", "(I)Z"⟩
abbrev cX8_isFork : ByteArray := prog_10_method_3_code
def yX8_isFork : MethodName := ⟨RX8, "isFork", "(I)Z"⟩
abbrev cX8_isKitchen : ByteArray := prog_10_method_4_code
def yX8_isKitchen : MethodName := ⟨RX8, "isKitchen", "(I)Z"⟩
abbrev cX8_kindOf : ByteArray := prog_10_method_5_code
def yX8_kindOf : MethodName := ⟨RX8, "kindOf", "(I)I"⟩
abbrev cX8_nextOf : ByteArray := prog_10_method_6_code
def yX8_nextOf : MethodName := ⟨RX8, "nextOf", "(I)I"⟩
abbrev cX8_secondOf : ByteArray := prog_10_method_7_code
def yX8_secondOf : MethodName := ⟨RX8, "secondOf", "(I)I"⟩
abbrev cX8_figureOf : ByteArray := prog_10_method_8_code
def yX8_figureOf : MethodName := ⟨RX8, "figureOf", "(I)I"⟩
abbrev cX8_nextSet : ByteArray := prog_10_method_9_code
def yX8_nextSet : MethodName := ⟨RX8, "nextSet", "(I)I"⟩
abbrev cX8_copy : ByteArray := prog_10_method_10_code
def yX8_copy : MethodName := ⟨RX8, "copy", "(LDownTheGutter$Town;)V"⟩
abbrev cX8_read : ByteArray := prog_10_method_11_code
def yX8_read : MethodName := ⟨RX8, "read", "(LDownTheGutter$Signs;)I"⟩
abbrev cX8_clear : ByteArray := prog_10_method_12_code
def yX8_clear : MethodName := ⟨RX8, "clear", "()V"⟩
abbrev cX8_judgeLetters : ByteArray := prog_10_method_13_code
def yX8_judgeLetters : MethodName := ⟨RX8, "judgeLetters", "()I"⟩
abbrev cX8_readLine : ByteArray := prog_10_method_14_code
def yX8_readLine : MethodName := ⟨RX8, "readLine", "(LDownTheGutter$Signs;I)I"⟩
abbrev cX8_readFork : ByteArray := prog_10_method_15_code
def yX8_readFork : MethodName := ⟨RX8, "readFork", "(LDownTheGutter$Signs;II)I"⟩
abbrev cX8_readMill : ByteArray := prog_10_method_16_code
def yX8_readMill : MethodName := ⟨RX8, "readMill", "(LDownTheGutter$Signs;II)I"⟩
abbrev cX8_readFigure : ByteArray := prog_10_method_17_code
def yX8_readFigure : MethodName := ⟨RX8, "readFigure", "(LDownTheGutter$Signs;III)I"⟩
abbrev cX8_use : ByteArray := prog_10_method_18_code
def yX8_use : MethodName := ⟨RX8, "use", "(II)V"⟩
abbrev cX8_addPlace : ByteArray := prog_10_method_19_code
def yX8_addPlace : MethodName := ⟨RX8, "addPlace", "(IIII)V"⟩
def RX9 : String := "DownTheGutter$Trials"
def TX9 : u_T := fun k => match k with
  | 0 => ("DownTheGutter$Trials", "town", "LDownTheGutter$Town;", true)
  | 1 => ("DownTheGutter$Trials", "current", "LDownTheGutter$Current;", true)
  | 2 => ("DownTheGutter$Trials", "tells", "[I", true)
  | 3 => ("DownTheGutter$Trials", "fitting", "[Z", true)
  | 4 => ("DownTheGutter$Trials", "tallies", "[I", true)
  | 5 => ("DownTheGutter$Trials", "those", "I", false)
  | 6 => ("DownTheGutter$Trials", "lead", "I", false)
  | 7 => ("DownTheGutter$Trials", "start", "LDownTheGutter$Scene;", true)
  | _ => ("DownTheGutter$Trials", "scene", "LDownTheGutter$Scene;", true)
def tyX9 : Nat → FieldType := fun k => match k with
  | 0 => .object "DownTheGutter$Town"
  | 1 => .object "DownTheGutter$Current"
  | 2 => .array .int
  | 3 => .array .boolean
  | 4 => .array .int
  | 5 => .int
  | 6 => .int
  | 7 => .object "DownTheGutter$Scene"
  | _ => .object "DownTheGutter$Scene"
abbrev wsX90 : List Cond := u_ws RX9 TX9 9
theorem nmX9 : ∀ a, a < 9 → ∀ b, b < 9 → a ≠ b → (TX9 a).2.1 ≠ (TX9 b).2.1 := by decide +kernel
theorem tyX9_ok : ∀ k, k < 9 → parseFieldDescriptor (TX9 k).2.2.1 = some (tyX9 k) := by decide +kernel
abbrev cX9_init : ByteArray := prog_11_method_1_code
def yX9_init : MethodName := ⟨RX9, "<init>", "(LDownTheGutter$Town;LDownTheGutter$Current;)V"⟩
abbrev cX9_thinkOf : ByteArray := prog_11_method_2_code
def yX9_thinkOf : MethodName := ⟨RX9, "thinkOf", "(IIIII)V"⟩
abbrev cX9_startFrom : ByteArray := prog_11_method_3_code
def yX9_startFrom : MethodName := ⟨RX9, "startFrom", "(LDownTheGutter$Scene;II)V"⟩
abbrev cX9_begin : ByteArray := prog_11_method_4_code
def yX9_begin : MethodName := ⟨RX9, "begin", "(I)V"⟩
abbrev cX9_go : ByteArray := prog_11_method_5_code
def yX9_go : MethodName := ⟨RX9, "go", "(I)I"⟩
abbrev cX9_goOn : ByteArray := prog_11_method_6_code
def yX9_goOn : MethodName := ⟨RX9, "goOn", "(LDownTheGutter$Scene;I)V"⟩
abbrev cX9_settle : ByteArray := prog_11_method_7_code
def yX9_settle : MethodName := ⟨RX9, "settle", "(LDownTheGutter$Scene;I)I"⟩
abbrev cX9_circle : ByteArray := prog_11_method_8_code
def yX9_circle : MethodName := ⟨RX9, "circle", "(II)I"⟩
abbrev cX9_forgetSets : ByteArray := prog_11_method_9_code
def yX9_forgetSets : MethodName := ⟨RX9, "forgetSets", "()V"⟩
abbrev cX9_remember : ByteArray := prog_11_method_10_code
def yX9_remember : MethodName := ⟨RX9, "remember", "(II)V"⟩
abbrev cX9_outcome : ByteArray := prog_11_method_11_code
def yX9_outcome : MethodName := ⟨RX9, "outcome", "(I)I"⟩
abbrev cX9_spread : ByteArray := prog_11_method_12_code
def yX9_spread : MethodName := ⟨RX9, "spread", "(II)V"⟩
abbrev cX9_fits : ByteArray := prog_11_method_13_code
def yX9_fits : MethodName := ⟨RX9, "fits", "(I)Z"⟩
abbrev cX9_setFitting : ByteArray := prog_11_method_14_code
def yX9_setFitting : MethodName := ⟨RX9, "setFitting", "(IZ)V"⟩
abbrev cX9_fitAll : ByteArray := prog_11_method_15_code
def yX9_fitAll : MethodName := ⟨RX9, "fitAll", "()V"⟩
abbrev cX9_mostLeft : ByteArray := prog_11_method_16_code
def yX9_mostLeft : MethodName := ⟨RX9, "mostLeft", "()I"⟩
abbrev cX9_tally : ByteArray := prog_11_method_17_code
def yX9_tally : MethodName := ⟨RX9, "tally", "(I)I"⟩
def RX10 : String := "DownTheGutter$Water"
def TX10 : u_T := fun k => match k with
  | 0 => ("DownTheGutter$Water", "digits", "[I", true)
  | _ => ("DownTheGutter$Water", "length", "I", false)
def tyX10 : Nat → FieldType := fun k => match k with
  | 0 => .array .int
  | _ => .int
abbrev wsX100 : List Cond := u_ws RX10 TX10 2
theorem nmX10 : ∀ a, a < 2 → ∀ b, b < 2 → a ≠ b → (TX10 a).2.1 ≠ (TX10 b).2.1 := by decide +kernel
theorem tyX10_ok : ∀ k, k < 2 → parseFieldDescriptor (TX10 k).2.2.1 = some (tyX10 k) := by decide +kernel
abbrev cX10_init : ByteArray := prog_12_method_1_code
def yX10_init : MethodName := ⟨RX10, "<init>", "()V"⟩
abbrev cX10_in : ByteArray := prog_12_method_2_code
def yX10_in : MethodName := ⟨RX10, "in", "(I)I"⟩
abbrev cX10_read : ByteArray := prog_12_method_3_code
def yX10_read : MethodName := ⟨RX10, "read", "(LDownTheGutter$Signs;)I"⟩
def RX11 : String := "DownTheGutter"
def TX11 : u_T := fun k => match k with
  | 0 => ("DownTheGutter", "text", "LDownTheGutter$Signs;", true)
  | 1 => ("DownTheGutter", "town", "LDownTheGutter$Town;", true)
  | 2 => ("DownTheGutter", "draftTown", "LDownTheGutter$Town;", true)
  | 3 => ("DownTheGutter", "water", "LDownTheGutter$Water;", true)
  | 4 => ("DownTheGutter", "rule", "LDownTheGutter$Rule;", true)
  | 5 => ("DownTheGutter", "draftRule", "LDownTheGutter$Rule;", true)
  | 6 => ("DownTheGutter", "diary", "LDownTheGutter$Diary;", true)
  | 7 => ("DownTheGutter", "present", "LDownTheGutter$Scene;", true)
  | 8 => ("DownTheGutter", "before", "LDownTheGutter$Scene;", true)
  | 9 => ("DownTheGutter", "past", "LDownTheGutter$Past;", true)
  | 10 => ("DownTheGutter", "kept", "[LDownTheGutter$Scene;", true)
  | 11 => ("DownTheGutter", "keptBits", "I", false)
  | 12 => ("DownTheGutter", "corks", "LDownTheGutter$Corks;", true)
  | 13 => ("DownTheGutter", "row", "LDownTheGutter$Row;", true)
  | 14 => ("DownTheGutter", "current", "LDownTheGutter$Current;", true)
  | _ => ("DownTheGutter", "trials", "LDownTheGutter$Trials;", true)
def tyX11 : Nat → FieldType := fun k => match k with
  | 0 => .object "DownTheGutter$Signs"
  | 1 => .object "DownTheGutter$Town"
  | 2 => .object "DownTheGutter$Town"
  | 3 => .object "DownTheGutter$Water"
  | 4 => .object "DownTheGutter$Rule"
  | 5 => .object "DownTheGutter$Rule"
  | 6 => .object "DownTheGutter$Diary"
  | 7 => .object "DownTheGutter$Scene"
  | 8 => .object "DownTheGutter$Scene"
  | 9 => .object "DownTheGutter$Past"
  | 10 => .array (.object "DownTheGutter$Scene")
  | 11 => .int
  | 12 => .object "DownTheGutter$Corks"
  | 13 => .object "DownTheGutter$Row"
  | 14 => .object "DownTheGutter$Current"
  | _ => .object "DownTheGutter$Trials"
abbrev wsX110 : List Cond := u_ws RX11 TX11 16
theorem nmX11 : ∀ a, a < 16 → ∀ b, b < 16 → a ≠ b → (TX11 a).2.1 ≠ (TX11 b).2.1 := by decide +kernel
theorem tyX11_ok : ∀ k, k < 16 → parseFieldDescriptor (TX11 k).2.2.1 = some (tyX11 k) := by decide +kernel
abbrev cX11_init : ByteArray := prog_1_method_1_code
def yX11_init : MethodName := ⟨RX11, "<init>", "()V"⟩
abbrev cX11_sign : ByteArray := prog_1_method_2_code
def yX11_sign : MethodName := ⟨RX11, "sign", "(I)I"⟩
abbrev cX11_end : ByteArray := prog_1_method_3_code
def yX11_end : MethodName := ⟨RX11, "end", "(I)Z"⟩
abbrev cX11_town : ByteArray := prog_1_method_4_code
def yX11_town : MethodName := ⟨RX11, "town", "()I"⟩
abbrev cX11_water : ByteArray := prog_1_method_5_code
def yX11_water : MethodName := ⟨RX11, "water", "()I"⟩
abbrev cX11_rule : ByteArray := prog_1_method_6_code
def yX11_rule : MethodName := ⟨RX11, "rule", "()I"⟩
abbrev cX11_place : ByteArray := prog_1_method_7_code
def yX11_place : MethodName := ⟨RX11, "place", "(II)I"⟩
abbrev cX11_of : ByteArray := prog_1_method_8_code
def yX11_of : MethodName := ⟨RX11, "of", "(II)I"⟩
abbrev cX11_flow : ByteArray := prog_1_method_9_code
def yX11_flow : MethodName := ⟨RX11, "flow", "(I)I"⟩
abbrev cX11_plank : ByteArray := prog_1_method_10_code
def yX11_plank : MethodName := ⟨RX11, "plank", "(II)Z"⟩
abbrev cX11_sheet : ByteArray := prog_1_method_11_code
def yX11_sheet : MethodName := ⟨RX11, "sheet", "(IIII)I"⟩
abbrev cX11_entry : ByteArray := prog_1_method_12_code
def yX11_entry : MethodName := ⟨RX11, "entry", "(II)I"⟩
abbrev cX11_put : ByteArray := prog_1_method_13_code
def yX11_put : MethodName := ⟨RX11, "put", "(IIII)I"⟩
abbrev cX11_give : ByteArray := prog_1_method_14_code
def yX11_give : MethodName := ⟨RX11, "give", "(II)I"⟩
abbrev cX11_run : ByteArray := prog_1_method_15_code
def yX11_run : MethodName := ⟨RX11, "run", "(I)I"⟩
abbrev cX11_passMinutes : ByteArray := prog_1_method_16_code
def yX11_passMinutes : MethodName := ⟨RX11, "passMinutes", "(I)V"⟩
abbrev cX11_day : ByteArray := prog_1_method_17_code
def yX11_day : MethodName := ⟨RX11, "day", "()I"⟩
abbrev cX11_perform : ByteArray := prog_1_method_18_code
def yX11_perform : MethodName := ⟨RX11, "perform", "(I)I"⟩
abbrev cX11_undo : ByteArray := prog_1_method_19_code
def yX11_undo : MethodName := ⟨RX11, "undo", "()I"⟩
abbrev cX11_where : ByteArray := prog_1_method_20_code
def yX11_where : MethodName := ⟨RX11, "where", "(II)I"⟩
abbrev cX11_comes : ByteArray := prog_1_method_21_code
def yX11_comes : MethodName := ⟨RX11, "comes", "(I)I"⟩
abbrev cX11_lost : ByteArray := prog_1_method_22_code
def yX11_lost : MethodName := ⟨RX11, "lost", "(I)I"⟩
abbrev cX11_homes : ByteArray := prog_1_method_23_code
def yX11_homes : MethodName := ⟨RX11, "homes", "(I)I"⟩
abbrev cX11_sail : ByteArray := prog_1_method_24_code
def yX11_sail : MethodName := ⟨RX11, "sail", "(IIIII)I"⟩
abbrev cX11_soonest : ByteArray := prog_1_method_25_code
def yX11_soonest : MethodName := ⟨RX11, "soonest", "(III)I"⟩
abbrev cX11_basin : ByteArray := prog_1_method_26_code
def yX11_basin : MethodName := ⟨RX11, "basin", "(III)I"⟩
abbrev cX11_boat : ByteArray := prog_1_method_27_code
def yX11_boat : MethodName := ⟨RX11, "boat", "(III)I"⟩
abbrev cX11_coins : ByteArray := prog_1_method_28_code
def yX11_coins : MethodName := ⟨RX11, "coins", "(III)I"⟩
abbrev cX11_waits : ByteArray := prog_1_method_29_code
def yX11_waits : MethodName := ⟨RX11, "waits", "(IIII)I"⟩
abbrev cX11_round : ByteArray := prog_1_method_30_code
def yX11_round : MethodName := ⟨RX11, "round", "(I)I"⟩
abbrev cX11_save : ByteArray := prog_1_method_31_code
def yX11_save : MethodName := ⟨RX11, "save", "(I)I"⟩
abbrev cX11_steer : ByteArray := prog_1_method_32_code
def yX11_steer : MethodName := ⟨RX11, "steer", "(II)I"⟩
abbrev cX11_fewestTurns : ByteArray := prog_1_method_33_code
def yX11_fewestTurns : MethodName := ⟨RX11, "fewestTurns", "(I)I"⟩
abbrev cX11_ways : ByteArray := prog_1_method_34_code
def yX11_ways : MethodName := ⟨RX11, "ways", "(IIII)I"⟩
abbrev cX11_duel : ByteArray := prog_1_method_35_code
def yX11_duel : MethodName := ⟨RX11, "duel", "(IIIII)I"⟩
abbrev cX11_firstGets : ByteArray := prog_1_method_36_code
def yX11_firstGets : MethodName := ⟨RX11, "firstGets", "(IIIZ)Z"⟩
abbrev cX11_cork : ByteArray := prog_1_method_37_code
def yX11_cork : MethodName := ⟨RX11, "cork", "(III)I"⟩
abbrev cX11_forget : ByteArray := prog_1_method_38_code
def yX11_forget : MethodName := ⟨RX11, "forget", "()I"⟩
abbrev cX11_maps : ByteArray := prog_1_method_39_code
def yX11_maps : MethodName := ⟨RX11, "maps", "()I"⟩
abbrev cX11_next : ByteArray := prog_1_method_40_code
def yX11_next : MethodName := ⟨RX11, "next", "(I)I"⟩
abbrev cX11_findFits : ByteArray := prog_1_method_41_code
def yX11_findFits : MethodName := ⟨RX11, "findFits", "()V"⟩
abbrev cX11_odds : ByteArray := prog_1_method_42_code
def yX11_odds : MethodName := ⟨RX11, "odds", "(III)I"⟩
abbrev cX11_weightOf : ByteArray := prog_1_method_43_code
def yX11_weightOf : MethodName := ⟨RX11, "weightOf", "(III)I"⟩
abbrev cX11_commonDivisor : ByteArray := prog_1_method_44_code
def yX11_commonDivisor : MethodName := ⟨RX11, "commonDivisor", "(II)I"⟩
abbrev cX11_marks : ByteArray := prog_1_method_45_code
def yX11_marks : MethodName := ⟨RX11, "marks", "(III)I"⟩
abbrev cX11_order : ByteArray := prog_1_method_46_code
def yX11_order : MethodName := ⟨RX11, "order", "(II)I"⟩
abbrev cX11_keep : ByteArray := prog_1_method_47_code
def yX11_keep : MethodName := ⟨RX11, "keep", "(I)Z"⟩
abbrev cX11_again : ByteArray := prog_1_method_48_code
def yX11_again : MethodName := ⟨RX11, "again", "(I)Z"⟩
abbrev cX11_count : ByteArray := prog_1_method_49_code
def yX11_count : MethodName := ⟨RX11, "count", "(I)I"⟩
abbrev cX11_row : ByteArray := prog_1_method_50_code
def yX11_row : MethodName := ⟨RX11, "row", "(I)J"⟩
abbrev cX11_isLoad : ByteArray := prog_1_method_51_code
def yX11_isLoad : MethodName := ⟨RX11, "isLoad", "(II)Z"⟩
abbrev cX11_isWait : ByteArray := prog_1_method_52_code
def yX11_isWait : MethodName := ⟨RX11, "isWait", "(I)Z"⟩
abbrev cX11_isAhead : ByteArray := prog_1_method_53_code
def yX11_isAhead : MethodName := ⟨RX11, "isAhead", "(I)Z"⟩
abbrev cX11_isCorkMinute : ByteArray := prog_1_method_54_code
def yX11_isCorkMinute : MethodName := ⟨RX11, "isCorkMinute", "(I)Z"⟩
abbrev cX11_isIn : ByteArray := prog_1_method_55_code
def yX11_isIn : MethodName := ⟨RX11, "isIn", "(II)Z"⟩
abbrev cX11_kitchenOf : ByteArray := prog_1_method_56_code
def yX11_kitchenOf : MethodName := ⟨RX11, "kitchenOf", "(I)I"⟩
abbrev cX11_minutesOf : ByteArray := prog_1_method_57_code
def yX11_minutesOf : MethodName := ⟨RX11, "minutesOf", "(I)I"⟩
abbrev cX11_lowest : ByteArray := prog_1_method_58_code
def yX11_lowest : MethodName := ⟨RX11, "lowest", "(I)I"⟩
abbrev cX11_sailed : ByteArray := prog_1_method_59_code
def yX11_sailed : MethodName := ⟨RX11, "sailed", "(IIII)I"⟩
def RX12 : String := "DownTheGutterModel"
def TX12 : u_T := fun k => match k with
  | 0 => ("DownTheGutterModel", "thrown", "I", false)
  | 1 => ("DownTheGutterModel", "rows", "I", false)
  | 2 => ("DownTheGutterModel", "row", "[J", true)
  | 3 => ("DownTheGutterModel", "places", "I", false)
  | 4 => ("DownTheGutterModel", "waterLong", "I", false)
  | 5 => ("DownTheGutterModel", "kind", "[I", true)
  | 6 => ("DownTheGutterModel", "goes", "[I", true)
  | 7 => ("DownTheGutterModel", "second", "[I", true)
  | 8 => ("DownTheGutterModel", "number", "[I", true)
  | 9 => ("DownTheGutterModel", "waters", "[I", true)
  | 10 => ("DownTheGutterModel", "now", "[I", true)
  | 11 => ("DownTheGutterModel", "then", "[I", true)
  | 12 => ("DownTheGutterModel", "tape", "[I", true)
  | 13 => ("DownTheGutterModel", "taped", "I", false)
  | 14 => ("DownTheGutterModel", "at", "I", false)
  | 15 => ("DownTheGutterModel", "to", "I", false)
  | 16 => ("DownTheGutterModel", "nest", "I", false)
  | 17 => ("DownTheGutterModel", "readKind", "[I", true)
  | 18 => ("DownTheGutterModel", "readGoes", "[I", true)
  | 19 => ("DownTheGutterModel", "readSecond", "[I", true)
  | 20 => ("DownTheGutterModel", "readNumber", "[I", true)
  | 21 => ("DownTheGutterModel", "readMany", "I", false)
  | 22 => ("DownTheGutterModel", "meant", "[I", true)
  | 23 => ("DownTheGutterModel", "stood", "[I", true)
  | 24 => ("DownTheGutterModel", "meantMany", "I", false)
  | 25 => ("DownTheGutterModel", "readWaters", "[I", true)
  | 26 => ("DownTheGutterModel", "code", "[I", true)
  | 27 => ("DownTheGutterModel", "readCode", "[I", true)
  | 28 => ("DownTheGutterModel", "codeLong", "I", false)
  | 29 => ("DownTheGutterModel", "readLong", "I", false)
  | 30 => ("DownTheGutterModel", "stack", "[I", true)
  | 31 => ("DownTheGutterModel", "rains", "I", false)
  | 32 => ("DownTheGutterModel", "rainsFrom", "I", false)
  | 33 => ("DownTheGutterModel", "isForever", "Z", false)
  | 34 => ("DownTheGutterModel", "hasLeft", "Z", false)
  | 35 => ("DownTheGutterModel", "leaves", "I", false)
  | 36 => ("DownTheGutterModel", "undos", "I", false)
  | 37 => ("DownTheGutterModel", "undone", "[I", true)
  | 38 => ("DownTheGutterModel", "actSign", "[I", true)
  | 39 => ("DownTheGutterModel", "actOne", "[I", true)
  | 40 => ("DownTheGutterModel", "actTwo", "[I", true)
  | 41 => ("DownTheGutterModel", "actThree", "[I", true)
  | 42 => ("DownTheGutterModel", "acts", "I", false)
  | 43 => ("DownTheGutterModel", "cameHome", "I", false)
  | 44 => ("DownTheGutterModel", "alone", "[I", true)
  | 45 => ("DownTheGutterModel", "soloPlanks", "I", false)
  | 46 => ("DownTheGutterModel", "soloNow", "I", false)
  | 47 => ("DownTheGutterModel", "played", "[I", true)
  | 48 => ("DownTheGutterModel", "playPlace", "I", false)
  | 49 => ("DownTheGutterModel", "playBoat", "I", false)
  | 50 => ("DownTheGutterModel", "playCoins", "I", false)
  | 51 => ("DownTheGutterModel", "playKitchen", "I", false)
  | 52 => ("DownTheGutterModel", "corks", "I", false)
  | 53 => ("DownTheGutterModel", "corkPlace", "[I", true)
  | 54 => ("DownTheGutterModel", "corkMinute", "[I", true)
  | 55 => ("DownTheGutterModel", "corkHome", "[I", true)
  | 56 => ("DownTheGutterModel", "fits", "[Z", true)
  | 57 => ("DownTheGutterModel", "parts", "[I", true)
  | 58 => ("DownTheGutterModel", "isKept", "[Z", true)
  | _ => ("DownTheGutterModel", "kept", "[I", true)
def tyX12 : Nat → FieldType := fun k => match k with
  | 0 => .int
  | 1 => .int
  | 2 => .array .long
  | 3 => .int
  | 4 => .int
  | 5 => .array .int
  | 6 => .array .int
  | 7 => .array .int
  | 8 => .array .int
  | 9 => .array .int
  | 10 => .array .int
  | 11 => .array .int
  | 12 => .array .int
  | 13 => .int
  | 14 => .int
  | 15 => .int
  | 16 => .int
  | 17 => .array .int
  | 18 => .array .int
  | 19 => .array .int
  | 20 => .array .int
  | 21 => .int
  | 22 => .array .int
  | 23 => .array .int
  | 24 => .int
  | 25 => .array .int
  | 26 => .array .int
  | 27 => .array .int
  | 28 => .int
  | 29 => .int
  | 30 => .array .int
  | 31 => .int
  | 32 => .int
  | 33 => .boolean
  | 34 => .boolean
  | 35 => .int
  | 36 => .int
  | 37 => .array .int
  | 38 => .array .int
  | 39 => .array .int
  | 40 => .array .int
  | 41 => .array .int
  | 42 => .int
  | 43 => .int
  | 44 => .array .int
  | 45 => .int
  | 46 => .int
  | 47 => .array .int
  | 48 => .int
  | 49 => .int
  | 50 => .int
  | 51 => .int
  | 52 => .int
  | 53 => .array .int
  | 54 => .array .int
  | 55 => .array .int
  | 56 => .array .boolean
  | 57 => .array .int
  | 58 => .array .boolean
  | _ => .array .int
abbrev wsX120 : List Cond := u_ws RX12 TX12 60
theorem nmX12 : ∀ a, a < 60 → ∀ b, b < 60 → a ≠ b → (TX12 a).2.1 ≠ (TX12 b).2.1 := by decide +kernel
theorem tyX12_ok : ∀ k, k < 60 → parseFieldDescriptor (TX12 k).2.2.1 = some (tyX12 k) := by decide +kernel
abbrev cX12_init : ByteArray := prog_14_method_1_code
def yX12_init : MethodName := ⟨RX12, "<init>", "()V"⟩
abbrev cX12_thrown : ByteArray := prog_14_method_2_code
def yX12_thrown : MethodName := ⟨RX12, "thrown", "()I"⟩
abbrev cX12_refuse : ByteArray := prog_14_method_3_code
def yX12_refuse : MethodName := ⟨RX12, "refuse", "()I"⟩
abbrev cX12_in : ByteArray := prog_14_method_4_code
def yX12_in : MethodName := ⟨RX12, "in", "(JJJ)Z"⟩
abbrev cX12_has : ByteArray := prog_14_method_5_code
def yX12_has : MethodName := ⟨RX12, "has", "(II)Z"⟩
abbrev cX12_flag : ByteArray := prog_14_method_6_code
def yX12_flag : MethodName := ⟨RX12, "flag", "(Z)I"⟩
abbrev cX12_common : ByteArray := prog_14_method_7_code
def yX12_common : MethodName := ⟨RX12, "common", "(JJ)J"⟩
abbrev cX12_enters : ByteArray := prog_14_method_8_code
def yX12_enters : MethodName := ⟨RX12, "enters", "(J)V"⟩
abbrev cX12_entersFraction : ByteArray := prog_14_method_9_code
def yX12_entersFraction : MethodName := ⟨RX12, "entersFraction", "(JJ)V"⟩
abbrev cX12_isPlace : ByteArray := prog_14_method_10_code
def yX12_isPlace : MethodName := ⟨RX12, "isPlace", "(I)Z"⟩
abbrev cX12_isFork : ByteArray := prog_14_method_11_code
def yX12_isFork : MethodName := ⟨RX12, "isFork", "(I)Z"⟩
abbrev cX12_isKitchen : ByteArray := prog_14_method_12_code
def yX12_isKitchen : MethodName := ⟨RX12, "isKitchen", "(I)Z"⟩
abbrev cX12_isThing : ByteArray := prog_14_method_13_code
def yX12_isThing : MethodName := ⟨RX12, "isThing", "(I)Z"⟩
abbrev cX12_forks : ByteArray := prog_14_method_14_code
def yX12_forks : MethodName := ⟨RX12, "forks", "()I"⟩
abbrev cX12_sign : ByteArray := prog_14_method_15_code
def yX12_sign : MethodName := ⟨RX12, "sign", "(I)I"⟩
abbrev cX12_end : ByteArray := prog_14_method_16_code
def yX12_end : MethodName := ⟨RX12, "end", "(I)Z"⟩
abbrev cX12_begins : ByteArray := prog_14_method_17_code
def yX12_begins : MethodName := ⟨RX12, "begins", "(I)I"⟩
abbrev cX12_takes : ByteArray := prog_14_method_18_code
def yX12_takes : MethodName := ⟨RX12, "takes", "(I)Z"⟩
abbrev cX12_isDigit : ByteArray := prog_14_method_19_code
def yX12_isDigit : MethodName := ⟨RX12, "isDigit", "()Z"⟩
abbrev cX12_among : ByteArray := prog_14_method_20_code
def yX12_among : MethodName := ⟨RX12, "among", "(Ljava/lang/String;)I"⟩
abbrev cX12_takesOf : ByteArray := prog_14_method_21_code
def yX12_takesOf : MethodName := ⟨RX12, "takesOf", "(Ljava/lang/String;)I"⟩
abbrev cX12_numberOf : ByteArray := prog_14_method_22_code
def yX12_numberOf : MethodName := ⟨RX12, "numberOf", "(I)I"⟩
abbrev cX12_faultOf : ByteArray := prog_14_method_23_code
def yX12_faultOf : MethodName := ⟨RX12, "faultOf", "(IIZ)I"⟩
abbrev cX12_readsLetter : ByteArray := prog_14_method_24_code
def yX12_readsLetter : MethodName := ⟨RX12, "readsLetter", "()I"⟩
abbrev cX12_readsPlace : ByteArray := prog_14_method_25_code
def yX12_readsPlace : MethodName := ⟨RX12, "readsPlace", "()Z"⟩
abbrev cX12_town : ByteArray := prog_14_method_26_code
def yX12_town : MethodName := ⟨RX12, "town", "()I"⟩
abbrev cX12_water : ByteArray := prog_14_method_27_code
def yX12_water : MethodName := ⟨RX12, "water", "()I"⟩
abbrev cX12_codes : ByteArray := prog_14_method_28_code
def yX12_codes : MethodName := ⟨RX12, "codes", "(I)V"⟩
abbrev cX12_readsThing : ByteArray := prog_14_method_29_code
def yX12_readsThing : MethodName := ⟨RX12, "readsThing", "()Z"⟩
abbrev cX12_readsRank : ByteArray := prog_14_method_30_code
def yX12_readsRank : MethodName := ⟨RX12, "readsRank", "(I)Z"⟩
abbrev cX12_rule : ByteArray := prog_14_method_31_code
def yX12_rule : MethodName := ⟨RX12, "rule", "()I"⟩
abbrev cX12_waterIn : ByteArray := prog_14_method_32_code
def yX12_waterIn : MethodName := ⟨RX12, "waterIn", "(I)I"⟩
abbrev cX12_othersAt : ByteArray := prog_14_method_33_code
def yX12_othersAt : MethodName := ⟨RX12, "othersAt", "([II)I"⟩
abbrev cX12_askedOf : ByteArray := prog_14_method_34_code
def yX12_askedOf : MethodName := ⟨RX12, "askedOf", "([III)I"⟩
abbrev cX12_worked : ByteArray := prog_14_method_35_code
def yX12_worked : MethodName := ⟨RX12, "worked", "(III)I"⟩
abbrev cX12_ruled : ByteArray := prog_14_method_36_code
def yX12_ruled : MethodName := ⟨RX12, "ruled", "([II)I"⟩
abbrev cX12_ends : ByteArray := prog_14_method_37_code
def yX12_ends : MethodName := ⟨RX12, "ends", "([III)V"⟩
abbrev cX12_steps : ByteArray := prog_14_method_38_code
def yX12_steps : MethodName := ⟨RX12, "steps", "([II)Z"⟩
abbrev cX12_minuteGoes : ByteArray := prog_14_method_39_code
def yX12_minuteGoes : MethodName := ⟨RX12, "minuteGoes", "([I)V"⟩
abbrev cX12_thoseHow : ByteArray := prog_14_method_40_code
def yX12_thoseHow : MethodName := ⟨RX12, "thoseHow", "([II)I"⟩
abbrev cX12_place : ByteArray := prog_14_method_41_code
def yX12_place : MethodName := ⟨RX12, "place", "(II)I"⟩
abbrev cX12_of : ByteArray := prog_14_method_42_code
def yX12_of : MethodName := ⟨RX12, "of", "(II)I"⟩
abbrev cX12_flow : ByteArray := prog_14_method_43_code
def yX12_flow : MethodName := ⟨RX12, "flow", "(I)I"⟩
abbrev cX12_puts : ByteArray := prog_14_method_44_code
def yX12_puts : MethodName := ⟨RX12, "puts", "([I[I)V"⟩
abbrev cX12_putsBy : ByteArray := prog_14_method_45_code
def yX12_putsBy : MethodName := ⟨RX12, "putsBy", "()V"⟩
abbrev cX12_adds : ByteArray := prog_14_method_46_code
def yX12_adds : MethodName := ⟨RX12, "adds", "(I)I"⟩
abbrev cX12_undo : ByteArray := prog_14_method_47_code
def yX12_undo : MethodName := ⟨RX12, "undo", "()I"⟩
abbrev cX12_plank : ByteArray := prog_14_method_48_code
def yX12_plank : MethodName := ⟨RX12, "plank", "(II)Z"⟩
abbrev cX12_sheet : ByteArray := prog_14_method_49_code
def yX12_sheet : MethodName := ⟨RX12, "sheet", "(IIII)I"⟩
abbrev cX12_lays : ByteArray := prog_14_method_50_code
def yX12_lays : MethodName := ⟨RX12, "lays", "([IIIIII)V"⟩
abbrev cX12_canPut : ByteArray := prog_14_method_51_code
def yX12_canPut : MethodName := ⟨RX12, "canPut", "(III)Z"⟩
abbrev cX12_comesNow : ByteArray := prog_14_method_52_code
def yX12_comesNow : MethodName := ⟨RX12, "comesNow", "(IIII)I"⟩
abbrev cX12_gives : ByteArray := prog_14_method_53_code
def yX12_gives : MethodName := ⟨RX12, "gives", "(II)I"⟩
abbrev cX12_put : ByteArray := prog_14_method_54_code
def yX12_put : MethodName := ⟨RX12, "put", "(IIII)I"⟩
abbrev cX12_give : ByteArray := prog_14_method_55_code
def yX12_give : MethodName := ⟨RX12, "give", "(II)I"⟩
abbrev cX12_run : ByteArray := prog_14_method_56_code
def yX12_run : MethodName := ⟨RX12, "run", "(I)I"⟩
abbrev cX12_readsAct : ByteArray := prog_14_method_57_code
def yX12_readsAct : MethodName := ⟨RX12, "readsAct", "()Z"⟩
abbrev cX12_does : ByteArray := prog_14_method_58_code
def yX12_does : MethodName := ⟨RX12, "does", "(I)Z"⟩
abbrev cX12_day : ByteArray := prog_14_method_59_code
def yX12_day : MethodName := ⟨RX12, "day", "()I"⟩
abbrev cX12_goesOn : ByteArray := prog_14_method_60_code
def yX12_goesOn : MethodName := ⟨RX12, "goesOn", "(I)V"⟩
abbrev cX12_where : ByteArray := prog_14_method_61_code
def yX12_where : MethodName := ⟨RX12, "where", "(II)I"⟩
abbrev cX12_endsAfter : ByteArray := prog_14_method_62_code
def yX12_endsAfter : MethodName := ⟨RX12, "endsAfter", "([III)I"⟩
abbrev cX12_comes : ByteArray := prog_14_method_63_code
def yX12_comes : MethodName := ⟨RX12, "comes", "(I)I"⟩
abbrev cX12_lost : ByteArray := prog_14_method_64_code
def yX12_lost : MethodName := ⟨RX12, "lost", "(I)I"⟩
abbrev cX12_homes : ByteArray := prog_14_method_65_code
def yX12_homes : MethodName := ⟨RX12, "homes", "(I)I"⟩
abbrev cX12_thinksNow : ByteArray := prog_14_method_66_code
def yX12_thinksNow : MethodName := ⟨RX12, "thinksNow", "()V"⟩
abbrev cX12_goesAlone : ByteArray := prog_14_method_67_code
def yX12_goesAlone : MethodName := ⟨RX12, "goesAlone", "(IIII)I"⟩
abbrev cX12_laysAlone : ByteArray := prog_14_method_68_code
def yX12_laysAlone : MethodName := ⟨RX12, "laysAlone", "(IIII)V"⟩
abbrev cX12_sails : ByteArray := prog_14_method_69_code
def yX12_sails : MethodName := ⟨RX12, "sails", "(IIIII)I"⟩
abbrev cX12_canSail : ByteArray := prog_14_method_70_code
def yX12_canSail : MethodName := ⟨RX12, "canSail", "(IIII)Z"⟩
abbrev cX12_sail : ByteArray := prog_14_method_71_code
def yX12_sail : MethodName := ⟨RX12, "sail", "(IIIII)I"⟩
abbrev cX12_soonest : ByteArray := prog_14_method_72_code
def yX12_soonest : MethodName := ⟨RX12, "soonest", "(III)I"⟩
abbrev cX12_basin : ByteArray := prog_14_method_73_code
def yX12_basin : MethodName := ⟨RX12, "basin", "(III)I"⟩
abbrev cX12_boat : ByteArray := prog_14_method_74_code
def yX12_boat : MethodName := ⟨RX12, "boat", "(III)I"⟩
abbrev cX12_coins : ByteArray := prog_14_method_75_code
def yX12_coins : MethodName := ⟨RX12, "coins", "(III)I"⟩
abbrev cX12_waits : ByteArray := prog_14_method_76_code
def yX12_waits : MethodName := ⟨RX12, "waits", "(IIII)I"⟩
abbrev cX12_round : ByteArray := prog_14_method_77_code
def yX12_round : MethodName := ⟨RX12, "round", "(I)I"⟩
abbrev cX12_savedAfter : ByteArray := prog_14_method_78_code
def yX12_savedAfter : MethodName := ⟨RX12, "savedAfter", "(II)I"⟩
abbrev cX12_saves : ByteArray := prog_14_method_79_code
def yX12_saves : MethodName := ⟨RX12, "saves", "(III)I"⟩
abbrev cX12_save : ByteArray := prog_14_method_80_code
def yX12_save : MethodName := ⟨RX12, "save", "(I)I"⟩
abbrev cX12_steer : ByteArray := prog_14_method_81_code
def yX12_steer : MethodName := ⟨RX12, "steer", "(II)I"⟩
abbrev cX12_ways : ByteArray := prog_14_method_82_code
def yX12_ways : MethodName := ⟨RX12, "ways", "(IIII)I"⟩
abbrev cX12_playsOut : ByteArray := prog_14_method_83_code
def yX12_playsOut : MethodName := ⟨RX12, "playsOut", "(I)I"⟩
abbrev cX12_plays : ByteArray := prog_14_method_84_code
def yX12_plays : MethodName := ⟨RX12, "plays", "(III)I"⟩
abbrev cX12_duel : ByteArray := prog_14_method_85_code
def yX12_duel : MethodName := ⟨RX12, "duel", "(IIIII)I"⟩
abbrev cX12_cork : ByteArray := prog_14_method_86_code
def yX12_cork : MethodName := ⟨RX12, "cork", "(III)I"⟩
abbrev cX12_forget : ByteArray := prog_14_method_87_code
def yX12_forget : MethodName := ⟨RX12, "forget", "()I"⟩
abbrev cX12_floatsTo : ByteArray := prog_14_method_88_code
def yX12_floatsTo : MethodName := ⟨RX12, "floatsTo", "(III)I"⟩
abbrev cX12_laysFits : ByteArray := prog_14_method_89_code
def yX12_laysFits : MethodName := ⟨RX12, "laysFits", "()I"⟩
abbrev cX12_maps : ByteArray := prog_14_method_90_code
def yX12_maps : MethodName := ⟨RX12, "maps", "()I"⟩
abbrev cX12_next : ByteArray := prog_14_method_91_code
def yX12_next : MethodName := ⟨RX12, "next", "(I)I"⟩
abbrev cX12_odds : ByteArray := prog_14_method_92_code
def yX12_odds : MethodName := ⟨RX12, "odds", "(III)I"⟩
abbrev cX12_marks : ByteArray := prog_14_method_93_code
def yX12_marks : MethodName := ⟨RX12, "marks", "(III)I"⟩
abbrev cX12_order : ByteArray := prog_14_method_94_code
def yX12_order : MethodName := ⟨RX12, "order", "(II)I"⟩
abbrev cX12_keep : ByteArray := prog_14_method_95_code
def yX12_keep : MethodName := ⟨RX12, "keep", "(I)Z"⟩
abbrev cX12_again : ByteArray := prog_14_method_96_code
def yX12_again : MethodName := ⟨RX12, "again", "(I)Z"⟩
abbrev cX12_count : ByteArray := prog_14_method_97_code
def yX12_count : MethodName := ⟨RX12, "count", "(I)I"⟩
abbrev cX12_row : ByteArray := prog_14_method_98_code
def yX12_row : MethodName := ⟨RX12, "row", "(I)J"⟩
def RJx145de : String := "java/io/Serializable"
def TJx145de : u_T := fun k => match k with
  | _ => ("", "", "", false)
def tyJx145de : Nat → FieldType := fun k => match k with
  | _ => .int
abbrev wsJx145de0 : List Cond := u_ws RJx145de TJx145de 0
theorem nmJx145de : ∀ a, a < 0 → ∀ b, b < 0 → a ≠ b → (TJx145de a).2.1 ≠ (TJx145de b).2.1 := by decide +kernel
theorem tyJx145de_ok : ∀ k, k < 0 → parseFieldDescriptor (TJx145de k).2.2.1 = some (tyJx145de k) := by decide +kernel
def RJx9f9b0 : String := "java/lang/CharSequence"
def TJx9f9b0 : u_T := fun k => match k with
  | _ => ("", "", "", false)
def tyJx9f9b0 : Nat → FieldType := fun k => match k with
  | _ => .int
abbrev wsJx9f9b00 : List Cond := u_ws RJx9f9b0 TJx9f9b0 0
theorem nmJx9f9b0 : ∀ a, a < 0 → ∀ b, b < 0 → a ≠ b → (TJx9f9b0 a).2.1 ≠ (TJx9f9b0 b).2.1 := by decide +kernel
theorem tyJx9f9b0_ok : ∀ k, k < 0 → parseFieldDescriptor (TJx9f9b0 k).2.2.1 = some (tyJx9f9b0 k) := by decide +kernel
def RJ11 : String := "java/lang/Character"
def TJ11 : u_T := fun k => match k with
  | _ => ("", "", "", false)
def tyJ11 : Nat → FieldType := fun k => match k with
  | _ => .int
abbrev wsJ110 : List Cond := u_ws RJ11 TJ11 0
theorem nmJ11 : ∀ a, a < 0 → ∀ b, b < 0 → a ≠ b → (TJ11 a).2.1 ≠ (TJ11 b).2.1 := by decide +kernel
theorem tyJ11_ok : ∀ k, k < 0 → parseFieldDescriptor (TJ11 k).2.2.1 = some (tyJ11 k) := by decide +kernel
abbrev cJ11_isValidCodePoint_9a6ad : ByteArray := prog_17_method_11_code
def yJ11_isValidCodePoint_9a6ad : MethodName := ⟨RJ11, "isValidCodePoint", "(I)Z"⟩
abbrev cJ11_highSurrogate_5068e : ByteArray := prog_17_method_28_code
def yJ11_highSurrogate_5068e : MethodName := ⟨RJ11, "highSurrogate", "(I)C"⟩
abbrev cJ11_lowSurrogate_5068e : ByteArray := prog_17_method_29_code
def yJ11_lowSurrogate_5068e : MethodName := ⟨RJ11, "lowSurrogate", "(I)C"⟩
def RJx8e188 : String := "java/lang/Cloneable"
def TJx8e188 : u_T := fun k => match k with
  | _ => ("", "", "", false)
def tyJx8e188 : Nat → FieldType := fun k => match k with
  | _ => .int
abbrev wsJx8e1880 : List Cond := u_ws RJx8e188 TJx8e188 0
theorem nmJx8e188 : ∀ a, a < 0 → ∀ b, b < 0 → a ≠ b → (TJx8e188 a).2.1 ≠ (TJx8e188 b).2.1 := by decide +kernel
theorem tyJx8e188_ok : ∀ k, k < 0 → parseFieldDescriptor (TJx8e188 k).2.2.1 = some (tyJx8e188 k) := by decide +kernel
def RJxb160c : String := "java/lang/Comparable"
def TJxb160c : u_T := fun k => match k with
  | _ => ("", "", "", false)
def tyJxb160c : Nat → FieldType := fun k => match k with
  | _ => .int
abbrev wsJxb160c0 : List Cond := u_ws RJxb160c TJxb160c 0
theorem nmJxb160c : ∀ a, a < 0 → ∀ b, b < 0 → a ≠ b → (TJxb160c a).2.1 ≠ (TJxb160c b).2.1 := by decide +kernel
theorem tyJxb160c_ok : ∀ k, k < 0 → parseFieldDescriptor (TJxb160c k).2.2.1 = some (tyJxb160c k) := by decide +kernel
def RJ6 : String := "java/lang/Integer"
def TJ6 : u_T := fun k => match k with
  | _ => ("", "", "", false)
def tyJ6 : Nat → FieldType := fun k => match k with
  | _ => .int
abbrev wsJ60 : List Cond := u_ws RJ6 TJ6 0
theorem nmJ6 : ∀ a, a < 0 → ∀ b, b < 0 → a ≠ b → (TJ6 a).2.1 ≠ (TJ6 b).2.1 := by decide +kernel
theorem tyJ6_ok : ∀ k, k < 0 → parseFieldDescriptor (TJ6 k).2.2.1 = some (tyJ6 k) := by decide +kernel
abbrev cJ6_numberOfTrailingZeros_0f7a4 : ByteArray := prog_21_method_48_code
def yJ6_numberOfTrailingZeros_0f7a4 : MethodName := ⟨RJ6, "numberOfTrailingZeros", "(I)I"⟩
abbrev cJ6_bitCount_0f7a4 : ByteArray := prog_21_method_49_code
def yJ6_bitCount_0f7a4 : MethodName := ⟨RJ6, "bitCount", "(I)I"⟩
def RJ9 : String := "java/lang/Math"
def TJ9 : u_T := fun k => match k with
  | _ => ("", "", "", false)
def tyJ9 : Nat → FieldType := fun k => match k with
  | _ => .int
abbrev wsJ90 : List Cond := u_ws RJ9 TJ9 0
theorem nmJ9 : ∀ a, a < 0 → ∀ b, b < 0 → a ≠ b → (TJ9 a).2.1 ≠ (TJ9 b).2.1 := by decide +kernel
theorem tyJ9_ok : ∀ k, k < 0 → parseFieldDescriptor (TJ9 k).2.2.1 = some (tyJ9 k) := by decide +kernel
abbrev cJ9_max_7cf53 : ByteArray := prog_22_method_65_code
def yJ9_max_7cf53 : MethodName := ⟨RJ9, "max", "(II)I"⟩
abbrev cJ9_min_7cf53 : ByteArray := prog_22_method_69_code
def yJ9_min_7cf53 : MethodName := ⟨RJ9, "min", "(II)I"⟩
def RJ0 : String := "java/lang/String"
def TJ0 : u_T := fun k => match k with
  | 0 => ("java/lang/String", "value", "[B", true)
  | 1 => ("java/lang/String", "coder", "B", true)
  | 2 => ("java/lang/String", "hash", "I", false)
  | _ => ("java/lang/String", "hashIsZero", "Z", false)
def tyJ0 : Nat → FieldType := fun k => match k with
  | 0 => .array .byte
  | 1 => .byte
  | 2 => .int
  | _ => .boolean
abbrev wsJ00 : List Cond := u_ws RJ0 TJ0 4
theorem nmJ0 : ∀ a, a < 4 → ∀ b, b < 4 → a ≠ b → (TJ0 a).2.1 ≠ (TJ0 b).2.1 := by decide +kernel
theorem tyJ0_ok : ∀ k, k < 4 → parseFieldDescriptor (TJ0 k).2.2.1 = some (tyJ0 k) := by decide +kernel
abbrev cJ0_length_8abf5 : ByteArray := prog_24_method_54_code
def yJ0_length_8abf5 : MethodName := ⟨RJ0, "length", "()I"⟩
abbrev cJ0_charAt_5068e : ByteArray := prog_24_method_56_code
def yJ0_charAt_5068e : MethodName := ⟨RJ0, "charAt", "(I)C"⟩
abbrev cJ0_indexOf_0f7a4 : ByteArray := prog_24_method_79_code
def yJ0_indexOf_0f7a4 : MethodName := ⟨RJ0, "indexOf", "(I)I"⟩
abbrev cJ0_indexOf_7cf53 : ByteArray := prog_24_method_80_code
def yJ0_indexOf_7cf53 : MethodName := ⟨RJ0, "indexOf", "(II)I"⟩
abbrev cJ0_substring_b52d3 : ByteArray := prog_24_method_91_code
def yJ0_substring_b52d3 : MethodName := ⟨RJ0, "substring", "(I)Ljava/lang/String;"⟩
abbrev cJ0_substring_37a41 : ByteArray := prog_24_method_92_code
def yJ0_substring_37a41 : MethodName := ⟨RJ0, "substring", "(II)Ljava/lang/String;"⟩
abbrev cJ0_init_031fb : ByteArray := prog_24_method_151_code
def yJ0_init_031fb : MethodName := ⟨RJ0, "<init>", "([BB)V"⟩
abbrev cJ0_coder_7d493 : ByteArray := prog_24_method_152_code
def yJ0_coder_7d493 : MethodName := ⟨RJ0, "coder", "()B"⟩
abbrev cJ0_isLatin1_aae02 : ByteArray := prog_24_method_154_code
def yJ0_isLatin1_aae02 : MethodName := ⟨RJ0, "isLatin1", "()Z"⟩
abbrev cJ0_checkIndex_df160 : ByteArray := prog_24_method_155_code
def yJ0_checkIndex_df160 : MethodName := ⟨RJ0, "checkIndex", "(II)V"⟩
abbrev cJ0_checkBoundsOffCount_cabcc : ByteArray := prog_24_method_157_code
def yJ0_checkBoundsOffCount_cabcc : MethodName := ⟨RJ0, "checkBoundsOffCount", "(III)I"⟩
abbrev cJ0_checkBoundsBeginEnd_23922 : ByteArray := prog_24_method_158_code
def yJ0_checkBoundsBeginEnd_23922 : MethodName := ⟨RJ0, "checkBoundsBeginEnd", "(III)V"⟩
def RJ1 : String := "java/lang/StringLatin1"
def TJ1 : u_T := fun k => match k with
  | _ => ("", "", "", false)
def tyJ1 : Nat → FieldType := fun k => match k with
  | _ => .int
abbrev wsJ10 : List Cond := u_ws RJ1 TJ1 0
theorem nmJ1 : ∀ a, a < 0 → ∀ b, b < 0 → a ≠ b → (TJ1 a).2.1 ≠ (TJ1 b).2.1 := by decide +kernel
theorem tyJ1_ok : ∀ k, k < 0 → parseFieldDescriptor (TJ1 k).2.2.1 = some (tyJ1 k) := by decide +kernel
abbrev cJ1_charAt_3b067 : ByteArray := prog_25_method_2_code
def yJ1_charAt_3b067 : MethodName := ⟨RJ1, "charAt", "([BI)C"⟩
abbrev cJ1_canEncode_9a6ad : ByteArray := prog_25_method_4_code
def yJ1_canEncode_9a6ad : MethodName := ⟨RJ1, "canEncode", "(I)Z"⟩
abbrev cJ1_indexOf_4cfef : ByteArray := prog_25_method_22_code
def yJ1_indexOf_4cfef : MethodName := ⟨RJ1, "indexOf", "([BIII)I"⟩
abbrev cJ1_indexOfChar_4cfef : ByteArray := prog_25_method_23_code
def yJ1_indexOfChar_4cfef : MethodName := ⟨RJ1, "indexOfChar", "([BIII)I"⟩
abbrev cJ1_newString_b4f7a : ByteArray := prog_25_method_47_code
def yJ1_newString_b4f7a : MethodName := ⟨RJ1, "newString", "([BII)Ljava/lang/String;"⟩
def RJ2 : String := "java/lang/StringUTF16"
def TJ2 : u_T := fun k => match k with
  | _ => ("", "", "", false)
def tyJ2 : Nat → FieldType := fun k => match k with
  | _ => .int
abbrev wsJ20 : List Cond := u_ws RJ2 TJ2 0
theorem nmJ2 : ∀ a, a < 0 → ∀ b, b < 0 → a ≠ b → (TJ2 a).2.1 ≠ (TJ2 b).2.1 := by decide +kernel
theorem tyJ2_ok : ∀ k, k < 0 → parseFieldDescriptor (TJ2 k).2.2.1 = some (tyJ2 k) := by decide +kernel
abbrev cJ2_newBytesLength_0f7a4 : ByteArray := prog_26_method_3_code
def yJ2_newBytesLength_0f7a4 : MethodName := ⟨RJ2, "newBytesLength", "(I)I"⟩
abbrev cJ2_getChar_3b067 : ByteArray := prog_26_method_5_code
def yJ2_getChar_3b067 : MethodName := ⟨RJ2, "getChar", "([BI)C"⟩
abbrev cJ2_length_9d52b : ByteArray := prog_26_method_6_code
def yJ2_length_9d52b : MethodName := ⟨RJ2, "length", "([B)I"⟩
abbrev cJ2_coderFromArrayLen_85cad : ByteArray := prog_26_method_15_code
def yJ2_coderFromArrayLen_85cad : MethodName := ⟨RJ2, "coderFromArrayLen", "([BI)B"⟩
abbrev cJ2_compress_39247 : ByteArray := prog_26_method_17_code
def yJ2_compress_39247 : MethodName := ⟨RJ2, "compress", "([BII)[B"⟩
abbrev cJ2_compress_5af95 : ByteArray := prog_26_method_22_code
def yJ2_compress_5af95 : MethodName := ⟨RJ2, "compress", "([BI[BII)I"⟩
abbrev cJ2_indexOf_4cfef : ByteArray := prog_26_method_40_code
def yJ2_indexOf_4cfef : MethodName := ⟨RJ2, "indexOf", "([BIII)I"⟩
abbrev cJ2_indexOfChar_4cfef : ByteArray := prog_26_method_47_code
def yJ2_indexOfChar_4cfef : MethodName := ⟨RJ2, "indexOfChar", "([BIII)I"⟩
abbrev cJ2_indexOfCharUnsafe_4cfef : ByteArray := prog_26_method_48_code
def yJ2_indexOfCharUnsafe_4cfef : MethodName := ⟨RJ2, "indexOfCharUnsafe", "([BIII)I"⟩
abbrev cJ2_indexOfSupplementary_4cfef : ByteArray := prog_26_method_49_code
def yJ2_indexOfSupplementary_4cfef : MethodName := ⟨RJ2, "indexOfSupplementary", "([BIII)I"⟩
abbrev cJ2_newString_b4f7a : ByteArray := prog_26_method_69_code
def yJ2_newString_b4f7a : MethodName := ⟨RJ2, "newString", "([BII)Ljava/lang/String;"⟩
abbrev cJ2_charAt_3b067 : ByteArray := prog_26_method_83_code
def yJ2_charAt_3b067 : MethodName := ⟨RJ2, "charAt", "([BI)C"⟩
abbrev cJ2_checkIndex_2214a : ByteArray := prog_26_method_91_code
def yJ2_checkIndex_2214a : MethodName := ⟨RJ2, "checkIndex", "(I[B)V"⟩
abbrev cJ2_checkBoundsBeginEnd_d044e : ByteArray := prog_26_method_93_code
def yJ2_checkBoundsBeginEnd_d044e : MethodName := ⟨RJ2, "checkBoundsBeginEnd", "(II[B)V"⟩
abbrev cJ2_checkBoundsOffCount_d044e : ByteArray := prog_26_method_94_code
def yJ2_checkBoundsOffCount_d044e : MethodName := ⟨RJ2, "checkBoundsOffCount", "(II[B)V"⟩
def RJ10 : String := "java/lang/System"
def TJ10 : u_T := fun k => match k with
  | _ => ("", "", "", false)
def tyJ10 : Nat → FieldType := fun k => match k with
  | _ => .int
abbrev wsJ100 : List Cond := u_ws RJ10 TJ10 0
theorem nmJ10 : ∀ a, a < 0 → ∀ b, b < 0 → a ≠ b → (TJ10 a).2.1 ≠ (TJ10 b).2.1 := by decide +kernel
theorem tyJ10_ok : ∀ k, k < 0 → parseFieldDescriptor (TJ10 k).2.2.1 = some (tyJ10 k) := by decide +kernel
def RJxfd54e : String := "java/lang/constant/Constable"
def TJxfd54e : u_T := fun k => match k with
  | _ => ("", "", "", false)
def tyJxfd54e : Nat → FieldType := fun k => match k with
  | _ => .int
abbrev wsJxfd54e0 : List Cond := u_ws RJxfd54e TJxfd54e 0
theorem nmJxfd54e : ∀ a, a < 0 → ∀ b, b < 0 → a ≠ b → (TJxfd54e a).2.1 ≠ (TJxfd54e b).2.1 := by decide +kernel
theorem tyJxfd54e_ok : ∀ k, k < 0 → parseFieldDescriptor (TJxfd54e k).2.2.1 = some (tyJxfd54e k) := by decide +kernel
def RJx3cf43 : String := "java/lang/constant/ConstantDesc"
def TJx3cf43 : u_T := fun k => match k with
  | _ => ("", "", "", false)
def tyJx3cf43 : Nat → FieldType := fun k => match k with
  | _ => .int
abbrev wsJx3cf430 : List Cond := u_ws RJx3cf43 TJx3cf43 0
theorem nmJx3cf43 : ∀ a, a < 0 → ∀ b, b < 0 → a ≠ b → (TJx3cf43 a).2.1 ≠ (TJx3cf43 b).2.1 := by decide +kernel
theorem tyJx3cf43_ok : ∀ k, k < 0 → parseFieldDescriptor (TJx3cf43 k).2.2.1 = some (tyJx3cf43 k) := by decide +kernel
def RJ7 : String := "java/util/Arrays"
def TJ7 : u_T := fun k => match k with
  | _ => ("", "", "", false)
def tyJ7 : Nat → FieldType := fun k => match k with
  | _ => .int
abbrev wsJ70 : List Cond := u_ws RJ7 TJ7 0
theorem nmJ7 : ∀ a, a < 0 → ∀ b, b < 0 → a ≠ b → (TJ7 a).2.1 ≠ (TJ7 b).2.1 := by decide +kernel
theorem tyJ7_ok : ∀ k, k < 0 → parseFieldDescriptor (TJ7 k).2.2.1 = some (tyJ7 k) := by decide +kernel
abbrev cJ7_checkLength_df160 : ByteArray := prog_31_method_131_code
def yJ7_checkLength_df160 : MethodName := ⟨RJ7, "checkLength", "(II)V"⟩
abbrev cJ7_copyOfRange_39247 : ByteArray := prog_31_method_132_code
def yJ7_copyOfRange_39247 : MethodName := ⟨RJ7, "copyOfRange", "([BII)[B"⟩
abbrev cJ7_copyOfRangeByte_39247 : ByteArray := prog_31_method_133_code
def yJ7_copyOfRangeByte_39247 : MethodName := ⟨RJ7, "copyOfRangeByte", "([BII)[B"⟩
def RJ3 : String := "jdk/internal/util/Preconditions"
def TJ3 : u_T := fun k => match k with
  | _ => ("", "", "", false)
def tyJ3 : Nat → FieldType := fun k => match k with
  | _ => .int
abbrev wsJ30 : List Cond := u_ws RJ3 TJ3 0
theorem nmJ3 : ∀ a, a < 0 → ∀ b, b < 0 → a ≠ b → (TJ3 a).2.1 ≠ (TJ3 b).2.1 := by decide +kernel
theorem tyJ3_ok : ∀ k, k < 0 → parseFieldDescriptor (TJ3 k).2.2.1 = some (tyJ3 k) := by decide +kernel
abbrev cJ3_checkIndex_8e157 : ByteArray := prog_33_method_11_code
def yJ3_checkIndex_8e157 : MethodName := ⟨RJ3, "checkIndex", "(IILjava/util/function/BiFunction;)I"⟩
abbrev cJ3_checkFromToIndex_8c36e : ByteArray := prog_33_method_12_code
def yJ3_checkFromToIndex_8c36e : MethodName := ⟨RJ3, "checkFromToIndex", "(IIILjava/util/function/BiFunction;)I"⟩
abbrev cJ3_checkFromIndexSize_8c36e : ByteArray := prog_33_method_13_code
def yJ3_checkFromIndexSize_8c36e : MethodName := ⟨RJ3, "checkFromIndexSize", "(IIILjava/util/function/BiFunction;)I"⟩
def RL : String := "DownTheGutterLaw"
abbrev cL_place : ByteArray := method_3_code
def yL_place : MethodName := ⟨RL, "place", "(LDownTheGutter;II[J)I"⟩
abbrev cL_of : ByteArray := method_4_code
def yL_of : MethodName := ⟨RL, "of", "(LDownTheGutter;II[J)I"⟩
abbrev cL_row : ByteArray := method_5_code
def yL_row : MethodName := ⟨RL, "row", "(LDownTheGutter;I[J)I"⟩
abbrev cL_law : ByteArray := code
def yL_law : MethodName := ⟨RL, "law", "([I)Z"⟩
abbrev vwCl : List vw_C := [(RJ0, TJ0, 4), (RX0, TX0, 4), (RX1, TX1, 10), (RX2, TX2, 5), (RX3, TX3, 3), (RX4, TX4, 2), (RX5, TX5, 11), (RX6, TX6, 11), (RX7, TX7, 3), (RX8, TX8, 9), (RX9, TX9, 9), (RX10, TX10, 2), (RX11, TX11, 16), (RX12, TX12, 60)]
end
section
/-! ===== BEGIN exceptions that leave a method, and their catching by the caller (launches without stack traces) ===== -/
section VXA
/-! The laws vx_back, vx_callV, vx_callS, vx_callSW, vx_throw0, vx_throwS follow proofs of the library, with one case more: JvmDerived/Free/Laws.lean (Back.of_free), Shelf42/LK1.lean (callV, callS), Shelf/KitTraced.lean (throwNew0V, throwNewS). -/
/-- where a method has thrown q: the class by its name, the cell, what was written, the world -/
def vx_T (XC : String → State → State → Prop) (st : State) (q : Addr) (t : State) (mc ms : Nat) (free : Addr → Prop) : Prop :=
  ∃ (E : String) (ce : Cell) (L : List Loc), XC E st t ∧ t.heap[q]? = some ce ∧ ce.vm = .none ∧ st.vm.findClass E = some ce.cls ∧ st.WarmedH t.vm ∧ st.sameButNew ({ t with vm := st.vm } : State) L mc ms ∧ ∀ z ∈ L, free z.base
def vx_Q (Qc : Array Value → State → Outcome → State → Prop) (XC : String → State → State → Prop) (mc ms : Nat) (free : Addr → Prop) : Array Value → State → Outcome → State → Prop := fun a st o t =>
  (Qc a st o t ∧ ∃ L, FrameEnd st o t L mc ms ∧ ∀ q ∈ L, free q.base) ∨ ∃ q, o = .threw q ∧ vx_T XC st q t mc ms free
/-- a callee that returns or throws -/
def vx_Met (l : Launch) (y : MethodName) (ws : List Cond) (rm : Room) (Pc : Array Value → State → Prop) (Qc : Array Value → State → Outcome → State → Prop) (XC : String → State → State → Prop) (mc ms : Nat) (free : Addr → Prop) : Prop :=
  MetFree l y (headSpec ws rm) Pc (fun _ _ _ _ _ => True) (vx_Q Qc XC mc ms free)
def vx_Post (XC : String → State → State → Prop) (mc ms : Nat) (free : Addr → Prop) : Pt → Array Value → Addr → Pt → Prop := fun A a q B =>
  ∃ (g : JFrame) (mk : MethodId) (t : State) (L : List Loc) (E : String) (ce : Cell), B.U.heap = t.heap ∧ B.U.vm = t.vm ∧ XC E (A.U.calling g mk a) t ∧ t.heap[q]? = some ce ∧ ce.vm = .none ∧ A.U.vm.findClass E = some ce.cls ∧ B.locs = A.locs ++ L ∧ (∀ z ∈ L, free z.base) ∧ B.cells = A.cells + mc ∧ B.slots = A.slots + ms
def vx_Back (l : Launch) (R : Room) (p : Program) (e : Env) (below : List Frame) (s : State) (sargs : Array Value) (y : MethodName) (len W9 : Nat)
    (Pre : Pt → Array Value → Prop) (Post : Pt → Array Value → Option Value → Pt → Prop) (PostX : Pt → Array Value → Addr → Pt → Prop) : Prop :=
  ∀ (m : MethodId) (meth : Method) (c : Code) (A : Pt) (g : JFrame) (ig : Instr) (mk : MethodId) (a : Array Value),
    Stand p l e R s m sargs below meth c A.U A.locs A.cells A.slots → g.method = m → g.locals.size = c.maxLocals → decode c.code g.pc = .ok (ig, len) →
    2 * g.monitorRoom + (g.stack.map fun v => v.category).sum ≤ W9 → A.U.methodNamed? y = some mk → Pre A a →
    (∃ (v : Option Value) (B : Pt), Stand p l e R s m sargs below meth c B.U B.locs B.cells B.slots ∧ Post A a v B ∧
      Steps p.tables e below (doInvoke e (A.U.setTop g) [] mk a).1 (B.U.setTop { g with pc := g.pc + len, stack := v.toList ++ g.stack })) ∨
    (∃ (q : Addr) (B : Pt), Stand p l e R s m sargs below meth c B.U B.locs B.cells B.slots ∧ PostX A a q B ∧
      Steps p.tables e below (doInvoke e (A.U.setTop g) [] mk a).1 ((B.U.setTop g).pushFrame (.throwing q)))
section Payer
variable {l : Launch} {R : Room} {p : Program} {e : Env} {below : List Frame} {s : State} {sargs : Array Value} {y : MethodName} {len W9 : Nat}
theorem vx_back {ws : List Cond} {rm : Room} {Pc : Array Value → State → Prop} {Qc : Array Value → State → Outcome → State → Prop} {XC : String → State → State → Prop} {mc ms : Nat} {free : Addr → Prop} {bytes : ByteArray} {maxL : Nat} {ret : Option FieldType}
    (hM : vx_Met l y ws rm Pc Qc XC mc ms free) (hblind : FrameBlind Pc) (hrc : rm.cells = mc) (hrs : rm.slots = ms)
    (hframes : rm.frames + 1 ≤ R.frames) (hlocals : W9 + (maxL + 11) + rm.locals ≤ R.locals)
    (hws : ∀ w ∈ ws, ∀ a' U, s.WarmedH U.vm → w.before a' U = true) (hcode : Cond.code y bytes maxL ret ∈ ws) (hinit : ∀ a' U, s.WarmedH U.vm → (Cond.initialized y.cls).before a' U = true) :
    vx_Back l R p e below s sargs y len W9 (PreOf R mc ms Pc) (PostOf Qc mc ms free) (vx_Post XC mc ms free) := by
  intro m meth c A g ig mk a X hg hsize hdg hW hn hp
  have h1 : (headSpec ws rm).pre.before a A.U = true := atoms_intro fun w hw => hws w hw _ _ X.warmed
  have h2 : (Cond.code y bytes maxL ret).before a A.U = true := hws _ hcode _ _ X.warmed
  have h3 : (Cond.initialized y.cls).before a A.U = true := hinit _ _ X.warmed
  have h4 : A.cells + (headSpec ws rm).room.cells ≤ R.cells := by rw [show (headSpec ws rm).room.cells = mc from hrc]; exact hp.1
  have h5 : A.slots + (headSpec ws rm).room.slots ≤ R.slots := by rw [show (headSpec ws rm).room.slots = ms from hrs]; exact hp.2.1
  have hPc : Pc a (A.U.calling g mk a) := hblind _ _ _ _ hp.2.2
  obtain ⟨U, Ls, c0, s0⟩ := A
  dsimp only [Pt.U, Pt.locs, Pt.cells, Pt.slots] at h1 h2 h3 h4 h5 X hn hPc ⊢
  obtain ⟨methY, cY, hmY, hcY, -, hlY, -, -, -, -⟩ := Cond.code_spec hn h2
  obtain ⟨kY, hkY, -⟩ := className_of_methodNamed hn
  have hinitY : kY.init = .initialized := Cond.initialized_spec (findClass_of_methodNamed hn) hkY h3
  have h : At U g.method c below := by rw [hg]; exact X.here
  have hlocals9 : W9 + (maxL + 11) + (headSpec ws rm).room.locals ≤ R.locals := hlocals
  have happ : (headSpec ws rm).appliesLoose y e.platform (U.calling g mk a) = true :=
    Spec.appliesLoose_calling (g := g) h hdg hn hkY hinitY
      (X.room_calling (g := g) (R' := (headSpec ws rm).room) hsize hmY hcY hframes (by rw [hlY]; omega) h4 h5) h1
  obtain ⟨mid, hmid⟩ := h.above
  have hfr : (U.setTop g).frames = (.java g :: mid) ++ below := by rw [State.frames_setTop' g h.top, hmid]; rfl
  obtain ⟨o, s₂, hsteps, -, hend, hq⟩ := Steps.callFree hM p X.admits X.cas X.clock (acts := []) hfr happ hPc trivial
  have hq' : vx_Q Qc XC mc ms free a (U.calling g mk a) o s₂ := hq
  rw [State.frames_setTop' g h.top] at hend
  obtain ⟨g₀, hg0⟩ := Option.isSome_iff_exists.mp h.top
  obtain ⟨r, hr⟩ := State.topJava?_eq_some.mp hg0
  have hr' : (({ U with heap := s₂.heap, slotsUsed := s₂.slotsUsed } : State).setVm s₂.vm).frames = .java g₀ :: r := hr
  rcases hq' with ⟨hqc, L, hfe, hL⟩ | ⟨q, rfl, E, ce, L, hx, hce, hcv, hcl, hW₂, hsm, hL⟩
  · obtain ⟨⟨v, rfl⟩, hW₂, e2, q2, q3, q4, q5, q6⟩ := id hfe
    have e3 : s₂ = ({ (U.calling g mk a).setFrames s₂.frames with heap := s₂.heap, slotsUsed := s₂.slotsUsed } : State).setVm s₂.vm := by
      have : s₂ = ({ s₂ with vm := (U.calling g mk a).vm } : State).setVm s₂.vm := rfl
      rw [e2] at this
      exact this
    obtain ⟨c₂, i₂, len₂, hc₂, hd₂, hf₂⟩ := hend
    have hW' : U.WarmedH s₂.vm := hW₂
    have hcc : c₂ = c := by
      have h1 : s₂.code? g.method = U.code? g.method := by
        rw [State.code?_eq, State.code?_eq, hW'.alike.method?]
      exact Option.some.inj (hc₂.symm.trans (h1.trans h.code))
    subst hcc
    have hlen : len₂ = len := by rw [hdg] at hd₂; cases hd₂; rfl
    subst hlen
    have hs₂ : s₂ = (({ U with heap := s₂.heap, slotsUsed := s₂.slotsUsed } : State).setVm s₂.vm).setTop { g with pc := g.pc + len₂, stack := v.toList ++ g.stack } := by
      refine e3.trans ?_
      rw [hf₂, State.calling_eq h.top, State.setFrames_setFrames, State.setTop_of_frames _ hr', hr]
      rfl
    have hsame : U.sameButNew ({ U with heap := s₂.heap, slotsUsed := s₂.slotsUsed } : State) L mc ms := by
      refine ⟨?_, q2, q3, q4, q5, q6⟩
      obtain ⟨t, ht, -⟩ := State.frames_cons hr
      show ({ U with heap := s₂.heap, slotsUsed := s₂.slotsUsed } : State) = { U.setFrames U.frames with heap := s₂.heap, slotsUsed := s₂.slotsUsed }
      rw [State.setFrames_self ht]
    subst hg
    refine Or.inl ⟨v, ⟨(({ U with heap := s₂.heap, slotsUsed := s₂.slotsUsed } : State).setVm s₂.vm), Ls ++ L, c0 + mc, s0 + ms⟩,
      ⟨X.admits, X.cas, X.clock, X.frames, X.room, X.hears, X.method, X.code, (X.here.setHeapUsed s₂.heap s₂.slotsUsed).setVm hW'.alike, X.tail, State.WarmedH.trans X.warmed hW', X.limits, X.bytes, X.same.trans (hsame.setVm s.vm)⟩,
      ⟨g, mk, s₂, L, rfl, rfl, hqc, rfl, hL, rfl, rfl⟩, ?_⟩
    show Steps p.tables e below _ ((({ U with heap := s₂.heap, slotsUsed := s₂.slotsUsed } : State).setVm s₂.vm).setTop { g with pc := g.pc + len₂, stack := v.toList ++ g.stack })
    rw [← hs₂]
    exact hsteps
  · obtain ⟨e2, q2, q3, q4, q5, q6⟩ := id hsm
    have e3 : s₂ = ({ (U.calling g mk a).setFrames s₂.frames with heap := s₂.heap, slotsUsed := s₂.slotsUsed } : State).setVm s₂.vm := by
      have : s₂ = ({ s₂ with vm := (U.calling g mk a).vm } : State).setVm s₂.vm := rfl
      rw [e2] at this
      exact this
    have hf₂ : s₂.frames = .throwing q :: .java g :: U.frames.tail := hend
    have hW' : U.WarmedH s₂.vm := hW₂
    have hs₂ : s₂ = ((({ U with heap := s₂.heap, slotsUsed := s₂.slotsUsed } : State).setVm s₂.vm).setTop g).pushFrame (.throwing q) := by
      refine e3.trans ?_
      rw [hf₂, State.calling_eq h.top, State.setFrames_setFrames, State.pushFrame, State.frames_setTop _ hr', State.setTop_of_frames _ hr', State.setFrames_setFrames, hr]
      rfl
    have hsame : U.sameButNew ({ U with heap := s₂.heap, slotsUsed := s₂.slotsUsed } : State) L mc ms := by
      refine ⟨?_, q2, q3, q4, q5, q6⟩
      obtain ⟨t, ht, -⟩ := State.frames_cons hr
      show ({ U with heap := s₂.heap, slotsUsed := s₂.slotsUsed } : State) = { U.setFrames U.frames with heap := s₂.heap, slotsUsed := s₂.slotsUsed }
      rw [State.setFrames_self ht]
    subst hg
    refine Or.inr ⟨q, ⟨(({ U with heap := s₂.heap, slotsUsed := s₂.slotsUsed } : State).setVm s₂.vm), Ls ++ L, c0 + mc, s0 + ms⟩,
      ⟨X.admits, X.cas, X.clock, X.frames, X.room, X.hears, X.method, X.code, (X.here.setHeapUsed s₂.heap s₂.slotsUsed).setVm hW'.alike, X.tail, State.WarmedH.trans X.warmed hW', X.limits, X.bytes, X.same.trans (hsame.setVm s.vm)⟩,
      ⟨g, mk, s₂, L, E, ce, rfl, rfl, hx, hce, hcv, hcl, rfl, hL, rfl, rfl⟩, ?_⟩
    show Steps p.tables e below _ (((({ U with heap := s₂.heap, slotsUsed := s₂.slotsUsed } : State).setVm s₂.vm).setTop g).pushFrame (.throwing q))
    rw [← hs₂]
    exact hsteps
end Payer
section Calls
variable {p : Program} {l : Launch} {e : Env} {R : Room} {s : State} {m : MethodId} {args : Array Value} {below : List Frame} {meth : Method} {c : Code} {T : State} {locs : List Loc} {cells slots : Nat}
theorem vx_callV (X : Stand p l e R s m args below meth c T locs cells slots) (hexec : p.tables.exec = Jvm.exec) {own C : String} {index : Nat} {y : MethodName} {bytes : ByteArray} {maxL : Nat} {ret : Option FieldType}
    (hown : s.vm.findClass own = some m.cls) (hlink : (Cond.methodLink own index y).before args s = true) (hinst : (Cond.instanceMethod y).before args s = true) (hsel : (Cond.selects C y y).before args s = true)
    (hcode : (Cond.code y bytes maxL ret).before args s = true) (hy : y.cls ≠ "java/lang/invoke/MethodHandle" ∧ y.cls ≠ "java/lang/invoke/VarHandle")
    {W9 : Nat} {Pre : Pt → Array Value → Prop} {Post : Pt → Array Value → Option Value → Pt → Prop} {PostX : Pt → Array Value → Addr → Pt → Prop} (hK : vx_Back l R p e below s args y 3 W9 Pre Post PostX)
    {b : Addr} {cellB : Cell} (hcell : T.heap[b]? = some cellB) (hobj : cellB.vm.isStatics = false) (hcls : s.vm.findClass C = some cellB.cls)
    {g : JFrame} (hg : g.method = m) (hsize : g.locals.size = c.maxLocals) {argsL rest : List Value} (hlen : ∀ sig, parseMethodDescriptor y.desc = some sig → argsL.length = sig.parameters.length)
    (hstack : g.stack = argsL.reverse ++ .ref b :: rest) (hW : 2 * g.monitorRoom + (rest.map fun v => v.category).sum ≤ W9) (hdg : decode c.code g.pc = .ok (.invokevirtual index, 3))
    (hpre : ∀ vm₁, s.WarmedH vm₁ → Pre ⟨T.setVm vm₁, locs, cells, slots⟩ (Value.ref b :: argsL).toArray) :
    (∃ (v : Option Value) (vm₁ : Vm) (B : Pt), s.WarmedH vm₁ ∧ Stand p l e R s m args below meth c B.U B.locs B.cells B.slots ∧ Post ⟨T.setVm vm₁, locs, cells, slots⟩ (Value.ref b :: argsL).toArray v B ∧
      ∀ target, Steps p.tables e below (B.U.setTop { g with pc := g.pc + 3, stack := v.toList ++ rest }) target → Steps p.tables e below (T.setTop g) target) ∨
    (∃ (q : Addr) (vm₁ : Vm) (B : Pt), s.WarmedH vm₁ ∧ Stand p l e R s m args below meth c B.U B.locs B.cells B.slots ∧ PostX ⟨T.setVm vm₁, locs, cells, slots⟩ (Value.ref b :: argsL).toArray q B ∧
      Steps p.tables e below (T.setTop g) ((B.U.setTop { g with stack := rest }).pushFrame (.throwing q))) := by
  obtain ⟨mk, methM, hnamed, hmethM, hstM, habM⟩ := Cond.instanceMethod_spec hinst
  obtain ⟨methM', cM, hmethM', -, -, -, -, -, -, hsigM⟩ := Cond.code_spec hnamed hcode
  cases hmethM.symm.trans hmethM'
  obtain ⟨c2, r2, m2, q1, q2, q3, q4, kP, hkP, hkPi⟩ := Cond.selects_spec hsel
  cases hcls.symm.trans q1
  cases (State.methodFound?_of_named hnamed hy).symm.trans q2
  cases hnamed.symm.trans q3
  have hselP : selectMethod e.platform s.vm cellB.cls mk = .method mk := by rw [Launch.admits_selectMethod X.admits]; exact q4
  obtain ⟨vm₁, X₁, hstep₁⟩ := X.invokevirtual hexec hown hlink hnamed hmethM hstM hkP hkPi hy (a := b) (cell := cellB) hcell
    (fun z h => by rw [h] at hobj; cases hobj) hselP hmethM habM hkP hkPi (g := g) hg (argsL := argsL) (rest := rest) (hlen _ hsigM) hstack hdg
  rcases hK m meth c ⟨T.setVm vm₁, locs, cells, slots⟩ { g with stack := rest } (.invokevirtual index) mk (Value.ref b :: argsL).toArray X₁ hg hsize hdg hW (X₁.named hnamed) (hpre vm₁ X₁.warmed) with ⟨v, B, X', hpost, hsteps⟩ | ⟨q, B, X', hpost, hsteps⟩
  · exact Or.inl ⟨v, vm₁, B, X₁.warmed, X', hpost, fun target h => hstep₁ _ fun acts => by rw [doInvoke_state]; exact hsteps.trans h⟩
  · exact Or.inr ⟨q, vm₁, B, X₁.warmed, X', hpost, hstep₁ _ fun acts => by rw [doInvoke_state]; exact hsteps⟩
theorem vx_callS (X : Stand p l e R s m args below meth c T locs cells slots) (hexec : p.tables.exec = Jvm.exec) {own : String} {index : Nat} {y : MethodName} {bytes : ByteArray} {maxL : Nat} {ret : Option FieldType}
    (hown : s.vm.findClass own = some m.cls) (hlink : (Cond.methodLink own index y).before args s = true) (hstat : (Cond.static y).before args s = true) (hinit : (Cond.initialized y.cls).before args s = true)
    (hcode : (Cond.code y bytes maxL ret).before args s = true) (hy : y.cls ≠ "java/lang/invoke/MethodHandle" ∧ y.cls ≠ "java/lang/invoke/VarHandle")
    {W9 : Nat} {Pre : Pt → Array Value → Prop} {Post : Pt → Array Value → Option Value → Pt → Prop} {PostX : Pt → Array Value → Addr → Pt → Prop} (hK : vx_Back l R p e below s args y 3 W9 Pre Post PostX)
    {g : JFrame} (hg : g.method = m) (hsize : g.locals.size = c.maxLocals) {argsL rest : List Value} (hlen : ∀ sig, parseMethodDescriptor y.desc = some sig → argsL.length = sig.parameters.length)
    (hstack : g.stack = argsL.reverse ++ rest) (hW : 2 * g.monitorRoom + (rest.map fun v => v.category).sum ≤ W9) (hdg : decode c.code g.pc = .ok (.invokestatic index, 3))
    (hpre : ∀ vm₁, s.WarmedH vm₁ → Pre ⟨T.setVm vm₁, locs, cells, slots⟩ argsL.toArray) :
    (∃ (v : Option Value) (vm₁ : Vm) (B : Pt), s.WarmedH vm₁ ∧ Stand p l e R s m args below meth c B.U B.locs B.cells B.slots ∧ Post ⟨T.setVm vm₁, locs, cells, slots⟩ argsL.toArray v B ∧
      ∀ target, Steps p.tables e below (B.U.setTop { g with pc := g.pc + 3, stack := v.toList ++ rest }) target → Steps p.tables e below (T.setTop g) target) ∨
    (∃ (q : Addr) (vm₁ : Vm) (B : Pt), s.WarmedH vm₁ ∧ Stand p l e R s m args below meth c B.U B.locs B.cells B.slots ∧ PostX ⟨T.setVm vm₁, locs, cells, slots⟩ argsL.toArray q B ∧
      Steps p.tables e below (T.setTop g) ((B.U.setTop { g with stack := rest }).pushFrame (.throwing q))) := by
  obtain ⟨mk, hnamed⟩ := Cond.code_named hcode
  obtain ⟨methM, cM, hmethM, -, -, -, -, -, -, hsigM⟩ := Cond.code_spec hnamed hcode
  have hstatic : methM.isStatic = true := Cond.static_spec hnamed hmethM hstat
  obtain ⟨kP, hkP, -⟩ := className_of_methodNamed hnamed
  have hinitP : kP.init = .initialized := Cond.initialized_spec (findClass_of_methodNamed hnamed) hkP hinit
  obtain ⟨vm₁, X₁, hstep₁⟩ := X.invokestatic hexec hown hlink hnamed hmethM hstatic hkP hinitP hy (g := g) hg (argsL := argsL) (rest := rest) (hlen _ hsigM) hstack hdg
  rcases hK m meth c ⟨T.setVm vm₁, locs, cells, slots⟩ { g with stack := rest } (.invokestatic index) mk argsL.toArray X₁ hg hsize hdg hW (X₁.named hnamed) (hpre vm₁ X₁.warmed) with ⟨v, B, X', hpost, hsteps⟩ | ⟨q, B, X', hpost, hsteps⟩
  · exact Or.inl ⟨v, vm₁, B, X₁.warmed, X', hpost, fun target h => hstep₁ _ fun acts => by rw [doInvoke_state]; exact hsteps.trans h⟩
  · exact Or.inr ⟨q, vm₁, B, X₁.warmed, X', hpost, hstep₁ _ fun acts => by rw [doInvoke_state]; exact hsteps⟩
end Calls
theorem vx_cls {s : State} {T : State} {vm₁ : Vm} {E : String} {k : ClassId} (hW : s.WarmedH vm₁) (h : (T.setVm vm₁).vm.findClass E = some k) : s.vm.findClass E = some k := by
  have h1 : vm₁.findClass E = some k := h
  rw [hW.alike.findClass] at h1
  exact h1
/-- the method's frame g, with q thrown over it -/
def vx_W (p : Program) (l : Launch) (e : Env) (R : Room) (s : State) (m : MethodId) (args : Array Value) (below : List Frame) (meth : Method) (c : Code) (H : Heap) (locs : List Loc) (cells slots : Nat) (Q : State → Prop) (g : JFrame) (q : Addr) : Prop :=
  ∀ T : State, T.heap = H → Stand p l e R s m args below meth c T locs cells slots → ∃ t, Steps p.tables e below ((T.setTop g).pushFrame (.throwing q)) t ∧ Q t
def vx_Run (p : Program) (l : Launch) (e : Env) (R : Room) (s : State) (m : MethodId) (args : Array Value) (below : List Frame) (meth : Method) (c : Code) (H : Heap) (locs : List Loc) (cells slots mc ms : Nat) (g : JFrame) (rest : List Value) (Qa : State → Outcome → State → Prop) (XC : String → State → State → Prop) (free : Addr → Prop) : Prop :=
  ∀ T : State, T.heap = H → Stand p l e R s m args below meth c T locs cells slots →
    (∃ (v : Option Value) (st₀ t T' : State) (L : List Loc), st₀.heap = H ∧ Stand p l e R s m args below meth c T' (locs ++ L) (cells + mc) (slots + ms) ∧ (∀ q ∈ L, free q.base) ∧ T'.heap = t.heap ∧ T'.vm = t.vm ∧ Qa st₀ (.returned v) t ∧
      Goes p e below T g T' { g with pc := g.pc + 3, stack := v.toList ++ rest }) ∨
    (∃ (q : Addr) (st₀ t T' : State) (L : List Loc) (E : String) (ce : Cell), st₀.heap = H ∧ Stand p l e R s m args below meth c T' (locs ++ L) (cells + mc) (slots + ms) ∧ (∀ z ∈ L, free z.base) ∧ T'.heap = t.heap ∧ T'.vm = t.vm ∧ XC E st₀ t ∧ t.heap[q]? = some ce ∧ ce.vm = .none ∧ s.vm.findClass E = some ce.cls ∧
      Steps p.tables e below (T.setTop g) ((T'.setTop { g with stack := rest }).pushFrame (.throwing q)))
def vx_X {S : Type} (px : S → Prop) (B : String → S → State → Prop) (A : Nat → Prop) : String → State → State → Prop := fun E st t => ∃ u : S, px u ∧ B E u t ∧ va_F A st t
section Runs
variable {p : Program} {l : Launch} {e : Env} {R : Room} {s : State} {m : MethodId} {args : Array Value} {below : List Frame} {meth : Method} {c : Code} {H : Heap} {locs : List Loc} {cells slots : Nat}
variable {y : MethodName} {bytes cc : ByteArray} {maxL nL mc ms n index : Nat} {ret : Option FieldType} {ws : List Cond} {rm : Room} {Pc : Array Value → State → Prop} {Qc : Array Value → State → Outcome → State → Prop} {XC : String → State → State → Prop} {free : Addr → Prop} {Ts : List Cond} {own C : String} {b : Addr} {As rest : List Value} {g : JFrame}
theorem vx_callBack (cb : CallB R s args own index y bytes maxL ret ws rm mc ms n) (hM : vx_Met l y ws rm Pc Qc XC mc ms free) (hbl : FrameBlind Pc) : vx_Back l R p e below s args y 3 8 (PreOf R mc ms Pc) (PostOf Qc mc ms free) (vx_Post XC mc ms free) := by
  obtain ⟨hrc, hrs, hfr, hlo, hws, hcw, -, hini, -⟩ := cb
  exact vx_back (bytes := bytes) (maxL := maxL) (ret := ret) hM hbl hrc hrs hfr hlo hws hcw (fun a' U hW => word_at hW (Or.inl (by first | rfl | simp [Cond.onTables, Cond.keeps, Cond.steady])) hini)
theorem vx_runV (S : CallFix p m c cc nL s args Ts own) (hM : vx_Met l y ws rm Pc Qc XC mc ms free) (cw : CallW R s args own C index y bytes maxL ret ws rm mc ms n) (hp : PreV s H C b Pc As)
    (hg : g.method = m) (hn : As.length = n) (hsize : g.locals.size = nL) (hstack : g.stack = As.reverse ++ .ref b :: rest) (hW : 2 * g.monitorRoom + (rest.map fun v => v.category).sum ≤ 8) (hdg : decode cc g.pc = .ok (.invokevirtual index, 3)) (hf : cells + mc ≤ R.cells ∧ slots + ms ≤ R.slots) :
    vx_Run p l e R s m args below meth c H locs cells slots mc ms g rest (Qc (Value.ref b :: As).toArray) XC free := by
  have hK : vx_Back l R p e below s args y 3 8 (PreOf R mc ms Pc) (PostOf Qc mc ms free) (vx_Post XC mc ms free) := vx_callBack cw.1 hM hp.1
  obtain ⟨⟨-, -, -, -, -, -, hcode, -, hy, hlen, hl⟩, hin, hse⟩ := cw
  obtain ⟨hx, hb, hml, ho, -⟩ := S
  obtain ⟨-, ⟨cellB, hcB, hoB, hclB⟩, hPc⟩ := hp
  intro T hT X
  rcases vx_callV X hx (C := C) (bytes := bytes) (maxL := maxL) (ret := ret) ho hl hin hse hcode hy hK (by rw [hT]; exact hcB) hoB hclB hg (hsize.trans hml.symm) (argsL := As) (rest := rest) (fun sig h => hn.trans (hlen sig h)) hstack hW (by rw [hb]; exact hdg)
    (fun vm₁ hW₁ => ⟨hf.1, hf.2, hPc (T.setVm vm₁) hT hW₁⟩) with ⟨v, vm₁, ⟨U', l2, c2, s2⟩, hW₁, X', ⟨g', mk, t, L, e1, e2, hq, h1, hL, h2, h3⟩, st⟩ | ⟨q, vm₁, ⟨U', l2, c2, s2⟩, hW₁, X', ⟨g', mk, t, L, E, ce, e1, e2, hq, hce, hcv, hcl, h1, hL, h2, h3⟩, st⟩
  · dsimp only [Pt.U, Pt.locs, Pt.cells, Pt.slots] at X' e1 e2 h1 h2 h3 st
    subst h1; subst h2; subst h3
    exact Or.inl ⟨v, (T.setVm vm₁).calling g' mk (Value.ref b :: As).toArray, t, U', L, hT, X', hL, e1, e2, hq, st⟩
  · dsimp only [Pt.U, Pt.locs, Pt.cells, Pt.slots] at X' e1 e2 h1 h2 h3 st hcl
    subst h1; subst h2; subst h3
    exact Or.inr ⟨q, (T.setVm vm₁).calling g' mk (Value.ref b :: As).toArray, t, U', L, E, ce, hT, X', hL, e1, e2, hq, hce, hcv, vx_cls hW₁ hcl, st⟩
theorem vx_runS (S : CallFix p m c cc nL s args Ts own) (hM : vx_Met l y ws rm Pc Qc XC mc ms free) (cw : CallB R s args own index y bytes maxL ret ws rm mc ms n ∧ (Cond.static y).before args s = true) (hp : PreS s H Pc As)
    (hg : g.method = m) (hn : As.length = n) (hsize : g.locals.size = nL) (hstack : g.stack = As.reverse ++ rest) (hW : 2 * g.monitorRoom + (rest.map fun v => v.category).sum ≤ 8) (hdg : decode cc g.pc = .ok (.invokestatic index, 3)) (hf : cells + mc ≤ R.cells ∧ slots + ms ≤ R.slots) :
    vx_Run p l e R s m args below meth c H locs cells slots mc ms g rest (Qc As.toArray) XC free := by
  have hK : vx_Back l R p e below s args y 3 8 (PreOf R mc ms Pc) (PostOf Qc mc ms free) (vx_Post XC mc ms free) := vx_callBack cw.1 hM hp.1
  obtain ⟨⟨-, -, -, -, -, -, hcode, hini, hy, hlen, hl⟩, hstt⟩ := cw
  obtain ⟨hx, hb, hml, ho, -⟩ := S
  intro T hT X
  rcases vx_callS X hx (bytes := bytes) (maxL := maxL) (ret := ret) ho hl hstt hini hcode hy hK hg (hsize.trans hml.symm) (argsL := As) (rest := rest) (fun sig h => hn.trans (hlen sig h)) hstack hW (by rw [hb]; exact hdg)
    (fun vm₁ hW₁ => ⟨hf.1, hf.2, hp.2 (T.setVm vm₁) hT hW₁⟩) with ⟨v, vm₁, ⟨U', l2, c2, s2⟩, hW₁, X', ⟨g', mk, t, L, e1, e2, hq, h1, hL, h2, h3⟩, st⟩ | ⟨q, vm₁, ⟨U', l2, c2, s2⟩, hW₁, X', ⟨g', mk, t, L, E, ce, e1, e2, hq, hce, hcv, hcl, h1, hL, h2, h3⟩, st⟩
  · dsimp only [Pt.U, Pt.locs, Pt.cells, Pt.slots] at X' e1 e2 h1 h2 h3 st
    subst h1; subst h2; subst h3
    exact Or.inl ⟨v, (T.setVm vm₁).calling g' mk As.toArray, t, U', L, hT, X', hL, e1, e2, hq, st⟩
  · dsimp only [Pt.U, Pt.locs, Pt.cells, Pt.slots] at X' e1 e2 h1 h2 h3 st hcl
    subst h1; subst h2; subst h3
    exact Or.inr ⟨q, (T.setVm vm₁).calling g' mk As.toArray, t, U', L, E, ce, hT, X', hL, e1, e2, hq, hce, hcv, vx_cls hW₁ hcl, st⟩
end Runs
section Rows
variable {p : Program} {l : Launch} {e : Env} {R : Room} {s : State} {m : MethodId} {args : Array Value} {below : List Frame} {meth : Method} {c : Code} {H : Heap} {locs : List Loc} {cells slots : Nat} {Q : State → Prop}
variable {mc ms : Nat} {free : Addr → Prop} {A0 A1 : Nat → Prop} {H0 : Heap} {a : Array Value} {pc : Nat} {ls : Array Slot} {st0 rest : List Value}
theorem vx_keep {st₀ t T' : State} {L : List Loc} (h0 : st₀.heap = H) (e1 : T'.heap = t.heap) (hS : va_S A0 H0 H locs) (hA : ∀ q, q < H.size → A1 q → A0 q) (hf : ∀ q, free q → A0 q) (hL : ∀ q ∈ L, free q.base) (hF : va_F A1 st₀ t) :
    H.size ≤ T'.heap.size ∧ (∀ q : Nat, q < H.size → ¬ A1 q → T'.heap[q]? = H[q]?) ∧ va_S A0 H0 T'.heap (locs ++ L) := by
  obtain ⟨hz, hk⟩ := hF
  rw [h0] at hz hk
  exact ⟨by rw [e1]; exact hz, fun q h1 h2 => by rw [e1]; exact hk q h1 h2,
    ⟨Nat.le_trans hS.1 (by rw [e1]; exact hz), fun q h1 h2 => by rw [e1, hk q (Nat.lt_of_lt_of_le h1 hS.1) (fun z => h2 (hA q (Nat.lt_of_lt_of_le h1 hS.1) z))]; exact hS.2.1 q h1 h2, fun q hq => by
      rcases List.mem_append.mp hq with h | h
      · exact hS.2.2 q h
      · exact hf _ (hL q h)⟩⟩
theorem vx_calli {S SX : Type} {post : Int32 → S → Prop} {px : SX → Prop} {B : S → State → Prop} {BX : String → SX → State → Prop} {AX : Nat → Prop} (hr : vx_Run p l e R s m args below meth c H locs cells slots mc ms (F0 m pc ls st0) rest (va_Qi post B A1 a) (vx_X px BX AX) free) (hS : va_S A0 H0 H locs) (hA : ∀ q, q < H.size → A1 q → A0 q) (hf : ∀ q, free q → A0 q) (hAX : ∀ q, q < H.size → AX q → A0 q)
    (kx : ∀ (E : String) (ce : Cell) (q9 : Addr) (u : SX) (t : State) (H1 : Heap) (locs1 : List Loc), t.heap = H1 → s.vm.Alike t.vm → px u → BX E u t → H.size ≤ H1.size → (∀ q : Nat, q < H.size → ¬ AX q → H1[q]? = H[q]?) → va_S A0 H0 H1 locs1 → H1[q9]? = some ce → ce.vm = .none → s.vm.findClass E = some ce.cls → vx_W p l e R s m args below meth c H1 locs1 (cells + mc) (slots + ms) Q (F0 m pc ls rest) q9)
    (kk : ∀ (r : Int32) (u : S) (t : State) (H1 : Heap) (locs1 : List Loc), t.heap = H1 → s.vm.Alike t.vm → post r u → B u t → H.size ≤ H1.size → (∀ q : Nat, q < H.size → ¬ A1 q → H1[q]? = H[q]?) → va_S A0 H0 H1 locs1 → W p l e R s m args below meth c H1 locs1 (cells + mc) (slots + ms) Q (F0 m (pc + 3) ls (.int r :: rest))) : W p l e R s m args below meth c H locs cells slots Q (F0 m pc ls st0) := by
  intro T hT X
  rcases hr T hT X with ⟨v, st₀, t, T', L, h0, X', hL, e1, e2, ⟨⟨r, u, hv, hp, hb⟩, hF⟩, st⟩ | ⟨q, st₀, t, T', L, E, ce, h0, X', hL, e1, e2, ⟨u, hp, hb, hF⟩, hce, hcv, hcl, st⟩
  · cases hv
    obtain ⟨k1, k2, k3⟩ := vx_keep h0 e1 hS hA hf hL hF
    obtain ⟨t2, a1, b1⟩ := kk r u t T'.heap (locs ++ L) e1.symm (by rw [← e2]; exact X'.warmed.alike) hp hb k1 k2 k3 T' rfl X'
    exact ⟨t2, st t2 a1, b1⟩
  · obtain ⟨k1, k2, k3⟩ := vx_keep h0 e1 hS hAX hf hL hF
    obtain ⟨t2, a1, b1⟩ := kx E ce q u t T'.heap (locs ++ L) e1.symm (by rw [← e2]; exact X'.warmed.alike) hp hb k1 k2 k3 (by rw [e1]; exact hce) hcv hcl T' rfl X'
    exact ⟨t2, st.trans a1, b1⟩
theorem vx_calll {S SX : Type} {post : Int64 → S → Prop} {px : SX → Prop} {B : S → State → Prop} {BX : String → SX → State → Prop} {AX : Nat → Prop} (hr : vx_Run p l e R s m args below meth c H locs cells slots mc ms (F0 m pc ls st0) rest (va_Ql post B A1 a) (vx_X px BX AX) free) (hS : va_S A0 H0 H locs) (hA : ∀ q, q < H.size → A1 q → A0 q) (hf : ∀ q, free q → A0 q) (hAX : ∀ q, q < H.size → AX q → A0 q)
    (kx : ∀ (E : String) (ce : Cell) (q9 : Addr) (u : SX) (t : State) (H1 : Heap) (locs1 : List Loc), t.heap = H1 → s.vm.Alike t.vm → px u → BX E u t → H.size ≤ H1.size → (∀ q : Nat, q < H.size → ¬ AX q → H1[q]? = H[q]?) → va_S A0 H0 H1 locs1 → H1[q9]? = some ce → ce.vm = .none → s.vm.findClass E = some ce.cls → vx_W p l e R s m args below meth c H1 locs1 (cells + mc) (slots + ms) Q (F0 m pc ls rest) q9)
    (kk : ∀ (r : Int64) (u : S) (t : State) (H1 : Heap) (locs1 : List Loc), t.heap = H1 → s.vm.Alike t.vm → post r u → B u t → H.size ≤ H1.size → (∀ q : Nat, q < H.size → ¬ A1 q → H1[q]? = H[q]?) → va_S A0 H0 H1 locs1 → W p l e R s m args below meth c H1 locs1 (cells + mc) (slots + ms) Q (F0 m (pc + 3) ls (.long r :: rest))) : W p l e R s m args below meth c H locs cells slots Q (F0 m pc ls st0) := by
  intro T hT X
  rcases hr T hT X with ⟨v, st₀, t, T', L, h0, X', hL, e1, e2, ⟨⟨r, u, hv, hp, hb⟩, hF⟩, st⟩ | ⟨q, st₀, t, T', L, E, ce, h0, X', hL, e1, e2, ⟨u, hp, hb, hF⟩, hce, hcv, hcl, st⟩
  · cases hv
    obtain ⟨k1, k2, k3⟩ := vx_keep h0 e1 hS hA hf hL hF
    obtain ⟨t2, a1, b1⟩ := kk r u t T'.heap (locs ++ L) e1.symm (by rw [← e2]; exact X'.warmed.alike) hp hb k1 k2 k3 T' rfl X'
    exact ⟨t2, st t2 a1, b1⟩
  · obtain ⟨k1, k2, k3⟩ := vx_keep h0 e1 hS hAX hf hL hF
    obtain ⟨t2, a1, b1⟩ := kx E ce q u t T'.heap (locs ++ L) e1.symm (by rw [← e2]; exact X'.warmed.alike) hp hb k1 k2 k3 (by rw [e1]; exact hce) hcv hcl T' rfl X'
    exact ⟨t2, st.trans a1, b1⟩
theorem vx_callf {S SX : Type} {post : UInt32 → S → Prop} {px : SX → Prop} {B : S → State → Prop} {BX : String → SX → State → Prop} {AX : Nat → Prop} (hr : vx_Run p l e R s m args below meth c H locs cells slots mc ms (F0 m pc ls st0) rest (va_Qf post B A1 a) (vx_X px BX AX) free) (hS : va_S A0 H0 H locs) (hA : ∀ q, q < H.size → A1 q → A0 q) (hf : ∀ q, free q → A0 q) (hAX : ∀ q, q < H.size → AX q → A0 q)
    (kx : ∀ (E : String) (ce : Cell) (q9 : Addr) (u : SX) (t : State) (H1 : Heap) (locs1 : List Loc), t.heap = H1 → s.vm.Alike t.vm → px u → BX E u t → H.size ≤ H1.size → (∀ q : Nat, q < H.size → ¬ AX q → H1[q]? = H[q]?) → va_S A0 H0 H1 locs1 → H1[q9]? = some ce → ce.vm = .none → s.vm.findClass E = some ce.cls → vx_W p l e R s m args below meth c H1 locs1 (cells + mc) (slots + ms) Q (F0 m pc ls rest) q9)
    (kk : ∀ (r : UInt32) (u : S) (t : State) (H1 : Heap) (locs1 : List Loc), t.heap = H1 → s.vm.Alike t.vm → post r u → B u t → H.size ≤ H1.size → (∀ q : Nat, q < H.size → ¬ A1 q → H1[q]? = H[q]?) → va_S A0 H0 H1 locs1 → W p l e R s m args below meth c H1 locs1 (cells + mc) (slots + ms) Q (F0 m (pc + 3) ls (.float r :: rest))) : W p l e R s m args below meth c H locs cells slots Q (F0 m pc ls st0) := by
  intro T hT X
  rcases hr T hT X with ⟨v, st₀, t, T', L, h0, X', hL, e1, e2, ⟨⟨r, u, hv, hp, hb⟩, hF⟩, st⟩ | ⟨q, st₀, t, T', L, E, ce, h0, X', hL, e1, e2, ⟨u, hp, hb, hF⟩, hce, hcv, hcl, st⟩
  · cases hv
    obtain ⟨k1, k2, k3⟩ := vx_keep h0 e1 hS hA hf hL hF
    obtain ⟨t2, a1, b1⟩ := kk r u t T'.heap (locs ++ L) e1.symm (by rw [← e2]; exact X'.warmed.alike) hp hb k1 k2 k3 T' rfl X'
    exact ⟨t2, st t2 a1, b1⟩
  · obtain ⟨k1, k2, k3⟩ := vx_keep h0 e1 hS hAX hf hL hF
    obtain ⟨t2, a1, b1⟩ := kx E ce q u t T'.heap (locs ++ L) e1.symm (by rw [← e2]; exact X'.warmed.alike) hp hb k1 k2 k3 (by rw [e1]; exact hce) hcv hcl T' rfl X'
    exact ⟨t2, st.trans a1, b1⟩
theorem vx_calld {S SX : Type} {post : UInt64 → S → Prop} {px : SX → Prop} {B : S → State → Prop} {BX : String → SX → State → Prop} {AX : Nat → Prop} (hr : vx_Run p l e R s m args below meth c H locs cells slots mc ms (F0 m pc ls st0) rest (va_Qd post B A1 a) (vx_X px BX AX) free) (hS : va_S A0 H0 H locs) (hA : ∀ q, q < H.size → A1 q → A0 q) (hf : ∀ q, free q → A0 q) (hAX : ∀ q, q < H.size → AX q → A0 q)
    (kx : ∀ (E : String) (ce : Cell) (q9 : Addr) (u : SX) (t : State) (H1 : Heap) (locs1 : List Loc), t.heap = H1 → s.vm.Alike t.vm → px u → BX E u t → H.size ≤ H1.size → (∀ q : Nat, q < H.size → ¬ AX q → H1[q]? = H[q]?) → va_S A0 H0 H1 locs1 → H1[q9]? = some ce → ce.vm = .none → s.vm.findClass E = some ce.cls → vx_W p l e R s m args below meth c H1 locs1 (cells + mc) (slots + ms) Q (F0 m pc ls rest) q9)
    (kk : ∀ (r : UInt64) (u : S) (t : State) (H1 : Heap) (locs1 : List Loc), t.heap = H1 → s.vm.Alike t.vm → post r u → B u t → H.size ≤ H1.size → (∀ q : Nat, q < H.size → ¬ A1 q → H1[q]? = H[q]?) → va_S A0 H0 H1 locs1 → W p l e R s m args below meth c H1 locs1 (cells + mc) (slots + ms) Q (F0 m (pc + 3) ls (.double r :: rest))) : W p l e R s m args below meth c H locs cells slots Q (F0 m pc ls st0) := by
  intro T hT X
  rcases hr T hT X with ⟨v, st₀, t, T', L, h0, X', hL, e1, e2, ⟨⟨r, u, hv, hp, hb⟩, hF⟩, st⟩ | ⟨q, st₀, t, T', L, E, ce, h0, X', hL, e1, e2, ⟨u, hp, hb, hF⟩, hce, hcv, hcl, st⟩
  · cases hv
    obtain ⟨k1, k2, k3⟩ := vx_keep h0 e1 hS hA hf hL hF
    obtain ⟨t2, a1, b1⟩ := kk r u t T'.heap (locs ++ L) e1.symm (by rw [← e2]; exact X'.warmed.alike) hp hb k1 k2 k3 T' rfl X'
    exact ⟨t2, st t2 a1, b1⟩
  · obtain ⟨k1, k2, k3⟩ := vx_keep h0 e1 hS hAX hf hL hF
    obtain ⟨t2, a1, b1⟩ := kx E ce q u t T'.heap (locs ++ L) e1.symm (by rw [← e2]; exact X'.warmed.alike) hp hb k1 k2 k3 (by rw [e1]; exact hce) hcv hcl T' rfl X'
    exact ⟨t2, st.trans a1, b1⟩
theorem vx_callv {S SX : Type} {post : S → Prop} {px : SX → Prop} {B : S → State → Prop} {BX : String → SX → State → Prop} {AX : Nat → Prop} (hr : vx_Run p l e R s m args below meth c H locs cells slots mc ms (F0 m pc ls st0) rest (va_Qv post B A1 a) (vx_X px BX AX) free) (hS : va_S A0 H0 H locs) (hA : ∀ q, q < H.size → A1 q → A0 q) (hf : ∀ q, free q → A0 q) (hAX : ∀ q, q < H.size → AX q → A0 q)
    (kx : ∀ (E : String) (ce : Cell) (q9 : Addr) (u : SX) (t : State) (H1 : Heap) (locs1 : List Loc), t.heap = H1 → s.vm.Alike t.vm → px u → BX E u t → H.size ≤ H1.size → (∀ q : Nat, q < H.size → ¬ AX q → H1[q]? = H[q]?) → va_S A0 H0 H1 locs1 → H1[q9]? = some ce → ce.vm = .none → s.vm.findClass E = some ce.cls → vx_W p l e R s m args below meth c H1 locs1 (cells + mc) (slots + ms) Q (F0 m pc ls rest) q9)
    (kk : ∀ (u : S) (t : State) (H1 : Heap) (locs1 : List Loc), t.heap = H1 → s.vm.Alike t.vm → post u → B u t → H.size ≤ H1.size → (∀ q : Nat, q < H.size → ¬ A1 q → H1[q]? = H[q]?) → va_S A0 H0 H1 locs1 → W p l e R s m args below meth c H1 locs1 (cells + mc) (slots + ms) Q (F0 m (pc + 3) ls (rest))) : W p l e R s m args below meth c H locs cells slots Q (F0 m pc ls st0) := by
  intro T hT X
  rcases hr T hT X with ⟨v, st₀, t, T', L, h0, X', hL, e1, e2, ⟨⟨u, hv, hp, hb⟩, hF⟩, st⟩ | ⟨q, st₀, t, T', L, E, ce, h0, X', hL, e1, e2, ⟨u, hp, hb, hF⟩, hce, hcv, hcl, st⟩
  · cases hv
    obtain ⟨k1, k2, k3⟩ := vx_keep h0 e1 hS hA hf hL hF
    obtain ⟨t2, a1, b1⟩ := kk u t T'.heap (locs ++ L) e1.symm (by rw [← e2]; exact X'.warmed.alike) hp hb k1 k2 k3 T' rfl X'
    exact ⟨t2, st t2 a1, b1⟩
  · obtain ⟨k1, k2, k3⟩ := vx_keep h0 e1 hS hAX hf hL hF
    obtain ⟨t2, a1, b1⟩ := kx E ce q u t T'.heap (locs ++ L) e1.symm (by rw [← e2]; exact X'.warmed.alike) hp hb k1 k2 k3 (by rw [e1]; exact hce) hcv hcl T' rfl X'
    exact ⟨t2, st.trans a1, b1⟩
end Rows
section Ends
variable {p : Program} {l : Launch} {e : Env} {R : Room} {s : State} {m : MethodId} {args : Array Value} {below : List Frame} {meth : Method} {c : Code} {H : Heap} {locs : List Loc} {cells slots : Nat} {Q : State → Prop}
variable {mc ms : Nat} {free : Addr → Prop} {A0 A1 : Nat → Prop} {H0 : Heap} {a : Array Value} {ls : Array Slot} {st0 rest : List Value}
variable {Qc : Array Value → State → Outcome → State → Prop} {XC : String → State → State → Prop}
/-- what a body that may throw owes at its end -/
def vx_MQ (below : List Frame) (Qc : Array Value → State → Outcome → State → Prop) (XC : String → State → State → Prop) (a : Array Value) (s : State) (mc ms : Nat) (free : Addr → Prop) : State → Prop := fun t =>
  ∃ o, t.status = .running ∧ Ended t below o ∧ vx_Q Qc XC mc ms free a s o t
theorem vx_ret {g : JFrame} {mc ms : Nat} (k : W p l e R s m args below meth c H locs cells slots (MQ below Qc args s mc ms free) g) : W p l e R s m args below meth c H locs cells slots (vx_MQ below Qc XC args s mc ms free) g := by
  intro T hT X
  obtain ⟨t, a1, o, b1, b2, b3, b4⟩ := k T hT X
  exact ⟨t, a1, o, b1, b2, Or.inl ⟨b3, b4⟩⟩
/-- not caught here: it goes on to the caller -/
theorem vx_widen {g : JFrame} {q : Addr} {k n : Nat} (h1 : cells ≤ k) (h2 : slots ≤ n) (kk : vx_W p l e R s m args below meth c H locs k n Q g q) : vx_W p l e R s m args below meth c H locs cells slots Q g q := fun T hT X => kk T hT (stand_widen X h1 h2)
theorem vx_out {pc : Nat} {E : String} {ce : Cell} {q : Addr} {mc ms : Nat} (hout : ∀ x ∈ c.exceptionTable.toList, covers x pc = false) (hlocks : meth.locks = false) (hcell : H[q]? = some ce) (hv : ce.vm = .none) (hcl : s.vm.findClass E = some ce.cls)
    (hx : ∀ t : State, t.heap = H → s.vm.Alike t.vm → XC E s t) (hf : ∀ z ∈ locs, free z.base) (hc : cells ≤ mc) (hs : slots ≤ ms) :
    vx_W p l e R s m args below meth c H locs cells slots (vx_MQ below Qc XC args s mc ms free) (F0 m pc ls rest) q := by
  intro T hT X
  obtain ⟨st1, hrun, hend, hW, hsm⟩ := X.leaveThrown q (g := F0 m pc ls rest) rfl rfl rfl hout hlocks
  have hcell9 : (T.setFrames (.throwing q :: below)).heap[q]? = some ce := by
    show T.heap[q]? = some ce
    rw [hT]; exact hcell
  exact ⟨_, st1, .threw q, hrun, hend, Or.inr ⟨q, rfl, E, ce, locs, hx _ hT hW.alike, hcell9, hv, hcl, hW, hsm.mono hc hs, hf⟩⟩
theorem vx_frame {U : State} {k n : Nat} (h : s.sameButNew ({ U with vm := s.vm } : State) locs k n) : s.heap.size ≤ U.heap.size ∧ ∀ q : Nat, q < s.heap.size → (∀ z ∈ locs, z.base ≠ q) → U.heap[q]? = s.heap[q]? := by
  obtain ⟨-, h2, -, -, -, h6⟩ := h
  refine ⟨h2, fun q hq hz => ?_⟩
  obtain ⟨c9, e1, e2, e3, e4⟩ := h6 q _ (Array.getElem?_eq_getElem hq)
  have hs : c9.slots = (s.heap[q]).slots := Array.ext_getElem? fun i => e4 i fun hm => hz _ hm rfl
  have h9 : c9 = s.heap[q] := by
    rw [hs] at e2
    exact e2
  have e5 : U.heap[q]? = some c9 := e1
  rw [e5, h9, Array.getElem?_eq_getElem hq]
/-- the words of a throw but the four that speak of the heap -/
def vx_no (w : Cond) : Bool := decide (w ≠ .isRef (.static Bundle.tN "UNASSIGNED_STACK" Bundle.steD)) && decide (w ≠ .isRef (.static Bundle.tN "SUPPRESSED_SENTINEL" Bundle.listD)) && decide (w ≠ .laysStatic Bundle.tN "UNASSIGNED_STACK" Bundle.steD) && decide (w ≠ .laysStatic Bundle.tN "SUPPRESSED_SENTINEL" Bundle.listD)
def vx_at0 (own : String) (ic : Nat) (X : String) (names : List String) : List Cond := (Bundle.ownAtoms0 own ic X names).filter vx_no
def vx_atS (own : String) (ic : Nat) (X : String) (names : List String) : List Cond := (Bundle.ownAtoms own ic X names).filter vx_no
/-- a word that the tables alone decide, or a good one -/
def vx_ot (w : Cond) : Bool := w.onTables || goodWord w
theorem vx_ot_at {args a' : Array Value} {s U : State} {w : Cond} (hW : s.WarmedH U.vm) (hvm : s.vm = U.vm) (hg : vx_ot w = true) (h : w.before args s = true) : w.before a' U = true := by
  simp only [vx_ot, Bool.or_eq_true] at hg
  rcases hg with hg | hg
  · exact va_tabs hg hvm h
  · exact word_at hW (good_of_word hg) h
/-- a list's words: the good ones out of the method's own list, the others by premises of their own -/
theorem vx_hat {args : Array Value} {s : State} {L B : List Cond} (h1 : ∀ w ∈ L.filter goodWord, w.before args s = true) (h2 : ∀ w ∈ L.filter (fun w => !goodWord w), w ∈ B) (h3 : ∀ w ∈ B, w.before args s = true) : ∀ w ∈ L, w.before args s = true := by
  intro w hw
  by_cases g : goodWord w = true
  · exact h1 w (List.mem_filter.mpr ⟨hw, g⟩)
  · refine h3 w (h2 w (List.mem_filter.mpr ⟨hw, ?_⟩))
    show (!goodWord w) = true
    cases hgw : goodWord w
    · rfl
    · exact absurd hgw g
theorem vx_c {args : Array Value} {s : State} {w : Cond} {B : List Cond} (h : w.before args s = true) (t : ∀ w ∈ B, w.before args s = true) : ∀ w' ∈ w :: B, w'.before args s = true := fun w' h' => (List.mem_cons.mp h').elim (fun e => by rw [e]; exact h) (t w')
theorem vx_n {args : Array Value} {s : State} : ∀ w ∈ ([] : List Cond), w.before args s = true := fun _ h => nomatch h
theorem vx_own {args : Array Value} {s : State} {L : List Cond} (h1 : ∀ w ∈ L.filter vx_no, w.before args s = true)
    (hU : (Cond.isRef (.static Bundle.tN "UNASSIGNED_STACK" Bundle.steD)).before args s = true) (hN : (Cond.isRef (.static Bundle.tN "SUPPRESSED_SENTINEL" Bundle.listD)).before args s = true)
    (lU : (Cond.laysStatic Bundle.tN "UNASSIGNED_STACK" Bundle.steD).before args s = true) (lN : (Cond.laysStatic Bundle.tN "SUPPRESSED_SENTINEL" Bundle.listD).before args s = true) : ∀ w ∈ L, w.before args s = true := by
  intro w hw
  by_cases e1 : w = .isRef (.static Bundle.tN "UNASSIGNED_STACK" Bundle.steD)
  · rw [e1]; exact hU
  · by_cases e2 : w = .isRef (.static Bundle.tN "SUPPRESSED_SENTINEL" Bundle.listD)
    · rw [e2]; exact hN
    · by_cases e3 : w = .laysStatic Bundle.tN "UNASSIGNED_STACK" Bundle.steD
      · rw [e3]; exact lU
      · by_cases e4 : w = .laysStatic Bundle.tN "SUPPRESSED_SENTINEL" Bundle.listD
        · rw [e4]; exact lN
        · exact h1 w (List.mem_filter.mpr ⟨hw, by unfold vx_no; rw [decide_eq_true e1, decide_eq_true e2, decide_eq_true e3, decide_eq_true e4]; rfl⟩)
/-- where a static field lies, its class's statics cell in H -/
def vx_L (C n d : String) (A : Nat → Prop) (U : State) (H : Heap) : Prop := ∃ (c : ClassId) (k : Class) (i : Nat) (f : Field) (a : Nat) (cell : Cell), U.vm.findClass C = some c ∧ U.fieldFound? C n d = some (c, k, i, f) ∧ f.isStatic = true ∧ k.statics = some a ∧ H[a]? = some cell ∧ cell.vm.isStatics = true ∧ cell.cls = c ∧ f.slot < cell.slots.size ∧ k.staticTypes[f.slot]? = some f.type ∧ ¬ A a
theorem vx_L.moved {C n d : String} {A : Nat → Prop} {u U : State} {H : Heap} (hvm : u.vm.Alike U.vm) (h : vx_L C n d A u H) : vx_L C n d A U H := by
  obtain ⟨c, k, i, f, a, cell, h1, h2, h3, h4, h5, h6, h7, h8, h9, h10⟩ := h
  obtain ⟨k', hi', he⟩ := State.fieldFound?_setVm hvm h2
  exact ⟨c, k', i, f, a, cell, by rw [hvm.findClass]; exact h1, hi', h3, by rw [he]; exact h4, h5, h6, h7, h8, by rw [he]; exact h9, h10⟩
theorem vx_L.kept {C n d : String} {A : Nat → Prop} {U : State} {H H1 : Heap} (h : vx_L C n d A U H) (hq : ∀ a : Nat, a < H.size → ¬ A a → H1[a]? = H[a]?) : vx_L C n d A U H1 := by
  obtain ⟨c, k, i, f, a, cell, h1, h2, h3, h4, h5, h6, h7, h8, h9, h10⟩ := h
  exact ⟨c, k, i, f, a, cell, h1, h2, h3, h4, by rw [hq a (Array.getElem?_eq_some_iff.mp h5).1 h10]; exact h5, h6, h7, h8, h9, h10⟩
theorem vx_L.narrow {C n d : String} {A B : Nat → Prop} {U : State} {H : Heap} (h : vx_L C n d A U H) (hAB : ∀ q, B q → A q) : vx_L C n d B U H := by
  obtain ⟨c, k, i, f, a, cell, h1, h2, h3, h4, h5, h6, h7, h8, h9, h10⟩ := h
  exact ⟨c, k, i, f, a, cell, h1, h2, h3, h4, h5, h6, h7, h8, h9, fun z => h10 (hAB _ z)⟩
theorem vx_L.word {C n d : String} {A : Nat → Prop} {s : State} {args : Array Value} (h : vx_L C n d A s s.heap) : (Cond.laysStatic C n d).before args s = true := by
  obtain ⟨c, k, i, f, a, cell, h1, h2, h3, h4, h5, h6, h7, h8, h9, -⟩ := h
  show (Cond.laysStatic C n d).holds args s none s [] = true
  exact Cond.laysStatic_of h1 h2 h3 h4 h5 h6 h7 h8 h9
/-- .. and what it holds: null or some reference -/
def vx_Zq (C n d : String) (A : Nat → Prop) (U : State) (H : Heap) : Prop := va_Zq C n d A U H ∧ vx_L C n d A U H
theorem vx_Zq.moved {C n d : String} {A : Nat → Prop} {u U : State} {H : Heap} (hvm : u.vm.Alike U.vm) (h : vx_Zq C n d A u H) : vx_Zq C n d A U H := ⟨va_Zq.moved hvm h.1, vx_L.moved hvm h.2⟩
theorem vx_Zq.kept {C n d : String} {A : Nat → Prop} {U : State} {H H1 : Heap} (h : vx_Zq C n d A U H) (hq : ∀ a : Nat, a < H.size → ¬ A a → H1[a]? = H[a]?) : vx_Zq C n d A U H1 := ⟨va_Zq.kept h.1 hq, vx_L.kept h.2 hq⟩
theorem vx_Zq.narrow {C n d : String} {A B : Nat → Prop} {U : State} {H : Heap} (h : vx_Zq C n d A U H) (hAB : ∀ q, B q → A q) : vx_Zq C n d B U H := ⟨va_Zq.narrow h.1 hAB, vx_L.narrow h.2 hAB⟩
theorem vx_Zqof {args : Array Value} {s : State} {C n d : String} {A : Nat → Prop} (hl : (Cond.laysStatic C n d).before args s = true) (hini : (Cond.initialized C).before args s = true) (h : (Cond.isRef (.static C n d)).before args s = true) (hA : ∀ a : Nat, a < s.heap.size → ¬ A a) : vx_Zq C n d A s s.heap := by
  refine ⟨va_Zqof hl hini h hA, ?_⟩
  obtain ⟨c, k, i, f, a, cell, h1, h2, h3, h4, h5, h6, h7, h8, h9⟩ := Cond.laysStatic_spec hl
  exact ⟨c, k, i, f, a, cell, h1, h2, h3, h4, h5, h6, h7, h8, h9, hA a (Array.getElem?_eq_some_iff.mp h5).1⟩
theorem vx_isRef {C n d : String} {v : Value} {A : Nat → Prop} {s : State} {args : Array Value} (h : va_Z C n d v A s s.heap) (hv : v.isRef = true) : (Cond.isRef (.static C n d)).before args s = true := by
  obtain ⟨cf, kf, fi, f, a, cell, h1, h2, h3, h4, h5, h6, h7, -⟩ := h
  have he : (Term.static C n d).eval args s none [] s = some v := by
    simp [Term.eval, State.fieldNamed?, h1, h2, h4, h5, h6, h7]
  simp only [Cond.before, Cond.holds, Cond.value, he]
  cases v <;> simp_all [Value.isRef]
theorem vx_isRefq {C n d : String} {A : Nat → Prop} {s : State} {args : Array Value} (h : va_Zq C n d A s s.heap) : (Cond.isRef (.static C n d)).before args s = true := by
  rcases h with h | ⟨t, h⟩
  · exact vx_isRef h rfl
  · exact vx_isRef h rfl
/-- the same frame, seen from here: as if the method were called anew in this heap -/
theorem vx_rebase {T : State} (X : Stand p l e R s m args below meth c T locs cells slots) {R' : Room} (hf : R'.frames ≤ R.frames) (hl : R'.locals ≤ R.locals) (hc : cells + R'.cells ≤ R.cells) (hs : slots + R'.slots ≤ R.slots) :
    Stand p l e R' ((T.setVm s.vm).setFrames (.invoking m args :: below)) m args below meth c T [] 0 0 := by
  have htop : (T.setVm s.vm).topJava?.isSome := X.here.top
  have hF : ((T.setVm s.vm).setFrames (.invoking m args :: below)).frames = .invoking m args :: below := State.frames_setFrames _ (State.cur_lt_of_top htop)
  obtain ⟨g₀, hg0⟩ := Option.isSome_iff_exists.mp htop
  obtain ⟨r, hr⟩ := State.topJava?_eq_some.mp hg0
  have hl9 : e.platform.stackLimits (T.setVm s.vm).me = e.platform.stackLimits s.me := X.limits
  have hb9 : (T.setVm s.vm).me.stackBytes = s.me.stackBytes := X.bytes
  refine ⟨X.admits, X.cas, X.clock, hF, ?_, X.hears, X.method, X.code, X.here, X.tail, X.warmed, ?_, ?_, ?_⟩
  · have h := X.room
    have hU : ((T.setVm s.vm).setFrames (.invoking m args :: below)).localsInUse = s.localsInUse := by
      rw [State.localsInUse_invoking hF (meth := meth) (c := c) X.method X.code, State.localsInUse_invoking X.frames X.method X.code]
    simp only [State.hasRoom, Bool.and_eq_true, decide_eq_true_eq] at h ⊢
    obtain ⟨⟨⟨⟨h1, h2, h3, h4, h5, h6⟩, h7⟩, h8⟩, h9⟩ := h
    rw [X.frames, List.length_cons] at h2 h3
    have q1 := X.heapSize
    have q2 := X.used
    simp only [hF, hU, List.length_cons, State.stackLimits_setFrames, State.stackBytes_setFrames, hl9, hb9]
    refine ⟨⟨⟨⟨by omega, by omega, by omega, by omega, by omega, h6⟩, ?_⟩, ?_⟩, X.book⟩
    · show T.heap.size + R'.cells ≤ e.platform.maxCells
      omega
    · show T.slotsUsed + R'.slots ≤ e.platform.maxSlots
      omega
  · rw [State.stackLimits_setFrames]; rfl
  · rw [State.stackBytes_setFrames]; rfl
  · refine ⟨?_, Nat.le_refl _, Nat.le_refl _, ?_, ?_, fun a c9 h9 => ⟨c9, h9, rfl, rfl, fun _ _ => rfl⟩⟩
    · obtain ⟨t, ht, -⟩ := State.frames_cons hr
      show T.setVm s.vm = { ((T.setVm s.vm).setFrames (.invoking m args :: below)).setFrames (T.setVm s.vm).frames with heap := T.heap, slotsUsed := T.slotsUsed }
      rw [State.setFrames_setFrames, State.setFrames_self ht]
      rfl
    · show T.slotsUsed = T.slotsUsed + ((T.heap.toList.drop T.heap.size).map (·.slots.size)).sum
      rw [List.drop_eq_nil_of_le (Nat.le_of_eq Array.length_toList)]
      rfl
    · show ((T.heap.toList.drop T.heap.size).map (·.slots.size)).sum ≤ 0
      rw [List.drop_eq_nil_of_le (Nat.le_of_eq Array.length_toList)]
      exact Nat.le_refl _
/-- 'throw new E()': new; dup; invokespecial; athrow -/
theorem vx_throw0 {cc : ByteArray} {pc : Nat} (hexec : p.tables.exec = Jvm.exec) (hb : c.code = cc) (hl : l.stackTraces = false) {own cls : String} {names : List String} {ik ic mc ms : Nat} {A : Nat → Prop}
    (hown : s.vm.findClass own = some m.cls) (hcls : Bundle.fit cls = true) (hnames : ∀ n ∈ names, Bundle.fit n = true)
    (hk : (Cond.classLink own ik cls).before args s = true) (hini : (Cond.initialized cls).before args s = true) (hat : ∀ w ∈ vx_at0 own ic cls names, w.before args s = true)
    (hgood : ∀ w ∈ Cond.classLink own ik cls :: Cond.initialized cls :: vx_at0 own ic cls names, vx_ot w = true)
    (hU : vx_Zq Bundle.tN "UNASSIGNED_STACK" Bundle.steD A s s.heap) (hN : vx_Zq Bundle.tN "SUPPRESSED_SENTINEL" Bundle.listD A s s.heap) (hS : va_S A s.heap H locs) (hsize : ls.size = c.maxLocals)
    (d0 : decode cc pc = .ok (.new ik, 3)) (d3 : decode cc (pc + 3) = .ok (.dup, 1)) (d4 : decode cc (pc + 4) = .ok (.invokespecial ic, 3)) (d7 : decode cc (pc + 7) = .ok (.athrow, 1))
    (hout : ∀ x ∈ c.exceptionTable.toList, covers x (pc + 7) = false)
    (hRframes : names.length + 3 < R.frames) (hRlocals : (rest.map fun v => v.category).sum + (13 * (names.length + 1) + 42) ≤ R.locals) (hRcells : cells + 1 ≤ R.cells) (hRslots : slots + 6 ≤ R.slots) (hlocks : meth.locks = false)
    (hx : ∀ t : State, s.vm.Alike t.vm → H.size ≤ t.heap.size → (∀ q : Nat, q < H.size → t.heap[q]? = H[q]?) → XC cls s t)
    (hf : ∀ z ∈ locs, free z.base) (hc : cells + 1 ≤ mc) (hs : slots + 6 ≤ ms) :
    W p l e R s m args below meth c H locs cells slots (vx_MQ below Qc XC args s mc ms free) (F0 m pc ls rest) := by
  intro T hT X
  have htr : e.platform.stackTraces = false := (show e.platform.stackTraces = l.stackTraces by rw [X.admits.platform]).trans hl
  have Y := vx_rebase X (R' := { frames := R.frames, locals := R.locals, cells := 1, slots := 6 }) (Nat.le_refl _) (Nat.le_refl _) hRcells hRslots
  obtain ⟨s', hA⟩ : ∃ z, z = (T.setVm s.vm).setFrames (.invoking m args :: below) := ⟨_, rfl⟩
  rw [← hA] at Y
  have hvm : s'.vm = s.vm := by rw [hA]; rfl
  have hhp : s'.heap = H := by rw [hA]; exact hT
  have hW0 : s.WarmedH s'.vm := by rw [hvm]; exact State.WarmedH.refl s
  have hat' : ∀ w ∈ vx_at0 own ic cls names, w.before args s' = true := fun w hw => vx_ot_at hW0 hvm.symm (hgood w (List.mem_cons_of_mem _ (List.mem_cons_of_mem _ hw))) (hat w hw)
  have hk' : (Cond.classLink own ik cls).before args s' = true := vx_ot_at hW0 hvm.symm (hgood _ List.mem_cons_self) hk
  have hini' : (Cond.initialized cls).before args s' = true := vx_ot_at hW0 hvm.symm (hgood _ (List.mem_cons_of_mem _ List.mem_cons_self)) hini
  have hU' : vx_Zq Bundle.tN "UNASSIGNED_STACK" Bundle.steD A s' s'.heap := by rw [hhp]; exact vx_Zq.moved hW0.alike (hU.kept hS.2.1)
  have hN' : vx_Zq Bundle.tN "SUPPRESSED_SENTINEL" Bundle.listD A s' s'.heap := by rw [hhp]; exact vx_Zq.moved hW0.alike (hN.kept hS.2.1)
  have h : ∀ w ∈ Bundle.ownAtoms0 own ic cls names, w.before args s' = true := vx_own hat' (vx_isRefq hU'.1) (vx_isRefq hN'.1) hU'.2.word hN'.2.word
  have hown' : s'.vm.findClass own = some m.cls := by rw [hvm]; exact hown
  have hins : (Cond.instantiable cls 6).before args s' = true := h _ (by simp [Bundle.ownAtoms0])
  obtain ⟨vm₁, cX, kX, hfX, hkX, -, -, X₁, st1⟩ := Y.newCold hexec (own := own) (C := cls) (index := ik) (n := 6) hown' hk' hins hini'
    (g := F0 m pc ls rest) rfl (by rw [hb]; exact d0) (Nat.le_refl _) (Nat.le_refl _)
  generalize hT1 : (T.setVm vm₁).pushCell { cls := cX, slots := kX.instanceTypes.map defaultValue, vm := .none } = T1 at X₁ st1
  have hcat : (Value.ref T.heap.size).category = 1 := rfl
  have hcellA : T1.heap[T.heap.size]? = some (freshCell cX kX) := by rw [← hT1]; exact State.heap_pushCell_size _ _
  have d3' : decode c.code (pc + 3) = .ok (.dup, 1) := by rw [hb]; exact d3
  obtain ⟨U, hsteps, hrun, hend, hW, hsame, ce, hce, hO⟩ := X₁.ctorThrow0 hexec htr (own := own) (cls := cls) (names := names) (ic := ic) hown' hcls hnames h (fun x hx => nomatch hx) hfX hkX hcellA (by rw [hhp, hT]; exact Nat.le_refl _)
    (g := { method := m, pc := pc + 4, locals := ls, stack := .ref T.heap.size :: .ref T.heap.size :: rest, locked := none }) rfl hsize rfl rfl (rest := rest) rfl
    (by rw [hb]; exact d4) (by rw [hb]; exact d7) hout hRframes (by simp only [List.map_cons, List.sum_cons, hcat]; omega) hlocks
  obtain ⟨f1, f2⟩ := vx_frame hsame
  rw [hhp] at f1 f2
  have hWs : s.WarmedH U.vm := State.WarmedH.trans hW0 hW
  have hcl : s.vm.findClass cls = some ce.cls := by
    have h9 := hO.cls
    rw [hvm] at h9
    exact h9
  have hall : s.sameButNew ({ U with vm := s.vm } : State) locs mc ms := by
    subst hA
    obtain ⟨e1, e2⟩ := hsame
    rw [State.setFrames_setFrames] at e1
    have h2 : (T.setVm s.vm).sameButNew ({ U with vm := s.vm } : State) [] (0 + 1) (0 + 6) := ⟨e1, e2⟩
    have h3 := X.same.trans h2
    rw [List.append_nil] at h3
    exact h3.mono hc hs
  refine ⟨U, ?_, .threw T.heap.size, hrun, hend, Or.inr ⟨T.heap.size, rfl, cls, ce, locs, hx U hWs.alike f1 (fun q hq => f2 q hq (fun z hz => nomatch hz)), hce, hO.vm, hcl, hWs, hall, hf⟩⟩
  refine st1 _ ?_
  show Steps p.tables e below (T1.setTop { method := m, pc := pc + 3, locals := ls, stack := .ref T.heap.size :: rest, locked := none }) _
  jvm_step X₁.here [X₁.here.top, hexec, d3', Value.category]
  exact hsteps
/-- 'throw new E("text")': new; dup; ldc; invokespecial; athrow -/
theorem vx_throwS {cc : ByteArray} {pc : Nat} (hexec : p.tables.exec = Jvm.exec) (hb : c.code = cc) (hl : l.stackTraces = false) {own cls text : String} {names : List String} {ik is ic mc ms sa : Nat} {A : Nat → Prop}
    (hown : s.vm.findClass own = some m.cls) (hcls : Bundle.fit cls = true) (hnames : ∀ n ∈ names, Bundle.fit n = true)
    (hk : (Cond.classLink own ik cls).before args s = true) (hini : (Cond.initialized cls).before args s = true) (hstr : vk_R own is text sa s) (hat : ∀ w ∈ vx_atS own ic cls names, w.before args s = true)
    (hgood : ∀ w ∈ Cond.classLink own ik cls :: Cond.initialized cls :: vx_atS own ic cls names, vx_ot w = true)
    (hU : vx_Zq Bundle.tN "UNASSIGNED_STACK" Bundle.steD A s s.heap) (hN : vx_Zq Bundle.tN "SUPPRESSED_SENTINEL" Bundle.listD A s s.heap) (hS : va_S A s.heap H locs) (hsize : ls.size = c.maxLocals)
    (d0 : decode cc pc = .ok (.new ik, 3)) (d3 : decode cc (pc + 3) = .ok (.dup, 1)) (d4 : decode cc (pc + 4) = .ok (.ldc is, 2)) (d6 : decode cc (pc + 6) = .ok (.invokespecial ic, 3)) (d9 : decode cc (pc + 9) = .ok (.athrow, 1))
    (hout : ∀ x ∈ c.exceptionTable.toList, covers x (pc + 9) = false)
    (hRframes : names.length + 3 < R.frames) (hRlocals : (rest.map fun v => v.category).sum + (13 * (names.length + 1) + 43) ≤ R.locals) (hRcells : cells + 1 ≤ R.cells) (hRslots : slots + 6 ≤ R.slots) (hlocks : meth.locks = false)
    (hx : ∀ t : State, s.vm.Alike t.vm → H.size ≤ t.heap.size → (∀ q : Nat, q < H.size → t.heap[q]? = H[q]?) → XC cls s t)
    (hf : ∀ z ∈ locs, free z.base) (hc : cells + 1 ≤ mc) (hs : slots + 6 ≤ ms) :
    W p l e R s m args below meth c H locs cells slots (vx_MQ below Qc XC args s mc ms free) (F0 m pc ls rest) := by
  intro T hT X
  have htr : e.platform.stackTraces = false := (show e.platform.stackTraces = l.stackTraces by rw [X.admits.platform]).trans hl
  have Y := vx_rebase X (R' := { frames := R.frames, locals := R.locals, cells := 1, slots := 6 }) (Nat.le_refl _) (Nat.le_refl _) hRcells hRslots
  obtain ⟨s', hA⟩ : ∃ z, z = (T.setVm s.vm).setFrames (.invoking m args :: below) := ⟨_, rfl⟩
  rw [← hA] at Y
  have hvm : s'.vm = s.vm := by rw [hA]; rfl
  have hhp : s'.heap = H := by rw [hA]; exact hT
  have hW0 : s.WarmedH s'.vm := by rw [hvm]; exact State.WarmedH.refl s
  have hat' : ∀ w ∈ vx_atS own ic cls names, w.before args s' = true := fun w hw => vx_ot_at hW0 hvm.symm (hgood w (List.mem_cons_of_mem _ (List.mem_cons_of_mem _ hw))) (hat w hw)
  have hk' : (Cond.classLink own ik cls).before args s' = true := vx_ot_at hW0 hvm.symm (hgood _ List.mem_cons_self) hk
  have hini' : (Cond.initialized cls).before args s' = true := vx_ot_at hW0 hvm.symm (hgood _ (List.mem_cons_of_mem _ List.mem_cons_self)) hini
  have hU' : vx_Zq Bundle.tN "UNASSIGNED_STACK" Bundle.steD A s' s'.heap := by rw [hhp]; exact vx_Zq.moved hW0.alike (hU.kept hS.2.1)
  have hN' : vx_Zq Bundle.tN "SUPPRESSED_SENTINEL" Bundle.listD A s' s'.heap := by rw [hhp]; exact vx_Zq.moved hW0.alike (hN.kept hS.2.1)
  have h : ∀ w ∈ Bundle.ownAtoms own ic cls names, w.before args s' = true := vx_own hat' (vx_isRefq hU'.1) (vx_isRefq hN'.1) hU'.2.word hN'.2.word
  have hown' : s'.vm.findClass own = some m.cls := by rw [hvm]; exact hown
  have hins : (Cond.instantiable cls 6).before args s' = true := h _ (by simp [Bundle.ownAtoms])
  obtain ⟨vm₁, cX, kX, hfX, hkX, -, -, X₁, st1⟩ := Y.newCold hexec (own := own) (C := cls) (index := ik) (n := 6) hown' hk' hins hini'
    (g := F0 m pc ls rest) rfl (by rw [hb]; exact d0) (Nat.le_refl _) (Nat.le_refl _)
  generalize hT1 : (T.setVm vm₁).pushCell { cls := cX, slots := kX.instanceTypes.map defaultValue, vm := .none } = T1 at X₁ st1
  have hcat : (Value.ref T.heap.size).category = 1 := rfl
  have hcellA : T1.heap[T.heap.size]? = some (freshCell cX kX) := by rw [← hT1]; exact State.heap_pushCell_size _ _
  have d3' : decode c.code (pc + 3) = .ok (.dup, 1) := by rw [hb]; exact d3
  have d4' : decode c.code (pc + 4) = .ok (.ldc is, 2) := by rw [hb]; exact d4
  have hstr' : vk_R own is text sa s' := vk_R.warm hW0 hstr
  obtain ⟨U, hsteps, hrun, hend, hW, hsame, ce, hce, hO⟩ := X₁.ctorThrowS hexec htr (own := own) (cls := cls) (names := names) (ic := ic) hown' hcls hnames h (fun x hx => nomatch hx) hfX hkX hcellA (by rw [hhp, hT]; exact Nat.le_refl _) (msg := .ref sa) rfl
    (g := { method := m, pc := pc + 6, locals := ls, stack := .ref sa :: .ref T.heap.size :: .ref T.heap.size :: rest, locked := none }) rfl hsize rfl rfl (rest := rest) rfl
    (by rw [hb]; exact d6) (by rw [hb]; exact d9) hout hRframes (by simp only [List.map_cons, List.sum_cons, hcat]; omega) hlocks
  obtain ⟨f1, f2⟩ := vx_frame hsame
  rw [hhp] at f1 f2
  have hWs : s.WarmedH U.vm := State.WarmedH.trans hW0 hW
  have hcl : s.vm.findClass cls = some ce.cls := by
    have h9 := hO.cls
    rw [hvm] at h9
    exact h9
  have hall : s.sameButNew ({ U with vm := s.vm } : State) locs mc ms := by
    subst hA
    obtain ⟨e1, e2⟩ := hsame
    rw [State.setFrames_setFrames] at e1
    have h2 : (T.setVm s.vm).sameButNew ({ U with vm := s.vm } : State) [] (0 + 1) (0 + 6) := ⟨e1, e2⟩
    have h3 := X.same.trans h2
    rw [List.append_nil] at h3
    exact h3.mono hc hs
  refine ⟨U, ?_, .threw T.heap.size, hrun, hend, Or.inr ⟨T.heap.size, rfl, cls, ce, locs, hx U hWs.alike f1 (fun q hq => f2 q hq (fun z hz => nomatch hz)), hce, hO.vm, hcl, hWs, hall, hf⟩⟩
  refine st1 _ ?_
  show Steps p.tables e below (T1.setTop { method := m, pc := pc + 3, locals := ls, stack := .ref T.heap.size :: rest, locked := none }) _
  jvm_step X₁.here [X₁.here.top, hexec, d3', Value.category]
  exact X₁.ldcString hexec (own := own) (text := text) (index := is) (a := sa) hown' hstr'.1 hstr'.2
    (g := { method := m, pc := pc + 4, locals := ls, stack := .ref T.heap.size :: .ref T.heap.size :: rest, locked := none }) rfl d4' _ hsteps
/-- 'throw new E("text")', the text by a wide index -/
theorem vx_throwSW {cc : ByteArray} {pc : Nat} (hexec : p.tables.exec = Jvm.exec) (hb : c.code = cc) (hl : l.stackTraces = false) {own cls text : String} {names : List String} {ik is ic mc ms sa : Nat} {A : Nat → Prop}
    (hown : s.vm.findClass own = some m.cls) (hcls : Bundle.fit cls = true) (hnames : ∀ n ∈ names, Bundle.fit n = true)
    (hk : (Cond.classLink own ik cls).before args s = true) (hini : (Cond.initialized cls).before args s = true) (hstr : vk_R own is text sa s) (hat : ∀ w ∈ vx_atS own ic cls names, w.before args s = true)
    (hgood : ∀ w ∈ Cond.classLink own ik cls :: Cond.initialized cls :: vx_atS own ic cls names, vx_ot w = true)
    (hU : vx_Zq Bundle.tN "UNASSIGNED_STACK" Bundle.steD A s s.heap) (hN : vx_Zq Bundle.tN "SUPPRESSED_SENTINEL" Bundle.listD A s s.heap) (hS : va_S A s.heap H locs) (hsize : ls.size = c.maxLocals)
    (d0 : decode cc pc = .ok (.new ik, 3)) (d3 : decode cc (pc + 3) = .ok (.dup, 1)) (d4 : decode cc (pc + 4) = .ok (.ldc_w is, 3)) (d7 : decode cc (pc + 7) = .ok (.invokespecial ic, 3)) (d10 : decode cc (pc + 10) = .ok (.athrow, 1))
    (hout : ∀ x ∈ c.exceptionTable.toList, covers x (pc + 10) = false)
    (hRframes : names.length + 3 < R.frames) (hRlocals : (rest.map fun v => v.category).sum + (13 * (names.length + 1) + 43) ≤ R.locals) (hRcells : cells + 1 ≤ R.cells) (hRslots : slots + 6 ≤ R.slots) (hlocks : meth.locks = false)
    (hx : ∀ t : State, s.vm.Alike t.vm → H.size ≤ t.heap.size → (∀ q : Nat, q < H.size → t.heap[q]? = H[q]?) → XC cls s t)
    (hf : ∀ z ∈ locs, free z.base) (hc : cells + 1 ≤ mc) (hs : slots + 6 ≤ ms) :
    W p l e R s m args below meth c H locs cells slots (vx_MQ below Qc XC args s mc ms free) (F0 m pc ls rest) := by
  intro T hT X
  have htr : e.platform.stackTraces = false := (show e.platform.stackTraces = l.stackTraces by rw [X.admits.platform]).trans hl
  have Y := vx_rebase X (R' := { frames := R.frames, locals := R.locals, cells := 1, slots := 6 }) (Nat.le_refl _) (Nat.le_refl _) hRcells hRslots
  obtain ⟨s', hA⟩ : ∃ z, z = (T.setVm s.vm).setFrames (.invoking m args :: below) := ⟨_, rfl⟩
  rw [← hA] at Y
  have hvm : s'.vm = s.vm := by rw [hA]; rfl
  have hhp : s'.heap = H := by rw [hA]; exact hT
  have hW0 : s.WarmedH s'.vm := by rw [hvm]; exact State.WarmedH.refl s
  have hat' : ∀ w ∈ vx_atS own ic cls names, w.before args s' = true := fun w hw => vx_ot_at hW0 hvm.symm (hgood w (List.mem_cons_of_mem _ (List.mem_cons_of_mem _ hw))) (hat w hw)
  have hk' : (Cond.classLink own ik cls).before args s' = true := vx_ot_at hW0 hvm.symm (hgood _ List.mem_cons_self) hk
  have hini' : (Cond.initialized cls).before args s' = true := vx_ot_at hW0 hvm.symm (hgood _ (List.mem_cons_of_mem _ List.mem_cons_self)) hini
  have hU' : vx_Zq Bundle.tN "UNASSIGNED_STACK" Bundle.steD A s' s'.heap := by rw [hhp]; exact vx_Zq.moved hW0.alike (hU.kept hS.2.1)
  have hN' : vx_Zq Bundle.tN "SUPPRESSED_SENTINEL" Bundle.listD A s' s'.heap := by rw [hhp]; exact vx_Zq.moved hW0.alike (hN.kept hS.2.1)
  have h : ∀ w ∈ Bundle.ownAtoms own ic cls names, w.before args s' = true := vx_own hat' (vx_isRefq hU'.1) (vx_isRefq hN'.1) hU'.2.word hN'.2.word
  have hown' : s'.vm.findClass own = some m.cls := by rw [hvm]; exact hown
  have hins : (Cond.instantiable cls 6).before args s' = true := h _ (by simp [Bundle.ownAtoms])
  obtain ⟨vm₁, cX, kX, hfX, hkX, -, -, X₁, st1⟩ := Y.newCold hexec (own := own) (C := cls) (index := ik) (n := 6) hown' hk' hins hini'
    (g := F0 m pc ls rest) rfl (by rw [hb]; exact d0) (Nat.le_refl _) (Nat.le_refl _)
  generalize hT1 : (T.setVm vm₁).pushCell { cls := cX, slots := kX.instanceTypes.map defaultValue, vm := .none } = T1 at X₁ st1
  have hcat : (Value.ref T.heap.size).category = 1 := rfl
  have hcellA : T1.heap[T.heap.size]? = some (freshCell cX kX) := by rw [← hT1]; exact State.heap_pushCell_size _ _
  have d3' : decode c.code (pc + 3) = .ok (.dup, 1) := by rw [hb]; exact d3
  have d4' : decode c.code (pc + 4) = .ok (.ldc_w is, 3) := by rw [hb]; exact d4
  have hstr' : vk_R own is text sa s' := vk_R.warm hW0 hstr
  obtain ⟨U, hsteps, hrun, hend, hW, hsame, ce, hce, hO⟩ := X₁.ctorThrowS hexec htr (own := own) (cls := cls) (names := names) (ic := ic) hown' hcls hnames h (fun x hx => nomatch hx) hfX hkX hcellA (by rw [hhp, hT]; exact Nat.le_refl _) (msg := .ref sa) rfl
    (g := { method := m, pc := pc + 7, locals := ls, stack := .ref sa :: .ref T.heap.size :: .ref T.heap.size :: rest, locked := none }) rfl hsize rfl rfl (rest := rest) rfl
    (by rw [hb]; exact d7) (by rw [hb]; exact d10) hout hRframes (by simp only [List.map_cons, List.sum_cons, hcat]; omega) hlocks
  obtain ⟨f1, f2⟩ := vx_frame hsame
  rw [hhp] at f1 f2
  have hWs : s.WarmedH U.vm := State.WarmedH.trans hW0 hW
  have hcl : s.vm.findClass cls = some ce.cls := by
    have h9 := hO.cls
    rw [hvm] at h9
    exact h9
  have hall : s.sameButNew ({ U with vm := s.vm } : State) locs mc ms := by
    subst hA
    obtain ⟨e1, e2⟩ := hsame
    rw [State.setFrames_setFrames] at e1
    have h2 : (T.setVm s.vm).sameButNew ({ U with vm := s.vm } : State) [] (0 + 1) (0 + 6) := ⟨e1, e2⟩
    have h3 := X.same.trans h2
    rw [List.append_nil] at h3
    exact h3.mono hc hs
  refine ⟨U, ?_, .threw T.heap.size, hrun, hend, Or.inr ⟨T.heap.size, rfl, cls, ce, locs, hx U hWs.alike f1 (fun q hq => f2 q hq (fun z hz => nomatch hz)), hce, hO.vm, hcl, hWs, hall, hf⟩⟩
  refine st1 _ ?_
  show Steps p.tables e below (T1.setTop { method := m, pc := pc + 3, locals := ls, stack := .ref T.heap.size :: rest, locked := none }) _
  jvm_step X₁.here [X₁.here.top, hexec, d3', Value.category]
  exact X₁.ldcStringW hexec (own := own) (text := text) (index := is) (a := sa) hown' hstr'.1 hstr'.2
    (g := { method := m, pc := pc + 4, locals := ls, stack := .ref T.heap.size :: .ref T.heap.size :: rest, locked := none }) rfl d4' _ hsteps
end Ends
section Bodies
variable {l : Launch}
theorem vx_ofW {y : MethodName} {ws ws' : List Cond} {rm : Room} {Pc : Array Value → State → Prop} {Qc : Array Value → State → Outcome → State → Prop} {XC : String → State → State → Prop} {mc ms : Nat} {free : Addr → Prop} {cc : ByteArray} {maxL : Nat} {ret : Option FieldType}
    (hy : plainName y.cls = true) (hw : ws = Cond.code y cc maxL ret :: ws')
    (body : ∀ p e s m args below meth c s₁, BodyLoose p l y (headSpec ws rm) cc maxL ret e s m args below meth c s₁ → c.maxLocals = maxL → (∀ x ∈ c.exceptionTable.toList, False) → Pc args s →
      W p l e (headSpec ws rm).room s m args below meth c s.heap [] 0 0 (vx_MQ below Qc XC args s mc ms free) (entryFrame m args maxL)) : vx_Met l y ws rm Pc Qc XC mc ms free := by
  refine MetFree.of_bodyS (code := cc) (maxLocals := maxL) (ret := ret) hy ?_ ?_
  · intro args s m h hn
    obtain ⟨meth, c, h1, h2, h3, h4, h5, h6, -, -⟩ := Cond.code_spec hn (atoms_spec (ws := ws) h _ (by rw [hw]; exact List.mem_cons_self))
    exact ⟨meth, c, h1, h2, h3, h4, h5, h6⟩
  · intro p e s m args below meth c s₁ B hml hP _
    have hh0 : s₁.heap = s.heap := by rw [B.state]; rfl
    have ht : ∀ x ∈ c.exceptionTable.toList, False := by
      obtain ⟨meth9, c9, h1, h2, -, -, -, -, h7, -⟩ := Cond.code_spec B.named (atoms_spec (ws := ws) B.pre _ (by rw [hw]; exact List.mem_cons_self))
      cases Option.some.inj (h1.symm.trans B.method)
      cases Option.some.inj (h2.symm.trans (Stand.of_body B).code)
      intro x hx
      rw [Array.isEmpty_iff.mp h7] at hx
      cases hx
    obtain ⟨t, a1, o, b1, b2, b3⟩ := body p e s m args below meth c s₁ B hml ht hP s₁ hh0 (Stand.of_body B)
    exact ⟨t, o, a1, b1, b2, b3⟩
/-- the table of a body with handlers -/
theorem vx_table {p : Program} {x y : MethodName} {S : Spec} {cc bytes : ByteArray} {maxL maxL' : Nat} {ret ret' : Option FieldType} {e : Env} {s s₁ : State} {m : MethodId} {args : Array Value} {below : List Frame} {meth : Method} {c : Code} {hh : List (Nat × Nat × Nat × Nat)}
    (B : BodyLoose p l y S cc maxL ret e s m args below meth c s₁) (h : (Cond.codeWith y bytes maxL' ret' hh).before args s = true) : c.exceptionTable.toList = tableOf hh := by
  obtain ⟨m9, meth9, c9, hn9, h1, h2, -, -, h6, -⟩ := Cond.codeWith_spec h
  cases Option.some.inj (hn9.symm.trans B.named)
  cases Option.some.inj (h1.symm.trans B.method)
  cases Option.some.inj (h2.symm.trans (Stand.of_body B).code)
  rw [← h6, table_eq]
end Bodies
end VXA
/-! ===== END ===== -/
/-! ===== BEGIN a static call of a method with an exception table ===== -/
section VXS
variable {p : Program} {l : Launch} {e : Env} {R : Room} {s : State} {m : MethodId} {args : Array Value} {below : List Frame} {meth : Method} {c : Code} {T : State} {H : Heap} {locs : List Loc} {cells slots : Nat}
abbrev vx_CSW (R : Room) (s : State) (args : Array Value) (own : String) (index : Nat) (y : MethodName) (bytes : ByteArray) (maxL : Nat) (ret : Option FieldType) (hh : List (Nat × Nat × Nat × Nat)) (ws : List Cond) (rm : Room) (mc ms n : Nat) : Prop :=
  (rm.cells = mc ∧ rm.slots = ms ∧ rm.frames + 1 ≤ R.frames ∧ 8 + (maxL + 11) + rm.locals ≤ R.locals ∧ (∀ w ∈ ws, ∀ (a' : Array Value) (U : State), s.WarmedH U.vm → w.before a' U = true) ∧ Cond.codeWith y bytes maxL ret hh ∈ ws) ∧
  (Cond.codeWith y bytes maxL ret hh).before args s = true ∧ (Cond.initialized y.cls).before args s = true ∧ (y.cls ≠ "java/lang/invoke/MethodHandle" ∧ y.cls ≠ "java/lang/invoke/VarHandle") ∧
  (∀ sig, parseMethodDescriptor y.desc = some sig → n = sig.parameters.length) ∧ (Cond.methodLink own index y).before args s = true ∧ (Cond.static y).before args s = true
theorem vx_cwSW {own : String} {index maxL mc ms : Nat} {y : MethodName} {bytes : ByteArray} {ret : Option FieldType} {hh : List (Nat × Nat × Nat × Nat)} {Ts ws ws' : List Cond} {rm : Room} (n : Nat) (ht : ∀ w ∈ Ts, w.before args s = true) (hT : GoodIn Ts (va_wsS own index y ws)) (hw : ws = Cond.codeWith y bytes maxL ret hh :: ws') (hrc : rm.cells = mc) (hrs : rm.slots = ms)
    (hd : y.cls ≠ "java/lang/invoke/MethodHandle" ∧ y.cls ≠ "java/lang/invoke/VarHandle" ∧ (parseMethodDescriptor y.desc).map (fun d => d.parameters.length) = some n) (hR : rm.frames + 1 ≤ R.frames ∧ 8 + (maxL + 11) + rm.locals ≤ R.locals) :
    vx_CSW R s args own index y bytes maxL ret hh ws rm mc ms n := by
  have ok : ∀ w ∈ va_wsS own index y ws, w.before args s = true := fun w h => ht w (hT w h).1
  have hG : GoodIn Ts ws := fun w h => hT w (by unfold va_wsS; exact List.mem_append_right _ h)
  have hc : Cond.codeWith y bytes maxL ret hh ∈ ws := by rw [hw]; exact List.mem_cons_self
  refine ⟨⟨hrc, hrs, hR.1, hR.2, pay_in ht hG, hc⟩, ht _ (hG _ hc).1, ok _ (by simp [va_wsS]), ⟨hd.1, hd.2.1⟩, fun sig h => ?_, ok _ (by simp [va_wsS]), ok _ (by simp [va_wsS])⟩
  have h2 := hd.2.2
  rw [h] at h2
  exact (Option.some.inj h2).symm
theorem vx_callSW (X : Stand p l e R s m args below meth c T locs cells slots) (hexec : p.tables.exec = Jvm.exec) {own : String} {index : Nat} {y : MethodName} {bytes : ByteArray} {maxL : Nat} {ret : Option FieldType} {hh : List (Nat × Nat × Nat × Nat)}
    (hown : s.vm.findClass own = some m.cls) (hlink : (Cond.methodLink own index y).before args s = true) (hstat : (Cond.static y).before args s = true) (hinit : (Cond.initialized y.cls).before args s = true)
    (hcode : (Cond.codeWith y bytes maxL ret hh).before args s = true) (hy : y.cls ≠ "java/lang/invoke/MethodHandle" ∧ y.cls ≠ "java/lang/invoke/VarHandle")
    {W9 : Nat} {Pre : Pt → Array Value → Prop} {Post : Pt → Array Value → Option Value → Pt → Prop} (hK : Back l R p e below s args y 3 W9 Pre Post)
    {g : JFrame} (hg : g.method = m) (hsize : g.locals.size = c.maxLocals) {argsL rest : List Value} (hlen : ∀ sig, parseMethodDescriptor y.desc = some sig → argsL.length = sig.parameters.length)
    (hstack : g.stack = argsL.reverse ++ rest) (hW : 2 * g.monitorRoom + (rest.map fun v => v.category).sum ≤ W9) (hdg : decode c.code g.pc = .ok (.invokestatic index, 3))
    (hpre : ∀ vm₁, s.WarmedH vm₁ → Pre ⟨T.setVm vm₁, locs, cells, slots⟩ argsL.toArray) :
    ∃ (v : Option Value) (vm₁ : Vm) (B : Pt), s.WarmedH vm₁ ∧ Stand p l e R s m args below meth c B.U B.locs B.cells B.slots ∧ Post ⟨T.setVm vm₁, locs, cells, slots⟩ argsL.toArray v B ∧
      ∀ target, Steps p.tables e below (B.U.setTop { g with pc := g.pc + 3, stack := v.toList ++ rest }) target → Steps p.tables e below (T.setTop g) target := by
  obtain ⟨mk, methM, cM, hnamed, hmethM, -, -, -, -, -, -, hsigM⟩ := Cond.codeWith_spec hcode
  have hstatic : methM.isStatic = true := Cond.static_spec hnamed hmethM hstat
  obtain ⟨kP, hkP, -⟩ := className_of_methodNamed hnamed
  have hinitP : kP.init = .initialized := Cond.initialized_spec (findClass_of_methodNamed hnamed) hkP hinit
  obtain ⟨vm₁, X₁, hstep₁⟩ := X.invokestatic hexec hown hlink hnamed hmethM hstatic hkP hinitP hy (g := g) hg (argsL := argsL) (rest := rest) (hlen _ hsigM) hstack hdg
  obtain ⟨v, B, X', hpost, hsteps⟩ := hK m meth c ⟨T.setVm vm₁, locs, cells, slots⟩ { g with stack := rest } (.invokestatic index) mk argsL.toArray X₁ hg hsize hdg hW (X₁.named hnamed) (hpre vm₁ X₁.warmed)
  exact ⟨v, vm₁, B, X₁.warmed, X', hpost, fun target h => hstep₁ _ fun acts => by rw [doInvoke_state]; exact hsteps.trans h⟩
theorem vx_runSW {y : MethodName} {bytes cc : ByteArray} {maxL nL mc ms n index : Nat} {ret : Option FieldType} {hh : List (Nat × Nat × Nat × Nat)} {ws : List Cond} {rm : Room} {Pc : Array Value → State → Prop} {Qc : Array Value → State → Outcome → State → Prop} {free : Addr → Prop} {Ts : List Cond} {own : String} {As rest : List Value} {g : JFrame}
    (S : CallFix p m c cc nL s args Ts own) (hM : Met l y ws rm Pc Qc mc ms free) (cw : vx_CSW R s args own index y bytes maxL ret hh ws rm mc ms n) (hp : PreS s H Pc As)
    (hg : g.method = m) (hn : As.length = n) (hsize : g.locals.size = nL) (hstack : g.stack = As.reverse ++ rest) (hW : 2 * g.monitorRoom + (rest.map fun v => v.category).sum ≤ 8) (hdg : decode cc g.pc = .ok (.invokestatic index, 3)) (hf : cells + mc ≤ R.cells ∧ slots + ms ≤ R.slots) :
    va_Run p l e R s m args below meth c H locs cells slots mc ms g rest (Qc As.toArray) (free) := by
  obtain ⟨⟨hrc, hrs, hfr, hlo, hws, hcw⟩, hcode, hini, hy, hlen, hl, hstt⟩ := cw
  have hK : Back l R p e below s args y 3 8 (PreOf R mc ms Pc) (PostOf Qc mc ms free) := va_backW (hh := hh) (bytes := bytes) (maxL := maxL) (ret := ret) hM hp.1 hrc hrs hfr hlo hws hcw (fun a' U hW => word_at hW (Or.inl (by first | rfl | simp [Cond.onTables, Cond.keeps, Cond.steady])) hini)
  obtain ⟨hx, hb, hml, ho, -⟩ := S
  intro T hT X
  obtain ⟨v, vm₁, ⟨U', l2, c2, s2⟩, hW₁, X', ⟨g', mk, t, L, e1, e2, hq, h1, hL, h2, h3⟩, st⟩ := vx_callSW X hx (hh := hh) (bytes := bytes) (maxL := maxL) (ret := ret) ho hl hstt hini hcode hy hK hg (hsize.trans hml.symm) (argsL := As) (rest := rest) (fun sig h => hn.trans (hlen sig h)) hstack hW (by rw [hb]; exact hdg)
    (fun vm₁ hW₁ => ⟨hf.1, hf.2, hp.2 (T.setVm vm₁) hT hW₁⟩)
  dsimp only [Pt.U, Pt.locs, Pt.cells, Pt.slots] at X' e1 e2 h1 h2 h3 st
  subst h1; subst h2; subst h3
  exact ⟨v, (T.setVm vm₁).calling g' mk As.toArray, t, U', L, hT, X', hL, e1, e2, hq, st⟩
/-- a thing of a world lies in the heap -/
theorem vx_lt {D : va_G} {cl : List vw_C} {ws : va_W} {H1 : Heap} (h : va_P D cl ws H1) {k : Nat} {q : Nat × va_E} (hk : ws[k]? = some q) : q.1 < H1.size := (h k q hk).lt
end VXS
/-! ===== END ===== -/
/-! a throw that a method's own first row catches -/
theorem gy_find {e : Env} {s : State} {f : JFrame} {a : Addr} {meth : Method} {code : Code} {x : ExceptionTableEntry} {suf : List ExceptionTableEntry} {k : ClassId} {cell : Cell} (hm : s.vm.method? f.method = some meth) (hc : meth.code = some code) (hsplit : code.exceptionTable.toList = x :: suf) (hx : covers x f.pc = true) (h0 : x.catchType ≠ 0) (hl : s.vm.ClassLinks e.platform f.method.cls x.catchType k) (hcell : s.heap[a]? = some cell) (hobj : ∀ j, cell.vm ≠ .statics j) (hk : ∃ z, s.vm.classes[cell.cls]? = some z) (hkk : ∃ z, s.vm.classes[k]? = some z) (hfit : s.vm.assignable cell.cls k = true) (Q : Handler → Pre) (E : CtlPost) (d : Bool) (acts : List Action) :
    wp (findHandler f a) Q E e d acts s ↔ Q (.found x.handlerPc) d acts (s.setVm (s.vm.noted f.method.cls x.catchType (.cls k))) := by
  rw [Jvm.W.findHandler_eq hm hc, hsplit]
  simp only [covers] at hx
  obtain ⟨ha, ht⟩ := (resolveClass_links e.toSetting hl).op (op := VmOp.resolveClass f.method.cls x.catchType) rfl
  have hal : s.vm.Alike (s.vm.noted f.method.cls x.catchType (.cls k)) := (Vm.Alike.refl s.vm).noted _ _ _
  obtain ⟨z1, hz1⟩ := hk
  obtain ⟨z2, hz2⟩ := hkk
  obtain ⟨y1, hy1, -⟩ := hal.2.2 _ _ hz1
  obtain ⟨y2, hy2, -⟩ := hal.2.2 _ _ hz2
  have hfit9 : (s.vm.noted f.method.cls x.catchType (.cls k)).assignable cell.cls k = true := by rw [hal.assignable]; exact hfit
  simp [findHandler.go, hx, h0, ha, ht, hcell, hobj, hy1, hy2, hfit9, VmOp.dirties, VmOp.acts]
theorem gy_go {tb : Tables} {e : Env} {s target : State} {g : JFrame} {c : Code} {below : List Frame} {a : Addr} (h : At s g.method c below) {pc : Nat} {vm9 : Vm}
    (hfind : ∀ (Q : Handler → Pre) (E : CtlPost) (d : Bool) (acts : List Action), wp (findHandler g a) Q E e d acts ((s.setTop g).pushFrame (.throwing a)) ↔ Q (.found pc) d acts (((s.setTop g).pushFrame (.throwing a)).setVm vm9))
    (hrest : Steps tb e below ((s.setVm vm9).setTop { g with pc := pc, stack := [.ref a] }) target) : Steps tb e below ((s.setTop g).pushFrame (.throwing a)) target := by
  have hst : ∀ r : List Frame, (stepThrowing e ((s.setTop g).pushFrame (.throwing a)) a (.java g :: r)).Is ((((s.setTop g).pushFrame (.throwing a)).setVm vm9).setFrames (.java { g with pc := pc, stack := [.ref a] } :: r)) [] := by
    intro r
    simp only [stepThrowing, searchFrame, vmDo]
    generalize hr : Sem.go _ e false [] ((s.setTop g).pushFrame (.throwing a)) = res
    obtain ⟨as, rfl, ha⟩ := Sem.eq_ok_of hr (a := Handler.found pc) (s' := ((s.setTop g).pushFrame (.throwing a)).setVm vm9) (acts' := []) (by simp [hfind _ _ _ _])
    exact ⟨rfl, ha⟩
  obtain ⟨hgo, hw⟩ := h.throwing a
  refine Steps.head hgo hw ?_
  rw [stepThread_throwing (frames_entered h.top _), (hst _).1]
  obtain ⟨g₀, hg⟩ := Option.isSome_iff_exists.mp h.top
  obtain ⟨r, hr⟩ := State.topJava?_eq_some.mp hg
  have hr9 : (s.setVm vm9).frames = .java g₀ :: r := hr
  have hsw : ∀ (u : State) (F G : List Frame), ((u.setFrames F).setVm vm9).setFrames G = (u.setVm vm9).setFrames G := fun u F G => by
    have h1 : (u.setFrames F).setVm vm9 = (u.setVm vm9).setFrames F := rfl
    rw [h1, State.setFrames_setFrames]
  rw [State.setTop_of_frames _ hr9] at hrest
  rw [hr, List.tail_cons, State.pushFrame, hsw, State.setTop_of_frames _ hr, hsw]
  exact hrest
/-- caught by the first row of this method's table -/
theorem vx_catch {p : Program} {l : Launch} {e : Env} {R : Room} {s : State} {m : MethodId} {args : Array Value} {below : List Frame} {meth : Method} {c : Code} {H : Heap} {locs : List Loc} {cells slots : Nat} {Q : State → Prop} {pc : Nat} {ls : Array Slot} {rest : List Value} {own name : String} {E : String} {ce : Cell} {q : Addr} (hown : s.vm.findClass own = some m.cls) (x : ExceptionTableEntry) (suf : List ExceptionTableEntry) (hsplit : c.exceptionTable.toList = x :: suf)
    (hx : covers x pc = true) (h0 : x.catchType ≠ 0) (hlink : (Cond.classLink own x.catchType name).before args s = true) (hcast : (Cond.castable E name).before args s = true) (hcell : H[q]? = some ce) (hv : ce.vm = .none) (hcl : s.vm.findClass E = some ce.cls)
    (kk : W p l e R s m args below meth c H locs cells slots Q (F0 m x.handlerPc ls [.ref q])) : vx_W p l e R s m args below meth c H locs cells slots Q (F0 m pc ls rest) q := by
  intro T hT X
  have hpl : e.platform.magicAccessors = ({} : Platform).magicAccessors := by rw [X.admits.platform]
  obtain ⟨c3, c4, hc3, hc4, hasg⟩ := Cond.castable_spec hcast
  cases Option.some.inj (hc3.symm.trans hcl)
  obtain ⟨c5, hc5, hcl5⟩ := Cond.classLink_spec hown hlink e.platform hpl
  cases Option.some.inj (hc4.symm.trans hc5)
  obtain ⟨k9, h9, -⟩ := Vm.findClass_spec hcl
  obtain ⟨dk, _, _, kt, hd, _, _, _, _, hkt, _, hopen⟩ := hcl5.here
  obtain ⟨y9, hy9, -⟩ := X.warmed.alike.2.2 _ _ h9
  obtain ⟨yt, hyt, -⟩ := X.warmed.alike.2.2 _ _ hkt
  have hfind := fun Q E d acts => gy_find (e := e) (s := (T.setTop (F0 m pc ls rest)).pushFrame (.throwing q)) (f := F0 m pc ls rest) (a := q) (meth := meth) (code := c) (x := x) (suf := suf) (k := c4) (cell := ce) X.method' X.code hsplit hx h0 (X.warmed.classLinks hcl5) (by show T.heap[q]? = some ce; rw [hT]; exact hcell) (fun j => by rw [hv]; exact fun h => by cases h) ⟨y9, hy9⟩ ⟨yt, hyt⟩ (by show T.vm.assignable _ _ = true; rw [X.warmed.alike.assignable]; exact hasg) Q E d acts
  obtain ⟨t, a1, b1⟩ := kk (T.setVm (T.vm.noted m.cls x.catchType (.cls c4))) hT (X.noted (X.warmed.noted hd hopen (State.rightAt_cls hcl5)))
  exact ⟨t, gy_go X.here hfind a1, b1⟩
end
section
/-! THE LAYER: the heap's picture is two functions of numbers: a cell's number and a place in it (field or element) give what stands there; the shape (classes, references, lengths) is a table. -/
/-- the words that may be handed on -/
def gx_G : List Cond := lw_tbl.filter goodWord
theorem gx_mem (i : Nat) {w : Cond} (h : lw_tbl[i]? = some w) (g : goodWord w = true) : w ∈ gx_G := List.mem_filter.mpr ⟨List.mem_of_getElem? h, g⟩
theorem gx_mems (ws : List Cond) (ps : List Nat) (hp : ws = ps.filterMap (fun i => lw_tbl[i]?)) (h : ws.all goodWord = true) : ∀ w ∈ ws, w ∈ gx_G := by
  intro w hw
  have h1 := List.all_eq_true.mp h w hw
  rw [hp] at hw
  obtain ⟨i, -, hi⟩ := List.mem_filterMap.mp hw
  exact gx_mem i hi h1
theorem gx_good {w : Cond} (h : w ∈ gx_G) : (w.onTables && w.keeps) = true ∨ ∃ ty, w = .arrayClass ty := good_of_word (List.mem_filter.mp h).2
abbrev gI : Type := Nat → Nat → Int32
abbrev gJ : Type := Nat → Nat → Int64
/-- an object: its class's number, its fields (a number; a null; a reference to a cell); an array: its kind (0 int, 1 long, 2 boolean, 3 Scene), its length, its references -/
abbrev gD : Type := (Nat × List (Option (Option Nat))) ⊕ (Nat × Nat × List (Option Nat))
/-- the tables' numbers, the addresses of the text constants and of their bytes; the array classes; the address of cell 0 -/
abbrev gE : Type := (va_G × (Nat → Nat) × (Nat → Nat)) × (Nat → ClassId) × Nat
def up2 (σ : gI) (c k : Nat) (v : Int32) : gI := fun c' k' => if c' = c ∧ k' = k then v else σ c' k'
def upJ (τ : gJ) (c k : Nat) (v : Int64) : gJ := fun c' k' => if c' = c ∧ k' = k then v else τ c' k'
def gx_v (b : Nat) (x : Int32) : Option (Option Nat) → Value
  | none => .int x
  | some none => .null
  | some (some j) => .ref (b + j)
def gx_fv (b : Nat) (f : Nat → Int32) : Nat → List (Option (Option Nat)) → List Value
  | _, [] => []
  | k, d :: r => gx_v b (f k) d :: gx_fv b f (k + 1) r
def gx_cell (E : gE) (σ : gI) (τ : gJ) (c : Nat) : gD → va_E
  | .inl (ci, fds) => .inr (ci, gx_fv E.2.2 (σ c) 0 fds)
  | .inr (0, n, _) => .inl (E.2.1 0, n, .inl (σ c))
  | .inr (1, n, _) => .inl (E.2.1 1, n, .inr (.inl (τ c)))
  | .inr (2, n, _) => .inl (E.2.1 2, n, .inl (σ c))
  | .inr (_, n, rs) => .inl (E.2.1 3, n, .inr (.inr (.inr (.inr (fun i => (rs[i]?.getD none).map (fun j => E.2.2 + j))))))
def gx_wf (E : gE) (σ : gI) (τ : gJ) : Nat → List gD → va_W
  | _, [] => []
  | c, d :: r => (E.2.2 + c, gx_cell E σ τ c d) :: gx_wf E σ τ (c + 1) r
def gx_w (tb : List gD) (E : gE) (σ : gI) (τ : gJ) : va_W := gx_wf E σ τ 0 tb
theorem gx_wf_at (E : gE) (σ : gI) (τ : gJ) : ∀ (tb : List gD) (c k : Nat), (gx_wf E σ τ c tb)[k]? = tb[k]?.map (fun d => (E.2.2 + (c + k), gx_cell E σ τ (c + k) d))
  | [], c, k => by simp [gx_wf]
  | d :: r, c, 0 => by simp [gx_wf]
  | d :: r, c, k + 1 => by
    have h := gx_wf_at E σ τ r (c + 1) k
    simp only [gx_wf, List.getElem?_cons_succ, h]
    rw [show c + 1 + k = c + (k + 1) by omega]
theorem gx_at {tb : List gD} {E : gE} {σ : gI} {τ : gJ} {c : Nat} {d : gD} (h : tb[c]? = some d) : (gx_w tb E σ τ)[c]? = some (E.2.2 + c, gx_cell E σ τ c d) := by
  have h1 := gx_wf_at E σ τ tb 0 c
  rw [h, Nat.zero_add] at h1
  exact h1
theorem gx_wf_len (E : gE) (σ : gI) (τ : gJ) : ∀ (tb : List gD) (c : Nat), (gx_wf E σ τ c tb).length = tb.length
  | [], c => rfl
  | d :: r, c => by simp [gx_wf, gx_wf_len E σ τ r (c + 1)]
theorem gx_wf_app (E : gE) (σ : gI) (τ : gJ) : ∀ (tb t2 : List gD) (c : Nat), gx_wf E σ τ c (tb ++ t2) = gx_wf E σ τ c tb ++ gx_wf E σ τ (c + tb.length) t2
  | [], t2, c => by simp [gx_wf]
  | d :: r, t2, c => by
    simp only [List.cons_append, gx_wf, List.length_cons, gx_wf_app E σ τ r t2 (c + 1)]
    rw [show c + 1 + r.length = c + (r.length + 1) by omega]
theorem gx_w_push (E : gE) (σ : gI) (τ : gJ) (tb : List gD) (d : gD) : gx_w (tb ++ [d]) E σ τ = gx_w tb E σ τ ++ [(E.2.2 + tb.length, gx_cell E σ τ tb.length d)] := by
  unfold gx_w
  rw [gx_wf_app, Nat.zero_add]
  rfl
theorem gx_w_set {tb : List gD} {E : gE} {σ σ' : gI} {τ τ' : gJ} {c : Nat} {d' : gD} (hc : c < tb.length) (ho : ∀ c' d1, c' ≠ c → gx_cell E σ' τ' c' d1 = gx_cell E σ τ c' d1) :
    (gx_w tb E σ τ).set c (E.2.2 + c, gx_cell E σ' τ' c d') = gx_w (tb.set c d') E σ' τ' := by
  apply List.ext_getElem?
  intro k
  have h1 := gx_wf_at E σ τ tb 0 k
  have h2 := gx_wf_at E σ' τ' (tb.set c d') 0 k
  rw [Nat.zero_add] at h1 h2
  have hl : c < (gx_w tb E σ τ).length := by unfold gx_w; rw [gx_wf_len]; exact hc
  by_cases hk : k = c
  · subst hk
    rw [List.getElem?_set_self hl]
    unfold gx_w
    rw [h2, List.getElem?_set_self hc]
    rfl
  · rw [List.getElem?_set_ne (Ne.symm hk)]
    unfold gx_w
    rw [h1, h2, List.getElem?_set_ne (Ne.symm hk)]
    cases tb[k]? with
    | none => rfl
    | some d1 => simp only [Option.map_some]; rw [ho k d1 hk]
theorem gx_set_same {α : Type} {l : List α} {c : Nat} {d : α} (h : l[c]? = some d) : l.set c d = l := by
  apply List.ext_getElem?
  intro k
  by_cases hk : k = c
  · subst hk
    rw [List.getElem?_set_self (List.getElem?_eq_some_iff.mp h).1, h]
  · rw [List.getElem?_set_ne (Ne.symm hk)]
theorem gx_fv_at (b : Nat) (f : Nat → Int32) : ∀ (fds : List (Option (Option Nat))) (c k : Nat), (gx_fv b f c fds)[k]? = fds[k]?.map (fun d => gx_v b (f (c + k)) d)
  | [], c, k => by simp [gx_fv]
  | d :: r, c, 0 => by simp [gx_fv]
  | d :: r, c, k + 1 => by
    have h := gx_fv_at b f r (c + 1) k
    simp only [gx_fv, List.getElem?_cons_succ, h]
    rw [show c + 1 + k = c + (k + 1) by omega]
theorem gx_fv_len (b : Nat) (f : Nat → Int32) : ∀ (fds : List (Option (Option Nat))) (c : Nat), (gx_fv b f c fds).length = fds.length
  | [], c => rfl
  | d :: r, c => by simp [gx_fv, gx_fv_len b f r (c + 1)]
theorem gx_fv_set (b : Nat) (f g : Nat → Int32) (fds : List (Option (Option Nat))) (k : Nat) (d : Option (Option Nat)) (hk : k < fds.length) (hg : ∀ j, j ≠ k → g j = f j) : (gx_fv b f 0 fds).set k (gx_v b (g k) d) = gx_fv b g 0 (fds.set k d) := by
  apply List.ext_getElem?
  intro j
  have hl : k < (gx_fv b f 0 fds).length := by rw [gx_fv_len]; exact hk
  by_cases hj : j = k
  · subst hj
    rw [List.getElem?_set_self hl, gx_fv_at, List.getElem?_set_self hk, Nat.zero_add]
    rfl
  · rw [List.getElem?_set_ne (Ne.symm hj), gx_fv_at, gx_fv_at, List.getElem?_set_ne (Ne.symm hj), Nat.zero_add, hg j hj]
theorem gx_cell_other {E : gE} {σ : gI} {τ : gJ} {c k : Nat} {v : Int32} (c' : Nat) (d : gD) (h : c' ≠ c) : gx_cell E (up2 σ c k v) τ c' d = gx_cell E σ τ c' d := by
  have h1 : up2 σ c k v c' = σ c' := by funext j; simp [up2, h]
  rcases d with ⟨ci, fds⟩ | ⟨n, m, rs⟩
  · simp only [gx_cell, h1]
  · match n with
    | 0 => simp only [gx_cell, h1]
    | 1 => rfl
    | 2 => simp only [gx_cell, h1]
    | n + 3 => rfl
theorem gx_cell_otherJ {E : gE} {σ : gI} {τ : gJ} {c k : Nat} {v : Int64} (c' : Nat) (d : gD) (h : c' ≠ c) : gx_cell E σ (upJ τ c k v) c' d = gx_cell E σ τ c' d := by
  have h1 : upJ τ c k v c' = τ c' := by funext j; simp [upJ, h]
  rcases d with ⟨ci, fds⟩ | ⟨n, m, rs⟩
  · rfl
  · match n with
    | 0 => rfl
    | 1 => simp only [gx_cell, h1]
    | 2 => rfl
    | n + 3 => rfl
theorem up2_upd (σ : gI) (c k : Nat) (v : Int32) : up2 σ c k v c = upd (σ c) k v := by
  funext j; by_cases h : j = k <;> simp [up2, upd, h]
theorem upJ_upd (τ : gJ) (c k : Nat) (v : Int64) : upJ τ c k v c = vp_updL (τ c) k v := by
  funext j; by_cases h : j = k <;> simp [upJ, vp_updL, h]
/-- the addresses that a method may change -/
def gx_A (n : Nat) (b sz : Nat) : Nat → Prop := fun q => (b ≤ q ∧ q < b + n) ∨ sz ≤ q
def gx_ty (E : gE) : List (ClassId × FieldType) := [(E.2.1 0, .int), (E.2.1 1, .long), (E.2.1 2, .boolean), (E.2.1 3, .object "DownTheGutter$Scene")]
abbrev gx_P (tb : List gD) (E : gE) (σ : gI) (τ : gJ) (H : Heap) : Prop := va_P E.1.1 vwCl (gx_w tb E σ τ) H
/-- what lies below cell 0 and stays: the text constants, statics that are read -/
def gx_ss : List (String × Nat × String × List Int32) := [(RX8, 65, "gdfrmik", [103, 100, 102, 114, 109, 105, 107]), (RX5, 75, "pmwibcnf", [112, 109, 119, 105, 98, 99, 110, 102]), (RX5, 101, "+-*/<>=", [43, 45, 42, 47, 60, 62, 61]), (RX2, 47, "tpnc", [116, 112, 110, 99]), (RX11, 142, "no such place", [110, 111, 32, 115, 117, 99, 104, 32, 112, 108, 97, 99, 101]), (RX11, 170, "a place has no such number", [97, 32, 112, 108, 97, 99, 101, 32, 104, 97, 115, 32, 110, 111, 32, 115, 117, 99, 104, 32, 110, 117, 109, 98, 101, 114]), (RX11, 173, "no such thing", [110, 111, 32, 115, 117, 99, 104, 32, 116, 104, 105, 110, 103]), (RX11, 196, "a thing has no such number", [97, 32, 116, 104, 105, 110, 103, 32, 104, 97, 115, 32, 110, 111, 32, 115, 117, 99, 104, 32, 110, 117, 109, 98, 101, 114]), (RX11, 424, "the row has no such number", [116, 104, 101, 32, 114, 111, 119, 32, 104, 97, 115, 32, 110, 111, 32, 115, 117, 99, 104, 32, 110, 117, 109, 98, 101, 114]), (RX12, 192, "gdfrmik", [103, 100, 102, 114, 109, 105, 107]), (RX12, 181, "abcdefghijkl", [97, 98, 99, 100, 101, 102, 103, 104, 105, 106, 107, 108]), (RX12, 197, "0123456789", [48, 49, 50, 51, 52, 53, 54, 55, 56, 57]), (RJ1, 151, "", []), (RJ2, 295, "", []), (RX12, 223, "0123", [48, 49, 50, 51]), (RX12, 241, "pmwibcnf", [112, 109, 119, 105, 98, 99, 110, 102]), (RX12, 246, "<>=", [60, 62, 61]), (RX12, 248, "+-", [43, 45]), (RX12, 250, "*/", [42, 47]), (RX12, 361, "tpnc", [116, 112, 110, 99]), (RX12, 363, "123456789", [49, 50, 51, 52, 53, 54, 55, 56, 57])]
def gx_B (E : gE) : Nat → Prop := fun q => E.2.2 ≤ q
def gx_Z (E : gE) (U : State) (H : Heap) : Prop := (∀ (i : Nat) (q : String × Nat × String × List Int32), gx_ss[i]? = some q → vk_S 1 [q.2.2.2.length] [q.2.2.2] (fun _ => E.1.2.1 i) (fun _ => E.1.2.2 i) (gx_B E) U H ∧ vk_R q.1 q.2.1 q.2.2.1 (E.1.2.1 i) U) ∧ va_Z "java/lang/String" "COMPACT_STRINGS" "Z" (.int 1) (gx_B E) U H ∧ vx_Zq Bundle.tN "UNASSIGNED_STACK" Bundle.steD (gx_B E) U H ∧ vx_Zq Bundle.tN "SUPPRESSED_SENTINEL" Bundle.listD (gx_B E) U H ∧ E.2.2 ≤ H.size
theorem gx_Z.warm {E : gE} {s U : State} {H : Heap} (hW : s.WarmedH U.vm) (h : gx_Z E s H) : gx_Z E U H :=
  ⟨fun i q hi => ⟨vk_S.moved hW.alike (h.1 i q hi).1, vk_R.warm hW (h.1 i q hi).2⟩, va_Z.moved hW.alike h.2.1, vx_Zq.moved hW.alike h.2.2.1, vx_Zq.moved hW.alike h.2.2.2.1, h.2.2.2.2⟩
theorem gx_Z.same {E : gE} {s U : State} {H : Heap} (hV : U.vm = s.vm) (h : gx_Z E s H) : gx_Z E U H := by
  have hA : s.vm.Alike U.vm := by rw [hV]; exact Vm.Alike.refl _
  exact ⟨fun i q hi => ⟨vk_S.moved hA (h.1 i q hi).1, vk_R.same hV (h.1 i q hi).2⟩, va_Z.moved hA h.2.1, vx_Zq.moved hA h.2.2.1, vx_Zq.moved hA h.2.2.2.1, h.2.2.2.2⟩
theorem gx_Z.kept {E : gE} {U : State} {H H1 : Heap} (h : gx_Z E U H) (hq : ∀ a : Nat, a < H.size → ¬ gx_B E a → H1[a]? = H[a]?) (hz : H.size ≤ H1.size) : gx_Z E U H1 :=
  ⟨fun i q hi => ⟨vk_S.kept (h.1 i q hi).1 hq, (h.1 i q hi).2⟩, va_Z.kept h.2.1 hq, vx_Zq.kept h.2.2.1 hq, vx_Zq.kept h.2.2.2.1 hq, Nat.le_trans h.2.2.2.2 hz⟩
def gx_K (E : gE) (U : State) : Prop := va_K E.1.1 vwCl (gx_ty E) U ∧ gx_Z E U U.heap
theorem gx_D {tb : List gD} {E : gE} {σ : gI} {τ : gJ} {sz : Nat} : va_D (gx_A tb.length E.2.2 sz) (gx_w tb E σ τ) := by
  have key : ∀ (k : Nat) (q : Nat × va_E), (gx_w tb E σ τ)[k]? = some q → q.1 = E.2.2 + k ∧ k < tb.length := by
    intro k q h
    have h1 := gx_wf_at E σ τ tb 0 k
    unfold gx_w at h
    rw [h1] at h
    cases hk : tb[k]? with
    | none => rw [hk] at h; cases h
    | some d =>
      rw [hk] at h
      simp only [Option.map_some, Option.some.injEq] at h
      subst h
      exact ⟨by simp, (List.getElem?_eq_some_iff.mp hk).1⟩
  refine ⟨fun i j x y hi hj hxy => ?_, fun k q hk => ?_⟩
  · have h1 := (key i x hi).1
    have h2 := (key j y hj).1
    omega
  · obtain ⟨h1, h2⟩ := key k q hk
    exact Or.inl ⟨by omega, by omega⟩
/-- the world in a method's frame: the picture, and what changed since its start -/
def gx_W (tb : List gD) (n0 : Nat) (E : gE) (s : State) (σ : gI) (τ : gJ) (H : Heap) (locs : List Loc) : Prop := gx_P tb E σ τ H ∧ va_S (gx_A n0 E.2.2 s.heap.size) s.heap H locs
/-- the world's cells are all among those that the method may change -/
def gx_Ok (tb : List gD) (n0 : Nat) (E : gE) (s : State) : Prop := ∀ k, k < tb.length → gx_A n0 E.2.2 s.heap.size (E.2.2 + k)
theorem gx_ok {tb : List gD} {E : gE} {s : State} : gx_Ok tb tb.length E s := fun k h => Or.inl ⟨by omega, by omega⟩
theorem gx_okc {tb : List gD} {n0 : Nat} {E : gE} {s : State} (h : s.heap.size = E.2.2 + n0) : gx_Ok tb n0 E s := fun k _ => by
  by_cases hk : k < n0
  · exact Or.inl ⟨by omega, by omega⟩
  · exact Or.inr (by omega)
/-- a class of the tables: its number, name, fields -/
def gx_C (ci : Nat) (C : String) (T : u_T) (N : Nat) : Prop := vwCl[ci]? = some (C, T, N) ∧ (∀ w ∈ u_ws C T N, w ∈ gx_G) ∧ (∀ a, a < N → ∀ b, b < N → a ≠ b → (T a).2.1 ≠ (T b).2.1) ∧ ∃ ty : Nat → FieldType, ∀ k, k < N → parseFieldDescriptor (T k).2.2.1 = some (ty k)
theorem gx_K.move {tb : List gD} {n0 : Nat} {E : gE} {s U : State} {σ : gI} {τ : gJ} {H : Heap} {locs : List Loc} (hW : s.WarmedH U.vm) (hU : U.heap = H) (hw : gx_W tb n0 E s σ τ H locs) (hK : gx_K E s) : gx_K E U := by
  refine ⟨va_K.moved hW.alike hK.1, ?_⟩
  rw [hU]
  refine gx_Z.warm hW (gx_Z.kept hK.2 (fun a h1 h2 => hw.2.2.1 a h1 (fun h3 => ?_)) hw.2.1)
  rcases h3 with h3 | h3
  · exact h2 h3.1
  · omega
section GX
variable {p : Program} {l : Launch} {e : Env} {R : Room} {s : State} {m : MethodId} {args : Array Value} {below : List Frame} {meth : Method} {c : Code} {H : Heap} {locs : List Loc} {cells slots : Nat} {Q : State → Prop}
variable {cc : ByteArray} {pc nL : Nat} {ls : Array Slot} {rest : List Value} {own : String} {tb : List gD} {n0 : Nat} {E : gE} {σ : gI} {τ : gJ}
theorem gx_top {x v : Int32} (h : x = v) (k : W p l e R s m args below meth c H locs cells slots Q (F0 m pc ls (.int v :: rest))) : W p l e R s m args below meth c H locs cells slots Q (F0 m pc ls (.int x :: rest)) := h ▸ k
theorem gx_topl {x v : Int64} (h : x = v) (k : W p l e R s m args below meth c H locs cells slots Q (F0 m pc ls (.long v :: rest))) : W p l e R s m args below meth c H locs cells slots Q (F0 m pc ls (.long x :: rest)) := h ▸ k
/-- a number in a field -/
theorem gx_get (S : CallFix p m c cc nL s args gx_G own) (hK : gx_K E s) (hw : gx_W tb n0 E s σ τ H locs) {q ci : Nat} {fds : List (Option (Option Nat))} (hT : tb[q]? = some (.inl (ci, fds))) {C : String} {T : u_T} {N : Nat} (hC : gx_C ci C T N) (k : Nat) (hk : k < N) (hf : fds[k]? = some none) {index : Nat} {ref : String} (hlink : Cond.fieldLink own index ref (T k).2.1 (T k).2.2.1 ∈ gx_G) (href : (T k).1 = ref) (hdg : decode cc pc = .ok (.getfield index, 3))
    (kk : W p l e R s m args below meth c H locs cells slots Q (F0 m (pc + 3) ls (.int (σ q k) :: rest))) : W p l e R s m args below meth c H locs cells slots Q (F0 m pc ls (.ref (E.2.2 + q) :: rest)) := by
  obtain ⟨hx, hb, hml, hown, hts⟩ := S
  subst href
  refine va_get (v := .int (σ q k)) (ci := ci) hx hb hts hC.2.1 hown hK.1 hw.1 q (gx_at hT) hC.1 k hk (hts _ hlink) (fun _ h9 => h9) ?_ hdg kk
  rw [gx_fv_at, hf, Nat.zero_add]
  rfl
/-- a reference in a field -/
theorem gx_getr (S : CallFix p m c cc nL s args gx_G own) (hK : gx_K E s) (hw : gx_W tb n0 E s σ τ H locs) {q ci j : Nat} {fds : List (Option (Option Nat))} (hT : tb[q]? = some (.inl (ci, fds))) {C : String} {T : u_T} {N : Nat} (hC : gx_C ci C T N) (k : Nat) (hk : k < N) (hf : fds[k]? = some (some (some j))) {index : Nat} {ref : String} (hlink : Cond.fieldLink own index ref (T k).2.1 (T k).2.2.1 ∈ gx_G) (href : (T k).1 = ref) (hdg : decode cc pc = .ok (.getfield index, 3))
    (kk : W p l e R s m args below meth c H locs cells slots Q (F0 m (pc + 3) ls (.ref (E.2.2 + j) :: rest))) : W p l e R s m args below meth c H locs cells slots Q (F0 m pc ls (.ref (E.2.2 + q) :: rest)) := by
  obtain ⟨hx, hb, hml, hown, hts⟩ := S
  subst href
  refine va_get (v := .ref (E.2.2 + j)) (ci := ci) hx hb hts hC.2.1 hown hK.1 hw.1 q (gx_at hT) hC.1 k hk (hts _ hlink) (fun _ h9 => h9) ?_ hdg kk
  rw [gx_fv_at, hf, Nat.zero_add]
  rfl
theorem gx_len {α : Type} {l : List α} {c : Nat} {d : α} (h : l[c]? = some d) : c < l.length := (List.getElem?_eq_some_iff.mp h).1
theorem gx_Dn (hA : gx_Ok tb n0 E s) : va_D (gx_A n0 E.2.2 s.heap.size) (gx_w tb E σ τ) := by
  refine ⟨(gx_D (sz := s.heap.size)).1, fun k1 q1 h1 => ?_⟩
  have h2 := gx_wf_at E σ τ tb 0 k1
  unfold gx_w at h1
  rw [h2] at h1
  cases hk : tb[k1]? with
  | none => rw [hk] at h1; cases h1
  | some d =>
    rw [hk] at h1
    simp only [Option.map_some, Option.some.injEq, Nat.zero_add] at h1
    subst h1
    exact hA k1 (List.getElem?_eq_some_iff.mp hk).1
/-- a number into a field -/
theorem gx_put (S : CallFix p m c cc nL s args gx_G own) (hK : gx_K E s) (hA : gx_Ok tb n0 E s) (hw : gx_W tb n0 E s σ τ H locs) {q ci : Nat} {fds : List (Option (Option Nat))} (hT : tb[q]? = some (.inl (ci, fds))) {C : String} {T : u_T} {N : Nat} (hC : gx_C ci C T N) (k : Nat) (hk : k < N) (hf : fds[k]? = some none) {index : Nat} {ref : String} (hlink : Cond.fieldLink own index ref (T k).2.1 (T k).2.2.1 ∈ gx_G) (href : (T k).1 = ref) (hfin : (T k).2.2.2 = false) {ty : FieldType} {v : Int32} (hd : parseFieldDescriptor (T k).2.2.1 = some ty) (hn : narrow ty (.int v) = .int v) (hfit : fits ty (.int v) = true) (hdg : decode cc pc = .ok (.putfield index, 3))
    (kk : ∀ (H1 : Heap) (locs1 : List Loc), gx_W tb n0 E s (up2 σ q k v) τ H1 locs1 → W p l e R s m args below meth c H1 locs1 cells slots Q (F0 m (pc + 3) ls rest)) : W p l e R s m args below meth c H locs cells slots Q (F0 m pc ls (.int v :: .ref (E.2.2 + q) :: rest)) := by
  obtain ⟨hx, hb, hml, hown, hts⟩ := S
  subst href
  obtain ⟨ty0, hty⟩ := hC.2.2.2
  have hk1 := gx_len hf
  refine va_put (ci := ci) (v := .int v) hx hb hts hC.2.1 ty0 hty hC.2.2.1 hown hK.1 hw.1 (gx_Dn hA) hw.2 q (gx_at hT) hC.1 k hk (hts _ hlink) (fun _ h9 => h9) hfin hd hn hfit (by rw [gx_fv_len]; exact hk1) hdg (fun H1 locs1 hP _ hS => kk H1 locs1 ⟨?_, hS⟩)
  have e1 : gx_cell E (up2 σ q k v) τ q (.inl (ci, fds)) = .inr (ci, (gx_fv E.2.2 (σ q) 0 fds).set k (.int v)) := by
    show (Sum.inr (ci, gx_fv E.2.2 (up2 σ q k v q) 0 fds) : va_E) = _
    have h2 := gx_fv_set E.2.2 (σ q) (up2 σ q k v q) fds k none hk1 (fun j hj => by simp [up2, hj])
    rw [gx_set_same hf] at h2
    rw [← h2]
    simp [gx_v, up2]
  rw [← e1, gx_w_set (gx_len hT) (fun c' d1 h => gx_cell_other c' d1 h), gx_set_same hT] at hP
  exact hP
theorem gx_in {i : Int32} {n j : Nat} (h : i.toNatClampNeg = j) (h0 : ¬ i < 0) (hj : j < n) : vp_in i n := by
  intro h1
  rcases h1 with h1 | h1
  · exact h0 h1
  · omega
/-- an element of an int array -/
theorem gx_iald (S : CallFix p m c cc nL s args gx_G own) (hK : gx_K E s) (hw : gx_W tb n0 E s σ τ H locs) {q n : Nat} {rs : List (Option Nat)} (hT : tb[q]? = some (.inr (0, n, rs))) {i : Int32} (j : Nat) (hj : i.toNatClampNeg = j) (hin : vp_in i n) (hdg : decode cc pc = .ok (.iaload, 1))
    (kk : W p l e R s m args below meth c H locs cells slots Q (F0 m (pc + 1) ls (.int (σ q j) :: rest))) : W p l e R s m args below meth c H locs cells slots Q (F0 m pc ls (.int i :: .ref (E.2.2 + q) :: rest)) := by
  subst hj
  exact va_iald S.1 S.2.1 hK.1 hw.1 q 0 (gx_at hT) rfl hin hdg kk
theorem gx_iast (S : CallFix p m c cc nL s args gx_G own) (hK : gx_K E s) (hA : gx_Ok tb n0 E s) (hw : gx_W tb n0 E s σ τ H locs) {q n : Nat} {rs : List (Option Nat)} (hT : tb[q]? = some (.inr (0, n, rs))) {i x : Int32} (j : Nat) (hj : i.toNatClampNeg = j) (hin : vp_in i n) (hdg : decode cc pc = .ok (.iastore, 1))
    (kk : ∀ (H1 : Heap) (locs1 : List Loc), gx_W tb n0 E s (up2 σ q j x) τ H1 locs1 → W p l e R s m args below meth c H1 locs1 cells slots Q (F0 m (pc + 1) ls rest)) : W p l e R s m args below meth c H locs cells slots Q (F0 m pc ls (.int x :: .int i :: .ref (E.2.2 + q) :: rest)) := by
  subst hj
  refine va_iast S.1 S.2.1 hK.1 hw.1 (gx_Dn hA) hw.2 q 0 (gx_at hT) rfl hin hdg (fun H1 locs1 hP _ hS => kk H1 locs1 ⟨?_, hS⟩)
  have e1 : gx_cell E (up2 σ q i.toNatClampNeg x) τ q (.inr (0, n, rs)) = .inl (E.2.1 0, n, .inl (upd (σ q) i.toNatClampNeg x)) := by
    show (Sum.inl (E.2.1 0, n, Sum.inl (up2 σ q i.toNatClampNeg x q)) : va_E) = _
    rw [up2_upd]
  rw [← e1, gx_w_set (gx_len hT) (fun c' d1 h => gx_cell_other c' d1 h), gx_set_same hT] at hP
  exact hP
/-- an element of a boolean array -/
theorem gx_zald (S : CallFix p m c cc nL s args gx_G own) (hK : gx_K E s) (hw : gx_W tb n0 E s σ τ H locs) {q n : Nat} {rs : List (Option Nat)} (hT : tb[q]? = some (.inr (2, n, rs))) {i : Int32} (j : Nat) (hj : i.toNatClampNeg = j) (hin : vp_in i n) (hdg : decode cc pc = .ok (.baload, 1))
    (kk : W p l e R s m args below meth c H locs cells slots Q (F0 m (pc + 1) ls (.int (σ q j) :: rest))) : W p l e R s m args below meth c H locs cells slots Q (F0 m pc ls (.int i :: .ref (E.2.2 + q) :: rest)) := by
  subst hj
  exact va_zald S.1 S.2.1 hK.1 hw.1 q 2 (gx_at hT) rfl hin hdg kk
theorem gx_zast (S : CallFix p m c cc nL s args gx_G own) (hK : gx_K E s) (hA : gx_Ok tb n0 E s) (hw : gx_W tb n0 E s σ τ H locs) {q n : Nat} {rs : List (Option Nat)} (hT : tb[q]? = some (.inr (2, n, rs))) {i x : Int32} (j : Nat) (hj : i.toNatClampNeg = j) (hin : vp_in i n) (hx : vp_nar .boolean x = x) (hdg : decode cc pc = .ok (.bastore, 1))
    (kk : ∀ (H1 : Heap) (locs1 : List Loc), gx_W tb n0 E s (up2 σ q j x) τ H1 locs1 → W p l e R s m args below meth c H1 locs1 cells slots Q (F0 m (pc + 1) ls rest)) : W p l e R s m args below meth c H locs cells slots Q (F0 m pc ls (.int x :: .int i :: .ref (E.2.2 + q) :: rest)) := by
  subst hj
  refine va_zast S.1 S.2.1 hK.1 hw.1 (gx_Dn hA) hw.2 q 2 (gx_at hT) rfl hin hdg (fun H1 locs1 hP _ hS => kk H1 locs1 ⟨?_, hS⟩)
  rw [hx] at hP
  have e1 : gx_cell E (up2 σ q i.toNatClampNeg x) τ q (.inr (2, n, rs)) = .inl (E.2.1 2, n, .inl (upd (σ q) i.toNatClampNeg x)) := by
    show (Sum.inl (E.2.1 2, n, Sum.inl (up2 σ q i.toNatClampNeg x q)) : va_E) = _
    rw [up2_upd]
  rw [← e1, gx_w_set (gx_len hT) (fun c' d1 h => gx_cell_other c' d1 h), gx_set_same hT] at hP
  exact hP
/-- an element of a long array -/
theorem gx_lald (S : CallFix p m c cc nL s args gx_G own) (hK : gx_K E s) (hw : gx_W tb n0 E s σ τ H locs) {q n : Nat} {rs : List (Option Nat)} (hT : tb[q]? = some (.inr (1, n, rs))) {i : Int32} (j : Nat) (hj : i.toNatClampNeg = j) (hin : vp_in i n) (hdg : decode cc pc = .ok (.laload, 1))
    (kk : W p l e R s m args below meth c H locs cells slots Q (F0 m (pc + 1) ls (.long (τ q j) :: rest))) : W p l e R s m args below meth c H locs cells slots Q (F0 m pc ls (.int i :: .ref (E.2.2 + q) :: rest)) := by
  subst hj
  exact va_lald S.1 S.2.1 hK.1 hw.1 q 1 (gx_at hT) rfl hin hdg kk
theorem gx_last (S : CallFix p m c cc nL s args gx_G own) (hK : gx_K E s) (hA : gx_Ok tb n0 E s) (hw : gx_W tb n0 E s σ τ H locs) {q n : Nat} {rs : List (Option Nat)} (hT : tb[q]? = some (.inr (1, n, rs))) {i : Int32} {x : Int64} (j : Nat) (hj : i.toNatClampNeg = j) (hin : vp_in i n) (hdg : decode cc pc = .ok (.lastore, 1))
    (kk : ∀ (H1 : Heap) (locs1 : List Loc), gx_W tb n0 E s σ (upJ τ q j x) H1 locs1 → W p l e R s m args below meth c H1 locs1 cells slots Q (F0 m (pc + 1) ls rest)) : W p l e R s m args below meth c H locs cells slots Q (F0 m pc ls (.long x :: .int i :: .ref (E.2.2 + q) :: rest)) := by
  subst hj
  refine va_last S.1 S.2.1 hK.1 hw.1 (gx_Dn hA) hw.2 q 1 (gx_at hT) rfl hin hdg (fun H1 locs1 hP _ hS => kk H1 locs1 ⟨?_, hS⟩)
  have e1 : gx_cell E σ (upJ τ q i.toNatClampNeg x) q (.inr (1, n, rs)) = .inl (E.2.1 1, n, .inr (.inl (vp_updL (τ q) i.toNatClampNeg x))) := by
    show (Sum.inl (E.2.1 1, n, Sum.inr (Sum.inl (upJ τ q i.toNatClampNeg x q))) : va_E) = _
    rw [upJ_upd]
  rw [← e1, gx_w_set (gx_len hT) (fun c' d1 h => gx_cell_otherJ c' d1 h), gx_set_same hT] at hP
  exact hP
/-- an element of an array of references -/
theorem gx_aald (S : CallFix p m c cc nL s args gx_G own) (hK : gx_K E s) (hw : gx_W tb n0 E s σ τ H locs) {q n r : Nat} {rs : List (Option Nat)} (hT : tb[q]? = some (.inr (3, n, rs))) {i : Int32} (j : Nat) (hj : i.toNatClampNeg = j) (hin : vp_in i n) (hr : rs[j]? = some (some r)) (hdg : decode cc pc = .ok (.aaload, 1))
    (kk : W p l e R s m args below meth c H locs cells slots Q (F0 m (pc + 1) ls (.ref (E.2.2 + r) :: rest))) : W p l e R s m args below meth c H locs cells slots Q (F0 m pc ls (.int i :: .ref (E.2.2 + q) :: rest)) := by
  subst hj
  refine va_aldq S.1 S.2.1 hK.1 hw.1 q 3 (gx_at hT) rfl hin hdg ?_
  rw [hr]
  exact kk
end GX
/-- the room of a method that makes nothing: by the depth of its calls -/
def gx_rm (d : Nat) : Room := { frames := d, cells := 0, slots := 0, locals := 40 * d }
/-- a contract: on this picture the method returns, and tells of its answer and of the picture behind it -/
def gx_Pre (tb : List gD) (E : gE) (σ : gI) (τ : gJ) (sz : Nat) (U : State) : Prop := U.heap.size = sz ∧ gx_P tb E σ τ U.heap ∧ gx_K E U
def gx_Mi (l : Launch) (y : MethodName) (cc : ByteArray) (mL : Nat) (ret : Option FieldType) (d : Nat) (tb : List gD) (E : gE) (σ : gI) (τ : gJ) (av : List Value) (post : Int32 → gI → gJ → Prop) : Prop :=
  ∀ sz : Nat, Met l y (Cond.code y cc mL ret :: gx_G) (gx_rm d) (va_Pc av (gx_Pre tb E σ τ sz)) (va_Qi (fun r (u : gI × gJ) => post r u.1 u.2) (fun u t => gx_P tb E u.1 u.2 t.heap) (gx_A tb.length E.2.2 sz)) 0 0 (gx_A tb.length E.2.2 sz)
def gx_Ml (l : Launch) (y : MethodName) (cc : ByteArray) (mL : Nat) (ret : Option FieldType) (d : Nat) (tb : List gD) (E : gE) (σ : gI) (τ : gJ) (av : List Value) (post : Int64 → gI → gJ → Prop) : Prop :=
  ∀ sz : Nat, Met l y (Cond.code y cc mL ret :: gx_G) (gx_rm d) (va_Pc av (gx_Pre tb E σ τ sz)) (va_Ql (fun r (u : gI × gJ) => post r u.1 u.2) (fun u t => gx_P tb E u.1 u.2 t.heap) (gx_A tb.length E.2.2 sz)) 0 0 (gx_A tb.length E.2.2 sz)
def gx_Mv (l : Launch) (y : MethodName) (cc : ByteArray) (mL : Nat) (ret : Option FieldType) (d : Nat) (tb : List gD) (E : gE) (σ : gI) (τ : gJ) (av : List Value) (post : gI → gJ → Prop) : Prop :=
  ∀ sz : Nat, Met l y (Cond.code y cc mL ret :: gx_G) (gx_rm d) (va_Pc av (gx_Pre tb E σ τ sz)) (va_Qv (fun (u : gI × gJ) => post u.1 u.2) (fun u t => gx_P tb E u.1 u.2 t.heap) (gx_A tb.length E.2.2 sz)) 0 0 (gx_A tb.length E.2.2 sz)
theorem gx_blind {av : List Value} {tb : List gD} {E : gE} {σ : gI} {τ : gJ} {sz : Nat} : FrameBlind (va_Pc av (gx_Pre tb E σ τ sz)) := by
  intro a U g mk q
  obtain ⟨q0, q1, qP, qK⟩ := q
  exact ⟨q0, q1, qP, ⟨va_K.moved (u := U) (U := U.calling g mk a) (Vm.Alike.refl U.vm) qK.1, gx_Z.same (s := U) (U := U.calling g mk a) rfl qK.2⟩⟩
section GB
variable {l : Launch} {y : MethodName} {cc : ByteArray} {mL d : Nat} {ret : Option FieldType} {tb : List gD} {E : gE} {σ : gI} {τ : gJ} {av : List Value}
/-- what a body has at its entry -/
theorem gx_begin {Pc : Array Value → State → Prop} {Qc : Nat → Array Value → State → Outcome → State → Prop} {rm : Room} {mc ms : Nat} {A : Nat → Nat → Prop} (hy : plainName y.cls = true) (hPc : ∀ a U, Pc a U → a = av.toArray) (hlen : (lg_sl av).length ≤ mL)
    {sz : Nat} (hsz : ∀ a U, Pc a U → U.heap.size = sz)
    (body : ∀ (p : Program) (e : Env) (s : State) (m : MethodId) (below : List Frame) (meth : Method) (c : Code), CallFix p m c cc mL s av.toArray gx_G y.cls → meth.sig.returnType = ret → meth.locks = false → meth.name = y.name → Pc av.toArray s → s.heap.size = sz → ∀ ls : Array Slot, lv_has ls mL (lv_args 0 av) →
      W p l e rm s m av.toArray below meth c s.heap [] 0 0 (MQ below (Qc s.heap.size) av.toArray s mc ms (A s.heap.size)) (F0 m 0 ls [])) : Met l y (Cond.code y cc mL ret :: gx_G) rm Pc (Qc sz) mc ms (A sz) := by
  refine Met.ofW (cc := cc) (maxL := mL) (ret := ret) hy rfl ?_
  intro p e s m args below meth c s₁ B hml hv
  obtain rfl := hPc _ _ hv
  have hz := hsz _ _ hv
  subst hz
  have hts := atoms_spec (ws := Cond.code y cc mL ret :: gx_G) B.pre
  have hl := lv_entry av (n := mL) hlen
  rw [lg_entry_eq]
  exact body p e s m below meth c ⟨B.exec, B.bytes, hml, findClass_of_methodNamed B.named, fun w hw => hts w (List.mem_cons_of_mem _ hw)⟩ B.returns B.notSynchronized (name_of_methodNamed B.named B.method).1 hv rfl _ hl
theorem gx_bi {post : Int32 → gI → gJ → Prop} (hy : plainName y.cls = true) (hlen : (lg_sl av).length ≤ mL)
    (body : ∀ (p : Program) (e : Env) (s : State) (m : MethodId) (below : List Frame) (meth : Method) (c : Code), CallFix p m c cc mL s av.toArray gx_G y.cls → meth.sig.returnType = ret → meth.locks = false → gx_K E s → gx_W tb tb.length E s σ τ s.heap [] → ∀ ls : Array Slot, lv_has ls mL (lv_args 0 av) →
      W p l e (gx_rm d) s m av.toArray below meth c s.heap [] 0 0 (MQ below (va_Qi (fun r (u : gI × gJ) => post r u.1 u.2) (fun u t => gx_P tb E u.1 u.2 t.heap) (gx_A tb.length E.2.2 s.heap.size)) av.toArray s 0 0 (gx_A tb.length E.2.2 s.heap.size)) (F0 m 0 ls [])) : gx_Mi l y cc mL ret d tb E σ τ av post := by
  intro sz
  refine gx_begin (Qc := fun sz => va_Qi (fun r (u : gI × gJ) => post r u.1 u.2) (fun u t => gx_P tb E u.1 u.2 t.heap) (gx_A tb.length E.2.2 sz)) (A := fun sz => gx_A tb.length E.2.2 sz) hy (fun a U h => h.1) hlen (fun a U h => h.2.1) ?_
  intro p e s m below meth c S hr hlk _ hv _ ls hl
  exact body p e s m below meth c S hr hlk hv.2.2.2 ⟨hv.2.2.1, va_S.rf⟩ ls hl
theorem gx_bl {post : Int64 → gI → gJ → Prop} (hy : plainName y.cls = true) (hlen : (lg_sl av).length ≤ mL)
    (body : ∀ (p : Program) (e : Env) (s : State) (m : MethodId) (below : List Frame) (meth : Method) (c : Code), CallFix p m c cc mL s av.toArray gx_G y.cls → meth.sig.returnType = ret → meth.locks = false → gx_K E s → gx_W tb tb.length E s σ τ s.heap [] → ∀ ls : Array Slot, lv_has ls mL (lv_args 0 av) →
      W p l e (gx_rm d) s m av.toArray below meth c s.heap [] 0 0 (MQ below (va_Ql (fun r (u : gI × gJ) => post r u.1 u.2) (fun u t => gx_P tb E u.1 u.2 t.heap) (gx_A tb.length E.2.2 s.heap.size)) av.toArray s 0 0 (gx_A tb.length E.2.2 s.heap.size)) (F0 m 0 ls [])) : gx_Ml l y cc mL ret d tb E σ τ av post := by
  intro sz
  refine gx_begin (Qc := fun sz => va_Ql (fun r (u : gI × gJ) => post r u.1 u.2) (fun u t => gx_P tb E u.1 u.2 t.heap) (gx_A tb.length E.2.2 sz)) (A := fun sz => gx_A tb.length E.2.2 sz) hy (fun a U h => h.1) hlen (fun a U h => h.2.1) ?_
  intro p e s m below meth c S hr hlk _ hv _ ls hl
  exact body p e s m below meth c S hr hlk hv.2.2.2 ⟨hv.2.2.1, va_S.rf⟩ ls hl
theorem gx_bv {post : gI → gJ → Prop} (hy : plainName y.cls = true) (hlen : (lg_sl av).length ≤ mL)
    (body : ∀ (p : Program) (e : Env) (s : State) (m : MethodId) (below : List Frame) (meth : Method) (c : Code), CallFix p m c cc mL s av.toArray gx_G y.cls → meth.sig.returnType = ret → meth.locks = false → gx_K E s → gx_W tb tb.length E s σ τ s.heap [] → ∀ ls : Array Slot, lv_has ls mL (lv_args 0 av) →
      W p l e (gx_rm d) s m av.toArray below meth c s.heap [] 0 0 (MQ below (va_Qv (fun (u : gI × gJ) => post u.1 u.2) (fun u t => gx_P tb E u.1 u.2 t.heap) (gx_A tb.length E.2.2 s.heap.size)) av.toArray s 0 0 (gx_A tb.length E.2.2 s.heap.size)) (F0 m 0 ls [])) : gx_Mv l y cc mL ret d tb E σ τ av post := by
  intro sz
  refine gx_begin (Qc := fun sz => va_Qv (fun (u : gI × gJ) => post u.1 u.2) (fun u t => gx_P tb E u.1 u.2 t.heap) (gx_A tb.length E.2.2 sz)) (A := fun sz => gx_A tb.length E.2.2 sz) hy (fun a U h => h.1) hlen (fun a U h => h.2.1) ?_
  intro p e s m below meth c S hr hlk _ hv _ ls hl
  exact body p e s m below meth c S hr hlk hv.2.2.2 ⟨hv.2.2.1, va_S.rf⟩ ls hl
end GB
section GR
variable {p : Program} {l : Launch} {e : Env} {R : Room} {s : State} {m : MethodId} {args : Array Value} {below : List Frame} {meth : Method} {c : Code} {H : Heap} {locs : List Loc} {Q : State → Prop}
variable {cc : ByteArray} {pc nL : Nat} {ls : Array Slot} {rest : List Value} {own : String} {tb : List gD} {E : gE} {σ : gI} {τ : gJ}
theorem gx_ri {post : Int32 → gI → gJ → Prop} {v : Int32} {ty : FieldType} (S : CallFix p m c cc nL s args gx_G own) (hr : meth.sig.returnType = some ty) (hlk : meth.locks = false) (hw : gx_W tb tb.length E s σ τ H locs) (hn : narrow ty (.int v) = .int v) (hdg : decode cc pc = .ok (.ireturn, 1)) (hp : post v σ τ) :
    W p l e R s m args below meth c H locs 0 0 (MQ below (va_Qi (fun r (u : gI × gJ) => post r u.1 u.2) (fun u t => gx_P tb E u.1 u.2 t.heap) (gx_A tb.length E.2.2 s.heap.size)) args s 0 0 (gx_A tb.length E.2.2 s.heap.size)) (F0 m pc ls [.int v]) :=
  W.zret S.1 S.2.1 hr hn (fun t ht _ => ⟨⟨v, (σ, τ), rfl, hp, by subst ht; exact hw.1⟩, hw.2.F ht⟩) hw.2.2.2 hdg hlk
theorem gx_rl {post : Int64 → gI → gJ → Prop} {v : Int64} (S : CallFix p m c cc nL s args gx_G own) (hr : meth.sig.returnType = some .long) (hlk : meth.locks = false) (hw : gx_W tb tb.length E s σ τ H locs) (hdg : decode cc pc = .ok (.lreturn, 1)) (hp : post v σ τ) :
    W p l e R s m args below meth c H locs 0 0 (MQ below (va_Ql (fun r (u : gI × gJ) => post r u.1 u.2) (fun u t => gx_P tb E u.1 u.2 t.heap) (gx_A tb.length E.2.2 s.heap.size)) args s 0 0 (gx_A tb.length E.2.2 s.heap.size)) (F0 m pc ls [.long v]) :=
  W.lret S.1 S.2.1 hr (fun t ht _ => ⟨⟨v, (σ, τ), rfl, hp, by subst ht; exact hw.1⟩, hw.2.F ht⟩) hw.2.2.2 hdg hlk
theorem gx_rv {post : gI → gJ → Prop} (S : CallFix p m c cc nL s args gx_G own) (hr : meth.sig.returnType = none) (hlk : meth.locks = false) (hw : gx_W tb tb.length E s σ τ H locs) (hdg : decode cc pc = .ok (.return_, 1)) (hp : post σ τ) :
    W p l e R s m args below meth c H locs 0 0 (MQ below (va_Qv (fun (u : gI × gJ) => post u.1 u.2) (fun u t => gx_P tb E u.1 u.2 t.heap) (gx_A tb.length E.2.2 s.heap.size)) args s 0 0 (gx_A tb.length E.2.2 s.heap.size)) (F0 m pc ls []) :=
  W.vret S.1 S.2.1 hr (fun t ht _ => ⟨⟨(σ, τ), rfl, hp, by subst ht; exact hw.1⟩, hw.2.F ht⟩) hw.2.2.2 hdg hlk
end GR
/-- the words of a virtual call, of a static call -/
def gx_Wv (own : String) (idx : Nat) (y : MethodName) (cc : ByteArray) (mL : Nat) (ret : Option FieldType) (n : Nat) : Prop := (Cond.methodLink own idx y ∈ gx_G ∧ Cond.instanceMethod y ∈ gx_G ∧ Cond.selects y.cls y y ∈ gx_G ∧ Cond.initialized y.cls ∈ gx_G ∧ Cond.code y cc mL ret ∈ gx_G) ∧ y.cls ≠ "java/lang/invoke/MethodHandle" ∧ y.cls ≠ "java/lang/invoke/VarHandle" ∧ (parseMethodDescriptor y.desc).map (fun d => d.parameters.length) = some n
def gx_Ws (own : String) (idx : Nat) (y : MethodName) (cc : ByteArray) (mL : Nat) (ret : Option FieldType) (n : Nat) : Prop := (Cond.methodLink own idx y ∈ gx_G ∧ Cond.static y ∈ gx_G ∧ Cond.initialized y.cls ∈ gx_G ∧ Cond.code y cc mL ret ∈ gx_G) ∧ y.cls ≠ "java/lang/invoke/MethodHandle" ∧ y.cls ≠ "java/lang/invoke/VarHandle" ∧ (parseMethodDescriptor y.desc).map (fun d => d.parameters.length) = some n
theorem gx_goodV {own : String} {idx : Nat} {y : MethodName} {cc : ByteArray} {mL : Nat} {ret : Option FieldType} {n : Nat} (w : gx_Wv own idx y cc mL ret n) : GoodIn gx_G (wsV own idx y.cls y (Cond.code y cc mL ret :: gx_G)) := by
  obtain ⟨⟨h1, h2, h3, h4, h5⟩, -⟩ := w
  intro w hw
  simp only [wsV, List.cons_append, List.nil_append, List.mem_cons] at hw
  rcases hw with rfl | rfl | rfl | rfl | rfl | hw
  · exact ⟨h1, gx_good h1⟩
  · exact ⟨h2, gx_good h2⟩
  · exact ⟨h3, gx_good h3⟩
  · exact ⟨h4, gx_good h4⟩
  · exact ⟨h5, gx_good h5⟩
  · exact ⟨hw, gx_good hw⟩
theorem gx_goodS {own : String} {idx : Nat} {y : MethodName} {cc : ByteArray} {mL : Nat} {ret : Option FieldType} {n : Nat} (w : gx_Ws own idx y cc mL ret n) : GoodIn gx_G (va_wsS own idx y (Cond.code y cc mL ret :: gx_G)) := by
  obtain ⟨⟨h1, h2, h4, h5⟩, -⟩ := w
  intro w hw
  simp only [va_wsS, List.cons_append, List.nil_append, List.mem_cons] at hw
  rcases hw with rfl | rfl | rfl | rfl | hw
  · exact ⟨h1, gx_good h1⟩
  · exact ⟨h2, gx_good h2⟩
  · exact ⟨h4, gx_good h4⟩
  · exact ⟨h5, gx_good h5⟩
  · exact ⟨hw, gx_good hw⟩
section GK
variable {p : Program} {l : Launch} {e : Env} {R : Room} {s : State} {m : MethodId} {args : Array Value} {below : List Frame} {meth : Method} {c : Code} {H : Heap} {locs : List Loc} {cells slots : Nat} {Q : State → Prop}
variable {cc cc' : ByteArray} {pc nL mL d n idx n0 : Nat} {ls : Array Slot} {st rest As : List Value} {own : String} {tb : List gD} {E : gE} {σ : gI} {τ : gJ} {y : MethodName} {ret : Option FieldType}
theorem gx_sub {q : Nat} (hA : gx_Ok tb n0 E s) (hw : gx_W tb n0 E s σ τ H locs) : gx_A tb.length E.2.2 H.size q → gx_A n0 E.2.2 s.heap.size q := by
  intro h
  rcases h with h | h
  · have h1 := hA (q - E.2.2) (by omega)
    rwa [show E.2.2 + (q - E.2.2) = q by omega] at h1
  · exact Or.inr (Nat.le_trans hw.2.1 h)
theorem gx_cVi {post : Int32 → gI → gJ → Prop} {q : Nat} (S : CallFix p m c cc nL s args gx_G own) (hK : gx_K E s) (hA : gx_Ok tb n0 E s) (hw : gx_W tb n0 E s σ τ H locs) (M : gx_Mi l y cc' mL ret d tb E σ τ (.ref (E.2.2 + q) :: As) post) (w : gx_Wv own idx y cc' mL ret n) {ci N : Nat} {T : u_T} {fds : List (Option (Option Nat))} (hT : tb[q]? = some (.inl (ci, fds))) (hC : gx_C ci y.cls T N) (hR : d + 1 ≤ R.frames ∧ 8 + (mL + 11) + 40 * d ≤ R.locals) (hn : As.length = n) (hls : ls.size = nL) (hst : st = As.reverse ++ .ref (E.2.2 + q) :: rest) (hW : (rest.map fun v => v.category).sum ≤ 8) (hf : cells + 0 ≤ R.cells ∧ slots + 0 ≤ R.slots) (hdg : decode cc pc = .ok (.invokevirtual idx, 3))
    (kk : ∀ (r : Int32) (σ' : gI) (τ' : gJ) (H1 : Heap) (locs1 : List Loc), post r σ' τ' → gx_W tb n0 E s σ' τ' H1 locs1 → W p l e R s m args below meth c H1 locs1 cells slots Q (F0 m (pc + 3) ls (.int r :: rest))) : W p l e R s m args below meth c H locs cells slots Q (F0 m pc ls st) := by
  subst hst
  refine va_calli (va_runV (As := As) (rest := rest) (b := E.2.2 + q) S (M H.size) (cwV n S.2.2.2.2 (gx_goodV w) rfl rfl rfl ⟨rfl, w.2⟩ hR) ⟨gx_blind, va_recv hK.1 hw.1 hC.1 (gx_at hT), fun U hU hW9 => ⟨rfl, by rw [hU], by rw [hU]; exact hw.1, gx_K.move hW9 hU hw hK⟩⟩ rfl hn hls rfl (lv_room hW) hdg hf) hw.2 (fun q1 _ h => gx_sub hA hw h) (fun q1 h => gx_sub hA hw h) ?_
  intro r u t H1 locs1 ht hvm hp hB hz hk hS
  exact kk r u.1 u.2 H1 locs1 hp ⟨by rw [← ht]; exact hB, hS⟩
theorem gx_cSi {post : Int32 → gI → gJ → Prop} (S : CallFix p m c cc nL s args gx_G own) (hK : gx_K E s) (hA : gx_Ok tb n0 E s) (hw : gx_W tb n0 E s σ τ H locs) (M : gx_Mi l y cc' mL ret d tb E σ τ As post) (w : gx_Ws own idx y cc' mL ret n) (hR : d + 1 ≤ R.frames ∧ 8 + (mL + 11) + 40 * d ≤ R.locals) (hn : As.length = n) (hls : ls.size = nL) (hst : st = As.reverse ++ rest) (hW : (rest.map fun v => v.category).sum ≤ 8) (hf : cells + 0 ≤ R.cells ∧ slots + 0 ≤ R.slots) (hdg : decode cc pc = .ok (.invokestatic idx, 3))
    (kk : ∀ (r : Int32) (σ' : gI) (τ' : gJ) (H1 : Heap) (locs1 : List Loc), post r σ' τ' → gx_W tb n0 E s σ' τ' H1 locs1 → W p l e R s m args below meth c H1 locs1 cells slots Q (F0 m (pc + 3) ls (.int r :: rest))) : W p l e R s m args below meth c H locs cells slots Q (F0 m pc ls st) := by
  subst hst
  refine va_calli (va_runS (As := As) (rest := rest) S (M H.size) (va_cwS n S.2.2.2.2 (gx_goodS w) rfl rfl rfl w.2 hR) ⟨gx_blind, fun U hU hW9 => ⟨rfl, by rw [hU], by rw [hU]; exact hw.1, gx_K.move hW9 hU hw hK⟩⟩ rfl hn hls rfl (lv_room hW) hdg hf) hw.2 (fun q1 _ h => gx_sub hA hw h) (fun q1 h => gx_sub hA hw h) ?_
  intro r u t H1 locs1 ht hvm hp hB hz hk hS
  exact kk r u.1 u.2 H1 locs1 hp ⟨by rw [← ht]; exact hB, hS⟩
theorem gx_cVl {post : Int64 → gI → gJ → Prop} {q : Nat} (S : CallFix p m c cc nL s args gx_G own) (hK : gx_K E s) (hA : gx_Ok tb n0 E s) (hw : gx_W tb n0 E s σ τ H locs) (M : gx_Ml l y cc' mL ret d tb E σ τ (.ref (E.2.2 + q) :: As) post) (w : gx_Wv own idx y cc' mL ret n) {ci N : Nat} {T : u_T} {fds : List (Option (Option Nat))} (hT : tb[q]? = some (.inl (ci, fds))) (hC : gx_C ci y.cls T N) (hR : d + 1 ≤ R.frames ∧ 8 + (mL + 11) + 40 * d ≤ R.locals) (hn : As.length = n) (hls : ls.size = nL) (hst : st = As.reverse ++ .ref (E.2.2 + q) :: rest) (hW : (rest.map fun v => v.category).sum ≤ 8) (hf : cells + 0 ≤ R.cells ∧ slots + 0 ≤ R.slots) (hdg : decode cc pc = .ok (.invokevirtual idx, 3))
    (kk : ∀ (r : Int64) (σ' : gI) (τ' : gJ) (H1 : Heap) (locs1 : List Loc), post r σ' τ' → gx_W tb n0 E s σ' τ' H1 locs1 → W p l e R s m args below meth c H1 locs1 cells slots Q (F0 m (pc + 3) ls (.long r :: rest))) : W p l e R s m args below meth c H locs cells slots Q (F0 m pc ls st) := by
  subst hst
  refine va_calll (va_runV (As := As) (rest := rest) (b := E.2.2 + q) S (M H.size) (cwV n S.2.2.2.2 (gx_goodV w) rfl rfl rfl ⟨rfl, w.2⟩ hR) ⟨gx_blind, va_recv hK.1 hw.1 hC.1 (gx_at hT), fun U hU hW9 => ⟨rfl, by rw [hU], by rw [hU]; exact hw.1, gx_K.move hW9 hU hw hK⟩⟩ rfl hn hls rfl (lv_room hW) hdg hf) hw.2 (fun q1 _ h => gx_sub hA hw h) (fun q1 h => gx_sub hA hw h) ?_
  intro r u t H1 locs1 ht hvm hp hB hz hk hS
  exact kk r u.1 u.2 H1 locs1 hp ⟨by rw [← ht]; exact hB, hS⟩
theorem gx_cSl {post : Int64 → gI → gJ → Prop} (S : CallFix p m c cc nL s args gx_G own) (hK : gx_K E s) (hA : gx_Ok tb n0 E s) (hw : gx_W tb n0 E s σ τ H locs) (M : gx_Ml l y cc' mL ret d tb E σ τ As post) (w : gx_Ws own idx y cc' mL ret n) (hR : d + 1 ≤ R.frames ∧ 8 + (mL + 11) + 40 * d ≤ R.locals) (hn : As.length = n) (hls : ls.size = nL) (hst : st = As.reverse ++ rest) (hW : (rest.map fun v => v.category).sum ≤ 8) (hf : cells + 0 ≤ R.cells ∧ slots + 0 ≤ R.slots) (hdg : decode cc pc = .ok (.invokestatic idx, 3))
    (kk : ∀ (r : Int64) (σ' : gI) (τ' : gJ) (H1 : Heap) (locs1 : List Loc), post r σ' τ' → gx_W tb n0 E s σ' τ' H1 locs1 → W p l e R s m args below meth c H1 locs1 cells slots Q (F0 m (pc + 3) ls (.long r :: rest))) : W p l e R s m args below meth c H locs cells slots Q (F0 m pc ls st) := by
  subst hst
  refine va_calll (va_runS (As := As) (rest := rest) S (M H.size) (va_cwS n S.2.2.2.2 (gx_goodS w) rfl rfl rfl w.2 hR) ⟨gx_blind, fun U hU hW9 => ⟨rfl, by rw [hU], by rw [hU]; exact hw.1, gx_K.move hW9 hU hw hK⟩⟩ rfl hn hls rfl (lv_room hW) hdg hf) hw.2 (fun q1 _ h => gx_sub hA hw h) (fun q1 h => gx_sub hA hw h) ?_
  intro r u t H1 locs1 ht hvm hp hB hz hk hS
  exact kk r u.1 u.2 H1 locs1 hp ⟨by rw [← ht]; exact hB, hS⟩
theorem gx_cVv {post : gI → gJ → Prop} {q : Nat} (S : CallFix p m c cc nL s args gx_G own) (hK : gx_K E s) (hA : gx_Ok tb n0 E s) (hw : gx_W tb n0 E s σ τ H locs) (M : gx_Mv l y cc' mL ret d tb E σ τ (.ref (E.2.2 + q) :: As) post) (w : gx_Wv own idx y cc' mL ret n) {ci N : Nat} {T : u_T} {fds : List (Option (Option Nat))} (hT : tb[q]? = some (.inl (ci, fds))) (hC : gx_C ci y.cls T N) (hR : d + 1 ≤ R.frames ∧ 8 + (mL + 11) + 40 * d ≤ R.locals) (hn : As.length = n) (hls : ls.size = nL) (hst : st = As.reverse ++ .ref (E.2.2 + q) :: rest) (hW : (rest.map fun v => v.category).sum ≤ 8) (hf : cells + 0 ≤ R.cells ∧ slots + 0 ≤ R.slots) (hdg : decode cc pc = .ok (.invokevirtual idx, 3))
    (kk : ∀ (σ' : gI) (τ' : gJ) (H1 : Heap) (locs1 : List Loc), post σ' τ' → gx_W tb n0 E s σ' τ' H1 locs1 → W p l e R s m args below meth c H1 locs1 cells slots Q (F0 m (pc + 3) ls (rest))) : W p l e R s m args below meth c H locs cells slots Q (F0 m pc ls st) := by
  subst hst
  refine va_callv (va_runV (As := As) (rest := rest) (b := E.2.2 + q) S (M H.size) (cwV n S.2.2.2.2 (gx_goodV w) rfl rfl rfl ⟨rfl, w.2⟩ hR) ⟨gx_blind, va_recv hK.1 hw.1 hC.1 (gx_at hT), fun U hU hW9 => ⟨rfl, by rw [hU], by rw [hU]; exact hw.1, gx_K.move hW9 hU hw hK⟩⟩ rfl hn hls rfl (lv_room hW) hdg hf) hw.2 (fun q1 _ h => gx_sub hA hw h) (fun q1 h => gx_sub hA hw h) ?_
  intro u t H1 locs1 ht hvm hp hB hz hk hS
  exact kk u.1 u.2 H1 locs1 hp ⟨by rw [← ht]; exact hB, hS⟩
theorem gx_cSv {post : gI → gJ → Prop} (S : CallFix p m c cc nL s args gx_G own) (hK : gx_K E s) (hA : gx_Ok tb n0 E s) (hw : gx_W tb n0 E s σ τ H locs) (M : gx_Mv l y cc' mL ret d tb E σ τ As post) (w : gx_Ws own idx y cc' mL ret n) (hR : d + 1 ≤ R.frames ∧ 8 + (mL + 11) + 40 * d ≤ R.locals) (hn : As.length = n) (hls : ls.size = nL) (hst : st = As.reverse ++ rest) (hW : (rest.map fun v => v.category).sum ≤ 8) (hf : cells + 0 ≤ R.cells ∧ slots + 0 ≤ R.slots) (hdg : decode cc pc = .ok (.invokestatic idx, 3))
    (kk : ∀ (σ' : gI) (τ' : gJ) (H1 : Heap) (locs1 : List Loc), post σ' τ' → gx_W tb n0 E s σ' τ' H1 locs1 → W p l e R s m args below meth c H1 locs1 cells slots Q (F0 m (pc + 3) ls (rest))) : W p l e R s m args below meth c H locs cells slots Q (F0 m pc ls st) := by
  subst hst
  refine va_callv (va_runS (As := As) (rest := rest) S (M H.size) (va_cwS n S.2.2.2.2 (gx_goodS w) rfl rfl rfl w.2 hR) ⟨gx_blind, fun U hU hW9 => ⟨rfl, by rw [hU], by rw [hU]; exact hw.1, gx_K.move hW9 hU hw hK⟩⟩ rfl hn hls rfl (lv_room hW) hdg hf) hw.2 (fun q1 _ h => gx_sub hA hw h) (fun q1 h => gx_sub hA hw h) ?_
  intro u t H1 locs1 ht hvm hp hB hz hk hS
  exact kk u.1 u.2 H1 locs1 hp ⟨by rw [← ht]; exact hB, hS⟩
theorem gx_max {x v : Int32} {w : Int32} (S : CallFix p m c cc nL s args gx_G own) (hls : ls.size = nL) (hl : Cond.methodLink own idx Lib.Math.max.name ∈ gx_G) (hs : Cond.static Lib.Math.max.name ∈ gx_G) (hi : Cond.initialized "java/lang/Math" ∈ gx_G) (hc : Cond.code Lib.Math.max.name Lib.Math.max.code 2 (some .int) ∈ gx_G) (hR : 1 ≤ R.frames ∧ (rest.map fun v => v.category).sum + 13 ≤ R.locals) (hf : cells ≤ R.cells ∧ slots ≤ R.slots) (hdg : decode cc pc = .ok (.invokestatic idx, 3)) (hv : (if x < v then v else x) = w)
    (kk : W p l e R s m args below meth c H locs cells slots Q (F0 m (pc + 3) ls (.int w :: rest))) : W p l e R s m args below meth c H locs cells slots Q (F0 m pc ls (.int v :: .int x :: rest)) := by
  subst hv
  exact va_mmax S.1 S.2.1 (S.2.2.1.trans hls.symm) S.2.2.2.1 (S.2.2.2.2 _ hl) (S.2.2.2.2 _ hs) (S.2.2.2.2 _ hi) (S.2.2.2.2 _ hc) hR.1 hR.2 hf.1 hf.2 hdg kk
theorem gx_min {x v : Int32} {w : Int32} (S : CallFix p m c cc nL s args gx_G own) (hls : ls.size = nL) (hl : Cond.methodLink own idx Lib.Math.min.name ∈ gx_G) (hs : Cond.static Lib.Math.min.name ∈ gx_G) (hi : Cond.initialized "java/lang/Math" ∈ gx_G) (hc : Cond.code Lib.Math.min.name Lib.Math.min.code 2 (some .int) ∈ gx_G) (hR : 1 ≤ R.frames ∧ (rest.map fun v => v.category).sum + 13 ≤ R.locals) (hf : cells ≤ R.cells ∧ slots ≤ R.slots) (hdg : decode cc pc = .ok (.invokestatic idx, 3)) (hv : (if v < x then v else x) = w)
    (kk : W p l e R s m args below meth c H locs cells slots Q (F0 m (pc + 3) ls (.int w :: rest))) : W p l e R s m args below meth c H locs cells slots Q (F0 m pc ls (.int v :: .int x :: rest)) := by
  subst hv
  exact va_mmin S.1 S.2.1 (S.2.2.1.trans hls.symm) S.2.2.2.1 (S.2.2.2.2 _ hl) (S.2.2.2.2 _ hs) (S.2.2.2.2 _ hi) (S.2.2.2.2 _ hc) hR.1 hR.2 hf.1 hf.2 hdg kk
end GK
/-! MAKING: the cells come one behind the other -/
def gx_isNest : Cond → Bool
  | .methodLinkNest _ _ _ _ => true
  | _ => false
def gx_nest : List Cond := [Cond.methodLinkNest RX11 11 yX7_init RX11, Cond.methodLinkNest RX11 18 yX8_init RX11, Cond.methodLinkNest RX11 28 yX10_init RX11, Cond.methodLinkNest RX11 45 yX2_init RX11, Cond.methodLinkNest RX11 52 yX6_init RX11, Cond.methodLinkNest RX3 15 yX6_init RX11, Cond.methodLinkNest RX11 73 yX0_init RX11, Cond.methodLinkNest RX11 80 yX4_init RX11, Cond.methodLinkNest RX9 24 yX6_init RX11, Cond.methodLinkNest RX9 155 yX11_kitchenOf RX11]
theorem gx_nest_ok : gx_nest.all gx_isNest = true := by decide +kernel
/-- what only the makers need of the tables -/
def gx_N (U : State) : Prop := (∀ w ∈ gx_nest, va_Nw w U) ∧ va_AO "DownTheGutter$Scene" U
theorem gx_N.warm {s U : State} (hW : s.WarmedH U.vm) (h : gx_N s) : gx_N U := by
  refine ⟨fun w hw => ?_, va_AO.moved hW.alike h.2⟩
  have h1 := h.1 w hw
  have h2 : gx_isNest w = true := List.all_eq_true.mp gx_nest_ok w hw
  cases w <;> first | exact va_Nw.warmM hW h1 | (exfalso; revert h2; simp [gx_isNest])
theorem gx_N.same {s U : State} (hV : s.vm = U.vm) (h : gx_N s) : gx_N U := by
  refine ⟨fun w hw => ?_, va_AO.moved (by rw [hV]; exact Vm.Alike.refl _) h.2⟩
  have h1 := h.1 w hw
  have h2 : gx_isNest w = true := List.all_eq_true.mp gx_nest_ok w hw
  cases w <;> first | exact va_Nw.same rfl hV h1 | (exfalso; revert h2; simp [gx_isNest])
section GN
variable {p : Program} {l : Launch} {e : Env} {R : Room} {s : State} {m : MethodId} {args : Array Value} {below : List Frame} {meth : Method} {c : Code} {H : Heap} {locs : List Loc} {cells slots : Nat} {Q : State → Prop}
variable {cc cc' : ByteArray} {pc nL mL d n idx n0 : Nat} {ls : Array Slot} {st rest As : List Value} {own : String} {tb tb' : List gD} {E : gE} {σ σ' : gI} {τ : gJ} {y : MethodName}
theorem gx_grow {H1 : Heap} {D : gD} (hw : gx_W tb n0 E s σ τ H locs) (hz : H.size = E.2.2 + tb.length) (z1 : H1.size = H.size + 1) (o1 : ∀ q, q < H.size → H1[q]? = H[q]?) (hn : va_at E.1.1 vwCl (E.2.2 + tb.length, gx_cell E σ τ tb.length D) H1) : gx_W (tb ++ [D]) n0 E s σ τ H1 locs ∧ H1.size = E.2.2 + (tb ++ [D]).length := by
  refine ⟨⟨?_, Nat.le_trans hw.2.1 (by omega), fun q h1 h2 => (o1 q (Nat.lt_of_lt_of_le h1 hw.2.1)).trans (hw.2.2.1 q h1 h2), hw.2.2.2⟩, by simp; omega⟩
  show va_P E.1.1 vwCl (gx_w (tb ++ [D]) E σ τ) H1
  rw [gx_w_push]
  refine (hw.1.kept (fun k x hx => o1 x.1 ((hw.1 k x hx).lt))).app (fun k x hx => ?_)
  have hz : k < 1 := (List.getElem?_eq_some_iff.mp hx).1
  rw [show k = 0 by omega] at hx
  cases hx
  exact hn
/-- new -/
theorem gx_new (S : CallFix p m c cc nL s args gx_G own) (hK : gx_K E s) (hw : gx_W tb n0 E s σ τ H locs) (hz : H.size = E.2.2 + tb.length) {ci N : Nat} {C : String} {T : u_T} (hC : gx_C ci C T N) (ty : Nat → FieldType) (hty : ∀ k, k < N → parseFieldDescriptor (T k).2.2.1 = some (ty k)) (fds : List (Option (Option Nat))) (hfs : ∀ j, j < N → defaultValue (ty j) = vp_V (gx_fv E.2.2 (fun _ => 0) 0 fds) j) (h0 : σ tb.length = fun _ => 0) (hcl : Cond.classLink own idx C ∈ gx_G) (hin : Cond.instantiable C N ∈ gx_G) (hini : Cond.initialized C ∈ gx_G) (hf : cells + 1 ≤ R.cells ∧ slots + N ≤ R.slots) (hdg : decode cc pc = .ok (.new idx, 3))
    (kk : ∀ H1 : Heap, gx_W (tb ++ [(Sum.inl (ci, fds) : gD)]) n0 E s σ τ H1 locs → H1.size = E.2.2 + (tb ++ [(Sum.inl (ci, fds) : gD)]).length → W p l e R s m args below meth c H1 locs (cells + 1) (slots + N) Q (F0 m (pc + 3) ls (.ref (E.2.2 + tb.length) :: rest))) : W p l e R s m args below meth c H locs cells slots Q (F0 m pc ls rest) := by
  obtain ⟨hx, hb, hml, hown, hts⟩ := S
  have hKn := hK.1.1 ci _ hC.1
  refine W.newcK hx hb hown (hts _ hcl) (hts _ hin) (hts _ hini) rfl hdg hf.1 hf.2 hKn.2.1 rfl fun H1 kC hkC e1 z1 o1 => ?_
  have h9 := gx_grow (D := .inl (ci, fds)) hw hz z1 o1 ?_
  · rw [hz]
    exact kk H1 h9.1 h9.2
  · refine ⟨_, hC.1, ?_⟩
    rw [hz] at e1
    rw [h0]
    exact (u_born ty hts hC.2.1 hKn hkC e1 hty).to hfs
theorem gx_cyI (hK : gx_K E s) {cA : ClassId} {k : Nat} {ty : FieldType} (h : (gx_ty E)[k]? = some (E.2.1 k, ty)) (hn : va_RA s (E.2.1 k) ty → s.vm.findClass ("[" ++ ty.toString) = some (E.2.1 k)) (hA : s.vm.findClass ("[" ++ ty.toString) = some cA) : cA = E.2.1 k :=
  Option.some.inj (hA.symm.trans (hn (hK.1.2 k _ h).2))
/-- an array of numbers -/
theorem gx_newI (S : CallFix p m c cc nL s args gx_G own) (hK : gx_K E s) (hw : gx_W tb n0 E s σ τ H locs) (hz : H.size = E.2.2 + tb.length) {k : Int32} {N : Nat} (hn : ¬ k < 0) (hN : k.toNatClampNeg = N) (hby : N ≤ 100000) (h0 : σ tb.length = fun _ => 0) (har : Cond.arrayClass .int ∈ gx_G) (hf : cells + 1 ≤ R.cells ∧ slots + N ≤ R.slots) (hdg : decode cc pc = .ok (.newarray .int, 2))
    (kk : ∀ H1 : Heap, gx_W (tb ++ [(Sum.inr (0, N, []) : gD)]) n0 E s σ τ H1 locs → H1.size = E.2.2 + (tb ++ [(Sum.inr (0, N, []) : gD)]).length → W p l e R s m args below meth c H1 locs (cells + 1) (slots + N) Q (F0 m (pc + 2) ls (.ref (E.2.2 + tb.length) :: rest))) : W p l e R s m args below meth c H locs cells slots Q (F0 m pc ls (.int k :: rest)) := by
  obtain ⟨hx, hb, hml, hown, hts⟩ := S
  refine va_newaK hx hb (atype := .int) (hts _ har) rfl hdg rfl hn hN (by show N * 4 ≤ _; omega) hf.1 hf.2 rfl fun H1 cA e1 z1 o1 _ hNm => ?_
  obtain rfl := gx_cyI hK (k := 0) (ty := .int) rfl (fun h => h) hNm
  have h9 := gx_grow (D := .inr (0, N, [])) hw hz z1 o1 ?_
  · rw [hz]
    exact kk H1 h9.1 h9.2
  · rw [hz] at e1
    show H1[E.2.2 + tb.length]? = some (vp_cell _ (N, .inl (σ tb.length)))
    rw [h0, vp_cell_i]
    exact e1
theorem gx_newZ (S : CallFix p m c cc nL s args gx_G own) (hK : gx_K E s) (hw : gx_W tb n0 E s σ τ H locs) (hz : H.size = E.2.2 + tb.length) {k : Int32} {N : Nat} (hn : ¬ k < 0) (hN : k.toNatClampNeg = N) (hby : N ≤ 100000) (h0 : σ tb.length = fun _ => 0) (har : Cond.arrayClass .boolean ∈ gx_G) (hf : cells + 1 ≤ R.cells ∧ slots + N ≤ R.slots) (hdg : decode cc pc = .ok (.newarray .boolean, 2))
    (kk : ∀ H1 : Heap, gx_W (tb ++ [(Sum.inr (2, N, []) : gD)]) n0 E s σ τ H1 locs → H1.size = E.2.2 + (tb ++ [(Sum.inr (2, N, []) : gD)]).length → W p l e R s m args below meth c H1 locs (cells + 1) (slots + N) Q (F0 m (pc + 2) ls (.ref (E.2.2 + tb.length) :: rest))) : W p l e R s m args below meth c H locs cells slots Q (F0 m pc ls (.int k :: rest)) := by
  obtain ⟨hx, hb, hml, hown, hts⟩ := S
  refine va_newaK hx hb (atype := .boolean) (hts _ har) rfl hdg rfl hn hN (by show N * 1 ≤ _; omega) hf.1 hf.2 rfl fun H1 cA e1 z1 o1 _ hNm => ?_
  obtain rfl := gx_cyI hK (k := 2) (ty := .boolean) rfl (fun h => h) hNm
  have h9 := gx_grow (D := .inr (2, N, [])) hw hz z1 o1 ?_
  · rw [hz]
    exact kk H1 h9.1 h9.2
  · rw [hz] at e1
    show H1[E.2.2 + tb.length]? = some (vp_cell _ (N, .inl (σ tb.length)))
    rw [h0, vp_cell_i]
    exact e1
theorem gx_newJ (S : CallFix p m c cc nL s args gx_G own) (hK : gx_K E s) (hw : gx_W tb n0 E s σ τ H locs) (hz : H.size = E.2.2 + tb.length) {k : Int32} {N : Nat} (hn : ¬ k < 0) (hN : k.toNatClampNeg = N) (hby : N ≤ 100000) (h0 : τ tb.length = fun _ => 0) (har : Cond.arrayClass .long ∈ gx_G) (hf : cells + 1 ≤ R.cells ∧ slots + N ≤ R.slots) (hdg : decode cc pc = .ok (.newarray .long, 2))
    (kk : ∀ H1 : Heap, gx_W (tb ++ [(Sum.inr (1, N, []) : gD)]) n0 E s σ τ H1 locs → H1.size = E.2.2 + (tb ++ [(Sum.inr (1, N, []) : gD)]).length → W p l e R s m args below meth c H1 locs (cells + 1) (slots + N) Q (F0 m (pc + 2) ls (.ref (E.2.2 + tb.length) :: rest))) : W p l e R s m args below meth c H locs cells slots Q (F0 m pc ls (.int k :: rest)) := by
  obtain ⟨hx, hb, hml, hown, hts⟩ := S
  refine va_newaK hx hb (atype := .long) (hts _ har) rfl hdg rfl hn hN (by show N * 8 ≤ _; omega) hf.1 hf.2 rfl fun H1 cA e1 z1 o1 _ hNm => ?_
  obtain rfl := gx_cyI hK (k := 1) (ty := .long) rfl (fun h => h) hNm
  have h9 := gx_grow (D := .inr (1, N, [])) hw hz z1 o1 ?_
  · rw [hz]
    exact kk H1 h9.1 h9.2
  · rw [hz] at e1
    show H1[E.2.2 + tb.length]? = some (vp_cell _ (N, .inr (.inl (τ tb.length))))
    rw [h0]
    exact e1
/-- a field is written in a maker: the table may change, the heap's size stays -/
theorem gx_putC (S : CallFix p m c cc nL s args gx_G own) (hK : gx_K E s) (hA : gx_Ok tb n0 E s) (hw : gx_W tb n0 E s σ τ H locs) {q ci : Nat} {fds : List (Option (Option Nat))} (hT : tb[q]? = some (.inl (ci, fds))) {C : String} {T : u_T} {N : Nat} (hC : gx_C ci C T N) (k : Nat) (hk : k < N) (hkf : k < fds.length) {ref : String} (hlink : Cond.fieldLink own idx ref (T k).2.1 (T k).2.2.1 ∈ gx_G) (href : (T k).1 = ref) (hfin : (T k).2.2.2 = false ∨ ((T k).2.2.2 = true ∧ meth.name = "<init>" ∧ (T k).1 = own)) {ty : FieldType} {v : Value} (hd : parseFieldDescriptor (T k).2.2.1 = some ty) (hn : narrow ty v = v) (hfit : fits ty v = true) (D' : gD) (hD' : gx_cell E σ' τ q D' = .inr (ci, (gx_fv E.2.2 (σ q) 0 fds).set k v)) (ho : ∀ c' d1, c' ≠ q → gx_cell E σ' τ c' d1 = gx_cell E σ τ c' d1) (hdg : decode cc pc = .ok (.putfield idx, 3))
    (kk : ∀ (H1 : Heap) (locs1 : List Loc), gx_W (tb.set q D') n0 E s σ' τ H1 locs1 → H1.size = H.size → W p l e R s m args below meth c H1 locs1 cells slots Q (F0 m (pc + 3) ls rest)) : W p l e R s m args below meth c H locs cells slots Q (F0 m pc ls (v :: .ref (E.2.2 + q) :: rest)) := by
  obtain ⟨hx, hb, hml, hown, hts⟩ := S
  subst href
  obtain ⟨ty0, hty⟩ := hC.2.2.2
  have hap := va_apart (own := own) hts hC.2.1 ty0 hty hC.2.2.1 hK.1 hC.1
  obtain ⟨r, h1, cell, q1, q2, q3, q4⟩ := hw.1 q _ (gx_at hT)
  have hr : r = (C, T, N) := Option.some.inj (h1.symm.trans hC.1)
  subst hr
  obtain ⟨hS, hfc, kC, hkC, hkind⟩ := hK.1.1 ci _ hC.1
  obtain ⟨cf, kf, fi, f, hi, hsl⟩ := hS k hk
  have hlay := hts _ (hC.2.1 _ (u_in_lay hk))
  have hst := (u_facts hfc hkC (u_lays hts hC.2.1 hk) hi).1
  have hl : k < (gx_fv E.2.2 (σ q) 0 fds).length := by rw [gx_fv_len]; exact hkf
  have fin : ∀ (H' : Heap) (L : List Loc), H'[E.2.2 + q]? = some (cell.setSlot f.slot v) → H'.size = H.size → (∀ q9, q9 ≠ E.2.2 + q → H'[q9]? = H[q9]?) → L = locs ++ [⟨E.2.2 + q, f.slot⟩] → W p l e R s m args below meth c H' L cells slots Q (F0 m (pc + 3) ls rest) := by
    intro H' L e1 e2 e3 eL
    subst eL
    rw [hsl] at e1
    refine kk H' _ ⟨?_, ?_⟩ e2
    · have hP := hw.1.set (gx_Dn hA) (gx_at hT) (e := .inr (ci, (gx_fv E.2.2 (σ q) 0 fds).set k v)) ⟨_, hC.1, t_OB.to (V := updV (vp_V (gx_fv E.2.2 (σ q) 0 fds)) k v) ⟨_, e1, q2, q3, t_set q4 hap hk v⟩ (fun j _ => vp_updV_set hl v j)⟩ e3
      rw [← hD', gx_w_set (gx_len hT) ho] at hP
      exact hP
    · exact hw.2.put e2 e3 (hA q (gx_len hT))
  rcases hfin with hfin | ⟨hfin, hin2, hdecl⟩
  · unfold u_lay at hlay
    rw [if_neg (by rw [hfin]; decide)] at hlay
    have h6 := u_store hfc hkC hkind hlay hi hd hn hfit
    exact W.putK hx hb (f := f) ⟨hown, hts _ hlink, ⟨_, _, _, hi⟩, hst⟩ (by rw [q2]; exact h6) q1 q3 (by rw [hsl]; exact k2_hasslot (q4 k hk)) rfl rfl hdg fun H' e1 e2 e3 => fin H' _ e1 e2 e3 rfl
  · unfold u_lay at hlay
    rw [if_pos hfin] at hlay
    have hcf : m.cls = cf := by
      obtain ⟨_, _, c', _, _, _, -, -, hf', -, -, -, hown2, -⟩ := Cond.laysFinal_spec hlay
      have e1 : c' = cf := by have := hi.symm.trans hf'; simp at this; exact this.1.symm
      rw [hdecl] at hown2
      rw [← e1]; exact Option.some.inj (hown.symm.trans hown2)
    have h6 := u_fits hfc hkC hkind (Or.inr hlay) hi hd hn hfit
    exact W.putFinK hx hb hown (hts _ hlink) hi hst hcf hin2 (by rw [q2]; exact h6) q1 q3 (by rw [hsl]; exact k2_hasslot (q4 k hk)) rfl rfl hdg fun H' e1 e2 e3 => fin H' _ e1 e2 e3 rfl
theorem gx_cellr {fds : List (Option (Option Nat))} {k j q ci : Nat} (hk : k < fds.length) : gx_cell E σ τ q (.inl (ci, fds.set k (some (some j)))) = .inr (ci, (gx_fv E.2.2 (σ q) 0 fds).set k (.ref (E.2.2 + j))) := by
  show (Sum.inr (ci, gx_fv E.2.2 (σ q) 0 (fds.set k (some (some j)))) : va_E) = _
  rw [← gx_fv_set E.2.2 (σ q) (σ q) fds k (some (some j)) hk (fun _ _ => rfl)]
  rfl
theorem gx_celli {fds : List (Option (Option Nat))} {k q ci : Nat} {v : Int32} (hf : fds[k]? = some none) : gx_cell E (up2 σ q k v) τ q (.inl (ci, fds)) = .inr (ci, (gx_fv E.2.2 (σ q) 0 fds).set k (.int v)) := by
  show (Sum.inr (ci, gx_fv E.2.2 (up2 σ q k v q) 0 fds) : va_E) = _
  have h2 := gx_fv_set E.2.2 (σ q) (up2 σ q k v q) fds k none (gx_len hf) (fun j hj => by simp [up2, hj])
  rw [gx_set_same hf] at h2
  rw [← h2]
  simp [gx_v, up2]
/-- a reference into a field, in a maker -/
theorem gx_putF (S : CallFix p m c cc nL s args gx_G own) (hK : gx_K E s) (hA : gx_Ok tb n0 E s) (hw : gx_W tb n0 E s σ τ H locs) {q ci : Nat} {fds : List (Option (Option Nat))} (hT : tb[q]? = some (.inl (ci, fds))) {C : String} {T : u_T} {N : Nat} (hC : gx_C ci C T N) (k : Nat) (hk : k < N) (hkf : k < fds.length) {ref : String} (hlink : Cond.fieldLink own idx ref (T k).2.1 (T k).2.2.1 ∈ gx_G) (href : (T k).1 = ref) (hfin : (T k).2.2.2 = true ∧ meth.name = "<init>" ∧ (T k).1 = own) {ty : FieldType} {j : Nat} (hd : parseFieldDescriptor (T k).2.2.1 = some ty) (hn : narrow ty (.ref (E.2.2 + j)) = .ref (E.2.2 + j)) (hfit : fits ty (.ref (E.2.2 + j)) = true) (hdg : decode cc pc = .ok (.putfield idx, 3))
    (kk : ∀ (H1 : Heap) (locs1 : List Loc), gx_W (tb.set q (.inl (ci, fds.set k (some (some j))))) n0 E s σ τ H1 locs1 → H1.size = H.size → W p l e R s m args below meth c H1 locs1 cells slots Q (F0 m (pc + 3) ls rest)) : W p l e R s m args below meth c H locs cells slots Q (F0 m pc ls (.ref (E.2.2 + j) :: .ref (E.2.2 + q) :: rest)) :=
  gx_putC S hK hA hw hT hC k hk hkf hlink href (Or.inr hfin) hd hn hfit _ (gx_cellr hkf) (fun _ _ _ => rfl) hdg kk
/-- a number into a field, in a maker -/
theorem gx_putI (S : CallFix p m c cc nL s args gx_G own) (hK : gx_K E s) (hA : gx_Ok tb n0 E s) (hw : gx_W tb n0 E s σ τ H locs) {q ci : Nat} {fds : List (Option (Option Nat))} (hT : tb[q]? = some (.inl (ci, fds))) {C : String} {T : u_T} {N : Nat} (hC : gx_C ci C T N) (k : Nat) (hk : k < N) (hf : fds[k]? = some none) {ref : String} (hlink : Cond.fieldLink own idx ref (T k).2.1 (T k).2.2.1 ∈ gx_G) (href : (T k).1 = ref) (hfin : (T k).2.2.2 = false) {ty : FieldType} {v : Int32} (hd : parseFieldDescriptor (T k).2.2.1 = some ty) (hn : narrow ty (.int v) = .int v) (hfit : fits ty (.int v) = true) (hdg : decode cc pc = .ok (.putfield idx, 3))
    (kk : ∀ (H1 : Heap) (locs1 : List Loc), gx_W tb n0 E s (up2 σ q k v) τ H1 locs1 → H1.size = H.size → W p l e R s m args below meth c H1 locs1 cells slots Q (F0 m (pc + 3) ls rest)) : W p l e R s m args below meth c H locs cells slots Q (F0 m pc ls (.int v :: .ref (E.2.2 + q) :: rest)) := by
  refine gx_putC S hK hA hw hT hC k hk (gx_len hf) hlink href (Or.inl hfin) hd hn hfit (.inl (ci, fds)) (gx_celli hf) (fun c' d1 h => gx_cell_other c' d1 h) hdg (fun H1 locs1 h1 h2 => kk H1 locs1 ?_ h2)
  rw [gx_set_same hT] at h1
  exact h1
theorem gx_iastC (S : CallFix p m c cc nL s args gx_G own) (hK : gx_K E s) (hA : gx_Ok tb n0 E s) (hw : gx_W tb n0 E s σ τ H locs) {q n : Nat} {rs : List (Option Nat)} (hT : tb[q]? = some (.inr (0, n, rs))) {i x : Int32} (j : Nat) (hj : i.toNatClampNeg = j) (hin : vp_in i n) (hdg : decode cc pc = .ok (.iastore, 1))
    (kk : ∀ (H1 : Heap) (locs1 : List Loc), gx_W tb n0 E s (up2 σ q j x) τ H1 locs1 → H1.size = H.size → W p l e R s m args below meth c H1 locs1 cells slots Q (F0 m (pc + 1) ls rest)) : W p l e R s m args below meth c H locs cells slots Q (F0 m pc ls (.int x :: .int i :: .ref (E.2.2 + q) :: rest)) := by
  subst hj
  refine W.iast S.1 S.2.1 (hw.1 q _ (gx_at hT)) ((hK.1.2 0 _ rfl).1 n (fun j => .int (σ q j))) (fun q => by cases q) (by show ¬ (i < 0 ∨ (arrV _ _ _).slots.size ≤ _); rw [arrV_size]; exact hin) rfl rfl hdg fun H1 e z oq => ?_
  refine kk H1 _ ⟨?_, hw.2.put z oq (hA q (gx_len hT))⟩ z
  have e1 : gx_cell E (up2 σ q i.toNatClampNeg x) τ q (.inr (0, n, rs)) = .inl (E.2.1 0, n, .inl (upd (σ q) i.toNatClampNeg x)) := by
    show (Sum.inl (E.2.1 0, n, Sum.inl (up2 σ q i.toNatClampNeg x q)) : va_E) = _
    rw [up2_upd]
  have hP := hw.1.set (gx_Dn hA) (gx_at hT) (e := .inl (E.2.1 0, n, .inl (upd (σ q) i.toNatClampNeg x))) (H1 := H1) ?_ oq
  · rw [← e1, gx_w_set (gx_len hT) (fun c' d1 h => gx_cell_other c' d1 h), gx_set_same hT] at hP
    exact hP
  · show H1[E.2.2 + q]? = some (vp_cell _ _)
    rw [e]
    show some ((vp_cell (E.2.1 0) (n, .inl (σ q))).setSlot _ _) = _
    rw [vp_cell_i, vp_cell_i, arrV_store]
    congr 2
    funext k
    by_cases hq : k = i.toNatClampNeg
    · subst hq
      simp [updV, upd]
    · simp [updV, upd, hq]
/-- an array of Scenes -/
theorem gx_newS (S : CallFix p m c cc nL s args gx_G own) (hK : gx_K E s) (hN9 : gx_N s) (hw : gx_W tb n0 E s σ τ H locs) (hz : H.size = E.2.2 + tb.length) {k : Int32} {N : Nat} (hn : ¬ k < 0) (hN : k.toNatClampNeg = N) (hby : N ≤ 100000) (hcl : Cond.classLink own idx "DownTheGutter$Scene" ∈ gx_G) (hf : cells + 1 ≤ R.cells ∧ slots + N ≤ R.slots) (hdg : decode cc pc = .ok (.anewarray idx, 3))
    (kk : ∀ H1 : Heap, gx_W (tb ++ [(Sum.inr (3, N, List.replicate N none) : gD)]) n0 E s σ τ H1 locs → H1.size = E.2.2 + (tb ++ [(Sum.inr (3, N, List.replicate N none) : gD)]).length → W p l e R s m args below meth c H1 locs (cells + 1) (slots + N) Q (F0 m (pc + 3) ls (.ref (E.2.2 + tb.length) :: rest))) : W p l e R s m args below meth c H locs cells slots Q (F0 m pc ls (.int k :: rest)) := by
  obtain ⟨hx, hb, hml, hown, hts⟩ := S
  subst hN
  refine W.anew hx hb hown (hts _ hcl) (va_AO.use hN9.2) rfl hdg rfl hn (by omega) hf.1 hf.2 fun cA kA comp f1 f2 f3 f4 => ?_
  obtain ⟨kA', comp', g1, g2, g3, g4⟩ := (hK.1.2 3 _ rfl).2
  have hcA : cA = E.2.1 3 := Option.some.inj (f1.symm.trans g4)
  subst hcA
  generalize hH1 : H.push ({ cls := E.2.1 3, slots := Array.replicate k.toNatClampNeg .null, vm := .none } : Cell) = H1
  have z1 : H1.size = H.size + 1 := by rw [← hH1, Array.size_push]
  have e1 : H1[H.size]? = some (arrV (E.2.1 3) k.toNatClampNeg (fun _ => .null)) := by rw [← hH1, Array.getElem?_push_size, ← arrV_new]
  have o1 : ∀ q : Nat, q < H.size → H1[q]? = H[q]? := fun q hq => by rw [← hH1, Array.getElem?_push, if_neg (Nat.ne_of_lt hq)]
  have h9 := gx_grow (D := .inr (3, k.toNatClampNeg, List.replicate k.toNatClampNeg none)) hw hz z1 o1 ?_
  · rw [hz]
    exact kk H1 h9.1 h9.2
  · rw [hz] at e1
    show H1[E.2.2 + tb.length]? = some (vp_cell _ _)
    rw [e1]
    show _ = some (vp_cell (E.2.1 3) (k.toNatClampNeg, .inr (.inr (.inr (.inr (fun i => (((List.replicate k.toNatClampNeg (none : Option Nat))[i]?).getD none).map (fun j => E.2.2 + j)))))))
    rw [vp_cell_q]
    congr 2
    funext j
    have h8 : ((List.replicate k.toNatClampNeg (none : Option Nat))[j]?).getD none = none := by
      rw [List.getElem?_replicate]
      split <;> rfl
    rw [h8]
    rfl
/-- a Scene into an array of Scenes -/
theorem gx_aastC (S : CallFix p m c cc nL s args gx_G own) (hK : gx_K E s) (hA : gx_Ok tb n0 E s) (hw : gx_W tb n0 E s σ τ H locs) {q n v : Nat} {rs : List (Option Nat)} (hT : tb[q]? = some (.inr (3, n, rs))) {fds : List (Option (Option Nat))} (hv : tb[v]? = some (.inl (7, fds))) {i : Int32} (j : Nat) (hj : i.toNatClampNeg = j) (hin : vp_in i n) (hrs : j < rs.length) (hdg : decode cc pc = .ok (.aastore, 1))
    (kk : ∀ (H1 : Heap) (locs1 : List Loc), gx_W (tb.set q (.inr (3, n, rs.set j (some v)))) n0 E s σ τ H1 locs1 → H1.size = H.size → W p l e R s m args below meth c H1 locs1 cells slots Q (F0 m (pc + 1) ls rest)) : W p l e R s m args below meth c H locs cells slots Q (F0 m pc ls (.ref (E.2.2 + v) :: .int i :: .ref (E.2.2 + q) :: rest)) := by
  subst hj
  have hlt : i.toNatClampNeg < n := Nat.not_le.mp fun q => hin (Or.inr q)
  have h0 : ¬ i < 0 := fun q => hin (Or.inl q)
  obtain ⟨r', hr', cellV, g1, g2, g3, -⟩ := hw.1 v _ (gx_at hv)
  have hcls := (hK.1.1 7 (RX6, TX6, 11) rfl).2
  obtain ⟨kA, comp, k1, k2, k3, -⟩ := (hK.1.2 3 _ rfl).2
  have hcomp : comp = E.1.1.1 7 := Option.some.inj (k3.symm.trans hcls.1)
  subst hcomp
  obtain ⟨kC, hkC, -⟩ := hcls.2
  refine W.aast S.1 S.2.1 (hw.1 q _ (gx_at hT)) (fun q h => by cases h) (fun h => by cases h) k1 k2 rfl hkC ⟨h0, by show _ < (arrV _ _ _).slots.size; rw [arrV_size]; exact hlt⟩ g1 (fun q h => by rw [g3] at h; cases h) (by rw [g2]; exact hkC) (by rw [g2]; exact va_assign hcls) rfl rfl hdg fun H1 e z oq => ?_
  refine kk H1 _ ⟨?_, hw.2.put z oq (hA q (gx_len hT))⟩ z
  have hP := hw.1.set (gx_Dn hA) (gx_at hT) (e := gx_cell E σ τ q (.inr (3, n, rs.set i.toNatClampNeg (some v)))) (H1 := H1) ?_ oq
  · rw [gx_w_set (gx_len hT) (fun c' d1 _ => rfl)] at hP
    exact hP
  · show H1[E.2.2 + q]? = some (vp_cell _ _)
    rw [e]
    show some ((vp_cell (E.2.1 3) (n, .inr (.inr (.inr (.inr (fun i => (rs[i]?.getD none).map (fun j => E.2.2 + j))))))).setSlot _ _) = some (vp_cell (E.2.1 3) (n, .inr (.inr (.inr (.inr (fun k => ((rs.set i.toNatClampNeg (some v))[k]?.getD none).map (fun j => E.2.2 + j)))))))
    rw [vp_cell_q, vp_cell_q, arrV_store]
    congr 2
    funext k
    by_cases hq : k = i.toNatClampNeg
    · subst hq
      rw [List.getElem?_set_self hrs]
      simp [updV, va_rf]
    · rw [List.getElem?_set_ne (Ne.symm hq)]
      simp [updV, hq]
end GN
/-- a maker's contract: from a table, a picture to a table, a picture -/
def gx_rc (d mc ms : Nat) : Room := { frames := d, cells := mc, slots := ms, locals := 40 * d }
def gx_Pc (tb : List gD) (E : gE) (σ : gI) (τ : gJ) (U : State) : Prop := gx_Pre tb E σ τ (E.2.2 + tb.length) U ∧ gx_N U
def gx_Mc (l : Launch) (y : MethodName) (cc : ByteArray) (mL d mc ms : Nat) (tb tb' : List gD) (E : gE) (σ σ' : gI) (τ : gJ) (av : List Value) : Prop :=
  Met l y (Cond.code y cc mL none :: gx_G) (gx_rc d mc ms) (va_Pc av (gx_Pc tb E σ τ)) (va_Qv (fun (_ : Unit) => True) (fun _ t => gx_P tb' E σ' τ t.heap ∧ t.heap.size = E.2.2 + tb'.length) (gx_A tb.length E.2.2 (E.2.2 + tb.length))) mc ms (gx_A tb.length E.2.2 (E.2.2 + tb.length))
theorem gx_blindC {av : List Value} {tb : List gD} {E : gE} {σ : gI} {τ : gJ} : FrameBlind (va_Pc av (gx_Pc tb E σ τ)) := by
  intro a U g mk q
  obtain ⟨q0, ⟨q1, qP, qK⟩, qN⟩ := q
  exact ⟨q0, ⟨q1, qP, ⟨va_K.moved (u := U) (U := U.calling g mk a) (Vm.Alike.refl U.vm) qK.1, gx_Z.same (s := U) (U := U.calling g mk a) rfl qK.2⟩⟩, gx_N.same (s := U) (U := U.calling g mk a) rfl qN⟩
section GC
variable {p : Program} {l : Launch} {e : Env} {R : Room} {s : State} {m : MethodId} {args : Array Value} {below : List Frame} {meth : Method} {c : Code} {H : Heap} {locs : List Loc} {cells slots : Nat} {Q : State → Prop}
variable {cc cc' : ByteArray} {pc nL mL d n idx n0 mc ms : Nat} {ls : Array Slot} {st rest As av : List Value} {own : String} {tb tb' : List gD} {E : gE} {σ σ' : gI} {τ : gJ} {y : MethodName}
theorem gx_bc (hy : plainName y.cls = true) (hlen : (lg_sl av).length ≤ mL)
    (body : ∀ (p : Program) (e : Env) (s : State) (m : MethodId) (below : List Frame) (meth : Method) (c : Code), CallFix p m c cc mL s av.toArray gx_G y.cls → meth.sig.returnType = none → meth.locks = false → meth.name = y.name → gx_K E s → gx_N s → s.heap.size = E.2.2 + tb.length → gx_W tb tb.length E s σ τ s.heap [] → ∀ ls : Array Slot, lv_has ls mL (lv_args 0 av) →
      W p l e (gx_rc d mc ms) s m av.toArray below meth c s.heap [] 0 0 (MQ below (va_Qv (fun (_ : Unit) => True) (fun _ t => gx_P tb' E σ' τ t.heap ∧ t.heap.size = E.2.2 + tb'.length) (gx_A tb.length E.2.2 s.heap.size)) av.toArray s mc ms (gx_A tb.length E.2.2 s.heap.size)) (F0 m 0 ls [])) : gx_Mc l y cc mL d mc ms tb tb' E σ σ' τ av := by
  refine gx_begin (Qc := fun sz => va_Qv (fun (_ : Unit) => True) (fun _ t => gx_P tb' E σ' τ t.heap ∧ t.heap.size = E.2.2 + tb'.length) (gx_A tb.length E.2.2 sz)) (A := fun sz => gx_A tb.length E.2.2 sz) hy (fun a U h => h.1) hlen (fun a U h => h.2.1.1) ?_
  intro p e s m below meth c S hr hlk hnm hv hz ls hl
  exact body p e s m below meth c S hr hlk hnm hv.2.1.2.2 hv.2.2 hz ⟨hv.2.1.2.1, va_S.rf⟩ ls hl
theorem gx_rc9 (S : CallFix p m c cc nL s args gx_G own) (hr : meth.sig.returnType = none) (hlk : meth.locks = false) (hw : gx_W tb' tb.length E s σ' τ H locs) (hz : H.size = E.2.2 + tb'.length) (hdg : decode cc pc = .ok (.return_, 1)) :
    W p l e R s m args below meth c H locs mc ms (MQ below (va_Qv (fun (_ : Unit) => True) (fun _ t => gx_P tb' E σ' τ t.heap ∧ t.heap.size = E.2.2 + tb'.length) (gx_A tb.length E.2.2 s.heap.size)) args s mc ms (gx_A tb.length E.2.2 s.heap.size)) (F0 m pc ls []) :=
  W.vret S.1 S.2.1 hr (fun t ht _ => ⟨⟨(), rfl, trivial, by rw [ht]; exact hw.1, by rw [ht]; exact hz⟩, hw.2.F ht⟩) hw.2.2.2 hdg hlk
theorem gx_goodM {y : MethodName} {cc : ByteArray} {mL : Nat} (h : Cond.code y cc mL none ∈ gx_G) : GoodIn gx_G (Cond.code y cc mL none :: gx_G) := by
  intro w hw
  rcases List.mem_cons.mp hw with rfl | hw
  · exact ⟨h, gx_good h⟩
  · exact ⟨hw, gx_good hw⟩
def gx_Wi (own : String) (idx : Nat) (y : MethodName) (cc : ByteArray) (mL : Nat) (n : Nat) : Prop := (Cond.methodLink own idx y ∈ gx_G ∧ Cond.instanceMethod y ∈ gx_G ∧ Cond.initialized y.cls ∈ gx_G ∧ Cond.code y cc mL none ∈ gx_G) ∧ y.name = "<init>" ∧ y.cls ≠ "java/lang/invoke/MethodHandle" ∧ y.cls ≠ "java/lang/invoke/VarHandle" ∧ (parseMethodDescriptor y.desc).map (fun d => d.parameters.length) = some n
def gx_Wn (own : String) (idx : Nat) (y : MethodName) (host : String) (cc : ByteArray) (mL : Nat) (n : Nat) : Prop := (Cond.methodLinkNest own idx y host ∈ gx_nest ∧ Cond.instanceMethod y ∈ gx_G ∧ Cond.initialized y.cls ∈ gx_G ∧ Cond.code y cc mL none ∈ gx_G) ∧ y.name = "<init>" ∧ y.cls ≠ "java/lang/invoke/MethodHandle" ∧ y.cls ≠ "java/lang/invoke/VarHandle" ∧ (parseMethodDescriptor y.desc).map (fun d => d.parameters.length) = some n
/-- a maker is called -/
theorem gx_cI {q : Nat} (S : CallFix p m c cc nL s args gx_G own) (hK : gx_K E s) (hN9 : gx_N s) (hA : gx_Ok tb n0 E s) (hw : gx_W tb n0 E s σ τ H locs) (hz : H.size = E.2.2 + tb.length) (M : gx_Mc l y cc' mL d mc ms tb tb' E σ σ' τ (.ref (E.2.2 + q) :: As)) (w : gx_Wi own idx y cc' mL n) (hR : d + 1 ≤ R.frames ∧ 8 + (mL + 11) + 40 * d ≤ R.locals) (hn : As.length = n) (hls : ls.size = nL) (hst : st = As.reverse ++ .ref (E.2.2 + q) :: rest) (hW : (rest.map fun v => v.category).sum ≤ 8) (hf : cells + mc ≤ R.cells ∧ slots + ms ≤ R.slots) (hdg : decode cc pc = .ok (.invokespecial idx, 3))
    (kk : ∀ (H1 : Heap) (locs1 : List Loc), gx_W tb' n0 E s σ' τ H1 locs1 → H1.size = E.2.2 + tb'.length → W p l e R s m args below meth c H1 locs1 (cells + mc) (slots + ms) Q (F0 m (pc + 3) ls rest)) : W p l e R s m args below meth c H locs cells slots Q (F0 m pc ls st) := by
  subst hst
  obtain ⟨⟨h1, h2, h3, h4⟩, h5, h6⟩ := w
  refine va_callv (va_runI (As := As) (rest := rest) (b := E.2.2 + q) S M (cwI n S.2.2.2.2 (gx_goodM h4) rfl rfl rfl (S.2.2.2.2 _ h3) (S.2.2.2.2 _ h1) (S.2.2.2.2 _ h2) h5 h6 hR) ⟨gx_blindC, fun U hU hW9 => ⟨rfl, ⟨by rw [hU]; exact hz, by rw [hU]; exact hw.1, gx_K.move hW9 hU hw hK⟩, gx_N.warm hW9 hN9⟩⟩ rfl hn hls rfl (lv_room hW) hdg hf) hw.2 (fun q1 _ h => gx_sub hA hw (by rw [hz]; exact h)) (fun q1 h => gx_sub hA hw (by rw [hz]; exact h)) ?_
  intro u t H1 locs1 ht hvm hp hB _ hk hS
  exact kk H1 locs1 ⟨by rw [← ht]; exact hB.1, hS⟩ (by rw [← ht]; exact hB.2)
theorem gx_cN {q : Nat} {host : String} (S : CallFix p m c cc nL s args gx_G own) (hK : gx_K E s) (hN9 : gx_N s) (hA : gx_Ok tb n0 E s) (hw : gx_W tb n0 E s σ τ H locs) (hz : H.size = E.2.2 + tb.length) (M : gx_Mc l y cc' mL d mc ms tb tb' E σ σ' τ (.ref (E.2.2 + q) :: As)) (w : gx_Wn own idx y host cc' mL n) (hR : d + 1 ≤ R.frames ∧ 8 + (mL + 11) + 40 * d ≤ R.locals) (hn : As.length = n) (hls : ls.size = nL) (hst : st = As.reverse ++ .ref (E.2.2 + q) :: rest) (hW : (rest.map fun v => v.category).sum ≤ 8) (hf : cells + mc ≤ R.cells ∧ slots + ms ≤ R.slots) (hdg : decode cc pc = .ok (.invokespecial idx, 3))
    (kk : ∀ (H1 : Heap) (locs1 : List Loc), gx_W tb' n0 E s σ' τ H1 locs1 → H1.size = E.2.2 + tb'.length → W p l e R s m args below meth c H1 locs1 (cells + mc) (slots + ms) Q (F0 m (pc + 3) ls rest)) : W p l e R s m args below meth c H locs cells slots Q (F0 m pc ls st) := by
  subst hst
  obtain ⟨⟨h1, h2, h3, h4⟩, h5, h6⟩ := w
  refine va_callv (va_runIN (As := As) (rest := rest) (b := E.2.2 + q) S M ⟨va_cnB n S.2.2.2.2 (gx_goodM h4) rfl rfl rfl (hN9.1 _ h1) (S.2.2.2.2 _ h3) h6 hR, h5, S.2.2.2.2 _ h2⟩ ⟨gx_blindC, fun U hU hW9 => ⟨rfl, ⟨by rw [hU]; exact hz, by rw [hU]; exact hw.1, gx_K.move hW9 hU hw hK⟩, gx_N.warm hW9 hN9⟩⟩ rfl hn hls rfl (lv_room hW) hdg hf) hw.2 (fun q1 _ h => gx_sub hA hw (by rw [hz]; exact h)) (fun q1 h => gx_sub hA hw (by rw [hz]; exact h)) ?_
  intro u t H1 locs1 ht hvm hp hB _ hk hS
  exact kk H1 locs1 ⟨by rw [← ht]; exact hB.1, hS⟩ (by rw [← ht]; exact hB.2)
/-- Object.<init> -/
theorem gx_obj {q : Nat} (S : CallFix p m c cc nL s args gx_G own) (hl : Cond.methodLink own idx objectInit ∈ gx_G) (hi : Cond.instanceMethod objectInit ∈ gx_G) (hc : Cond.code objectInit ⟨#[0xb1]⟩ 1 none ∈ gx_G) (hls : ls.size = nL) (hdg : decode cc pc = .ok (.invokespecial idx, 3)) (hR : 1 ≤ R.frames ∧ (rest.map fun v => v.category).sum + 12 ≤ R.locals) (kk : W p l e R s m args below meth c H locs cells slots Q (F0 m (pc + 3) ls rest)) : W p l e R s m args below meth c H locs cells slots Q (F0 m pc ls (.ref q :: rest)) :=
  W.objInit S.1 S.2.1 S.2.2.2.1 (S.2.2.2.2 _ hl) (S.2.2.2.2 _ hi) (S.2.2.2.2 _ hc) rfl (hls.trans S.2.2.1.symm) rfl hdg hR.1 (by show 2 * 0 + _ + 12 ≤ _; rw [Nat.mul_zero, Nat.zero_add]; exact hR.2) kk
end GC
/-! TEXT CONSTANTS -/
section GS
variable {p : Program} {l : Launch} {e : Env} {R : Room} {s : State} {m : MethodId} {args : Array Value} {below : List Frame} {meth : Method} {c : Code} {H : Heap} {locs : List Loc} {cells slots : Nat} {Q : State → Prop}
variable {cc cc' : ByteArray} {pc nL mL d n idx n0 i : Nat} {ls : Array Slot} {st rest As : List Value} {own : String} {tb : List gD} {E : gE} {σ : gI} {τ : gJ} {y : MethodName} {ret : Option FieldType} {q : String × Nat × String × List Int32}
theorem gx_SB (hK : gx_K E s) (hw : gx_W tb n0 E s σ τ H locs) : va_S (gx_B E) s.heap H locs := by
  have hz : E.2.2 ≤ s.heap.size := hK.2.2.2.2.2
  have hAB : ∀ a, gx_A n0 E.2.2 s.heap.size a → gx_B E a := fun a h => by
    rcases h with h | h
    · exact h.1
    · exact Nat.le_trans hz h
  exact ⟨hw.2.1, fun a h1 h2 => hw.2.2.1 a h1 (fun h => h2 (hAB a h)), fun a h => hAB _ (hw.2.2.2 a h)⟩
theorem gx_lds (S : CallFix p m c cc nL s args gx_G own) (hK : gx_K E s) (hq : gx_ss[i]? = some q) (hown : q.1 = own) (hdg : decode cc pc = .ok (.ldc q.2.1, 2))
    (kk : W p l e R s m args below meth c H locs cells slots Q (F0 m (pc + 2) ls (.ref (E.1.2.1 i) :: rest))) : W p l e R s m args below meth c H locs cells slots Q (F0 m pc ls rest) := by
  subst hown
  exact va_ldcS S.1 S.2.1 S.2.2.2.1 (hK.2.1 i q hq).2 hdg kk
theorem gx_scod (S : CallFix p m c cc nL s args gx_G own) (hK : gx_K E s) (hw : gx_W tb n0 E s σ τ H locs) (hq : gx_ss[i]? = some q) (hl : Cond.fieldLink own idx "java/lang/String" "coder" "B" ∈ gx_G) (hdg : decode cc pc = .ok (.getfield idx, 3))
    (kk : W p l e R s m args below meth c H locs cells slots Q (F0 m (pc + 3) ls (.int 0 :: rest))) : W p l e R s m args below meth c H locs cells slots Q (F0 m pc ls (.ref (E.1.2.1 i) :: rest)) :=
  vk_getf S.1 S.2.1 ((hK.2.1 i q hq).1.1 0 (by decide)).2.1 (gx_SB hK hw) S.2.2.2.1 (S.2.2.2.2 _ hl) (fun _ h => h) hdg kk
theorem gx_sval (S : CallFix p m c cc nL s args gx_G own) (hK : gx_K E s) (hw : gx_W tb n0 E s σ τ H locs) (hq : gx_ss[i]? = some q) (hl : Cond.fieldLink own idx "java/lang/String" "value" "[B" ∈ gx_G) (hdg : decode cc pc = .ok (.getfield idx, 3))
    (kk : W p l e R s m args below meth c H locs cells slots Q (F0 m (pc + 3) ls (.ref (E.1.2.2 i) :: rest))) : W p l e R s m args below meth c H locs cells slots Q (F0 m pc ls (.ref (E.1.2.1 i) :: rest)) :=
  vk_getf S.1 S.2.1 ((hK.2.1 i q hq).1.1 0 (by decide)).2.2.1 (gx_SB hK hw) S.2.2.2.1 (S.2.2.2.2 _ hl) (fun _ h => h) hdg kk
theorem gx_slen {v : Int32} (S : CallFix p m c cc nL s args gx_G own) (hK : gx_K E s) (hw : gx_W tb n0 E s σ τ H locs) (hq : gx_ss[i]? = some q) (hv : Int32.ofNat q.2.2.2.length = v) (hdg : decode cc pc = .ok (.arraylength, 1))
    (kk : W p l e R s m args below meth c H locs cells slots Q (F0 m (pc + 1) ls (.int v :: rest))) : W p l e R s m args below meth c H locs cells slots Q (F0 m pc ls (.ref (E.1.2.2 i) :: rest)) :=
  va_tlen S.1 S.2.1 ((hK.2.1 i q hq).1.1 0 (by decide)).2.2.2 (gx_SB hK hw) hv hdg kk
theorem gx_cs (S : CallFix p m c cc nL s args gx_G own) (hK : gx_K E s) (hw : gx_W tb n0 E s σ τ H locs) (hl : Cond.fieldLink own idx "java/lang/String" "COMPACT_STRINGS" "Z" ∈ gx_G) (hdg : decode cc pc = .ok (.getstatic idx, 3))
    (kk : W p l e R s m args below meth c H locs cells slots Q (F0 m (pc + 3) ls (.int 1 :: rest))) : W p l e R s m args below meth c H locs cells slots Q (F0 m pc ls rest) :=
  va_gets S.1 S.2.1 hK.2.2.1 (gx_SB hK hw) S.2.2.2.1 (S.2.2.2.2 _ hl) (fun _ h => h) hdg kk
/-- a call on a text constant -/
theorem gx_cTi {post : Int32 → gI → gJ → Prop} (S : CallFix p m c cc nL s args gx_G own) (hK : gx_K E s) (hA : gx_Ok tb n0 E s) (hw : gx_W tb n0 E s σ τ H locs) (M : gx_Mi l y cc' mL ret d tb E σ τ (.ref (E.1.2.1 i) :: As) post) (w : gx_Wv own idx y cc' mL ret n) (hq : gx_ss[i]? = some q) (hy : y.cls = "java/lang/String") (hR : d + 1 ≤ R.frames ∧ 8 + (mL + 11) + 40 * d ≤ R.locals) (hn : As.length = n) (hls : ls.size = nL) (hst : st = As.reverse ++ .ref (E.1.2.1 i) :: rest) (hW : (rest.map fun v => v.category).sum ≤ 8) (hf : cells + 0 ≤ R.cells ∧ slots + 0 ≤ R.slots) (hdg : decode cc pc = .ok (.invokevirtual idx, 3))
    (kk : ∀ (r : Int32) (σ' : gI) (τ' : gJ) (H1 : Heap) (locs1 : List Loc), post r σ' τ' → gx_W tb n0 E s σ' τ' H1 locs1 → W p l e R s m args below meth c H1 locs1 cells slots Q (F0 m (pc + 3) ls (.int r :: rest))) : W p l e R s m args below meth c H locs cells slots Q (F0 m pc ls st) := by
  subst hst
  have hrc : ∃ cell : Cell, H[E.1.2.1 i]? = some cell ∧ cell.vm.isStatics = false ∧ s.vm.findClass y.cls = some cell.cls := by
    rw [hy]
    exact vk_recv (i := 0) (hK.2.1 i q hq).1 (by decide) (gx_SB hK hw)
  refine va_calli (va_runV (As := As) (rest := rest) (b := E.1.2.1 i) S (M H.size) (cwV n S.2.2.2.2 (gx_goodV w) rfl rfl rfl ⟨rfl, w.2⟩ hR) ⟨gx_blind, hrc, fun U hU hW9 => ⟨rfl, by rw [hU], by rw [hU]; exact hw.1, gx_K.move hW9 hU hw hK⟩⟩ rfl hn hls rfl (lv_room hW) hdg hf) hw.2 (fun q1 _ h => gx_sub hA hw h) (fun q1 h => gx_sub hA hw h) ?_
  intro r u t H1 locs1 ht hvm hp hB hz hk hS
  exact kk r u.1 u.2 H1 locs1 hp ⟨by rw [← ht]; exact hB, hS⟩
end GS
theorem up2_hi {σ : gI} {c k c9 k9 n : Nat} {v : Int32} (h : c < n) (h9 : n ≤ c9) : up2 σ c k v c9 k9 = σ c9 k9 := by
  unfold up2
  rw [if_neg (by omega)]
theorem gx_cl (x y : Int64) : lg_cmp x y < 0 ↔ x.toInt < y.toInt := by
  unfold lg_cmp
  split
  · next h => exact ⟨fun q => absurd q (by decide), fun q => by have := Int64.lt_iff_toInt_lt.mp h; omega⟩
  · next h =>
    split
    · next h2 => subst h2; exact ⟨fun q => absurd q (by decide), fun q => by omega⟩
    · next h2 => exact ⟨fun _ => by
        have h3 : ¬ y.toInt < x.toInt := fun q => h (Int64.lt_iff_toInt_lt.mpr q)
        have h4 : ¬ x.toInt = y.toInt := fun q => h2 (Int64.toInt_inj.mp q)
        omega, fun _ => by decide⟩
theorem gx_cg (x y : Int64) : 0 < lg_cmp x y ↔ y.toInt < x.toInt := by
  unfold lg_cmp
  split
  · next h => exact ⟨fun _ => Int64.lt_iff_toInt_lt.mp h, fun _ => by decide⟩
  · next h =>
    split
    · next h2 => subst h2; exact ⟨fun q => absurd q (by decide), fun q => by omega⟩
    · next h2 => exact ⟨fun q => absurd q (by decide), fun q => absurd (Int64.lt_iff_toInt_lt.mpr q) h⟩
theorem fa_lt (a b : Int32) : a < b ↔ a.toInt < b.toInt := Int32.lt_iff_toInt_lt
theorem fa_le (a b : Int32) : a ≤ b ↔ a.toInt ≤ b.toInt := Int32.le_iff_toInt_le
theorem fa_eq (a b : Int32) : a = b ↔ a.toInt = b.toInt := Int32.toInt_inj.symm
theorem gx_0shr (y : Int32) : (0 : Int32) >>> (y &&& 31) = 0 := by
  apply Int32.toBitVec_inj.mp
  simp
theorem gx_0shl (y : Int32) : (0 : Int32) <<< (y &&& 31) = 0 := by
  apply Int32.toBitVec_inj.mp
  simp
theorem gx_ilt {i k : Nat} {x : Int32} (hk : x = nI k) (hi : i < 2 ^ 31) (h : ¬ x ≤ nI i) : i < k := by
  subst hk
  exact Nat.not_le.mp fun q => h (nI_le q hi)
theorem gx_ige {i k : Nat} {x : Int32} (hk : x = nI k) (hi : i < 2 ^ 31) (hk2 : k < 2 ^ 31) (h : x ≤ nI i) : k ≤ i := by
  subst hk
  exact (nI_leI hk2 hi).mp h
theorem up2_id {σ : gI} {c k : Nat} {v : Int32} (h : σ c k = v) : up2 σ c k v = σ := by
  funext c9 k9
  unfold up2
  split
  · next q => rw [q.1, q.2, h]
  · rfl
end
section
theorem cl_1 : gx_C 1 RX0 TX0 4 := ⟨rfl, gx_mems _ [341, 343, 345, 347] (by decide +kernel) (by decide +kernel), nmX0, tyX0, tyX0_ok⟩
theorem cl_2 : gx_C 2 RX1 TX1 10 := ⟨rfl, gx_mems _ [387, 389, 391, 393, 395, 397, 399, 401, 403, 405] (by decide +kernel) (by decide +kernel), nmX1, tyX1, tyX1_ok⟩
theorem cl_3 : gx_C 3 RX2 TX2 5 := ⟨rfl, gx_mems _ [247, 249, 251, 253, 255] (by decide +kernel) (by decide +kernel), nmX2, tyX2, tyX2_ok⟩
theorem cl_4 : gx_C 4 RX3 TX3 3 := ⟨rfl, gx_mems _ [323, 325, 327] (by decide +kernel) (by decide +kernel), nmX3, tyX3, tyX3_ok⟩
theorem cl_5 : gx_C 5 RX4 TX4 2 := ⟨rfl, gx_mems _ [359, 361] (by decide +kernel) (by decide +kernel), nmX4, tyX4, tyX4_ok⟩
theorem cl_6 : gx_C 6 RX5 TX5 11 := ⟨rfl, gx_mems _ [213, 215, 217, 219, 221, 223, 225, 227, 229, 231, 233] (by decide +kernel) (by decide +kernel), nmX5, tyX5, tyX5_ok⟩
theorem cl_7 : gx_C 7 RX6 TX6 11 := ⟨rfl, gx_mems _ [287, 289, 291, 293, 295, 297, 299, 301, 303, 305, 307] (by decide +kernel) (by decide +kernel), nmX6, tyX6, tyX6_ok⟩
theorem cl_8 : gx_C 8 RX7 TX7 3 := ⟨rfl, gx_mems _ [134, 136, 138] (by decide +kernel) (by decide +kernel), nmX7, tyX7, tyX7_ok⟩
theorem cl_9 : gx_C 9 RX8 TX8 9 := ⟨rfl, gx_mems _ [162, 164, 166, 168, 170, 172, 174, 176, 178] (by decide +kernel) (by decide +kernel), nmX8, tyX8, tyX8_ok⟩
theorem cl_10 : gx_C 10 RX9 TX9 9 := ⟨rfl, gx_mems _ [427, 429, 431, 433, 435, 437, 439, 441, 443] (by decide +kernel) (by decide +kernel), nmX9, tyX9, tyX9_ok⟩
theorem cl_11 : gx_C 11 RX10 TX10 2 := ⟨rfl, gx_mems _ [189, 191] (by decide +kernel) (by decide +kernel), nmX10, tyX10, tyX10_ok⟩
theorem cl_12 : gx_C 12 RX11 TX11 16 := ⟨rfl, gx_mems _ [463, 465, 467, 469, 471, 473, 475, 477, 479, 481, 483, 485, 487, 489, 491, 493] (by decide +kernel) (by decide +kernel), nmX11, tyX11, tyX11_ok⟩
theorem cl_13 : gx_C 13 RX12 TX12 60 := ⟨rfl, gx_mems _ [1474, 1476, 1478, 1480, 1482, 1484, 1486, 1488, 1490, 1492, 1494, 1496, 1498, 1500, 1502, 1504, 1506, 1508, 1510, 1512, 1514, 1516, 1518, 1520, 1522, 1524, 1526, 1528, 1530, 1532, 1534, 1536, 1538, 1540, 1542, 1544, 1546, 1548, 1550, 1552, 1554, 1556, 1558, 1560, 1562, 1564, 1566, 1568, 1570, 1572, 1574, 1576, 1578, 1580, 1582, 1584, 1586, 1588, 1590, 1592] (by decide +kernel) (by decide +kernel), nmX12, tyX12, tyX12_ok⟩
def gx_tb : List gD := [.inl (12, [some (some 1), some (some 3), some (some 9), some (some 15), some (some 17), some (some 21), some (some 25), some (some 30), some (some 37), some (some 44), some (some 151), none, some (some 152), some (some 156), some (some 158), some (some 160)]), .inl (8, [some (some 2), none, none]), .inr (0, 80, []), .inl (9, [some (some 4), some (some 5), some (some 6), some (some 7), some (some 8), none, none, none, none]), .inr (0, 12, []), .inr (0, 12, []), .inr (0, 12, []), .inr (0, 12, []), .inr (0, 12, []), .inl (9, [some (some 10), some (some 11), some (some 12), some (some 13), some (some 14), none, none, none, none]), .inr (0, 12, []), .inr (0, 12, []), .inr (0, 12, []), .inr (0, 12, []), .inr (0, 12, []), .inl (11, [some (some 16), none]), .inr (0, 40, []), .inl (6, [some (some 18), some (some 19), some (some 20), none, none, none, none, none, none, none, none]), .inr (0, 40, []), .inr (0, 40, []), .inr (0, 40, []), .inl (6, [some (some 22), some (some 23), some (some 24), none, none, none, none, none, none, none, none]), .inr (0, 40, []), .inr (0, 40, []), .inr (0, 40, []), .inl (3, [some (some 26), some (some 27), some (some 28), some (some 29), none]), .inr (0, 20, []), .inr (0, 20, []), .inr (0, 20, []), .inr (0, 20, []), .inl (7, [some (some 31), some (some 32), some (some 33), some (some 34), some (some 35), some (some 36), none, none, none, none, none]), .inr (0, 6, []), .inr (0, 6, []), .inr (0, 6, []), .inr (0, 6, []), .inr (0, 6, []), .inr (0, 6, []), .inl (7, [some (some 38), some (some 39), some (some 40), some (some 41), some (some 42), some (some 43), none, none, none, none, none]), .inr (0, 6, []), .inr (0, 6, []), .inr (0, 6, []), .inr (0, 6, []), .inr (0, 6, []), .inr (0, 6, []), .inl (4, [some (some 45), none, none]), .inr (3, 15, [some 46, some 53, some 60, some 67, some 74, some 81, some 88, some 95, some 102, some 109, some 116, some 123, some 130, some 137, some 144]), .inl (7, [some (some 47), some (some 48), some (some 49), some (some 50), some (some 51), some (some 52), none, none, none, none, none]), .inr (0, 6, []), .inr (0, 6, []), .inr (0, 6, []), .inr (0, 6, []), .inr (0, 6, []), .inr (0, 6, []), .inl (7, [some (some 54), some (some 55), some (some 56), some (some 57), some (some 58), some (some 59), none, none, none, none, none]), .inr (0, 6, []), .inr (0, 6, []), .inr (0, 6, []), .inr (0, 6, []), .inr (0, 6, []), .inr (0, 6, []), .inl (7, [some (some 61), some (some 62), some (some 63), some (some 64), some (some 65), some (some 66), none, none, none, none, none]), .inr (0, 6, []), .inr (0, 6, []), .inr (0, 6, []), .inr (0, 6, []), .inr (0, 6, []), .inr (0, 6, []), .inl (7, [some (some 68), some (some 69), some (some 70), some (some 71), some (some 72), some (some 73), none, none, none, none, none]), .inr (0, 6, []), .inr (0, 6, []), .inr (0, 6, []), .inr (0, 6, []), .inr (0, 6, []), .inr (0, 6, []), .inl (7, [some (some 75), some (some 76), some (some 77), some (some 78), some (some 79), some (some 80), none, none, none, none, none]), .inr (0, 6, []), .inr (0, 6, []), .inr (0, 6, []), .inr (0, 6, []), .inr (0, 6, []), .inr (0, 6, []), .inl (7, [some (some 82), some (some 83), some (some 84), some (some 85), some (some 86), some (some 87), none, none, none, none, none]), .inr (0, 6, []), .inr (0, 6, []), .inr (0, 6, []), .inr (0, 6, []), .inr (0, 6, []), .inr (0, 6, []), .inl (7, [some (some 89), some (some 90), some (some 91), some (some 92), some (some 93), some (some 94), none, none, none, none, none]), .inr (0, 6, []), .inr (0, 6, []), .inr (0, 6, []), .inr (0, 6, []), .inr (0, 6, []), .inr (0, 6, []), .inl (7, [some (some 96), some (some 97), some (some 98), some (some 99), some (some 100), some (some 101), none, none, none, none, none]), .inr (0, 6, []), .inr (0, 6, []), .inr (0, 6, []), .inr (0, 6, []), .inr (0, 6, []), .inr (0, 6, []), .inl (7, [some (some 103), some (some 104), some (some 105), some (some 106), some (some 107), some (some 108), none, none, none, none, none]), .inr (0, 6, []), .inr (0, 6, []), .inr (0, 6, []), .inr (0, 6, []), .inr (0, 6, []), .inr (0, 6, []), .inl (7, [some (some 110), some (some 111), some (some 112), some (some 113), some (some 114), some (some 115), none, none, none, none, none]), .inr (0, 6, []), .inr (0, 6, []), .inr (0, 6, []), .inr (0, 6, []), .inr (0, 6, []), .inr (0, 6, []), .inl (7, [some (some 117), some (some 118), some (some 119), some (some 120), some (some 121), some (some 122), none, none, none, none, none]), .inr (0, 6, []), .inr (0, 6, []), .inr (0, 6, []), .inr (0, 6, []), .inr (0, 6, []), .inr (0, 6, []), .inl (7, [some (some 124), some (some 125), some (some 126), some (some 127), some (some 128), some (some 129), none, none, none, none, none]), .inr (0, 6, []), .inr (0, 6, []), .inr (0, 6, []), .inr (0, 6, []), .inr (0, 6, []), .inr (0, 6, []), .inl (7, [some (some 131), some (some 132), some (some 133), some (some 134), some (some 135), some (some 136), none, none, none, none, none]), .inr (0, 6, []), .inr (0, 6, []), .inr (0, 6, []), .inr (0, 6, []), .inr (0, 6, []), .inr (0, 6, []), .inl (7, [some (some 138), some (some 139), some (some 140), some (some 141), some (some 142), some (some 143), none, none, none, none, none]), .inr (0, 6, []), .inr (0, 6, []), .inr (0, 6, []), .inr (0, 6, []), .inr (0, 6, []), .inr (0, 6, []), .inl (7, [some (some 145), some (some 146), some (some 147), some (some 148), some (some 149), some (some 150), none, none, none, none, none]), .inr (0, 6, []), .inr (0, 6, []), .inr (0, 6, []), .inr (0, 6, []), .inr (0, 6, []), .inr (0, 6, []), .inr (3, 3, [some 178, some 185, some 192]), .inl (1, [some (some 153), some (some 154), some (some 155), none]), .inr (0, 10, []), .inr (0, 10, []), .inr (0, 10, []), .inl (5, [some (some 157), none]), .inr (1, 3, []), .inl (2, [some (some 3), some (some 15), some (some 17), some (some 159), none, none, none, none, none, none]), .inr (0, 8, []), .inl (10, [some (some 3), some (some 158), some (some 161), some (some 162), some (some 163), none, none, some (some 164), some (some 171)]), .inr (0, 4096, []), .inr (2, 4096, []), .inr (0, 13, []), .inl (7, [some (some 165), some (some 166), some (some 167), some (some 168), some (some 169), some (some 170), none, none, none, none, none]), .inr (0, 6, []), .inr (0, 6, []), .inr (0, 6, []), .inr (0, 6, []), .inr (0, 6, []), .inr (0, 6, []), .inl (7, [some (some 172), some (some 173), some (some 174), some (some 175), some (some 176), some (some 177), none, none, none, none, none]), .inr (0, 6, []), .inr (0, 6, []), .inr (0, 6, []), .inr (0, 6, []), .inr (0, 6, []), .inr (0, 6, []), .inl (7, [some (some 179), some (some 180), some (some 181), some (some 182), some (some 183), some (some 184), none, none, none, none, none]), .inr (0, 6, []), .inr (0, 6, []), .inr (0, 6, []), .inr (0, 6, []), .inr (0, 6, []), .inr (0, 6, []), .inl (7, [some (some 186), some (some 187), some (some 188), some (some 189), some (some 190), some (some 191), none, none, none, none, none]), .inr (0, 6, []), .inr (0, 6, []), .inr (0, 6, []), .inr (0, 6, []), .inr (0, 6, []), .inr (0, 6, []), .inl (7, [some (some 193), some (some 194), some (some 195), some (some 196), some (some 197), some (some 198), none, none, none, none, none]), .inr (0, 6, []), .inr (0, 6, []), .inr (0, 6, []), .inr (0, 6, []), .inr (0, 6, []), .inr (0, 6, []), .inl (13, [none, none, some (some 200), none, none, some (some 201), some (some 202), some (some 203), some (some 204), some (some 205), some (some 206), some (some 207), some (some 208), none, none, none, none, some (some 209), some (some 210), some (some 211), some (some 212), none, some (some 213), some (some 214), none, some (some 215), some (some 216), some (some 217), none, none, some (some 218), none, none, none, none, none, none, some (some 219), some (some 220), some (some 221), some (some 222), some (some 223), none, none, some (some 224), none, none, some (some 225), none, none, none, none, none, some (some 226), some (some 227), some (some 228), some (some 229), some (some 230), some (some 231), some (some 232)]), .inr (1, 16, []), .inr (0, 12, []), .inr (0, 12, []), .inr (0, 12, []), .inr (0, 12, []), .inr (0, 40, []), .inr (0, 45, []), .inr (0, 45, []), .inr (0, 80, []), .inr (0, 12, []), .inr (0, 12, []), .inr (0, 12, []), .inr (0, 12, []), .inr (0, 80, []), .inr (0, 80, []), .inr (0, 40, []), .inr (0, 80, []), .inr (0, 80, []), .inr (0, 80, []), .inr (0, 720, []), .inr (0, 60, []), .inr (0, 60, []), .inr (0, 60, []), .inr (0, 60, []), .inr (0, 45, []), .inr (0, 4096, []), .inr (0, 10, []), .inr (0, 10, []), .inr (0, 10, []), .inr (2, 4096, []), .inr (0, 13, []), .inr (2, 3, []), .inr (0, 135, []), .inr (1, 1, [])]
def gs0 : gI := up2 (up2 (up2 (up2 (up2 (up2 ((fun _ _ => 0 : gI)) 3 8 1) 9 8 1) 17 3 1) 17 9 1) 21 3 1) 21 9 1
def gt0 : gJ := fun _ _ => 0
end
section
theorem mw_0 : (Cond.selects RX8 yX8_clear yX8_clear) ∈ gx_G := gx_mem 0 (by decide +kernel) (by decide +kernel)
theorem mw_8 : (Cond.selects RX5 yX5_clear yX5_clear) ∈ gx_G := gx_mem 8 (by decide +kernel) (by decide +kernel)
theorem mw_9 : (Cond.selects RX5 yX5_addFact yX5_addFact) ∈ gx_G := gx_mem 9 (by decide +kernel) (by decide +kernel)
theorem mw_10 : (Cond.selects RX5 yX5_addStep yX5_addStep) ∈ gx_G := gx_mem 10 (by decide +kernel) (by decide +kernel)
theorem mw_18 : (Cond.selects RX11 yX11_passMinutes yX11_passMinutes) ∈ gx_G := gx_mem 18 (by decide +kernel) (by decide +kernel)
theorem mw_19 : (Cond.selects RX1 yX1_flowIn yX1_flowIn) ∈ gx_G := gx_mem 19 (by decide +kernel) (by decide +kernel)
theorem mw_33 : (Cond.selects RX11 yX11_fewestTurns yX11_fewestTurns) ∈ gx_G := gx_mem 33 (by decide +kernel) (by decide +kernel)
theorem mw_34 : (Cond.selects RX9 yX9_remember yX9_remember) ∈ gx_G := gx_mem 34 (by decide +kernel) (by decide +kernel)
theorem mw_35 : (Cond.selects RX9 yX9_spread yX9_spread) ∈ gx_G := gx_mem 35 (by decide +kernel) (by decide +kernel)
theorem mw_37 : (Cond.selects RX11 yX11_findFits yX11_findFits) ∈ gx_G := gx_mem 37 (by decide +kernel) (by decide +kernel)
theorem mw_89 : (Cond.initialized RX11) ∈ gx_G := gx_mem 89 (by decide +kernel) (by decide +kernel)
theorem mw_90 : (Cond.initialized RX7) ∈ gx_G := gx_mem 90 (by decide +kernel) (by decide +kernel)
theorem mw_91 : (Cond.initialized RX8) ∈ gx_G := gx_mem 91 (by decide +kernel) (by decide +kernel)
theorem mw_92 : (Cond.initialized RX10) ∈ gx_G := gx_mem 92 (by decide +kernel) (by decide +kernel)
theorem mw_93 : (Cond.initialized RX5) ∈ gx_G := gx_mem 93 (by decide +kernel) (by decide +kernel)
theorem mw_94 : (Cond.initialized RX2) ∈ gx_G := gx_mem 94 (by decide +kernel) (by decide +kernel)
theorem mw_95 : (Cond.initialized RX6) ∈ gx_G := gx_mem 95 (by decide +kernel) (by decide +kernel)
theorem mw_96 : (Cond.initialized RX3) ∈ gx_G := gx_mem 96 (by decide +kernel) (by decide +kernel)
theorem mw_98 : (Cond.initialized RX4) ∈ gx_G := gx_mem 98 (by decide +kernel) (by decide +kernel)
theorem mw_99 : (Cond.initialized RX1) ∈ gx_G := gx_mem 99 (by decide +kernel) (by decide +kernel)
theorem mw_100 : (Cond.initialized RX9) ∈ gx_G := gx_mem 100 (by decide +kernel) (by decide +kernel)
theorem mw_102 : (Cond.initialized RJ9) ∈ gx_G := gx_mem 102 (by decide +kernel) (by decide +kernel)
theorem mw_114 : (Cond.initialized RJ6) ∈ gx_G := gx_mem 114 (by decide +kernel) (by decide +kernel)
theorem mw_129 : (Cond.fieldLink RX7 11 "DownTheGutter$Signs" "signs" "[I") ∈ gx_G := gx_mem 129 (by decide +kernel) (by decide +kernel)
theorem mw_130 : (Cond.fieldLink RX7 25 "DownTheGutter$Signs" "seen" "I") ∈ gx_G := gx_mem 130 (by decide +kernel) (by decide +kernel)
theorem mw_131 : (Cond.fieldLink RX7 15 "DownTheGutter$Signs" "length" "I") ∈ gx_G := gx_mem 131 (by decide +kernel) (by decide +kernel)
theorem mw_132 : (Cond.fieldLink RX11 107 "DownTheGutter$Signs" "length" "I") ∈ gx_G := gx_mem 132 (by decide +kernel) (by decide +kernel)
theorem mw_133 : (Cond.fieldLink RX10 33 "DownTheGutter$Signs" "length" "I") ∈ gx_G := gx_mem 133 (by decide +kernel) (by decide +kernel)
theorem mw_148 : (Cond.fieldLink RX8 9 "DownTheGutter$Town" "kinds" "[I") ∈ gx_G := gx_mem 148 (by decide +kernel) (by decide +kernel)
theorem mw_149 : (Cond.fieldLink RX8 15 "DownTheGutter$Town" "nexts" "[I") ∈ gx_G := gx_mem 149 (by decide +kernel) (by decide +kernel)
theorem mw_150 : (Cond.fieldLink RX8 18 "DownTheGutter$Town" "seconds" "[I") ∈ gx_G := gx_mem 150 (by decide +kernel) (by decide +kernel)
theorem mw_151 : (Cond.fieldLink RX8 21 "DownTheGutter$Town" "figures" "[I") ∈ gx_G := gx_mem 151 (by decide +kernel) (by decide +kernel)
theorem mw_152 : (Cond.fieldLink RX8 24 "DownTheGutter$Town" "firstUse" "[I") ∈ gx_G := gx_mem 152 (by decide +kernel) (by decide +kernel)
theorem mw_153 : (Cond.fieldLink RX8 37 "DownTheGutter$Town" "kitchens" "I") ∈ gx_G := gx_mem 153 (by decide +kernel) (by decide +kernel)
theorem mw_154 : (Cond.fieldLink RX8 31 "DownTheGutter$Town" "size" "I") ∈ gx_G := gx_mem 154 (by decide +kernel) (by decide +kernel)
theorem mw_155 : (Cond.fieldLink RX11 323 "DownTheGutter$Town" "size" "I") ∈ gx_G := gx_mem 155 (by decide +kernel) (by decide +kernel)
theorem mw_156 : (Cond.fieldLink RX8 34 "DownTheGutter$Town" "forks" "I") ∈ gx_G := gx_mem 156 (by decide +kernel) (by decide +kernel)
theorem mw_157 : (Cond.fieldLink RX9 134 "DownTheGutter$Town" "forks" "I") ∈ gx_G := gx_mem 157 (by decide +kernel) (by decide +kernel)
theorem mw_158 : (Cond.fieldLink RX11 375 "DownTheGutter$Town" "forks" "I") ∈ gx_G := gx_mem 158 (by decide +kernel) (by decide +kernel)
theorem mw_159 : (Cond.fieldLink RX8 27 "DownTheGutter$Town" "sets" "I") ∈ gx_G := gx_mem 159 (by decide +kernel) (by decide +kernel)
theorem mw_160 : (Cond.fieldLink RX9 118 "DownTheGutter$Town" "sets" "I") ∈ gx_G := gx_mem 160 (by decide +kernel) (by decide +kernel)
theorem mw_161 : (Cond.fieldLink RX11 353 "DownTheGutter$Town" "sets" "I") ∈ gx_G := gx_mem 161 (by decide +kernel) (by decide +kernel)
theorem mw_188 : (Cond.fieldLink RX10 15 "DownTheGutter$Water" "length" "I") ∈ gx_G := gx_mem 188 (by decide +kernel) (by decide +kernel)
theorem mw_200 : (Cond.fieldLink RX5 9 "DownTheGutter$Rule" "steps" "[I") ∈ gx_G := gx_mem 200 (by decide +kernel) (by decide +kernel)
theorem mw_203 : (Cond.fieldLink RX5 19 "DownTheGutter$Rule" "size" "I") ∈ gx_G := gx_mem 203 (by decide +kernel) (by decide +kernel)
theorem mw_204 : (Cond.fieldLink RX5 60 "DownTheGutter$Rule" "holding" "I") ∈ gx_G := gx_mem 204 (by decide +kernel) (by decide +kernel)
theorem mw_205 : (Cond.fieldLink RX5 63 "DownTheGutter$Rule" "open" "I") ∈ gx_G := gx_mem 205 (by decide +kernel) (by decide +kernel)
theorem mw_206 : (Cond.fieldLink RX5 66 "DownTheGutter$Rule" "compared" "I") ∈ gx_G := gx_mem 206 (by decide +kernel) (by decide +kernel)
theorem mw_207 : (Cond.fieldLink RX5 69 "DownTheGutter$Rule" "digits" "I") ∈ gx_G := gx_mem 207 (by decide +kernel) (by decide +kernel)
theorem mw_208 : (Cond.fieldLink RX5 50 "DownTheGutter$Rule" "wantsThing" "Z") ∈ gx_G := gx_mem 208 (by decide +kernel) (by decide +kernel)
theorem mw_209 : (Cond.fieldLink RX5 23 "DownTheGutter$Rule" "asksPlank" "Z") ∈ gx_G := gx_mem 209 (by decide +kernel) (by decide +kernel)
theorem mw_211 : (Cond.fieldLink RX1 29 "DownTheGutter$Rule" "asksOthers" "Z") ∈ gx_G := gx_mem 211 (by decide +kernel) (by decide +kernel)
theorem mw_212 : (Cond.fieldLink RX5 27 "DownTheGutter$Rule" "asksOthers" "Z") ∈ gx_G := gx_mem 212 (by decide +kernel) (by decide +kernel)
theorem mw_246 : (Cond.fieldLink RX2 22 "DownTheGutter$Diary" "acts" "I") ∈ gx_G := gx_mem 246 (by decide +kernel) (by decide +kernel)
theorem mw_264 : (Cond.fieldLink RX6 9 "DownTheGutter$Scene" "spots" "[I") ∈ gx_G := gx_mem 264 (by decide +kernel) (by decide +kernel)
theorem mw_270 : (Cond.fieldLink RX6 30 "DownTheGutter$Scene" "things" "I") ∈ gx_G := gx_mem 270 (by decide +kernel) (by decide +kernel)
theorem mw_271 : (Cond.fieldLink RX1 60 "DownTheGutter$Scene" "things" "I") ∈ gx_G := gx_mem 271 (by decide +kernel) (by decide +kernel)
theorem mw_272 : (Cond.fieldLink RX11 208 "DownTheGutter$Scene" "things" "I") ∈ gx_G := gx_mem 272 (by decide +kernel) (by decide +kernel)
theorem mw_273 : (Cond.fieldLink RX6 34 "DownTheGutter$Scene" "planks" "I") ∈ gx_G := gx_mem 273 (by decide +kernel) (by decide +kernel)
theorem mw_274 : (Cond.fieldLink RX9 77 "DownTheGutter$Scene" "planks" "I") ∈ gx_G := gx_mem 274 (by decide +kernel) (by decide +kernel)
theorem mw_276 : (Cond.fieldLink RX11 157 "DownTheGutter$Scene" "planks" "I") ∈ gx_G := gx_mem 276 (by decide +kernel) (by decide +kernel)
theorem mw_277 : (Cond.fieldLink RX6 37 "DownTheGutter$Scene" "now" "I") ∈ gx_G := gx_mem 277 (by decide +kernel) (by decide +kernel)
theorem mw_279 : (Cond.fieldLink RX1 52 "DownTheGutter$Scene" "now" "I") ∈ gx_G := gx_mem 279 (by decide +kernel) (by decide +kernel)
theorem mw_280 : (Cond.fieldLink RX11 324 "DownTheGutter$Scene" "now" "I") ∈ gx_G := gx_mem 280 (by decide +kernel) (by decide +kernel)
theorem mw_281 : (Cond.fieldLink RX6 40 "DownTheGutter$Scene" "home" "I") ∈ gx_G := gx_mem 281 (by decide +kernel) (by decide +kernel)
theorem mw_282 : (Cond.fieldLink RX9 92 "DownTheGutter$Scene" "home" "I") ∈ gx_G := gx_mem 282 (by decide +kernel) (by decide +kernel)
theorem mw_283 : (Cond.fieldLink RX11 247 "DownTheGutter$Scene" "home" "I") ∈ gx_G := gx_mem 283 (by decide +kernel) (by decide +kernel)
theorem mw_284 : (Cond.fieldLink RX6 43 "DownTheGutter$Scene" "lost" "I") ∈ gx_G := gx_mem 284 (by decide +kernel) (by decide +kernel)
theorem mw_285 : (Cond.fieldLink RX9 89 "DownTheGutter$Scene" "lost" "I") ∈ gx_G := gx_mem 285 (by decide +kernel) (by decide +kernel)
theorem mw_286 : (Cond.fieldLink RX11 250 "DownTheGutter$Scene" "lost" "I") ∈ gx_G := gx_mem 286 (by decide +kernel) (by decide +kernel)
theorem mw_319 : (Cond.fieldLink RX3 11 "DownTheGutter$Past" "scenes" "[LDownTheGutter$Scene;") ∈ gx_G := gx_mem 319 (by decide +kernel) (by decide +kernel)
theorem mw_320 : (Cond.fieldLink RX3 20 "DownTheGutter$Past" "top" "I") ∈ gx_G := gx_mem 320 (by decide +kernel) (by decide +kernel)
theorem mw_321 : (Cond.fieldLink RX3 16 "DownTheGutter$Past" "size" "I") ∈ gx_G := gx_mem 321 (by decide +kernel) (by decide +kernel)
theorem mw_322 : (Cond.fieldLink RX11 287 "DownTheGutter$Past" "size" "I") ∈ gx_G := gx_mem 322 (by decide +kernel) (by decide +kernel)
theorem mw_340 : (Cond.fieldLink RX11 126 "DownTheGutter$Corks" "told" "I") ∈ gx_G := gx_mem 340 (by decide +kernel) (by decide +kernel)
theorem mw_356 : (Cond.fieldLink RX4 9 "DownTheGutter$Row" "numbers" "[J") ∈ gx_G := gx_mem 356 (by decide +kernel) (by decide +kernel)
theorem mw_357 : (Cond.fieldLink RX4 13 "DownTheGutter$Row" "size" "I") ∈ gx_G := gx_mem 357 (by decide +kernel) (by decide +kernel)
theorem mw_358 : (Cond.fieldLink RX11 423 "DownTheGutter$Row" "size" "I") ∈ gx_G := gx_mem 358 (by decide +kernel) (by decide +kernel)
theorem mw_372 : (Cond.fieldLink RX1 21 "DownTheGutter$Current" "water" "LDownTheGutter$Water;") ∈ gx_G := gx_mem 372 (by decide +kernel) (by decide +kernel)
theorem mw_373 : (Cond.fieldLink RX1 25 "DownTheGutter$Current" "rule" "LDownTheGutter$Rule;") ∈ gx_G := gx_mem 373 (by decide +kernel) (by decide +kernel)
theorem mw_375 : (Cond.fieldLink RX9 80 "DownTheGutter$Current" "asked" "I") ∈ gx_G := gx_mem 375 (by decide +kernel) (by decide +kernel)
theorem mw_377 : (Cond.fieldLink RX9 83 "DownTheGutter$Current" "stuck" "I") ∈ gx_G := gx_mem 377 (by decide +kernel) (by decide +kernel)
theorem mw_383 : (Cond.fieldLink RX1 39 "DownTheGutter$Current" "rain" "I") ∈ gx_G := gx_mem 383 (by decide +kernel) (by decide +kernel)
theorem mw_416 : (Cond.fieldLink RX9 32 "DownTheGutter$Trials" "town" "LDownTheGutter$Town;") ∈ gx_G := gx_mem 416 (by decide +kernel) (by decide +kernel)
theorem mw_417 : (Cond.fieldLink RX9 36 "DownTheGutter$Trials" "current" "LDownTheGutter$Current;") ∈ gx_G := gx_mem 417 (by decide +kernel) (by decide +kernel)
theorem mw_418 : (Cond.fieldLink RX9 9 "DownTheGutter$Trials" "tells" "[I") ∈ gx_G := gx_mem 418 (by decide +kernel) (by decide +kernel)
theorem mw_419 : (Cond.fieldLink RX9 15 "DownTheGutter$Trials" "fitting" "[Z") ∈ gx_G := gx_mem 419 (by decide +kernel) (by decide +kernel)
theorem mw_421 : (Cond.fieldLink RX9 57 "DownTheGutter$Trials" "those" "I") ∈ gx_G := gx_mem 421 (by decide +kernel) (by decide +kernel)
theorem mw_422 : (Cond.fieldLink RX9 60 "DownTheGutter$Trials" "lead" "I") ∈ gx_G := gx_mem 422 (by decide +kernel) (by decide +kernel)
theorem mw_423 : (Cond.fieldLink RX9 25 "DownTheGutter$Trials" "start" "LDownTheGutter$Scene;") ∈ gx_G := gx_mem 423 (by decide +kernel) (by decide +kernel)
theorem mw_425 : (Cond.fieldLink RX9 29 "DownTheGutter$Trials" "scene" "LDownTheGutter$Scene;") ∈ gx_G := gx_mem 425 (by decide +kernel) (by decide +kernel)
theorem mw_426 : (Cond.fieldLink RX11 297 "DownTheGutter$Trials" "scene" "LDownTheGutter$Scene;") ∈ gx_G := gx_mem 426 (by decide +kernel) (by decide +kernel)
theorem mw_447 : (Cond.fieldLink RX11 12 "DownTheGutter" "text" "LDownTheGutter$Signs;") ∈ gx_G := gx_mem 447 (by decide +kernel) (by decide +kernel)
theorem mw_448 : (Cond.fieldLink RX11 19 "DownTheGutter" "town" "LDownTheGutter$Town;") ∈ gx_G := gx_mem 448 (by decide +kernel) (by decide +kernel)
theorem mw_449 : (Cond.fieldLink RX11 23 "DownTheGutter" "draftTown" "LDownTheGutter$Town;") ∈ gx_G := gx_mem 449 (by decide +kernel) (by decide +kernel)
theorem mw_450 : (Cond.fieldLink RX11 29 "DownTheGutter" "water" "LDownTheGutter$Water;") ∈ gx_G := gx_mem 450 (by decide +kernel) (by decide +kernel)
theorem mw_451 : (Cond.fieldLink RX11 36 "DownTheGutter" "rule" "LDownTheGutter$Rule;") ∈ gx_G := gx_mem 451 (by decide +kernel) (by decide +kernel)
theorem mw_452 : (Cond.fieldLink RX11 40 "DownTheGutter" "draftRule" "LDownTheGutter$Rule;") ∈ gx_G := gx_mem 452 (by decide +kernel) (by decide +kernel)
theorem mw_453 : (Cond.fieldLink RX11 46 "DownTheGutter" "diary" "LDownTheGutter$Diary;") ∈ gx_G := gx_mem 453 (by decide +kernel) (by decide +kernel)
theorem mw_454 : (Cond.fieldLink RX11 53 "DownTheGutter" "present" "LDownTheGutter$Scene;") ∈ gx_G := gx_mem 454 (by decide +kernel) (by decide +kernel)
theorem mw_455 : (Cond.fieldLink RX11 57 "DownTheGutter" "before" "LDownTheGutter$Scene;") ∈ gx_G := gx_mem 455 (by decide +kernel) (by decide +kernel)
theorem mw_456 : (Cond.fieldLink RX11 63 "DownTheGutter" "past" "LDownTheGutter$Past;") ∈ gx_G := gx_mem 456 (by decide +kernel) (by decide +kernel)
theorem mw_457 : (Cond.fieldLink RX11 67 "DownTheGutter" "kept" "[LDownTheGutter$Scene;") ∈ gx_G := gx_mem 457 (by decide +kernel) (by decide +kernel)
theorem mw_458 : (Cond.fieldLink RX11 129 "DownTheGutter" "keptBits" "I") ∈ gx_G := gx_mem 458 (by decide +kernel) (by decide +kernel)
theorem mw_459 : (Cond.fieldLink RX11 74 "DownTheGutter" "corks" "LDownTheGutter$Corks;") ∈ gx_G := gx_mem 459 (by decide +kernel) (by decide +kernel)
theorem mw_460 : (Cond.fieldLink RX11 81 "DownTheGutter" "row" "LDownTheGutter$Row;") ∈ gx_G := gx_mem 460 (by decide +kernel) (by decide +kernel)
theorem mw_461 : (Cond.fieldLink RX11 90 "DownTheGutter" "current" "LDownTheGutter$Current;") ∈ gx_G := gx_mem 461 (by decide +kernel) (by decide +kernel)
theorem mw_462 : (Cond.fieldLink RX11 99 "DownTheGutter" "trials" "LDownTheGutter$Trials;") ∈ gx_G := gx_mem 462 (by decide +kernel) (by decide +kernel)
theorem mw_500 : (Cond.methodLink RX11 103 yX7_addFour) ∈ gx_G := gx_mem 500 (by decide +kernel) (by decide +kernel)
theorem mw_501 : (Cond.instanceMethod yX7_addFour) ∈ gx_G := gx_mem 501 (by decide +kernel) (by decide +kernel)
theorem mw_502 : (Cond.selects RX7 yX7_addFour yX7_addFour) ∈ gx_G := gx_mem 502 (by decide +kernel) (by decide +kernel)
theorem mw_503 : (Cond.code yX7_addFour cX7_addFour 2 (some .boolean)) ∈ gx_G := gx_mem 503 (by decide +kernel) (by decide +kernel)
theorem mw_508 : (Cond.methodLink RX11 111 yX7_cut) ∈ gx_G := gx_mem 508 (by decide +kernel) (by decide +kernel)
theorem mw_509 : (Cond.instanceMethod yX7_cut) ∈ gx_G := gx_mem 509 (by decide +kernel) (by decide +kernel)
theorem mw_510 : (Cond.selects RX7 yX7_cut yX7_cut) ∈ gx_G := gx_mem 510 (by decide +kernel) (by decide +kernel)
theorem mw_511 : (Cond.code yX7_cut cX7_cut 2 (some .boolean)) ∈ gx_G := gx_mem 511 (by decide +kernel) (by decide +kernel)
theorem mw_516 : (Cond.methodLink RX11 114 yX8_read) ∈ gx_G := gx_mem 516 (by decide +kernel) (by decide +kernel)
theorem mw_517 : (Cond.instanceMethod yX8_read) ∈ gx_G := gx_mem 517 (by decide +kernel) (by decide +kernel)
theorem mw_518 : (Cond.selects RX8 yX8_read yX8_read) ∈ gx_G := gx_mem 518 (by decide +kernel) (by decide +kernel)
theorem mw_519 : (Cond.code yX8_read cX8_read 5 (some .int)) ∈ gx_G := gx_mem 519 (by decide +kernel) (by decide +kernel)
theorem mw_520 : (Cond.methodLink RX8 40 yX8_clear) ∈ gx_G := gx_mem 520 (by decide +kernel) (by decide +kernel)
theorem mw_522 : (Cond.instanceMethod yX8_clear) ∈ gx_G := gx_mem 522 (by decide +kernel) (by decide +kernel)
theorem mw_523 : (Cond.code yX8_clear cX8_clear 2 none) ∈ gx_G := gx_mem 523 (by decide +kernel) (by decide +kernel)
theorem mw_524 : (Cond.methodLink RX8 43 yX7_showAtMost) ∈ gx_G := gx_mem 524 (by decide +kernel) (by decide +kernel)
theorem mw_525 : (Cond.instanceMethod yX7_showAtMost) ∈ gx_G := gx_mem 525 (by decide +kernel) (by decide +kernel)
theorem mw_526 : (Cond.selects RX7 yX7_showAtMost yX7_showAtMost) ∈ gx_G := gx_mem 526 (by decide +kernel) (by decide +kernel)
theorem mw_527 : (Cond.code yX7_showAtMost cX7_showAtMost 2 none) ∈ gx_G := gx_mem 527 (by decide +kernel) (by decide +kernel)
theorem mw_528 : (Cond.methodLink RX7 19 Lib.Math.min.name) ∈ gx_G := gx_mem 528 (by decide +kernel) (by decide +kernel)
theorem mw_529 : (Cond.static Lib.Math.min.name) ∈ gx_G := gx_mem 529 (by decide +kernel) (by decide +kernel)
theorem mw_530 : (Cond.code Lib.Math.min.name Lib.Math.min.code 2 (some .int)) ∈ gx_G := gx_mem 530 (by decide +kernel) (by decide +kernel)
theorem mw_531 : (Cond.methodLink RX8 49 yX7_isOver) ∈ gx_G := gx_mem 531 (by decide +kernel) (by decide +kernel)
theorem mw_532 : (Cond.instanceMethod yX7_isOver) ∈ gx_G := gx_mem 532 (by decide +kernel) (by decide +kernel)
theorem mw_533 : (Cond.selects RX7 yX7_isOver yX7_isOver) ∈ gx_G := gx_mem 533 (by decide +kernel) (by decide +kernel)
theorem mw_534 : (Cond.code yX7_isOver cX7_isOver 2 (some .boolean)) ∈ gx_G := gx_mem 534 (by decide +kernel) (by decide +kernel)
theorem mw_577 : (Cond.static Lib.Math.max.name) ∈ gx_G := gx_mem 577 (by decide +kernel) (by decide +kernel)
theorem mw_578 : (Cond.code Lib.Math.max.name Lib.Math.max.code 2 (some .int)) ∈ gx_G := gx_mem 578 (by decide +kernel) (by decide +kernel)
theorem mw_668 : (Cond.methodLink RX11 118 yX8_copy) ∈ gx_G := gx_mem 668 (by decide +kernel) (by decide +kernel)
theorem mw_669 : (Cond.instanceMethod yX8_copy) ∈ gx_G := gx_mem 669 (by decide +kernel) (by decide +kernel)
theorem mw_670 : (Cond.selects RX8 yX8_copy yX8_copy) ∈ gx_G := gx_mem 670 (by decide +kernel) (by decide +kernel)
theorem mw_671 : (Cond.code yX8_copy cX8_copy 3 none) ∈ gx_G := gx_mem 671 (by decide +kernel) (by decide +kernel)
theorem mw_672 : (Cond.methodLink RX11 122 yX6_clear) ∈ gx_G := gx_mem 672 (by decide +kernel) (by decide +kernel)
theorem mw_673 : (Cond.instanceMethod yX6_clear) ∈ gx_G := gx_mem 673 (by decide +kernel) (by decide +kernel)
theorem mw_674 : (Cond.selects RX6 yX6_clear yX6_clear) ∈ gx_G := gx_mem 674 (by decide +kernel) (by decide +kernel)
theorem mw_675 : (Cond.code yX6_clear cX6_clear 1 none) ∈ gx_G := gx_mem 675 (by decide +kernel) (by decide +kernel)
theorem mw_676 : (Cond.methodLink RX11 125 yX3_clear) ∈ gx_G := gx_mem 676 (by decide +kernel) (by decide +kernel)
theorem mw_677 : (Cond.instanceMethod yX3_clear) ∈ gx_G := gx_mem 677 (by decide +kernel) (by decide +kernel)
theorem mw_678 : (Cond.selects RX3 yX3_clear yX3_clear) ∈ gx_G := gx_mem 678 (by decide +kernel) (by decide +kernel)
theorem mw_679 : (Cond.code yX3_clear cX3_clear 1 none) ∈ gx_G := gx_mem 679 (by decide +kernel) (by decide +kernel)
theorem mw_685 : (Cond.methodLink RX11 132 yX10_read) ∈ gx_G := gx_mem 685 (by decide +kernel) (by decide +kernel)
theorem mw_686 : (Cond.instanceMethod yX10_read) ∈ gx_G := gx_mem 686 (by decide +kernel) (by decide +kernel)
theorem mw_687 : (Cond.selects RX10 yX10_read yX10_read) ∈ gx_G := gx_mem 687 (by decide +kernel) (by decide +kernel)
theorem mw_688 : (Cond.code yX10_read cX10_read 4 (some .int)) ∈ gx_G := gx_mem 688 (by decide +kernel) (by decide +kernel)
theorem mw_689 : (Cond.methodLink RX10 19 yX7_showAtMost) ∈ gx_G := gx_mem 689 (by decide +kernel) (by decide +kernel)
theorem mw_690 : (Cond.methodLink RX10 25 yX7_isOver) ∈ gx_G := gx_mem 690 (by decide +kernel) (by decide +kernel)
theorem mw_692 : (Cond.methodLink RX10 34 Lib.Math.min.name) ∈ gx_G := gx_mem 692 (by decide +kernel) (by decide +kernel)
theorem mw_697 : (Cond.methodLink RX11 133 yX5_read) ∈ gx_G := gx_mem 697 (by decide +kernel) (by decide +kernel)
theorem mw_698 : (Cond.instanceMethod yX5_read) ∈ gx_G := gx_mem 698 (by decide +kernel) (by decide +kernel)
theorem mw_699 : (Cond.selects RX5 yX5_read yX5_read) ∈ gx_G := gx_mem 699 (by decide +kernel) (by decide +kernel)
theorem mw_700 : (Cond.code yX5_read cX5_read 4 (some .int)) ∈ gx_G := gx_mem 700 (by decide +kernel) (by decide +kernel)
theorem mw_701 : (Cond.methodLink RX5 30 yX5_clear) ∈ gx_G := gx_mem 701 (by decide +kernel) (by decide +kernel)
theorem mw_703 : (Cond.instanceMethod yX5_clear) ∈ gx_G := gx_mem 703 (by decide +kernel) (by decide +kernel)
theorem mw_704 : (Cond.code yX5_clear cX5_clear 1 none) ∈ gx_G := gx_mem 704 (by decide +kernel) (by decide +kernel)
theorem mw_705 : (Cond.methodLink RX5 33 yX7_showAtMost) ∈ gx_G := gx_mem 705 (by decide +kernel) (by decide +kernel)
theorem mw_706 : (Cond.methodLink RX5 39 yX7_isOver) ∈ gx_G := gx_mem 706 (by decide +kernel) (by decide +kernel)
theorem mw_707 : (Cond.methodLink RX5 43 yX5_addFact) ∈ gx_G := gx_mem 707 (by decide +kernel) (by decide +kernel)
theorem mw_709 : (Cond.instanceMethod yX5_addFact) ∈ gx_G := gx_mem 709 (by decide +kernel) (by decide +kernel)
theorem mw_710 : (Cond.code yX5_addFact cX5_addFact 2 none) ∈ gx_G := gx_mem 710 (by decide +kernel) (by decide +kernel)
theorem mw_711 : (Cond.methodLink RX5 84 yX5_addStep) ∈ gx_G := gx_mem 711 (by decide +kernel) (by decide +kernel)
theorem mw_713 : (Cond.instanceMethod yX5_addStep) ∈ gx_G := gx_mem 713 (by decide +kernel) (by decide +kernel)
theorem mw_714 : (Cond.code yX5_addStep cX5_addStep 2 none) ∈ gx_G := gx_mem 714 (by decide +kernel) (by decide +kernel)
theorem mw_752 : (Cond.methodLink RX11 134 yX5_copy) ∈ gx_G := gx_mem 752 (by decide +kernel) (by decide +kernel)
theorem mw_753 : (Cond.instanceMethod yX5_copy) ∈ gx_G := gx_mem 753 (by decide +kernel) (by decide +kernel)
theorem mw_754 : (Cond.selects RX5 yX5_copy yX5_copy) ∈ gx_G := gx_mem 754 (by decide +kernel) (by decide +kernel)
theorem mw_755 : (Cond.code yX5_copy cX5_copy 3 none) ∈ gx_G := gx_mem 755 (by decide +kernel) (by decide +kernel)
theorem mw_760 : (Cond.methodLink RX11 198 yX10_in) ∈ gx_G := gx_mem 760 (by decide +kernel) (by decide +kernel)
theorem mw_761 : (Cond.instanceMethod yX10_in) ∈ gx_G := gx_mem 761 (by decide +kernel) (by decide +kernel)
theorem mw_762 : (Cond.selects RX10 yX10_in yX10_in) ∈ gx_G := gx_mem 762 (by decide +kernel) (by decide +kernel)
theorem mw_763 : (Cond.code yX10_in cX10_in 2 (some .int)) ∈ gx_G := gx_mem 763 (by decide +kernel) (by decide +kernel)
theorem mw_768 : (Cond.methodLink RX11 201 yX8_isFork) ∈ gx_G := gx_mem 768 (by decide +kernel) (by decide +kernel)
theorem mw_769 : (Cond.instanceMethod yX8_isFork) ∈ gx_G := gx_mem 769 (by decide +kernel) (by decide +kernel)
theorem mw_770 : (Cond.selects RX8 yX8_isFork yX8_isFork) ∈ gx_G := gx_mem 770 (by decide +kernel) (by decide +kernel)
theorem mw_771 : (Cond.code yX8_isFork cX8_isFork 2 (some .boolean)) ∈ gx_G := gx_mem 771 (by decide +kernel) (by decide +kernel)
theorem mw_772 : (Cond.methodLink RX11 204 yX3_push) ∈ gx_G := gx_mem 772 (by decide +kernel) (by decide +kernel)
theorem mw_773 : (Cond.instanceMethod yX3_push) ∈ gx_G := gx_mem 773 (by decide +kernel) (by decide +kernel)
theorem mw_774 : (Cond.selects RX3 yX3_push yX3_push) ∈ gx_G := gx_mem 774 (by decide +kernel) (by decide +kernel)
theorem mw_775 : (Cond.code yX3_push cX3_push 2 none) ∈ gx_G := gx_mem 775 (by decide +kernel) (by decide +kernel)
theorem mw_776 : (Cond.methodLink RX3 23 yX6_copy) ∈ gx_G := gx_mem 776 (by decide +kernel) (by decide +kernel)
theorem mw_777 : (Cond.instanceMethod yX6_copy) ∈ gx_G := gx_mem 777 (by decide +kernel) (by decide +kernel)
theorem mw_778 : (Cond.selects RX6 yX6_copy yX6_copy) ∈ gx_G := gx_mem 778 (by decide +kernel) (by decide +kernel)
theorem mw_779 : (Cond.code yX6_copy cX6_copy 3 none) ∈ gx_G := gx_mem 779 (by decide +kernel) (by decide +kernel)
theorem mw_780 : (Cond.methodLink RX3 27 Lib.Math.min.name) ∈ gx_G := gx_mem 780 (by decide +kernel) (by decide +kernel)
theorem mw_798 : (Cond.methodLink RX11 137 yX8_has) ∈ gx_G := gx_mem 798 (by decide +kernel) (by decide +kernel)
theorem mw_799 : (Cond.instanceMethod yX8_has) ∈ gx_G := gx_mem 799 (by decide +kernel) (by decide +kernel)
theorem mw_800 : (Cond.selects RX8 yX8_has yX8_has) ∈ gx_G := gx_mem 800 (by decide +kernel) (by decide +kernel)
theorem mw_801 : (Cond.code yX8_has cX8_has 2 (some .boolean)) ∈ gx_G := gx_mem 801 (by decide +kernel) (by decide +kernel)
theorem mw_802 : (Cond.methodLink RX11 227 yX11_isLoad) ∈ gx_G := gx_mem 802 (by decide +kernel) (by decide +kernel)
theorem mw_803 : (Cond.static yX11_isLoad) ∈ gx_G := gx_mem 803 (by decide +kernel) (by decide +kernel)
theorem mw_804 : (Cond.code yX11_isLoad cX11_isLoad 2 (some .boolean)) ∈ gx_G := gx_mem 804 (by decide +kernel) (by decide +kernel)
theorem mw_808 : (Cond.methodLink RX11 234 yX8_isKitchen) ∈ gx_G := gx_mem 808 (by decide +kernel) (by decide +kernel)
theorem mw_809 : (Cond.instanceMethod yX8_isKitchen) ∈ gx_G := gx_mem 809 (by decide +kernel) (by decide +kernel)
theorem mw_810 : (Cond.selects RX8 yX8_isKitchen yX8_isKitchen) ∈ gx_G := gx_mem 810 (by decide +kernel) (by decide +kernel)
theorem mw_811 : (Cond.code yX8_isKitchen cX8_isKitchen 2 (some .boolean)) ∈ gx_G := gx_mem 811 (by decide +kernel) (by decide +kernel)
theorem mw_824 : (Cond.methodLink RX11 241 yX6_isOnWay) ∈ gx_G := gx_mem 824 (by decide +kernel) (by decide +kernel)
theorem mw_825 : (Cond.instanceMethod yX6_isOnWay) ∈ gx_G := gx_mem 825 (by decide +kernel) (by decide +kernel)
theorem mw_826 : (Cond.selects RX6 yX6_isOnWay yX6_isOnWay) ∈ gx_G := gx_mem 826 (by decide +kernel) (by decide +kernel)
theorem mw_827 : (Cond.code yX6_isOnWay cX6_isOnWay 2 (some .boolean)) ∈ gx_G := gx_mem 827 (by decide +kernel) (by decide +kernel)
theorem mw_837 : (Cond.methodLink RX11 253 yX11_passMinutes) ∈ gx_G := gx_mem 837 (by decide +kernel) (by decide +kernel)
theorem mw_839 : (Cond.instanceMethod yX11_passMinutes) ∈ gx_G := gx_mem 839 (by decide +kernel) (by decide +kernel)
theorem mw_840 : (Cond.code yX11_passMinutes cX11_passMinutes 3 none) ∈ gx_G := gx_mem 840 (by decide +kernel) (by decide +kernel)
theorem mw_841 : (Cond.methodLink RX11 266 yX1_pass) ∈ gx_G := gx_mem 841 (by decide +kernel) (by decide +kernel)
theorem mw_842 : (Cond.instanceMethod yX1_pass) ∈ gx_G := gx_mem 842 (by decide +kernel) (by decide +kernel)
theorem mw_843 : (Cond.selects RX1 yX1_pass yX1_pass) ∈ gx_G := gx_mem 843 (by decide +kernel) (by decide +kernel)
theorem mw_844 : (Cond.code yX1_pass cX1_pass 6 none) ∈ gx_G := gx_mem 844 (by decide +kernel) (by decide +kernel)
theorem mw_845 : (Cond.methodLink RX1 57 yX1_flowIn) ∈ gx_G := gx_mem 845 (by decide +kernel) (by decide +kernel)
theorem mw_847 : (Cond.instanceMethod yX1_flowIn) ∈ gx_G := gx_mem 847 (by decide +kernel) (by decide +kernel)
theorem mw_848 : (Cond.code yX1_flowIn cX1_flowIn 5 (some .int)) ∈ gx_G := gx_mem 848 (by decide +kernel) (by decide +kernel)
theorem mw_849 : (Cond.methodLink RX1 33 yX10_in) ∈ gx_G := gx_mem 849 (by decide +kernel) (by decide +kernel)
theorem mw_860 : (Cond.instanceMethod yX6_spotOf) ∈ gx_G := gx_mem 860 (by decide +kernel) (by decide +kernel)
theorem mw_861 : (Cond.selects RX6 yX6_spotOf yX6_spotOf) ∈ gx_G := gx_mem 861 (by decide +kernel) (by decide +kernel)
theorem mw_862 : (Cond.code yX6_spotOf cX6_spotOf 2 (some .int)) ∈ gx_G := gx_mem 862 (by decide +kernel) (by decide +kernel)
theorem mw_896 : (Cond.static yJ6_bitCount_0f7a4) ∈ gx_G := gx_mem 896 (by decide +kernel) (by decide +kernel)
theorem mw_897 : (Cond.code yJ6_bitCount_0f7a4 cJ6_bitCount_0f7a4 1 (some .int)) ∈ gx_G := gx_mem 897 (by decide +kernel) (by decide +kernel)
theorem mw_898 : (Cond.constant RJ6 265 (1431655765)) ∈ gx_G := gx_mem 898 (by decide +kernel) (by decide +kernel)
theorem mw_899 : (Cond.constant RJ6 266 (858993459)) ∈ gx_G := gx_mem 899 (by decide +kernel) (by decide +kernel)
theorem mw_900 : (Cond.constant RJ6 267 (252645135)) ∈ gx_G := gx_mem 900 (by decide +kernel) (by decide +kernel)
theorem mw_929 : (Cond.methodLink RX11 257 yX4_tell_) ∈ gx_G := gx_mem 929 (by decide +kernel) (by decide +kernel)
theorem mw_930 : (Cond.instanceMethod yX4_tell_) ∈ gx_G := gx_mem 930 (by decide +kernel) (by decide +kernel)
theorem mw_931 : (Cond.selects RX4 yX4_tell_ yX4_tell_) ∈ gx_G := gx_mem 931 (by decide +kernel) (by decide +kernel)
theorem mw_932 : (Cond.code yX4_tell_ cX4_tell_ 5 none) ∈ gx_G := gx_mem 932 (by decide +kernel) (by decide +kernel)
theorem mw_933 : (Cond.methodLink RX11 261 yJ6_bitCount_0f7a4) ∈ gx_G := gx_mem 933 (by decide +kernel) (by decide +kernel)
theorem mw_938 : (Cond.methodLink RX11 269 yX2_read) ∈ gx_G := gx_mem 938 (by decide +kernel) (by decide +kernel)
theorem mw_939 : (Cond.instanceMethod yX2_read) ∈ gx_G := gx_mem 939 (by decide +kernel) (by decide +kernel)
theorem mw_940 : (Cond.selects RX2 yX2_read yX2_read) ∈ gx_G := gx_mem 940 (by decide +kernel) (by decide +kernel)
theorem mw_941 : (Cond.code yX2_read cX2_read 5 (some .int)) ∈ gx_G := gx_mem 941 (by decide +kernel) (by decide +kernel)
theorem mw_942 : (Cond.methodLink RX2 30 yX7_showAtMost) ∈ gx_G := gx_mem 942 (by decide +kernel) (by decide +kernel)
theorem mw_943 : (Cond.methodLink RX2 36 yX7_isOver) ∈ gx_G := gx_mem 943 (by decide +kernel) (by decide +kernel)
theorem mw_979 : (Cond.methodLink RX11 270 yX6_copy) ∈ gx_G := gx_mem 979 (by decide +kernel) (by decide +kernel)
theorem mw_1008 : (Cond.methodLink RX11 283 yX3_pop) ∈ gx_G := gx_mem 1008 (by decide +kernel) (by decide +kernel)
theorem mw_1009 : (Cond.instanceMethod yX3_pop) ∈ gx_G := gx_mem 1009 (by decide +kernel) (by decide +kernel)
theorem mw_1010 : (Cond.selects RX3 yX3_pop yX3_pop) ∈ gx_G := gx_mem 1010 (by decide +kernel) (by decide +kernel)
theorem mw_1011 : (Cond.code yX3_pop cX3_pop 3 (some .boolean)) ∈ gx_G := gx_mem 1011 (by decide +kernel) (by decide +kernel)
theorem mw_1016 : (Cond.methodLink RX11 172 yX6_has) ∈ gx_G := gx_mem 1016 (by decide +kernel) (by decide +kernel)
theorem mw_1017 : (Cond.instanceMethod yX6_has) ∈ gx_G := gx_mem 1017 (by decide +kernel) (by decide +kernel)
theorem mw_1018 : (Cond.selects RX6 yX6_has yX6_has) ∈ gx_G := gx_mem 1018 (by decide +kernel) (by decide +kernel)
theorem mw_1019 : (Cond.code yX6_has cX6_has 2 (some .boolean)) ∈ gx_G := gx_mem 1019 (by decide +kernel) (by decide +kernel)
theorem mw_1020 : (Cond.methodLink RX11 290 yX11_isAhead) ∈ gx_G := gx_mem 1020 (by decide +kernel) (by decide +kernel)
theorem mw_1021 : (Cond.static yX11_isAhead) ∈ gx_G := gx_mem 1021 (by decide +kernel) (by decide +kernel)
theorem mw_1022 : (Cond.code yX11_isAhead cX11_isAhead 1 (some .boolean)) ∈ gx_G := gx_mem 1022 (by decide +kernel) (by decide +kernel)
theorem mw_1023 : (Cond.methodLink RX11 293 yX9_goOn) ∈ gx_G := gx_mem 1023 (by decide +kernel) (by decide +kernel)
theorem mw_1024 : (Cond.instanceMethod yX9_goOn) ∈ gx_G := gx_mem 1024 (by decide +kernel) (by decide +kernel)
theorem mw_1025 : (Cond.selects RX9 yX9_goOn yX9_goOn) ∈ gx_G := gx_mem 1025 (by decide +kernel) (by decide +kernel)
theorem mw_1026 : (Cond.code yX9_goOn cX9_goOn 4 none) ∈ gx_G := gx_mem 1026 (by decide +kernel) (by decide +kernel)
theorem mw_1027 : (Cond.methodLink RX9 63 yX6_copy) ∈ gx_G := gx_mem 1027 (by decide +kernel) (by decide +kernel)
theorem mw_1028 : (Cond.methodLink RX9 108 yX6_onWay) ∈ gx_G := gx_mem 1028 (by decide +kernel) (by decide +kernel)
theorem mw_1029 : (Cond.instanceMethod yX6_onWay) ∈ gx_G := gx_mem 1029 (by decide +kernel) (by decide +kernel)
theorem mw_1030 : (Cond.selects RX6 yX6_onWay yX6_onWay) ∈ gx_G := gx_mem 1030 (by decide +kernel) (by decide +kernel)
theorem mw_1031 : (Cond.code yX6_onWay cX6_onWay 1 (some .int)) ∈ gx_G := gx_mem 1031 (by decide +kernel) (by decide +kernel)
theorem mw_1039 : (Cond.methodLink RX11 300 yX4_tell__) ∈ gx_G := gx_mem 1039 (by decide +kernel) (by decide +kernel)
theorem mw_1040 : (Cond.instanceMethod yX4_tell__) ∈ gx_G := gx_mem 1040 (by decide +kernel) (by decide +kernel)
theorem mw_1041 : (Cond.selects RX4 yX4_tell__ yX4_tell__) ∈ gx_G := gx_mem 1041 (by decide +kernel) (by decide +kernel)
theorem mw_1042 : (Cond.code yX4_tell__ cX4_tell__ 7 none) ∈ gx_G := gx_mem 1042 (by decide +kernel) (by decide +kernel)
theorem mw_1057 : (Cond.methodLink RX11 307 yX4_tell) ∈ gx_G := gx_mem 1057 (by decide +kernel) (by decide +kernel)
theorem mw_1058 : (Cond.instanceMethod yX4_tell) ∈ gx_G := gx_mem 1058 (by decide +kernel) (by decide +kernel)
theorem mw_1059 : (Cond.selects RX4 yX4_tell yX4_tell) ∈ gx_G := gx_mem 1059 (by decide +kernel) (by decide +kernel)
theorem mw_1060 : (Cond.code yX4_tell cX4_tell 3 none) ∈ gx_G := gx_mem 1060 (by decide +kernel) (by decide +kernel)
theorem mw_1065 : (Cond.methodLink RX11 166 yX6_onWay) ∈ gx_G := gx_mem 1065 (by decide +kernel) (by decide +kernel)
theorem mw_1089 : (Cond.instanceMethod yX9_go) ∈ gx_G := gx_mem 1089 (by decide +kernel) (by decide +kernel)
theorem mw_1090 : (Cond.selects RX9 yX9_go yX9_go) ∈ gx_G := gx_mem 1090 (by decide +kernel) (by decide +kernel)
theorem mw_1091 : (Cond.code yX9_go cX9_go 3 (some .int)) ∈ gx_G := gx_mem 1091 (by decide +kernel) (by decide +kernel)
theorem mw_1092 : (Cond.methodLink RX9 86 yX9_begin) ∈ gx_G := gx_mem 1092 (by decide +kernel) (by decide +kernel)
theorem mw_1093 : (Cond.instanceMethod yX9_begin) ∈ gx_G := gx_mem 1093 (by decide +kernel) (by decide +kernel)
theorem mw_1094 : (Cond.selects RX9 yX9_begin yX9_begin) ∈ gx_G := gx_mem 1094 (by decide +kernel) (by decide +kernel)
theorem mw_1095 : (Cond.code yX9_begin cX9_begin 2 none) ∈ gx_G := gx_mem 1095 (by decide +kernel) (by decide +kernel)
theorem mw_1096 : (Cond.methodLink RX9 95 yX6_spotOf) ∈ gx_G := gx_mem 1096 (by decide +kernel) (by decide +kernel)
theorem mw_1097 : (Cond.methodLink RX9 99 Lib.Math.max.name) ∈ gx_G := gx_mem 1097 (by decide +kernel) (by decide +kernel)
theorem mw_1101 : (Cond.methodLink RX11 320 yX11_minutesOf) ∈ gx_G := gx_mem 1101 (by decide +kernel) (by decide +kernel)
theorem mw_1102 : (Cond.static yX11_minutesOf) ∈ gx_G := gx_mem 1102 (by decide +kernel) (by decide +kernel)
theorem mw_1103 : (Cond.code yX11_minutesOf cX11_minutesOf 1 (some .int)) ∈ gx_G := gx_mem 1103 (by decide +kernel) (by decide +kernel)
theorem mw_1138 : (Cond.methodLink RX11 343 yX9_startFrom) ∈ gx_G := gx_mem 1138 (by decide +kernel) (by decide +kernel)
theorem mw_1139 : (Cond.instanceMethod yX9_startFrom) ∈ gx_G := gx_mem 1139 (by decide +kernel) (by decide +kernel)
theorem mw_1140 : (Cond.selects RX9 yX9_startFrom yX9_startFrom) ∈ gx_G := gx_mem 1140 (by decide +kernel) (by decide +kernel)
theorem mw_1141 : (Cond.code yX9_startFrom cX9_startFrom 4 none) ∈ gx_G := gx_mem 1141 (by decide +kernel) (by decide +kernel)
theorem mw_1142 : (Cond.methodLink RX9 67 yX1_seesOthers) ∈ gx_G := gx_mem 1142 (by decide +kernel) (by decide +kernel)
theorem mw_1143 : (Cond.instanceMethod yX1_seesOthers) ∈ gx_G := gx_mem 1143 (by decide +kernel) (by decide +kernel)
theorem mw_1144 : (Cond.selects RX1 yX1_seesOthers yX1_seesOthers) ∈ gx_G := gx_mem 1144 (by decide +kernel) (by decide +kernel)
theorem mw_1145 : (Cond.code yX1_seesOthers cX1_seesOthers 1 (some .boolean)) ∈ gx_G := gx_mem 1145 (by decide +kernel) (by decide +kernel)
theorem mw_1146 : (Cond.methodLink RX9 73 yX6_holdBack) ∈ gx_G := gx_mem 1146 (by decide +kernel) (by decide +kernel)
theorem mw_1147 : (Cond.instanceMethod yX6_holdBack) ∈ gx_G := gx_mem 1147 (by decide +kernel) (by decide +kernel)
theorem mw_1148 : (Cond.selects RX6 yX6_holdBack yX6_holdBack) ∈ gx_G := gx_mem 1148 (by decide +kernel) (by decide +kernel)
theorem mw_1149 : (Cond.code yX6_holdBack cX6_holdBack 3 none) ∈ gx_G := gx_mem 1149 (by decide +kernel) (by decide +kernel)
theorem mw_1151 : (Cond.methodLink RX11 347 yX11_fewestTurns) ∈ gx_G := gx_mem 1151 (by decide +kernel) (by decide +kernel)
theorem mw_1153 : (Cond.instanceMethod yX11_fewestTurns) ∈ gx_G := gx_mem 1153 (by decide +kernel) (by decide +kernel)
theorem mw_1154 : (Cond.code yX11_fewestTurns cX11_fewestTurns 9 (some .int)) ∈ gx_G := gx_mem 1154 (by decide +kernel) (by decide +kernel)
theorem mw_1155 : (Cond.methodLink RX11 350 yX9_forgetSets) ∈ gx_G := gx_mem 1155 (by decide +kernel) (by decide +kernel)
theorem mw_1156 : (Cond.instanceMethod yX9_forgetSets) ∈ gx_G := gx_mem 1156 (by decide +kernel) (by decide +kernel)
theorem mw_1157 : (Cond.selects RX9 yX9_forgetSets yX9_forgetSets) ∈ gx_G := gx_mem 1157 (by decide +kernel) (by decide +kernel)
theorem mw_1158 : (Cond.code yX9_forgetSets cX9_forgetSets 3 none) ∈ gx_G := gx_mem 1158 (by decide +kernel) (by decide +kernel)
theorem mw_1159 : (Cond.methodLink RX9 121 yX9_remember) ∈ gx_G := gx_mem 1159 (by decide +kernel) (by decide +kernel)
theorem mw_1161 : (Cond.instanceMethod yX9_remember) ∈ gx_G := gx_mem 1161 (by decide +kernel) (by decide +kernel)
theorem mw_1162 : (Cond.code yX9_remember cX9_remember 3 none) ∈ gx_G := gx_mem 1162 (by decide +kernel) (by decide +kernel)
theorem mw_1163 : (Cond.methodLink RX9 125 yX8_nextSet) ∈ gx_G := gx_mem 1163 (by decide +kernel) (by decide +kernel)
theorem mw_1164 : (Cond.instanceMethod yX8_nextSet) ∈ gx_G := gx_mem 1164 (by decide +kernel) (by decide +kernel)
theorem mw_1165 : (Cond.selects RX8 yX8_nextSet yX8_nextSet) ∈ gx_G := gx_mem 1165 (by decide +kernel) (by decide +kernel)
theorem mw_1166 : (Cond.code yX8_nextSet cX8_nextSet 2 (some .int)) ∈ gx_G := gx_mem 1166 (by decide +kernel) (by decide +kernel)
theorem mw_1167 : (Cond.methodLink RX11 356 yX9_outcome) ∈ gx_G := gx_mem 1167 (by decide +kernel) (by decide +kernel)
theorem mw_1168 : (Cond.instanceMethod yX9_outcome) ∈ gx_G := gx_mem 1168 (by decide +kernel) (by decide +kernel)
theorem mw_1169 : (Cond.selects RX9 yX9_outcome yX9_outcome) ∈ gx_G := gx_mem 1169 (by decide +kernel) (by decide +kernel)
theorem mw_1170 : (Cond.code yX9_outcome cX9_outcome 2 (some .int)) ∈ gx_G := gx_mem 1170 (by decide +kernel) (by decide +kernel)
theorem mw_1171 : (Cond.methodLink RX9 128 yX9_go) ∈ gx_G := gx_mem 1171 (by decide +kernel) (by decide +kernel)
theorem mw_1172 : (Cond.methodLink RX9 131 yX9_spread) ∈ gx_G := gx_mem 1172 (by decide +kernel) (by decide +kernel)
theorem mw_1174 : (Cond.instanceMethod yX9_spread) ∈ gx_G := gx_mem 1174 (by decide +kernel) (by decide +kernel)
theorem mw_1175 : (Cond.code yX9_spread cX9_spread 7 none) ∈ gx_G := gx_mem 1175 (by decide +kernel) (by decide +kernel)
theorem mw_1176 : (Cond.methodLink RX9 137 yJ6_bitCount_0f7a4) ∈ gx_G := gx_mem 1176 (by decide +kernel) (by decide +kernel)
theorem mw_1177 : (Cond.methodLink RX11 359 yX8_nextSet) ∈ gx_G := gx_mem 1177 (by decide +kernel) (by decide +kernel)
theorem mw_1213 : (Cond.methodLink RX11 372 yX11_findFits) ∈ gx_G := gx_mem 1213 (by decide +kernel) (by decide +kernel)
theorem mw_1215 : (Cond.instanceMethod yX11_findFits) ∈ gx_G := gx_mem 1215 (by decide +kernel) (by decide +kernel)
theorem mw_1216 : (Cond.code yX11_findFits cX11_findFits 5 none) ∈ gx_G := gx_mem 1216 (by decide +kernel) (by decide +kernel)
theorem mw_1217 : (Cond.methodLink RX11 384 yX9_fitAll) ∈ gx_G := gx_mem 1217 (by decide +kernel) (by decide +kernel)
theorem mw_1218 : (Cond.instanceMethod yX9_fitAll) ∈ gx_G := gx_mem 1218 (by decide +kernel) (by decide +kernel)
theorem mw_1219 : (Cond.selects RX9 yX9_fitAll yX9_fitAll) ∈ gx_G := gx_mem 1219 (by decide +kernel) (by decide +kernel)
theorem mw_1220 : (Cond.code yX9_fitAll cX9_fitAll 3 none) ∈ gx_G := gx_mem 1220 (by decide +kernel) (by decide +kernel)
theorem mw_1221 : (Cond.methodLink RX9 142 yX9_setFitting) ∈ gx_G := gx_mem 1221 (by decide +kernel) (by decide +kernel)
theorem mw_1222 : (Cond.instanceMethod yX9_setFitting) ∈ gx_G := gx_mem 1222 (by decide +kernel) (by decide +kernel)
theorem mw_1223 : (Cond.selects RX9 yX9_setFitting yX9_setFitting) ∈ gx_G := gx_mem 1223 (by decide +kernel) (by decide +kernel)
theorem mw_1224 : (Cond.code yX9_setFitting cX9_setFitting 3 none) ∈ gx_G := gx_mem 1224 (by decide +kernel) (by decide +kernel)
theorem mw_1241 : (Cond.methodLink RX11 378 yX9_fits) ∈ gx_G := gx_mem 1241 (by decide +kernel) (by decide +kernel)
theorem mw_1242 : (Cond.instanceMethod yX9_fits) ∈ gx_G := gx_mem 1242 (by decide +kernel) (by decide +kernel)
theorem mw_1243 : (Cond.selects RX9 yX9_fits yX9_fits) ∈ gx_G := gx_mem 1243 (by decide +kernel) (by decide +kernel)
theorem mw_1244 : (Cond.code yX9_fits cX9_fits 2 (some .boolean)) ∈ gx_G := gx_mem 1244 (by decide +kernel) (by decide +kernel)
theorem cw_X8_40 : gx_Wv RX8 40 yX8_clear cX8_clear 2 none 0 := ⟨⟨mw_520, mw_522, mw_0, mw_91, mw_523⟩, by decide +kernel⟩
theorem cw_X8_43 : gx_Wv RX8 43 yX7_showAtMost cX7_showAtMost 2 none 1 := ⟨⟨mw_524, mw_525, mw_526, mw_90, mw_527⟩, by decide +kernel⟩
theorem cw_X8_49 : gx_Wv RX8 49 yX7_isOver cX7_isOver 2 (some .boolean) 1 := ⟨⟨mw_531, mw_532, mw_533, mw_90, mw_534⟩, by decide +kernel⟩
theorem cw_X10_19 : gx_Wv RX10 19 yX7_showAtMost cX7_showAtMost 2 none 1 := ⟨⟨mw_689, mw_525, mw_526, mw_90, mw_527⟩, by decide +kernel⟩
theorem cw_X10_25 : gx_Wv RX10 25 yX7_isOver cX7_isOver 2 (some .boolean) 1 := ⟨⟨mw_690, mw_532, mw_533, mw_90, mw_534⟩, by decide +kernel⟩
theorem cw_X5_84 : gx_Wv RX5 84 yX5_addStep cX5_addStep 2 none 1 := ⟨⟨mw_711, mw_713, mw_10, mw_93, mw_714⟩, by decide +kernel⟩
theorem cw_X5_30 : gx_Wv RX5 30 yX5_clear cX5_clear 1 none 0 := ⟨⟨mw_701, mw_703, mw_8, mw_93, mw_704⟩, by decide +kernel⟩
theorem cw_X5_33 : gx_Wv RX5 33 yX7_showAtMost cX7_showAtMost 2 none 1 := ⟨⟨mw_705, mw_525, mw_526, mw_90, mw_527⟩, by decide +kernel⟩
theorem cw_X5_39 : gx_Wv RX5 39 yX7_isOver cX7_isOver 2 (some .boolean) 1 := ⟨⟨mw_706, mw_532, mw_533, mw_90, mw_534⟩, by decide +kernel⟩
theorem cw_X5_43 : gx_Wv RX5 43 yX5_addFact cX5_addFact 2 none 1 := ⟨⟨mw_707, mw_709, mw_9, mw_93, mw_710⟩, by decide +kernel⟩
theorem cw_X3_23 : gx_Wv RX3 23 yX6_copy cX6_copy 3 none 1 := ⟨⟨mw_776, mw_777, mw_778, mw_95, mw_779⟩, by decide +kernel⟩
theorem cw_X1_33 : gx_Wv RX1 33 yX10_in cX10_in 2 (some .int) 1 := ⟨⟨mw_849, mw_761, mw_762, mw_92, mw_763⟩, by decide +kernel⟩
theorem cw_X1_57 : gx_Wv RX1 57 yX1_flowIn cX1_flowIn 5 (some .int) 1 := ⟨⟨mw_845, mw_847, mw_19, mw_99, mw_848⟩, by decide +kernel⟩
theorem cw_X9_63 : gx_Wv RX9 63 yX6_copy cX6_copy 3 none 1 := ⟨⟨mw_1027, mw_777, mw_778, mw_95, mw_779⟩, by decide +kernel⟩
theorem cw_X9_108 : gx_Wv RX9 108 yX6_onWay cX6_onWay 1 (some .int) 0 := ⟨⟨mw_1028, mw_1029, mw_1030, mw_95, mw_1031⟩, by decide +kernel⟩
theorem cw_X9_67 : gx_Wv RX9 67 yX1_seesOthers cX1_seesOthers 1 (some .boolean) 0 := ⟨⟨mw_1142, mw_1143, mw_1144, mw_99, mw_1145⟩, by decide +kernel⟩
theorem cw_X9_73 : gx_Wv RX9 73 yX6_holdBack cX6_holdBack 3 none 1 := ⟨⟨mw_1146, mw_1147, mw_1148, mw_95, mw_1149⟩, by decide +kernel⟩
theorem cw_X9_86 : gx_Wv RX9 86 yX9_begin cX9_begin 2 none 1 := ⟨⟨mw_1092, mw_1093, mw_1094, mw_100, mw_1095⟩, by decide +kernel⟩
theorem cw_X9_95 : gx_Wv RX9 95 yX6_spotOf cX6_spotOf 2 (some .int) 1 := ⟨⟨mw_1096, mw_860, mw_861, mw_95, mw_862⟩, by decide +kernel⟩
theorem cw_X9_121 : gx_Wv RX9 121 yX9_remember cX9_remember 3 none 2 := ⟨⟨mw_1159, mw_1161, mw_34, mw_100, mw_1162⟩, by decide +kernel⟩
theorem cw_X9_125 : gx_Wv RX9 125 yX8_nextSet cX8_nextSet 2 (some .int) 1 := ⟨⟨mw_1163, mw_1164, mw_1165, mw_91, mw_1166⟩, by decide +kernel⟩
theorem cw_X9_137 : gx_Ws RX9 137 yJ6_bitCount_0f7a4 cJ6_bitCount_0f7a4 1 (some .int) 1 := ⟨⟨mw_1176, mw_896, mw_114, mw_897⟩, by decide +kernel⟩
theorem cw_X9_128 : gx_Wv RX9 128 yX9_go cX9_go 3 (some .int) 1 := ⟨⟨mw_1171, mw_1089, mw_1090, mw_100, mw_1091⟩, by decide +kernel⟩
theorem cw_X9_131 : gx_Wv RX9 131 yX9_spread cX9_spread 7 none 2 := ⟨⟨mw_1172, mw_1174, mw_35, mw_100, mw_1175⟩, by decide +kernel⟩
theorem cw_X9_142 : gx_Wv RX9 142 yX9_setFitting cX9_setFitting 3 none 2 := ⟨⟨mw_1221, mw_1222, mw_1223, mw_100, mw_1224⟩, by decide +kernel⟩
theorem cw_X2_30 : gx_Wv RX2 30 yX7_showAtMost cX7_showAtMost 2 none 1 := ⟨⟨mw_942, mw_525, mw_526, mw_90, mw_527⟩, by decide +kernel⟩
theorem cw_X2_36 : gx_Wv RX2 36 yX7_isOver cX7_isOver 2 (some .boolean) 1 := ⟨⟨mw_943, mw_532, mw_533, mw_90, mw_534⟩, by decide +kernel⟩
theorem cw_X11_266 : gx_Wv RX11 266 yX1_pass cX1_pass 6 none 1 := ⟨⟨mw_841, mw_842, mw_843, mw_99, mw_844⟩, by decide +kernel⟩
theorem cw_X11_350 : gx_Wv RX11 350 yX9_forgetSets cX9_forgetSets 3 none 0 := ⟨⟨mw_1155, mw_1156, mw_1157, mw_100, mw_1158⟩, by decide +kernel⟩
theorem cw_X11_261 : gx_Ws RX11 261 yJ6_bitCount_0f7a4 cJ6_bitCount_0f7a4 1 (some .int) 1 := ⟨⟨mw_933, mw_896, mw_114, mw_897⟩, by decide +kernel⟩
theorem cw_X11_356 : gx_Wv RX11 356 yX9_outcome cX9_outcome 2 (some .int) 1 := ⟨⟨mw_1167, mw_1168, mw_1169, mw_100, mw_1170⟩, by decide +kernel⟩
theorem cw_X11_320 : gx_Ws RX11 320 yX11_minutesOf cX11_minutesOf 1 (some .int) 1 := ⟨⟨mw_1101, mw_1102, mw_89, mw_1103⟩, by decide +kernel⟩
theorem cw_X11_359 : gx_Wv RX11 359 yX8_nextSet cX8_nextSet 2 (some .int) 1 := ⟨⟨mw_1177, mw_1164, mw_1165, mw_91, mw_1166⟩, by decide +kernel⟩
theorem cw_X11_257 : gx_Wv RX11 257 yX4_tell_ cX4_tell_ 5 none 2 := ⟨⟨mw_929, mw_930, mw_931, mw_98, mw_932⟩, by decide +kernel⟩
theorem cw_X11_384 : gx_Wv RX11 384 yX9_fitAll cX9_fitAll 3 none 0 := ⟨⟨mw_1217, mw_1218, mw_1219, mw_100, mw_1220⟩, by decide +kernel⟩
theorem cw_X11_103 : gx_Wv RX11 103 yX7_addFour cX7_addFour 2 (some .boolean) 1 := ⟨⟨mw_500, mw_501, mw_502, mw_90, mw_503⟩, by decide +kernel⟩
theorem cw_X11_111 : gx_Wv RX11 111 yX7_cut cX7_cut 2 (some .boolean) 1 := ⟨⟨mw_508, mw_509, mw_510, mw_90, mw_511⟩, by decide +kernel⟩
theorem cw_X11_114 : gx_Wv RX11 114 yX8_read cX8_read 5 (some .int) 1 := ⟨⟨mw_516, mw_517, mw_518, mw_91, mw_519⟩, by decide +kernel⟩
theorem cw_X11_118 : gx_Wv RX11 118 yX8_copy cX8_copy 3 none 1 := ⟨⟨mw_668, mw_669, mw_670, mw_91, mw_671⟩, by decide +kernel⟩
theorem cw_X11_122 : gx_Wv RX11 122 yX6_clear cX6_clear 1 none 0 := ⟨⟨mw_672, mw_673, mw_674, mw_95, mw_675⟩, by decide +kernel⟩
theorem cw_X11_125 : gx_Wv RX11 125 yX3_clear cX3_clear 1 none 0 := ⟨⟨mw_676, mw_677, mw_678, mw_96, mw_679⟩, by decide +kernel⟩
theorem cw_X11_132 : gx_Wv RX11 132 yX10_read cX10_read 4 (some .int) 1 := ⟨⟨mw_685, mw_686, mw_687, mw_92, mw_688⟩, by decide +kernel⟩
theorem cw_X11_133 : gx_Wv RX11 133 yX5_read cX5_read 4 (some .int) 1 := ⟨⟨mw_697, mw_698, mw_699, mw_93, mw_700⟩, by decide +kernel⟩
theorem cw_X11_134 : gx_Wv RX11 134 yX5_copy cX5_copy 3 none 1 := ⟨⟨mw_752, mw_753, mw_754, mw_93, mw_755⟩, by decide +kernel⟩
theorem cw_X11_198 : gx_Wv RX11 198 yX10_in cX10_in 2 (some .int) 1 := ⟨⟨mw_760, mw_761, mw_762, mw_92, mw_763⟩, by decide +kernel⟩
theorem cw_X11_201 : gx_Wv RX11 201 yX8_isFork cX8_isFork 2 (some .boolean) 1 := ⟨⟨mw_768, mw_769, mw_770, mw_91, mw_771⟩, by decide +kernel⟩
theorem cw_X11_137 : gx_Wv RX11 137 yX8_has cX8_has 2 (some .boolean) 1 := ⟨⟨mw_798, mw_799, mw_800, mw_91, mw_801⟩, by decide +kernel⟩
theorem cw_X11_241 : gx_Wv RX11 241 yX6_isOnWay cX6_isOnWay 2 (some .boolean) 1 := ⟨⟨mw_824, mw_825, mw_826, mw_95, mw_827⟩, by decide +kernel⟩
theorem cw_X11_253 : gx_Wv RX11 253 yX11_passMinutes cX11_passMinutes 3 none 1 := ⟨⟨mw_837, mw_839, mw_18, mw_89, mw_840⟩, by decide +kernel⟩
theorem cw_X11_204 : gx_Wv RX11 204 yX3_push cX3_push 2 none 1 := ⟨⟨mw_772, mw_773, mw_774, mw_96, mw_775⟩, by decide +kernel⟩
theorem cw_X11_269 : gx_Wv RX11 269 yX2_read cX2_read 5 (some .int) 1 := ⟨⟨mw_938, mw_939, mw_940, mw_94, mw_941⟩, by decide +kernel⟩
theorem cw_X11_270 : gx_Wv RX11 270 yX6_copy cX6_copy 3 none 1 := ⟨⟨mw_979, mw_777, mw_778, mw_95, mw_779⟩, by decide +kernel⟩
theorem cw_X11_283 : gx_Wv RX11 283 yX3_pop cX3_pop 3 (some .boolean) 1 := ⟨⟨mw_1008, mw_1009, mw_1010, mw_96, mw_1011⟩, by decide +kernel⟩
theorem cw_X11_172 : gx_Wv RX11 172 yX6_has cX6_has 2 (some .boolean) 1 := ⟨⟨mw_1016, mw_1017, mw_1018, mw_95, mw_1019⟩, by decide +kernel⟩
theorem cw_X11_290 : gx_Ws RX11 290 yX11_isAhead cX11_isAhead 1 (some .boolean) 1 := ⟨⟨mw_1020, mw_1021, mw_89, mw_1022⟩, by decide +kernel⟩
theorem cw_X11_166 : gx_Wv RX11 166 yX6_onWay cX6_onWay 1 (some .int) 0 := ⟨⟨mw_1065, mw_1029, mw_1030, mw_95, mw_1031⟩, by decide +kernel⟩
theorem cw_X11_293 : gx_Wv RX11 293 yX9_goOn cX9_goOn 4 none 2 := ⟨⟨mw_1023, mw_1024, mw_1025, mw_100, mw_1026⟩, by decide +kernel⟩
theorem cw_X11_227 : gx_Ws RX11 227 yX11_isLoad cX11_isLoad 2 (some .boolean) 2 := ⟨⟨mw_802, mw_803, mw_89, mw_804⟩, by decide +kernel⟩
theorem cw_X11_234 : gx_Wv RX11 234 yX8_isKitchen cX8_isKitchen 2 (some .boolean) 1 := ⟨⟨mw_808, mw_809, mw_810, mw_91, mw_811⟩, by decide +kernel⟩
theorem cw_X11_343 : gx_Wv RX11 343 yX9_startFrom cX9_startFrom 4 none 3 := ⟨⟨mw_1138, mw_1139, mw_1140, mw_100, mw_1141⟩, by decide +kernel⟩
theorem cw_X11_347 : gx_Wv RX11 347 yX11_fewestTurns cX11_fewestTurns 9 (some .int) 1 := ⟨⟨mw_1151, mw_1153, mw_33, mw_89, mw_1154⟩, by decide +kernel⟩
theorem cw_X11_372 : gx_Wv RX11 372 yX11_findFits cX11_findFits 5 none 0 := ⟨⟨mw_1213, mw_1215, mw_37, mw_89, mw_1216⟩, by decide +kernel⟩
theorem cw_X11_378 : gx_Wv RX11 378 yX9_fits cX9_fits 2 (some .boolean) 1 := ⟨⟨mw_1241, mw_1242, mw_1243, mw_100, mw_1244⟩, by decide +kernel⟩
theorem cw_X11_300 : gx_Wv RX11 300 yX4_tell__ cX4_tell__ 7 none 3 := ⟨⟨mw_1039, mw_1040, mw_1041, mw_98, mw_1042⟩, by decide +kernel⟩
theorem cw_X11_307 : gx_Wv RX11 307 yX4_tell cX4_tell 3 none 1 := ⟨⟨mw_1057, mw_1058, mw_1059, mw_98, mw_1060⟩, by decide +kernel⟩
theorem t_0 : gx_tb[0]? = some (.inl (12, [some (some 1), some (some 3), some (some 9), some (some 15), some (some 17), some (some 21), some (some 25), some (some 30), some (some 37), some (some 44), some (some 151), none, some (some 152), some (some 156), some (some 158), some (some 160)])) := rfl
theorem t_1 : gx_tb[1]? = some (.inl (8, [some (some 2), none, none])) := rfl
theorem t_2 : gx_tb[2]? = some (.inr (0, 80, [])) := rfl
theorem t_3 : gx_tb[3]? = some (.inl (9, [some (some 4), some (some 5), some (some 6), some (some 7), some (some 8), none, none, none, none])) := rfl
theorem t_4 : gx_tb[4]? = some (.inr (0, 12, [])) := rfl
theorem t_5 : gx_tb[5]? = some (.inr (0, 12, [])) := rfl
theorem t_6 : gx_tb[6]? = some (.inr (0, 12, [])) := rfl
theorem t_7 : gx_tb[7]? = some (.inr (0, 12, [])) := rfl
theorem t_9 : gx_tb[9]? = some (.inl (9, [some (some 10), some (some 11), some (some 12), some (some 13), some (some 14), none, none, none, none])) := rfl
theorem t_10 : gx_tb[10]? = some (.inr (0, 12, [])) := rfl
theorem t_11 : gx_tb[11]? = some (.inr (0, 12, [])) := rfl
theorem t_12 : gx_tb[12]? = some (.inr (0, 12, [])) := rfl
theorem t_13 : gx_tb[13]? = some (.inr (0, 12, [])) := rfl
theorem t_14 : gx_tb[14]? = some (.inr (0, 12, [])) := rfl
theorem t_15 : gx_tb[15]? = some (.inl (11, [some (some 16), none])) := rfl
theorem t_17 : gx_tb[17]? = some (.inl (6, [some (some 18), some (some 19), some (some 20), none, none, none, none, none, none, none, none])) := rfl
theorem t_18 : gx_tb[18]? = some (.inr (0, 40, [])) := rfl
theorem t_21 : gx_tb[21]? = some (.inl (6, [some (some 22), some (some 23), some (some 24), none, none, none, none, none, none, none, none])) := rfl
theorem t_22 : gx_tb[22]? = some (.inr (0, 40, [])) := rfl
theorem t_25 : gx_tb[25]? = some (.inl (3, [some (some 26), some (some 27), some (some 28), some (some 29), none])) := rfl
theorem t_30 : gx_tb[30]? = some (.inl (7, [some (some 31), some (some 32), some (some 33), some (some 34), some (some 35), some (some 36), none, none, none, none, none])) := rfl
theorem t_37 : gx_tb[37]? = some (.inl (7, [some (some 38), some (some 39), some (some 40), some (some 41), some (some 42), some (some 43), none, none, none, none, none])) := rfl
theorem t_44 : gx_tb[44]? = some (.inl (4, [some (some 45), none, none])) := rfl
theorem t_45 : gx_tb[45]? = some (.inr (3, 15, [some 46, some 53, some 60, some 67, some 74, some 81, some 88, some 95, some 102, some 109, some 116, some 123, some 130, some 137, some 144])) := rfl
theorem t_46 : gx_tb[46]? = some (.inl (7, [some (some 47), some (some 48), some (some 49), some (some 50), some (some 51), some (some 52), none, none, none, none, none])) := rfl
theorem t_151 : gx_tb[151]? = some (.inr (3, 3, [some 178, some 185, some 192])) := rfl
theorem t_152 : gx_tb[152]? = some (.inl (1, [some (some 153), some (some 154), some (some 155), none])) := rfl
theorem t_156 : gx_tb[156]? = some (.inl (5, [some (some 157), none])) := rfl
theorem t_157 : gx_tb[157]? = some (.inr (1, 3, [])) := rfl
theorem t_158 : gx_tb[158]? = some (.inl (2, [some (some 3), some (some 15), some (some 17), some (some 159), none, none, none, none, none, none])) := rfl
theorem t_160 : gx_tb[160]? = some (.inl (10, [some (some 3), some (some 158), some (some 161), some (some 162), some (some 163), none, none, some (some 164), some (some 171)])) := rfl
theorem t_161 : gx_tb[161]? = some (.inr (0, 4096, [])) := rfl
theorem t_162 : gx_tb[162]? = some (.inr (2, 4096, [])) := rfl
theorem t_164 : gx_tb[164]? = some (.inl (7, [some (some 165), some (some 166), some (some 167), some (some 168), some (some 169), some (some 170), none, none, none, none, none])) := rfl
theorem t_171 : gx_tb[171]? = some (.inl (7, [some (some 172), some (some 173), some (some 174), some (some 175), some (some 176), some (some 177), none, none, none, none, none])) := rfl
theorem t_172 : gx_tb[172]? = some (.inr (0, 6, [])) := rfl
theorem t_178 : gx_tb[178]? = some (.inl (7, [some (some 179), some (some 180), some (some 181), some (some 182), some (some 183), some (some 184), none, none, none, none, none])) := rfl
theorem t_185 : gx_tb[185]? = some (.inl (7, [some (some 186), some (some 187), some (some 188), some (some 189), some (some 190), some (some 191), none, none, none, none, none])) := rfl
theorem t_192 : gx_tb[192]? = some (.inl (7, [some (some 193), some (some 194), some (some 195), some (some 196), some (some 197), some (some 198), none, none, none, none, none])) := rfl
theorem dJ6_bitCount_0f7a4_0 : decode cJ6_bitCount_0f7a4 0 = .ok (.iload_n 0, 1) := by decide +kernel
theorem dJ6_bitCount_0f7a4_1 : decode cJ6_bitCount_0f7a4 1 = .ok (.iload_n 0, 1) := by decide +kernel
theorem dJ6_bitCount_0f7a4_2 : decode cJ6_bitCount_0f7a4 2 = .ok (.iconst 1, 1) := by decide +kernel
theorem dJ6_bitCount_0f7a4_3 : decode cJ6_bitCount_0f7a4 3 = .ok (.iushr, 1) := by decide +kernel
theorem dJ6_bitCount_0f7a4_4 : decode cJ6_bitCount_0f7a4 4 = .ok (.ldc_w 265, 3) := by decide +kernel
theorem dJ6_bitCount_0f7a4_7 : decode cJ6_bitCount_0f7a4 7 = .ok (.iand, 1) := by decide +kernel
theorem dJ6_bitCount_0f7a4_8 : decode cJ6_bitCount_0f7a4 8 = .ok (.isub, 1) := by decide +kernel
theorem dJ6_bitCount_0f7a4_9 : decode cJ6_bitCount_0f7a4 9 = .ok (.istore_n 0, 1) := by decide +kernel
theorem dJ6_bitCount_0f7a4_10 : decode cJ6_bitCount_0f7a4 10 = .ok (.iload_n 0, 1) := by decide +kernel
theorem dJ6_bitCount_0f7a4_11 : decode cJ6_bitCount_0f7a4 11 = .ok (.ldc_w 266, 3) := by decide +kernel
theorem dJ6_bitCount_0f7a4_14 : decode cJ6_bitCount_0f7a4 14 = .ok (.iand, 1) := by decide +kernel
theorem dJ6_bitCount_0f7a4_15 : decode cJ6_bitCount_0f7a4 15 = .ok (.iload_n 0, 1) := by decide +kernel
theorem dJ6_bitCount_0f7a4_16 : decode cJ6_bitCount_0f7a4 16 = .ok (.iconst 2, 1) := by decide +kernel
theorem dJ6_bitCount_0f7a4_17 : decode cJ6_bitCount_0f7a4 17 = .ok (.iushr, 1) := by decide +kernel
theorem dJ6_bitCount_0f7a4_18 : decode cJ6_bitCount_0f7a4 18 = .ok (.ldc_w 266, 3) := by decide +kernel
theorem dJ6_bitCount_0f7a4_21 : decode cJ6_bitCount_0f7a4 21 = .ok (.iand, 1) := by decide +kernel
theorem dJ6_bitCount_0f7a4_22 : decode cJ6_bitCount_0f7a4 22 = .ok (.iadd, 1) := by decide +kernel
theorem dJ6_bitCount_0f7a4_23 : decode cJ6_bitCount_0f7a4 23 = .ok (.istore_n 0, 1) := by decide +kernel
theorem dJ6_bitCount_0f7a4_24 : decode cJ6_bitCount_0f7a4 24 = .ok (.iload_n 0, 1) := by decide +kernel
theorem dJ6_bitCount_0f7a4_25 : decode cJ6_bitCount_0f7a4 25 = .ok (.iload_n 0, 1) := by decide +kernel
theorem dJ6_bitCount_0f7a4_26 : decode cJ6_bitCount_0f7a4 26 = .ok (.iconst 4, 1) := by decide +kernel
theorem dJ6_bitCount_0f7a4_27 : decode cJ6_bitCount_0f7a4 27 = .ok (.iushr, 1) := by decide +kernel
theorem dJ6_bitCount_0f7a4_28 : decode cJ6_bitCount_0f7a4 28 = .ok (.iadd, 1) := by decide +kernel
theorem dJ6_bitCount_0f7a4_29 : decode cJ6_bitCount_0f7a4 29 = .ok (.ldc_w 267, 3) := by decide +kernel
theorem dJ6_bitCount_0f7a4_32 : decode cJ6_bitCount_0f7a4 32 = .ok (.iand, 1) := by decide +kernel
theorem dJ6_bitCount_0f7a4_33 : decode cJ6_bitCount_0f7a4 33 = .ok (.istore_n 0, 1) := by decide +kernel
theorem dJ6_bitCount_0f7a4_34 : decode cJ6_bitCount_0f7a4 34 = .ok (.iload_n 0, 1) := by decide +kernel
theorem dJ6_bitCount_0f7a4_35 : decode cJ6_bitCount_0f7a4 35 = .ok (.iload_n 0, 1) := by decide +kernel
theorem dJ6_bitCount_0f7a4_36 : decode cJ6_bitCount_0f7a4 36 = .ok (.bipush 8, 2) := by decide +kernel
theorem dJ6_bitCount_0f7a4_38 : decode cJ6_bitCount_0f7a4 38 = .ok (.iushr, 1) := by decide +kernel
theorem dJ6_bitCount_0f7a4_39 : decode cJ6_bitCount_0f7a4 39 = .ok (.iadd, 1) := by decide +kernel
theorem dJ6_bitCount_0f7a4_40 : decode cJ6_bitCount_0f7a4 40 = .ok (.istore_n 0, 1) := by decide +kernel
theorem dJ6_bitCount_0f7a4_41 : decode cJ6_bitCount_0f7a4 41 = .ok (.iload_n 0, 1) := by decide +kernel
theorem dJ6_bitCount_0f7a4_42 : decode cJ6_bitCount_0f7a4 42 = .ok (.iload_n 0, 1) := by decide +kernel
theorem dJ6_bitCount_0f7a4_43 : decode cJ6_bitCount_0f7a4 43 = .ok (.bipush 16, 2) := by decide +kernel
theorem dJ6_bitCount_0f7a4_45 : decode cJ6_bitCount_0f7a4 45 = .ok (.iushr, 1) := by decide +kernel
theorem dJ6_bitCount_0f7a4_46 : decode cJ6_bitCount_0f7a4 46 = .ok (.iadd, 1) := by decide +kernel
theorem dJ6_bitCount_0f7a4_47 : decode cJ6_bitCount_0f7a4 47 = .ok (.istore_n 0, 1) := by decide +kernel
theorem dJ6_bitCount_0f7a4_48 : decode cJ6_bitCount_0f7a4 48 = .ok (.iload_n 0, 1) := by decide +kernel
theorem dJ6_bitCount_0f7a4_49 : decode cJ6_bitCount_0f7a4 49 = .ok (.bipush 63, 2) := by decide +kernel
theorem dJ6_bitCount_0f7a4_51 : decode cJ6_bitCount_0f7a4 51 = .ok (.iand, 1) := by decide +kernel
theorem dJ6_bitCount_0f7a4_52 : decode cJ6_bitCount_0f7a4 52 = .ok (.ireturn, 1) := by decide +kernel
theorem dX10_in_0 : decode cX10_in 0 = .ok (.aload_n 0, 1) := by decide +kernel
theorem dX10_in_1 : decode cX10_in 1 = .ok (.getfield 15, 3) := by decide +kernel
theorem dX10_in_4 : decode cX10_in 4 = .ok (.ifCond .le 16, 3) := by decide +kernel
theorem dX10_in_20 : decode cX10_in 20 = .ok (.iconst 1, 1) := by decide +kernel
theorem dX10_in_21 : decode cX10_in 21 = .ok (.ireturn, 1) := by decide +kernel
theorem dX10_read_0 : decode cX10_read 0 = .ok (.aload_n 1, 1) := by decide +kernel
theorem dX10_read_1 : decode cX10_read 1 = .ok (.bipush 40, 2) := by decide +kernel
theorem dX10_read_3 : decode cX10_read 3 = .ok (.invokevirtual 19, 3) := by decide +kernel
theorem dX10_read_6 : decode cX10_read 6 = .ok (.iconst 0, 1) := by decide +kernel
theorem dX10_read_7 : decode cX10_read 7 = .ok (.istore_n 2, 1) := by decide +kernel
theorem dX10_read_8 : decode cX10_read 8 = .ok (.iload_n 2, 1) := by decide +kernel
theorem dX10_read_9 : decode cX10_read 9 = .ok (.bipush 40, 2) := by decide +kernel
theorem dX10_read_11 : decode cX10_read 11 = .ok (.if_icmp .gt 36, 3) := by decide +kernel
theorem dX10_read_14 : decode cX10_read 14 = .ok (.aload_n 1, 1) := by decide +kernel
theorem dX10_read_15 : decode cX10_read 15 = .ok (.iload_n 2, 1) := by decide +kernel
theorem dX10_read_16 : decode cX10_read 16 = .ok (.invokevirtual 25, 3) := by decide +kernel
theorem dX10_read_19 : decode cX10_read 19 = .ok (.ifCond .ne 28, 3) := by decide +kernel
theorem dX10_read_47 : decode cX10_read 47 = .ok (.aload_n 0, 1) := by decide +kernel
theorem dX10_read_48 : decode cX10_read 48 = .ok (.aload_n 1, 1) := by decide +kernel
theorem dX10_read_49 : decode cX10_read 49 = .ok (.getfield 33, 3) := by decide +kernel
theorem dX10_read_52 : decode cX10_read 52 = .ok (.bipush 40, 2) := by decide +kernel
theorem dX10_read_54 : decode cX10_read 54 = .ok (.invokestatic 34, 3) := by decide +kernel
theorem dX10_read_57 : decode cX10_read 57 = .ok (.putfield 15, 3) := by decide +kernel
theorem dX10_read_60 : decode cX10_read 60 = .ok (.iconst 0, 1) := by decide +kernel
theorem dX10_read_61 : decode cX10_read 61 = .ok (.istore_n 2, 1) := by decide +kernel
theorem dX10_read_62 : decode cX10_read 62 = .ok (.iload_n 2, 1) := by decide +kernel
theorem dX10_read_63 : decode cX10_read 63 = .ok (.aload_n 0, 1) := by decide +kernel
theorem dX10_read_64 : decode cX10_read 64 = .ok (.getfield 15, 3) := by decide +kernel
theorem dX10_read_67 : decode cX10_read 67 = .ok (.if_icmp .ge 20, 3) := by decide +kernel
theorem dX10_read_87 : decode cX10_read 87 = .ok (.aload_n 0, 1) := by decide +kernel
theorem dX10_read_88 : decode cX10_read 88 = .ok (.getfield 15, 3) := by decide +kernel
theorem dX10_read_91 : decode cX10_read 91 = .ok (.ireturn, 1) := by decide +kernel
theorem dX11_again_0 : decode cX11_again 0 = .ok (.iload_n 1, 1) := by decide +kernel
theorem dX11_again_1 : decode cX11_again 1 = .ok (.ifCond .lt 19, 3) := by decide +kernel
theorem dX11_again_4 : decode cX11_again 4 = .ok (.iload_n 1, 1) := by decide +kernel
theorem dX11_again_5 : decode cX11_again 5 = .ok (.iconst 3, 1) := by decide +kernel
theorem dX11_again_6 : decode cX11_again 6 = .ok (.if_icmp .ge 14, 3) := by decide +kernel
theorem dX11_again_9 : decode cX11_again 9 = .ok (.aload_n 0, 1) := by decide +kernel
theorem dX11_again_10 : decode cX11_again 10 = .ok (.getfield 129, 3) := by decide +kernel
theorem dX11_again_13 : decode cX11_again 13 = .ok (.iload_n 1, 1) := by decide +kernel
theorem dX11_again_14 : decode cX11_again 14 = .ok (.ishr, 1) := by decide +kernel
theorem dX11_again_15 : decode cX11_again 15 = .ok (.iconst 1, 1) := by decide +kernel
theorem dX11_again_16 : decode cX11_again 16 = .ok (.iand, 1) := by decide +kernel
theorem dX11_again_17 : decode cX11_again 17 = .ok (.ifCond .ne 5, 3) := by decide +kernel
theorem dX11_again_20 : decode cX11_again 20 = .ok (.iconst 0, 1) := by decide +kernel
theorem dX11_again_21 : decode cX11_again 21 = .ok (.ireturn, 1) := by decide +kernel
theorem dX11_basin_0 : decode cX11_basin 0 = .ok (.iload_n 1, 1) := by decide +kernel
theorem dX11_basin_1 : decode cX11_basin 1 = .ok (.iload_n 2, 1) := by decide +kernel
theorem dX11_basin_2 : decode cX11_basin 2 = .ok (.invokestatic 227, 3) := by decide +kernel
theorem dX11_basin_5 : decode cX11_basin 5 = .ok (.ifCond .eq 14, 3) := by decide +kernel
theorem dX11_basin_8 : decode cX11_basin 8 = .ok (.aload_n 0, 1) := by decide +kernel
theorem dX11_basin_9 : decode cX11_basin 9 = .ok (.getfield 19, 3) := by decide +kernel
theorem dX11_basin_12 : decode cX11_basin 12 = .ok (.iload_n 3, 1) := by decide +kernel
theorem dX11_basin_13 : decode cX11_basin 13 = .ok (.invokevirtual 234, 3) := by decide +kernel
theorem dX11_basin_16 : decode cX11_basin 16 = .ok (.ifCond .ne 5, 3) := by decide +kernel
theorem dX11_basin_19 : decode cX11_basin 19 = .ok (.iconst (-1), 1) := by decide +kernel
theorem dX11_basin_20 : decode cX11_basin 20 = .ok (.ireturn, 1) := by decide +kernel
theorem dX11_boat_0 : decode cX11_boat 0 = .ok (.aload_n 0, 1) := by decide +kernel
theorem dX11_boat_1 : decode cX11_boat 1 = .ok (.getfield 19, 3) := by decide +kernel
theorem dX11_boat_4 : decode cX11_boat 4 = .ok (.iload_n 1, 1) := by decide +kernel
theorem dX11_boat_5 : decode cX11_boat 5 = .ok (.invokevirtual 137, 3) := by decide +kernel
theorem dX11_boat_8 : decode cX11_boat 8 = .ok (.ifCond .eq 22, 3) := by decide +kernel
theorem dX11_boat_30 : decode cX11_boat 30 = .ok (.iconst (-1), 1) := by decide +kernel
theorem dX11_boat_31 : decode cX11_boat 31 = .ok (.ireturn, 1) := by decide +kernel
theorem dX11_coins_0 : decode cX11_coins 0 = .ok (.aload_n 0, 1) := by decide +kernel
theorem dX11_coins_1 : decode cX11_coins 1 = .ok (.getfield 19, 3) := by decide +kernel
theorem dX11_coins_4 : decode cX11_coins 4 = .ok (.iload_n 1, 1) := by decide +kernel
theorem dX11_coins_5 : decode cX11_coins 5 = .ok (.invokevirtual 137, 3) := by decide +kernel
theorem dX11_coins_8 : decode cX11_coins 8 = .ok (.ifCond .eq 22, 3) := by decide +kernel
theorem dX11_coins_30 : decode cX11_coins 30 = .ok (.iconst (-1), 1) := by decide +kernel
theorem dX11_coins_31 : decode cX11_coins 31 = .ok (.ireturn, 1) := by decide +kernel
theorem dX11_comes_0 : decode cX11_comes 0 = .ok (.aload_n 0, 1) := by decide +kernel
theorem dX11_comes_1 : decode cX11_comes 1 = .ok (.getfield 53, 3) := by decide +kernel
theorem dX11_comes_4 : decode cX11_comes 4 = .ok (.iload_n 1, 1) := by decide +kernel
theorem dX11_comes_5 : decode cX11_comes 5 = .ok (.invokevirtual 172, 3) := by decide +kernel
theorem dX11_comes_8 : decode cX11_comes 8 = .ok (.ifCond .ne 5, 3) := by decide +kernel
theorem dX11_comes_11 : decode cX11_comes 11 = .ok (.iconst (-1), 1) := by decide +kernel
theorem dX11_comes_12 : decode cX11_comes 12 = .ok (.ireturn, 1) := by decide +kernel
theorem dX11_cork_0 : decode cX11_cork 0 = .ok (.iload_n 3, 1) := by decide +kernel
theorem dX11_cork_1 : decode cX11_cork 1 = .ok (.iconst (-1), 1) := by decide +kernel
theorem dX11_cork_2 : decode cX11_cork 2 = .ok (.if_icmp .eq 14, 3) := by decide +kernel
theorem dX11_cork_5 : decode cX11_cork 5 = .ok (.aload_n 0, 1) := by decide +kernel
theorem dX11_cork_6 : decode cX11_cork 6 = .ok (.getfield 19, 3) := by decide +kernel
theorem dX11_cork_9 : decode cX11_cork 9 = .ok (.iload_n 3, 1) := by decide +kernel
theorem dX11_cork_10 : decode cX11_cork 10 = .ok (.invokevirtual 234, 3) := by decide +kernel
theorem dX11_cork_13 : decode cX11_cork 13 = .ok (.ifCond .eq 7, 3) := by decide +kernel
theorem dX11_cork_16 : decode cX11_cork 16 = .ok (.iconst 1, 1) := by decide +kernel
theorem dX11_cork_17 : decode cX11_cork 17 = .ok (.goto 4, 3) := by decide +kernel
theorem dX11_cork_20 : decode cX11_cork 20 = .ok (.iconst 0, 1) := by decide +kernel
theorem dX11_cork_21 : decode cX11_cork 21 = .ok (.istore 4, 2) := by decide +kernel
theorem dX11_cork_23 : decode cX11_cork 23 = .ok (.aload_n 0, 1) := by decide +kernel
theorem dX11_cork_24 : decode cX11_cork 24 = .ok (.getfield 19, 3) := by decide +kernel
theorem dX11_cork_27 : decode cX11_cork 27 = .ok (.iload_n 1, 1) := by decide +kernel
theorem dX11_cork_28 : decode cX11_cork 28 = .ok (.invokevirtual 137, 3) := by decide +kernel
theorem dX11_cork_31 : decode cX11_cork 31 = .ok (.ifCond .eq 15, 3) := by decide +kernel
theorem dX11_cork_46 : decode cX11_cork 46 = .ok (.iconst (-1), 1) := by decide +kernel
theorem dX11_cork_47 : decode cX11_cork 47 = .ok (.ireturn, 1) := by decide +kernel
theorem dX11_count_0 : decode cX11_count 0 = .ok (.iload_n 1, 1) := by decide +kernel
theorem dX11_count_1 : decode cX11_count 1 = .ok (.tableswitch 159 0 11 #[63, 71, 79, 87, 95, 103, 111, 119, 127, 135, 143, 151], 63) := by decide +kernel
theorem dX11_count_64 : decode cX11_count 64 = .ok (.aload_n 0, 1) := by decide +kernel
theorem dX11_count_65 : decode cX11_count 65 = .ok (.getfield 19, 3) := by decide +kernel
theorem dX11_count_68 : decode cX11_count 68 = .ok (.getfield 323, 3) := by decide +kernel
theorem dX11_count_71 : decode cX11_count 71 = .ok (.ireturn, 1) := by decide +kernel
theorem dX11_count_72 : decode cX11_count 72 = .ok (.aload_n 0, 1) := by decide +kernel
theorem dX11_count_73 : decode cX11_count 73 = .ok (.getfield 53, 3) := by decide +kernel
theorem dX11_count_76 : decode cX11_count 76 = .ok (.getfield 208, 3) := by decide +kernel
theorem dX11_count_79 : decode cX11_count 79 = .ok (.ireturn, 1) := by decide +kernel
theorem dX11_count_80 : decode cX11_count 80 = .ok (.aload_n 0, 1) := by decide +kernel
theorem dX11_count_81 : decode cX11_count 81 = .ok (.getfield 53, 3) := by decide +kernel
theorem dX11_count_84 : decode cX11_count 84 = .ok (.getfield 324, 3) := by decide +kernel
theorem dX11_count_87 : decode cX11_count 87 = .ok (.ireturn, 1) := by decide +kernel
theorem dX11_count_88 : decode cX11_count 88 = .ok (.aload_n 0, 1) := by decide +kernel
theorem dX11_count_89 : decode cX11_count 89 = .ok (.getfield 19, 3) := by decide +kernel
theorem dX11_count_92 : decode cX11_count 92 = .ok (.getfield 375, 3) := by decide +kernel
theorem dX11_count_95 : decode cX11_count 95 = .ok (.ireturn, 1) := by decide +kernel
theorem dX11_count_96 : decode cX11_count 96 = .ok (.aload_n 0, 1) := by decide +kernel
theorem dX11_count_97 : decode cX11_count 97 = .ok (.getfield 53, 3) := by decide +kernel
theorem dX11_count_100 : decode cX11_count 100 = .ok (.getfield 157, 3) := by decide +kernel
theorem dX11_count_103 : decode cX11_count 103 = .ok (.ireturn, 1) := by decide +kernel
theorem dX11_count_104 : decode cX11_count 104 = .ok (.aload_n 0, 1) := by decide +kernel
theorem dX11_count_105 : decode cX11_count 105 = .ok (.getfield 53, 3) := by decide +kernel
theorem dX11_count_108 : decode cX11_count 108 = .ok (.invokevirtual 166, 3) := by decide +kernel
theorem dX11_count_111 : decode cX11_count 111 = .ok (.ireturn, 1) := by decide +kernel
theorem dX11_count_112 : decode cX11_count 112 = .ok (.aload_n 0, 1) := by decide +kernel
theorem dX11_count_113 : decode cX11_count 113 = .ok (.getfield 53, 3) := by decide +kernel
theorem dX11_count_116 : decode cX11_count 116 = .ok (.getfield 247, 3) := by decide +kernel
theorem dX11_count_119 : decode cX11_count 119 = .ok (.ireturn, 1) := by decide +kernel
theorem dX11_count_120 : decode cX11_count 120 = .ok (.aload_n 0, 1) := by decide +kernel
theorem dX11_count_121 : decode cX11_count 121 = .ok (.getfield 53, 3) := by decide +kernel
theorem dX11_count_124 : decode cX11_count 124 = .ok (.getfield 250, 3) := by decide +kernel
theorem dX11_count_127 : decode cX11_count 127 = .ok (.ireturn, 1) := by decide +kernel
theorem dX11_count_128 : decode cX11_count 128 = .ok (.aload_n 0, 1) := by decide +kernel
theorem dX11_count_129 : decode cX11_count 129 = .ok (.getfield 63, 3) := by decide +kernel
theorem dX11_count_132 : decode cX11_count 132 = .ok (.getfield 287, 3) := by decide +kernel
theorem dX11_count_135 : decode cX11_count 135 = .ok (.ireturn, 1) := by decide +kernel
theorem dX11_count_136 : decode cX11_count 136 = .ok (.aload_n 0, 1) := by decide +kernel
theorem dX11_count_137 : decode cX11_count 137 = .ok (.getfield 74, 3) := by decide +kernel
theorem dX11_count_140 : decode cX11_count 140 = .ok (.getfield 126, 3) := by decide +kernel
theorem dX11_count_143 : decode cX11_count 143 = .ok (.ireturn, 1) := by decide +kernel
theorem dX11_count_144 : decode cX11_count 144 = .ok (.aload_n 0, 1) := by decide +kernel
theorem dX11_count_145 : decode cX11_count 145 = .ok (.getfield 81, 3) := by decide +kernel
theorem dX11_count_148 : decode cX11_count 148 = .ok (.getfield 423, 3) := by decide +kernel
theorem dX11_count_151 : decode cX11_count 151 = .ok (.ireturn, 1) := by decide +kernel
theorem dX11_count_152 : decode cX11_count 152 = .ok (.aload_n 0, 1) := by decide +kernel
theorem dX11_count_153 : decode cX11_count 153 = .ok (.getfield 12, 3) := by decide +kernel
theorem dX11_count_156 : decode cX11_count 156 = .ok (.getfield 107, 3) := by decide +kernel
theorem dX11_count_159 : decode cX11_count 159 = .ok (.ireturn, 1) := by decide +kernel
theorem dX11_count_160 : decode cX11_count 160 = .ok (.bipush (-100), 2) := by decide +kernel
theorem dX11_count_162 : decode cX11_count 162 = .ok (.ireturn, 1) := by decide +kernel
theorem dX11_day_0 : decode cX11_day 0 = .ok (.aload_n 0, 1) := by decide +kernel
theorem dX11_day_1 : decode cX11_day 1 = .ok (.getfield 46, 3) := by decide +kernel
theorem dX11_day_4 : decode cX11_day 4 = .ok (.aload_n 0, 1) := by decide +kernel
theorem dX11_day_5 : decode cX11_day 5 = .ok (.getfield 12, 3) := by decide +kernel
theorem dX11_day_8 : decode cX11_day 8 = .ok (.invokevirtual 269, 3) := by decide +kernel
theorem dX11_day_11 : decode cX11_day 11 = .ok (.istore_n 1, 1) := by decide +kernel
theorem dX11_day_12 : decode cX11_day 12 = .ok (.aload_n 0, 1) := by decide +kernel
theorem dX11_day_13 : decode cX11_day 13 = .ok (.getfield 12, 3) := by decide +kernel
theorem dX11_day_16 : decode cX11_day 16 = .ok (.iconst 0, 1) := by decide +kernel
theorem dX11_day_17 : decode cX11_day 17 = .ok (.invokevirtual 111, 3) := by decide +kernel
theorem dX11_day_20 : decode cX11_day 20 = .ok (.pop, 1) := by decide +kernel
theorem dX11_day_21 : decode cX11_day 21 = .ok (.iload_n 1, 1) := by decide +kernel
theorem dX11_day_22 : decode cX11_day 22 = .ok (.ifCond .ge 5, 3) := by decide +kernel
theorem dX11_day_27 : decode cX11_day 27 = .ok (.aload_n 0, 1) := by decide +kernel
theorem dX11_day_28 : decode cX11_day 28 = .ok (.getfield 57, 3) := by decide +kernel
theorem dX11_day_31 : decode cX11_day 31 = .ok (.aload_n 0, 1) := by decide +kernel
theorem dX11_day_32 : decode cX11_day 32 = .ok (.getfield 53, 3) := by decide +kernel
theorem dX11_day_35 : decode cX11_day 35 = .ok (.invokevirtual 270, 3) := by decide +kernel
theorem dX11_day_38 : decode cX11_day 38 = .ok (.iconst 0, 1) := by decide +kernel
theorem dX11_day_39 : decode cX11_day 39 = .ok (.istore_n 2, 1) := by decide +kernel
theorem dX11_day_40 : decode cX11_day 40 = .ok (.iconst 0, 1) := by decide +kernel
theorem dX11_day_41 : decode cX11_day 41 = .ok (.istore_n 3, 1) := by decide +kernel
theorem dX11_day_42 : decode cX11_day 42 = .ok (.iconst 1, 1) := by decide +kernel
theorem dX11_day_43 : decode cX11_day 43 = .ok (.istore 4, 2) := by decide +kernel
theorem dX11_day_45 : decode cX11_day 45 = .ok (.iconst 0, 1) := by decide +kernel
theorem dX11_day_46 : decode cX11_day 46 = .ok (.istore 5, 2) := by decide +kernel
theorem dX11_day_48 : decode cX11_day 48 = .ok (.iload 5, 2) := by decide +kernel
theorem dX11_day_50 : decode cX11_day 50 = .ok (.iload_n 1, 1) := by decide +kernel
theorem dX11_day_51 : decode cX11_day 51 = .ok (.if_icmp .ge 47, 3) := by decide +kernel
theorem dX11_day_98 : decode cX11_day 98 = .ok (.iload_n 2, 1) := by decide +kernel
theorem dX11_day_99 : decode cX11_day 99 = .ok (.ifCond .le 14, 3) := by decide +kernel
theorem dX11_day_113 : decode cX11_day 113 = .ok (.aload_n 0, 1) := by decide +kernel
theorem dX11_day_114 : decode cX11_day 114 = .ok (.getfield 81, 3) := by decide +kernel
theorem dX11_day_117 : decode cX11_day 117 = .ok (.iload 4, 2) := by decide +kernel
theorem dX11_day_119 : decode cX11_day 119 = .ok (.ifCond .eq 7, 3) := by decide +kernel
theorem dX11_day_122 : decode cX11_day 122 = .ok (.lconst 0, 1) := by decide +kernel
theorem dX11_day_123 : decode cX11_day 123 = .ok (.goto 4, 3) := by decide +kernel
theorem dX11_day_127 : decode cX11_day 127 = .ok (.iload_n 3, 1) := by decide +kernel
theorem dX11_day_128 : decode cX11_day 128 = .ok (.i2l, 1) := by decide +kernel
theorem dX11_day_129 : decode cX11_day 129 = .ok (.invokevirtual 257, 3) := by decide +kernel
theorem dX11_day_132 : decode cX11_day 132 = .ok (.iload_n 2, 1) := by decide +kernel
theorem dX11_day_133 : decode cX11_day 133 = .ok (.ireturn, 1) := by decide +kernel
theorem dX11_duel_0 : decode cX11_duel 0 = .ok (.aload_n 0, 1) := by decide +kernel
theorem dX11_duel_1 : decode cX11_duel 1 = .ok (.getfield 19, 3) := by decide +kernel
theorem dX11_duel_4 : decode cX11_duel 4 = .ok (.iload_n 1, 1) := by decide +kernel
theorem dX11_duel_5 : decode cX11_duel 5 = .ok (.invokevirtual 137, 3) := by decide +kernel
theorem dX11_duel_8 : decode cX11_duel 8 = .ok (.ifCond .eq 34, 3) := by decide +kernel
theorem dX11_duel_42 : decode cX11_duel 42 = .ok (.iconst (-1), 1) := by decide +kernel
theorem dX11_duel_43 : decode cX11_duel 43 = .ok (.ireturn, 1) := by decide +kernel
theorem dX11_end_0 : decode cX11_end 0 = .ok (.aload_n 0, 1) := by decide +kernel
theorem dX11_end_1 : decode cX11_end 1 = .ok (.getfield 12, 3) := by decide +kernel
theorem dX11_end_4 : decode cX11_end 4 = .ok (.iload_n 1, 1) := by decide +kernel
theorem dX11_end_5 : decode cX11_end 5 = .ok (.invokevirtual 111, 3) := by decide +kernel
theorem dX11_end_8 : decode cX11_end 8 = .ok (.ireturn, 1) := by decide +kernel
theorem dX11_fewestTurns_0 : decode cX11_fewestTurns 0 = .ok (.aload_n 0, 1) := by decide +kernel
theorem dX11_fewestTurns_1 : decode cX11_fewestTurns 1 = .ok (.getfield 99, 3) := by decide +kernel
theorem dX11_fewestTurns_4 : decode cX11_fewestTurns 4 = .ok (.invokevirtual 350, 3) := by decide +kernel
theorem dX11_fewestTurns_7 : decode cX11_fewestTurns 7 = .ok (.bipush 13, 2) := by decide +kernel
theorem dX11_fewestTurns_9 : decode cX11_fewestTurns 9 = .ok (.istore_n 2, 1) := by decide +kernel
theorem dX11_fewestTurns_10 : decode cX11_fewestTurns 10 = .ok (.iconst (-1), 1) := by decide +kernel
theorem dX11_fewestTurns_11 : decode cX11_fewestTurns 11 = .ok (.istore_n 3, 1) := by decide +kernel
theorem dX11_fewestTurns_12 : decode cX11_fewestTurns 12 = .ok (.iconst 0, 1) := by decide +kernel
theorem dX11_fewestTurns_13 : decode cX11_fewestTurns 13 = .ok (.istore 4, 2) := by decide +kernel
theorem dX11_fewestTurns_15 : decode cX11_fewestTurns 15 = .ok (.iconst 0, 1) := by decide +kernel
theorem dX11_fewestTurns_16 : decode cX11_fewestTurns 16 = .ok (.istore 5, 2) := by decide +kernel
theorem dX11_fewestTurns_18 : decode cX11_fewestTurns 18 = .ok (.iconst 0, 1) := by decide +kernel
theorem dX11_fewestTurns_19 : decode cX11_fewestTurns 19 = .ok (.istore 6, 2) := by decide +kernel
theorem dX11_fewestTurns_21 : decode cX11_fewestTurns 21 = .ok (.iload 6, 2) := by decide +kernel
theorem dX11_fewestTurns_23 : decode cX11_fewestTurns 23 = .ok (.aload_n 0, 1) := by decide +kernel
theorem dX11_fewestTurns_24 : decode cX11_fewestTurns 24 = .ok (.getfield 19, 3) := by decide +kernel
theorem dX11_fewestTurns_27 : decode cX11_fewestTurns 27 = .ok (.getfield 353, 3) := by decide +kernel
theorem dX11_fewestTurns_30 : decode cX11_fewestTurns 30 = .ok (.if_icmp .ge 89, 3) := by decide +kernel
theorem dX11_fewestTurns_33 : decode cX11_fewestTurns 33 = .ok (.iload 5, 2) := by decide +kernel
theorem dX11_fewestTurns_35 : decode cX11_fewestTurns 35 = .ok (.invokestatic 261, 3) := by decide +kernel
theorem dX11_fewestTurns_38 : decode cX11_fewestTurns 38 = .ok (.istore 7, 2) := by decide +kernel
theorem dX11_fewestTurns_40 : decode cX11_fewestTurns 40 = .ok (.iload 7, 2) := by decide +kernel
theorem dX11_fewestTurns_42 : decode cX11_fewestTurns 42 = .ok (.iload_n 2, 1) := by decide +kernel
theorem dX11_fewestTurns_43 : decode cX11_fewestTurns 43 = .ok (.if_icmp .ge 23, 3) := by decide +kernel
theorem dX11_fewestTurns_46 : decode cX11_fewestTurns 46 = .ok (.aload_n 0, 1) := by decide +kernel
theorem dX11_fewestTurns_47 : decode cX11_fewestTurns 47 = .ok (.getfield 99, 3) := by decide +kernel
theorem dX11_fewestTurns_50 : decode cX11_fewestTurns 50 = .ok (.aload_n 0, 1) := by decide +kernel
theorem dX11_fewestTurns_51 : decode cX11_fewestTurns 51 = .ok (.getfield 53, 3) := by decide +kernel
theorem dX11_fewestTurns_54 : decode cX11_fewestTurns 54 = .ok (.getfield 157, 3) := by decide +kernel
theorem dX11_fewestTurns_57 : decode cX11_fewestTurns 57 = .ok (.iload 5, 2) := by decide +kernel
theorem dX11_fewestTurns_59 : decode cX11_fewestTurns 59 = .ok (.ixor, 1) := by decide +kernel
theorem dX11_fewestTurns_60 : decode cX11_fewestTurns 60 = .ok (.invokevirtual 356, 3) := by decide +kernel
theorem dX11_fewestTurns_63 : decode cX11_fewestTurns 63 = .ok (.goto 4, 3) := by decide +kernel
theorem dX11_fewestTurns_67 : decode cX11_fewestTurns 67 = .ok (.istore 8, 2) := by decide +kernel
theorem dX11_fewestTurns_69 : decode cX11_fewestTurns 69 = .ok (.iload 8, 2) := by decide +kernel
theorem dX11_fewestTurns_71 : decode cX11_fewestTurns 71 = .ok (.iconst (-1), 1) := by decide +kernel
theorem dX11_fewestTurns_72 : decode cX11_fewestTurns 72 = .ok (.if_icmp .eq 30, 3) := by decide +kernel
theorem dX11_fewestTurns_75 : decode cX11_fewestTurns 75 = .ok (.iload_n 1, 1) := by decide +kernel
theorem dX11_fewestTurns_76 : decode cX11_fewestTurns 76 = .ok (.iconst (-1), 1) := by decide +kernel
theorem dX11_fewestTurns_77 : decode cX11_fewestTurns 77 = .ok (.if_icmp .eq 12, 3) := by decide +kernel
theorem dX11_fewestTurns_89 : decode cX11_fewestTurns 89 = .ok (.iload 7, 2) := by decide +kernel
theorem dX11_fewestTurns_91 : decode cX11_fewestTurns 91 = .ok (.istore_n 2, 1) := by decide +kernel
theorem dX11_fewestTurns_92 : decode cX11_fewestTurns 92 = .ok (.iload 5, 2) := by decide +kernel
theorem dX11_fewestTurns_94 : decode cX11_fewestTurns 94 = .ok (.istore_n 3, 1) := by decide +kernel
theorem dX11_fewestTurns_95 : decode cX11_fewestTurns 95 = .ok (.iload 8, 2) := by decide +kernel
theorem dX11_fewestTurns_97 : decode cX11_fewestTurns 97 = .ok (.invokestatic 320, 3) := by decide +kernel
theorem dX11_fewestTurns_100 : decode cX11_fewestTurns 100 = .ok (.istore 4, 2) := by decide +kernel
theorem dX11_fewestTurns_102 : decode cX11_fewestTurns 102 = .ok (.aload_n 0, 1) := by decide +kernel
theorem dX11_fewestTurns_103 : decode cX11_fewestTurns 103 = .ok (.getfield 19, 3) := by decide +kernel
theorem dX11_fewestTurns_106 : decode cX11_fewestTurns 106 = .ok (.iload 5, 2) := by decide +kernel
theorem dX11_fewestTurns_108 : decode cX11_fewestTurns 108 = .ok (.invokevirtual 359, 3) := by decide +kernel
theorem dX11_fewestTurns_111 : decode cX11_fewestTurns 111 = .ok (.istore 5, 2) := by decide +kernel
theorem dX11_fewestTurns_113 : decode cX11_fewestTurns 113 = .ok (.iinc 6 1, 3) := by decide +kernel
theorem dX11_fewestTurns_116 : decode cX11_fewestTurns 116 = .ok (.goto (-95), 3) := by decide +kernel
theorem dX11_fewestTurns_119 : decode cX11_fewestTurns 119 = .ok (.iload_n 3, 1) := by decide +kernel
theorem dX11_fewestTurns_120 : decode cX11_fewestTurns 120 = .ok (.iconst (-1), 1) := by decide +kernel
theorem dX11_fewestTurns_121 : decode cX11_fewestTurns 121 = .ok (.if_icmp .ne 6, 3) := by decide +kernel
theorem dX11_fewestTurns_127 : decode cX11_fewestTurns 127 = .ok (.aload_n 0, 1) := by decide +kernel
theorem dX11_fewestTurns_128 : decode cX11_fewestTurns 128 = .ok (.getfield 81, 3) := by decide +kernel
theorem dX11_fewestTurns_131 : decode cX11_fewestTurns 131 = .ok (.iload_n 3, 1) := by decide +kernel
theorem dX11_fewestTurns_132 : decode cX11_fewestTurns 132 = .ok (.i2l, 1) := by decide +kernel
theorem dX11_fewestTurns_133 : decode cX11_fewestTurns 133 = .ok (.iload 4, 2) := by decide +kernel
theorem dX11_fewestTurns_135 : decode cX11_fewestTurns 135 = .ok (.i2l, 1) := by decide +kernel
theorem dX11_fewestTurns_136 : decode cX11_fewestTurns 136 = .ok (.invokevirtual 257, 3) := by decide +kernel
theorem dX11_fewestTurns_139 : decode cX11_fewestTurns 139 = .ok (.iload_n 2, 1) := by decide +kernel
theorem dX11_fewestTurns_140 : decode cX11_fewestTurns 140 = .ok (.ireturn, 1) := by decide +kernel
theorem dX11_findFits_0 : decode cX11_findFits 0 = .ok (.aload_n 0, 1) := by decide +kernel
theorem dX11_findFits_1 : decode cX11_findFits 1 = .ok (.getfield 99, 3) := by decide +kernel
theorem dX11_findFits_4 : decode cX11_findFits 4 = .ok (.invokevirtual 384, 3) := by decide +kernel
theorem dX11_findFits_7 : decode cX11_findFits 7 = .ok (.iconst 0, 1) := by decide +kernel
theorem dX11_findFits_8 : decode cX11_findFits 8 = .ok (.istore_n 1, 1) := by decide +kernel
theorem dX11_findFits_9 : decode cX11_findFits 9 = .ok (.iload_n 1, 1) := by decide +kernel
theorem dX11_findFits_10 : decode cX11_findFits 10 = .ok (.aload_n 0, 1) := by decide +kernel
theorem dX11_findFits_11 : decode cX11_findFits 11 = .ok (.getfield 74, 3) := by decide +kernel
theorem dX11_findFits_14 : decode cX11_findFits 14 = .ok (.getfield 126, 3) := by decide +kernel
theorem dX11_findFits_17 : decode cX11_findFits 17 = .ok (.if_icmp .ge 119, 3) := by decide +kernel
theorem dX11_findFits_136 : decode cX11_findFits 136 = .ok (.return_, 1) := by decide +kernel
theorem dX11_flow_0 : decode cX11_flow 0 = .ok (.iload_n 1, 1) := by decide +kernel
theorem dX11_flow_1 : decode cX11_flow 1 = .ok (.ifCond .lt 21, 3) := by decide +kernel
theorem dX11_flow_4 : decode cX11_flow 4 = .ok (.iload_n 1, 1) := by decide +kernel
theorem dX11_flow_5 : decode cX11_flow 5 = .ok (.sipush 9999, 3) := by decide +kernel
theorem dX11_flow_8 : decode cX11_flow 8 = .ok (.if_icmp .gt 14, 3) := by decide +kernel
theorem dX11_flow_11 : decode cX11_flow 11 = .ok (.aload_n 0, 1) := by decide +kernel
theorem dX11_flow_12 : decode cX11_flow 12 = .ok (.getfield 29, 3) := by decide +kernel
theorem dX11_flow_15 : decode cX11_flow 15 = .ok (.iload_n 1, 1) := by decide +kernel
theorem dX11_flow_16 : decode cX11_flow 16 = .ok (.invokevirtual 198, 3) := by decide +kernel
theorem dX11_flow_19 : decode cX11_flow 19 = .ok (.goto 4, 3) := by decide +kernel
theorem dX11_flow_22 : decode cX11_flow 22 = .ok (.iconst (-1), 1) := by decide +kernel
theorem dX11_flow_23 : decode cX11_flow 23 = .ok (.ireturn, 1) := by decide +kernel
theorem dX11_forget_0 : decode cX11_forget 0 = .ok (.aload_n 0, 1) := by decide +kernel
theorem dX11_forget_1 : decode cX11_forget 1 = .ok (.getfield 74, 3) := by decide +kernel
theorem dX11_forget_4 : decode cX11_forget 4 = .ok (.getfield 126, 3) := by decide +kernel
theorem dX11_forget_7 : decode cX11_forget 7 = .ok (.istore_n 1, 1) := by decide +kernel
theorem dX11_forget_8 : decode cX11_forget 8 = .ok (.aload_n 0, 1) := by decide +kernel
theorem dX11_forget_9 : decode cX11_forget 9 = .ok (.getfield 74, 3) := by decide +kernel
theorem dX11_forget_12 : decode cX11_forget 12 = .ok (.iconst 0, 1) := by decide +kernel
theorem dX11_forget_13 : decode cX11_forget 13 = .ok (.putfield 126, 3) := by decide +kernel
theorem dX11_forget_16 : decode cX11_forget 16 = .ok (.iload_n 1, 1) := by decide +kernel
theorem dX11_forget_17 : decode cX11_forget 17 = .ok (.ireturn, 1) := by decide +kernel
theorem dX11_give_0 : decode cX11_give 0 = .ok (.aload_n 0, 1) := by decide +kernel
theorem dX11_give_1 : decode cX11_give 1 = .ok (.getfield 53, 3) := by decide +kernel
theorem dX11_give_4 : decode cX11_give 4 = .ok (.iload_n 1, 1) := by decide +kernel
theorem dX11_give_5 : decode cX11_give 5 = .ok (.invokevirtual 241, 3) := by decide +kernel
theorem dX11_give_8 : decode cX11_give 8 = .ok (.ifCond .eq 14, 3) := by decide +kernel
theorem dX11_give_22 : decode cX11_give 22 = .ok (.iconst (-1), 1) := by decide +kernel
theorem dX11_give_23 : decode cX11_give 23 = .ok (.ireturn, 1) := by decide +kernel
theorem dX11_homes_0 : decode cX11_homes 0 = .ok (.iload_n 1, 1) := by decide +kernel
theorem dX11_homes_1 : decode cX11_homes 1 = .ok (.invokestatic 290, 3) := by decide +kernel
theorem dX11_homes_4 : decode cX11_homes 4 = .ok (.ifCond .ne 5, 3) := by decide +kernel
theorem dX11_homes_7 : decode cX11_homes 7 = .ok (.iconst (-1), 1) := by decide +kernel
theorem dX11_homes_8 : decode cX11_homes 8 = .ok (.ireturn, 1) := by decide +kernel
theorem dX11_homes_9 : decode cX11_homes 9 = .ok (.aload_n 0, 1) := by decide +kernel
theorem dX11_homes_10 : decode cX11_homes 10 = .ok (.getfield 99, 3) := by decide +kernel
theorem dX11_homes_13 : decode cX11_homes 13 = .ok (.aload_n 0, 1) := by decide +kernel
theorem dX11_homes_14 : decode cX11_homes 14 = .ok (.getfield 53, 3) := by decide +kernel
theorem dX11_homes_17 : decode cX11_homes 17 = .ok (.iload_n 1, 1) := by decide +kernel
theorem dX11_homes_18 : decode cX11_homes 18 = .ok (.invokevirtual 293, 3) := by decide +kernel
theorem dX11_homes_21 : decode cX11_homes 21 = .ok (.aload_n 0, 1) := by decide +kernel
theorem dX11_homes_22 : decode cX11_homes 22 = .ok (.getfield 81, 3) := by decide +kernel
theorem dX11_homes_25 : decode cX11_homes 25 = .ok (.aload_n 0, 1) := by decide +kernel
theorem dX11_homes_26 : decode cX11_homes 26 = .ok (.getfield 99, 3) := by decide +kernel
theorem dX11_homes_29 : decode cX11_homes 29 = .ok (.getfield 297, 3) := by decide +kernel
theorem dX11_homes_32 : decode cX11_homes 32 = .ok (.getfield 250, 3) := by decide +kernel
theorem dX11_homes_35 : decode cX11_homes 35 = .ok (.i2l, 1) := by decide +kernel
theorem dX11_homes_36 : decode cX11_homes 36 = .ok (.aload_n 0, 1) := by decide +kernel
theorem dX11_homes_37 : decode cX11_homes 37 = .ok (.getfield 99, 3) := by decide +kernel
theorem dX11_homes_40 : decode cX11_homes 40 = .ok (.getfield 297, 3) := by decide +kernel
theorem dX11_homes_43 : decode cX11_homes 43 = .ok (.invokevirtual 166, 3) := by decide +kernel
theorem dX11_homes_46 : decode cX11_homes 46 = .ok (.i2l, 1) := by decide +kernel
theorem dX11_homes_47 : decode cX11_homes 47 = .ok (.invokevirtual 257, 3) := by decide +kernel
theorem dX11_homes_50 : decode cX11_homes 50 = .ok (.aload_n 0, 1) := by decide +kernel
theorem dX11_homes_51 : decode cX11_homes 51 = .ok (.getfield 99, 3) := by decide +kernel
theorem dX11_homes_54 : decode cX11_homes 54 = .ok (.getfield 297, 3) := by decide +kernel
theorem dX11_homes_57 : decode cX11_homes 57 = .ok (.getfield 247, 3) := by decide +kernel
theorem dX11_homes_60 : decode cX11_homes 60 = .ok (.ireturn, 1) := by decide +kernel
theorem dX11_isAhead_0 : decode cX11_isAhead 0 = .ok (.iload_n 0, 1) := by decide +kernel
theorem dX11_isAhead_1 : decode cX11_isAhead 1 = .ok (.ifCond .lt 14, 3) := by decide +kernel
theorem dX11_isAhead_4 : decode cX11_isAhead 4 = .ok (.iload_n 0, 1) := by decide +kernel
theorem dX11_isAhead_5 : decode cX11_isAhead 5 = .ok (.sipush 300, 3) := by decide +kernel
theorem dX11_isAhead_8 : decode cX11_isAhead 8 = .ok (.if_icmp .gt 7, 3) := by decide +kernel
theorem dX11_isAhead_11 : decode cX11_isAhead 11 = .ok (.iconst 1, 1) := by decide +kernel
theorem dX11_isAhead_12 : decode cX11_isAhead 12 = .ok (.goto 4, 3) := by decide +kernel
theorem dX11_isAhead_15 : decode cX11_isAhead 15 = .ok (.iconst 0, 1) := by decide +kernel
theorem dX11_isAhead_16 : decode cX11_isAhead 16 = .ok (.ireturn, 1) := by decide +kernel
theorem dX11_isLoad_0 : decode cX11_isLoad 0 = .ok (.iload_n 0, 1) := by decide +kernel
theorem dX11_isLoad_1 : decode cX11_isLoad 1 = .ok (.ifCond .lt 23, 3) := by decide +kernel
theorem dX11_isLoad_4 : decode cX11_isLoad 4 = .ok (.iload_n 0, 1) := by decide +kernel
theorem dX11_isLoad_5 : decode cX11_isLoad 5 = .ok (.bipush 99, 2) := by decide +kernel
theorem dX11_isLoad_7 : decode cX11_isLoad 7 = .ok (.if_icmp .gt 17, 3) := by decide +kernel
theorem dX11_isLoad_10 : decode cX11_isLoad 10 = .ok (.iload_n 1, 1) := by decide +kernel
theorem dX11_isLoad_11 : decode cX11_isLoad 11 = .ok (.ifCond .lt 13, 3) := by decide +kernel
theorem dX11_isLoad_14 : decode cX11_isLoad 14 = .ok (.iload_n 1, 1) := by decide +kernel
theorem dX11_isLoad_15 : decode cX11_isLoad 15 = .ok (.bipush 9, 2) := by decide +kernel
theorem dX11_isLoad_17 : decode cX11_isLoad 17 = .ok (.if_icmp .gt 7, 3) := by decide +kernel
theorem dX11_isLoad_20 : decode cX11_isLoad 20 = .ok (.iconst 1, 1) := by decide +kernel
theorem dX11_isLoad_21 : decode cX11_isLoad 21 = .ok (.goto 4, 3) := by decide +kernel
theorem dX11_isLoad_24 : decode cX11_isLoad 24 = .ok (.iconst 0, 1) := by decide +kernel
theorem dX11_isLoad_25 : decode cX11_isLoad 25 = .ok (.ireturn, 1) := by decide +kernel
theorem dX11_keep_0 : decode cX11_keep 0 = .ok (.iload_n 1, 1) := by decide +kernel
theorem dX11_keep_1 : decode cX11_keep 1 = .ok (.ifCond .lt 8, 3) := by decide +kernel
theorem dX11_keep_4 : decode cX11_keep 4 = .ok (.iload_n 1, 1) := by decide +kernel
theorem dX11_keep_5 : decode cX11_keep 5 = .ok (.iconst 3, 1) := by decide +kernel
theorem dX11_keep_6 : decode cX11_keep 6 = .ok (.if_icmp .lt 5, 3) := by decide +kernel
theorem dX11_keep_9 : decode cX11_keep 9 = .ok (.iconst 0, 1) := by decide +kernel
theorem dX11_keep_10 : decode cX11_keep 10 = .ok (.ireturn, 1) := by decide +kernel
theorem dX11_keep_11 : decode cX11_keep 11 = .ok (.aload_n 0, 1) := by decide +kernel
theorem dX11_keep_12 : decode cX11_keep 12 = .ok (.getfield 67, 3) := by decide +kernel
theorem dX11_keep_15 : decode cX11_keep 15 = .ok (.iload_n 1, 1) := by decide +kernel
theorem dX11_keep_16 : decode cX11_keep 16 = .ok (.aaload, 1) := by decide +kernel
theorem dX11_keep_17 : decode cX11_keep 17 = .ok (.aload_n 0, 1) := by decide +kernel
theorem dX11_keep_18 : decode cX11_keep 18 = .ok (.getfield 53, 3) := by decide +kernel
theorem dX11_keep_21 : decode cX11_keep 21 = .ok (.invokevirtual 270, 3) := by decide +kernel
theorem dX11_keep_24 : decode cX11_keep 24 = .ok (.aload_n 0, 1) := by decide +kernel
theorem dX11_keep_25 : decode cX11_keep 25 = .ok (.dup, 1) := by decide +kernel
theorem dX11_keep_26 : decode cX11_keep 26 = .ok (.getfield 129, 3) := by decide +kernel
theorem dX11_keep_29 : decode cX11_keep 29 = .ok (.iconst 1, 1) := by decide +kernel
theorem dX11_keep_30 : decode cX11_keep 30 = .ok (.iload_n 1, 1) := by decide +kernel
theorem dX11_keep_31 : decode cX11_keep 31 = .ok (.ishl, 1) := by decide +kernel
theorem dX11_keep_32 : decode cX11_keep 32 = .ok (.ior, 1) := by decide +kernel
theorem dX11_keep_33 : decode cX11_keep 33 = .ok (.putfield 129, 3) := by decide +kernel
theorem dX11_keep_36 : decode cX11_keep 36 = .ok (.iconst 1, 1) := by decide +kernel
theorem dX11_keep_37 : decode cX11_keep 37 = .ok (.ireturn, 1) := by decide +kernel
theorem dX11_lost_0 : decode cX11_lost 0 = .ok (.iload_n 1, 1) := by decide +kernel
theorem dX11_lost_1 : decode cX11_lost 1 = .ok (.invokestatic 290, 3) := by decide +kernel
theorem dX11_lost_4 : decode cX11_lost 4 = .ok (.ifCond .ne 5, 3) := by decide +kernel
theorem dX11_lost_7 : decode cX11_lost 7 = .ok (.iconst (-1), 1) := by decide +kernel
theorem dX11_lost_8 : decode cX11_lost 8 = .ok (.ireturn, 1) := by decide +kernel
theorem dX11_lost_9 : decode cX11_lost 9 = .ok (.aload_n 0, 1) := by decide +kernel
theorem dX11_lost_10 : decode cX11_lost 10 = .ok (.getfield 99, 3) := by decide +kernel
theorem dX11_lost_13 : decode cX11_lost 13 = .ok (.getfield 297, 3) := by decide +kernel
theorem dX11_lost_16 : decode cX11_lost 16 = .ok (.astore_n 2, 1) := by decide +kernel
theorem dX11_lost_17 : decode cX11_lost 17 = .ok (.aload_n 2, 1) := by decide +kernel
theorem dX11_lost_18 : decode cX11_lost 18 = .ok (.aload_n 0, 1) := by decide +kernel
theorem dX11_lost_19 : decode cX11_lost 19 = .ok (.getfield 53, 3) := by decide +kernel
theorem dX11_lost_22 : decode cX11_lost 22 = .ok (.invokevirtual 270, 3) := by decide +kernel
theorem dX11_lost_25 : decode cX11_lost 25 = .ok (.iconst 1, 1) := by decide +kernel
theorem dX11_lost_26 : decode cX11_lost 26 = .ok (.istore_n 3, 1) := by decide +kernel
theorem dX11_lost_27 : decode cX11_lost 27 = .ok (.iload_n 3, 1) := by decide +kernel
theorem dX11_lost_28 : decode cX11_lost 28 = .ok (.iload_n 1, 1) := by decide +kernel
theorem dX11_lost_29 : decode cX11_lost 29 = .ok (.if_icmp .gt 71, 3) := by decide +kernel
theorem dX11_lost_32 : decode cX11_lost 32 = .ok (.aload_n 2, 1) := by decide +kernel
theorem dX11_lost_33 : decode cX11_lost 33 = .ok (.invokevirtual 166, 3) := by decide +kernel
theorem dX11_lost_36 : decode cX11_lost 36 = .ok (.ifCond .eq 64, 3) := by decide +kernel
theorem dX11_lost_100 : decode cX11_lost 100 = .ok (.bipush (-2), 2) := by decide +kernel
theorem dX11_lost_102 : decode cX11_lost 102 = .ok (.ireturn, 1) := by decide +kernel
theorem dX11_maps_0 : decode cX11_maps 0 = .ok (.aload_n 0, 1) := by decide +kernel
theorem dX11_maps_1 : decode cX11_maps 1 = .ok (.invokevirtual 372, 3) := by decide +kernel
theorem dX11_maps_4 : decode cX11_maps 4 = .ok (.iconst 0, 1) := by decide +kernel
theorem dX11_maps_5 : decode cX11_maps 5 = .ok (.istore_n 1, 1) := by decide +kernel
theorem dX11_maps_6 : decode cX11_maps 6 = .ok (.iconst (-1), 1) := by decide +kernel
theorem dX11_maps_7 : decode cX11_maps 7 = .ok (.istore_n 2, 1) := by decide +kernel
theorem dX11_maps_8 : decode cX11_maps 8 = .ok (.aload_n 0, 1) := by decide +kernel
theorem dX11_maps_9 : decode cX11_maps 9 = .ok (.getfield 19, 3) := by decide +kernel
theorem dX11_maps_12 : decode cX11_maps 12 = .ok (.getfield 375, 3) := by decide +kernel
theorem dX11_maps_15 : decode cX11_maps 15 = .ok (.istore_n 3, 1) := by decide +kernel
theorem dX11_maps_16 : decode cX11_maps 16 = .ok (.aload_n 0, 1) := by decide +kernel
theorem dX11_maps_17 : decode cX11_maps 17 = .ok (.getfield 19, 3) := by decide +kernel
theorem dX11_maps_20 : decode cX11_maps 20 = .ok (.getfield 375, 3) := by decide +kernel
theorem dX11_maps_23 : decode cX11_maps 23 = .ok (.istore 4, 2) := by decide +kernel
theorem dX11_maps_25 : decode cX11_maps 25 = .ok (.iconst 0, 1) := by decide +kernel
theorem dX11_maps_26 : decode cX11_maps 26 = .ok (.istore 5, 2) := by decide +kernel
theorem dX11_maps_28 : decode cX11_maps 28 = .ok (.iconst 0, 1) := by decide +kernel
theorem dX11_maps_29 : decode cX11_maps 29 = .ok (.istore 6, 2) := by decide +kernel
theorem dX11_maps_31 : decode cX11_maps 31 = .ok (.iload 6, 2) := by decide +kernel
theorem dX11_maps_33 : decode cX11_maps 33 = .ok (.aload_n 0, 1) := by decide +kernel
theorem dX11_maps_34 : decode cX11_maps 34 = .ok (.getfield 19, 3) := by decide +kernel
theorem dX11_maps_37 : decode cX11_maps 37 = .ok (.getfield 353, 3) := by decide +kernel
theorem dX11_maps_40 : decode cX11_maps 40 = .ok (.if_icmp .ge 61, 3) := by decide +kernel
theorem dX11_maps_43 : decode cX11_maps 43 = .ok (.aload_n 0, 1) := by decide +kernel
theorem dX11_maps_44 : decode cX11_maps 44 = .ok (.getfield 99, 3) := by decide +kernel
theorem dX11_maps_47 : decode cX11_maps 47 = .ok (.iload 5, 2) := by decide +kernel
theorem dX11_maps_49 : decode cX11_maps 49 = .ok (.invokevirtual 378, 3) := by decide +kernel
theorem dX11_maps_52 : decode cX11_maps 52 = .ok (.ifCond .eq 32, 3) := by decide +kernel
theorem dX11_maps_55 : decode cX11_maps 55 = .ok (.iinc 1 1, 3) := by decide +kernel
theorem dX11_maps_58 : decode cX11_maps 58 = .ok (.iload_n 2, 1) := by decide +kernel
theorem dX11_maps_59 : decode cX11_maps 59 = .ok (.iconst (-1), 1) := by decide +kernel
theorem dX11_maps_60 : decode cX11_maps 60 = .ok (.if_icmp .ne 8, 3) := by decide +kernel
theorem dX11_maps_63 : decode cX11_maps 63 = .ok (.iload 5, 2) := by decide +kernel
theorem dX11_maps_65 : decode cX11_maps 65 = .ok (.goto 4, 3) := by decide +kernel
theorem dX11_maps_69 : decode cX11_maps 69 = .ok (.istore_n 2, 1) := by decide +kernel
theorem dX11_maps_70 : decode cX11_maps 70 = .ok (.iload_n 3, 1) := by decide +kernel
theorem dX11_maps_71 : decode cX11_maps 71 = .ok (.iload 5, 2) := by decide +kernel
theorem dX11_maps_73 : decode cX11_maps 73 = .ok (.iand, 1) := by decide +kernel
theorem dX11_maps_74 : decode cX11_maps 74 = .ok (.istore_n 3, 1) := by decide +kernel
theorem dX11_maps_75 : decode cX11_maps 75 = .ok (.iload 4, 2) := by decide +kernel
theorem dX11_maps_77 : decode cX11_maps 77 = .ok (.iload 5, 2) := by decide +kernel
theorem dX11_maps_79 : decode cX11_maps 79 = .ok (.iconst (-1), 1) := by decide +kernel
theorem dX11_maps_80 : decode cX11_maps 80 = .ok (.ixor, 1) := by decide +kernel
theorem dX11_maps_81 : decode cX11_maps 81 = .ok (.iand, 1) := by decide +kernel
theorem dX11_maps_82 : decode cX11_maps 82 = .ok (.istore 4, 2) := by decide +kernel
theorem dX11_maps_84 : decode cX11_maps 84 = .ok (.aload_n 0, 1) := by decide +kernel
theorem dX11_maps_85 : decode cX11_maps 85 = .ok (.getfield 19, 3) := by decide +kernel
theorem dX11_maps_88 : decode cX11_maps 88 = .ok (.iload 5, 2) := by decide +kernel
theorem dX11_maps_90 : decode cX11_maps 90 = .ok (.invokevirtual 359, 3) := by decide +kernel
theorem dX11_maps_93 : decode cX11_maps 93 = .ok (.istore 5, 2) := by decide +kernel
theorem dX11_maps_95 : decode cX11_maps 95 = .ok (.iinc 6 1, 3) := by decide +kernel
theorem dX11_maps_98 : decode cX11_maps 98 = .ok (.goto (-67), 3) := by decide +kernel
theorem dX11_maps_101 : decode cX11_maps 101 = .ok (.aload_n 0, 1) := by decide +kernel
theorem dX11_maps_102 : decode cX11_maps 102 = .ok (.getfield 81, 3) := by decide +kernel
theorem dX11_maps_105 : decode cX11_maps 105 = .ok (.iload_n 2, 1) := by decide +kernel
theorem dX11_maps_106 : decode cX11_maps 106 = .ok (.i2l, 1) := by decide +kernel
theorem dX11_maps_107 : decode cX11_maps 107 = .ok (.iload_n 3, 1) := by decide +kernel
theorem dX11_maps_108 : decode cX11_maps 108 = .ok (.i2l, 1) := by decide +kernel
theorem dX11_maps_109 : decode cX11_maps 109 = .ok (.iload 4, 2) := by decide +kernel
theorem dX11_maps_111 : decode cX11_maps 111 = .ok (.i2l, 1) := by decide +kernel
theorem dX11_maps_112 : decode cX11_maps 112 = .ok (.invokevirtual 300, 3) := by decide +kernel
theorem dX11_maps_115 : decode cX11_maps 115 = .ok (.iload_n 1, 1) := by decide +kernel
theorem dX11_maps_116 : decode cX11_maps 116 = .ok (.ireturn, 1) := by decide +kernel
theorem dX11_marks_0 : decode cX11_marks 0 = .ok (.iload_n 1, 1) := by decide +kernel
theorem dX11_marks_1 : decode cX11_marks 1 = .ok (.iload_n 2, 1) := by decide +kernel
theorem dX11_marks_2 : decode cX11_marks 2 = .ok (.invokestatic 227, 3) := by decide +kernel
theorem dX11_marks_5 : decode cX11_marks 5 = .ok (.ifCond .eq 14, 3) := by decide +kernel
theorem dX11_marks_8 : decode cX11_marks 8 = .ok (.iload_n 3, 1) := by decide +kernel
theorem dX11_marks_9 : decode cX11_marks 9 = .ok (.ifCond .lt 10, 3) := by decide +kernel
theorem dX11_marks_12 : decode cX11_marks 12 = .ok (.iload_n 3, 1) := by decide +kernel
theorem dX11_marks_13 : decode cX11_marks 13 = .ok (.sipush 4096, 3) := by decide +kernel
theorem dX11_marks_16 : decode cX11_marks 16 = .ok (.if_icmp .lt 5, 3) := by decide +kernel
theorem dX11_marks_19 : decode cX11_marks 19 = .ok (.iconst (-1), 1) := by decide +kernel
theorem dX11_marks_20 : decode cX11_marks 20 = .ok (.ireturn, 1) := by decide +kernel
theorem dX11_marks_21 : decode cX11_marks 21 = .ok (.iconst 0, 1) := by decide +kernel
theorem dX11_marks_22 : decode cX11_marks 22 = .ok (.istore 4, 2) := by decide +kernel
theorem dX11_marks_24 : decode cX11_marks 24 = .ok (.iconst 0, 1) := by decide +kernel
theorem dX11_marks_25 : decode cX11_marks 25 = .ok (.istore 5, 2) := by decide +kernel
theorem dX11_marks_27 : decode cX11_marks 27 = .ok (.iconst (-1), 1) := by decide +kernel
theorem dX11_marks_28 : decode cX11_marks 28 = .ok (.istore 6, 2) := by decide +kernel
theorem dX11_marks_30 : decode cX11_marks 30 = .ok (.iconst 0, 1) := by decide +kernel
theorem dX11_marks_31 : decode cX11_marks 31 = .ok (.istore 7, 2) := by decide +kernel
theorem dX11_marks_33 : decode cX11_marks 33 = .ok (.iload 7, 2) := by decide +kernel
theorem dX11_marks_35 : decode cX11_marks 35 = .ok (.aload_n 0, 1) := by decide +kernel
theorem dX11_marks_36 : decode cX11_marks 36 = .ok (.getfield 19, 3) := by decide +kernel
theorem dX11_marks_39 : decode cX11_marks 39 = .ok (.getfield 323, 3) := by decide +kernel
theorem dX11_marks_42 : decode cX11_marks 42 = .ok (.if_icmp .ge 84, 3) := by decide +kernel
theorem dX11_marks_126 : decode cX11_marks 126 = .ok (.iload 4, 2) := by decide +kernel
theorem dX11_marks_128 : decode cX11_marks 128 = .ok (.ifCond .ne 14, 3) := by decide +kernel
theorem dX11_marks_131 : decode cX11_marks 131 = .ok (.aload_n 0, 1) := by decide +kernel
theorem dX11_marks_132 : decode cX11_marks 132 = .ok (.getfield 81, 3) := by decide +kernel
theorem dX11_marks_135 : decode cX11_marks 135 = .ok (.lconst 0, 1) := by decide +kernel
theorem dX11_marks_136 : decode cX11_marks 136 = .ok (.invokevirtual 307, 3) := by decide +kernel
theorem dX11_marks_139 : decode cX11_marks 139 = .ok (.goto 22, 3) := by decide +kernel
theorem dX11_marks_161 : decode cX11_marks 161 = .ok (.iload 4, 2) := by decide +kernel
theorem dX11_marks_163 : decode cX11_marks 163 = .ok (.ireturn, 1) := by decide +kernel
theorem dX11_minutesOf_0 : decode cX11_minutesOf 0 = .ok (.iload_n 0, 1) := by decide +kernel
theorem dX11_minutesOf_1 : decode cX11_minutesOf 1 = .ok (.bipush 16, 2) := by decide +kernel
theorem dX11_minutesOf_3 : decode cX11_minutesOf 3 = .ok (.idiv, 1) := by decide +kernel
theorem dX11_minutesOf_4 : decode cX11_minutesOf 4 = .ok (.ireturn, 1) := by decide +kernel
theorem dX11_next_0 : decode cX11_next 0 = .ok (.aload_n 0, 1) := by decide +kernel
theorem dX11_next_1 : decode cX11_next 1 = .ok (.getfield 19, 3) := by decide +kernel
theorem dX11_next_4 : decode cX11_next 4 = .ok (.getfield 323, 3) := by decide +kernel
theorem dX11_next_7 : decode cX11_next 7 = .ok (.ifCond .eq 10, 3) := by decide +kernel
theorem dX11_next_17 : decode cX11_next 17 = .ok (.iconst (-1), 1) := by decide +kernel
theorem dX11_next_18 : decode cX11_next 18 = .ok (.ireturn, 1) := by decide +kernel
theorem dX11_odds_0 : decode cX11_odds 0 = .ok (.aload_n 0, 1) := by decide +kernel
theorem dX11_odds_1 : decode cX11_odds 1 = .ok (.getfield 53, 3) := by decide +kernel
theorem dX11_odds_4 : decode cX11_odds 4 = .ok (.iload_n 1, 1) := by decide +kernel
theorem dX11_odds_5 : decode cX11_odds 5 = .ok (.invokevirtual 172, 3) := by decide +kernel
theorem dX11_odds_8 : decode cX11_odds 8 = .ok (.ifCond .eq 23, 3) := by decide +kernel
theorem dX11_odds_31 : decode cX11_odds 31 = .ok (.iconst (-1), 1) := by decide +kernel
theorem dX11_odds_32 : decode cX11_odds 32 = .ok (.ireturn, 1) := by decide +kernel
theorem dX11_order_0 : decode cX11_order 0 = .ok (.iload_n 1, 1) := by decide +kernel
theorem dX11_order_1 : decode cX11_order 1 = .ok (.iload_n 2, 1) := by decide +kernel
theorem dX11_order_2 : decode cX11_order 2 = .ok (.if_icmp .eq 25, 3) := by decide +kernel
theorem dX11_order_5 : decode cX11_order 5 = .ok (.aload_n 0, 1) := by decide +kernel
theorem dX11_order_6 : decode cX11_order 6 = .ok (.getfield 53, 3) := by decide +kernel
theorem dX11_order_9 : decode cX11_order 9 = .ok (.iload_n 1, 1) := by decide +kernel
theorem dX11_order_10 : decode cX11_order 10 = .ok (.invokevirtual 241, 3) := by decide +kernel
theorem dX11_order_13 : decode cX11_order 13 = .ok (.ifCond .eq 14, 3) := by decide +kernel
theorem dX11_order_27 : decode cX11_order 27 = .ok (.iconst (-1), 1) := by decide +kernel
theorem dX11_order_28 : decode cX11_order 28 = .ok (.ireturn, 1) := by decide +kernel
theorem dX11_passMinutes_0 : decode cX11_passMinutes 0 = .ok (.iconst 0, 1) := by decide +kernel
theorem dX11_passMinutes_1 : decode cX11_passMinutes 1 = .ok (.istore_n 2, 1) := by decide +kernel
theorem dX11_passMinutes_2 : decode cX11_passMinutes 2 = .ok (.iload_n 2, 1) := by decide +kernel
theorem dX11_passMinutes_3 : decode cX11_passMinutes 3 = .ok (.iload_n 1, 1) := by decide +kernel
theorem dX11_passMinutes_4 : decode cX11_passMinutes 4 = .ok (.if_icmp .ge 20, 3) := by decide +kernel
theorem dX11_passMinutes_7 : decode cX11_passMinutes 7 = .ok (.aload_n 0, 1) := by decide +kernel
theorem dX11_passMinutes_8 : decode cX11_passMinutes 8 = .ok (.getfield 90, 3) := by decide +kernel
theorem dX11_passMinutes_11 : decode cX11_passMinutes 11 = .ok (.aload_n 0, 1) := by decide +kernel
theorem dX11_passMinutes_12 : decode cX11_passMinutes 12 = .ok (.getfield 53, 3) := by decide +kernel
theorem dX11_passMinutes_15 : decode cX11_passMinutes 15 = .ok (.invokevirtual 266, 3) := by decide +kernel
theorem dX11_passMinutes_18 : decode cX11_passMinutes 18 = .ok (.iinc 2 1, 3) := by decide +kernel
theorem dX11_passMinutes_21 : decode cX11_passMinutes 21 = .ok (.goto (-19), 3) := by decide +kernel
theorem dX11_passMinutes_24 : decode cX11_passMinutes 24 = .ok (.return_, 1) := by decide +kernel
theorem dX11_plank_0 : decode cX11_plank 0 = .ok (.aload_n 0, 1) := by decide +kernel
theorem dX11_plank_1 : decode cX11_plank 1 = .ok (.getfield 19, 3) := by decide +kernel
theorem dX11_plank_4 : decode cX11_plank 4 = .ok (.iload_n 1, 1) := by decide +kernel
theorem dX11_plank_5 : decode cX11_plank 5 = .ok (.invokevirtual 201, 3) := by decide +kernel
theorem dX11_plank_8 : decode cX11_plank 8 = .ok (.ifCond .eq 12, 3) := by decide +kernel
theorem dX11_plank_20 : decode cX11_plank 20 = .ok (.iconst 0, 1) := by decide +kernel
theorem dX11_plank_21 : decode cX11_plank 21 = .ok (.ireturn, 1) := by decide +kernel
theorem dX11_put_0 : decode cX11_put 0 = .ok (.aload_n 0, 1) := by decide +kernel
theorem dX11_put_1 : decode cX11_put 1 = .ok (.getfield 19, 3) := by decide +kernel
theorem dX11_put_4 : decode cX11_put 4 = .ok (.iload_n 1, 1) := by decide +kernel
theorem dX11_put_5 : decode cX11_put 5 = .ok (.invokevirtual 137, 3) := by decide +kernel
theorem dX11_put_8 : decode cX11_put 8 = .ok (.ifCond .eq 19, 3) := by decide +kernel
theorem dX11_put_27 : decode cX11_put 27 = .ok (.iconst (-1), 1) := by decide +kernel
theorem dX11_put_28 : decode cX11_put 28 = .ok (.ireturn, 1) := by decide +kernel
theorem dX11_round_0 : decode cX11_round 0 = .ok (.aload_n 0, 1) := by decide +kernel
theorem dX11_round_1 : decode cX11_round 1 = .ok (.getfield 19, 3) := by decide +kernel
theorem dX11_round_4 : decode cX11_round 4 = .ok (.iload_n 1, 1) := by decide +kernel
theorem dX11_round_5 : decode cX11_round 5 = .ok (.invokevirtual 137, 3) := by decide +kernel
theorem dX11_round_8 : decode cX11_round 8 = .ok (.ifCond .ne 5, 3) := by decide +kernel
theorem dX11_round_11 : decode cX11_round 11 = .ok (.iconst (-1), 1) := by decide +kernel
theorem dX11_round_12 : decode cX11_round 12 = .ok (.ireturn, 1) := by decide +kernel
theorem dX11_rule_0 : decode cX11_rule 0 = .ok (.aload_n 0, 1) := by decide +kernel
theorem dX11_rule_1 : decode cX11_rule 1 = .ok (.getfield 40, 3) := by decide +kernel
theorem dX11_rule_4 : decode cX11_rule 4 = .ok (.aload_n 0, 1) := by decide +kernel
theorem dX11_rule_5 : decode cX11_rule 5 = .ok (.getfield 12, 3) := by decide +kernel
theorem dX11_rule_8 : decode cX11_rule 8 = .ok (.invokevirtual 133, 3) := by decide +kernel
theorem dX11_rule_11 : decode cX11_rule 11 = .ok (.istore_n 1, 1) := by decide +kernel
theorem dX11_rule_12 : decode cX11_rule 12 = .ok (.aload_n 0, 1) := by decide +kernel
theorem dX11_rule_13 : decode cX11_rule 13 = .ok (.getfield 12, 3) := by decide +kernel
theorem dX11_rule_16 : decode cX11_rule 16 = .ok (.iconst 0, 1) := by decide +kernel
theorem dX11_rule_17 : decode cX11_rule 17 = .ok (.invokevirtual 111, 3) := by decide +kernel
theorem dX11_rule_20 : decode cX11_rule 20 = .ok (.pop, 1) := by decide +kernel
theorem dX11_rule_21 : decode cX11_rule 21 = .ok (.iload_n 1, 1) := by decide +kernel
theorem dX11_rule_22 : decode cX11_rule 22 = .ok (.ifCond .lt 14, 3) := by decide +kernel
theorem dX11_rule_25 : decode cX11_rule 25 = .ok (.aload_n 0, 1) := by decide +kernel
theorem dX11_rule_26 : decode cX11_rule 26 = .ok (.getfield 36, 3) := by decide +kernel
theorem dX11_rule_29 : decode cX11_rule 29 = .ok (.aload_n 0, 1) := by decide +kernel
theorem dX11_rule_30 : decode cX11_rule 30 = .ok (.getfield 40, 3) := by decide +kernel
theorem dX11_rule_33 : decode cX11_rule 33 = .ok (.invokevirtual 134, 3) := by decide +kernel
theorem dX11_rule_36 : decode cX11_rule 36 = .ok (.iload_n 1, 1) := by decide +kernel
theorem dX11_rule_37 : decode cX11_rule 37 = .ok (.ireturn, 1) := by decide +kernel
theorem dX11_run_0 : decode cX11_run 0 = .ok (.iload_n 1, 1) := by decide +kernel
theorem dX11_run_1 : decode cX11_run 1 = .ok (.ifCond .lt 9, 3) := by decide +kernel
theorem dX11_run_4 : decode cX11_run 4 = .ok (.iload_n 1, 1) := by decide +kernel
theorem dX11_run_5 : decode cX11_run 5 = .ok (.bipush 99, 2) := by decide +kernel
theorem dX11_run_7 : decode cX11_run 7 = .ok (.if_icmp .le 5, 3) := by decide +kernel
theorem dX11_run_10 : decode cX11_run 10 = .ok (.iconst (-1), 1) := by decide +kernel
theorem dX11_run_11 : decode cX11_run 11 = .ok (.ireturn, 1) := by decide +kernel
theorem dX11_run_12 : decode cX11_run 12 = .ok (.iload_n 1, 1) := by decide +kernel
theorem dX11_run_13 : decode cX11_run 13 = .ok (.ifCond .le 14, 3) := by decide +kernel
theorem dX11_run_16 : decode cX11_run 16 = .ok (.aload_n 0, 1) := by decide +kernel
theorem dX11_run_17 : decode cX11_run 17 = .ok (.getfield 63, 3) := by decide +kernel
theorem dX11_run_20 : decode cX11_run 20 = .ok (.aload_n 0, 1) := by decide +kernel
theorem dX11_run_21 : decode cX11_run 21 = .ok (.getfield 53, 3) := by decide +kernel
theorem dX11_run_24 : decode cX11_run 24 = .ok (.invokevirtual 204, 3) := by decide +kernel
theorem dX11_run_27 : decode cX11_run 27 = .ok (.aload_n 0, 1) := by decide +kernel
theorem dX11_run_28 : decode cX11_run 28 = .ok (.getfield 53, 3) := by decide +kernel
theorem dX11_run_31 : decode cX11_run 31 = .ok (.getfield 247, 3) := by decide +kernel
theorem dX11_run_34 : decode cX11_run 34 = .ok (.istore_n 2, 1) := by decide +kernel
theorem dX11_run_35 : decode cX11_run 35 = .ok (.aload_n 0, 1) := by decide +kernel
theorem dX11_run_36 : decode cX11_run 36 = .ok (.getfield 53, 3) := by decide +kernel
theorem dX11_run_39 : decode cX11_run 39 = .ok (.getfield 250, 3) := by decide +kernel
theorem dX11_run_42 : decode cX11_run 42 = .ok (.istore_n 3, 1) := by decide +kernel
theorem dX11_run_43 : decode cX11_run 43 = .ok (.aload_n 0, 1) := by decide +kernel
theorem dX11_run_44 : decode cX11_run 44 = .ok (.iload_n 1, 1) := by decide +kernel
theorem dX11_run_45 : decode cX11_run 45 = .ok (.invokevirtual 253, 3) := by decide +kernel
theorem dX11_run_48 : decode cX11_run 48 = .ok (.aload_n 0, 1) := by decide +kernel
theorem dX11_run_49 : decode cX11_run 49 = .ok (.getfield 53, 3) := by decide +kernel
theorem dX11_run_52 : decode cX11_run 52 = .ok (.getfield 247, 3) := by decide +kernel
theorem dX11_run_55 : decode cX11_run 55 = .ok (.iload_n 2, 1) := by decide +kernel
theorem dX11_run_56 : decode cX11_run 56 = .ok (.iconst (-1), 1) := by decide +kernel
theorem dX11_run_57 : decode cX11_run 57 = .ok (.ixor, 1) := by decide +kernel
theorem dX11_run_58 : decode cX11_run 58 = .ok (.iand, 1) := by decide +kernel
theorem dX11_run_59 : decode cX11_run 59 = .ok (.istore 4, 2) := by decide +kernel
theorem dX11_run_61 : decode cX11_run 61 = .ok (.aload_n 0, 1) := by decide +kernel
theorem dX11_run_62 : decode cX11_run 62 = .ok (.getfield 81, 3) := by decide +kernel
theorem dX11_run_65 : decode cX11_run 65 = .ok (.iload 4, 2) := by decide +kernel
theorem dX11_run_67 : decode cX11_run 67 = .ok (.i2l, 1) := by decide +kernel
theorem dX11_run_68 : decode cX11_run 68 = .ok (.aload_n 0, 1) := by decide +kernel
theorem dX11_run_69 : decode cX11_run 69 = .ok (.getfield 53, 3) := by decide +kernel
theorem dX11_run_72 : decode cX11_run 72 = .ok (.getfield 250, 3) := by decide +kernel
theorem dX11_run_75 : decode cX11_run 75 = .ok (.iload_n 3, 1) := by decide +kernel
theorem dX11_run_76 : decode cX11_run 76 = .ok (.iconst (-1), 1) := by decide +kernel
theorem dX11_run_77 : decode cX11_run 77 = .ok (.ixor, 1) := by decide +kernel
theorem dX11_run_78 : decode cX11_run 78 = .ok (.iand, 1) := by decide +kernel
theorem dX11_run_79 : decode cX11_run 79 = .ok (.i2l, 1) := by decide +kernel
theorem dX11_run_80 : decode cX11_run 80 = .ok (.invokevirtual 257, 3) := by decide +kernel
theorem dX11_run_83 : decode cX11_run 83 = .ok (.iload 4, 2) := by decide +kernel
theorem dX11_run_85 : decode cX11_run 85 = .ok (.invokestatic 261, 3) := by decide +kernel
theorem dX11_run_88 : decode cX11_run 88 = .ok (.ireturn, 1) := by decide +kernel
theorem dX11_sail_0 : decode cX11_sail 0 = .ok (.aload_n 0, 1) := by decide +kernel
theorem dX11_sail_1 : decode cX11_sail 1 = .ok (.getfield 19, 3) := by decide +kernel
theorem dX11_sail_4 : decode cX11_sail 4 = .ok (.iload_n 1, 1) := by decide +kernel
theorem dX11_sail_5 : decode cX11_sail 5 = .ok (.invokevirtual 137, 3) := by decide +kernel
theorem dX11_sail_8 : decode cX11_sail 8 = .ok (.ifCond .eq 31, 3) := by decide +kernel
theorem dX11_sail_39 : decode cX11_sail 39 = .ok (.iconst (-1), 1) := by decide +kernel
theorem dX11_sail_40 : decode cX11_sail 40 = .ok (.ireturn, 1) := by decide +kernel
theorem dX11_save_0 : decode cX11_save 0 = .ok (.iload_n 1, 1) := by decide +kernel
theorem dX11_save_1 : decode cX11_save 1 = .ok (.ifCond .lt 16, 3) := by decide +kernel
theorem dX11_save_4 : decode cX11_save 4 = .ok (.iload_n 1, 1) := by decide +kernel
theorem dX11_save_5 : decode cX11_save 5 = .ok (.iconst 1, 1) := by decide +kernel
theorem dX11_save_6 : decode cX11_save 6 = .ok (.aload_n 0, 1) := by decide +kernel
theorem dX11_save_7 : decode cX11_save 7 = .ok (.getfield 53, 3) := by decide +kernel
theorem dX11_save_10 : decode cX11_save 10 = .ok (.getfield 208, 3) := by decide +kernel
theorem dX11_save_13 : decode cX11_save 13 = .ok (.ishl, 1) := by decide +kernel
theorem dX11_save_14 : decode cX11_save 14 = .ok (.if_icmp .lt 5, 3) := by decide +kernel
theorem dX11_save_17 : decode cX11_save 17 = .ok (.iconst (-1), 1) := by decide +kernel
theorem dX11_save_18 : decode cX11_save 18 = .ok (.ireturn, 1) := by decide +kernel
theorem dX11_save_19 : decode cX11_save 19 = .ok (.aload_n 0, 1) := by decide +kernel
theorem dX11_save_20 : decode cX11_save 20 = .ok (.getfield 99, 3) := by decide +kernel
theorem dX11_save_23 : decode cX11_save 23 = .ok (.aload_n 0, 1) := by decide +kernel
theorem dX11_save_24 : decode cX11_save 24 = .ok (.getfield 53, 3) := by decide +kernel
theorem dX11_save_27 : decode cX11_save 27 = .ok (.iload_n 1, 1) := by decide +kernel
theorem dX11_save_28 : decode cX11_save 28 = .ok (.iconst 0, 1) := by decide +kernel
theorem dX11_save_29 : decode cX11_save 29 = .ok (.invokevirtual 343, 3) := by decide +kernel
theorem dX11_save_32 : decode cX11_save 32 = .ok (.aload_n 0, 1) := by decide +kernel
theorem dX11_save_33 : decode cX11_save 33 = .ok (.iconst (-1), 1) := by decide +kernel
theorem dX11_save_34 : decode cX11_save 34 = .ok (.invokevirtual 347, 3) := by decide +kernel
theorem dX11_save_37 : decode cX11_save 37 = .ok (.ireturn, 1) := by decide +kernel
theorem dX11_sheet_0 : decode cX11_sheet 0 = .ok (.iload_n 1, 1) := by decide +kernel
theorem dX11_sheet_1 : decode cX11_sheet 1 = .ok (.ifCond .lt 14, 3) := by decide +kernel
theorem dX11_sheet_4 : decode cX11_sheet 4 = .ok (.iload_n 1, 1) := by decide +kernel
theorem dX11_sheet_5 : decode cX11_sheet 5 = .ok (.iconst 3, 1) := by decide +kernel
theorem dX11_sheet_6 : decode cX11_sheet 6 = .ok (.if_icmp .gt 9, 3) := by decide +kernel
theorem dX11_sheet_9 : decode cX11_sheet 9 = .ok (.iload_n 2, 1) := by decide +kernel
theorem dX11_sheet_10 : decode cX11_sheet 10 = .ok (.bipush 6, 2) := by decide +kernel
theorem dX11_sheet_12 : decode cX11_sheet 12 = .ok (.if_icmp .le 5, 3) := by decide +kernel
theorem dX11_sheet_15 : decode cX11_sheet 15 = .ok (.iconst (-1), 1) := by decide +kernel
theorem dX11_sheet_16 : decode cX11_sheet 16 = .ok (.ireturn, 1) := by decide +kernel
theorem dX11_sheet_17 : decode cX11_sheet 17 = .ok (.iload_n 1, 1) := by decide +kernel
theorem dX11_sheet_18 : decode cX11_sheet 18 = .ok (.iconst 3, 1) := by decide +kernel
theorem dX11_sheet_19 : decode cX11_sheet 19 = .ok (.if_icmp .ne 7, 3) := by decide +kernel
theorem dX11_sheet_22 : decode cX11_sheet 22 = .ok (.iconst 1, 1) := by decide +kernel
theorem dX11_sheet_23 : decode cX11_sheet 23 = .ok (.goto 4, 3) := by decide +kernel
theorem dX11_sheet_26 : decode cX11_sheet 26 = .ok (.iconst 0, 1) := by decide +kernel
theorem dX11_sheet_27 : decode cX11_sheet 27 = .ok (.istore 5, 2) := by decide +kernel
theorem dX11_sheet_29 : decode cX11_sheet 29 = .ok (.iload 5, 2) := by decide +kernel
theorem dX11_sheet_31 : decode cX11_sheet 31 = .ok (.ifCond .ne 10, 3) := by decide +kernel
theorem dX11_sheet_34 : decode cX11_sheet 34 = .ok (.iload_n 2, 1) := by decide +kernel
theorem dX11_sheet_35 : decode cX11_sheet 35 = .ok (.ifCond .ge 6, 3) := by decide +kernel
theorem dX11_sheet_38 : decode cX11_sheet 38 = .ok (.bipush (-2), 2) := by decide +kernel
theorem dX11_sheet_40 : decode cX11_sheet 40 = .ok (.ireturn, 1) := by decide +kernel
theorem dX11_sheet_41 : decode cX11_sheet 41 = .ok (.iconst 0, 1) := by decide +kernel
theorem dX11_sheet_42 : decode cX11_sheet 42 = .ok (.istore 6, 2) := by decide +kernel
theorem dX11_sheet_44 : decode cX11_sheet 44 = .ok (.iconst 0, 1) := by decide +kernel
theorem dX11_sheet_45 : decode cX11_sheet 45 = .ok (.istore 7, 2) := by decide +kernel
theorem dX11_sheet_47 : decode cX11_sheet 47 = .ok (.iload 7, 2) := by decide +kernel
theorem dX11_sheet_49 : decode cX11_sheet 49 = .ok (.aload_n 0, 1) := by decide +kernel
theorem dX11_sheet_50 : decode cX11_sheet 50 = .ok (.getfield 53, 3) := by decide +kernel
theorem dX11_sheet_53 : decode cX11_sheet 53 = .ok (.getfield 208, 3) := by decide +kernel
theorem dX11_sheet_56 : decode cX11_sheet 56 = .ok (.if_icmp .ge 55, 3) := by decide +kernel
theorem dX11_sheet_111 : decode cX11_sheet 111 = .ok (.iload 5, 2) := by decide +kernel
theorem dX11_sheet_113 : decode cX11_sheet 113 = .ok (.ifCond .eq 8, 3) := by decide +kernel
theorem dX11_sheet_116 : decode cX11_sheet 116 = .ok (.bipush (-3), 2) := by decide +kernel
theorem dX11_sheet_118 : decode cX11_sheet 118 = .ok (.goto 5, 3) := by decide +kernel
theorem dX11_sheet_121 : decode cX11_sheet 121 = .ok (.iload 6, 2) := by decide +kernel
theorem dX11_sheet_123 : decode cX11_sheet 123 = .ok (.ireturn, 1) := by decide +kernel
theorem dX11_sign_0 : decode cX11_sign 0 = .ok (.aload_n 0, 1) := by decide +kernel
theorem dX11_sign_1 : decode cX11_sign 1 = .ok (.getfield 12, 3) := by decide +kernel
theorem dX11_sign_4 : decode cX11_sign 4 = .ok (.iload_n 1, 1) := by decide +kernel
theorem dX11_sign_5 : decode cX11_sign 5 = .ok (.invokevirtual 103, 3) := by decide +kernel
theorem dX11_sign_8 : decode cX11_sign 8 = .ok (.ifCond .eq 13, 3) := by decide +kernel
theorem dX11_sign_11 : decode cX11_sign 11 = .ok (.aload_n 0, 1) := by decide +kernel
theorem dX11_sign_12 : decode cX11_sign 12 = .ok (.getfield 12, 3) := by decide +kernel
theorem dX11_sign_15 : decode cX11_sign 15 = .ok (.getfield 107, 3) := by decide +kernel
theorem dX11_sign_18 : decode cX11_sign 18 = .ok (.goto 4, 3) := by decide +kernel
theorem dX11_sign_22 : decode cX11_sign 22 = .ok (.ireturn, 1) := by decide +kernel
theorem dX11_soonest_0 : decode cX11_soonest 0 = .ok (.iload_n 1, 1) := by decide +kernel
theorem dX11_soonest_1 : decode cX11_soonest 1 = .ok (.iload_n 2, 1) := by decide +kernel
theorem dX11_soonest_2 : decode cX11_soonest 2 = .ok (.invokestatic 227, 3) := by decide +kernel
theorem dX11_soonest_5 : decode cX11_soonest 5 = .ok (.ifCond .eq 14, 3) := by decide +kernel
theorem dX11_soonest_8 : decode cX11_soonest 8 = .ok (.aload_n 0, 1) := by decide +kernel
theorem dX11_soonest_9 : decode cX11_soonest 9 = .ok (.getfield 19, 3) := by decide +kernel
theorem dX11_soonest_12 : decode cX11_soonest 12 = .ok (.iload_n 3, 1) := by decide +kernel
theorem dX11_soonest_13 : decode cX11_soonest 13 = .ok (.invokevirtual 234, 3) := by decide +kernel
theorem dX11_soonest_16 : decode cX11_soonest 16 = .ok (.ifCond .ne 5, 3) := by decide +kernel
theorem dX11_soonest_19 : decode cX11_soonest 19 = .ok (.iconst (-1), 1) := by decide +kernel
theorem dX11_soonest_20 : decode cX11_soonest 20 = .ok (.ireturn, 1) := by decide +kernel
theorem dX11_steer_0 : decode cX11_steer 0 = .ok (.aload_n 0, 1) := by decide +kernel
theorem dX11_steer_1 : decode cX11_steer 1 = .ok (.getfield 53, 3) := by decide +kernel
theorem dX11_steer_4 : decode cX11_steer 4 = .ok (.iload_n 1, 1) := by decide +kernel
theorem dX11_steer_5 : decode cX11_steer 5 = .ok (.invokevirtual 172, 3) := by decide +kernel
theorem dX11_steer_8 : decode cX11_steer 8 = .ok (.ifCond .eq 14, 3) := by decide +kernel
theorem dX11_steer_22 : decode cX11_steer 22 = .ok (.iconst (-1), 1) := by decide +kernel
theorem dX11_steer_23 : decode cX11_steer 23 = .ok (.ireturn, 1) := by decide +kernel
theorem dX11_town_0 : decode cX11_town 0 = .ok (.aload_n 0, 1) := by decide +kernel
theorem dX11_town_1 : decode cX11_town 1 = .ok (.getfield 23, 3) := by decide +kernel
theorem dX11_town_4 : decode cX11_town 4 = .ok (.aload_n 0, 1) := by decide +kernel
theorem dX11_town_5 : decode cX11_town 5 = .ok (.getfield 12, 3) := by decide +kernel
theorem dX11_town_8 : decode cX11_town 8 = .ok (.invokevirtual 114, 3) := by decide +kernel
theorem dX11_town_11 : decode cX11_town 11 = .ok (.istore_n 1, 1) := by decide +kernel
theorem dX11_town_12 : decode cX11_town 12 = .ok (.aload_n 0, 1) := by decide +kernel
theorem dX11_town_13 : decode cX11_town 13 = .ok (.getfield 12, 3) := by decide +kernel
theorem dX11_town_16 : decode cX11_town 16 = .ok (.iconst 0, 1) := by decide +kernel
theorem dX11_town_17 : decode cX11_town 17 = .ok (.invokevirtual 111, 3) := by decide +kernel
theorem dX11_town_20 : decode cX11_town 20 = .ok (.pop, 1) := by decide +kernel
theorem dX11_town_21 : decode cX11_town 21 = .ok (.iload_n 1, 1) := by decide +kernel
theorem dX11_town_22 : decode cX11_town 22 = .ok (.ifCond .ge 5, 3) := by decide +kernel
theorem dX11_town_27 : decode cX11_town 27 = .ok (.aload_n 0, 1) := by decide +kernel
theorem dX11_town_28 : decode cX11_town 28 = .ok (.getfield 19, 3) := by decide +kernel
theorem dX11_town_31 : decode cX11_town 31 = .ok (.aload_n 0, 1) := by decide +kernel
theorem dX11_town_32 : decode cX11_town 32 = .ok (.getfield 23, 3) := by decide +kernel
theorem dX11_town_35 : decode cX11_town 35 = .ok (.invokevirtual 118, 3) := by decide +kernel
theorem dX11_town_38 : decode cX11_town 38 = .ok (.aload_n 0, 1) := by decide +kernel
theorem dX11_town_39 : decode cX11_town 39 = .ok (.getfield 53, 3) := by decide +kernel
theorem dX11_town_42 : decode cX11_town 42 = .ok (.invokevirtual 122, 3) := by decide +kernel
theorem dX11_town_45 : decode cX11_town 45 = .ok (.aload_n 0, 1) := by decide +kernel
theorem dX11_town_46 : decode cX11_town 46 = .ok (.getfield 63, 3) := by decide +kernel
theorem dX11_town_49 : decode cX11_town 49 = .ok (.invokevirtual 125, 3) := by decide +kernel
theorem dX11_town_52 : decode cX11_town 52 = .ok (.aload_n 0, 1) := by decide +kernel
theorem dX11_town_53 : decode cX11_town 53 = .ok (.getfield 74, 3) := by decide +kernel
theorem dX11_town_56 : decode cX11_town 56 = .ok (.iconst 0, 1) := by decide +kernel
theorem dX11_town_57 : decode cX11_town 57 = .ok (.putfield 126, 3) := by decide +kernel
theorem dX11_town_60 : decode cX11_town 60 = .ok (.aload_n 0, 1) := by decide +kernel
theorem dX11_town_61 : decode cX11_town 61 = .ok (.iconst 0, 1) := by decide +kernel
theorem dX11_town_62 : decode cX11_town 62 = .ok (.putfield 129, 3) := by decide +kernel
theorem dX11_town_65 : decode cX11_town 65 = .ok (.iload_n 1, 1) := by decide +kernel
theorem dX11_town_66 : decode cX11_town 66 = .ok (.ireturn, 1) := by decide +kernel
theorem dX11_undo_0 : decode cX11_undo 0 = .ok (.aload_n 0, 1) := by decide +kernel
theorem dX11_undo_1 : decode cX11_undo 1 = .ok (.getfield 63, 3) := by decide +kernel
theorem dX11_undo_4 : decode cX11_undo 4 = .ok (.aload_n 0, 1) := by decide +kernel
theorem dX11_undo_5 : decode cX11_undo 5 = .ok (.getfield 53, 3) := by decide +kernel
theorem dX11_undo_8 : decode cX11_undo 8 = .ok (.invokevirtual 283, 3) := by decide +kernel
theorem dX11_undo_11 : decode cX11_undo 11 = .ok (.ifCond .eq 13, 3) := by decide +kernel
theorem dX11_undo_24 : decode cX11_undo 24 = .ok (.iconst (-1), 1) := by decide +kernel
theorem dX11_undo_25 : decode cX11_undo 25 = .ok (.ireturn, 1) := by decide +kernel
theorem dX11_waits_0 : decode cX11_waits 0 = .ok (.aload_n 0, 1) := by decide +kernel
theorem dX11_waits_1 : decode cX11_waits 1 = .ok (.getfield 19, 3) := by decide +kernel
theorem dX11_waits_4 : decode cX11_waits 4 = .ok (.iload_n 1, 1) := by decide +kernel
theorem dX11_waits_5 : decode cX11_waits 5 = .ok (.invokevirtual 137, 3) := by decide +kernel
theorem dX11_waits_8 : decode cX11_waits 8 = .ok (.ifCond .eq 23, 3) := by decide +kernel
theorem dX11_waits_31 : decode cX11_waits 31 = .ok (.iconst (-1), 1) := by decide +kernel
theorem dX11_waits_32 : decode cX11_waits 32 = .ok (.ireturn, 1) := by decide +kernel
theorem dX11_water_0 : decode cX11_water 0 = .ok (.aload_n 0, 1) := by decide +kernel
theorem dX11_water_1 : decode cX11_water 1 = .ok (.getfield 29, 3) := by decide +kernel
theorem dX11_water_4 : decode cX11_water 4 = .ok (.aload_n 0, 1) := by decide +kernel
theorem dX11_water_5 : decode cX11_water 5 = .ok (.getfield 12, 3) := by decide +kernel
theorem dX11_water_8 : decode cX11_water 8 = .ok (.invokevirtual 132, 3) := by decide +kernel
theorem dX11_water_11 : decode cX11_water 11 = .ok (.istore_n 1, 1) := by decide +kernel
theorem dX11_water_12 : decode cX11_water 12 = .ok (.aload_n 0, 1) := by decide +kernel
theorem dX11_water_13 : decode cX11_water 13 = .ok (.getfield 12, 3) := by decide +kernel
theorem dX11_water_16 : decode cX11_water 16 = .ok (.iconst 0, 1) := by decide +kernel
theorem dX11_water_17 : decode cX11_water 17 = .ok (.invokevirtual 111, 3) := by decide +kernel
theorem dX11_water_20 : decode cX11_water 20 = .ok (.pop, 1) := by decide +kernel
theorem dX11_water_21 : decode cX11_water 21 = .ok (.iload_n 1, 1) := by decide +kernel
theorem dX11_water_22 : decode cX11_water 22 = .ok (.ireturn, 1) := by decide +kernel
theorem dX11_ways_0 : decode cX11_ways 0 = .ok (.aload_n 0, 1) := by decide +kernel
theorem dX11_ways_1 : decode cX11_ways 1 = .ok (.getfield 19, 3) := by decide +kernel
theorem dX11_ways_4 : decode cX11_ways 4 = .ok (.iload_n 1, 1) := by decide +kernel
theorem dX11_ways_5 : decode cX11_ways 5 = .ok (.invokevirtual 137, 3) := by decide +kernel
theorem dX11_ways_8 : decode cX11_ways 8 = .ok (.ifCond .eq 23, 3) := by decide +kernel
theorem dX11_ways_31 : decode cX11_ways 31 = .ok (.iconst (-1), 1) := by decide +kernel
theorem dX11_ways_32 : decode cX11_ways 32 = .ok (.ireturn, 1) := by decide +kernel
theorem dX11_where_0 : decode cX11_where 0 = .ok (.aload_n 0, 1) := by decide +kernel
theorem dX11_where_1 : decode cX11_where 1 = .ok (.getfield 53, 3) := by decide +kernel
theorem dX11_where_4 : decode cX11_where 4 = .ok (.iload_n 1, 1) := by decide +kernel
theorem dX11_where_5 : decode cX11_where 5 = .ok (.invokevirtual 172, 3) := by decide +kernel
theorem dX11_where_8 : decode cX11_where 8 = .ok (.ifCond .eq 10, 3) := by decide +kernel
theorem dX11_where_18 : decode cX11_where 18 = .ok (.iconst (-1), 1) := by decide +kernel
theorem dX11_where_19 : decode cX11_where 19 = .ok (.ireturn, 1) := by decide +kernel
theorem dX1_flowIn_0 : decode cX1_flowIn 0 = .ok (.aload_n 0, 1) := by decide +kernel
theorem dX1_flowIn_1 : decode cX1_flowIn 1 = .ok (.getfield 21, 3) := by decide +kernel
theorem dX1_flowIn_4 : decode cX1_flowIn 4 = .ok (.iload_n 1, 1) := by decide +kernel
theorem dX1_flowIn_5 : decode cX1_flowIn 5 = .ok (.invokevirtual 33, 3) := by decide +kernel
theorem dX1_flowIn_8 : decode cX1_flowIn 8 = .ok (.istore_n 2, 1) := by decide +kernel
theorem dX1_flowIn_9 : decode cX1_flowIn 9 = .ok (.aload_n 0, 1) := by decide +kernel
theorem dX1_flowIn_10 : decode cX1_flowIn 10 = .ok (.getfield 39, 3) := by decide +kernel
theorem dX1_flowIn_13 : decode cX1_flowIn 13 = .ok (.ifCond .ne 5, 3) := by decide +kernel
theorem dX1_flowIn_16 : decode cX1_flowIn 16 = .ok (.iload_n 2, 1) := by decide +kernel
theorem dX1_flowIn_17 : decode cX1_flowIn 17 = .ok (.ireturn, 1) := by decide +kernel
theorem dX1_pass_0 : decode cX1_pass 0 = .ok (.aload_n 0, 1) := by decide +kernel
theorem dX1_pass_1 : decode cX1_pass 1 = .ok (.aload_n 1, 1) := by decide +kernel
theorem dX1_pass_2 : decode cX1_pass 2 = .ok (.getfield 52, 3) := by decide +kernel
theorem dX1_pass_5 : decode cX1_pass 5 = .ok (.invokevirtual 57, 3) := by decide +kernel
theorem dX1_pass_8 : decode cX1_pass 8 = .ok (.istore_n 2, 1) := by decide +kernel
theorem dX1_pass_9 : decode cX1_pass 9 = .ok (.iconst 0, 1) := by decide +kernel
theorem dX1_pass_10 : decode cX1_pass 10 = .ok (.istore_n 3, 1) := by decide +kernel
theorem dX1_pass_11 : decode cX1_pass 11 = .ok (.iload_n 3, 1) := by decide +kernel
theorem dX1_pass_12 : decode cX1_pass 12 = .ok (.aload_n 1, 1) := by decide +kernel
theorem dX1_pass_13 : decode cX1_pass 13 = .ok (.getfield 60, 3) := by decide +kernel
theorem dX1_pass_16 : decode cX1_pass 16 = .ok (.if_icmp .ge 49, 3) := by decide +kernel
theorem dX1_pass_65 : decode cX1_pass 65 = .ok (.aload_n 1, 1) := by decide +kernel
theorem dX1_pass_66 : decode cX1_pass 66 = .ok (.dup, 1) := by decide +kernel
theorem dX1_pass_67 : decode cX1_pass 67 = .ok (.getfield 52, 3) := by decide +kernel
theorem dX1_pass_70 : decode cX1_pass 70 = .ok (.iconst 1, 1) := by decide +kernel
theorem dX1_pass_71 : decode cX1_pass 71 = .ok (.iadd, 1) := by decide +kernel
theorem dX1_pass_72 : decode cX1_pass 72 = .ok (.putfield 52, 3) := by decide +kernel
theorem dX1_pass_75 : decode cX1_pass 75 = .ok (.return_, 1) := by decide +kernel
theorem dX1_seesOthers_0 : decode cX1_seesOthers 0 = .ok (.aload_n 0, 1) := by decide +kernel
theorem dX1_seesOthers_1 : decode cX1_seesOthers 1 = .ok (.getfield 25, 3) := by decide +kernel
theorem dX1_seesOthers_4 : decode cX1_seesOthers 4 = .ok (.getfield 29, 3) := by decide +kernel
theorem dX1_seesOthers_7 : decode cX1_seesOthers 7 = .ok (.ireturn, 1) := by decide +kernel
theorem dX2_read_0 : decode cX2_read 0 = .ok (.aload_n 0, 1) := by decide +kernel
theorem dX2_read_1 : decode cX2_read 1 = .ok (.iconst 0, 1) := by decide +kernel
theorem dX2_read_2 : decode cX2_read 2 = .ok (.putfield 22, 3) := by decide +kernel
theorem dX2_read_5 : decode cX2_read 5 = .ok (.aload_n 1, 1) := by decide +kernel
theorem dX2_read_6 : decode cX2_read 6 = .ok (.bipush 60, 2) := by decide +kernel
theorem dX2_read_8 : decode cX2_read 8 = .ok (.invokevirtual 30, 3) := by decide +kernel
theorem dX2_read_11 : decode cX2_read 11 = .ok (.aload_n 1, 1) := by decide +kernel
theorem dX2_read_12 : decode cX2_read 12 = .ok (.iconst 0, 1) := by decide +kernel
theorem dX2_read_13 : decode cX2_read 13 = .ok (.invokevirtual 36, 3) := by decide +kernel
theorem dX2_read_16 : decode cX2_read 16 = .ok (.ifCond .eq 5, 3) := by decide +kernel
theorem dX2_read_19 : decode cX2_read 19 = .ok (.iconst 0, 1) := by decide +kernel
theorem dX2_read_20 : decode cX2_read 20 = .ok (.ireturn, 1) := by decide +kernel
theorem dX3_clear_0 : decode cX3_clear 0 = .ok (.aload_n 0, 1) := by decide +kernel
theorem dX3_clear_1 : decode cX3_clear 1 = .ok (.iconst 0, 1) := by decide +kernel
theorem dX3_clear_2 : decode cX3_clear 2 = .ok (.putfield 16, 3) := by decide +kernel
theorem dX3_clear_5 : decode cX3_clear 5 = .ok (.return_, 1) := by decide +kernel
theorem dX3_pop_0 : decode cX3_pop 0 = .ok (.aload_n 0, 1) := by decide +kernel
theorem dX3_pop_1 : decode cX3_pop 1 = .ok (.getfield 20, 3) := by decide +kernel
theorem dX3_pop_4 : decode cX3_pop 4 = .ok (.ifCond .le 12, 3) := by decide +kernel
theorem dX3_pop_16 : decode cX3_pop 16 = .ok (.bipush 14, 2) := by decide +kernel
theorem dX3_pop_18 : decode cX3_pop 18 = .ok (.istore_n 2, 1) := by decide +kernel
theorem dX3_pop_19 : decode cX3_pop 19 = .ok (.aload_n 0, 1) := by decide +kernel
theorem dX3_pop_20 : decode cX3_pop 20 = .ok (.getfield 16, 3) := by decide +kernel
theorem dX3_pop_23 : decode cX3_pop 23 = .ok (.ifCond .le 9, 3) := by decide +kernel
theorem dX3_pop_32 : decode cX3_pop 32 = .ok (.iconst 0, 1) := by decide +kernel
theorem dX3_pop_33 : decode cX3_pop 33 = .ok (.ireturn, 1) := by decide +kernel
theorem dX3_push_0 : decode cX3_push 0 = .ok (.aload_n 0, 1) := by decide +kernel
theorem dX3_push_1 : decode cX3_push 1 = .ok (.getfield 20, 3) := by decide +kernel
theorem dX3_push_4 : decode cX3_push 4 = .ok (.ifCond .lt 12, 3) := by decide +kernel
theorem dX3_push_7 : decode cX3_push 7 = .ok (.aload_n 0, 1) := by decide +kernel
theorem dX3_push_8 : decode cX3_push 8 = .ok (.getfield 20, 3) := by decide +kernel
theorem dX3_push_11 : decode cX3_push 11 = .ok (.bipush 15, 2) := by decide +kernel
theorem dX3_push_13 : decode cX3_push 13 = .ok (.if_icmp .lt 4, 3) := by decide +kernel
theorem dX3_push_17 : decode cX3_push 17 = .ok (.aload_n 0, 1) := by decide +kernel
theorem dX3_push_18 : decode cX3_push 18 = .ok (.getfield 11, 3) := by decide +kernel
theorem dX3_push_21 : decode cX3_push 21 = .ok (.aload_n 0, 1) := by decide +kernel
theorem dX3_push_22 : decode cX3_push 22 = .ok (.getfield 20, 3) := by decide +kernel
theorem dX3_push_25 : decode cX3_push 25 = .ok (.aaload, 1) := by decide +kernel
theorem dX3_push_26 : decode cX3_push 26 = .ok (.aload_n 1, 1) := by decide +kernel
theorem dX3_push_27 : decode cX3_push 27 = .ok (.invokevirtual 23, 3) := by decide +kernel
theorem dX3_push_30 : decode cX3_push 30 = .ok (.aload_n 0, 1) := by decide +kernel
theorem dX3_push_31 : decode cX3_push 31 = .ok (.aload_n 0, 1) := by decide +kernel
theorem dX3_push_32 : decode cX3_push 32 = .ok (.getfield 20, 3) := by decide +kernel
theorem dX3_push_35 : decode cX3_push 35 = .ok (.iconst 1, 1) := by decide +kernel
theorem dX3_push_36 : decode cX3_push 36 = .ok (.iadd, 1) := by decide +kernel
theorem dX3_push_37 : decode cX3_push 37 = .ok (.bipush 15, 2) := by decide +kernel
theorem dX3_push_39 : decode cX3_push 39 = .ok (.if_icmp .ge 12, 3) := by decide +kernel
theorem dX3_push_42 : decode cX3_push 42 = .ok (.aload_n 0, 1) := by decide +kernel
theorem dX3_push_43 : decode cX3_push 43 = .ok (.getfield 20, 3) := by decide +kernel
theorem dX3_push_46 : decode cX3_push 46 = .ok (.iconst 1, 1) := by decide +kernel
theorem dX3_push_47 : decode cX3_push 47 = .ok (.iadd, 1) := by decide +kernel
theorem dX3_push_48 : decode cX3_push 48 = .ok (.goto 4, 3) := by decide +kernel
theorem dX3_push_52 : decode cX3_push 52 = .ok (.putfield 20, 3) := by decide +kernel
theorem dX3_push_55 : decode cX3_push 55 = .ok (.aload_n 0, 1) := by decide +kernel
theorem dX3_push_56 : decode cX3_push 56 = .ok (.bipush 15, 2) := by decide +kernel
theorem dX3_push_58 : decode cX3_push 58 = .ok (.aload_n 0, 1) := by decide +kernel
theorem dX3_push_59 : decode cX3_push 59 = .ok (.getfield 16, 3) := by decide +kernel
theorem dX3_push_62 : decode cX3_push 62 = .ok (.iconst 1, 1) := by decide +kernel
theorem dX3_push_63 : decode cX3_push 63 = .ok (.iadd, 1) := by decide +kernel
theorem dX3_push_64 : decode cX3_push 64 = .ok (.invokestatic 27, 3) := by decide +kernel
theorem dX3_push_67 : decode cX3_push 67 = .ok (.putfield 16, 3) := by decide +kernel
theorem dX3_push_70 : decode cX3_push 70 = .ok (.return_, 1) := by decide +kernel
theorem dX4_tell_0 : decode cX4_tell 0 = .ok (.aload_n 0, 1) := by decide +kernel
theorem dX4_tell_1 : decode cX4_tell 1 = .ok (.getfield 9, 3) := by decide +kernel
theorem dX4_tell_4 : decode cX4_tell 4 = .ok (.iconst 0, 1) := by decide +kernel
theorem dX4_tell_5 : decode cX4_tell 5 = .ok (.lload_n 1, 1) := by decide +kernel
theorem dX4_tell_6 : decode cX4_tell 6 = .ok (.lastore, 1) := by decide +kernel
theorem dX4_tell_7 : decode cX4_tell 7 = .ok (.aload_n 0, 1) := by decide +kernel
theorem dX4_tell_8 : decode cX4_tell 8 = .ok (.iconst 1, 1) := by decide +kernel
theorem dX4_tell_9 : decode cX4_tell 9 = .ok (.putfield 13, 3) := by decide +kernel
theorem dX4_tell_12 : decode cX4_tell 12 = .ok (.return_, 1) := by decide +kernel
theorem dX4_tell__0 : decode cX4_tell_ 0 = .ok (.aload_n 0, 1) := by decide +kernel
theorem dX4_tell__1 : decode cX4_tell_ 1 = .ok (.getfield 9, 3) := by decide +kernel
theorem dX4_tell__4 : decode cX4_tell_ 4 = .ok (.iconst 0, 1) := by decide +kernel
theorem dX4_tell__5 : decode cX4_tell_ 5 = .ok (.lload_n 1, 1) := by decide +kernel
theorem dX4_tell__6 : decode cX4_tell_ 6 = .ok (.lastore, 1) := by decide +kernel
theorem dX4_tell__7 : decode cX4_tell_ 7 = .ok (.aload_n 0, 1) := by decide +kernel
theorem dX4_tell__8 : decode cX4_tell_ 8 = .ok (.getfield 9, 3) := by decide +kernel
theorem dX4_tell__11 : decode cX4_tell_ 11 = .ok (.iconst 1, 1) := by decide +kernel
theorem dX4_tell__12 : decode cX4_tell_ 12 = .ok (.lload_n 3, 1) := by decide +kernel
theorem dX4_tell__13 : decode cX4_tell_ 13 = .ok (.lastore, 1) := by decide +kernel
theorem dX4_tell__14 : decode cX4_tell_ 14 = .ok (.aload_n 0, 1) := by decide +kernel
theorem dX4_tell__15 : decode cX4_tell_ 15 = .ok (.iconst 2, 1) := by decide +kernel
theorem dX4_tell__16 : decode cX4_tell_ 16 = .ok (.putfield 13, 3) := by decide +kernel
theorem dX4_tell__19 : decode cX4_tell_ 19 = .ok (.return_, 1) := by decide +kernel
theorem dX4_tell___0 : decode cX4_tell__ 0 = .ok (.aload_n 0, 1) := by decide +kernel
theorem dX4_tell___1 : decode cX4_tell__ 1 = .ok (.getfield 9, 3) := by decide +kernel
theorem dX4_tell___4 : decode cX4_tell__ 4 = .ok (.iconst 0, 1) := by decide +kernel
theorem dX4_tell___5 : decode cX4_tell__ 5 = .ok (.lload_n 1, 1) := by decide +kernel
theorem dX4_tell___6 : decode cX4_tell__ 6 = .ok (.lastore, 1) := by decide +kernel
theorem dX4_tell___7 : decode cX4_tell__ 7 = .ok (.aload_n 0, 1) := by decide +kernel
theorem dX4_tell___8 : decode cX4_tell__ 8 = .ok (.getfield 9, 3) := by decide +kernel
theorem dX4_tell___11 : decode cX4_tell__ 11 = .ok (.iconst 1, 1) := by decide +kernel
theorem dX4_tell___12 : decode cX4_tell__ 12 = .ok (.lload_n 3, 1) := by decide +kernel
theorem dX4_tell___13 : decode cX4_tell__ 13 = .ok (.lastore, 1) := by decide +kernel
theorem dX4_tell___14 : decode cX4_tell__ 14 = .ok (.aload_n 0, 1) := by decide +kernel
theorem dX4_tell___15 : decode cX4_tell__ 15 = .ok (.getfield 9, 3) := by decide +kernel
theorem dX4_tell___18 : decode cX4_tell__ 18 = .ok (.iconst 2, 1) := by decide +kernel
theorem dX4_tell___19 : decode cX4_tell__ 19 = .ok (.lload 5, 2) := by decide +kernel
theorem dX4_tell___21 : decode cX4_tell__ 21 = .ok (.lastore, 1) := by decide +kernel
theorem dX4_tell___22 : decode cX4_tell__ 22 = .ok (.aload_n 0, 1) := by decide +kernel
theorem dX4_tell___23 : decode cX4_tell__ 23 = .ok (.iconst 3, 1) := by decide +kernel
theorem dX4_tell___24 : decode cX4_tell__ 24 = .ok (.putfield 13, 3) := by decide +kernel
theorem dX4_tell___27 : decode cX4_tell__ 27 = .ok (.return_, 1) := by decide +kernel
theorem dX5_addFact_0 : decode cX5_addFact 0 = .ok (.aload_n 0, 1) := by decide +kernel
theorem dX5_addFact_1 : decode cX5_addFact 1 = .ok (.dup, 1) := by decide +kernel
theorem dX5_addFact_2 : decode cX5_addFact 2 = .ok (.getfield 23, 3) := by decide +kernel
theorem dX5_addFact_5 : decode cX5_addFact 5 = .ok (.iload_n 1, 1) := by decide +kernel
theorem dX5_addFact_6 : decode cX5_addFact 6 = .ok (.ifCond .ne 7, 3) := by decide +kernel
theorem dX5_addFact_9 : decode cX5_addFact 9 = .ok (.iconst 1, 1) := by decide +kernel
theorem dX5_addFact_10 : decode cX5_addFact 10 = .ok (.goto 4, 3) := by decide +kernel
theorem dX5_addFact_14 : decode cX5_addFact 14 = .ok (.ior, 1) := by decide +kernel
theorem dX5_addFact_15 : decode cX5_addFact 15 = .ok (.putfield 23, 3) := by decide +kernel
theorem dX5_addFact_18 : decode cX5_addFact 18 = .ok (.aload_n 0, 1) := by decide +kernel
theorem dX5_addFact_19 : decode cX5_addFact 19 = .ok (.dup, 1) := by decide +kernel
theorem dX5_addFact_20 : decode cX5_addFact 20 = .ok (.getfield 27, 3) := by decide +kernel
theorem dX5_addFact_23 : decode cX5_addFact 23 = .ok (.iload_n 1, 1) := by decide +kernel
theorem dX5_addFact_24 : decode cX5_addFact 24 = .ok (.bipush 6, 2) := by decide +kernel
theorem dX5_addFact_26 : decode cX5_addFact 26 = .ok (.if_icmp .ne 7, 3) := by decide +kernel
theorem dX5_addFact_33 : decode cX5_addFact 33 = .ok (.iconst 0, 1) := by decide +kernel
theorem dX5_addFact_34 : decode cX5_addFact 34 = .ok (.ior, 1) := by decide +kernel
theorem dX5_addFact_35 : decode cX5_addFact 35 = .ok (.putfield 27, 3) := by decide +kernel
theorem dX5_addFact_38 : decode cX5_addFact 38 = .ok (.aload_n 0, 1) := by decide +kernel
theorem dX5_addFact_39 : decode cX5_addFact 39 = .ok (.iload_n 1, 1) := by decide +kernel
theorem dX5_addFact_40 : decode cX5_addFact 40 = .ok (.invokevirtual 84, 3) := by decide +kernel
theorem dX5_addFact_43 : decode cX5_addFact 43 = .ok (.aload_n 0, 1) := by decide +kernel
theorem dX5_addFact_44 : decode cX5_addFact 44 = .ok (.iconst 3, 1) := by decide +kernel
theorem dX5_addFact_45 : decode cX5_addFact 45 = .ok (.putfield 69, 3) := by decide +kernel
theorem dX5_addFact_48 : decode cX5_addFact 48 = .ok (.aload_n 0, 1) := by decide +kernel
theorem dX5_addFact_49 : decode cX5_addFact 49 = .ok (.iconst 0, 1) := by decide +kernel
theorem dX5_addFact_50 : decode cX5_addFact 50 = .ok (.putfield 50, 3) := by decide +kernel
theorem dX5_addFact_53 : decode cX5_addFact 53 = .ok (.return_, 1) := by decide +kernel
theorem dX5_addStep_0 : decode cX5_addStep 0 = .ok (.aload_n 0, 1) := by decide +kernel
theorem dX5_addStep_1 : decode cX5_addStep 1 = .ok (.getfield 19, 3) := by decide +kernel
theorem dX5_addStep_4 : decode cX5_addStep 4 = .ok (.ifCond .lt 32, 3) := by decide +kernel
theorem dX5_addStep_7 : decode cX5_addStep 7 = .ok (.aload_n 0, 1) := by decide +kernel
theorem dX5_addStep_8 : decode cX5_addStep 8 = .ok (.getfield 19, 3) := by decide +kernel
theorem dX5_addStep_11 : decode cX5_addStep 11 = .ok (.bipush 40, 2) := by decide +kernel
theorem dX5_addStep_13 : decode cX5_addStep 13 = .ok (.if_icmp .ge 23, 3) := by decide +kernel
theorem dX5_addStep_16 : decode cX5_addStep 16 = .ok (.aload_n 0, 1) := by decide +kernel
theorem dX5_addStep_17 : decode cX5_addStep 17 = .ok (.getfield 9, 3) := by decide +kernel
theorem dX5_addStep_20 : decode cX5_addStep 20 = .ok (.aload_n 0, 1) := by decide +kernel
theorem dX5_addStep_21 : decode cX5_addStep 21 = .ok (.getfield 19, 3) := by decide +kernel
theorem dX5_addStep_24 : decode cX5_addStep 24 = .ok (.iload_n 1, 1) := by decide +kernel
theorem dX5_addStep_25 : decode cX5_addStep 25 = .ok (.iastore, 1) := by decide +kernel
theorem dX5_addStep_26 : decode cX5_addStep 26 = .ok (.aload_n 0, 1) := by decide +kernel
theorem dX5_addStep_27 : decode cX5_addStep 27 = .ok (.dup, 1) := by decide +kernel
theorem dX5_addStep_28 : decode cX5_addStep 28 = .ok (.getfield 19, 3) := by decide +kernel
theorem dX5_addStep_31 : decode cX5_addStep 31 = .ok (.iconst 1, 1) := by decide +kernel
theorem dX5_addStep_32 : decode cX5_addStep 32 = .ok (.iadd, 1) := by decide +kernel
theorem dX5_addStep_33 : decode cX5_addStep 33 = .ok (.putfield 19, 3) := by decide +kernel
theorem dX5_addStep_36 : decode cX5_addStep 36 = .ok (.return_, 1) := by decide +kernel
theorem dX5_clear_0 : decode cX5_clear 0 = .ok (.aload_n 0, 1) := by decide +kernel
theorem dX5_clear_1 : decode cX5_clear 1 = .ok (.iconst 0, 1) := by decide +kernel
theorem dX5_clear_2 : decode cX5_clear 2 = .ok (.putfield 19, 3) := by decide +kernel
theorem dX5_clear_5 : decode cX5_clear 5 = .ok (.aload_n 0, 1) := by decide +kernel
theorem dX5_clear_6 : decode cX5_clear 6 = .ok (.iconst 0, 1) := by decide +kernel
theorem dX5_clear_7 : decode cX5_clear 7 = .ok (.putfield 60, 3) := by decide +kernel
theorem dX5_clear_10 : decode cX5_clear 10 = .ok (.aload_n 0, 1) := by decide +kernel
theorem dX5_clear_11 : decode cX5_clear 11 = .ok (.iconst 0, 1) := by decide +kernel
theorem dX5_clear_12 : decode cX5_clear 12 = .ok (.putfield 63, 3) := by decide +kernel
theorem dX5_clear_15 : decode cX5_clear 15 = .ok (.aload_n 0, 1) := by decide +kernel
theorem dX5_clear_16 : decode cX5_clear 16 = .ok (.iconst 0, 1) := by decide +kernel
theorem dX5_clear_17 : decode cX5_clear 17 = .ok (.putfield 66, 3) := by decide +kernel
theorem dX5_clear_20 : decode cX5_clear 20 = .ok (.aload_n 0, 1) := by decide +kernel
theorem dX5_clear_21 : decode cX5_clear 21 = .ok (.iconst 0, 1) := by decide +kernel
theorem dX5_clear_22 : decode cX5_clear 22 = .ok (.putfield 69, 3) := by decide +kernel
theorem dX5_clear_25 : decode cX5_clear 25 = .ok (.aload_n 0, 1) := by decide +kernel
theorem dX5_clear_26 : decode cX5_clear 26 = .ok (.iconst 1, 1) := by decide +kernel
theorem dX5_clear_27 : decode cX5_clear 27 = .ok (.putfield 50, 3) := by decide +kernel
theorem dX5_clear_30 : decode cX5_clear 30 = .ok (.aload_n 0, 1) := by decide +kernel
theorem dX5_clear_31 : decode cX5_clear 31 = .ok (.iconst 0, 1) := by decide +kernel
theorem dX5_clear_32 : decode cX5_clear 32 = .ok (.putfield 23, 3) := by decide +kernel
theorem dX5_clear_35 : decode cX5_clear 35 = .ok (.aload_n 0, 1) := by decide +kernel
theorem dX5_clear_36 : decode cX5_clear 36 = .ok (.iconst 0, 1) := by decide +kernel
theorem dX5_clear_37 : decode cX5_clear 37 = .ok (.putfield 27, 3) := by decide +kernel
theorem dX5_clear_40 : decode cX5_clear 40 = .ok (.return_, 1) := by decide +kernel
theorem dX5_copy_0 : decode cX5_copy 0 = .ok (.aload_n 0, 1) := by decide +kernel
theorem dX5_copy_1 : decode cX5_copy 1 = .ok (.aload_n 1, 1) := by decide +kernel
theorem dX5_copy_2 : decode cX5_copy 2 = .ok (.getfield 19, 3) := by decide +kernel
theorem dX5_copy_5 : decode cX5_copy 5 = .ok (.putfield 19, 3) := by decide +kernel
theorem dX5_copy_8 : decode cX5_copy 8 = .ok (.aload_n 0, 1) := by decide +kernel
theorem dX5_copy_9 : decode cX5_copy 9 = .ok (.aload_n 1, 1) := by decide +kernel
theorem dX5_copy_10 : decode cX5_copy 10 = .ok (.getfield 23, 3) := by decide +kernel
theorem dX5_copy_13 : decode cX5_copy 13 = .ok (.putfield 23, 3) := by decide +kernel
theorem dX5_copy_16 : decode cX5_copy 16 = .ok (.aload_n 0, 1) := by decide +kernel
theorem dX5_copy_17 : decode cX5_copy 17 = .ok (.aload_n 1, 1) := by decide +kernel
theorem dX5_copy_18 : decode cX5_copy 18 = .ok (.getfield 27, 3) := by decide +kernel
theorem dX5_copy_21 : decode cX5_copy 21 = .ok (.putfield 27, 3) := by decide +kernel
theorem dX5_copy_24 : decode cX5_copy 24 = .ok (.iconst 0, 1) := by decide +kernel
theorem dX5_copy_25 : decode cX5_copy 25 = .ok (.istore_n 2, 1) := by decide +kernel
theorem dX5_copy_26 : decode cX5_copy 26 = .ok (.iload_n 2, 1) := by decide +kernel
theorem dX5_copy_27 : decode cX5_copy 27 = .ok (.bipush 40, 2) := by decide +kernel
theorem dX5_copy_29 : decode cX5_copy 29 = .ok (.if_icmp .ge 21, 3) := by decide +kernel
theorem dX5_copy_32 : decode cX5_copy 32 = .ok (.aload_n 0, 1) := by decide +kernel
theorem dX5_copy_33 : decode cX5_copy 33 = .ok (.getfield 9, 3) := by decide +kernel
theorem dX5_copy_36 : decode cX5_copy 36 = .ok (.iload_n 2, 1) := by decide +kernel
theorem dX5_copy_37 : decode cX5_copy 37 = .ok (.aload_n 1, 1) := by decide +kernel
theorem dX5_copy_38 : decode cX5_copy 38 = .ok (.getfield 9, 3) := by decide +kernel
theorem dX5_copy_41 : decode cX5_copy 41 = .ok (.iload_n 2, 1) := by decide +kernel
theorem dX5_copy_42 : decode cX5_copy 42 = .ok (.iaload, 1) := by decide +kernel
theorem dX5_copy_43 : decode cX5_copy 43 = .ok (.iastore, 1) := by decide +kernel
theorem dX5_copy_44 : decode cX5_copy 44 = .ok (.iinc 2 1, 3) := by decide +kernel
theorem dX5_copy_47 : decode cX5_copy 47 = .ok (.goto (-21), 3) := by decide +kernel
theorem dX5_copy_50 : decode cX5_copy 50 = .ok (.return_, 1) := by decide +kernel
theorem dX5_read_0 : decode cX5_read 0 = .ok (.aload_n 0, 1) := by decide +kernel
theorem dX5_read_1 : decode cX5_read 1 = .ok (.invokevirtual 30, 3) := by decide +kernel
theorem dX5_read_4 : decode cX5_read 4 = .ok (.aload_n 1, 1) := by decide +kernel
theorem dX5_read_5 : decode cX5_read 5 = .ok (.bipush 40, 2) := by decide +kernel
theorem dX5_read_7 : decode cX5_read 7 = .ok (.invokevirtual 33, 3) := by decide +kernel
theorem dX5_read_10 : decode cX5_read 10 = .ok (.aload_n 1, 1) := by decide +kernel
theorem dX5_read_11 : decode cX5_read 11 = .ok (.iconst 0, 1) := by decide +kernel
theorem dX5_read_12 : decode cX5_read 12 = .ok (.invokevirtual 39, 3) := by decide +kernel
theorem dX5_read_15 : decode cX5_read 15 = .ok (.ifCond .eq 10, 3) := by decide +kernel
theorem dX5_read_18 : decode cX5_read 18 = .ok (.aload_n 0, 1) := by decide +kernel
theorem dX5_read_19 : decode cX5_read 19 = .ok (.iconst 0, 1) := by decide +kernel
theorem dX5_read_20 : decode cX5_read 20 = .ok (.invokevirtual 43, 3) := by decide +kernel
theorem dX5_read_23 : decode cX5_read 23 = .ok (.iconst 0, 1) := by decide +kernel
theorem dX5_read_24 : decode cX5_read 24 = .ok (.ireturn, 1) := by decide +kernel
theorem dX6_clear_0 : decode cX6_clear 0 = .ok (.aload_n 0, 1) := by decide +kernel
theorem dX6_clear_1 : decode cX6_clear 1 = .ok (.iconst 0, 1) := by decide +kernel
theorem dX6_clear_2 : decode cX6_clear 2 = .ok (.putfield 30, 3) := by decide +kernel
theorem dX6_clear_5 : decode cX6_clear 5 = .ok (.aload_n 0, 1) := by decide +kernel
theorem dX6_clear_6 : decode cX6_clear 6 = .ok (.iconst 0, 1) := by decide +kernel
theorem dX6_clear_7 : decode cX6_clear 7 = .ok (.putfield 34, 3) := by decide +kernel
theorem dX6_clear_10 : decode cX6_clear 10 = .ok (.aload_n 0, 1) := by decide +kernel
theorem dX6_clear_11 : decode cX6_clear 11 = .ok (.iconst 0, 1) := by decide +kernel
theorem dX6_clear_12 : decode cX6_clear 12 = .ok (.putfield 37, 3) := by decide +kernel
theorem dX6_clear_15 : decode cX6_clear 15 = .ok (.aload_n 0, 1) := by decide +kernel
theorem dX6_clear_16 : decode cX6_clear 16 = .ok (.iconst 0, 1) := by decide +kernel
theorem dX6_clear_17 : decode cX6_clear 17 = .ok (.putfield 40, 3) := by decide +kernel
theorem dX6_clear_20 : decode cX6_clear 20 = .ok (.aload_n 0, 1) := by decide +kernel
theorem dX6_clear_21 : decode cX6_clear 21 = .ok (.iconst 0, 1) := by decide +kernel
theorem dX6_clear_22 : decode cX6_clear 22 = .ok (.putfield 43, 3) := by decide +kernel
theorem dX6_clear_25 : decode cX6_clear 25 = .ok (.return_, 1) := by decide +kernel
theorem dX6_copy_0 : decode cX6_copy 0 = .ok (.aload_n 0, 1) := by decide +kernel
theorem dX6_copy_1 : decode cX6_copy 1 = .ok (.aload_n 1, 1) := by decide +kernel
theorem dX6_copy_2 : decode cX6_copy 2 = .ok (.getfield 30, 3) := by decide +kernel
theorem dX6_copy_5 : decode cX6_copy 5 = .ok (.putfield 30, 3) := by decide +kernel
theorem dX6_copy_8 : decode cX6_copy 8 = .ok (.aload_n 0, 1) := by decide +kernel
theorem dX6_copy_9 : decode cX6_copy 9 = .ok (.aload_n 1, 1) := by decide +kernel
theorem dX6_copy_10 : decode cX6_copy 10 = .ok (.getfield 34, 3) := by decide +kernel
theorem dX6_copy_13 : decode cX6_copy 13 = .ok (.putfield 34, 3) := by decide +kernel
theorem dX6_copy_16 : decode cX6_copy 16 = .ok (.aload_n 0, 1) := by decide +kernel
theorem dX6_copy_17 : decode cX6_copy 17 = .ok (.aload_n 1, 1) := by decide +kernel
theorem dX6_copy_18 : decode cX6_copy 18 = .ok (.getfield 37, 3) := by decide +kernel
theorem dX6_copy_21 : decode cX6_copy 21 = .ok (.putfield 37, 3) := by decide +kernel
theorem dX6_copy_24 : decode cX6_copy 24 = .ok (.aload_n 0, 1) := by decide +kernel
theorem dX6_copy_25 : decode cX6_copy 25 = .ok (.aload_n 1, 1) := by decide +kernel
theorem dX6_copy_26 : decode cX6_copy 26 = .ok (.getfield 40, 3) := by decide +kernel
theorem dX6_copy_29 : decode cX6_copy 29 = .ok (.putfield 40, 3) := by decide +kernel
theorem dX6_copy_32 : decode cX6_copy 32 = .ok (.aload_n 0, 1) := by decide +kernel
theorem dX6_copy_33 : decode cX6_copy 33 = .ok (.aload_n 1, 1) := by decide +kernel
theorem dX6_copy_34 : decode cX6_copy 34 = .ok (.getfield 43, 3) := by decide +kernel
theorem dX6_copy_37 : decode cX6_copy 37 = .ok (.putfield 43, 3) := by decide +kernel
theorem dX6_copy_40 : decode cX6_copy 40 = .ok (.iconst 0, 1) := by decide +kernel
theorem dX6_copy_41 : decode cX6_copy 41 = .ok (.istore_n 2, 1) := by decide +kernel
theorem dX6_copy_42 : decode cX6_copy 42 = .ok (.iload_n 2, 1) := by decide +kernel
theorem dX6_copy_43 : decode cX6_copy 43 = .ok (.aload_n 0, 1) := by decide +kernel
theorem dX6_copy_44 : decode cX6_copy 44 = .ok (.getfield 30, 3) := by decide +kernel
theorem dX6_copy_47 : decode cX6_copy 47 = .ok (.if_icmp .ge 87, 3) := by decide +kernel
theorem dX6_copy_134 : decode cX6_copy 134 = .ok (.return_, 1) := by decide +kernel
theorem dX6_has_0 : decode cX6_has 0 = .ok (.iload_n 1, 1) := by decide +kernel
theorem dX6_has_1 : decode cX6_has 1 = .ok (.ifCond .lt 15, 3) := by decide +kernel
theorem dX6_has_4 : decode cX6_has 4 = .ok (.iload_n 1, 1) := by decide +kernel
theorem dX6_has_5 : decode cX6_has 5 = .ok (.aload_n 0, 1) := by decide +kernel
theorem dX6_has_6 : decode cX6_has 6 = .ok (.getfield 30, 3) := by decide +kernel
theorem dX6_has_9 : decode cX6_has 9 = .ok (.if_icmp .ge 7, 3) := by decide +kernel
theorem dX6_has_12 : decode cX6_has 12 = .ok (.iconst 1, 1) := by decide +kernel
theorem dX6_has_13 : decode cX6_has 13 = .ok (.goto 4, 3) := by decide +kernel
theorem dX6_has_16 : decode cX6_has 16 = .ok (.iconst 0, 1) := by decide +kernel
theorem dX6_has_17 : decode cX6_has 17 = .ok (.ireturn, 1) := by decide +kernel
theorem dX6_holdBack_0 : decode cX6_holdBack 0 = .ok (.iconst 0, 1) := by decide +kernel
theorem dX6_holdBack_1 : decode cX6_holdBack 1 = .ok (.istore_n 2, 1) := by decide +kernel
theorem dX6_holdBack_2 : decode cX6_holdBack 2 = .ok (.iload_n 2, 1) := by decide +kernel
theorem dX6_holdBack_3 : decode cX6_holdBack 3 = .ok (.aload_n 0, 1) := by decide +kernel
theorem dX6_holdBack_4 : decode cX6_holdBack 4 = .ok (.getfield 30, 3) := by decide +kernel
theorem dX6_holdBack_7 : decode cX6_holdBack 7 = .ok (.if_icmp .ge 40, 3) := by decide +kernel
theorem dX6_holdBack_47 : decode cX6_holdBack 47 = .ok (.return_, 1) := by decide +kernel
theorem dX6_isOnWay_0 : decode cX6_isOnWay 0 = .ok (.iload_n 1, 1) := by decide +kernel
theorem dX6_isOnWay_1 : decode cX6_isOnWay 1 = .ok (.ifCond .lt 31, 3) := by decide +kernel
theorem dX6_isOnWay_4 : decode cX6_isOnWay 4 = .ok (.iload_n 1, 1) := by decide +kernel
theorem dX6_isOnWay_5 : decode cX6_isOnWay 5 = .ok (.aload_n 0, 1) := by decide +kernel
theorem dX6_isOnWay_6 : decode cX6_isOnWay 6 = .ok (.getfield 30, 3) := by decide +kernel
theorem dX6_isOnWay_9 : decode cX6_isOnWay 9 = .ok (.if_icmp .ge 23, 3) := by decide +kernel
theorem dX6_isOnWay_12 : decode cX6_isOnWay 12 = .ok (.aload_n 0, 1) := by decide +kernel
theorem dX6_isOnWay_13 : decode cX6_isOnWay 13 = .ok (.getfield 40, 3) := by decide +kernel
theorem dX6_isOnWay_16 : decode cX6_isOnWay 16 = .ok (.aload_n 0, 1) := by decide +kernel
theorem dX6_isOnWay_17 : decode cX6_isOnWay 17 = .ok (.getfield 43, 3) := by decide +kernel
theorem dX6_isOnWay_20 : decode cX6_isOnWay 20 = .ok (.ior, 1) := by decide +kernel
theorem dX6_isOnWay_21 : decode cX6_isOnWay 21 = .ok (.iload_n 1, 1) := by decide +kernel
theorem dX6_isOnWay_22 : decode cX6_isOnWay 22 = .ok (.ishr, 1) := by decide +kernel
theorem dX6_isOnWay_23 : decode cX6_isOnWay 23 = .ok (.iconst 1, 1) := by decide +kernel
theorem dX6_isOnWay_24 : decode cX6_isOnWay 24 = .ok (.iand, 1) := by decide +kernel
theorem dX6_isOnWay_25 : decode cX6_isOnWay 25 = .ok (.ifCond .ne 7, 3) := by decide +kernel
theorem dX6_isOnWay_28 : decode cX6_isOnWay 28 = .ok (.iconst 1, 1) := by decide +kernel
theorem dX6_isOnWay_29 : decode cX6_isOnWay 29 = .ok (.goto 4, 3) := by decide +kernel
theorem dX6_isOnWay_32 : decode cX6_isOnWay 32 = .ok (.iconst 0, 1) := by decide +kernel
theorem dX6_isOnWay_33 : decode cX6_isOnWay 33 = .ok (.ireturn, 1) := by decide +kernel
theorem dX6_onWay_0 : decode cX6_onWay 0 = .ok (.iconst 1, 1) := by decide +kernel
theorem dX6_onWay_1 : decode cX6_onWay 1 = .ok (.aload_n 0, 1) := by decide +kernel
theorem dX6_onWay_2 : decode cX6_onWay 2 = .ok (.getfield 30, 3) := by decide +kernel
theorem dX6_onWay_5 : decode cX6_onWay 5 = .ok (.ishl, 1) := by decide +kernel
theorem dX6_onWay_6 : decode cX6_onWay 6 = .ok (.iconst 1, 1) := by decide +kernel
theorem dX6_onWay_7 : decode cX6_onWay 7 = .ok (.isub, 1) := by decide +kernel
theorem dX6_onWay_8 : decode cX6_onWay 8 = .ok (.aload_n 0, 1) := by decide +kernel
theorem dX6_onWay_9 : decode cX6_onWay 9 = .ok (.getfield 40, 3) := by decide +kernel
theorem dX6_onWay_12 : decode cX6_onWay 12 = .ok (.aload_n 0, 1) := by decide +kernel
theorem dX6_onWay_13 : decode cX6_onWay 13 = .ok (.getfield 43, 3) := by decide +kernel
theorem dX6_onWay_16 : decode cX6_onWay 16 = .ok (.ior, 1) := by decide +kernel
theorem dX6_onWay_17 : decode cX6_onWay 17 = .ok (.iconst (-1), 1) := by decide +kernel
theorem dX6_onWay_18 : decode cX6_onWay 18 = .ok (.ixor, 1) := by decide +kernel
theorem dX6_onWay_19 : decode cX6_onWay 19 = .ok (.iand, 1) := by decide +kernel
theorem dX6_onWay_20 : decode cX6_onWay 20 = .ok (.ireturn, 1) := by decide +kernel
theorem dX6_spotOf_0 : decode cX6_spotOf 0 = .ok (.iload_n 1, 1) := by decide +kernel
theorem dX6_spotOf_1 : decode cX6_spotOf 1 = .ok (.ifCond .lt 18, 3) := by decide +kernel
theorem dX6_spotOf_4 : decode cX6_spotOf 4 = .ok (.iload_n 1, 1) := by decide +kernel
theorem dX6_spotOf_5 : decode cX6_spotOf 5 = .ok (.bipush 6, 2) := by decide +kernel
theorem dX6_spotOf_7 : decode cX6_spotOf 7 = .ok (.if_icmp .ge 12, 3) := by decide +kernel
theorem dX6_spotOf_10 : decode cX6_spotOf 10 = .ok (.aload_n 0, 1) := by decide +kernel
theorem dX6_spotOf_11 : decode cX6_spotOf 11 = .ok (.getfield 9, 3) := by decide +kernel
theorem dX6_spotOf_14 : decode cX6_spotOf 14 = .ok (.iload_n 1, 1) := by decide +kernel
theorem dX6_spotOf_15 : decode cX6_spotOf 15 = .ok (.iaload, 1) := by decide +kernel
theorem dX6_spotOf_16 : decode cX6_spotOf 16 = .ok (.goto 4, 3) := by decide +kernel
theorem dX6_spotOf_20 : decode cX6_spotOf 20 = .ok (.ireturn, 1) := by decide +kernel
theorem dX7_addFour_0 : decode cX7_addFour 0 = .ok (.aload_n 0, 1) := by decide +kernel
theorem dX7_addFour_1 : decode cX7_addFour 1 = .ok (.getfield 15, 3) := by decide +kernel
theorem dX7_addFour_4 : decode cX7_addFour 4 = .ok (.ifCond .lt 12, 3) := by decide +kernel
theorem dX7_addFour_7 : decode cX7_addFour 7 = .ok (.aload_n 0, 1) := by decide +kernel
theorem dX7_addFour_8 : decode cX7_addFour 8 = .ok (.getfield 15, 3) := by decide +kernel
theorem dX7_addFour_11 : decode cX7_addFour 11 = .ok (.bipush 76, 2) := by decide +kernel
theorem dX7_addFour_13 : decode cX7_addFour 13 = .ok (.if_icmp .le 5, 3) := by decide +kernel
theorem dX7_addFour_18 : decode cX7_addFour 18 = .ok (.aload_n 0, 1) := by decide +kernel
theorem dX7_addFour_19 : decode cX7_addFour 19 = .ok (.getfield 11, 3) := by decide +kernel
theorem dX7_addFour_22 : decode cX7_addFour 22 = .ok (.aload_n 0, 1) := by decide +kernel
theorem dX7_addFour_23 : decode cX7_addFour 23 = .ok (.getfield 15, 3) := by decide +kernel
theorem dX7_addFour_26 : decode cX7_addFour 26 = .ok (.iload_n 1, 1) := by decide +kernel
theorem dX7_addFour_27 : decode cX7_addFour 27 = .ok (.bipush 24, 2) := by decide +kernel
theorem dX7_addFour_29 : decode cX7_addFour 29 = .ok (.iushr, 1) := by decide +kernel
theorem dX7_addFour_30 : decode cX7_addFour 30 = .ok (.sipush 255, 3) := by decide +kernel
theorem dX7_addFour_33 : decode cX7_addFour 33 = .ok (.iand, 1) := by decide +kernel
theorem dX7_addFour_34 : decode cX7_addFour 34 = .ok (.iastore, 1) := by decide +kernel
theorem dX7_addFour_35 : decode cX7_addFour 35 = .ok (.aload_n 0, 1) := by decide +kernel
theorem dX7_addFour_36 : decode cX7_addFour 36 = .ok (.getfield 11, 3) := by decide +kernel
theorem dX7_addFour_39 : decode cX7_addFour 39 = .ok (.aload_n 0, 1) := by decide +kernel
theorem dX7_addFour_40 : decode cX7_addFour 40 = .ok (.getfield 15, 3) := by decide +kernel
theorem dX7_addFour_43 : decode cX7_addFour 43 = .ok (.iconst 1, 1) := by decide +kernel
theorem dX7_addFour_44 : decode cX7_addFour 44 = .ok (.iadd, 1) := by decide +kernel
theorem dX7_addFour_45 : decode cX7_addFour 45 = .ok (.iload_n 1, 1) := by decide +kernel
theorem dX7_addFour_46 : decode cX7_addFour 46 = .ok (.bipush 16, 2) := by decide +kernel
theorem dX7_addFour_48 : decode cX7_addFour 48 = .ok (.iushr, 1) := by decide +kernel
theorem dX7_addFour_49 : decode cX7_addFour 49 = .ok (.sipush 255, 3) := by decide +kernel
theorem dX7_addFour_52 : decode cX7_addFour 52 = .ok (.iand, 1) := by decide +kernel
theorem dX7_addFour_53 : decode cX7_addFour 53 = .ok (.iastore, 1) := by decide +kernel
theorem dX7_addFour_54 : decode cX7_addFour 54 = .ok (.aload_n 0, 1) := by decide +kernel
theorem dX7_addFour_55 : decode cX7_addFour 55 = .ok (.getfield 11, 3) := by decide +kernel
theorem dX7_addFour_58 : decode cX7_addFour 58 = .ok (.aload_n 0, 1) := by decide +kernel
theorem dX7_addFour_59 : decode cX7_addFour 59 = .ok (.getfield 15, 3) := by decide +kernel
theorem dX7_addFour_62 : decode cX7_addFour 62 = .ok (.iconst 2, 1) := by decide +kernel
theorem dX7_addFour_63 : decode cX7_addFour 63 = .ok (.iadd, 1) := by decide +kernel
theorem dX7_addFour_64 : decode cX7_addFour 64 = .ok (.iload_n 1, 1) := by decide +kernel
theorem dX7_addFour_65 : decode cX7_addFour 65 = .ok (.bipush 8, 2) := by decide +kernel
theorem dX7_addFour_67 : decode cX7_addFour 67 = .ok (.iushr, 1) := by decide +kernel
theorem dX7_addFour_68 : decode cX7_addFour 68 = .ok (.sipush 255, 3) := by decide +kernel
theorem dX7_addFour_71 : decode cX7_addFour 71 = .ok (.iand, 1) := by decide +kernel
theorem dX7_addFour_72 : decode cX7_addFour 72 = .ok (.iastore, 1) := by decide +kernel
theorem dX7_addFour_73 : decode cX7_addFour 73 = .ok (.aload_n 0, 1) := by decide +kernel
theorem dX7_addFour_74 : decode cX7_addFour 74 = .ok (.getfield 11, 3) := by decide +kernel
theorem dX7_addFour_77 : decode cX7_addFour 77 = .ok (.aload_n 0, 1) := by decide +kernel
theorem dX7_addFour_78 : decode cX7_addFour 78 = .ok (.getfield 15, 3) := by decide +kernel
theorem dX7_addFour_81 : decode cX7_addFour 81 = .ok (.iconst 3, 1) := by decide +kernel
theorem dX7_addFour_82 : decode cX7_addFour 82 = .ok (.iadd, 1) := by decide +kernel
theorem dX7_addFour_83 : decode cX7_addFour 83 = .ok (.iload_n 1, 1) := by decide +kernel
theorem dX7_addFour_84 : decode cX7_addFour 84 = .ok (.sipush 255, 3) := by decide +kernel
theorem dX7_addFour_87 : decode cX7_addFour 87 = .ok (.iand, 1) := by decide +kernel
theorem dX7_addFour_88 : decode cX7_addFour 88 = .ok (.iastore, 1) := by decide +kernel
theorem dX7_addFour_89 : decode cX7_addFour 89 = .ok (.aload_n 0, 1) := by decide +kernel
theorem dX7_addFour_90 : decode cX7_addFour 90 = .ok (.dup, 1) := by decide +kernel
theorem dX7_addFour_91 : decode cX7_addFour 91 = .ok (.getfield 15, 3) := by decide +kernel
theorem dX7_addFour_94 : decode cX7_addFour 94 = .ok (.iconst 4, 1) := by decide +kernel
theorem dX7_addFour_95 : decode cX7_addFour 95 = .ok (.iadd, 1) := by decide +kernel
theorem dX7_addFour_96 : decode cX7_addFour 96 = .ok (.putfield 15, 3) := by decide +kernel
theorem dX7_addFour_99 : decode cX7_addFour 99 = .ok (.iconst 1, 1) := by decide +kernel
theorem dX7_addFour_100 : decode cX7_addFour 100 = .ok (.ireturn, 1) := by decide +kernel
theorem dX7_cut_0 : decode cX7_cut 0 = .ok (.iload_n 1, 1) := by decide +kernel
theorem dX7_cut_1 : decode cX7_cut 1 = .ok (.ifCond .lt 11, 3) := by decide +kernel
theorem dX7_cut_4 : decode cX7_cut 4 = .ok (.iload_n 1, 1) := by decide +kernel
theorem dX7_cut_5 : decode cX7_cut 5 = .ok (.aload_n 0, 1) := by decide +kernel
theorem dX7_cut_6 : decode cX7_cut 6 = .ok (.getfield 15, 3) := by decide +kernel
theorem dX7_cut_9 : decode cX7_cut 9 = .ok (.if_icmp .le 5, 3) := by decide +kernel
theorem dX7_cut_12 : decode cX7_cut 12 = .ok (.iconst 0, 1) := by decide +kernel
theorem dX7_cut_13 : decode cX7_cut 13 = .ok (.ireturn, 1) := by decide +kernel
theorem dX7_cut_14 : decode cX7_cut 14 = .ok (.aload_n 0, 1) := by decide +kernel
theorem dX7_cut_15 : decode cX7_cut 15 = .ok (.iload_n 1, 1) := by decide +kernel
theorem dX7_cut_16 : decode cX7_cut 16 = .ok (.putfield 15, 3) := by decide +kernel
theorem dX7_cut_19 : decode cX7_cut 19 = .ok (.iconst 1, 1) := by decide +kernel
theorem dX7_cut_20 : decode cX7_cut 20 = .ok (.ireturn, 1) := by decide +kernel
theorem dX7_isOver_0 : decode cX7_isOver 0 = .ok (.iload_n 1, 1) := by decide +kernel
theorem dX7_isOver_1 : decode cX7_isOver 1 = .ok (.aload_n 0, 1) := by decide +kernel
theorem dX7_isOver_2 : decode cX7_isOver 2 = .ok (.getfield 15, 3) := by decide +kernel
theorem dX7_isOver_5 : decode cX7_isOver 5 = .ok (.if_icmp .lt 7, 3) := by decide +kernel
theorem dX7_isOver_8 : decode cX7_isOver 8 = .ok (.iconst 1, 1) := by decide +kernel
theorem dX7_isOver_9 : decode cX7_isOver 9 = .ok (.goto 4, 3) := by decide +kernel
theorem dX7_isOver_13 : decode cX7_isOver 13 = .ok (.ireturn, 1) := by decide +kernel
theorem dX7_showAtMost_0 : decode cX7_showAtMost 0 = .ok (.aload_n 0, 1) := by decide +kernel
theorem dX7_showAtMost_1 : decode cX7_showAtMost 1 = .ok (.iload_n 1, 1) := by decide +kernel
theorem dX7_showAtMost_2 : decode cX7_showAtMost 2 = .ok (.aload_n 0, 1) := by decide +kernel
theorem dX7_showAtMost_3 : decode cX7_showAtMost 3 = .ok (.getfield 15, 3) := by decide +kernel
theorem dX7_showAtMost_6 : decode cX7_showAtMost 6 = .ok (.invokestatic 19, 3) := by decide +kernel
theorem dX7_showAtMost_9 : decode cX7_showAtMost 9 = .ok (.putfield 25, 3) := by decide +kernel
theorem dX7_showAtMost_12 : decode cX7_showAtMost 12 = .ok (.return_, 1) := by decide +kernel
theorem dX8_clear_0 : decode cX8_clear 0 = .ok (.aload_n 0, 1) := by decide +kernel
theorem dX8_clear_1 : decode cX8_clear 1 = .ok (.iconst 0, 1) := by decide +kernel
theorem dX8_clear_2 : decode cX8_clear 2 = .ok (.putfield 31, 3) := by decide +kernel
theorem dX8_clear_5 : decode cX8_clear 5 = .ok (.aload_n 0, 1) := by decide +kernel
theorem dX8_clear_6 : decode cX8_clear 6 = .ok (.iconst 0, 1) := by decide +kernel
theorem dX8_clear_7 : decode cX8_clear 7 = .ok (.putfield 34, 3) := by decide +kernel
theorem dX8_clear_10 : decode cX8_clear 10 = .ok (.aload_n 0, 1) := by decide +kernel
theorem dX8_clear_11 : decode cX8_clear 11 = .ok (.iconst 0, 1) := by decide +kernel
theorem dX8_clear_12 : decode cX8_clear 12 = .ok (.putfield 37, 3) := by decide +kernel
theorem dX8_clear_15 : decode cX8_clear 15 = .ok (.aload_n 0, 1) := by decide +kernel
theorem dX8_clear_16 : decode cX8_clear 16 = .ok (.iconst 1, 1) := by decide +kernel
theorem dX8_clear_17 : decode cX8_clear 17 = .ok (.putfield 27, 3) := by decide +kernel
theorem dX8_clear_20 : decode cX8_clear 20 = .ok (.iconst 0, 1) := by decide +kernel
theorem dX8_clear_21 : decode cX8_clear 21 = .ok (.istore_n 1, 1) := by decide +kernel
theorem dX8_clear_22 : decode cX8_clear 22 = .ok (.iload_n 1, 1) := by decide +kernel
theorem dX8_clear_23 : decode cX8_clear 23 = .ok (.bipush 12, 2) := by decide +kernel
theorem dX8_clear_25 : decode cX8_clear 25 = .ok (.if_icmp .ge 16, 3) := by decide +kernel
theorem dX8_clear_28 : decode cX8_clear 28 = .ok (.aload_n 0, 1) := by decide +kernel
theorem dX8_clear_29 : decode cX8_clear 29 = .ok (.getfield 24, 3) := by decide +kernel
theorem dX8_clear_32 : decode cX8_clear 32 = .ok (.iload_n 1, 1) := by decide +kernel
theorem dX8_clear_33 : decode cX8_clear 33 = .ok (.iconst (-1), 1) := by decide +kernel
theorem dX8_clear_34 : decode cX8_clear 34 = .ok (.iastore, 1) := by decide +kernel
theorem dX8_clear_35 : decode cX8_clear 35 = .ok (.iinc 1 1, 3) := by decide +kernel
theorem dX8_clear_38 : decode cX8_clear 38 = .ok (.goto (-16), 3) := by decide +kernel
theorem dX8_clear_41 : decode cX8_clear 41 = .ok (.return_, 1) := by decide +kernel
theorem dX8_copy_0 : decode cX8_copy 0 = .ok (.aload_n 0, 1) := by decide +kernel
theorem dX8_copy_1 : decode cX8_copy 1 = .ok (.aload_n 1, 1) := by decide +kernel
theorem dX8_copy_2 : decode cX8_copy 2 = .ok (.getfield 31, 3) := by decide +kernel
theorem dX8_copy_5 : decode cX8_copy 5 = .ok (.putfield 31, 3) := by decide +kernel
theorem dX8_copy_8 : decode cX8_copy 8 = .ok (.aload_n 0, 1) := by decide +kernel
theorem dX8_copy_9 : decode cX8_copy 9 = .ok (.aload_n 1, 1) := by decide +kernel
theorem dX8_copy_10 : decode cX8_copy 10 = .ok (.getfield 34, 3) := by decide +kernel
theorem dX8_copy_13 : decode cX8_copy 13 = .ok (.putfield 34, 3) := by decide +kernel
theorem dX8_copy_16 : decode cX8_copy 16 = .ok (.aload_n 0, 1) := by decide +kernel
theorem dX8_copy_17 : decode cX8_copy 17 = .ok (.aload_n 1, 1) := by decide +kernel
theorem dX8_copy_18 : decode cX8_copy 18 = .ok (.getfield 37, 3) := by decide +kernel
theorem dX8_copy_21 : decode cX8_copy 21 = .ok (.putfield 37, 3) := by decide +kernel
theorem dX8_copy_24 : decode cX8_copy 24 = .ok (.aload_n 0, 1) := by decide +kernel
theorem dX8_copy_25 : decode cX8_copy 25 = .ok (.aload_n 1, 1) := by decide +kernel
theorem dX8_copy_26 : decode cX8_copy 26 = .ok (.getfield 27, 3) := by decide +kernel
theorem dX8_copy_29 : decode cX8_copy 29 = .ok (.putfield 27, 3) := by decide +kernel
theorem dX8_copy_32 : decode cX8_copy 32 = .ok (.iconst 0, 1) := by decide +kernel
theorem dX8_copy_33 : decode cX8_copy 33 = .ok (.istore_n 2, 1) := by decide +kernel
theorem dX8_copy_34 : decode cX8_copy 34 = .ok (.iload_n 2, 1) := by decide +kernel
theorem dX8_copy_35 : decode cX8_copy 35 = .ok (.bipush 12, 2) := by decide +kernel
theorem dX8_copy_37 : decode cX8_copy 37 = .ok (.if_icmp .ge 57, 3) := by decide +kernel
theorem dX8_copy_40 : decode cX8_copy 40 = .ok (.aload_n 0, 1) := by decide +kernel
theorem dX8_copy_41 : decode cX8_copy 41 = .ok (.getfield 9, 3) := by decide +kernel
theorem dX8_copy_44 : decode cX8_copy 44 = .ok (.iload_n 2, 1) := by decide +kernel
theorem dX8_copy_45 : decode cX8_copy 45 = .ok (.aload_n 1, 1) := by decide +kernel
theorem dX8_copy_46 : decode cX8_copy 46 = .ok (.getfield 9, 3) := by decide +kernel
theorem dX8_copy_49 : decode cX8_copy 49 = .ok (.iload_n 2, 1) := by decide +kernel
theorem dX8_copy_50 : decode cX8_copy 50 = .ok (.iaload, 1) := by decide +kernel
theorem dX8_copy_51 : decode cX8_copy 51 = .ok (.iastore, 1) := by decide +kernel
theorem dX8_copy_52 : decode cX8_copy 52 = .ok (.aload_n 0, 1) := by decide +kernel
theorem dX8_copy_53 : decode cX8_copy 53 = .ok (.getfield 15, 3) := by decide +kernel
theorem dX8_copy_56 : decode cX8_copy 56 = .ok (.iload_n 2, 1) := by decide +kernel
theorem dX8_copy_57 : decode cX8_copy 57 = .ok (.aload_n 1, 1) := by decide +kernel
theorem dX8_copy_58 : decode cX8_copy 58 = .ok (.getfield 15, 3) := by decide +kernel
theorem dX8_copy_61 : decode cX8_copy 61 = .ok (.iload_n 2, 1) := by decide +kernel
theorem dX8_copy_62 : decode cX8_copy 62 = .ok (.iaload, 1) := by decide +kernel
theorem dX8_copy_63 : decode cX8_copy 63 = .ok (.iastore, 1) := by decide +kernel
theorem dX8_copy_64 : decode cX8_copy 64 = .ok (.aload_n 0, 1) := by decide +kernel
theorem dX8_copy_65 : decode cX8_copy 65 = .ok (.getfield 18, 3) := by decide +kernel
theorem dX8_copy_68 : decode cX8_copy 68 = .ok (.iload_n 2, 1) := by decide +kernel
theorem dX8_copy_69 : decode cX8_copy 69 = .ok (.aload_n 1, 1) := by decide +kernel
theorem dX8_copy_70 : decode cX8_copy 70 = .ok (.getfield 18, 3) := by decide +kernel
theorem dX8_copy_73 : decode cX8_copy 73 = .ok (.iload_n 2, 1) := by decide +kernel
theorem dX8_copy_74 : decode cX8_copy 74 = .ok (.iaload, 1) := by decide +kernel
theorem dX8_copy_75 : decode cX8_copy 75 = .ok (.iastore, 1) := by decide +kernel
theorem dX8_copy_76 : decode cX8_copy 76 = .ok (.aload_n 0, 1) := by decide +kernel
theorem dX8_copy_77 : decode cX8_copy 77 = .ok (.getfield 21, 3) := by decide +kernel
theorem dX8_copy_80 : decode cX8_copy 80 = .ok (.iload_n 2, 1) := by decide +kernel
theorem dX8_copy_81 : decode cX8_copy 81 = .ok (.aload_n 1, 1) := by decide +kernel
theorem dX8_copy_82 : decode cX8_copy 82 = .ok (.getfield 21, 3) := by decide +kernel
theorem dX8_copy_85 : decode cX8_copy 85 = .ok (.iload_n 2, 1) := by decide +kernel
theorem dX8_copy_86 : decode cX8_copy 86 = .ok (.iaload, 1) := by decide +kernel
theorem dX8_copy_87 : decode cX8_copy 87 = .ok (.iastore, 1) := by decide +kernel
theorem dX8_copy_88 : decode cX8_copy 88 = .ok (.iinc 2 1, 3) := by decide +kernel
theorem dX8_copy_91 : decode cX8_copy 91 = .ok (.goto (-57), 3) := by decide +kernel
theorem dX8_copy_94 : decode cX8_copy 94 = .ok (.return_, 1) := by decide +kernel
theorem dX8_has_0 : decode cX8_has 0 = .ok (.iload_n 1, 1) := by decide +kernel
theorem dX8_has_1 : decode cX8_has 1 = .ok (.ifCond .lt 15, 3) := by decide +kernel
theorem dX8_has_4 : decode cX8_has 4 = .ok (.iload_n 1, 1) := by decide +kernel
theorem dX8_has_5 : decode cX8_has 5 = .ok (.aload_n 0, 1) := by decide +kernel
theorem dX8_has_6 : decode cX8_has 6 = .ok (.getfield 31, 3) := by decide +kernel
theorem dX8_has_9 : decode cX8_has 9 = .ok (.if_icmp .ge 7, 3) := by decide +kernel
theorem dX8_has_12 : decode cX8_has 12 = .ok (.iconst 1, 1) := by decide +kernel
theorem dX8_has_13 : decode cX8_has 13 = .ok (.goto 4, 3) := by decide +kernel
theorem dX8_has_16 : decode cX8_has 16 = .ok (.iconst 0, 1) := by decide +kernel
theorem dX8_has_17 : decode cX8_has 17 = .ok (.ireturn, 1) := by decide +kernel
theorem dX8_isFork_0 : decode cX8_isFork 0 = .ok (.iload_n 1, 1) := by decide +kernel
theorem dX8_isFork_1 : decode cX8_isFork 1 = .ok (.ifCond .lt 24, 3) := by decide +kernel
theorem dX8_isFork_4 : decode cX8_isFork 4 = .ok (.iload_n 1, 1) := by decide +kernel
theorem dX8_isFork_5 : decode cX8_isFork 5 = .ok (.bipush 12, 2) := by decide +kernel
theorem dX8_isFork_7 : decode cX8_isFork 7 = .ok (.if_icmp .ge 18, 3) := by decide +kernel
theorem dX8_isFork_10 : decode cX8_isFork 10 = .ok (.aload_n 0, 1) := by decide +kernel
theorem dX8_isFork_11 : decode cX8_isFork 11 = .ok (.getfield 34, 3) := by decide +kernel
theorem dX8_isFork_14 : decode cX8_isFork 14 = .ok (.iload_n 1, 1) := by decide +kernel
theorem dX8_isFork_15 : decode cX8_isFork 15 = .ok (.ishr, 1) := by decide +kernel
theorem dX8_isFork_16 : decode cX8_isFork 16 = .ok (.iconst 1, 1) := by decide +kernel
theorem dX8_isFork_17 : decode cX8_isFork 17 = .ok (.iand, 1) := by decide +kernel
theorem dX8_isFork_18 : decode cX8_isFork 18 = .ok (.ifCond .eq 7, 3) := by decide +kernel
theorem dX8_isFork_25 : decode cX8_isFork 25 = .ok (.iconst 0, 1) := by decide +kernel
theorem dX8_isFork_26 : decode cX8_isFork 26 = .ok (.ireturn, 1) := by decide +kernel
theorem dX8_isKitchen_0 : decode cX8_isKitchen 0 = .ok (.iload_n 1, 1) := by decide +kernel
theorem dX8_isKitchen_1 : decode cX8_isKitchen 1 = .ok (.ifCond .lt 24, 3) := by decide +kernel
theorem dX8_isKitchen_4 : decode cX8_isKitchen 4 = .ok (.iload_n 1, 1) := by decide +kernel
theorem dX8_isKitchen_5 : decode cX8_isKitchen 5 = .ok (.bipush 12, 2) := by decide +kernel
theorem dX8_isKitchen_7 : decode cX8_isKitchen 7 = .ok (.if_icmp .ge 18, 3) := by decide +kernel
theorem dX8_isKitchen_10 : decode cX8_isKitchen 10 = .ok (.aload_n 0, 1) := by decide +kernel
theorem dX8_isKitchen_11 : decode cX8_isKitchen 11 = .ok (.getfield 37, 3) := by decide +kernel
theorem dX8_isKitchen_14 : decode cX8_isKitchen 14 = .ok (.iload_n 1, 1) := by decide +kernel
theorem dX8_isKitchen_15 : decode cX8_isKitchen 15 = .ok (.ishr, 1) := by decide +kernel
theorem dX8_isKitchen_16 : decode cX8_isKitchen 16 = .ok (.iconst 1, 1) := by decide +kernel
theorem dX8_isKitchen_17 : decode cX8_isKitchen 17 = .ok (.iand, 1) := by decide +kernel
theorem dX8_isKitchen_18 : decode cX8_isKitchen 18 = .ok (.ifCond .eq 7, 3) := by decide +kernel
theorem dX8_isKitchen_25 : decode cX8_isKitchen 25 = .ok (.iconst 0, 1) := by decide +kernel
theorem dX8_isKitchen_26 : decode cX8_isKitchen 26 = .ok (.ireturn, 1) := by decide +kernel
theorem dX8_nextSet_0 : decode cX8_nextSet 0 = .ok (.iload_n 1, 1) := by decide +kernel
theorem dX8_nextSet_1 : decode cX8_nextSet 1 = .ok (.aload_n 0, 1) := by decide +kernel
theorem dX8_nextSet_2 : decode cX8_nextSet 2 = .ok (.getfield 34, 3) := by decide +kernel
theorem dX8_nextSet_5 : decode cX8_nextSet 5 = .ok (.isub, 1) := by decide +kernel
theorem dX8_nextSet_6 : decode cX8_nextSet 6 = .ok (.aload_n 0, 1) := by decide +kernel
theorem dX8_nextSet_7 : decode cX8_nextSet 7 = .ok (.getfield 34, 3) := by decide +kernel
theorem dX8_nextSet_10 : decode cX8_nextSet 10 = .ok (.iand, 1) := by decide +kernel
theorem dX8_nextSet_11 : decode cX8_nextSet 11 = .ok (.ireturn, 1) := by decide +kernel
theorem dX8_read_0 : decode cX8_read 0 = .ok (.aload_n 0, 1) := by decide +kernel
theorem dX8_read_1 : decode cX8_read 1 = .ok (.invokevirtual 40, 3) := by decide +kernel
theorem dX8_read_4 : decode cX8_read 4 = .ok (.aload_n 1, 1) := by decide +kernel
theorem dX8_read_5 : decode cX8_read 5 = .ok (.bipush 76, 2) := by decide +kernel
theorem dX8_read_7 : decode cX8_read 7 = .ok (.invokevirtual 43, 3) := by decide +kernel
theorem dX8_read_10 : decode cX8_read 10 = .ok (.aload_n 1, 1) := by decide +kernel
theorem dX8_read_11 : decode cX8_read 11 = .ok (.iconst 0, 1) := by decide +kernel
theorem dX8_read_12 : decode cX8_read 12 = .ok (.invokevirtual 49, 3) := by decide +kernel
theorem dX8_read_15 : decode cX8_read 15 = .ok (.ifCond .eq 5, 3) := by decide +kernel
theorem dX8_read_18 : decode cX8_read 18 = .ok (.iconst 0, 1) := by decide +kernel
theorem dX8_read_19 : decode cX8_read 19 = .ok (.ireturn, 1) := by decide +kernel
theorem dX9_begin_0 : decode cX9_begin 0 = .ok (.aload_n 0, 1) := by decide +kernel
theorem dX9_begin_1 : decode cX9_begin 1 = .ok (.getfield 29, 3) := by decide +kernel
theorem dX9_begin_4 : decode cX9_begin 4 = .ok (.aload_n 0, 1) := by decide +kernel
theorem dX9_begin_5 : decode cX9_begin 5 = .ok (.getfield 25, 3) := by decide +kernel
theorem dX9_begin_8 : decode cX9_begin 8 = .ok (.invokevirtual 63, 3) := by decide +kernel
theorem dX9_begin_11 : decode cX9_begin 11 = .ok (.aload_n 0, 1) := by decide +kernel
theorem dX9_begin_12 : decode cX9_begin 12 = .ok (.getfield 29, 3) := by decide +kernel
theorem dX9_begin_15 : decode cX9_begin 15 = .ok (.iload_n 1, 1) := by decide +kernel
theorem dX9_begin_16 : decode cX9_begin 16 = .ok (.putfield 77, 3) := by decide +kernel
theorem dX9_begin_19 : decode cX9_begin 19 = .ok (.aload_n 0, 1) := by decide +kernel
theorem dX9_begin_20 : decode cX9_begin 20 = .ok (.getfield 36, 3) := by decide +kernel
theorem dX9_begin_23 : decode cX9_begin 23 = .ok (.iconst 0, 1) := by decide +kernel
theorem dX9_begin_24 : decode cX9_begin 24 = .ok (.putfield 80, 3) := by decide +kernel
theorem dX9_begin_27 : decode cX9_begin 27 = .ok (.aload_n 0, 1) := by decide +kernel
theorem dX9_begin_28 : decode cX9_begin 28 = .ok (.getfield 36, 3) := by decide +kernel
theorem dX9_begin_31 : decode cX9_begin 31 = .ok (.iconst 0, 1) := by decide +kernel
theorem dX9_begin_32 : decode cX9_begin 32 = .ok (.putfield 83, 3) := by decide +kernel
theorem dX9_begin_35 : decode cX9_begin 35 = .ok (.return_, 1) := by decide +kernel
theorem dX9_fitAll_0 : decode cX9_fitAll 0 = .ok (.iconst 0, 1) := by decide +kernel
theorem dX9_fitAll_1 : decode cX9_fitAll 1 = .ok (.istore_n 1, 1) := by decide +kernel
theorem dX9_fitAll_2 : decode cX9_fitAll 2 = .ok (.iconst 0, 1) := by decide +kernel
theorem dX9_fitAll_3 : decode cX9_fitAll 3 = .ok (.istore_n 2, 1) := by decide +kernel
theorem dX9_fitAll_4 : decode cX9_fitAll 4 = .ok (.iload_n 2, 1) := by decide +kernel
theorem dX9_fitAll_5 : decode cX9_fitAll 5 = .ok (.aload_n 0, 1) := by decide +kernel
theorem dX9_fitAll_6 : decode cX9_fitAll 6 = .ok (.getfield 32, 3) := by decide +kernel
theorem dX9_fitAll_9 : decode cX9_fitAll 9 = .ok (.getfield 118, 3) := by decide +kernel
theorem dX9_fitAll_12 : decode cX9_fitAll 12 = .ok (.if_icmp .ge 24, 3) := by decide +kernel
theorem dX9_fitAll_15 : decode cX9_fitAll 15 = .ok (.aload_n 0, 1) := by decide +kernel
theorem dX9_fitAll_16 : decode cX9_fitAll 16 = .ok (.iload_n 1, 1) := by decide +kernel
theorem dX9_fitAll_17 : decode cX9_fitAll 17 = .ok (.iconst 1, 1) := by decide +kernel
theorem dX9_fitAll_18 : decode cX9_fitAll 18 = .ok (.invokevirtual 142, 3) := by decide +kernel
theorem dX9_fitAll_21 : decode cX9_fitAll 21 = .ok (.aload_n 0, 1) := by decide +kernel
theorem dX9_fitAll_22 : decode cX9_fitAll 22 = .ok (.getfield 32, 3) := by decide +kernel
theorem dX9_fitAll_25 : decode cX9_fitAll 25 = .ok (.iload_n 1, 1) := by decide +kernel
theorem dX9_fitAll_26 : decode cX9_fitAll 26 = .ok (.invokevirtual 125, 3) := by decide +kernel
theorem dX9_fitAll_29 : decode cX9_fitAll 29 = .ok (.istore_n 1, 1) := by decide +kernel
theorem dX9_fitAll_30 : decode cX9_fitAll 30 = .ok (.iinc 2 1, 3) := by decide +kernel
theorem dX9_fitAll_33 : decode cX9_fitAll 33 = .ok (.goto (-29), 3) := by decide +kernel
theorem dX9_fitAll_36 : decode cX9_fitAll 36 = .ok (.return_, 1) := by decide +kernel
theorem dX9_fits_0 : decode cX9_fits 0 = .ok (.iload_n 1, 1) := by decide +kernel
theorem dX9_fits_1 : decode cX9_fits 1 = .ok (.ifCond .lt 23, 3) := by decide +kernel
theorem dX9_fits_4 : decode cX9_fits 4 = .ok (.iload_n 1, 1) := by decide +kernel
theorem dX9_fits_5 : decode cX9_fits 5 = .ok (.sipush 4096, 3) := by decide +kernel
theorem dX9_fits_8 : decode cX9_fits 8 = .ok (.if_icmp .ge 16, 3) := by decide +kernel
theorem dX9_fits_11 : decode cX9_fits 11 = .ok (.aload_n 0, 1) := by decide +kernel
theorem dX9_fits_12 : decode cX9_fits 12 = .ok (.getfield 15, 3) := by decide +kernel
theorem dX9_fits_15 : decode cX9_fits 15 = .ok (.iload_n 1, 1) := by decide +kernel
theorem dX9_fits_16 : decode cX9_fits 16 = .ok (.baload, 1) := by decide +kernel
theorem dX9_fits_17 : decode cX9_fits 17 = .ok (.ifCond .eq 7, 3) := by decide +kernel
theorem dX9_fits_20 : decode cX9_fits 20 = .ok (.iconst 1, 1) := by decide +kernel
theorem dX9_fits_21 : decode cX9_fits 21 = .ok (.goto 4, 3) := by decide +kernel
theorem dX9_fits_25 : decode cX9_fits 25 = .ok (.ireturn, 1) := by decide +kernel
theorem dX9_forgetSets_0 : decode cX9_forgetSets 0 = .ok (.iconst 0, 1) := by decide +kernel
theorem dX9_forgetSets_1 : decode cX9_forgetSets 1 = .ok (.istore_n 1, 1) := by decide +kernel
theorem dX9_forgetSets_2 : decode cX9_forgetSets 2 = .ok (.iconst 0, 1) := by decide +kernel
theorem dX9_forgetSets_3 : decode cX9_forgetSets 3 = .ok (.istore_n 2, 1) := by decide +kernel
theorem dX9_forgetSets_4 : decode cX9_forgetSets 4 = .ok (.iload_n 2, 1) := by decide +kernel
theorem dX9_forgetSets_5 : decode cX9_forgetSets 5 = .ok (.aload_n 0, 1) := by decide +kernel
theorem dX9_forgetSets_6 : decode cX9_forgetSets 6 = .ok (.getfield 32, 3) := by decide +kernel
theorem dX9_forgetSets_9 : decode cX9_forgetSets 9 = .ok (.getfield 118, 3) := by decide +kernel
theorem dX9_forgetSets_12 : decode cX9_forgetSets 12 = .ok (.if_icmp .ge 25, 3) := by decide +kernel
theorem dX9_forgetSets_15 : decode cX9_forgetSets 15 = .ok (.aload_n 0, 1) := by decide +kernel
theorem dX9_forgetSets_16 : decode cX9_forgetSets 16 = .ok (.iload_n 1, 1) := by decide +kernel
theorem dX9_forgetSets_17 : decode cX9_forgetSets 17 = .ok (.bipush (-2), 2) := by decide +kernel
theorem dX9_forgetSets_19 : decode cX9_forgetSets 19 = .ok (.invokevirtual 121, 3) := by decide +kernel
theorem dX9_forgetSets_22 : decode cX9_forgetSets 22 = .ok (.aload_n 0, 1) := by decide +kernel
theorem dX9_forgetSets_23 : decode cX9_forgetSets 23 = .ok (.getfield 32, 3) := by decide +kernel
theorem dX9_forgetSets_26 : decode cX9_forgetSets 26 = .ok (.iload_n 1, 1) := by decide +kernel
theorem dX9_forgetSets_27 : decode cX9_forgetSets 27 = .ok (.invokevirtual 125, 3) := by decide +kernel
theorem dX9_forgetSets_30 : decode cX9_forgetSets 30 = .ok (.istore_n 1, 1) := by decide +kernel
theorem dX9_forgetSets_31 : decode cX9_forgetSets 31 = .ok (.iinc 2 1, 3) := by decide +kernel
theorem dX9_forgetSets_34 : decode cX9_forgetSets 34 = .ok (.goto (-30), 3) := by decide +kernel
theorem dX9_forgetSets_37 : decode cX9_forgetSets 37 = .ok (.return_, 1) := by decide +kernel
theorem dX9_go_0 : decode cX9_go 0 = .ok (.aload_n 0, 1) := by decide +kernel
theorem dX9_go_1 : decode cX9_go 1 = .ok (.iload_n 1, 1) := by decide +kernel
theorem dX9_go_2 : decode cX9_go 2 = .ok (.invokevirtual 86, 3) := by decide +kernel
theorem dX9_go_5 : decode cX9_go 5 = .ok (.iconst 0, 1) := by decide +kernel
theorem dX9_go_6 : decode cX9_go 6 = .ok (.istore_n 2, 1) := by decide +kernel
theorem dX9_go_7 : decode cX9_go 7 = .ok (.iload_n 2, 1) := by decide +kernel
theorem dX9_go_8 : decode cX9_go 8 = .ok (.sipush 300, 3) := by decide +kernel
theorem dX9_go_11 : decode cX9_go 11 = .ok (.if_icmp .gt 92, 3) := by decide +kernel
theorem dX9_go_14 : decode cX9_go 14 = .ok (.aload_n 0, 1) := by decide +kernel
theorem dX9_go_15 : decode cX9_go 15 = .ok (.getfield 29, 3) := by decide +kernel
theorem dX9_go_18 : decode cX9_go 18 = .ok (.getfield 89, 3) := by decide +kernel
theorem dX9_go_21 : decode cX9_go 21 = .ok (.aload_n 0, 1) := by decide +kernel
theorem dX9_go_22 : decode cX9_go 22 = .ok (.getfield 36, 3) := by decide +kernel
theorem dX9_go_25 : decode cX9_go 25 = .ok (.getfield 83, 3) := by decide +kernel
theorem dX9_go_28 : decode cX9_go 28 = .ok (.ior, 1) := by decide +kernel
theorem dX9_go_29 : decode cX9_go 29 = .ok (.aload_n 0, 1) := by decide +kernel
theorem dX9_go_30 : decode cX9_go 30 = .ok (.getfield 57, 3) := by decide +kernel
theorem dX9_go_33 : decode cX9_go 33 = .ok (.iand, 1) := by decide +kernel
theorem dX9_go_34 : decode cX9_go 34 = .ok (.ifCond .eq 5, 3) := by decide +kernel
theorem dX9_go_39 : decode cX9_go 39 = .ok (.aload_n 0, 1) := by decide +kernel
theorem dX9_go_40 : decode cX9_go 40 = .ok (.getfield 29, 3) := by decide +kernel
theorem dX9_go_43 : decode cX9_go 43 = .ok (.getfield 92, 3) := by decide +kernel
theorem dX9_go_46 : decode cX9_go 46 = .ok (.aload_n 0, 1) := by decide +kernel
theorem dX9_go_47 : decode cX9_go 47 = .ok (.getfield 57, 3) := by decide +kernel
theorem dX9_go_50 : decode cX9_go 50 = .ok (.iand, 1) := by decide +kernel
theorem dX9_go_51 : decode cX9_go 51 = .ok (.aload_n 0, 1) := by decide +kernel
theorem dX9_go_52 : decode cX9_go 52 = .ok (.getfield 57, 3) := by decide +kernel
theorem dX9_go_55 : decode cX9_go 55 = .ok (.if_icmp .ne 24, 3) := by decide +kernel
theorem dX9_go_58 : decode cX9_go 58 = .ok (.iload_n 2, 1) := by decide +kernel
theorem dX9_go_59 : decode cX9_go 59 = .ok (.bipush 16, 2) := by decide +kernel
theorem dX9_go_61 : decode cX9_go 61 = .ok (.imul, 1) := by decide +kernel
theorem dX9_go_62 : decode cX9_go 62 = .ok (.iconst 0, 1) := by decide +kernel
theorem dX9_go_63 : decode cX9_go 63 = .ok (.aload_n 0, 1) := by decide +kernel
theorem dX9_go_64 : decode cX9_go 64 = .ok (.getfield 29, 3) := by decide +kernel
theorem dX9_go_67 : decode cX9_go 67 = .ok (.aload_n 0, 1) := by decide +kernel
theorem dX9_go_68 : decode cX9_go 68 = .ok (.getfield 60, 3) := by decide +kernel
theorem dX9_go_71 : decode cX9_go 71 = .ok (.invokevirtual 95, 3) := by decide +kernel
theorem dX9_go_74 : decode cX9_go 74 = .ok (.invokestatic 99, 3) := by decide +kernel
theorem dX9_go_77 : decode cX9_go 77 = .ok (.iadd, 1) := by decide +kernel
theorem dX9_go_78 : decode cX9_go 78 = .ok (.ireturn, 1) := by decide +kernel
theorem dX9_goOn_0 : decode cX9_goOn 0 = .ok (.aload_n 0, 1) := by decide +kernel
theorem dX9_goOn_1 : decode cX9_goOn 1 = .ok (.getfield 29, 3) := by decide +kernel
theorem dX9_goOn_4 : decode cX9_goOn 4 = .ok (.aload_n 1, 1) := by decide +kernel
theorem dX9_goOn_5 : decode cX9_goOn 5 = .ok (.invokevirtual 63, 3) := by decide +kernel
theorem dX9_goOn_8 : decode cX9_goOn 8 = .ok (.iconst 0, 1) := by decide +kernel
theorem dX9_goOn_9 : decode cX9_goOn 9 = .ok (.istore_n 3, 1) := by decide +kernel
theorem dX9_goOn_10 : decode cX9_goOn 10 = .ok (.iload_n 3, 1) := by decide +kernel
theorem dX9_goOn_11 : decode cX9_goOn 11 = .ok (.iload_n 2, 1) := by decide +kernel
theorem dX9_goOn_12 : decode cX9_goOn 12 = .ok (.if_icmp .ge 30, 3) := by decide +kernel
theorem dX9_goOn_15 : decode cX9_goOn 15 = .ok (.aload_n 0, 1) := by decide +kernel
theorem dX9_goOn_16 : decode cX9_goOn 16 = .ok (.getfield 29, 3) := by decide +kernel
theorem dX9_goOn_19 : decode cX9_goOn 19 = .ok (.invokevirtual 108, 3) := by decide +kernel
theorem dX9_goOn_22 : decode cX9_goOn 22 = .ok (.ifCond .eq 20, 3) := by decide +kernel
theorem dX9_goOn_42 : decode cX9_goOn 42 = .ok (.return_, 1) := by decide +kernel
theorem dX9_outcome_0 : decode cX9_outcome 0 = .ok (.iload_n 1, 1) := by decide +kernel
theorem dX9_outcome_1 : decode cX9_outcome 1 = .ok (.ifCond .lt 10, 3) := by decide +kernel
theorem dX9_outcome_4 : decode cX9_outcome 4 = .ok (.iload_n 1, 1) := by decide +kernel
theorem dX9_outcome_5 : decode cX9_outcome 5 = .ok (.sipush 4096, 3) := by decide +kernel
theorem dX9_outcome_8 : decode cX9_outcome 8 = .ok (.if_icmp .lt 5, 3) := by decide +kernel
theorem dX9_outcome_13 : decode cX9_outcome 13 = .ok (.aload_n 0, 1) := by decide +kernel
theorem dX9_outcome_14 : decode cX9_outcome 14 = .ok (.getfield 9, 3) := by decide +kernel
theorem dX9_outcome_17 : decode cX9_outcome 17 = .ok (.iload_n 1, 1) := by decide +kernel
theorem dX9_outcome_18 : decode cX9_outcome 18 = .ok (.iaload, 1) := by decide +kernel
theorem dX9_outcome_19 : decode cX9_outcome 19 = .ok (.bipush (-2), 2) := by decide +kernel
theorem dX9_outcome_21 : decode cX9_outcome 21 = .ok (.if_icmp .ne 13, 3) := by decide +kernel
theorem dX9_outcome_24 : decode cX9_outcome 24 = .ok (.aload_n 0, 1) := by decide +kernel
theorem dX9_outcome_25 : decode cX9_outcome 25 = .ok (.iload_n 1, 1) := by decide +kernel
theorem dX9_outcome_26 : decode cX9_outcome 26 = .ok (.aload_n 0, 1) := by decide +kernel
theorem dX9_outcome_27 : decode cX9_outcome 27 = .ok (.iload_n 1, 1) := by decide +kernel
theorem dX9_outcome_28 : decode cX9_outcome 28 = .ok (.invokevirtual 128, 3) := by decide +kernel
theorem dX9_outcome_31 : decode cX9_outcome 31 = .ok (.invokevirtual 131, 3) := by decide +kernel
theorem dX9_outcome_34 : decode cX9_outcome 34 = .ok (.aload_n 0, 1) := by decide +kernel
theorem dX9_outcome_35 : decode cX9_outcome 35 = .ok (.getfield 9, 3) := by decide +kernel
theorem dX9_outcome_38 : decode cX9_outcome 38 = .ok (.iload_n 1, 1) := by decide +kernel
theorem dX9_outcome_39 : decode cX9_outcome 39 = .ok (.iaload, 1) := by decide +kernel
theorem dX9_outcome_40 : decode cX9_outcome 40 = .ok (.ireturn, 1) := by decide +kernel
theorem dX9_remember_0 : decode cX9_remember 0 = .ok (.iload_n 1, 1) := by decide +kernel
theorem dX9_remember_1 : decode cX9_remember 1 = .ok (.ifCond .lt 17, 3) := by decide +kernel
theorem dX9_remember_4 : decode cX9_remember 4 = .ok (.iload_n 1, 1) := by decide +kernel
theorem dX9_remember_5 : decode cX9_remember 5 = .ok (.sipush 4096, 3) := by decide +kernel
theorem dX9_remember_8 : decode cX9_remember 8 = .ok (.if_icmp .ge 10, 3) := by decide +kernel
theorem dX9_remember_11 : decode cX9_remember 11 = .ok (.aload_n 0, 1) := by decide +kernel
theorem dX9_remember_12 : decode cX9_remember 12 = .ok (.getfield 9, 3) := by decide +kernel
theorem dX9_remember_15 : decode cX9_remember 15 = .ok (.iload_n 1, 1) := by decide +kernel
theorem dX9_remember_16 : decode cX9_remember 16 = .ok (.iload_n 2, 1) := by decide +kernel
theorem dX9_remember_17 : decode cX9_remember 17 = .ok (.iastore, 1) := by decide +kernel
theorem dX9_remember_18 : decode cX9_remember 18 = .ok (.return_, 1) := by decide +kernel
theorem dX9_setFitting_0 : decode cX9_setFitting 0 = .ok (.iload_n 1, 1) := by decide +kernel
theorem dX9_setFitting_1 : decode cX9_setFitting 1 = .ok (.ifCond .lt 17, 3) := by decide +kernel
theorem dX9_setFitting_4 : decode cX9_setFitting 4 = .ok (.iload_n 1, 1) := by decide +kernel
theorem dX9_setFitting_5 : decode cX9_setFitting 5 = .ok (.sipush 4096, 3) := by decide +kernel
theorem dX9_setFitting_8 : decode cX9_setFitting 8 = .ok (.if_icmp .ge 10, 3) := by decide +kernel
theorem dX9_setFitting_11 : decode cX9_setFitting 11 = .ok (.aload_n 0, 1) := by decide +kernel
theorem dX9_setFitting_12 : decode cX9_setFitting 12 = .ok (.getfield 15, 3) := by decide +kernel
theorem dX9_setFitting_15 : decode cX9_setFitting 15 = .ok (.iload_n 1, 1) := by decide +kernel
theorem dX9_setFitting_16 : decode cX9_setFitting 16 = .ok (.iload_n 2, 1) := by decide +kernel
theorem dX9_setFitting_17 : decode cX9_setFitting 17 = .ok (.bastore, 1) := by decide +kernel
theorem dX9_setFitting_18 : decode cX9_setFitting 18 = .ok (.return_, 1) := by decide +kernel
theorem dX9_spread_0 : decode cX9_spread 0 = .ok (.aload_n 0, 1) := by decide +kernel
theorem dX9_spread_1 : decode cX9_spread 1 = .ok (.getfield 32, 3) := by decide +kernel
theorem dX9_spread_4 : decode cX9_spread 4 = .ok (.getfield 134, 3) := by decide +kernel
theorem dX9_spread_7 : decode cX9_spread 7 = .ok (.aload_n 0, 1) := by decide +kernel
theorem dX9_spread_8 : decode cX9_spread 8 = .ok (.getfield 36, 3) := by decide +kernel
theorem dX9_spread_11 : decode cX9_spread 11 = .ok (.getfield 80, 3) := by decide +kernel
theorem dX9_spread_14 : decode cX9_spread 14 = .ok (.iconst (-1), 1) := by decide +kernel
theorem dX9_spread_15 : decode cX9_spread 15 = .ok (.ixor, 1) := by decide +kernel
theorem dX9_spread_16 : decode cX9_spread 16 = .ok (.iand, 1) := by decide +kernel
theorem dX9_spread_17 : decode cX9_spread 17 = .ok (.istore_n 3, 1) := by decide +kernel
theorem dX9_spread_18 : decode cX9_spread 18 = .ok (.iconst 1, 1) := by decide +kernel
theorem dX9_spread_19 : decode cX9_spread 19 = .ok (.iload_n 3, 1) := by decide +kernel
theorem dX9_spread_20 : decode cX9_spread 20 = .ok (.invokestatic 137, 3) := by decide +kernel
theorem dX9_spread_23 : decode cX9_spread 23 = .ok (.ishl, 1) := by decide +kernel
theorem dX9_spread_24 : decode cX9_spread 24 = .ok (.istore 4, 2) := by decide +kernel
theorem dX9_spread_26 : decode cX9_spread 26 = .ok (.iconst 0, 1) := by decide +kernel
theorem dX9_spread_27 : decode cX9_spread 27 = .ok (.istore 5, 2) := by decide +kernel
theorem dX9_spread_29 : decode cX9_spread 29 = .ok (.iconst 0, 1) := by decide +kernel
theorem dX9_spread_30 : decode cX9_spread 30 = .ok (.istore 6, 2) := by decide +kernel
theorem dX9_spread_32 : decode cX9_spread 32 = .ok (.iload 6, 2) := by decide +kernel
theorem dX9_spread_34 : decode cX9_spread 34 = .ok (.iload 4, 2) := by decide +kernel
theorem dX9_spread_36 : decode cX9_spread 36 = .ok (.if_icmp .ge 30, 3) := by decide +kernel
theorem dX9_spread_39 : decode cX9_spread 39 = .ok (.aload_n 0, 1) := by decide +kernel
theorem dX9_spread_40 : decode cX9_spread 40 = .ok (.iload_n 1, 1) := by decide +kernel
theorem dX9_spread_41 : decode cX9_spread 41 = .ok (.iload_n 3, 1) := by decide +kernel
theorem dX9_spread_42 : decode cX9_spread 42 = .ok (.iconst (-1), 1) := by decide +kernel
theorem dX9_spread_43 : decode cX9_spread 43 = .ok (.ixor, 1) := by decide +kernel
theorem dX9_spread_44 : decode cX9_spread 44 = .ok (.iand, 1) := by decide +kernel
theorem dX9_spread_45 : decode cX9_spread 45 = .ok (.iload 5, 2) := by decide +kernel
theorem dX9_spread_47 : decode cX9_spread 47 = .ok (.ior, 1) := by decide +kernel
theorem dX9_spread_48 : decode cX9_spread 48 = .ok (.iload_n 2, 1) := by decide +kernel
theorem dX9_spread_49 : decode cX9_spread 49 = .ok (.invokevirtual 121, 3) := by decide +kernel
theorem dX9_spread_52 : decode cX9_spread 52 = .ok (.iload 5, 2) := by decide +kernel
theorem dX9_spread_54 : decode cX9_spread 54 = .ok (.iload_n 3, 1) := by decide +kernel
theorem dX9_spread_55 : decode cX9_spread 55 = .ok (.isub, 1) := by decide +kernel
theorem dX9_spread_56 : decode cX9_spread 56 = .ok (.iload_n 3, 1) := by decide +kernel
theorem dX9_spread_57 : decode cX9_spread 57 = .ok (.iand, 1) := by decide +kernel
theorem dX9_spread_58 : decode cX9_spread 58 = .ok (.istore 5, 2) := by decide +kernel
theorem dX9_spread_60 : decode cX9_spread 60 = .ok (.iinc 6 1, 3) := by decide +kernel
theorem dX9_spread_63 : decode cX9_spread 63 = .ok (.goto (-31), 3) := by decide +kernel
theorem dX9_spread_66 : decode cX9_spread 66 = .ok (.return_, 1) := by decide +kernel
theorem dX9_startFrom_0 : decode cX9_startFrom 0 = .ok (.aload_n 0, 1) := by decide +kernel
theorem dX9_startFrom_1 : decode cX9_startFrom 1 = .ok (.getfield 25, 3) := by decide +kernel
theorem dX9_startFrom_4 : decode cX9_startFrom 4 = .ok (.aload_n 1, 1) := by decide +kernel
theorem dX9_startFrom_5 : decode cX9_startFrom 5 = .ok (.invokevirtual 63, 3) := by decide +kernel
theorem dX9_startFrom_8 : decode cX9_startFrom 8 = .ok (.aload_n 0, 1) := by decide +kernel
theorem dX9_startFrom_9 : decode cX9_startFrom 9 = .ok (.iload_n 2, 1) := by decide +kernel
theorem dX9_startFrom_10 : decode cX9_startFrom 10 = .ok (.putfield 57, 3) := by decide +kernel
theorem dX9_startFrom_13 : decode cX9_startFrom 13 = .ok (.aload_n 0, 1) := by decide +kernel
theorem dX9_startFrom_14 : decode cX9_startFrom 14 = .ok (.iload_n 3, 1) := by decide +kernel
theorem dX9_startFrom_15 : decode cX9_startFrom 15 = .ok (.putfield 60, 3) := by decide +kernel
theorem dX9_startFrom_18 : decode cX9_startFrom 18 = .ok (.aload_n 0, 1) := by decide +kernel
theorem dX9_startFrom_19 : decode cX9_startFrom 19 = .ok (.getfield 36, 3) := by decide +kernel
theorem dX9_startFrom_22 : decode cX9_startFrom 22 = .ok (.invokevirtual 67, 3) := by decide +kernel
theorem dX9_startFrom_25 : decode cX9_startFrom 25 = .ok (.ifCond .ne 13, 3) := by decide +kernel
theorem dX9_startFrom_28 : decode cX9_startFrom 28 = .ok (.aload_n 0, 1) := by decide +kernel
theorem dX9_startFrom_29 : decode cX9_startFrom 29 = .ok (.getfield 25, 3) := by decide +kernel
theorem dX9_startFrom_32 : decode cX9_startFrom 32 = .ok (.iload_n 2, 1) := by decide +kernel
theorem dX9_startFrom_33 : decode cX9_startFrom 33 = .ok (.iconst (-1), 1) := by decide +kernel
theorem dX9_startFrom_34 : decode cX9_startFrom 34 = .ok (.ixor, 1) := by decide +kernel
theorem dX9_startFrom_35 : decode cX9_startFrom 35 = .ok (.invokevirtual 73, 3) := by decide +kernel
theorem dX9_startFrom_38 : decode cX9_startFrom 38 = .ok (.return_, 1) := by decide +kernel
end
section
set_option maxHeartbeats 4000000 in
set_option maxRecDepth 100000 in
theorem c_bitCount0 (l : Launch) {E : gE} (σ : gI) (τ : gJ)   : gx_Mi l yJ6_bitCount_0f7a4 cJ6_bitCount_0f7a4 1 (some .int) 0 gx_tb E (σ) (τ) [.int 0] (fun r σ1 τ1 => r = 0 ∧ σ1 = σ ∧ τ1 = τ) := by
  refine gx_bi (by decide +kernel) (Nat.le_of_ble_eq_true rfl) ?_
  intro P9 e9 s m9 below meth C9 S hr hlk hK hw ls hl
  have S : CallFix P9 m9 C9 cJ6_bitCount_0f7a4 1 s _ gx_G RJ6 := S
  have hx := S.1
  have hb := S.2.1
  have hl : lv_has ls 1 [(0, .int 0)] := hl
  refine lv_iload_n hx hb dJ6_bitCount_0f7a4_0 rfl (lv_at hl 0 rfl) ?_
  refine lv_iload_n hx hb dJ6_bitCount_0f7a4_1 rfl (lv_at hl 0 rfl) ?_
  refine lv_iconst (v := 1) hx hb dJ6_bitCount_0f7a4_2 (by decide) ?_
  refine lv_iushr (v := 0) hx hb dJ6_bitCount_0f7a4_3 (by decide) ?_
  refine lv_ldcw (v := 1431655765) hx hb S.2.2.2.1 (S.2.2.2.2 _ mw_898) dJ6_bitCount_0f7a4_4 ?_
  refine lv_iand hx hb dJ6_bitCount_0f7a4_7 ?_
  refine gx_top (v := 0) (by decide) ?_
  refine lv_isub hx hb dJ6_bitCount_0f7a4_8 ?_
  refine gx_top (v := 0) (by decide) ?_
  refine lv_istore_n (lv' := [(0, .int 0)]) hx hb dJ6_bitCount_0f7a4_9 rfl hl (by decide) rfl (fun ls hl => ?_)
  refine lv_iload_n hx hb dJ6_bitCount_0f7a4_10 rfl (lv_at hl 0 rfl) ?_
  refine lv_ldcw (v := 858993459) hx hb S.2.2.2.1 (S.2.2.2.2 _ mw_899) dJ6_bitCount_0f7a4_11 ?_
  refine lv_iand hx hb dJ6_bitCount_0f7a4_14 ?_
  refine gx_top (v := 0) (by decide) ?_
  refine lv_iload_n hx hb dJ6_bitCount_0f7a4_15 rfl (lv_at hl 0 rfl) ?_
  refine lv_iconst (v := 2) hx hb dJ6_bitCount_0f7a4_16 (by decide) ?_
  refine lv_iushr (v := 0) hx hb dJ6_bitCount_0f7a4_17 (by decide) ?_
  refine lv_ldcw (v := 858993459) hx hb S.2.2.2.1 (S.2.2.2.2 _ mw_899) dJ6_bitCount_0f7a4_18 ?_
  refine lv_iand hx hb dJ6_bitCount_0f7a4_21 ?_
  refine gx_top (v := 0) (by decide) ?_
  refine lv_iadd hx hb dJ6_bitCount_0f7a4_22 ?_
  refine gx_top (v := 0) (by decide) ?_
  refine lv_istore_n (lv' := [(0, .int 0)]) hx hb dJ6_bitCount_0f7a4_23 rfl hl (by decide) rfl (fun ls hl => ?_)
  refine lv_iload_n hx hb dJ6_bitCount_0f7a4_24 rfl (lv_at hl 0 rfl) ?_
  refine lv_iload_n hx hb dJ6_bitCount_0f7a4_25 rfl (lv_at hl 0 rfl) ?_
  refine lv_iconst (v := 4) hx hb dJ6_bitCount_0f7a4_26 (by decide) ?_
  refine lv_iushr (v := 0) hx hb dJ6_bitCount_0f7a4_27 (by decide) ?_
  refine lv_iadd hx hb dJ6_bitCount_0f7a4_28 ?_
  refine gx_top (v := 0) (by decide) ?_
  refine lv_ldcw (v := 252645135) hx hb S.2.2.2.1 (S.2.2.2.2 _ mw_900) dJ6_bitCount_0f7a4_29 ?_
  refine lv_iand hx hb dJ6_bitCount_0f7a4_32 ?_
  refine gx_top (v := 0) (by decide) ?_
  refine lv_istore_n (lv' := [(0, .int 0)]) hx hb dJ6_bitCount_0f7a4_33 rfl hl (by decide) rfl (fun ls hl => ?_)
  refine lv_iload_n hx hb dJ6_bitCount_0f7a4_34 rfl (lv_at hl 0 rfl) ?_
  refine lv_iload_n hx hb dJ6_bitCount_0f7a4_35 rfl (lv_at hl 0 rfl) ?_
  refine lv_bipush (v := 8) hx hb dJ6_bitCount_0f7a4_36 (by decide) ?_
  refine lv_iushr (v := 0) hx hb dJ6_bitCount_0f7a4_38 (by decide) ?_
  refine lv_iadd hx hb dJ6_bitCount_0f7a4_39 ?_
  refine gx_top (v := 0) (by decide) ?_
  refine lv_istore_n (lv' := [(0, .int 0)]) hx hb dJ6_bitCount_0f7a4_40 rfl hl (by decide) rfl (fun ls hl => ?_)
  refine lv_iload_n hx hb dJ6_bitCount_0f7a4_41 rfl (lv_at hl 0 rfl) ?_
  refine lv_iload_n hx hb dJ6_bitCount_0f7a4_42 rfl (lv_at hl 0 rfl) ?_
  refine lv_bipush (v := 16) hx hb dJ6_bitCount_0f7a4_43 (by decide) ?_
  refine lv_iushr (v := 0) hx hb dJ6_bitCount_0f7a4_45 (by decide) ?_
  refine lv_iadd hx hb dJ6_bitCount_0f7a4_46 ?_
  refine gx_top (v := 0) (by decide) ?_
  refine lv_istore_n (lv' := [(0, .int 0)]) hx hb dJ6_bitCount_0f7a4_47 rfl hl (by decide) rfl (fun ls hl => ?_)
  refine lv_iload_n hx hb dJ6_bitCount_0f7a4_48 rfl (lv_at hl 0 rfl) ?_
  refine lv_bipush (v := 63) hx hb dJ6_bitCount_0f7a4_49 (by decide) ?_
  refine lv_iand hx hb dJ6_bitCount_0f7a4_51 ?_
  refine gx_top (v := 0) (by decide) ?_
  exact gx_ri (post := fun r σ1 τ1 => r = 0 ∧ σ1 = σ ∧ τ1 = τ) (v := 0) S hr hlk hw rfl dJ6_bitCount_0f7a4_52 ⟨rfl, rfl, rfl⟩
set_option maxHeartbeats 4000000 in
set_option maxRecDepth 100000 in
theorem c_addFour (l : Launch) {E : gE} (σ : gI) (τ : gJ) (v : Int32) (h_1_2 : σ 1 2 = 0) : gx_Mi l yX7_addFour cX7_addFour 2 (some .boolean) 0 gx_tb E (σ) (τ) [.ref (E.2.2 + 1), .int v] (fun r σ1 τ1 => r = 1 ∧ (∀ c k : Nat, ¬ c = 2 → σ1 c k = (up2 σ 1 2 4) c k) ∧ τ1 = τ) := by
  refine gx_bi (by decide +kernel) (Nat.le_of_ble_eq_true rfl) ?_
  intro P9 e9 s m9 below meth C9 S hr hlk hK hw ls hl
  have S : CallFix P9 m9 C9 cX7_addFour 2 s _ gx_G RX7 := S
  have hx := S.1
  have hb := S.2.1
  have hl : lv_has ls 2 [(0, .ref (E.2.2 + 1)), (1, .int v)] := hl
  refine lv_aload_n hx hb dX7_addFour_0 rfl (lv_at hl 0 rfl) ?_
  refine gx_get S hK hw t_1 cl_8 2 (by decide) rfl mw_131 rfl dX7_addFour_1 ?_
  refine gx_top (v := 0) (by first | rfl | decide | simp [up2, gs0, h_1_2]) ?_
  refine lv_if_lt (tgt := 16) hx hb dX7_addFour_4 (by decide) (fun h => absurd h (by decide)) (fun _ => ?_)
  refine lv_aload_n hx hb dX7_addFour_7 rfl (lv_at hl 0 rfl) ?_
  refine gx_get S hK hw t_1 cl_8 2 (by decide) rfl mw_131 rfl dX7_addFour_8 ?_
  refine gx_top (v := 0) (by first | rfl | decide | simp [up2, gs0, h_1_2]) ?_
  refine lv_bipush (v := 76) hx hb dX7_addFour_11 (by decide) ?_
  refine lv_icmp_le (tgt := 18) hx hb dX7_addFour_13 (by decide) (fun _ => ?_) (fun h => absurd (by decide) h)
  refine lv_aload_n hx hb dX7_addFour_18 rfl (lv_at hl 0 rfl) ?_
  refine gx_getr (j := 2) S hK hw t_1 cl_8 0 (by decide) rfl mw_129 rfl dX7_addFour_19 ?_
  refine lv_aload_n hx hb dX7_addFour_22 rfl (lv_at hl 0 rfl) ?_
  refine gx_get S hK hw t_1 cl_8 2 (by decide) rfl mw_131 rfl dX7_addFour_23 ?_
  refine gx_top (v := 0) (by first | rfl | decide | simp [up2, gs0, h_1_2]) ?_
  refine lv_iload_n hx hb dX7_addFour_26 rfl (lv_at hl 1 rfl) ?_
  refine lv_bipush (v := 24) hx hb dX7_addFour_27 (by decide) ?_
  refine lv_iushr (v := (v.toUInt32 >>> ((24 : Int32).toUInt32 &&& Int32.toUInt32 31)).toInt32) hx hb dX7_addFour_29 rfl ?_
  refine lv_sipush (v := 255) hx hb dX7_addFour_30 (by decide) ?_
  refine lv_iand hx hb dX7_addFour_33 ?_
  refine gx_iast S hK gx_ok hw t_2 0 rfl (gx_in rfl (by decide) (by decide)) dX7_addFour_34 (fun H locs hw => ?_)
  refine lv_aload_n hx hb dX7_addFour_35 rfl (lv_at hl 0 rfl) ?_
  refine gx_getr (j := 2) S hK hw t_1 cl_8 0 (by decide) rfl mw_129 rfl dX7_addFour_36 ?_
  refine lv_aload_n hx hb dX7_addFour_39 rfl (lv_at hl 0 rfl) ?_
  refine gx_get S hK hw t_1 cl_8 2 (by decide) rfl mw_131 rfl dX7_addFour_40 ?_
  refine gx_top (v := 0) (by first | rfl | decide | simp [up2, gs0, h_1_2]) ?_
  refine lv_iconst (v := 1) hx hb dX7_addFour_43 (by decide) ?_
  refine lv_iadd hx hb dX7_addFour_44 ?_
  refine gx_top (v := 1) (by decide) ?_
  refine lv_iload_n hx hb dX7_addFour_45 rfl (lv_at hl 1 rfl) ?_
  refine lv_bipush (v := 16) hx hb dX7_addFour_46 (by decide) ?_
  refine lv_iushr (v := (v.toUInt32 >>> ((16 : Int32).toUInt32 &&& Int32.toUInt32 31)).toInt32) hx hb dX7_addFour_48 rfl ?_
  refine lv_sipush (v := 255) hx hb dX7_addFour_49 (by decide) ?_
  refine lv_iand hx hb dX7_addFour_52 ?_
  refine gx_iast S hK gx_ok hw t_2 1 rfl (gx_in rfl (by decide) (by decide)) dX7_addFour_53 (fun H locs hw => ?_)
  refine lv_aload_n hx hb dX7_addFour_54 rfl (lv_at hl 0 rfl) ?_
  refine gx_getr (j := 2) S hK hw t_1 cl_8 0 (by decide) rfl mw_129 rfl dX7_addFour_55 ?_
  refine lv_aload_n hx hb dX7_addFour_58 rfl (lv_at hl 0 rfl) ?_
  refine gx_get S hK hw t_1 cl_8 2 (by decide) rfl mw_131 rfl dX7_addFour_59 ?_
  refine gx_top (v := 0) (by first | rfl | decide | simp [up2, gs0, h_1_2]) ?_
  refine lv_iconst (v := 2) hx hb dX7_addFour_62 (by decide) ?_
  refine lv_iadd hx hb dX7_addFour_63 ?_
  refine gx_top (v := 2) (by decide) ?_
  refine lv_iload_n hx hb dX7_addFour_64 rfl (lv_at hl 1 rfl) ?_
  refine lv_bipush (v := 8) hx hb dX7_addFour_65 (by decide) ?_
  refine lv_iushr (v := (v.toUInt32 >>> ((8 : Int32).toUInt32 &&& Int32.toUInt32 31)).toInt32) hx hb dX7_addFour_67 rfl ?_
  refine lv_sipush (v := 255) hx hb dX7_addFour_68 (by decide) ?_
  refine lv_iand hx hb dX7_addFour_71 ?_
  refine gx_iast S hK gx_ok hw t_2 2 rfl (gx_in rfl (by decide) (by decide)) dX7_addFour_72 (fun H locs hw => ?_)
  refine lv_aload_n hx hb dX7_addFour_73 rfl (lv_at hl 0 rfl) ?_
  refine gx_getr (j := 2) S hK hw t_1 cl_8 0 (by decide) rfl mw_129 rfl dX7_addFour_74 ?_
  refine lv_aload_n hx hb dX7_addFour_77 rfl (lv_at hl 0 rfl) ?_
  refine gx_get S hK hw t_1 cl_8 2 (by decide) rfl mw_131 rfl dX7_addFour_78 ?_
  refine gx_top (v := 0) (by first | rfl | decide | simp [up2, gs0, h_1_2]) ?_
  refine lv_iconst (v := 3) hx hb dX7_addFour_81 (by decide) ?_
  refine lv_iadd hx hb dX7_addFour_82 ?_
  refine gx_top (v := 3) (by decide) ?_
  refine lv_iload_n hx hb dX7_addFour_83 rfl (lv_at hl 1 rfl) ?_
  refine lv_sipush (v := 255) hx hb dX7_addFour_84 (by decide) ?_
  refine lv_iand hx hb dX7_addFour_87 ?_
  refine gx_iast S hK gx_ok hw t_2 3 rfl (gx_in rfl (by decide) (by decide)) dX7_addFour_88 (fun H locs hw => ?_)
  refine lv_aload_n hx hb dX7_addFour_89 rfl (lv_at hl 0 rfl) ?_
  refine lv_dup hx hb dX7_addFour_90 rfl ?_
  refine gx_get S hK hw t_1 cl_8 2 (by decide) rfl mw_131 rfl dX7_addFour_91 ?_
  refine gx_top (v := 0) (by first | rfl | decide | simp [up2, gs0, h_1_2]) ?_
  refine lv_iconst (v := 4) hx hb dX7_addFour_94 (by decide) ?_
  refine lv_iadd hx hb dX7_addFour_95 ?_
  refine gx_top (v := 4) (by decide) ?_
  refine gx_put S hK gx_ok hw t_1 cl_8 2 (by decide) rfl mw_131 rfl rfl (ty := .int) (v := 4) (by decide +kernel) rfl rfl dX7_addFour_96 (fun H locs hw => ?_)
  refine lv_iconst (v := 1) hx hb dX7_addFour_99 (by decide) ?_
  exact gx_ri (post := fun r σ1 τ1 => r = 1 ∧ (∀ c k : Nat, ¬ c = 2 → σ1 c k = (up2 σ 1 2 4) c k) ∧ τ1 = τ) (v := 1) S hr hlk hw rfl dX7_addFour_100 ⟨rfl, (fun c9 k9 h9_0 => by simp [up2, upJ, h9_0]), rfl⟩
set_option maxHeartbeats 4000000 in
set_option maxRecDepth 100000 in
theorem c_cut (l : Launch) {E : gE} (σ : gI) (τ : gJ) (n : Int32) (h_1_2 : σ 1 2 = 0) : gx_Mi l yX7_cut cX7_cut 2 (some .boolean) 0 gx_tb E (σ) (τ) [.ref (E.2.2 + 1), .int n] (fun r σ1 τ1 => r = (if n.toInt = 0 then 1 else 0) ∧ (∀ c k : Nat, 199 ≤ c → σ1 c k = (σ) c k) ∧ τ1 = τ) := by
  refine gx_bi (by decide +kernel) (Nat.le_of_ble_eq_true rfl) ?_
  intro P9 e9 s m9 below meth C9 S hr hlk hK hw ls hl
  have S : CallFix P9 m9 C9 cX7_cut 2 s _ gx_G RX7 := S
  have hx := S.1
  have hb := S.2.1
  have hl : lv_has ls 2 [(0, .ref (E.2.2 + 1)), (1, .int n)] := hl
  refine lv_iload_n hx hb dX7_cut_0 rfl (lv_at hl 1 rfl) ?_
  refine lv_if_lt (tgt := 12) hx hb dX7_cut_1 (by decide) (fun c_1 => ?_) (fun c_1 => ?_)
  · refine lv_iconst (v := 0) hx hb dX7_cut_12 (by decide) ?_
    exact gx_ri (post := fun r σ1 τ1 => r = (if n.toInt = 0 then 1 else 0) ∧ (∀ c k : Nat, 199 ≤ c → σ1 c k = (σ) c k) ∧ τ1 = τ) (v := 0) S hr hlk hw rfl dX7_cut_13 ⟨(by simp only [fa_lt, fa_le, fa_eq, show (0 : Int32).toInt = 0 from rfl] at c_1; exact ((if_neg (by omega)).trans (rfl)).symm), (fun c9 k9 h9 => rfl), rfl⟩
  · refine lv_iload_n hx hb dX7_cut_4 rfl (lv_at hl 1 rfl) ?_
    refine lv_aload_n hx hb dX7_cut_5 rfl (lv_at hl 0 rfl) ?_
    refine gx_get S hK hw t_1 cl_8 2 (by decide) rfl mw_131 rfl dX7_cut_6 ?_
    refine gx_top (v := 0) (by first | rfl | decide | simp [up2, gs0, h_1_2]) ?_
    refine lv_icmp_le (tgt := 14) hx hb dX7_cut_9 (by decide) (fun c_2 => ?_) (fun c_2 => ?_)
    · refine lv_aload_n hx hb dX7_cut_14 rfl (lv_at hl 0 rfl) ?_
      refine lv_iload_n hx hb dX7_cut_15 rfl (lv_at hl 1 rfl) ?_
      refine gx_put S hK gx_ok hw t_1 cl_8 2 (by decide) rfl mw_131 rfl rfl (ty := .int) (v := n) (by decide +kernel) rfl rfl dX7_cut_16 (fun H locs hw => ?_)
      refine lv_iconst (v := 1) hx hb dX7_cut_19 (by decide) ?_
      exact gx_ri (post := fun r σ1 τ1 => r = (if n.toInt = 0 then 1 else 0) ∧ (∀ c k : Nat, 199 ≤ c → σ1 c k = (σ) c k) ∧ τ1 = τ) (v := 1) S hr hlk hw rfl dX7_cut_20 ⟨(by simp only [fa_lt, fa_le, fa_eq, show (0 : Int32).toInt = 0 from rfl] at c_1 c_2; exact (if_pos (by omega)).symm), (fun c9 k9 h9 => (up2_hi (by omega) h9).trans (rfl)), rfl⟩
    · refine lv_iconst (v := 0) hx hb dX7_cut_12 (by decide) ?_
      exact gx_ri (post := fun r σ1 τ1 => r = (if n.toInt = 0 then 1 else 0) ∧ (∀ c k : Nat, 199 ≤ c → σ1 c k = (σ) c k) ∧ τ1 = τ) (v := 0) S hr hlk hw rfl dX7_cut_13 ⟨(by simp only [fa_lt, fa_le, fa_eq, show (0 : Int32).toInt = 0 from rfl] at c_1 c_2; exact ((if_neg (by omega)).trans (rfl)).symm), (fun c9 k9 h9 => rfl), rfl⟩
set_option maxHeartbeats 4000000 in
set_option maxRecDepth 100000 in
theorem c_cut0 (l : Launch) {E : gE} (σ : gI) (τ : gJ)  (h_1_2 : σ 1 2 = 0) : gx_Mi l yX7_cut cX7_cut 2 (some .boolean) 0 gx_tb E (σ) (τ) [.ref (E.2.2 + 1), .int 0] (fun r σ1 τ1 => r = 1 ∧ σ1 = up2 σ 1 2 0 ∧ τ1 = τ) := by
  refine gx_bi (by decide +kernel) (Nat.le_of_ble_eq_true rfl) ?_
  intro P9 e9 s m9 below meth C9 S hr hlk hK hw ls hl
  have S : CallFix P9 m9 C9 cX7_cut 2 s _ gx_G RX7 := S
  have hx := S.1
  have hb := S.2.1
  have hl : lv_has ls 2 [(0, .ref (E.2.2 + 1)), (1, .int 0)] := hl
  refine lv_iload_n hx hb dX7_cut_0 rfl (lv_at hl 1 rfl) ?_
  refine lv_if_lt (tgt := 12) hx hb dX7_cut_1 (by decide) (fun h => absurd h (by decide)) (fun _ => ?_)
  refine lv_iload_n hx hb dX7_cut_4 rfl (lv_at hl 1 rfl) ?_
  refine lv_aload_n hx hb dX7_cut_5 rfl (lv_at hl 0 rfl) ?_
  refine gx_get S hK hw t_1 cl_8 2 (by decide) rfl mw_131 rfl dX7_cut_6 ?_
  refine gx_top (v := 0) (by first | rfl | decide | simp [up2, gs0, h_1_2]) ?_
  refine lv_icmp_le (tgt := 14) hx hb dX7_cut_9 (by decide) (fun _ => ?_) (fun h => absurd (by decide) h)
  refine lv_aload_n hx hb dX7_cut_14 rfl (lv_at hl 0 rfl) ?_
  refine lv_iload_n hx hb dX7_cut_15 rfl (lv_at hl 1 rfl) ?_
  refine gx_put S hK gx_ok hw t_1 cl_8 2 (by decide) rfl mw_131 rfl rfl (ty := .int) (v := 0) (by decide +kernel) rfl rfl dX7_cut_16 (fun H locs hw => ?_)
  refine lv_iconst (v := 1) hx hb dX7_cut_19 (by decide) ?_
  exact gx_ri (post := fun r σ1 τ1 => r = 1 ∧ σ1 = up2 σ 1 2 0 ∧ τ1 = τ) (v := 1) S hr hlk hw rfl dX7_cut_20 ⟨rfl, (by first | rfl | simp [up2, upJ]), rfl⟩
set_option maxHeartbeats 4000000 in
set_option maxRecDepth 100000 in
theorem c_show (l : Launch) {E : gE} (σ : gI) (τ : gJ) (v : Int32) (h_1_2 : σ 1 2 = 0) : gx_Mv l yX7_showAtMost cX7_showAtMost 2 none 1 gx_tb E (σ) (τ) [.ref (E.2.2 + 1), .int v] (fun σ1 τ1 => (∀ c k : Nat, ¬ (c = 1 ∧ k = 1) → σ1 c k = (σ) c k) ∧ τ1 = τ) := by
  refine gx_bv (by decide +kernel) (Nat.le_of_ble_eq_true rfl) ?_
  intro P9 e9 s m9 below meth C9 S hr hlk hK hw ls hl
  have S : CallFix P9 m9 C9 cX7_showAtMost 2 s _ gx_G RX7 := S
  have hx := S.1
  have hb := S.2.1
  have hl : lv_has ls 2 [(0, .ref (E.2.2 + 1)), (1, .int v)] := hl
  refine lv_aload_n hx hb dX7_showAtMost_0 rfl (lv_at hl 0 rfl) ?_
  refine lv_iload_n hx hb dX7_showAtMost_1 rfl (lv_at hl 1 rfl) ?_
  refine lv_aload_n hx hb dX7_showAtMost_2 rfl (lv_at hl 0 rfl) ?_
  refine gx_get S hK hw t_1 cl_8 2 (by decide) rfl mw_131 rfl dX7_showAtMost_3 ?_
  refine gx_top (v := 0) (by first | rfl | decide | simp [up2, gs0, h_1_2]) ?_
  refine gx_min (w := if 0 < v then 0 else v) S hl.1 mw_528 mw_529 mw_102 mw_530 ⟨Nat.le_of_ble_eq_true rfl, Nat.le_of_ble_eq_true rfl⟩ ⟨Nat.le_of_ble_eq_true rfl, Nat.le_of_ble_eq_true rfl⟩ dX7_showAtMost_6 rfl ?_
  refine gx_put S hK gx_ok hw t_1 cl_8 1 (by decide) rfl mw_130 rfl rfl (ty := .int) (v := if 0 < v then 0 else v) (by decide +kernel) rfl rfl dX7_showAtMost_9 (fun H locs hw => ?_)
  exact gx_rv (post := fun σ1 τ1 => (∀ c k : Nat, ¬ (c = 1 ∧ k = 1) → σ1 c k = (σ) c k) ∧ τ1 = τ) S hr hlk hw dX7_showAtMost_12 ⟨(fun c9 k9 h9_0 => by simp [up2, upJ, h9_0]), rfl⟩
set_option maxHeartbeats 4000000 in
set_option maxRecDepth 100000 in
theorem c_isOver (l : Launch) {E : gE} (σ : gI) (τ : gJ)  (h_1_2 : σ 1 2 = 0) : gx_Mi l yX7_isOver cX7_isOver 2 (some .boolean) 0 gx_tb E (σ) (τ) [.ref (E.2.2 + 1), .int 0] (fun r σ1 τ1 => r = 1 ∧ σ1 = σ ∧ τ1 = τ) := by
  refine gx_bi (by decide +kernel) (Nat.le_of_ble_eq_true rfl) ?_
  intro P9 e9 s m9 below meth C9 S hr hlk hK hw ls hl
  have S : CallFix P9 m9 C9 cX7_isOver 2 s _ gx_G RX7 := S
  have hx := S.1
  have hb := S.2.1
  have hl : lv_has ls 2 [(0, .ref (E.2.2 + 1)), (1, .int 0)] := hl
  refine lv_iload_n hx hb dX7_isOver_0 rfl (lv_at hl 1 rfl) ?_
  refine lv_aload_n hx hb dX7_isOver_1 rfl (lv_at hl 0 rfl) ?_
  refine gx_get S hK hw t_1 cl_8 2 (by decide) rfl mw_131 rfl dX7_isOver_2 ?_
  refine gx_top (v := 0) (by first | rfl | decide | simp [up2, gs0, h_1_2]) ?_
  refine lv_icmp_lt (tgt := 12) hx hb dX7_isOver_5 (by decide) (fun h => absurd h (by decide)) (fun _ => ?_)
  refine lv_iconst (v := 1) hx hb dX7_isOver_8 (by decide) ?_
  refine lv_goto (tgt := 13) hx hb dX7_isOver_9 (by decide) ?_
  exact gx_ri (post := fun r σ1 τ1 => r = 1 ∧ σ1 = σ ∧ τ1 = τ) (v := 1) S hr hlk hw rfl dX7_isOver_13 ⟨rfl, rfl, rfl⟩
set_option maxHeartbeats 4000000 in
set_option maxRecDepth 100000 in
theorem c_Town_clear (l : Launch) {E : gE} (σ : gI) (τ : gJ)   : gx_Mv l yX8_clear cX8_clear 2 none 0 gx_tb E (σ) (τ) [.ref (E.2.2 + 9)] (fun σ1 τ1 => (∀ c k : Nat, ¬ c = 9 → ¬ c = 14 → σ1 c k = (σ) c k) ∧ τ1 = τ) := by
  refine gx_bv (by decide +kernel) (Nat.le_of_ble_eq_true rfl) ?_
  intro P9 e9 s m9 below meth C9 S hr hlk hK hw ls hl
  have S : CallFix P9 m9 C9 cX8_clear 2 s _ gx_G RX8 := S
  have hx := S.1
  have hb := S.2.1
  have hl : lv_has ls 2 [(0, .ref (E.2.2 + 9))] := hl
  refine lv_aload_n hx hb dX8_clear_0 rfl (lv_at hl 0 rfl) ?_
  refine lv_iconst (v := 0) hx hb dX8_clear_1 (by decide) ?_
  refine gx_put S hK gx_ok hw t_9 cl_9 6 (by decide) rfl mw_154 rfl rfl (ty := .int) (v := 0) (by decide +kernel) rfl rfl dX8_clear_2 (fun H locs hw => ?_)
  refine lv_aload_n hx hb dX8_clear_5 rfl (lv_at hl 0 rfl) ?_
  refine lv_iconst (v := 0) hx hb dX8_clear_6 (by decide) ?_
  refine gx_put S hK gx_ok hw t_9 cl_9 7 (by decide) rfl mw_156 rfl rfl (ty := .int) (v := 0) (by decide +kernel) rfl rfl dX8_clear_7 (fun H locs hw => ?_)
  refine lv_aload_n hx hb dX8_clear_10 rfl (lv_at hl 0 rfl) ?_
  refine lv_iconst (v := 0) hx hb dX8_clear_11 (by decide) ?_
  refine gx_put S hK gx_ok hw t_9 cl_9 5 (by decide) rfl mw_153 rfl rfl (ty := .int) (v := 0) (by decide +kernel) rfl rfl dX8_clear_12 (fun H locs hw => ?_)
  refine lv_aload_n hx hb dX8_clear_15 rfl (lv_at hl 0 rfl) ?_
  refine lv_iconst (v := 1) hx hb dX8_clear_16 (by decide) ?_
  refine gx_put S hK gx_ok hw t_9 cl_9 8 (by decide) rfl mw_159 rfl rfl (ty := .int) (v := 1) (by decide +kernel) rfl rfl dX8_clear_17 (fun H locs hw => ?_)
  refine lv_iconst (v := 0) hx hb dX8_clear_20 (by decide) ?_
  refine lv_istore_n (lv' := [(1, .int 0), (0, .ref (E.2.2 + 9))]) hx hb dX8_clear_21 rfl hl (by decide) rfl (fun ls hl => ?_)
  have loop_1 : ∀ (n1 : Nat) (i : Nat) (σ1 : gI) (H : Heap) (locs : List Loc) (ls : Array Slot), 12 - i < n1 → (i ≤ 12) → (∀ c k : Nat, ¬ c = 9 → ¬ c = 14 → σ1 c k = (σ) c k) → gx_W gx_tb (gx_tb).length E s (σ1) (τ) H locs → lv_has ls 2 [(0, .ref (E.2.2 + 9)), (1, .int (nI i))] → W P9 l e9 (gx_rm 0) s m9 ([.ref (E.2.2 + 9)] : List Value).toArray below meth C9 H locs 0 0 (MQ below (va_Qv (fun (u : gI × gJ) => (fun σ1 τ1 => (∀ c k : Nat, ¬ c = 9 → ¬ c = 14 → σ1 c k = (σ) c k) ∧ τ1 = τ) u.1 u.2) (fun u t => gx_P gx_tb E u.1 u.2 t.heap) (gx_A (gx_tb).length E.2.2 s.heap.size)) ([.ref (E.2.2 + 9)] : List Value).toArray s 0 0 (gx_A (gx_tb).length E.2.2 s.heap.size)) (F0 m9 22 ls []) := by
    intro n1
    induction n1 with
    | zero => intro i σ1 H locs ls hm; exact absurd hm (Nat.not_lt_zero _)
    | succ n1 ih_1 =>
      intro i σ1 H locs ls hm hi hs_1 hw hl
      refine lv_iload_n hx hb dX8_clear_22 rfl (lv_at hl 1 rfl) ?_
      refine lv_bipush (v := 12) hx hb dX8_clear_23 (by decide) ?_
      refine lv_icmp_ge (tgt := 41) hx hb dX8_clear_25 (by decide) (fun c_2 => ?_) (fun c_2 => ?_)
      · exact gx_rv (post := fun σ1 τ1 => (∀ c k : Nat, ¬ c = 9 → ¬ c = 14 → σ1 c k = (σ) c k) ∧ τ1 = τ) S hr hlk hw dX8_clear_41 ⟨(fun c9 k9 h9_0 h9_1 => by simp [up2, upJ, h9_0, h9_1, hs_1]), rfl⟩
      · have hlt : i < 12 := gx_ilt (k := 12) rfl (by omega) c_2
        refine lv_aload_n hx hb dX8_clear_28 rfl (lv_at hl 0 rfl) ?_
        refine gx_getr (j := 14) S hK hw t_9 cl_9 4 (by decide) rfl mw_152 rfl dX8_clear_29 ?_
        refine lv_iload_n hx hb dX8_clear_32 rfl (lv_at hl 1 rfl) ?_
        refine lv_iconst (v := (-1)) hx hb dX8_clear_33 (by decide) ?_
        refine gx_iast S hK gx_ok hw t_14 i (nI_clamp (by omega)) (vp_in_nI (by omega) (by omega)) dX8_clear_34 (fun H locs hw => ?_)
        refine lv_iinc (v := nI (i + 1)) (lv' := [(1, .int (nI (i + 1))), (0, .ref (E.2.2 + 9))]) hx hb dX8_clear_35 hl (k := 1) rfl (nI_1 _) (by decide) rfl (fun ls hl => ?_)
        refine lv_goto (tgt := 22) hx hb dX8_clear_38 (by decide) ?_
        exact ih_1 (i + 1) (up2 (σ1) 14 i (-1)) _ _ _ (by omega) (by omega) (fun c9 k9 h9_0 h9_1 => by simp [up2, upJ, h9_0, h9_1, hs_1]) hw (lv_sub hl [1, 0] rfl)
  exact loop_1 (12 + 1) 0 (up2 (up2 (up2 (up2 (σ) 9 6 0) 9 7 0) 9 5 0) 9 8 1) _ _ _ (by omega) (by omega) (fun c9 k9 h9_0 h9_1 => by simp [up2, upJ, h9_0, h9_1]) hw (lv_sub hl [1, 0] rfl)
set_option maxHeartbeats 4000000 in
set_option maxRecDepth 100000 in
theorem c_Town_read (l : Launch) {E : gE} (σ : gI) (τ : gJ)  (h_1_2 : σ 1 2 = 0) : gx_Mi l yX8_read cX8_read 5 (some .int) 2 gx_tb E (σ) (τ) [.ref (E.2.2 + 9), .ref (E.2.2 + 1)] (fun r σ1 τ1 => r = 0 ∧ (∀ c k : Nat, ¬ c = 9 → ¬ c = 14 → ¬ (c = 1 ∧ k = 1) → σ1 c k = (σ) c k) ∧ τ1 = τ) := by
  refine gx_bi (by decide +kernel) (Nat.le_of_ble_eq_true rfl) ?_
  intro P9 e9 s m9 below meth C9 S hr hlk hK hw ls hl
  have S : CallFix P9 m9 C9 cX8_read 5 s _ gx_G RX8 := S
  have hx := S.1
  have hb := S.2.1
  have hl : lv_has ls 5 [(0, .ref (E.2.2 + 9)), (1, .ref (E.2.2 + 1))] := hl
  refine lv_aload_n hx hb dX8_read_0 rfl (lv_at hl 0 rfl) ?_
  refine gx_cVv (As := []) (rest := []) S hK gx_ok hw (c_Town_clear l (E := E) (σ) (τ) ) cw_X8_40 t_9 cl_9 ⟨Nat.le_of_ble_eq_true rfl, Nat.le_of_ble_eq_true rfl⟩ rfl hl.1 rfl (Nat.le_of_ble_eq_true rfl) ⟨Nat.le_of_ble_eq_true rfl, Nat.le_of_ble_eq_true rfl⟩ dX8_read_1 (fun σ_1 τ_1 H locs hp hw => ?_)
  obtain ⟨hs_1, et_1⟩ := hp
  obtain rfl := et_1.symm
  refine lv_aload_n hx hb dX8_read_4 rfl (lv_at hl 1 rfl) ?_
  refine lv_bipush (v := 76) hx hb dX8_read_5 (by decide) ?_
  refine gx_cVv (As := [.int 76]) (rest := []) S hK gx_ok hw (c_show l (E := E) (σ_1) (τ) 76 (by first | rfl | decide | simp [up2, gs0, h_1_2, hs_1])) cw_X8_43 t_1 cl_8 ⟨Nat.le_of_ble_eq_true rfl, Nat.le_of_ble_eq_true rfl⟩ rfl hl.1 rfl (Nat.le_of_ble_eq_true rfl) ⟨Nat.le_of_ble_eq_true rfl, Nat.le_of_ble_eq_true rfl⟩ dX8_read_7 (fun σ_2 τ_2 H locs hp hw => ?_)
  obtain ⟨hs_2, et_2⟩ := hp
  obtain rfl := et_2.symm
  refine lv_aload_n hx hb dX8_read_10 rfl (lv_at hl 1 rfl) ?_
  refine lv_iconst (v := 0) hx hb dX8_read_11 (by decide) ?_
  refine gx_cVi (As := [.int 0]) (rest := []) S hK gx_ok hw (c_isOver l (E := E) (σ_2) (τ) (by first | rfl | decide | simp [up2, gs0, h_1_2, hs_1, hs_2])) cw_X8_49 t_1 cl_8 ⟨Nat.le_of_ble_eq_true rfl, Nat.le_of_ble_eq_true rfl⟩ rfl hl.1 rfl (Nat.le_of_ble_eq_true rfl) ⟨Nat.le_of_ble_eq_true rfl, Nat.le_of_ble_eq_true rfl⟩ dX8_read_12 (fun r_3 σ_3 τ_3 H locs hp hw => ?_)
  obtain ⟨er_3, es_3, et_3⟩ := hp
  obtain rfl := er_3.symm
  obtain rfl := es_3.symm
  obtain rfl := et_3.symm
  refine lv_if_eq (tgt := 20) hx hb dX8_read_15 (by decide) (fun h => absurd h (by decide)) (fun _ => ?_)
  refine lv_iconst (v := 0) hx hb dX8_read_18 (by decide) ?_
  exact gx_ri (post := fun r σ1 τ1 => r = 0 ∧ (∀ c k : Nat, ¬ c = 9 → ¬ c = 14 → ¬ (c = 1 ∧ k = 1) → σ1 c k = (σ) c k) ∧ τ1 = τ) (v := 0) S hr hlk hw rfl dX8_read_19 ⟨rfl, (fun c9 k9 h9_0 h9_1 h9_2 => by simp [up2, upJ, h9_0, h9_1, h9_2, hs_1, hs_2]), (by first | rfl | simp [up2, upJ])⟩
set_option maxHeartbeats 4000000 in
set_option maxRecDepth 100000 in
theorem c_Town_copy (l : Launch) {E : gE} (σ : gI) (τ : gJ)   : gx_Mv l yX8_copy cX8_copy 3 none 0 gx_tb E (σ) (τ) [.ref (E.2.2 + 3), .ref (E.2.2 + 9)] (fun σ1 τ1 => (∀ c k : Nat, ¬ c = 3 → ¬ c = 4 → ¬ c = 5 → ¬ c = 6 → ¬ c = 7 → σ1 c k = (σ) c k) ∧ τ1 = τ) := by
  refine gx_bv (by decide +kernel) (Nat.le_of_ble_eq_true rfl) ?_
  intro P9 e9 s m9 below meth C9 S hr hlk hK hw ls hl
  have S : CallFix P9 m9 C9 cX8_copy 3 s _ gx_G RX8 := S
  have hx := S.1
  have hb := S.2.1
  have hl : lv_has ls 3 [(0, .ref (E.2.2 + 3)), (1, .ref (E.2.2 + 9))] := hl
  refine lv_aload_n hx hb dX8_copy_0 rfl (lv_at hl 0 rfl) ?_
  refine lv_aload_n hx hb dX8_copy_1 rfl (lv_at hl 1 rfl) ?_
  refine gx_get S hK hw t_9 cl_9 6 (by decide) rfl mw_154 rfl dX8_copy_2 ?_
  refine gx_put S hK gx_ok hw t_3 cl_9 6 (by decide) rfl mw_154 rfl rfl (ty := .int) (v := (σ) 9 6) (by decide +kernel) rfl rfl dX8_copy_5 (fun H locs hw => ?_)
  refine lv_aload_n hx hb dX8_copy_8 rfl (lv_at hl 0 rfl) ?_
  refine lv_aload_n hx hb dX8_copy_9 rfl (lv_at hl 1 rfl) ?_
  refine gx_get S hK hw t_9 cl_9 7 (by decide) rfl mw_156 rfl dX8_copy_10 ?_
  refine gx_put S hK gx_ok hw t_3 cl_9 7 (by decide) rfl mw_156 rfl rfl (ty := .int) (v := (up2 (σ) 3 6 ((σ) 9 6)) 9 7) (by decide +kernel) rfl rfl dX8_copy_13 (fun H locs hw => ?_)
  refine lv_aload_n hx hb dX8_copy_16 rfl (lv_at hl 0 rfl) ?_
  refine lv_aload_n hx hb dX8_copy_17 rfl (lv_at hl 1 rfl) ?_
  refine gx_get S hK hw t_9 cl_9 5 (by decide) rfl mw_153 rfl dX8_copy_18 ?_
  refine gx_put S hK gx_ok hw t_3 cl_9 5 (by decide) rfl mw_153 rfl rfl (ty := .int) (v := (up2 (up2 (σ) 3 6 ((σ) 9 6)) 3 7 ((up2 (σ) 3 6 ((σ) 9 6)) 9 7)) 9 5) (by decide +kernel) rfl rfl dX8_copy_21 (fun H locs hw => ?_)
  refine lv_aload_n hx hb dX8_copy_24 rfl (lv_at hl 0 rfl) ?_
  refine lv_aload_n hx hb dX8_copy_25 rfl (lv_at hl 1 rfl) ?_
  refine gx_get S hK hw t_9 cl_9 8 (by decide) rfl mw_159 rfl dX8_copy_26 ?_
  refine gx_put S hK gx_ok hw t_3 cl_9 8 (by decide) rfl mw_159 rfl rfl (ty := .int) (v := (up2 (up2 (up2 (σ) 3 6 ((σ) 9 6)) 3 7 ((up2 (σ) 3 6 ((σ) 9 6)) 9 7)) 3 5 ((up2 (up2 (σ) 3 6 ((σ) 9 6)) 3 7 ((up2 (σ) 3 6 ((σ) 9 6)) 9 7)) 9 5)) 9 8) (by decide +kernel) rfl rfl dX8_copy_29 (fun H locs hw => ?_)
  refine lv_iconst (v := 0) hx hb dX8_copy_32 (by decide) ?_
  refine lv_istore_n (lv' := [(2, .int 0), (0, .ref (E.2.2 + 3)), (1, .ref (E.2.2 + 9))]) hx hb dX8_copy_33 rfl hl (by decide) rfl (fun ls hl => ?_)
  have loop_1 : ∀ (n1 : Nat) (i : Nat) (σ1 : gI) (H : Heap) (locs : List Loc) (ls : Array Slot), 12 - i < n1 → (i ≤ 12) → (∀ c k : Nat, ¬ c = 3 → ¬ c = 4 → ¬ c = 5 → ¬ c = 6 → ¬ c = 7 → σ1 c k = (σ) c k) → gx_W gx_tb (gx_tb).length E s (σ1) (τ) H locs → lv_has ls 3 [(0, .ref (E.2.2 + 3)), (1, .ref (E.2.2 + 9)), (2, .int (nI i))] → W P9 l e9 (gx_rm 0) s m9 ([.ref (E.2.2 + 3), .ref (E.2.2 + 9)] : List Value).toArray below meth C9 H locs 0 0 (MQ below (va_Qv (fun (u : gI × gJ) => (fun σ1 τ1 => (∀ c k : Nat, ¬ c = 3 → ¬ c = 4 → ¬ c = 5 → ¬ c = 6 → ¬ c = 7 → σ1 c k = (σ) c k) ∧ τ1 = τ) u.1 u.2) (fun u t => gx_P gx_tb E u.1 u.2 t.heap) (gx_A (gx_tb).length E.2.2 s.heap.size)) ([.ref (E.2.2 + 3), .ref (E.2.2 + 9)] : List Value).toArray s 0 0 (gx_A (gx_tb).length E.2.2 s.heap.size)) (F0 m9 34 ls []) := by
    intro n1
    induction n1 with
    | zero => intro i σ1 H locs ls hm; exact absurd hm (Nat.not_lt_zero _)
    | succ n1 ih_1 =>
      intro i σ1 H locs ls hm hi hs_1 hw hl
      refine lv_iload_n hx hb dX8_copy_34 rfl (lv_at hl 2 rfl) ?_
      refine lv_bipush (v := 12) hx hb dX8_copy_35 (by decide) ?_
      refine lv_icmp_ge (tgt := 94) hx hb dX8_copy_37 (by decide) (fun c_2 => ?_) (fun c_2 => ?_)
      · exact gx_rv (post := fun σ1 τ1 => (∀ c k : Nat, ¬ c = 3 → ¬ c = 4 → ¬ c = 5 → ¬ c = 6 → ¬ c = 7 → σ1 c k = (σ) c k) ∧ τ1 = τ) S hr hlk hw dX8_copy_94 ⟨(fun c9 k9 h9_0 h9_1 h9_2 h9_3 h9_4 => by simp [up2, upJ, h9_0, h9_1, h9_2, h9_3, h9_4, hs_1]), rfl⟩
      · have hlt : i < 12 := gx_ilt (k := 12) rfl (by omega) c_2
        refine lv_aload_n hx hb dX8_copy_40 rfl (lv_at hl 0 rfl) ?_
        refine gx_getr (j := 4) S hK hw t_3 cl_9 0 (by decide) rfl mw_148 rfl dX8_copy_41 ?_
        refine lv_iload_n hx hb dX8_copy_44 rfl (lv_at hl 2 rfl) ?_
        refine lv_aload_n hx hb dX8_copy_45 rfl (lv_at hl 1 rfl) ?_
        refine gx_getr (j := 10) S hK hw t_9 cl_9 0 (by decide) rfl mw_148 rfl dX8_copy_46 ?_
        refine lv_iload_n hx hb dX8_copy_49 rfl (lv_at hl 2 rfl) ?_
        refine gx_iald S hK hw t_10 i (nI_clamp (by omega)) (vp_in_nI (by omega) (by omega)) dX8_copy_50 ?_
        refine gx_iast S hK gx_ok hw t_4 i (nI_clamp (by omega)) (vp_in_nI (by omega) (by omega)) dX8_copy_51 (fun H locs hw => ?_)
        refine lv_aload_n hx hb dX8_copy_52 rfl (lv_at hl 0 rfl) ?_
        refine gx_getr (j := 5) S hK hw t_3 cl_9 1 (by decide) rfl mw_149 rfl dX8_copy_53 ?_
        refine lv_iload_n hx hb dX8_copy_56 rfl (lv_at hl 2 rfl) ?_
        refine lv_aload_n hx hb dX8_copy_57 rfl (lv_at hl 1 rfl) ?_
        refine gx_getr (j := 11) S hK hw t_9 cl_9 1 (by decide) rfl mw_149 rfl dX8_copy_58 ?_
        refine lv_iload_n hx hb dX8_copy_61 rfl (lv_at hl 2 rfl) ?_
        refine gx_iald S hK hw t_11 i (nI_clamp (by omega)) (vp_in_nI (by omega) (by omega)) dX8_copy_62 ?_
        refine gx_iast S hK gx_ok hw t_5 i (nI_clamp (by omega)) (vp_in_nI (by omega) (by omega)) dX8_copy_63 (fun H locs hw => ?_)
        refine lv_aload_n hx hb dX8_copy_64 rfl (lv_at hl 0 rfl) ?_
        refine gx_getr (j := 6) S hK hw t_3 cl_9 2 (by decide) rfl mw_150 rfl dX8_copy_65 ?_
        refine lv_iload_n hx hb dX8_copy_68 rfl (lv_at hl 2 rfl) ?_
        refine lv_aload_n hx hb dX8_copy_69 rfl (lv_at hl 1 rfl) ?_
        refine gx_getr (j := 12) S hK hw t_9 cl_9 2 (by decide) rfl mw_150 rfl dX8_copy_70 ?_
        refine lv_iload_n hx hb dX8_copy_73 rfl (lv_at hl 2 rfl) ?_
        refine gx_iald S hK hw t_12 i (nI_clamp (by omega)) (vp_in_nI (by omega) (by omega)) dX8_copy_74 ?_
        refine gx_iast S hK gx_ok hw t_6 i (nI_clamp (by omega)) (vp_in_nI (by omega) (by omega)) dX8_copy_75 (fun H locs hw => ?_)
        refine lv_aload_n hx hb dX8_copy_76 rfl (lv_at hl 0 rfl) ?_
        refine gx_getr (j := 7) S hK hw t_3 cl_9 3 (by decide) rfl mw_151 rfl dX8_copy_77 ?_
        refine lv_iload_n hx hb dX8_copy_80 rfl (lv_at hl 2 rfl) ?_
        refine lv_aload_n hx hb dX8_copy_81 rfl (lv_at hl 1 rfl) ?_
        refine gx_getr (j := 13) S hK hw t_9 cl_9 3 (by decide) rfl mw_151 rfl dX8_copy_82 ?_
        refine lv_iload_n hx hb dX8_copy_85 rfl (lv_at hl 2 rfl) ?_
        refine gx_iald S hK hw t_13 i (nI_clamp (by omega)) (vp_in_nI (by omega) (by omega)) dX8_copy_86 ?_
        refine gx_iast S hK gx_ok hw t_7 i (nI_clamp (by omega)) (vp_in_nI (by omega) (by omega)) dX8_copy_87 (fun H locs hw => ?_)
        refine lv_iinc (v := nI (i + 1)) (lv' := [(2, .int (nI (i + 1))), (0, .ref (E.2.2 + 3)), (1, .ref (E.2.2 + 9))]) hx hb dX8_copy_88 hl (k := 2) rfl (nI_1 _) (by decide) rfl (fun ls hl => ?_)
        refine lv_goto (tgt := 34) hx hb dX8_copy_91 (by decide) ?_
        exact ih_1 (i + 1) (up2 (up2 (up2 (up2 (σ1) 4 i ((σ1) 10 i)) 5 i ((up2 (σ1) 4 i ((σ1) 10 i)) 11 i)) 6 i ((up2 (up2 (σ1) 4 i ((σ1) 10 i)) 5 i ((up2 (σ1) 4 i ((σ1) 10 i)) 11 i)) 12 i)) 7 i ((up2 (up2 (up2 (σ1) 4 i ((σ1) 10 i)) 5 i ((up2 (σ1) 4 i ((σ1) 10 i)) 11 i)) 6 i ((up2 (up2 (σ1) 4 i ((σ1) 10 i)) 5 i ((up2 (σ1) 4 i ((σ1) 10 i)) 11 i)) 12 i)) 13 i)) _ _ _ (by omega) (by omega) (fun c9 k9 h9_0 h9_1 h9_2 h9_3 h9_4 => by simp [up2, upJ, h9_0, h9_1, h9_2, h9_3, h9_4, hs_1]) hw (lv_sub hl [1, 2, 0] rfl)
  exact loop_1 (12 + 1) 0 (up2 (up2 (up2 (up2 (σ) 3 6 ((σ) 9 6)) 3 7 ((up2 (σ) 3 6 ((σ) 9 6)) 9 7)) 3 5 ((up2 (up2 (σ) 3 6 ((σ) 9 6)) 3 7 ((up2 (σ) 3 6 ((σ) 9 6)) 9 7)) 9 5)) 3 8 ((up2 (up2 (up2 (σ) 3 6 ((σ) 9 6)) 3 7 ((up2 (σ) 3 6 ((σ) 9 6)) 9 7)) 3 5 ((up2 (up2 (σ) 3 6 ((σ) 9 6)) 3 7 ((up2 (σ) 3 6 ((σ) 9 6)) 9 7)) 9 5)) 9 8)) _ _ _ (by omega) (by omega) (fun c9 k9 h9_0 h9_1 h9_2 h9_3 h9_4 => by simp [up2, upJ, h9_0, h9_1, h9_2, h9_3, h9_4]) hw (lv_sub hl [1, 2, 0] rfl)
set_option maxHeartbeats 4000000 in
set_option maxRecDepth 100000 in
theorem c_Town_has (l : Launch) {E : gE} (σ : gI) (τ : gJ) (p : Int32) (h_3_6 : σ 3 6 = 0) : gx_Mi l yX8_has cX8_has 2 (some .boolean) 0 gx_tb E (σ) (τ) [.ref (E.2.2 + 3), .int p] (fun r σ1 τ1 => r = 0 ∧ σ1 = σ ∧ τ1 = τ) := by
  refine gx_bi (by decide +kernel) (Nat.le_of_ble_eq_true rfl) ?_
  intro P9 e9 s m9 below meth C9 S hr hlk hK hw ls hl
  have S : CallFix P9 m9 C9 cX8_has 2 s _ gx_G RX8 := S
  have hx := S.1
  have hb := S.2.1
  have hl : lv_has ls 2 [(0, .ref (E.2.2 + 3)), (1, .int p)] := hl
  refine lv_iload_n hx hb dX8_has_0 rfl (lv_at hl 1 rfl) ?_
  refine lv_if_lt (tgt := 16) hx hb dX8_has_1 (by decide) (fun c_1 => ?_) (fun c_1 => ?_)
  · refine lv_iconst (v := 0) hx hb dX8_has_16 (by decide) ?_
    exact gx_ri (post := fun r σ1 τ1 => r = 0 ∧ σ1 = σ ∧ τ1 = τ) (v := 0) S hr hlk hw rfl dX8_has_17 ⟨rfl, rfl, rfl⟩
  · refine lv_iload_n hx hb dX8_has_4 rfl (lv_at hl 1 rfl) ?_
    refine lv_aload_n hx hb dX8_has_5 rfl (lv_at hl 0 rfl) ?_
    refine gx_get S hK hw t_3 cl_9 6 (by decide) rfl mw_154 rfl dX8_has_6 ?_
    refine gx_top (v := 0) (by first | rfl | decide | simp [up2, gs0, h_3_6]) ?_
    refine lv_icmp_ge (tgt := 16) hx hb dX8_has_9 (by decide) (fun c_2 => ?_) (fun c_2 => ?_)
    · refine lv_iconst (v := 0) hx hb dX8_has_16 (by decide) ?_
      exact gx_ri (post := fun r σ1 τ1 => r = 0 ∧ σ1 = σ ∧ τ1 = τ) (v := 0) S hr hlk hw rfl dX8_has_17 ⟨rfl, rfl, rfl⟩
    · refine lv_iconst (v := 1) hx hb dX8_has_12 (by decide) ?_
      refine lv_goto (tgt := 17) hx hb dX8_has_13 (by decide) ?_
      exact gx_ri (post := fun r σ1 τ1 => r = 0 ∧ σ1 = σ ∧ τ1 = τ) (v := 1) S hr hlk hw rfl dX8_has_17 ⟨(by exfalso; simp only [fa_lt, fa_le, fa_eq, show (0 : Int32).toInt = 0 from rfl] at c_1 c_2; omega), rfl, rfl⟩
set_option maxHeartbeats 4000000 in
set_option maxRecDepth 100000 in
theorem c_Town_isFork (l : Launch) {E : gE} (σ : gI) (τ : gJ) (p : Int32) (h_3_7 : σ 3 7 = 0) : gx_Mi l yX8_isFork cX8_isFork 2 (some .boolean) 0 gx_tb E (σ) (τ) [.ref (E.2.2 + 3), .int p] (fun r σ1 τ1 => r = 0 ∧ σ1 = σ ∧ τ1 = τ) := by
  refine gx_bi (by decide +kernel) (Nat.le_of_ble_eq_true rfl) ?_
  intro P9 e9 s m9 below meth C9 S hr hlk hK hw ls hl
  have S : CallFix P9 m9 C9 cX8_isFork 2 s _ gx_G RX8 := S
  have hx := S.1
  have hb := S.2.1
  have hl : lv_has ls 2 [(0, .ref (E.2.2 + 3)), (1, .int p)] := hl
  refine lv_iload_n hx hb dX8_isFork_0 rfl (lv_at hl 1 rfl) ?_
  refine lv_if_lt (tgt := 25) hx hb dX8_isFork_1 (by decide) (fun c_1 => ?_) (fun c_1 => ?_)
  · refine lv_iconst (v := 0) hx hb dX8_isFork_25 (by decide) ?_
    exact gx_ri (post := fun r σ1 τ1 => r = 0 ∧ σ1 = σ ∧ τ1 = τ) (v := 0) S hr hlk hw rfl dX8_isFork_26 ⟨rfl, rfl, rfl⟩
  · refine lv_iload_n hx hb dX8_isFork_4 rfl (lv_at hl 1 rfl) ?_
    refine lv_bipush (v := 12) hx hb dX8_isFork_5 (by decide) ?_
    refine lv_icmp_ge (tgt := 25) hx hb dX8_isFork_7 (by decide) (fun c_2 => ?_) (fun c_2 => ?_)
    · refine lv_iconst (v := 0) hx hb dX8_isFork_25 (by decide) ?_
      exact gx_ri (post := fun r σ1 τ1 => r = 0 ∧ σ1 = σ ∧ τ1 = τ) (v := 0) S hr hlk hw rfl dX8_isFork_26 ⟨rfl, rfl, rfl⟩
    · refine lv_aload_n hx hb dX8_isFork_10 rfl (lv_at hl 0 rfl) ?_
      refine gx_get S hK hw t_3 cl_9 7 (by decide) rfl mw_156 rfl dX8_isFork_11 ?_
      refine gx_top (v := 0) (by first | rfl | decide | simp [up2, gs0, h_3_7]) ?_
      refine lv_iload_n hx hb dX8_isFork_14 rfl (lv_at hl 1 rfl) ?_
      refine lv_ishr hx hb dX8_isFork_15 ?_
      refine gx_top (v := 0) (by exact gx_0shr _) ?_
      refine lv_iconst (v := 1) hx hb dX8_isFork_16 (by decide) ?_
      refine lv_iand hx hb dX8_isFork_17 ?_
      refine gx_top (v := 0) (by decide) ?_
      refine lv_if_eq (tgt := 25) hx hb dX8_isFork_18 (by decide) (fun _ => ?_) (fun h => absurd (by decide) h)
      refine lv_iconst (v := 0) hx hb dX8_isFork_25 (by decide) ?_
      exact gx_ri (post := fun r σ1 τ1 => r = 0 ∧ σ1 = σ ∧ τ1 = τ) (v := 0) S hr hlk hw rfl dX8_isFork_26 ⟨rfl, rfl, rfl⟩
set_option maxHeartbeats 4000000 in
set_option maxRecDepth 100000 in
theorem c_Town_isKitchen (l : Launch) {E : gE} (σ : gI) (τ : gJ) (p : Int32) (h_3_5 : σ 3 5 = 0) : gx_Mi l yX8_isKitchen cX8_isKitchen 2 (some .boolean) 0 gx_tb E (σ) (τ) [.ref (E.2.2 + 3), .int p] (fun r σ1 τ1 => r = 0 ∧ σ1 = σ ∧ τ1 = τ) := by
  refine gx_bi (by decide +kernel) (Nat.le_of_ble_eq_true rfl) ?_
  intro P9 e9 s m9 below meth C9 S hr hlk hK hw ls hl
  have S : CallFix P9 m9 C9 cX8_isKitchen 2 s _ gx_G RX8 := S
  have hx := S.1
  have hb := S.2.1
  have hl : lv_has ls 2 [(0, .ref (E.2.2 + 3)), (1, .int p)] := hl
  refine lv_iload_n hx hb dX8_isKitchen_0 rfl (lv_at hl 1 rfl) ?_
  refine lv_if_lt (tgt := 25) hx hb dX8_isKitchen_1 (by decide) (fun c_1 => ?_) (fun c_1 => ?_)
  · refine lv_iconst (v := 0) hx hb dX8_isKitchen_25 (by decide) ?_
    exact gx_ri (post := fun r σ1 τ1 => r = 0 ∧ σ1 = σ ∧ τ1 = τ) (v := 0) S hr hlk hw rfl dX8_isKitchen_26 ⟨rfl, rfl, rfl⟩
  · refine lv_iload_n hx hb dX8_isKitchen_4 rfl (lv_at hl 1 rfl) ?_
    refine lv_bipush (v := 12) hx hb dX8_isKitchen_5 (by decide) ?_
    refine lv_icmp_ge (tgt := 25) hx hb dX8_isKitchen_7 (by decide) (fun c_2 => ?_) (fun c_2 => ?_)
    · refine lv_iconst (v := 0) hx hb dX8_isKitchen_25 (by decide) ?_
      exact gx_ri (post := fun r σ1 τ1 => r = 0 ∧ σ1 = σ ∧ τ1 = τ) (v := 0) S hr hlk hw rfl dX8_isKitchen_26 ⟨rfl, rfl, rfl⟩
    · refine lv_aload_n hx hb dX8_isKitchen_10 rfl (lv_at hl 0 rfl) ?_
      refine gx_get S hK hw t_3 cl_9 5 (by decide) rfl mw_153 rfl dX8_isKitchen_11 ?_
      refine gx_top (v := 0) (by first | rfl | decide | simp [up2, gs0, h_3_5]) ?_
      refine lv_iload_n hx hb dX8_isKitchen_14 rfl (lv_at hl 1 rfl) ?_
      refine lv_ishr hx hb dX8_isKitchen_15 ?_
      refine gx_top (v := 0) (by exact gx_0shr _) ?_
      refine lv_iconst (v := 1) hx hb dX8_isKitchen_16 (by decide) ?_
      refine lv_iand hx hb dX8_isKitchen_17 ?_
      refine gx_top (v := 0) (by decide) ?_
      refine lv_if_eq (tgt := 25) hx hb dX8_isKitchen_18 (by decide) (fun _ => ?_) (fun h => absurd (by decide) h)
      refine lv_iconst (v := 0) hx hb dX8_isKitchen_25 (by decide) ?_
      exact gx_ri (post := fun r σ1 τ1 => r = 0 ∧ σ1 = σ ∧ τ1 = τ) (v := 0) S hr hlk hw rfl dX8_isKitchen_26 ⟨rfl, rfl, rfl⟩
set_option maxHeartbeats 4000000 in
set_option maxRecDepth 100000 in
theorem c_Town_nextSet (l : Launch) {E : gE} (σ : gI) (τ : gJ)  (h_3_7 : σ 3 7 = 0) : gx_Mi l yX8_nextSet cX8_nextSet 2 (some .int) 0 gx_tb E (σ) (τ) [.ref (E.2.2 + 3), .int 0] (fun r σ1 τ1 => r = 0 ∧ σ1 = σ ∧ τ1 = τ) := by
  refine gx_bi (by decide +kernel) (Nat.le_of_ble_eq_true rfl) ?_
  intro P9 e9 s m9 below meth C9 S hr hlk hK hw ls hl
  have S : CallFix P9 m9 C9 cX8_nextSet 2 s _ gx_G RX8 := S
  have hx := S.1
  have hb := S.2.1
  have hl : lv_has ls 2 [(0, .ref (E.2.2 + 3)), (1, .int 0)] := hl
  refine lv_iload_n hx hb dX8_nextSet_0 rfl (lv_at hl 1 rfl) ?_
  refine lv_aload_n hx hb dX8_nextSet_1 rfl (lv_at hl 0 rfl) ?_
  refine gx_get S hK hw t_3 cl_9 7 (by decide) rfl mw_156 rfl dX8_nextSet_2 ?_
  refine gx_top (v := 0) (by first | rfl | decide | simp [up2, gs0, h_3_7]) ?_
  refine lv_isub hx hb dX8_nextSet_5 ?_
  refine gx_top (v := 0) (by decide) ?_
  refine lv_aload_n hx hb dX8_nextSet_6 rfl (lv_at hl 0 rfl) ?_
  refine gx_get S hK hw t_3 cl_9 7 (by decide) rfl mw_156 rfl dX8_nextSet_7 ?_
  refine gx_top (v := 0) (by first | rfl | decide | simp [up2, gs0, h_3_7]) ?_
  refine lv_iand hx hb dX8_nextSet_10 ?_
  refine gx_top (v := 0) (by decide) ?_
  exact gx_ri (post := fun r σ1 τ1 => r = 0 ∧ σ1 = σ ∧ τ1 = τ) (v := 0) S hr hlk hw rfl dX8_nextSet_11 ⟨rfl, rfl, rfl⟩
set_option maxHeartbeats 4000000 in
set_option maxRecDepth 100000 in
theorem c_Water_in (l : Launch) {E : gE} (σ : gI) (τ : gJ) (m1 : Int32) (h_15_1 : σ 15 1 = 0) : gx_Mi l yX10_in cX10_in 2 (some .int) 0 gx_tb E (σ) (τ) [.ref (E.2.2 + 15), .int m1] (fun r σ1 τ1 => r = 1 ∧ σ1 = σ ∧ τ1 = τ) := by
  refine gx_bi (by decide +kernel) (Nat.le_of_ble_eq_true rfl) ?_
  intro P9 e9 s m9 below meth C9 S hr hlk hK hw ls hl
  have S : CallFix P9 m9 C9 cX10_in 2 s _ gx_G RX10 := S
  have hx := S.1
  have hb := S.2.1
  have hl : lv_has ls 2 [(0, .ref (E.2.2 + 15)), (1, .int m1)] := hl
  refine lv_aload_n hx hb dX10_in_0 rfl (lv_at hl 0 rfl) ?_
  refine gx_get S hK hw t_15 cl_11 1 (by decide) rfl mw_188 rfl dX10_in_1 ?_
  refine gx_top (v := 0) (by first | rfl | decide | simp [up2, gs0, h_15_1]) ?_
  refine lv_if_le (tgt := 20) hx hb dX10_in_4 (by decide) (fun _ => ?_) (fun h => absurd (by decide) h)
  refine lv_iconst (v := 1) hx hb dX10_in_20 (by decide) ?_
  exact gx_ri (post := fun r σ1 τ1 => r = 1 ∧ σ1 = σ ∧ τ1 = τ) (v := 1) S hr hlk hw rfl dX10_in_21 ⟨rfl, rfl, rfl⟩
set_option maxHeartbeats 4000000 in
set_option maxRecDepth 100000 in
theorem c_Water_read (l : Launch) {E : gE} (σ : gI) (τ : gJ)  (h_1_2 : σ 1 2 = 0) : gx_Mi l yX10_read cX10_read 4 (some .int) 2 gx_tb E (σ) (τ) [.ref (E.2.2 + 15), .ref (E.2.2 + 1)] (fun r σ1 τ1 => r = 0 ∧ (∀ c k : Nat, ¬ (c = 1 ∧ k = 1) → ¬ c = 15 → σ1 c k = (σ) c k) ∧ τ1 = τ) := by
  refine gx_bi (by decide +kernel) (Nat.le_of_ble_eq_true rfl) ?_
  intro P9 e9 s m9 below meth C9 S hr hlk hK hw ls hl
  have S : CallFix P9 m9 C9 cX10_read 4 s _ gx_G RX10 := S
  have hx := S.1
  have hb := S.2.1
  have hl : lv_has ls 4 [(0, .ref (E.2.2 + 15)), (1, .ref (E.2.2 + 1))] := hl
  refine lv_aload_n hx hb dX10_read_0 rfl (lv_at hl 1 rfl) ?_
  refine lv_bipush (v := 40) hx hb dX10_read_1 (by decide) ?_
  refine gx_cVv (As := [.int 40]) (rest := []) S hK gx_ok hw (c_show l (E := E) (σ) (τ) 40 (by first | rfl | decide | simp [up2, gs0, h_1_2])) cw_X10_19 t_1 cl_8 ⟨Nat.le_of_ble_eq_true rfl, Nat.le_of_ble_eq_true rfl⟩ rfl hl.1 rfl (Nat.le_of_ble_eq_true rfl) ⟨Nat.le_of_ble_eq_true rfl, Nat.le_of_ble_eq_true rfl⟩ dX10_read_3 (fun σ_1 τ_1 H locs hp hw => ?_)
  obtain ⟨hs_1, et_1⟩ := hp
  obtain rfl := et_1.symm
  refine lv_iconst (v := 0) hx hb dX10_read_6 (by decide) ?_
  refine lv_istore_n (lv' := [(2, .int 0), (0, .ref (E.2.2 + 15)), (1, .ref (E.2.2 + 1))]) hx hb dX10_read_7 rfl hl (by decide) rfl (fun ls hl => ?_)
  refine lv_iload_n hx hb dX10_read_8 rfl (lv_at hl 0 rfl) ?_
  refine lv_bipush (v := 40) hx hb dX10_read_9 (by decide) ?_
  refine lv_icmp_gt (tgt := 47) hx hb dX10_read_11 (by decide) (fun h => absurd h (by decide)) (fun _ => ?_)
  refine lv_aload_n hx hb dX10_read_14 rfl (lv_at hl 2 rfl) ?_
  refine lv_iload_n hx hb dX10_read_15 rfl (lv_at hl 0 rfl) ?_
  refine gx_cVi (As := [.int 0]) (rest := []) S hK gx_ok hw (c_isOver l (E := E) (σ_1) (τ) (by first | rfl | decide | simp [up2, gs0, h_1_2, hs_1])) cw_X10_25 t_1 cl_8 ⟨Nat.le_of_ble_eq_true rfl, Nat.le_of_ble_eq_true rfl⟩ rfl hl.1 rfl (Nat.le_of_ble_eq_true rfl) ⟨Nat.le_of_ble_eq_true rfl, Nat.le_of_ble_eq_true rfl⟩ dX10_read_16 (fun r_2 σ_2 τ_2 H locs hp hw => ?_)
  obtain ⟨er_2, es_2, et_2⟩ := hp
  obtain rfl := er_2.symm
  obtain rfl := es_2.symm
  obtain rfl := et_2.symm
  refine lv_if_ne (tgt := 47) hx hb dX10_read_19 (by decide) (fun _ => ?_) (fun h => absurd h (by decide))
  refine lv_aload_n hx hb dX10_read_47 rfl (lv_at hl 1 rfl) ?_
  refine lv_aload_n hx hb dX10_read_48 rfl (lv_at hl 2 rfl) ?_
  refine gx_get S hK hw t_1 cl_8 2 (by decide) rfl mw_133 rfl dX10_read_49 ?_
  refine gx_top (v := 0) (by first | rfl | decide | simp [up2, gs0, h_1_2, hs_1]) ?_
  refine lv_bipush (v := 40) hx hb dX10_read_52 (by decide) ?_
  refine gx_min (w := 0) S hl.1 mw_692 mw_529 mw_102 mw_530 ⟨Nat.le_of_ble_eq_true rfl, Nat.le_of_ble_eq_true rfl⟩ ⟨Nat.le_of_ble_eq_true rfl, Nat.le_of_ble_eq_true rfl⟩ dX10_read_54 (by decide) ?_
  refine gx_put S hK gx_ok hw t_15 cl_11 1 (by decide) rfl mw_188 rfl rfl (ty := .int) (v := 0) (by decide +kernel) rfl rfl dX10_read_57 (fun H locs hw => ?_)
  refine lv_iconst (v := 0) hx hb dX10_read_60 (by decide) ?_
  refine lv_istore_n (lv' := [(2, .int 0), (0, .ref (E.2.2 + 15)), (1, .ref (E.2.2 + 1))]) hx hb dX10_read_61 rfl hl (by decide) rfl (fun ls hl => ?_)
  refine lv_iload_n hx hb dX10_read_62 rfl (lv_at hl 0 rfl) ?_
  refine lv_aload_n hx hb dX10_read_63 rfl (lv_at hl 1 rfl) ?_
  refine gx_get S hK hw t_15 cl_11 1 (by decide) rfl mw_188 rfl dX10_read_64 ?_
  refine gx_top (v := 0) (by first | rfl | decide | simp [up2, gs0, h_1_2, hs_1]) ?_
  refine lv_icmp_ge (tgt := 87) hx hb dX10_read_67 (by decide) (fun _ => ?_) (fun h => absurd (by decide) h)
  refine lv_aload_n hx hb dX10_read_87 rfl (lv_at hl 1 rfl) ?_
  refine gx_get S hK hw t_15 cl_11 1 (by decide) rfl mw_188 rfl dX10_read_88 ?_
  refine gx_top (v := 0) (by first | rfl | decide | simp [up2, gs0, h_1_2, hs_1]) ?_
  exact gx_ri (post := fun r σ1 τ1 => r = 0 ∧ (∀ c k : Nat, ¬ (c = 1 ∧ k = 1) → ¬ c = 15 → σ1 c k = (σ) c k) ∧ τ1 = τ) (v := 0) S hr hlk hw rfl dX10_read_91 ⟨rfl, (fun c9 k9 h9_0 h9_1 => by simp [up2, upJ, h9_0, h9_1, hs_1]), (by first | rfl | simp [up2, upJ])⟩
set_option maxHeartbeats 4000000 in
set_option maxRecDepth 100000 in
theorem c_Rule_clear (l : Launch) {E : gE} (σ : gI) (τ : gJ)   : gx_Mv l yX5_clear cX5_clear 1 none 0 gx_tb E (σ) (τ) [.ref (E.2.2 + 21)] (fun σ1 τ1 => σ1 = up2 (up2 (up2 (up2 (up2 (up2 (up2 (up2 (σ) 21 3 0) 21 4 0) 21 5 0) 21 6 0) 21 7 0) 21 8 1) 21 9 0) 21 10 0 ∧ τ1 = τ) := by
  refine gx_bv (by decide +kernel) (Nat.le_of_ble_eq_true rfl) ?_
  intro P9 e9 s m9 below meth C9 S hr hlk hK hw ls hl
  have S : CallFix P9 m9 C9 cX5_clear 1 s _ gx_G RX5 := S
  have hx := S.1
  have hb := S.2.1
  have hl : lv_has ls 1 [(0, .ref (E.2.2 + 21))] := hl
  refine lv_aload_n hx hb dX5_clear_0 rfl (lv_at hl 0 rfl) ?_
  refine lv_iconst (v := 0) hx hb dX5_clear_1 (by decide) ?_
  refine gx_put S hK gx_ok hw t_21 cl_6 3 (by decide) rfl mw_203 rfl rfl (ty := .int) (v := 0) (by decide +kernel) rfl rfl dX5_clear_2 (fun H locs hw => ?_)
  refine lv_aload_n hx hb dX5_clear_5 rfl (lv_at hl 0 rfl) ?_
  refine lv_iconst (v := 0) hx hb dX5_clear_6 (by decide) ?_
  refine gx_put S hK gx_ok hw t_21 cl_6 4 (by decide) rfl mw_204 rfl rfl (ty := .int) (v := 0) (by decide +kernel) rfl rfl dX5_clear_7 (fun H locs hw => ?_)
  refine lv_aload_n hx hb dX5_clear_10 rfl (lv_at hl 0 rfl) ?_
  refine lv_iconst (v := 0) hx hb dX5_clear_11 (by decide) ?_
  refine gx_put S hK gx_ok hw t_21 cl_6 5 (by decide) rfl mw_205 rfl rfl (ty := .int) (v := 0) (by decide +kernel) rfl rfl dX5_clear_12 (fun H locs hw => ?_)
  refine lv_aload_n hx hb dX5_clear_15 rfl (lv_at hl 0 rfl) ?_
  refine lv_iconst (v := 0) hx hb dX5_clear_16 (by decide) ?_
  refine gx_put S hK gx_ok hw t_21 cl_6 6 (by decide) rfl mw_206 rfl rfl (ty := .int) (v := 0) (by decide +kernel) rfl rfl dX5_clear_17 (fun H locs hw => ?_)
  refine lv_aload_n hx hb dX5_clear_20 rfl (lv_at hl 0 rfl) ?_
  refine lv_iconst (v := 0) hx hb dX5_clear_21 (by decide) ?_
  refine gx_put S hK gx_ok hw t_21 cl_6 7 (by decide) rfl mw_207 rfl rfl (ty := .int) (v := 0) (by decide +kernel) rfl rfl dX5_clear_22 (fun H locs hw => ?_)
  refine lv_aload_n hx hb dX5_clear_25 rfl (lv_at hl 0 rfl) ?_
  refine lv_iconst (v := 1) hx hb dX5_clear_26 (by decide) ?_
  refine gx_put S hK gx_ok hw t_21 cl_6 8 (by decide) rfl mw_208 rfl rfl (ty := .boolean) (v := 1) (by decide +kernel) rfl rfl dX5_clear_27 (fun H locs hw => ?_)
  refine lv_aload_n hx hb dX5_clear_30 rfl (lv_at hl 0 rfl) ?_
  refine lv_iconst (v := 0) hx hb dX5_clear_31 (by decide) ?_
  refine gx_put S hK gx_ok hw t_21 cl_6 9 (by decide) rfl mw_209 rfl rfl (ty := .boolean) (v := 0) (by decide +kernel) rfl rfl dX5_clear_32 (fun H locs hw => ?_)
  refine lv_aload_n hx hb dX5_clear_35 rfl (lv_at hl 0 rfl) ?_
  refine lv_iconst (v := 0) hx hb dX5_clear_36 (by decide) ?_
  refine gx_put S hK gx_ok hw t_21 cl_6 10 (by decide) rfl mw_212 rfl rfl (ty := .boolean) (v := 0) (by decide +kernel) rfl rfl dX5_clear_37 (fun H locs hw => ?_)
  exact gx_rv (post := fun σ1 τ1 => σ1 = up2 (up2 (up2 (up2 (up2 (up2 (up2 (up2 (σ) 21 3 0) 21 4 0) 21 5 0) 21 6 0) 21 7 0) 21 8 1) 21 9 0) 21 10 0 ∧ τ1 = τ) S hr hlk hw dX5_clear_40 ⟨rfl, rfl⟩
set_option maxHeartbeats 4000000 in
set_option maxRecDepth 100000 in
theorem c_Rule_addStep (l : Launch) {E : gE} (σ : gI) (τ : gJ)  (h_21_3 : σ 21 3 = 0) : gx_Mv l yX5_addStep cX5_addStep 2 none 0 gx_tb E (σ) (τ) [.ref (E.2.2 + 21), .int 0] (fun σ1 τ1 => (∀ c k : Nat, ¬ c = 22 → σ1 c k = (up2 σ 21 3 1) c k) ∧ τ1 = τ) := by
  refine gx_bv (by decide +kernel) (Nat.le_of_ble_eq_true rfl) ?_
  intro P9 e9 s m9 below meth C9 S hr hlk hK hw ls hl
  have S : CallFix P9 m9 C9 cX5_addStep 2 s _ gx_G RX5 := S
  have hx := S.1
  have hb := S.2.1
  have hl : lv_has ls 2 [(0, .ref (E.2.2 + 21)), (1, .int 0)] := hl
  refine lv_aload_n hx hb dX5_addStep_0 rfl (lv_at hl 0 rfl) ?_
  refine gx_get S hK hw t_21 cl_6 3 (by decide) rfl mw_203 rfl dX5_addStep_1 ?_
  refine gx_top (v := 0) (by first | rfl | decide | simp [up2, gs0, h_21_3]) ?_
  refine lv_if_lt (tgt := 36) hx hb dX5_addStep_4 (by decide) (fun h => absurd h (by decide)) (fun _ => ?_)
  refine lv_aload_n hx hb dX5_addStep_7 rfl (lv_at hl 0 rfl) ?_
  refine gx_get S hK hw t_21 cl_6 3 (by decide) rfl mw_203 rfl dX5_addStep_8 ?_
  refine gx_top (v := 0) (by first | rfl | decide | simp [up2, gs0, h_21_3]) ?_
  refine lv_bipush (v := 40) hx hb dX5_addStep_11 (by decide) ?_
  refine lv_icmp_ge (tgt := 36) hx hb dX5_addStep_13 (by decide) (fun h => absurd h (by decide)) (fun _ => ?_)
  refine lv_aload_n hx hb dX5_addStep_16 rfl (lv_at hl 0 rfl) ?_
  refine gx_getr (j := 22) S hK hw t_21 cl_6 0 (by decide) rfl mw_200 rfl dX5_addStep_17 ?_
  refine lv_aload_n hx hb dX5_addStep_20 rfl (lv_at hl 0 rfl) ?_
  refine gx_get S hK hw t_21 cl_6 3 (by decide) rfl mw_203 rfl dX5_addStep_21 ?_
  refine gx_top (v := 0) (by first | rfl | decide | simp [up2, gs0, h_21_3]) ?_
  refine lv_iload_n hx hb dX5_addStep_24 rfl (lv_at hl 1 rfl) ?_
  refine gx_iast S hK gx_ok hw t_22 0 rfl (gx_in rfl (by decide) (by decide)) dX5_addStep_25 (fun H locs hw => ?_)
  refine lv_aload_n hx hb dX5_addStep_26 rfl (lv_at hl 0 rfl) ?_
  refine lv_dup hx hb dX5_addStep_27 rfl ?_
  refine gx_get S hK hw t_21 cl_6 3 (by decide) rfl mw_203 rfl dX5_addStep_28 ?_
  refine gx_top (v := 0) (by first | rfl | decide | simp [up2, gs0, h_21_3]) ?_
  refine lv_iconst (v := 1) hx hb dX5_addStep_31 (by decide) ?_
  refine lv_iadd hx hb dX5_addStep_32 ?_
  refine gx_top (v := 1) (by decide) ?_
  refine gx_put S hK gx_ok hw t_21 cl_6 3 (by decide) rfl mw_203 rfl rfl (ty := .int) (v := 1) (by decide +kernel) rfl rfl dX5_addStep_33 (fun H locs hw => ?_)
  exact gx_rv (post := fun σ1 τ1 => (∀ c k : Nat, ¬ c = 22 → σ1 c k = (up2 σ 21 3 1) c k) ∧ τ1 = τ) S hr hlk hw dX5_addStep_36 ⟨(fun c9 k9 h9_0 => by simp [up2, upJ, h9_0]), rfl⟩
set_option maxHeartbeats 4000000 in
set_option maxRecDepth 100000 in
theorem c_Rule_addFact (l : Launch) {E : gE} (σ : gI) (τ : gJ)  (h_21_3 : σ 21 3 = 0) (h_21_9 : σ 21 9 = 0) (h_21_10 : σ 21 10 = 0) : gx_Mv l yX5_addFact cX5_addFact 2 none 1 gx_tb E (σ) (τ) [.ref (E.2.2 + 21), .int 0] (fun σ1 τ1 => (∀ c k : Nat, ¬ c = 22 → σ1 c k = (up2 (up2 (up2 (up2 (up2 (σ) 21 9 1) 21 10 0) 21 3 1) 21 7 3) 21 8 0) c k) ∧ τ1 = τ) := by
  refine gx_bv (by decide +kernel) (Nat.le_of_ble_eq_true rfl) ?_
  intro P9 e9 s m9 below meth C9 S hr hlk hK hw ls hl
  have S : CallFix P9 m9 C9 cX5_addFact 2 s _ gx_G RX5 := S
  have hx := S.1
  have hb := S.2.1
  have hl : lv_has ls 2 [(0, .ref (E.2.2 + 21)), (1, .int 0)] := hl
  refine lv_aload_n hx hb dX5_addFact_0 rfl (lv_at hl 0 rfl) ?_
  refine lv_dup hx hb dX5_addFact_1 rfl ?_
  refine gx_get S hK hw t_21 cl_6 9 (by decide) rfl mw_209 rfl dX5_addFact_2 ?_
  refine gx_top (v := 0) (by first | rfl | decide | simp [up2, gs0, h_21_3, h_21_9, h_21_10]) ?_
  refine lv_iload_n hx hb dX5_addFact_5 rfl (lv_at hl 1 rfl) ?_
  refine lv_if_ne (tgt := 13) hx hb dX5_addFact_6 (by decide) (fun h => absurd (by decide) h) (fun _ => ?_)
  refine lv_iconst (v := 1) hx hb dX5_addFact_9 (by decide) ?_
  refine lv_goto (tgt := 14) hx hb dX5_addFact_10 (by decide) ?_
  refine lv_ior hx hb dX5_addFact_14 ?_
  refine gx_top (v := 1) (by decide) ?_
  refine gx_put S hK gx_ok hw t_21 cl_6 9 (by decide) rfl mw_209 rfl rfl (ty := .boolean) (v := 1) (by decide +kernel) rfl rfl dX5_addFact_15 (fun H locs hw => ?_)
  refine lv_aload_n hx hb dX5_addFact_18 rfl (lv_at hl 0 rfl) ?_
  refine lv_dup hx hb dX5_addFact_19 rfl ?_
  refine gx_get S hK hw t_21 cl_6 10 (by decide) rfl mw_212 rfl dX5_addFact_20 ?_
  refine gx_top (v := 0) (by first | rfl | decide | simp [up2, gs0, h_21_3, h_21_9, h_21_10]) ?_
  refine lv_iload_n hx hb dX5_addFact_23 rfl (lv_at hl 1 rfl) ?_
  refine lv_bipush (v := 6) hx hb dX5_addFact_24 (by decide) ?_
  refine lv_icmp_ne (tgt := 33) hx hb dX5_addFact_26 (by decide) (fun _ => ?_) (fun h => absurd h (by decide))
  refine lv_iconst (v := 0) hx hb dX5_addFact_33 (by decide) ?_
  refine lv_ior hx hb dX5_addFact_34 ?_
  refine gx_top (v := 0) (by decide) ?_
  refine gx_put S hK gx_ok hw t_21 cl_6 10 (by decide) rfl mw_212 rfl rfl (ty := .boolean) (v := 0) (by decide +kernel) rfl rfl dX5_addFact_35 (fun H locs hw => ?_)
  refine lv_aload_n hx hb dX5_addFact_38 rfl (lv_at hl 0 rfl) ?_
  refine lv_iload_n hx hb dX5_addFact_39 rfl (lv_at hl 1 rfl) ?_
  refine gx_cVv (As := [.int 0]) (rest := []) S hK gx_ok hw (c_Rule_addStep l (E := E) (up2 (up2 (σ) 21 9 1) 21 10 0) (τ) (by first | rfl | decide | simp [up2, gs0, h_21_3, h_21_9, h_21_10])) cw_X5_84 t_21 cl_6 ⟨Nat.le_of_ble_eq_true rfl, Nat.le_of_ble_eq_true rfl⟩ rfl hl.1 rfl (Nat.le_of_ble_eq_true rfl) ⟨Nat.le_of_ble_eq_true rfl, Nat.le_of_ble_eq_true rfl⟩ dX5_addFact_40 (fun σ_1 τ_1 H locs hp hw => ?_)
  obtain ⟨hs_1, et_1⟩ := hp
  obtain rfl := et_1.symm
  refine lv_aload_n hx hb dX5_addFact_43 rfl (lv_at hl 0 rfl) ?_
  refine lv_iconst (v := 3) hx hb dX5_addFact_44 (by decide) ?_
  refine gx_put S hK gx_ok hw t_21 cl_6 7 (by decide) rfl mw_207 rfl rfl (ty := .int) (v := 3) (by decide +kernel) rfl rfl dX5_addFact_45 (fun H locs hw => ?_)
  refine lv_aload_n hx hb dX5_addFact_48 rfl (lv_at hl 0 rfl) ?_
  refine lv_iconst (v := 0) hx hb dX5_addFact_49 (by decide) ?_
  refine gx_put S hK gx_ok hw t_21 cl_6 8 (by decide) rfl mw_208 rfl rfl (ty := .boolean) (v := 0) (by decide +kernel) rfl rfl dX5_addFact_50 (fun H locs hw => ?_)
  exact gx_rv (post := fun σ1 τ1 => (∀ c k : Nat, ¬ c = 22 → σ1 c k = (up2 (up2 (up2 (up2 (up2 (σ) 21 9 1) 21 10 0) 21 3 1) 21 7 3) 21 8 0) c k) ∧ τ1 = τ) S hr hlk hw dX5_addFact_53 ⟨(fun c9 k9 h9_0 => by simp [up2, upJ, h9_0, hs_1]), (by first | rfl | simp [up2, upJ])⟩
set_option maxHeartbeats 4000000 in
set_option maxRecDepth 100000 in
theorem c_Rule_read (l : Launch) {E : gE} (σ : gI) (τ : gJ)  (h_1_2 : σ 1 2 = 0) : gx_Mi l yX5_read cX5_read 4 (some .int) 2 gx_tb E (σ) (τ) [.ref (E.2.2 + 21), .ref (E.2.2 + 1)] (fun r σ1 τ1 => r = 0 ∧ (∀ c k : Nat, ¬ c = 22 → ¬ (c = 1 ∧ k = 1) → σ1 c k = (up2 (up2 (up2 (up2 (up2 (up2 (up2 (up2 (up2 (up2 (up2 (up2 (up2 (σ) 21 3 0) 21 4 0) 21 5 0) 21 6 0) 21 7 0) 21 8 1) 21 9 0) 21 10 0) 21 9 1) 21 10 0) 21 3 1) 21 7 3) 21 8 0) c k) ∧ τ1 = τ) := by
  refine gx_bi (by decide +kernel) (Nat.le_of_ble_eq_true rfl) ?_
  intro P9 e9 s m9 below meth C9 S hr hlk hK hw ls hl
  have S : CallFix P9 m9 C9 cX5_read 4 s _ gx_G RX5 := S
  have hx := S.1
  have hb := S.2.1
  have hl : lv_has ls 4 [(0, .ref (E.2.2 + 21)), (1, .ref (E.2.2 + 1))] := hl
  refine lv_aload_n hx hb dX5_read_0 rfl (lv_at hl 0 rfl) ?_
  refine gx_cVv (As := []) (rest := []) S hK gx_ok hw (c_Rule_clear l (E := E) (σ) (τ) ) cw_X5_30 t_21 cl_6 ⟨Nat.le_of_ble_eq_true rfl, Nat.le_of_ble_eq_true rfl⟩ rfl hl.1 rfl (Nat.le_of_ble_eq_true rfl) ⟨Nat.le_of_ble_eq_true rfl, Nat.le_of_ble_eq_true rfl⟩ dX5_read_1 (fun σ_1 τ_1 H locs hp hw => ?_)
  obtain ⟨es_1, et_1⟩ := hp
  obtain rfl := es_1.symm
  obtain rfl := et_1.symm
  refine lv_aload_n hx hb dX5_read_4 rfl (lv_at hl 1 rfl) ?_
  refine lv_bipush (v := 40) hx hb dX5_read_5 (by decide) ?_
  refine gx_cVv (As := [.int 40]) (rest := []) S hK gx_ok hw (c_show l (E := E) (up2 (up2 (up2 (up2 (up2 (up2 (up2 (up2 ((σ)) 21 3 0) 21 4 0) 21 5 0) 21 6 0) 21 7 0) 21 8 1) 21 9 0) 21 10 0) (τ) 40 (by first | rfl | decide | simp [up2, gs0, h_1_2])) cw_X5_33 t_1 cl_8 ⟨Nat.le_of_ble_eq_true rfl, Nat.le_of_ble_eq_true rfl⟩ rfl hl.1 rfl (Nat.le_of_ble_eq_true rfl) ⟨Nat.le_of_ble_eq_true rfl, Nat.le_of_ble_eq_true rfl⟩ dX5_read_7 (fun σ_2 τ_2 H locs hp hw => ?_)
  obtain ⟨hs_2, et_2⟩ := hp
  obtain rfl := et_2.symm
  refine lv_aload_n hx hb dX5_read_10 rfl (lv_at hl 1 rfl) ?_
  refine lv_iconst (v := 0) hx hb dX5_read_11 (by decide) ?_
  refine gx_cVi (As := [.int 0]) (rest := []) S hK gx_ok hw (c_isOver l (E := E) (σ_2) (τ) (by first | rfl | decide | simp [up2, gs0, h_1_2, hs_2])) cw_X5_39 t_1 cl_8 ⟨Nat.le_of_ble_eq_true rfl, Nat.le_of_ble_eq_true rfl⟩ rfl hl.1 rfl (Nat.le_of_ble_eq_true rfl) ⟨Nat.le_of_ble_eq_true rfl, Nat.le_of_ble_eq_true rfl⟩ dX5_read_12 (fun r_3 σ_3 τ_3 H locs hp hw => ?_)
  obtain ⟨er_3, es_3, et_3⟩ := hp
  obtain rfl := er_3.symm
  obtain rfl := es_3.symm
  obtain rfl := et_3.symm
  refine lv_if_eq (tgt := 25) hx hb dX5_read_15 (by decide) (fun h => absurd h (by decide)) (fun _ => ?_)
  refine lv_aload_n hx hb dX5_read_18 rfl (lv_at hl 0 rfl) ?_
  refine lv_iconst (v := 0) hx hb dX5_read_19 (by decide) ?_
  refine gx_cVv (As := [.int 0]) (rest := []) S hK gx_ok hw (c_Rule_addFact l (E := E) (σ_2) (τ) (by first | rfl | decide | simp [up2, gs0, h_1_2, hs_2]) (by first | rfl | decide | simp [up2, gs0, h_1_2, hs_2]) (by first | rfl | decide | simp [up2, gs0, h_1_2, hs_2])) cw_X5_43 t_21 cl_6 ⟨Nat.le_of_ble_eq_true rfl, Nat.le_of_ble_eq_true rfl⟩ rfl hl.1 rfl (Nat.le_of_ble_eq_true rfl) ⟨Nat.le_of_ble_eq_true rfl, Nat.le_of_ble_eq_true rfl⟩ dX5_read_20 (fun σ_4 τ_4 H locs hp hw => ?_)
  obtain ⟨hs_4, et_4⟩ := hp
  obtain rfl := et_4.symm
  refine lv_iconst (v := 0) hx hb dX5_read_23 (by decide) ?_
  exact gx_ri (post := fun r σ1 τ1 => r = 0 ∧ (∀ c k : Nat, ¬ c = 22 → ¬ (c = 1 ∧ k = 1) → σ1 c k = (up2 (up2 (up2 (up2 (up2 (up2 (up2 (up2 (up2 (up2 (up2 (up2 (up2 (σ) 21 3 0) 21 4 0) 21 5 0) 21 6 0) 21 7 0) 21 8 1) 21 9 0) 21 10 0) 21 9 1) 21 10 0) 21 3 1) 21 7 3) 21 8 0) c k) ∧ τ1 = τ) (v := 0) S hr hlk hw rfl dX5_read_24 ⟨rfl, (fun c9 k9 h9_0 h9_1 => by simp [up2, upJ, h9_0, h9_1, hs_2, hs_4]), (by first | rfl | simp [up2, upJ])⟩
set_option maxHeartbeats 4000000 in
set_option maxRecDepth 100000 in
theorem c_Rule_copy (l : Launch) {E : gE} (σ : gI) (τ : gJ)  (h_21_9 : σ 21 9 = 1) (h_21_10 : σ 21 10 = 0) : gx_Mv l yX5_copy cX5_copy 3 none 0 gx_tb E (σ) (τ) [.ref (E.2.2 + 17), .ref (E.2.2 + 21)] (fun σ1 τ1 => (∀ c k : Nat, ¬ c = 17 → ¬ c = 18 → σ1 c k = (σ) c k) ∧ τ1 = τ) := by
  refine gx_bv (by decide +kernel) (Nat.le_of_ble_eq_true rfl) ?_
  intro P9 e9 s m9 below meth C9 S hr hlk hK hw ls hl
  have S : CallFix P9 m9 C9 cX5_copy 3 s _ gx_G RX5 := S
  have hx := S.1
  have hb := S.2.1
  have hl : lv_has ls 3 [(0, .ref (E.2.2 + 17)), (1, .ref (E.2.2 + 21))] := hl
  refine lv_aload_n hx hb dX5_copy_0 rfl (lv_at hl 0 rfl) ?_
  refine lv_aload_n hx hb dX5_copy_1 rfl (lv_at hl 1 rfl) ?_
  refine gx_get S hK hw t_21 cl_6 3 (by decide) rfl mw_203 rfl dX5_copy_2 ?_
  refine gx_put S hK gx_ok hw t_17 cl_6 3 (by decide) rfl mw_203 rfl rfl (ty := .int) (v := (σ) 21 3) (by decide +kernel) rfl rfl dX5_copy_5 (fun H locs hw => ?_)
  refine lv_aload_n hx hb dX5_copy_8 rfl (lv_at hl 0 rfl) ?_
  refine lv_aload_n hx hb dX5_copy_9 rfl (lv_at hl 1 rfl) ?_
  refine gx_get S hK hw t_21 cl_6 9 (by decide) rfl mw_209 rfl dX5_copy_10 ?_
  refine gx_top (v := 1) (by first | rfl | decide | simp [up2, gs0, h_21_9, h_21_10]) ?_
  refine gx_put S hK gx_ok hw t_17 cl_6 9 (by decide) rfl mw_209 rfl rfl (ty := .boolean) (v := 1) (by decide +kernel) rfl rfl dX5_copy_13 (fun H locs hw => ?_)
  refine lv_aload_n hx hb dX5_copy_16 rfl (lv_at hl 0 rfl) ?_
  refine lv_aload_n hx hb dX5_copy_17 rfl (lv_at hl 1 rfl) ?_
  refine gx_get S hK hw t_21 cl_6 10 (by decide) rfl mw_212 rfl dX5_copy_18 ?_
  refine gx_top (v := 0) (by first | rfl | decide | simp [up2, gs0, h_21_9, h_21_10]) ?_
  refine gx_put S hK gx_ok hw t_17 cl_6 10 (by decide) rfl mw_212 rfl rfl (ty := .boolean) (v := 0) (by decide +kernel) rfl rfl dX5_copy_21 (fun H locs hw => ?_)
  refine lv_iconst (v := 0) hx hb dX5_copy_24 (by decide) ?_
  refine lv_istore_n (lv' := [(2, .int 0), (0, .ref (E.2.2 + 17)), (1, .ref (E.2.2 + 21))]) hx hb dX5_copy_25 rfl hl (by decide) rfl (fun ls hl => ?_)
  have loop_1 : ∀ (n1 : Nat) (i : Nat) (σ1 : gI) (H : Heap) (locs : List Loc) (ls : Array Slot), 40 - i < n1 → (i ≤ 40) → (∀ c k : Nat, ¬ c = 17 → ¬ c = 18 → σ1 c k = (σ) c k) → gx_W gx_tb (gx_tb).length E s (σ1) (τ) H locs → lv_has ls 3 [(0, .ref (E.2.2 + 17)), (1, .ref (E.2.2 + 21)), (2, .int (nI i))] → W P9 l e9 (gx_rm 0) s m9 ([.ref (E.2.2 + 17), .ref (E.2.2 + 21)] : List Value).toArray below meth C9 H locs 0 0 (MQ below (va_Qv (fun (u : gI × gJ) => (fun σ1 τ1 => (∀ c k : Nat, ¬ c = 17 → ¬ c = 18 → σ1 c k = (σ) c k) ∧ τ1 = τ) u.1 u.2) (fun u t => gx_P gx_tb E u.1 u.2 t.heap) (gx_A (gx_tb).length E.2.2 s.heap.size)) ([.ref (E.2.2 + 17), .ref (E.2.2 + 21)] : List Value).toArray s 0 0 (gx_A (gx_tb).length E.2.2 s.heap.size)) (F0 m9 26 ls []) := by
    intro n1
    induction n1 with
    | zero => intro i σ1 H locs ls hm; exact absurd hm (Nat.not_lt_zero _)
    | succ n1 ih_1 =>
      intro i σ1 H locs ls hm hi hs_1 hw hl
      refine lv_iload_n hx hb dX5_copy_26 rfl (lv_at hl 2 rfl) ?_
      refine lv_bipush (v := 40) hx hb dX5_copy_27 (by decide) ?_
      refine lv_icmp_ge (tgt := 50) hx hb dX5_copy_29 (by decide) (fun c_2 => ?_) (fun c_2 => ?_)
      · exact gx_rv (post := fun σ1 τ1 => (∀ c k : Nat, ¬ c = 17 → ¬ c = 18 → σ1 c k = (σ) c k) ∧ τ1 = τ) S hr hlk hw dX5_copy_50 ⟨(fun c9 k9 h9_0 h9_1 => by simp [up2, upJ, h9_0, h9_1, hs_1]), rfl⟩
      · have hlt : i < 40 := gx_ilt (k := 40) rfl (by omega) c_2
        refine lv_aload_n hx hb dX5_copy_32 rfl (lv_at hl 0 rfl) ?_
        refine gx_getr (j := 18) S hK hw t_17 cl_6 0 (by decide) rfl mw_200 rfl dX5_copy_33 ?_
        refine lv_iload_n hx hb dX5_copy_36 rfl (lv_at hl 2 rfl) ?_
        refine lv_aload_n hx hb dX5_copy_37 rfl (lv_at hl 1 rfl) ?_
        refine gx_getr (j := 22) S hK hw t_21 cl_6 0 (by decide) rfl mw_200 rfl dX5_copy_38 ?_
        refine lv_iload_n hx hb dX5_copy_41 rfl (lv_at hl 2 rfl) ?_
        refine gx_iald S hK hw t_22 i (nI_clamp (by omega)) (vp_in_nI (by omega) (by omega)) dX5_copy_42 ?_
        refine gx_iast S hK gx_ok hw t_18 i (nI_clamp (by omega)) (vp_in_nI (by omega) (by omega)) dX5_copy_43 (fun H locs hw => ?_)
        refine lv_iinc (v := nI (i + 1)) (lv' := [(2, .int (nI (i + 1))), (0, .ref (E.2.2 + 17)), (1, .ref (E.2.2 + 21))]) hx hb dX5_copy_44 hl (k := 2) rfl (nI_1 _) (by decide) rfl (fun ls hl => ?_)
        refine lv_goto (tgt := 26) hx hb dX5_copy_47 (by decide) ?_
        exact ih_1 (i + 1) (up2 (σ1) 18 i ((σ1) 22 i)) _ _ _ (by omega) (by omega) (fun c9 k9 h9_0 h9_1 => by simp [up2, upJ, h9_0, h9_1, hs_1]) hw (lv_sub hl [1, 2, 0] rfl)
  exact loop_1 (40 + 1) 0 (up2 (up2 (up2 (σ) 17 3 ((σ) 21 3)) 17 9 1) 17 10 0) _ _ _ (by omega) (by omega) (fun c9 k9 h9_0 h9_1 => by simp [up2, upJ, h9_0, h9_1]) hw (lv_sub hl [1, 2, 0] rfl)
set_option maxHeartbeats 4000000 in
set_option maxRecDepth 100000 in
theorem c_Scene_clear (l : Launch) {E : gE} (σ : gI) (τ : gJ) (c : Nat) (tc : gx_tb[c]? = some (.inl (7, [some (some (c + 1)), some (some (c + 2)), some (some (c + 3)), some (some (c + 4)), some (some (c + 5)), some (some (c + 6)), none, none, none, none, none]))) : gx_Mv l yX6_clear cX6_clear 1 none 0 gx_tb E (σ) (τ) [.ref (E.2.2 + c)] (fun σ1 τ1 => σ1 = up2 (up2 (up2 (up2 (up2 (σ) c 6 0) c 7 0) c 8 0) c 9 0) c 10 0 ∧ τ1 = τ) := by
  refine gx_bv (by decide +kernel) (Nat.le_of_ble_eq_true rfl) ?_
  intro P9 e9 s m9 below meth C9 S hr hlk hK hw ls hl
  have S : CallFix P9 m9 C9 cX6_clear 1 s _ gx_G RX6 := S
  have hx := S.1
  have hb := S.2.1
  have hl : lv_has ls 1 [(0, .ref (E.2.2 + c))] := hl
  refine lv_aload_n hx hb dX6_clear_0 rfl (lv_at hl 0 rfl) ?_
  refine lv_iconst (v := 0) hx hb dX6_clear_1 (by decide) ?_
  refine gx_put S hK gx_ok hw tc cl_7 6 (by decide) rfl mw_270 rfl rfl (ty := .int) (v := 0) (by decide +kernel) rfl rfl dX6_clear_2 (fun H locs hw => ?_)
  refine lv_aload_n hx hb dX6_clear_5 rfl (lv_at hl 0 rfl) ?_
  refine lv_iconst (v := 0) hx hb dX6_clear_6 (by decide) ?_
  refine gx_put S hK gx_ok hw tc cl_7 7 (by decide) rfl mw_273 rfl rfl (ty := .int) (v := 0) (by decide +kernel) rfl rfl dX6_clear_7 (fun H locs hw => ?_)
  refine lv_aload_n hx hb dX6_clear_10 rfl (lv_at hl 0 rfl) ?_
  refine lv_iconst (v := 0) hx hb dX6_clear_11 (by decide) ?_
  refine gx_put S hK gx_ok hw tc cl_7 8 (by decide) rfl mw_277 rfl rfl (ty := .int) (v := 0) (by decide +kernel) rfl rfl dX6_clear_12 (fun H locs hw => ?_)
  refine lv_aload_n hx hb dX6_clear_15 rfl (lv_at hl 0 rfl) ?_
  refine lv_iconst (v := 0) hx hb dX6_clear_16 (by decide) ?_
  refine gx_put S hK gx_ok hw tc cl_7 9 (by decide) rfl mw_281 rfl rfl (ty := .int) (v := 0) (by decide +kernel) rfl rfl dX6_clear_17 (fun H locs hw => ?_)
  refine lv_aload_n hx hb dX6_clear_20 rfl (lv_at hl 0 rfl) ?_
  refine lv_iconst (v := 0) hx hb dX6_clear_21 (by decide) ?_
  refine gx_put S hK gx_ok hw tc cl_7 10 (by decide) rfl mw_284 rfl rfl (ty := .int) (v := 0) (by decide +kernel) rfl rfl dX6_clear_22 (fun H locs hw => ?_)
  exact gx_rv (post := fun σ1 τ1 => σ1 = up2 (up2 (up2 (up2 (up2 (σ) c 6 0) c 7 0) c 8 0) c 9 0) c 10 0 ∧ τ1 = τ) S hr hlk hw dX6_clear_25 ⟨rfl, rfl⟩
set_option maxHeartbeats 4000000 in
set_option maxRecDepth 100000 in
theorem c_Scene_copy (l : Launch) {E : gE} (σ : gI) (τ : gJ) (c d : Nat) (h_d_6 : σ d 6 = 0) (h_d_7 : σ d 7 = 0) (h_d_8 : σ d 8 = 0) (h_d_9 : σ d 9 = 0) (h_d_10 : σ d 10 = 0) (tc : gx_tb[c]? = some (.inl (7, [some (some (c + 1)), some (some (c + 2)), some (some (c + 3)), some (some (c + 4)), some (some (c + 5)), some (some (c + 6)), none, none, none, none, none]))) (td : gx_tb[d]? = some (.inl (7, [some (some (d + 1)), some (some (d + 2)), some (some (d + 3)), some (some (d + 4)), some (some (d + 5)), some (some (d + 6)), none, none, none, none, none]))) (hcd : ¬ c = d) (hdc : ¬ d = c) : gx_Mv l yX6_copy cX6_copy 3 none 0 gx_tb E (σ) (τ) [.ref (E.2.2 + c), .ref (E.2.2 + d)] (fun σ1 τ1 => σ1 = up2 (up2 (up2 (up2 (up2 (σ) c 6 0) c 7 0) c 8 0) c 9 0) c 10 0 ∧ τ1 = τ) := by
  refine gx_bv (by decide +kernel) (Nat.le_of_ble_eq_true rfl) ?_
  intro P9 e9 s m9 below meth C9 S hr hlk hK hw ls hl
  have S : CallFix P9 m9 C9 cX6_copy 3 s _ gx_G RX6 := S
  have hx := S.1
  have hb := S.2.1
  have hl : lv_has ls 3 [(0, .ref (E.2.2 + c)), (1, .ref (E.2.2 + d))] := hl
  refine lv_aload_n hx hb dX6_copy_0 rfl (lv_at hl 0 rfl) ?_
  refine lv_aload_n hx hb dX6_copy_1 rfl (lv_at hl 1 rfl) ?_
  refine gx_get S hK hw td cl_7 6 (by decide) rfl mw_270 rfl dX6_copy_2 ?_
  refine gx_top (v := 0) (by first | rfl | decide | simp [up2, gs0, h_d_6, h_d_7, h_d_8, h_d_9, h_d_10, tc, td, hcd, hdc]) ?_
  refine gx_put S hK gx_ok hw tc cl_7 6 (by decide) rfl mw_270 rfl rfl (ty := .int) (v := 0) (by decide +kernel) rfl rfl dX6_copy_5 (fun H locs hw => ?_)
  refine lv_aload_n hx hb dX6_copy_8 rfl (lv_at hl 0 rfl) ?_
  refine lv_aload_n hx hb dX6_copy_9 rfl (lv_at hl 1 rfl) ?_
  refine gx_get S hK hw td cl_7 7 (by decide) rfl mw_273 rfl dX6_copy_10 ?_
  refine gx_top (v := 0) (by first | rfl | decide | simp [up2, gs0, h_d_6, h_d_7, h_d_8, h_d_9, h_d_10, tc, td, hcd, hdc]) ?_
  refine gx_put S hK gx_ok hw tc cl_7 7 (by decide) rfl mw_273 rfl rfl (ty := .int) (v := 0) (by decide +kernel) rfl rfl dX6_copy_13 (fun H locs hw => ?_)
  refine lv_aload_n hx hb dX6_copy_16 rfl (lv_at hl 0 rfl) ?_
  refine lv_aload_n hx hb dX6_copy_17 rfl (lv_at hl 1 rfl) ?_
  refine gx_get S hK hw td cl_7 8 (by decide) rfl mw_277 rfl dX6_copy_18 ?_
  refine gx_top (v := 0) (by first | rfl | decide | simp [up2, gs0, h_d_6, h_d_7, h_d_8, h_d_9, h_d_10, tc, td, hcd, hdc]) ?_
  refine gx_put S hK gx_ok hw tc cl_7 8 (by decide) rfl mw_277 rfl rfl (ty := .int) (v := 0) (by decide +kernel) rfl rfl dX6_copy_21 (fun H locs hw => ?_)
  refine lv_aload_n hx hb dX6_copy_24 rfl (lv_at hl 0 rfl) ?_
  refine lv_aload_n hx hb dX6_copy_25 rfl (lv_at hl 1 rfl) ?_
  refine gx_get S hK hw td cl_7 9 (by decide) rfl mw_281 rfl dX6_copy_26 ?_
  refine gx_top (v := 0) (by first | rfl | decide | simp [up2, gs0, h_d_6, h_d_7, h_d_8, h_d_9, h_d_10, tc, td, hcd, hdc]) ?_
  refine gx_put S hK gx_ok hw tc cl_7 9 (by decide) rfl mw_281 rfl rfl (ty := .int) (v := 0) (by decide +kernel) rfl rfl dX6_copy_29 (fun H locs hw => ?_)
  refine lv_aload_n hx hb dX6_copy_32 rfl (lv_at hl 0 rfl) ?_
  refine lv_aload_n hx hb dX6_copy_33 rfl (lv_at hl 1 rfl) ?_
  refine gx_get S hK hw td cl_7 10 (by decide) rfl mw_284 rfl dX6_copy_34 ?_
  refine gx_top (v := 0) (by first | rfl | decide | simp [up2, gs0, h_d_6, h_d_7, h_d_8, h_d_9, h_d_10, tc, td, hcd, hdc]) ?_
  refine gx_put S hK gx_ok hw tc cl_7 10 (by decide) rfl mw_284 rfl rfl (ty := .int) (v := 0) (by decide +kernel) rfl rfl dX6_copy_37 (fun H locs hw => ?_)
  refine lv_iconst (v := 0) hx hb dX6_copy_40 (by decide) ?_
  refine lv_istore_n (lv' := [(2, .int 0), (0, .ref (E.2.2 + c)), (1, .ref (E.2.2 + d))]) hx hb dX6_copy_41 rfl hl (by decide) rfl (fun ls hl => ?_)
  refine lv_iload_n hx hb dX6_copy_42 rfl (lv_at hl 0 rfl) ?_
  refine lv_aload_n hx hb dX6_copy_43 rfl (lv_at hl 1 rfl) ?_
  refine gx_get S hK hw tc cl_7 6 (by decide) rfl mw_270 rfl dX6_copy_44 ?_
  refine gx_top (v := 0) (by first | rfl | decide | simp [up2, gs0, h_d_6, h_d_7, h_d_8, h_d_9, h_d_10, tc, td, hcd, hdc]) ?_
  refine lv_icmp_ge (tgt := 134) hx hb dX6_copy_47 (by decide) (fun _ => ?_) (fun h => absurd (by decide) h)
  exact gx_rv (post := fun σ1 τ1 => σ1 = up2 (up2 (up2 (up2 (up2 (σ) c 6 0) c 7 0) c 8 0) c 9 0) c 10 0 ∧ τ1 = τ) S hr hlk hw dX6_copy_134 ⟨rfl, rfl⟩
set_option maxHeartbeats 4000000 in
set_option maxRecDepth 100000 in
theorem c_Scene_has (l : Launch) {E : gE} (σ : gI) (τ : gJ) (c : Nat) (i : Int32) (h_c_6 : σ c 6 = 0) (tc : gx_tb[c]? = some (.inl (7, [some (some (c + 1)), some (some (c + 2)), some (some (c + 3)), some (some (c + 4)), some (some (c + 5)), some (some (c + 6)), none, none, none, none, none]))) : gx_Mi l yX6_has cX6_has 2 (some .boolean) 0 gx_tb E (σ) (τ) [.ref (E.2.2 + c), .int i] (fun r σ1 τ1 => r = 0 ∧ σ1 = σ ∧ τ1 = τ) := by
  refine gx_bi (by decide +kernel) (Nat.le_of_ble_eq_true rfl) ?_
  intro P9 e9 s m9 below meth C9 S hr hlk hK hw ls hl
  have S : CallFix P9 m9 C9 cX6_has 2 s _ gx_G RX6 := S
  have hx := S.1
  have hb := S.2.1
  have hl : lv_has ls 2 [(0, .ref (E.2.2 + c)), (1, .int i)] := hl
  refine lv_iload_n hx hb dX6_has_0 rfl (lv_at hl 1 rfl) ?_
  refine lv_if_lt (tgt := 16) hx hb dX6_has_1 (by decide) (fun c_1 => ?_) (fun c_1 => ?_)
  · refine lv_iconst (v := 0) hx hb dX6_has_16 (by decide) ?_
    exact gx_ri (post := fun r σ1 τ1 => r = 0 ∧ σ1 = σ ∧ τ1 = τ) (v := 0) S hr hlk hw rfl dX6_has_17 ⟨rfl, rfl, rfl⟩
  · refine lv_iload_n hx hb dX6_has_4 rfl (lv_at hl 1 rfl) ?_
    refine lv_aload_n hx hb dX6_has_5 rfl (lv_at hl 0 rfl) ?_
    refine gx_get S hK hw tc cl_7 6 (by decide) rfl mw_270 rfl dX6_has_6 ?_
    refine gx_top (v := 0) (by first | rfl | decide | simp [up2, gs0, h_c_6, tc]) ?_
    refine lv_icmp_ge (tgt := 16) hx hb dX6_has_9 (by decide) (fun c_2 => ?_) (fun c_2 => ?_)
    · refine lv_iconst (v := 0) hx hb dX6_has_16 (by decide) ?_
      exact gx_ri (post := fun r σ1 τ1 => r = 0 ∧ σ1 = σ ∧ τ1 = τ) (v := 0) S hr hlk hw rfl dX6_has_17 ⟨rfl, rfl, rfl⟩
    · refine lv_iconst (v := 1) hx hb dX6_has_12 (by decide) ?_
      refine lv_goto (tgt := 17) hx hb dX6_has_13 (by decide) ?_
      exact gx_ri (post := fun r σ1 τ1 => r = 0 ∧ σ1 = σ ∧ τ1 = τ) (v := 1) S hr hlk hw rfl dX6_has_17 ⟨(by exfalso; simp only [fa_lt, fa_le, fa_eq, show (0 : Int32).toInt = 0 from rfl] at c_1 c_2; omega), rfl, rfl⟩
set_option maxHeartbeats 4000000 in
set_option maxRecDepth 100000 in
theorem c_Scene_isOnWay (l : Launch) {E : gE} (σ : gI) (τ : gJ) (c : Nat) (i : Int32) (h_c_6 : σ c 6 = 0) (tc : gx_tb[c]? = some (.inl (7, [some (some (c + 1)), some (some (c + 2)), some (some (c + 3)), some (some (c + 4)), some (some (c + 5)), some (some (c + 6)), none, none, none, none, none]))) : gx_Mi l yX6_isOnWay cX6_isOnWay 2 (some .boolean) 0 gx_tb E (σ) (τ) [.ref (E.2.2 + c), .int i] (fun r σ1 τ1 => r = 0 ∧ σ1 = σ ∧ τ1 = τ) := by
  refine gx_bi (by decide +kernel) (Nat.le_of_ble_eq_true rfl) ?_
  intro P9 e9 s m9 below meth C9 S hr hlk hK hw ls hl
  have S : CallFix P9 m9 C9 cX6_isOnWay 2 s _ gx_G RX6 := S
  have hx := S.1
  have hb := S.2.1
  have hl : lv_has ls 2 [(0, .ref (E.2.2 + c)), (1, .int i)] := hl
  refine lv_iload_n hx hb dX6_isOnWay_0 rfl (lv_at hl 1 rfl) ?_
  refine lv_if_lt (tgt := 32) hx hb dX6_isOnWay_1 (by decide) (fun c_1 => ?_) (fun c_1 => ?_)
  · refine lv_iconst (v := 0) hx hb dX6_isOnWay_32 (by decide) ?_
    exact gx_ri (post := fun r σ1 τ1 => r = 0 ∧ σ1 = σ ∧ τ1 = τ) (v := 0) S hr hlk hw rfl dX6_isOnWay_33 ⟨rfl, rfl, rfl⟩
  · refine lv_iload_n hx hb dX6_isOnWay_4 rfl (lv_at hl 1 rfl) ?_
    refine lv_aload_n hx hb dX6_isOnWay_5 rfl (lv_at hl 0 rfl) ?_
    refine gx_get S hK hw tc cl_7 6 (by decide) rfl mw_270 rfl dX6_isOnWay_6 ?_
    refine gx_top (v := 0) (by first | rfl | decide | simp [up2, gs0, h_c_6, tc]) ?_
    refine lv_icmp_ge (tgt := 32) hx hb dX6_isOnWay_9 (by decide) (fun c_2 => ?_) (fun c_2 => ?_)
    · refine lv_iconst (v := 0) hx hb dX6_isOnWay_32 (by decide) ?_
      exact gx_ri (post := fun r σ1 τ1 => r = 0 ∧ σ1 = σ ∧ τ1 = τ) (v := 0) S hr hlk hw rfl dX6_isOnWay_33 ⟨rfl, rfl, rfl⟩
    · refine lv_aload_n hx hb dX6_isOnWay_12 rfl (lv_at hl 0 rfl) ?_
      refine gx_get S hK hw tc cl_7 9 (by decide) rfl mw_281 rfl dX6_isOnWay_13 ?_
      refine lv_aload_n hx hb dX6_isOnWay_16 rfl (lv_at hl 0 rfl) ?_
      refine gx_get S hK hw tc cl_7 10 (by decide) rfl mw_284 rfl dX6_isOnWay_17 ?_
      refine lv_ior hx hb dX6_isOnWay_20 ?_
      refine lv_iload_n hx hb dX6_isOnWay_21 rfl (lv_at hl 1 rfl) ?_
      refine lv_ishr hx hb dX6_isOnWay_22 ?_
      refine lv_iconst (v := 1) hx hb dX6_isOnWay_23 (by decide) ?_
      refine lv_iand hx hb dX6_isOnWay_24 ?_
      refine lv_if_ne (tgt := 32) hx hb dX6_isOnWay_25 (by decide) (fun c_3 => ?_) (fun c_3 => ?_)
      · refine lv_iconst (v := 0) hx hb dX6_isOnWay_32 (by decide) ?_
        exact gx_ri (post := fun r σ1 τ1 => r = 0 ∧ σ1 = σ ∧ τ1 = τ) (v := 0) S hr hlk hw rfl dX6_isOnWay_33 ⟨rfl, rfl, rfl⟩
      · refine lv_iconst (v := 1) hx hb dX6_isOnWay_28 (by decide) ?_
        refine lv_goto (tgt := 33) hx hb dX6_isOnWay_29 (by decide) ?_
        exact gx_ri (post := fun r σ1 τ1 => r = 0 ∧ σ1 = σ ∧ τ1 = τ) (v := 1) S hr hlk hw rfl dX6_isOnWay_33 ⟨(by exfalso; simp only [fa_lt, fa_le, fa_eq, show (0 : Int32).toInt = 0 from rfl, show (1 : Int32).toInt = 1 from rfl, show (9 : Int32).toInt = 9 from rfl, show (10 : Int32).toInt = 10 from rfl, show (31 : Int32).toInt = 31 from rfl] at c_1 c_2 c_3; omega), rfl, rfl⟩
set_option maxHeartbeats 4000000 in
set_option maxRecDepth 100000 in
theorem c_Scene_onWay (l : Launch) {E : gE} (σ : gI) (τ : gJ) (c : Nat) (h_c_6 : σ c 6 = 0) (h_c_9 : σ c 9 = 0) (h_c_10 : σ c 10 = 0) (tc : gx_tb[c]? = some (.inl (7, [some (some (c + 1)), some (some (c + 2)), some (some (c + 3)), some (some (c + 4)), some (some (c + 5)), some (some (c + 6)), none, none, none, none, none]))) : gx_Mi l yX6_onWay cX6_onWay 1 (some .int) 0 gx_tb E (σ) (τ) [.ref (E.2.2 + c)] (fun r σ1 τ1 => r = 0 ∧ σ1 = σ ∧ τ1 = τ) := by
  refine gx_bi (by decide +kernel) (Nat.le_of_ble_eq_true rfl) ?_
  intro P9 e9 s m9 below meth C9 S hr hlk hK hw ls hl
  have S : CallFix P9 m9 C9 cX6_onWay 1 s _ gx_G RX6 := S
  have hx := S.1
  have hb := S.2.1
  have hl : lv_has ls 1 [(0, .ref (E.2.2 + c))] := hl
  refine lv_iconst (v := 1) hx hb dX6_onWay_0 (by decide) ?_
  refine lv_aload_n hx hb dX6_onWay_1 rfl (lv_at hl 0 rfl) ?_
  refine gx_get S hK hw tc cl_7 6 (by decide) rfl mw_270 rfl dX6_onWay_2 ?_
  refine gx_top (v := 0) (by first | rfl | decide | simp [up2, gs0, h_c_6, h_c_9, h_c_10, tc]) ?_
  refine lv_ishl hx hb dX6_onWay_5 ?_
  refine gx_top (v := 1) (by decide) ?_
  refine lv_iconst (v := 1) hx hb dX6_onWay_6 (by decide) ?_
  refine lv_isub hx hb dX6_onWay_7 ?_
  refine gx_top (v := 0) (by decide) ?_
  refine lv_aload_n hx hb dX6_onWay_8 rfl (lv_at hl 0 rfl) ?_
  refine gx_get S hK hw tc cl_7 9 (by decide) rfl mw_281 rfl dX6_onWay_9 ?_
  refine gx_top (v := 0) (by first | rfl | decide | simp [up2, gs0, h_c_6, h_c_9, h_c_10, tc]) ?_
  refine lv_aload_n hx hb dX6_onWay_12 rfl (lv_at hl 0 rfl) ?_
  refine gx_get S hK hw tc cl_7 10 (by decide) rfl mw_284 rfl dX6_onWay_13 ?_
  refine gx_top (v := 0) (by first | rfl | decide | simp [up2, gs0, h_c_6, h_c_9, h_c_10, tc]) ?_
  refine lv_ior hx hb dX6_onWay_16 ?_
  refine gx_top (v := 0) (by decide) ?_
  refine lv_iconst (v := (-1)) hx hb dX6_onWay_17 (by decide) ?_
  refine lv_ixor hx hb dX6_onWay_18 ?_
  refine gx_top (v := (-1)) (by decide) ?_
  refine lv_iand hx hb dX6_onWay_19 ?_
  refine gx_top (v := 0) (by decide) ?_
  exact gx_ri (post := fun r σ1 τ1 => r = 0 ∧ σ1 = σ ∧ τ1 = τ) (v := 0) S hr hlk hw rfl dX6_onWay_20 ⟨rfl, rfl, rfl⟩
set_option maxHeartbeats 4000000 in
set_option maxRecDepth 100000 in
theorem c_Scene_holdBack (l : Launch) {E : gE} (σ : gI) (τ : gJ) (c : Nat) (b : Int32) (h_c_6 : σ c 6 = 0) (tc : gx_tb[c]? = some (.inl (7, [some (some (c + 1)), some (some (c + 2)), some (some (c + 3)), some (some (c + 4)), some (some (c + 5)), some (some (c + 6)), none, none, none, none, none]))) : gx_Mv l yX6_holdBack cX6_holdBack 3 none 0 gx_tb E (σ) (τ) [.ref (E.2.2 + c), .int b] (fun σ1 τ1 => σ1 = σ ∧ τ1 = τ) := by
  refine gx_bv (by decide +kernel) (Nat.le_of_ble_eq_true rfl) ?_
  intro P9 e9 s m9 below meth C9 S hr hlk hK hw ls hl
  have S : CallFix P9 m9 C9 cX6_holdBack 3 s _ gx_G RX6 := S
  have hx := S.1
  have hb := S.2.1
  have hl : lv_has ls 3 [(0, .ref (E.2.2 + c)), (1, .int b)] := hl
  refine lv_iconst (v := 0) hx hb dX6_holdBack_0 (by decide) ?_
  refine lv_istore_n (lv' := [(2, .int 0), (0, .ref (E.2.2 + c)), (1, .int b)]) hx hb dX6_holdBack_1 rfl hl (by decide) rfl (fun ls hl => ?_)
  refine lv_iload_n hx hb dX6_holdBack_2 rfl (lv_at hl 0 rfl) ?_
  refine lv_aload_n hx hb dX6_holdBack_3 rfl (lv_at hl 1 rfl) ?_
  refine gx_get S hK hw tc cl_7 6 (by decide) rfl mw_270 rfl dX6_holdBack_4 ?_
  refine gx_top (v := 0) (by first | rfl | decide | simp [up2, gs0, h_c_6, tc]) ?_
  refine lv_icmp_ge (tgt := 47) hx hb dX6_holdBack_7 (by decide) (fun _ => ?_) (fun h => absurd (by decide) h)
  exact gx_rv (post := fun σ1 τ1 => σ1 = σ ∧ τ1 = τ) S hr hlk hw dX6_holdBack_47 ⟨rfl, rfl⟩
set_option maxHeartbeats 4000000 in
set_option maxRecDepth 100000 in
theorem c_Scene_spotOf0 (l : Launch) {E : gE} (σ : gI) (τ : gJ)  (h_172_0 : σ 172 0 = 0) : gx_Mi l yX6_spotOf cX6_spotOf 2 (some .int) 0 gx_tb E (σ) (τ) [.ref (E.2.2 + 171), .int 0] (fun r σ1 τ1 => r = 0 ∧ σ1 = σ ∧ τ1 = τ) := by
  refine gx_bi (by decide +kernel) (Nat.le_of_ble_eq_true rfl) ?_
  intro P9 e9 s m9 below meth C9 S hr hlk hK hw ls hl
  have S : CallFix P9 m9 C9 cX6_spotOf 2 s _ gx_G RX6 := S
  have hx := S.1
  have hb := S.2.1
  have hl : lv_has ls 2 [(0, .ref (E.2.2 + 171)), (1, .int 0)] := hl
  refine lv_iload_n hx hb dX6_spotOf_0 rfl (lv_at hl 1 rfl) ?_
  refine lv_if_lt (tgt := 19) hx hb dX6_spotOf_1 (by decide) (fun h => absurd h (by decide)) (fun _ => ?_)
  refine lv_iload_n hx hb dX6_spotOf_4 rfl (lv_at hl 1 rfl) ?_
  refine lv_bipush (v := 6) hx hb dX6_spotOf_5 (by decide) ?_
  refine lv_icmp_ge (tgt := 19) hx hb dX6_spotOf_7 (by decide) (fun h => absurd h (by decide)) (fun _ => ?_)
  refine lv_aload_n hx hb dX6_spotOf_10 rfl (lv_at hl 0 rfl) ?_
  refine gx_getr (j := 172) S hK hw t_171 cl_7 0 (by decide) rfl mw_264 rfl dX6_spotOf_11 ?_
  refine lv_iload_n hx hb dX6_spotOf_14 rfl (lv_at hl 1 rfl) ?_
  refine gx_iald S hK hw t_172 0 rfl (gx_in rfl (by decide) (by decide)) dX6_spotOf_15 ?_
  refine gx_top (v := 0) (by first | rfl | decide | simp [up2, gs0, h_172_0]) ?_
  refine lv_goto (tgt := 20) hx hb dX6_spotOf_16 (by decide) ?_
  exact gx_ri (post := fun r σ1 τ1 => r = 0 ∧ σ1 = σ ∧ τ1 = τ) (v := 0) S hr hlk hw rfl dX6_spotOf_20 ⟨rfl, rfl, rfl⟩
set_option maxHeartbeats 4000000 in
set_option maxRecDepth 100000 in
theorem c_Past_clear (l : Launch) {E : gE} (σ : gI) (τ : gJ)   : gx_Mv l yX3_clear cX3_clear 1 none 0 gx_tb E (σ) (τ) [.ref (E.2.2 + 44)] (fun σ1 τ1 => σ1 = up2 σ 44 2 0 ∧ τ1 = τ) := by
  refine gx_bv (by decide +kernel) (Nat.le_of_ble_eq_true rfl) ?_
  intro P9 e9 s m9 below meth C9 S hr hlk hK hw ls hl
  have S : CallFix P9 m9 C9 cX3_clear 1 s _ gx_G RX3 := S
  have hx := S.1
  have hb := S.2.1
  have hl : lv_has ls 1 [(0, .ref (E.2.2 + 44))] := hl
  refine lv_aload_n hx hb dX3_clear_0 rfl (lv_at hl 0 rfl) ?_
  refine lv_iconst (v := 0) hx hb dX3_clear_1 (by decide) ?_
  refine gx_put S hK gx_ok hw t_44 cl_4 2 (by decide) rfl mw_321 rfl rfl (ty := .int) (v := 0) (by decide +kernel) rfl rfl dX3_clear_2 (fun H locs hw => ?_)
  exact gx_rv (post := fun σ1 τ1 => σ1 = up2 σ 44 2 0 ∧ τ1 = τ) S hr hlk hw dX3_clear_5 ⟨(by first | rfl | simp [up2, upJ]), rfl⟩
set_option maxHeartbeats 4000000 in
set_option maxRecDepth 100000 in
theorem c_Past_push (l : Launch) {E : gE} (σ : gI) (τ : gJ) (d : Nat) (h_d_6 : σ d 6 = 0) (h_d_7 : σ d 7 = 0) (h_d_8 : σ d 8 = 0) (h_d_9 : σ d 9 = 0) (h_d_10 : σ d 10 = 0) (h_44_1 : σ 44 1 = 0) (h_44_2 : σ 44 2 = 0) (td : gx_tb[d]? = some (.inl (7, [some (some (d + 1)), some (some (d + 2)), some (some (d + 3)), some (some (d + 4)), some (some (d + 5)), some (some (d + 6)), none, none, none, none, none]))) (hd : ¬ d = 46) (hd2 : ¬ 46 = d) : gx_Mv l yX3_push cX3_push 2 none 1 gx_tb E (σ) (τ) [.ref (E.2.2 + 44), .ref (E.2.2 + d)] (fun σ1 τ1 => σ1 = up2 (up2 (up2 (up2 (up2 (up2 (up2 (σ) 46 6 0) 46 7 0) 46 8 0) 46 9 0) 46 10 0) 44 1 1) 44 2 1 ∧ τ1 = τ) := by
  refine gx_bv (by decide +kernel) (Nat.le_of_ble_eq_true rfl) ?_
  intro P9 e9 s m9 below meth C9 S hr hlk hK hw ls hl
  have S : CallFix P9 m9 C9 cX3_push 2 s _ gx_G RX3 := S
  have hx := S.1
  have hb := S.2.1
  have hl : lv_has ls 2 [(0, .ref (E.2.2 + 44)), (1, .ref (E.2.2 + d))] := hl
  refine lv_aload_n hx hb dX3_push_0 rfl (lv_at hl 0 rfl) ?_
  refine gx_get S hK hw t_44 cl_4 1 (by decide) rfl mw_320 rfl dX3_push_1 ?_
  refine gx_top (v := 0) (by first | rfl | decide | simp [up2, gs0, h_d_6, h_d_7, h_d_8, h_d_9, h_d_10, h_44_1, h_44_2, td, hd, hd2]) ?_
  refine lv_if_lt (tgt := 16) hx hb dX3_push_4 (by decide) (fun h => absurd h (by decide)) (fun _ => ?_)
  refine lv_aload_n hx hb dX3_push_7 rfl (lv_at hl 0 rfl) ?_
  refine gx_get S hK hw t_44 cl_4 1 (by decide) rfl mw_320 rfl dX3_push_8 ?_
  refine gx_top (v := 0) (by first | rfl | decide | simp [up2, gs0, h_d_6, h_d_7, h_d_8, h_d_9, h_d_10, h_44_1, h_44_2, td, hd, hd2]) ?_
  refine lv_bipush (v := 15) hx hb dX3_push_11 (by decide) ?_
  refine lv_icmp_lt (tgt := 17) hx hb dX3_push_13 (by decide) (fun _ => ?_) (fun h => absurd (by decide) h)
  refine lv_aload_n hx hb dX3_push_17 rfl (lv_at hl 0 rfl) ?_
  refine gx_getr (j := 45) S hK hw t_44 cl_4 0 (by decide) rfl mw_319 rfl dX3_push_18 ?_
  refine lv_aload_n hx hb dX3_push_21 rfl (lv_at hl 0 rfl) ?_
  refine gx_get S hK hw t_44 cl_4 1 (by decide) rfl mw_320 rfl dX3_push_22 ?_
  refine gx_top (v := 0) (by first | rfl | decide | simp [up2, gs0, h_d_6, h_d_7, h_d_8, h_d_9, h_d_10, h_44_1, h_44_2, td, hd, hd2]) ?_
  refine gx_aald (r := 46) S hK hw t_45 0 rfl (gx_in rfl (by decide) (by decide)) rfl dX3_push_25 ?_
  refine lv_aload_n hx hb dX3_push_26 rfl (lv_at hl 1 rfl) ?_
  refine gx_cVv (As := [.ref (E.2.2 + d)]) (rest := []) S hK gx_ok hw (c_Scene_copy l (E := E) (σ) (τ) 46 d (by first | rfl | decide | simp [up2, gs0, h_d_6, h_d_7, h_d_8, h_d_9, h_d_10, h_44_1, h_44_2, td, hd, hd2]) (by first | rfl | decide | simp [up2, gs0, h_d_6, h_d_7, h_d_8, h_d_9, h_d_10, h_44_1, h_44_2, td, hd, hd2]) (by first | rfl | decide | simp [up2, gs0, h_d_6, h_d_7, h_d_8, h_d_9, h_d_10, h_44_1, h_44_2, td, hd, hd2]) (by first | rfl | decide | simp [up2, gs0, h_d_6, h_d_7, h_d_8, h_d_9, h_d_10, h_44_1, h_44_2, td, hd, hd2]) (by first | rfl | decide | simp [up2, gs0, h_d_6, h_d_7, h_d_8, h_d_9, h_d_10, h_44_1, h_44_2, td, hd, hd2]) (by first | rfl | decide | simp [up2, gs0, h_d_6, h_d_7, h_d_8, h_d_9, h_d_10, h_44_1, h_44_2, td, hd, hd2]) (by first | rfl | decide | simp [up2, gs0, h_d_6, h_d_7, h_d_8, h_d_9, h_d_10, h_44_1, h_44_2, td, hd, hd2]) (by first | rfl | decide | simp [up2, gs0, h_d_6, h_d_7, h_d_8, h_d_9, h_d_10, h_44_1, h_44_2, td, hd, hd2]) (by first | rfl | decide | simp [up2, gs0, h_d_6, h_d_7, h_d_8, h_d_9, h_d_10, h_44_1, h_44_2, td, hd, hd2])) cw_X3_23 t_46 cl_7 ⟨Nat.le_of_ble_eq_true rfl, Nat.le_of_ble_eq_true rfl⟩ rfl hl.1 rfl (Nat.le_of_ble_eq_true rfl) ⟨Nat.le_of_ble_eq_true rfl, Nat.le_of_ble_eq_true rfl⟩ dX3_push_27 (fun σ_1 τ_1 H locs hp hw => ?_)
  obtain ⟨es_1, et_1⟩ := hp
  obtain rfl := es_1.symm
  obtain rfl := et_1.symm
  refine lv_aload_n hx hb dX3_push_30 rfl (lv_at hl 0 rfl) ?_
  refine lv_aload_n hx hb dX3_push_31 rfl (lv_at hl 0 rfl) ?_
  refine gx_get S hK hw t_44 cl_4 1 (by decide) rfl mw_320 rfl dX3_push_32 ?_
  refine gx_top (v := 0) (by first | rfl | decide | simp [up2, gs0, h_d_6, h_d_7, h_d_8, h_d_9, h_d_10, h_44_1, h_44_2, td, hd, hd2]) ?_
  refine lv_iconst (v := 1) hx hb dX3_push_35 (by decide) ?_
  refine lv_iadd hx hb dX3_push_36 ?_
  refine gx_top (v := 1) (by decide) ?_
  refine lv_bipush (v := 15) hx hb dX3_push_37 (by decide) ?_
  refine lv_icmp_ge (tgt := 51) hx hb dX3_push_39 (by decide) (fun h => absurd h (by decide)) (fun _ => ?_)
  refine lv_aload_n hx hb dX3_push_42 rfl (lv_at hl 0 rfl) ?_
  refine gx_get S hK hw t_44 cl_4 1 (by decide) rfl mw_320 rfl dX3_push_43 ?_
  refine gx_top (v := 0) (by first | rfl | decide | simp [up2, gs0, h_d_6, h_d_7, h_d_8, h_d_9, h_d_10, h_44_1, h_44_2, td, hd, hd2]) ?_
  refine lv_iconst (v := 1) hx hb dX3_push_46 (by decide) ?_
  refine lv_iadd hx hb dX3_push_47 ?_
  refine gx_top (v := 1) (by decide) ?_
  refine lv_goto (tgt := 52) hx hb dX3_push_48 (by decide) ?_
  refine gx_put S hK gx_ok hw t_44 cl_4 1 (by decide) rfl mw_320 rfl rfl (ty := .int) (v := 1) (by decide +kernel) rfl rfl dX3_push_52 (fun H locs hw => ?_)
  refine lv_aload_n hx hb dX3_push_55 rfl (lv_at hl 0 rfl) ?_
  refine lv_bipush (v := 15) hx hb dX3_push_56 (by decide) ?_
  refine lv_aload_n hx hb dX3_push_58 rfl (lv_at hl 0 rfl) ?_
  refine gx_get S hK hw t_44 cl_4 2 (by decide) rfl mw_321 rfl dX3_push_59 ?_
  refine gx_top (v := 0) (by first | rfl | decide | simp [up2, gs0, h_d_6, h_d_7, h_d_8, h_d_9, h_d_10, h_44_1, h_44_2, td, hd, hd2]) ?_
  refine lv_iconst (v := 1) hx hb dX3_push_62 (by decide) ?_
  refine lv_iadd hx hb dX3_push_63 ?_
  refine gx_top (v := 1) (by decide) ?_
  refine gx_min (w := 1) S hl.1 mw_780 mw_529 mw_102 mw_530 ⟨Nat.le_of_ble_eq_true rfl, Nat.le_of_ble_eq_true rfl⟩ ⟨Nat.le_of_ble_eq_true rfl, Nat.le_of_ble_eq_true rfl⟩ dX3_push_64 (by decide) ?_
  refine gx_put S hK gx_ok hw t_44 cl_4 2 (by decide) rfl mw_321 rfl rfl (ty := .int) (v := 1) (by decide +kernel) rfl rfl dX3_push_67 (fun H locs hw => ?_)
  exact gx_rv (post := fun σ1 τ1 => σ1 = up2 (up2 (up2 (up2 (up2 (up2 (up2 (σ) 46 6 0) 46 7 0) 46 8 0) 46 9 0) 46 10 0) 44 1 1) 44 2 1 ∧ τ1 = τ) S hr hlk hw dX3_push_70 ⟨(by first | rfl | simp [up2, upJ]), (by first | rfl | simp [up2, upJ])⟩
set_option maxHeartbeats 4000000 in
set_option maxRecDepth 100000 in
theorem c_Past_pop (l : Launch) {E : gE} (σ : gI) (τ : gJ)  (h_44_1 : σ 44 1 = 0) (h_44_2 : σ 44 2 = 0) : gx_Mi l yX3_pop cX3_pop 3 (some .boolean) 0 gx_tb E (σ) (τ) [.ref (E.2.2 + 44), .ref (E.2.2 + 30)] (fun r σ1 τ1 => r = 0 ∧ σ1 = σ ∧ τ1 = τ) := by
  refine gx_bi (by decide +kernel) (Nat.le_of_ble_eq_true rfl) ?_
  intro P9 e9 s m9 below meth C9 S hr hlk hK hw ls hl
  have S : CallFix P9 m9 C9 cX3_pop 3 s _ gx_G RX3 := S
  have hx := S.1
  have hb := S.2.1
  have hl : lv_has ls 3 [(0, .ref (E.2.2 + 44)), (1, .ref (E.2.2 + 30))] := hl
  refine lv_aload_n hx hb dX3_pop_0 rfl (lv_at hl 0 rfl) ?_
  refine gx_get S hK hw t_44 cl_4 1 (by decide) rfl mw_320 rfl dX3_pop_1 ?_
  refine gx_top (v := 0) (by first | rfl | decide | simp [up2, gs0, h_44_1, h_44_2]) ?_
  refine lv_if_le (tgt := 16) hx hb dX3_pop_4 (by decide) (fun _ => ?_) (fun h => absurd (by decide) h)
  refine lv_bipush (v := 14) hx hb dX3_pop_16 (by decide) ?_
  refine lv_istore_n (lv' := [(2, .int 14), (0, .ref (E.2.2 + 44)), (1, .ref (E.2.2 + 30))]) hx hb dX3_pop_18 rfl hl (by decide) rfl (fun ls hl => ?_)
  refine lv_aload_n hx hb dX3_pop_19 rfl (lv_at hl 1 rfl) ?_
  refine gx_get S hK hw t_44 cl_4 2 (by decide) rfl mw_321 rfl dX3_pop_20 ?_
  refine gx_top (v := 0) (by first | rfl | decide | simp [up2, gs0, h_44_1, h_44_2]) ?_
  refine lv_if_le (tgt := 32) hx hb dX3_pop_23 (by decide) (fun _ => ?_) (fun h => absurd (by decide) h)
  refine lv_iconst (v := 0) hx hb dX3_pop_32 (by decide) ?_
  exact gx_ri (post := fun r σ1 τ1 => r = 0 ∧ σ1 = σ ∧ τ1 = τ) (v := 0) S hr hlk hw rfl dX3_pop_33 ⟨rfl, rfl, rfl⟩
set_option maxHeartbeats 4000000 in
set_option maxRecDepth 100000 in
theorem c_tell1 (l : Launch) {E : gE} (σ : gI) (τ : gJ) (a : Int64)  : gx_Mv l yX4_tell cX4_tell 3 none 0 gx_tb E (σ) (τ) [.ref (E.2.2 + 156), .long a] (fun σ1 τ1 => σ1 = up2 σ 156 1 1 ∧ True) := by
  refine gx_bv (by decide +kernel) (Nat.le_of_ble_eq_true rfl) ?_
  intro P9 e9 s m9 below meth C9 S hr hlk hK hw ls hl
  have S : CallFix P9 m9 C9 cX4_tell 3 s _ gx_G RX4 := S
  have hx := S.1
  have hb := S.2.1
  have hl : lv_has ls 3 [(0, .ref (E.2.2 + 156)), (1, .long a)] := hl
  refine lv_aload_n hx hb dX4_tell_0 rfl (lv_at hl 0 rfl) ?_
  refine gx_getr (j := 157) S hK hw t_156 cl_5 0 (by decide) rfl mw_356 rfl dX4_tell_1 ?_
  refine lv_iconst (v := 0) hx hb dX4_tell_4 (by decide) ?_
  refine lv_lload_n hx hb dX4_tell_5 rfl (lv_at hl 1 rfl) ?_
  refine gx_last S hK gx_ok hw t_157 0 rfl (gx_in rfl (by decide) (by decide)) dX4_tell_6 (fun H locs hw => ?_)
  refine lv_aload_n hx hb dX4_tell_7 rfl (lv_at hl 0 rfl) ?_
  refine lv_iconst (v := 1) hx hb dX4_tell_8 (by decide) ?_
  refine gx_put S hK gx_ok hw t_156 cl_5 1 (by decide) rfl mw_357 rfl rfl (ty := .int) (v := 1) (by decide +kernel) rfl rfl dX4_tell_9 (fun H locs hw => ?_)
  exact gx_rv (post := fun σ1 τ1 => σ1 = up2 σ 156 1 1 ∧ True) S hr hlk hw dX4_tell_12 ⟨(by first | rfl | simp [up2, upJ]), trivial⟩
set_option maxHeartbeats 4000000 in
set_option maxRecDepth 100000 in
theorem c_tell2 (l : Launch) {E : gE} (σ : gI) (τ : gJ) (a b : Int64)  : gx_Mv l yX4_tell_ cX4_tell_ 5 none 0 gx_tb E (σ) (τ) [.ref (E.2.2 + 156), .long a, .long b] (fun σ1 τ1 => σ1 = up2 σ 156 1 2 ∧ True) := by
  refine gx_bv (by decide +kernel) (Nat.le_of_ble_eq_true rfl) ?_
  intro P9 e9 s m9 below meth C9 S hr hlk hK hw ls hl
  have S : CallFix P9 m9 C9 cX4_tell_ 5 s _ gx_G RX4 := S
  have hx := S.1
  have hb := S.2.1
  have hl : lv_has ls 5 [(0, .ref (E.2.2 + 156)), (1, .long a), (3, .long b)] := hl
  refine lv_aload_n hx hb dX4_tell__0 rfl (lv_at hl 0 rfl) ?_
  refine gx_getr (j := 157) S hK hw t_156 cl_5 0 (by decide) rfl mw_356 rfl dX4_tell__1 ?_
  refine lv_iconst (v := 0) hx hb dX4_tell__4 (by decide) ?_
  refine lv_lload_n hx hb dX4_tell__5 rfl (lv_at hl 1 rfl) ?_
  refine gx_last S hK gx_ok hw t_157 0 rfl (gx_in rfl (by decide) (by decide)) dX4_tell__6 (fun H locs hw => ?_)
  refine lv_aload_n hx hb dX4_tell__7 rfl (lv_at hl 0 rfl) ?_
  refine gx_getr (j := 157) S hK hw t_156 cl_5 0 (by decide) rfl mw_356 rfl dX4_tell__8 ?_
  refine lv_iconst (v := 1) hx hb dX4_tell__11 (by decide) ?_
  refine lv_lload_n hx hb dX4_tell__12 rfl (lv_at hl 2 rfl) ?_
  refine gx_last S hK gx_ok hw t_157 1 rfl (gx_in rfl (by decide) (by decide)) dX4_tell__13 (fun H locs hw => ?_)
  refine lv_aload_n hx hb dX4_tell__14 rfl (lv_at hl 0 rfl) ?_
  refine lv_iconst (v := 2) hx hb dX4_tell__15 (by decide) ?_
  refine gx_put S hK gx_ok hw t_156 cl_5 1 (by decide) rfl mw_357 rfl rfl (ty := .int) (v := 2) (by decide +kernel) rfl rfl dX4_tell__16 (fun H locs hw => ?_)
  exact gx_rv (post := fun σ1 τ1 => σ1 = up2 σ 156 1 2 ∧ True) S hr hlk hw dX4_tell__19 ⟨(by first | rfl | simp [up2, upJ]), trivial⟩
set_option maxHeartbeats 4000000 in
set_option maxRecDepth 100000 in
theorem c_tell3 (l : Launch) {E : gE} (σ : gI) (τ : gJ) (a b d : Int64)  : gx_Mv l yX4_tell__ cX4_tell__ 7 none 0 gx_tb E (σ) (τ) [.ref (E.2.2 + 156), .long a, .long b, .long d] (fun σ1 τ1 => σ1 = up2 σ 156 1 3 ∧ True) := by
  refine gx_bv (by decide +kernel) (Nat.le_of_ble_eq_true rfl) ?_
  intro P9 e9 s m9 below meth C9 S hr hlk hK hw ls hl
  have S : CallFix P9 m9 C9 cX4_tell__ 7 s _ gx_G RX4 := S
  have hx := S.1
  have hb := S.2.1
  have hl : lv_has ls 7 [(0, .ref (E.2.2 + 156)), (1, .long a), (3, .long b), (5, .long d)] := hl
  refine lv_aload_n hx hb dX4_tell___0 rfl (lv_at hl 0 rfl) ?_
  refine gx_getr (j := 157) S hK hw t_156 cl_5 0 (by decide) rfl mw_356 rfl dX4_tell___1 ?_
  refine lv_iconst (v := 0) hx hb dX4_tell___4 (by decide) ?_
  refine lv_lload_n hx hb dX4_tell___5 rfl (lv_at hl 1 rfl) ?_
  refine gx_last S hK gx_ok hw t_157 0 rfl (gx_in rfl (by decide) (by decide)) dX4_tell___6 (fun H locs hw => ?_)
  refine lv_aload_n hx hb dX4_tell___7 rfl (lv_at hl 0 rfl) ?_
  refine gx_getr (j := 157) S hK hw t_156 cl_5 0 (by decide) rfl mw_356 rfl dX4_tell___8 ?_
  refine lv_iconst (v := 1) hx hb dX4_tell___11 (by decide) ?_
  refine lv_lload_n hx hb dX4_tell___12 rfl (lv_at hl 2 rfl) ?_
  refine gx_last S hK gx_ok hw t_157 1 rfl (gx_in rfl (by decide) (by decide)) dX4_tell___13 (fun H locs hw => ?_)
  refine lv_aload_n hx hb dX4_tell___14 rfl (lv_at hl 0 rfl) ?_
  refine gx_getr (j := 157) S hK hw t_156 cl_5 0 (by decide) rfl mw_356 rfl dX4_tell___15 ?_
  refine lv_iconst (v := 2) hx hb dX4_tell___18 (by decide) ?_
  refine lv_lload hx hb dX4_tell___19 (lv_at hl 3 rfl) ?_
  refine gx_last S hK gx_ok hw t_157 2 rfl (gx_in rfl (by decide) (by decide)) dX4_tell___21 (fun H locs hw => ?_)
  refine lv_aload_n hx hb dX4_tell___22 rfl (lv_at hl 0 rfl) ?_
  refine lv_iconst (v := 3) hx hb dX4_tell___23 (by decide) ?_
  refine gx_put S hK gx_ok hw t_156 cl_5 1 (by decide) rfl mw_357 rfl rfl (ty := .int) (v := 3) (by decide +kernel) rfl rfl dX4_tell___24 (fun H locs hw => ?_)
  exact gx_rv (post := fun σ1 τ1 => σ1 = up2 σ 156 1 3 ∧ True) S hr hlk hw dX4_tell___27 ⟨(by first | rfl | simp [up2, upJ]), trivial⟩
set_option maxHeartbeats 4000000 in
set_option maxRecDepth 100000 in
theorem c_flowIn (l : Launch) {E : gE} (σ : gI) (τ : gJ) (m1 : Int32) (h_15_1 : σ 15 1 = 0) (h_158_8 : σ 158 8 = 0) : gx_Mi l yX1_flowIn cX1_flowIn 5 (some .int) 1 gx_tb E (σ) (τ) [.ref (E.2.2 + 158), .int m1] (fun r σ1 τ1 => r = 1 ∧ σ1 = σ ∧ τ1 = τ) := by
  refine gx_bi (by decide +kernel) (Nat.le_of_ble_eq_true rfl) ?_
  intro P9 e9 s m9 below meth C9 S hr hlk hK hw ls hl
  have S : CallFix P9 m9 C9 cX1_flowIn 5 s _ gx_G RX1 := S
  have hx := S.1
  have hb := S.2.1
  have hl : lv_has ls 5 [(0, .ref (E.2.2 + 158)), (1, .int m1)] := hl
  refine lv_aload_n hx hb dX1_flowIn_0 rfl (lv_at hl 0 rfl) ?_
  refine gx_getr (j := 15) S hK hw t_158 cl_2 1 (by decide) rfl mw_372 rfl dX1_flowIn_1 ?_
  refine lv_iload_n hx hb dX1_flowIn_4 rfl (lv_at hl 1 rfl) ?_
  refine gx_cVi (As := [.int m1]) (rest := []) S hK gx_ok hw (c_Water_in l (E := E) (σ) (τ) m1 (by first | rfl | decide | simp [up2, gs0, h_15_1, h_158_8])) cw_X1_33 t_15 cl_11 ⟨Nat.le_of_ble_eq_true rfl, Nat.le_of_ble_eq_true rfl⟩ rfl hl.1 rfl (Nat.le_of_ble_eq_true rfl) ⟨Nat.le_of_ble_eq_true rfl, Nat.le_of_ble_eq_true rfl⟩ dX1_flowIn_5 (fun r_1 σ_1 τ_1 H locs hp hw => ?_)
  obtain ⟨er_1, es_1, et_1⟩ := hp
  obtain rfl := er_1.symm
  obtain rfl := es_1.symm
  obtain rfl := et_1.symm
  refine lv_istore_n (lv' := [(2, .int 1), (0, .ref (E.2.2 + 158)), (1, .int m1)]) hx hb dX1_flowIn_8 rfl hl (by decide) rfl (fun ls hl => ?_)
  refine lv_aload_n hx hb dX1_flowIn_9 rfl (lv_at hl 1 rfl) ?_
  refine gx_get S hK hw t_158 cl_2 8 (by decide) rfl mw_383 rfl dX1_flowIn_10 ?_
  refine gx_top (v := 0) (by first | rfl | decide | simp [up2, gs0, h_15_1, h_158_8]) ?_
  refine lv_if_ne (tgt := 18) hx hb dX1_flowIn_13 (by decide) (fun h => absurd (by decide) h) (fun _ => ?_)
  refine lv_iload_n hx hb dX1_flowIn_16 rfl (lv_at hl 0 rfl) ?_
  exact gx_ri (post := fun r σ1 τ1 => r = 1 ∧ σ1 = σ ∧ τ1 = τ) (v := 1) S hr hlk hw rfl dX1_flowIn_17 ⟨rfl, (by first | rfl | simp [up2, upJ]), (by first | rfl | simp [up2, upJ])⟩
set_option maxHeartbeats 4000000 in
set_option maxRecDepth 100000 in
theorem c_pass (l : Launch) {E : gE} (σ : gI) (τ : gJ)  (h_15_1 : σ 15 1 = 0) (h_158_8 : σ 158 8 = 0) (h_30_6 : σ 30 6 = 0) : gx_Mv l yX1_pass cX1_pass 6 none 2 gx_tb E (σ) (τ) [.ref (E.2.2 + 158), .ref (E.2.2 + 30)] (fun σ1 τ1 => (∀ c k : Nat, ¬ (c = 30 ∧ k = 8) → σ1 c k = (σ) c k) ∧ τ1 = τ) := by
  refine gx_bv (by decide +kernel) (Nat.le_of_ble_eq_true rfl) ?_
  intro P9 e9 s m9 below meth C9 S hr hlk hK hw ls hl
  have S : CallFix P9 m9 C9 cX1_pass 6 s _ gx_G RX1 := S
  have hx := S.1
  have hb := S.2.1
  have hl : lv_has ls 6 [(0, .ref (E.2.2 + 158)), (1, .ref (E.2.2 + 30))] := hl
  refine lv_aload_n hx hb dX1_pass_0 rfl (lv_at hl 0 rfl) ?_
  refine lv_aload_n hx hb dX1_pass_1 rfl (lv_at hl 1 rfl) ?_
  refine gx_get S hK hw t_30 cl_7 8 (by decide) rfl mw_279 rfl dX1_pass_2 ?_
  refine gx_cVi (As := [.int ((σ) 30 8)]) (rest := []) S hK gx_ok hw (c_flowIn l (E := E) (σ) (τ) ((σ) 30 8) (by first | rfl | decide | simp [up2, gs0, h_15_1, h_158_8, h_30_6]) (by first | rfl | decide | simp [up2, gs0, h_15_1, h_158_8, h_30_6])) cw_X1_57 t_158 cl_2 ⟨Nat.le_of_ble_eq_true rfl, Nat.le_of_ble_eq_true rfl⟩ rfl hl.1 rfl (Nat.le_of_ble_eq_true rfl) ⟨Nat.le_of_ble_eq_true rfl, Nat.le_of_ble_eq_true rfl⟩ dX1_pass_5 (fun r_1 σ_1 τ_1 H locs hp hw => ?_)
  obtain ⟨er_1, es_1, et_1⟩ := hp
  obtain rfl := er_1.symm
  obtain rfl := es_1.symm
  obtain rfl := et_1.symm
  refine lv_istore_n (lv' := [(2, .int 1), (0, .ref (E.2.2 + 158)), (1, .ref (E.2.2 + 30))]) hx hb dX1_pass_8 rfl hl (by decide) rfl (fun ls hl => ?_)
  refine lv_iconst (v := 0) hx hb dX1_pass_9 (by decide) ?_
  refine lv_istore_n (lv' := [(3, .int 0), (2, .int 1), (0, .ref (E.2.2 + 158)), (1, .ref (E.2.2 + 30))]) hx hb dX1_pass_10 rfl hl (by decide) rfl (fun ls hl => ?_)
  refine lv_iload_n hx hb dX1_pass_11 rfl (lv_at hl 0 rfl) ?_
  refine lv_aload_n hx hb dX1_pass_12 rfl (lv_at hl 3 rfl) ?_
  refine gx_get S hK hw t_30 cl_7 6 (by decide) rfl mw_271 rfl dX1_pass_13 ?_
  refine gx_top (v := 0) (by first | rfl | decide | simp [up2, gs0, h_15_1, h_158_8, h_30_6]) ?_
  refine lv_icmp_ge (tgt := 65) hx hb dX1_pass_16 (by decide) (fun _ => ?_) (fun h => absurd (by decide) h)
  refine lv_aload_n hx hb dX1_pass_65 rfl (lv_at hl 3 rfl) ?_
  refine lv_dup hx hb dX1_pass_66 rfl ?_
  refine gx_get S hK hw t_30 cl_7 8 (by decide) rfl mw_279 rfl dX1_pass_67 ?_
  refine lv_iconst (v := 1) hx hb dX1_pass_70 (by decide) ?_
  refine lv_iadd hx hb dX1_pass_71 ?_
  refine gx_put S hK gx_ok hw t_30 cl_7 8 (by decide) rfl mw_279 rfl rfl (ty := .int) (v := ((σ) 30 8) + 1) (by decide +kernel) rfl rfl dX1_pass_72 (fun H locs hw => ?_)
  exact gx_rv (post := fun σ1 τ1 => (∀ c k : Nat, ¬ (c = 30 ∧ k = 8) → σ1 c k = (σ) c k) ∧ τ1 = τ) S hr hlk hw dX1_pass_75 ⟨(fun c9 k9 h9_0 => by simp [up2, upJ, h9_0]), (by first | rfl | simp [up2, upJ])⟩
set_option maxHeartbeats 4000000 in
set_option maxRecDepth 100000 in
theorem c_seesOthers (l : Launch) {E : gE} (σ : gI) (τ : gJ)  (h_17_10 : σ 17 10 = 0) : gx_Mi l yX1_seesOthers cX1_seesOthers 1 (some .boolean) 0 gx_tb E (σ) (τ) [.ref (E.2.2 + 158)] (fun r σ1 τ1 => r = 0 ∧ σ1 = σ ∧ τ1 = τ) := by
  refine gx_bi (by decide +kernel) (Nat.le_of_ble_eq_true rfl) ?_
  intro P9 e9 s m9 below meth C9 S hr hlk hK hw ls hl
  have S : CallFix P9 m9 C9 cX1_seesOthers 1 s _ gx_G RX1 := S
  have hx := S.1
  have hb := S.2.1
  have hl : lv_has ls 1 [(0, .ref (E.2.2 + 158))] := hl
  refine lv_aload_n hx hb dX1_seesOthers_0 rfl (lv_at hl 0 rfl) ?_
  refine gx_getr (j := 17) S hK hw t_158 cl_2 2 (by decide) rfl mw_373 rfl dX1_seesOthers_1 ?_
  refine gx_get S hK hw t_17 cl_6 10 (by decide) rfl mw_211 rfl dX1_seesOthers_4 ?_
  refine gx_top (v := 0) (by first | rfl | decide | simp [up2, gs0, h_17_10]) ?_
  exact gx_ri (post := fun r σ1 τ1 => r = 0 ∧ σ1 = σ ∧ τ1 = τ) (v := 0) S hr hlk hw rfl dX1_seesOthers_7 ⟨rfl, rfl, rfl⟩
set_option maxHeartbeats 4000000 in
set_option maxRecDepth 100000 in
theorem c_goOn (l : Launch) {E : gE} (σ : gI) (τ : gJ) (n : Int32) (h_30_6 : σ 30 6 = 0) (h_30_7 : σ 30 7 = 0) (h_30_8 : σ 30 8 = 0) (h_30_9 : σ 30 9 = 0) (h_30_10 : σ 30 10 = 0) : gx_Mv l yX9_goOn cX9_goOn 4 none 1 gx_tb E (σ) (τ) [.ref (E.2.2 + 160), .ref (E.2.2 + 30), .int n] (fun σ1 τ1 => σ1 = up2 (up2 (up2 (up2 (up2 (σ) 171 6 0) 171 7 0) 171 8 0) 171 9 0) 171 10 0 ∧ τ1 = τ) := by
  refine gx_bv (by decide +kernel) (Nat.le_of_ble_eq_true rfl) ?_
  intro P9 e9 s m9 below meth C9 S hr hlk hK hw ls hl
  have S : CallFix P9 m9 C9 cX9_goOn 4 s _ gx_G RX9 := S
  have hx := S.1
  have hb := S.2.1
  have hl : lv_has ls 4 [(0, .ref (E.2.2 + 160)), (1, .ref (E.2.2 + 30)), (2, .int n)] := hl
  refine lv_aload_n hx hb dX9_goOn_0 rfl (lv_at hl 0 rfl) ?_
  refine gx_getr (j := 171) S hK hw t_160 cl_10 8 (by decide) rfl mw_425 rfl dX9_goOn_1 ?_
  refine lv_aload_n hx hb dX9_goOn_4 rfl (lv_at hl 1 rfl) ?_
  refine gx_cVv (As := [.ref (E.2.2 + 30)]) (rest := []) S hK gx_ok hw (c_Scene_copy l (E := E) (σ) (τ) 171 30 (by first | rfl | decide | simp [up2, gs0, h_30_6, h_30_7, h_30_8, h_30_9, h_30_10]) (by first | rfl | decide | simp [up2, gs0, h_30_6, h_30_7, h_30_8, h_30_9, h_30_10]) (by first | rfl | decide | simp [up2, gs0, h_30_6, h_30_7, h_30_8, h_30_9, h_30_10]) (by first | rfl | decide | simp [up2, gs0, h_30_6, h_30_7, h_30_8, h_30_9, h_30_10]) (by first | rfl | decide | simp [up2, gs0, h_30_6, h_30_7, h_30_8, h_30_9, h_30_10]) (by first | rfl | decide | simp [up2, gs0, h_30_6, h_30_7, h_30_8, h_30_9, h_30_10]) (by first | rfl | decide | simp [up2, gs0, h_30_6, h_30_7, h_30_8, h_30_9, h_30_10]) (by first | rfl | decide | simp [up2, gs0, h_30_6, h_30_7, h_30_8, h_30_9, h_30_10]) (by first | rfl | decide | simp [up2, gs0, h_30_6, h_30_7, h_30_8, h_30_9, h_30_10])) cw_X9_63 t_171 cl_7 ⟨Nat.le_of_ble_eq_true rfl, Nat.le_of_ble_eq_true rfl⟩ rfl hl.1 rfl (Nat.le_of_ble_eq_true rfl) ⟨Nat.le_of_ble_eq_true rfl, Nat.le_of_ble_eq_true rfl⟩ dX9_goOn_5 (fun σ_1 τ_1 H locs hp hw => ?_)
  obtain ⟨es_1, et_1⟩ := hp
  obtain rfl := es_1.symm
  obtain rfl := et_1.symm
  refine lv_iconst (v := 0) hx hb dX9_goOn_8 (by decide) ?_
  refine lv_istore_n (lv' := [(3, .int 0), (0, .ref (E.2.2 + 160)), (1, .ref (E.2.2 + 30)), (2, .int n)]) hx hb dX9_goOn_9 rfl hl (by decide) rfl (fun ls hl => ?_)
  refine lv_iload_n hx hb dX9_goOn_10 rfl (lv_at hl 0 rfl) ?_
  refine lv_iload_n hx hb dX9_goOn_11 rfl (lv_at hl 3 rfl) ?_
  refine lv_icmp_ge (tgt := 42) hx hb dX9_goOn_12 (by decide) (fun c_2 => ?_) (fun c_2 => ?_)
  · exact gx_rv (post := fun σ1 τ1 => σ1 = up2 (up2 (up2 (up2 (up2 (σ) 171 6 0) 171 7 0) 171 8 0) 171 9 0) 171 10 0 ∧ τ1 = τ) S hr hlk hw dX9_goOn_42 ⟨(by first | rfl | simp [up2, upJ]), (by first | rfl | simp [up2, upJ])⟩
  · refine lv_aload_n hx hb dX9_goOn_15 rfl (lv_at hl 1 rfl) ?_
    refine gx_getr (j := 171) S hK hw t_160 cl_10 8 (by decide) rfl mw_425 rfl dX9_goOn_16 ?_
    refine gx_cVi (As := []) (rest := []) S hK gx_ok hw (c_Scene_onWay l (E := E) (up2 (up2 (up2 (up2 (up2 ((σ)) 171 6 0) 171 7 0) 171 8 0) 171 9 0) 171 10 0) (τ) 171 (by first | rfl | decide | simp [up2, gs0, h_30_6, h_30_7, h_30_8, h_30_9, h_30_10]) (by first | rfl | decide | simp [up2, gs0, h_30_6, h_30_7, h_30_8, h_30_9, h_30_10]) (by first | rfl | decide | simp [up2, gs0, h_30_6, h_30_7, h_30_8, h_30_9, h_30_10]) (by first | rfl | decide | simp [up2, gs0, h_30_6, h_30_7, h_30_8, h_30_9, h_30_10])) cw_X9_108 t_171 cl_7 ⟨Nat.le_of_ble_eq_true rfl, Nat.le_of_ble_eq_true rfl⟩ rfl hl.1 rfl (Nat.le_of_ble_eq_true rfl) ⟨Nat.le_of_ble_eq_true rfl, Nat.le_of_ble_eq_true rfl⟩ dX9_goOn_19 (fun r_3 σ_3 τ_3 H locs hp hw => ?_)
    obtain ⟨er_3, es_3, et_3⟩ := hp
    obtain rfl := er_3.symm
    obtain rfl := es_3.symm
    obtain rfl := et_3.symm
    refine lv_if_eq (tgt := 42) hx hb dX9_goOn_22 (by decide) (fun _ => ?_) (fun h => absurd (by decide) h)
    exact gx_rv (post := fun σ1 τ1 => σ1 = up2 (up2 (up2 (up2 (up2 (σ) 171 6 0) 171 7 0) 171 8 0) 171 9 0) 171 10 0 ∧ τ1 = τ) S hr hlk hw dX9_goOn_42 ⟨(by first | rfl | simp [up2, upJ]), (by first | rfl | simp [up2, upJ])⟩
set_option maxHeartbeats 4000000 in
set_option maxRecDepth 100000 in
theorem c_startFrom (l : Launch) {E : gE} (σ : gI) (τ : gJ)  (h_30_6 : σ 30 6 = 0) (h_30_7 : σ 30 7 = 0) (h_30_8 : σ 30 8 = 0) (h_30_9 : σ 30 9 = 0) (h_30_10 : σ 30 10 = 0) (h_17_10 : σ 17 10 = 0) : gx_Mv l yX9_startFrom cX9_startFrom 4 none 1 gx_tb E (σ) (τ) [.ref (E.2.2 + 160), .ref (E.2.2 + 30), .int 0, .int 0] (fun σ1 τ1 => σ1 = up2 (up2 (up2 (up2 (up2 (up2 (up2 (σ) 164 6 0) 164 7 0) 164 8 0) 164 9 0) 164 10 0) 160 5 0) 160 6 0 ∧ τ1 = τ) := by
  refine gx_bv (by decide +kernel) (Nat.le_of_ble_eq_true rfl) ?_
  intro P9 e9 s m9 below meth C9 S hr hlk hK hw ls hl
  have S : CallFix P9 m9 C9 cX9_startFrom 4 s _ gx_G RX9 := S
  have hx := S.1
  have hb := S.2.1
  have hl : lv_has ls 4 [(0, .ref (E.2.2 + 160)), (1, .ref (E.2.2 + 30)), (2, .int 0), (3, .int 0)] := hl
  refine lv_aload_n hx hb dX9_startFrom_0 rfl (lv_at hl 0 rfl) ?_
  refine gx_getr (j := 164) S hK hw t_160 cl_10 7 (by decide) rfl mw_423 rfl dX9_startFrom_1 ?_
  refine lv_aload_n hx hb dX9_startFrom_4 rfl (lv_at hl 1 rfl) ?_
  refine gx_cVv (As := [.ref (E.2.2 + 30)]) (rest := []) S hK gx_ok hw (c_Scene_copy l (E := E) (σ) (τ) 164 30 (by first | rfl | decide | simp [up2, gs0, h_30_6, h_30_7, h_30_8, h_30_9, h_30_10, h_17_10]) (by first | rfl | decide | simp [up2, gs0, h_30_6, h_30_7, h_30_8, h_30_9, h_30_10, h_17_10]) (by first | rfl | decide | simp [up2, gs0, h_30_6, h_30_7, h_30_8, h_30_9, h_30_10, h_17_10]) (by first | rfl | decide | simp [up2, gs0, h_30_6, h_30_7, h_30_8, h_30_9, h_30_10, h_17_10]) (by first | rfl | decide | simp [up2, gs0, h_30_6, h_30_7, h_30_8, h_30_9, h_30_10, h_17_10]) (by first | rfl | decide | simp [up2, gs0, h_30_6, h_30_7, h_30_8, h_30_9, h_30_10, h_17_10]) (by first | rfl | decide | simp [up2, gs0, h_30_6, h_30_7, h_30_8, h_30_9, h_30_10, h_17_10]) (by first | rfl | decide | simp [up2, gs0, h_30_6, h_30_7, h_30_8, h_30_9, h_30_10, h_17_10]) (by first | rfl | decide | simp [up2, gs0, h_30_6, h_30_7, h_30_8, h_30_9, h_30_10, h_17_10])) cw_X9_63 t_164 cl_7 ⟨Nat.le_of_ble_eq_true rfl, Nat.le_of_ble_eq_true rfl⟩ rfl hl.1 rfl (Nat.le_of_ble_eq_true rfl) ⟨Nat.le_of_ble_eq_true rfl, Nat.le_of_ble_eq_true rfl⟩ dX9_startFrom_5 (fun σ_1 τ_1 H locs hp hw => ?_)
  obtain ⟨es_1, et_1⟩ := hp
  obtain rfl := es_1.symm
  obtain rfl := et_1.symm
  refine lv_aload_n hx hb dX9_startFrom_8 rfl (lv_at hl 0 rfl) ?_
  refine lv_iload_n hx hb dX9_startFrom_9 rfl (lv_at hl 2 rfl) ?_
  refine gx_put S hK gx_ok hw t_160 cl_10 5 (by decide) rfl mw_421 rfl rfl (ty := .int) (v := 0) (by decide +kernel) rfl rfl dX9_startFrom_10 (fun H locs hw => ?_)
  refine lv_aload_n hx hb dX9_startFrom_13 rfl (lv_at hl 0 rfl) ?_
  refine lv_iload_n hx hb dX9_startFrom_14 rfl (lv_at hl 3 rfl) ?_
  refine gx_put S hK gx_ok hw t_160 cl_10 6 (by decide) rfl mw_422 rfl rfl (ty := .int) (v := 0) (by decide +kernel) rfl rfl dX9_startFrom_15 (fun H locs hw => ?_)
  refine lv_aload_n hx hb dX9_startFrom_18 rfl (lv_at hl 0 rfl) ?_
  refine gx_getr (j := 158) S hK hw t_160 cl_10 1 (by decide) rfl mw_417 rfl dX9_startFrom_19 ?_
  refine gx_cVi (As := []) (rest := []) S hK gx_ok hw (c_seesOthers l (E := E) (up2 (up2 (up2 (up2 (up2 (up2 (up2 ((σ)) 164 6 0) 164 7 0) 164 8 0) 164 9 0) 164 10 0) 160 5 0) 160 6 0) (τ) (by first | rfl | decide | simp [up2, gs0, h_30_6, h_30_7, h_30_8, h_30_9, h_30_10, h_17_10])) cw_X9_67 t_158 cl_2 ⟨Nat.le_of_ble_eq_true rfl, Nat.le_of_ble_eq_true rfl⟩ rfl hl.1 rfl (Nat.le_of_ble_eq_true rfl) ⟨Nat.le_of_ble_eq_true rfl, Nat.le_of_ble_eq_true rfl⟩ dX9_startFrom_22 (fun r_2 σ_2 τ_2 H locs hp hw => ?_)
  obtain ⟨er_2, es_2, et_2⟩ := hp
  obtain rfl := er_2.symm
  obtain rfl := es_2.symm
  obtain rfl := et_2.symm
  refine lv_if_ne (tgt := 38) hx hb dX9_startFrom_25 (by decide) (fun h => absurd (by decide) h) (fun _ => ?_)
  refine lv_aload_n hx hb dX9_startFrom_28 rfl (lv_at hl 0 rfl) ?_
  refine gx_getr (j := 164) S hK hw t_160 cl_10 7 (by decide) rfl mw_423 rfl dX9_startFrom_29 ?_
  refine lv_iload_n hx hb dX9_startFrom_32 rfl (lv_at hl 2 rfl) ?_
  refine lv_iconst (v := (-1)) hx hb dX9_startFrom_33 (by decide) ?_
  refine lv_ixor hx hb dX9_startFrom_34 ?_
  refine gx_top (v := (-1)) (by decide) ?_
  refine gx_cVv (As := [.int (-1)]) (rest := []) S hK gx_ok hw (c_Scene_holdBack l (E := E) (up2 (up2 (up2 (up2 (up2 (up2 (up2 ((σ)) 164 6 0) 164 7 0) 164 8 0) 164 9 0) 164 10 0) 160 5 0) 160 6 0) (τ) 164 (-1) (by first | rfl | decide | simp [up2, gs0, h_30_6, h_30_7, h_30_8, h_30_9, h_30_10, h_17_10]) (by first | rfl | decide | simp [up2, gs0, h_30_6, h_30_7, h_30_8, h_30_9, h_30_10, h_17_10])) cw_X9_73 t_164 cl_7 ⟨Nat.le_of_ble_eq_true rfl, Nat.le_of_ble_eq_true rfl⟩ rfl hl.1 rfl (Nat.le_of_ble_eq_true rfl) ⟨Nat.le_of_ble_eq_true rfl, Nat.le_of_ble_eq_true rfl⟩ dX9_startFrom_35 (fun σ_3 τ_3 H locs hp hw => ?_)
  obtain ⟨es_3, et_3⟩ := hp
  obtain rfl := es_3.symm
  obtain rfl := et_3.symm
  exact gx_rv (post := fun σ1 τ1 => σ1 = up2 (up2 (up2 (up2 (up2 (up2 (up2 (σ) 164 6 0) 164 7 0) 164 8 0) 164 9 0) 164 10 0) 160 5 0) 160 6 0 ∧ τ1 = τ) S hr hlk hw dX9_startFrom_38 ⟨(by first | rfl | simp [up2, upJ]), (by first | rfl | simp [up2, upJ])⟩
set_option maxHeartbeats 4000000 in
set_option maxRecDepth 100000 in
theorem c_begin (l : Launch) {E : gE} (σ : gI) (τ : gJ)  (h_164_6 : σ 164 6 = 0) (h_164_7 : σ 164 7 = 0) (h_164_8 : σ 164 8 = 0) (h_164_9 : σ 164 9 = 0) (h_164_10 : σ 164 10 = 0) : gx_Mv l yX9_begin cX9_begin 2 none 1 gx_tb E (σ) (τ) [.ref (E.2.2 + 160), .int 0] (fun σ1 τ1 => σ1 = up2 (up2 (up2 (up2 (up2 (up2 (up2 (up2 (σ) 171 6 0) 171 7 0) 171 8 0) 171 9 0) 171 10 0) 171 7 0) 158 4 0) 158 5 0 ∧ τ1 = τ) := by
  refine gx_bv (by decide +kernel) (Nat.le_of_ble_eq_true rfl) ?_
  intro P9 e9 s m9 below meth C9 S hr hlk hK hw ls hl
  have S : CallFix P9 m9 C9 cX9_begin 2 s _ gx_G RX9 := S
  have hx := S.1
  have hb := S.2.1
  have hl : lv_has ls 2 [(0, .ref (E.2.2 + 160)), (1, .int 0)] := hl
  refine lv_aload_n hx hb dX9_begin_0 rfl (lv_at hl 0 rfl) ?_
  refine gx_getr (j := 171) S hK hw t_160 cl_10 8 (by decide) rfl mw_425 rfl dX9_begin_1 ?_
  refine lv_aload_n hx hb dX9_begin_4 rfl (lv_at hl 0 rfl) ?_
  refine gx_getr (j := 164) S hK hw t_160 cl_10 7 (by decide) rfl mw_423 rfl dX9_begin_5 ?_
  refine gx_cVv (As := [.ref (E.2.2 + 164)]) (rest := []) S hK gx_ok hw (c_Scene_copy l (E := E) (σ) (τ) 171 164 (by first | rfl | decide | simp [up2, gs0, h_164_6, h_164_7, h_164_8, h_164_9, h_164_10]) (by first | rfl | decide | simp [up2, gs0, h_164_6, h_164_7, h_164_8, h_164_9, h_164_10]) (by first | rfl | decide | simp [up2, gs0, h_164_6, h_164_7, h_164_8, h_164_9, h_164_10]) (by first | rfl | decide | simp [up2, gs0, h_164_6, h_164_7, h_164_8, h_164_9, h_164_10]) (by first | rfl | decide | simp [up2, gs0, h_164_6, h_164_7, h_164_8, h_164_9, h_164_10]) (by first | rfl | decide | simp [up2, gs0, h_164_6, h_164_7, h_164_8, h_164_9, h_164_10]) (by first | rfl | decide | simp [up2, gs0, h_164_6, h_164_7, h_164_8, h_164_9, h_164_10]) (by first | rfl | decide | simp [up2, gs0, h_164_6, h_164_7, h_164_8, h_164_9, h_164_10]) (by first | rfl | decide | simp [up2, gs0, h_164_6, h_164_7, h_164_8, h_164_9, h_164_10])) cw_X9_63 t_171 cl_7 ⟨Nat.le_of_ble_eq_true rfl, Nat.le_of_ble_eq_true rfl⟩ rfl hl.1 rfl (Nat.le_of_ble_eq_true rfl) ⟨Nat.le_of_ble_eq_true rfl, Nat.le_of_ble_eq_true rfl⟩ dX9_begin_8 (fun σ_1 τ_1 H locs hp hw => ?_)
  obtain ⟨es_1, et_1⟩ := hp
  obtain rfl := es_1.symm
  obtain rfl := et_1.symm
  refine lv_aload_n hx hb dX9_begin_11 rfl (lv_at hl 0 rfl) ?_
  refine gx_getr (j := 171) S hK hw t_160 cl_10 8 (by decide) rfl mw_425 rfl dX9_begin_12 ?_
  refine lv_iload_n hx hb dX9_begin_15 rfl (lv_at hl 1 rfl) ?_
  refine gx_put S hK gx_ok hw t_171 cl_7 7 (by decide) rfl mw_274 rfl rfl (ty := .int) (v := 0) (by decide +kernel) rfl rfl dX9_begin_16 (fun H locs hw => ?_)
  refine lv_aload_n hx hb dX9_begin_19 rfl (lv_at hl 0 rfl) ?_
  refine gx_getr (j := 158) S hK hw t_160 cl_10 1 (by decide) rfl mw_417 rfl dX9_begin_20 ?_
  refine lv_iconst (v := 0) hx hb dX9_begin_23 (by decide) ?_
  refine gx_put S hK gx_ok hw t_158 cl_2 4 (by decide) rfl mw_375 rfl rfl (ty := .int) (v := 0) (by decide +kernel) rfl rfl dX9_begin_24 (fun H locs hw => ?_)
  refine lv_aload_n hx hb dX9_begin_27 rfl (lv_at hl 0 rfl) ?_
  refine gx_getr (j := 158) S hK hw t_160 cl_10 1 (by decide) rfl mw_417 rfl dX9_begin_28 ?_
  refine lv_iconst (v := 0) hx hb dX9_begin_31 (by decide) ?_
  refine gx_put S hK gx_ok hw t_158 cl_2 5 (by decide) rfl mw_377 rfl rfl (ty := .int) (v := 0) (by decide +kernel) rfl rfl dX9_begin_32 (fun H locs hw => ?_)
  exact gx_rv (post := fun σ1 τ1 => σ1 = up2 (up2 (up2 (up2 (up2 (up2 (up2 (up2 (σ) 171 6 0) 171 7 0) 171 8 0) 171 9 0) 171 10 0) 171 7 0) 158 4 0) 158 5 0 ∧ τ1 = τ) S hr hlk hw dX9_begin_35 ⟨(by first | rfl | simp [up2, upJ]), (by first | rfl | simp [up2, upJ])⟩
set_option maxHeartbeats 4000000 in
set_option maxRecDepth 100000 in
theorem c_go (l : Launch) {E : gE} (σ : gI) (τ : gJ)  (h_164_6 : σ 164 6 = 0) (h_164_7 : σ 164 7 = 0) (h_164_8 : σ 164 8 = 0) (h_164_9 : σ 164 9 = 0) (h_164_10 : σ 164 10 = 0) (h_160_5 : σ 160 5 = 0) (h_160_6 : σ 160 6 = 0) (h_172_0 : σ 172 0 = 0) : gx_Mi l yX9_go cX9_go 3 (some .int) 2 gx_tb E (σ) (τ) [.ref (E.2.2 + 160), .int 0] (fun r σ1 τ1 => r = 0 ∧ σ1 = up2 (up2 (up2 (up2 (up2 (up2 (up2 (up2 (σ) 171 6 0) 171 7 0) 171 8 0) 171 9 0) 171 10 0) 171 7 0) 158 4 0) 158 5 0 ∧ τ1 = τ) := by
  refine gx_bi (by decide +kernel) (Nat.le_of_ble_eq_true rfl) ?_
  intro P9 e9 s m9 below meth C9 S hr hlk hK hw ls hl
  have S : CallFix P9 m9 C9 cX9_go 3 s _ gx_G RX9 := S
  have hx := S.1
  have hb := S.2.1
  have hl : lv_has ls 3 [(0, .ref (E.2.2 + 160)), (1, .int 0)] := hl
  refine lv_aload_n hx hb dX9_go_0 rfl (lv_at hl 0 rfl) ?_
  refine lv_iload_n hx hb dX9_go_1 rfl (lv_at hl 1 rfl) ?_
  refine gx_cVv (As := [.int 0]) (rest := []) S hK gx_ok hw (c_begin l (E := E) (σ) (τ) (by first | rfl | decide | simp [up2, gs0, h_164_6, h_164_7, h_164_8, h_164_9, h_164_10, h_160_5, h_160_6, h_172_0]) (by first | rfl | decide | simp [up2, gs0, h_164_6, h_164_7, h_164_8, h_164_9, h_164_10, h_160_5, h_160_6, h_172_0]) (by first | rfl | decide | simp [up2, gs0, h_164_6, h_164_7, h_164_8, h_164_9, h_164_10, h_160_5, h_160_6, h_172_0]) (by first | rfl | decide | simp [up2, gs0, h_164_6, h_164_7, h_164_8, h_164_9, h_164_10, h_160_5, h_160_6, h_172_0]) (by first | rfl | decide | simp [up2, gs0, h_164_6, h_164_7, h_164_8, h_164_9, h_164_10, h_160_5, h_160_6, h_172_0])) cw_X9_86 t_160 cl_10 ⟨Nat.le_of_ble_eq_true rfl, Nat.le_of_ble_eq_true rfl⟩ rfl hl.1 rfl (Nat.le_of_ble_eq_true rfl) ⟨Nat.le_of_ble_eq_true rfl, Nat.le_of_ble_eq_true rfl⟩ dX9_go_2 (fun σ_1 τ_1 H locs hp hw => ?_)
  obtain ⟨es_1, et_1⟩ := hp
  obtain rfl := es_1.symm
  obtain rfl := et_1.symm
  refine lv_iconst (v := 0) hx hb dX9_go_5 (by decide) ?_
  refine lv_istore_n (lv' := [(2, .int 0), (0, .ref (E.2.2 + 160)), (1, .int 0)]) hx hb dX9_go_6 rfl hl (by decide) rfl (fun ls hl => ?_)
  refine lv_iload_n hx hb dX9_go_7 rfl (lv_at hl 0 rfl) ?_
  refine lv_sipush (v := 300) hx hb dX9_go_8 (by decide) ?_
  refine lv_icmp_gt (tgt := 103) hx hb dX9_go_11 (by decide) (fun h => absurd h (by decide)) (fun _ => ?_)
  refine lv_aload_n hx hb dX9_go_14 rfl (lv_at hl 1 rfl) ?_
  refine gx_getr (j := 171) S hK hw t_160 cl_10 8 (by decide) rfl mw_425 rfl dX9_go_15 ?_
  refine gx_get S hK hw t_171 cl_7 10 (by decide) rfl mw_285 rfl dX9_go_18 ?_
  refine gx_top (v := 0) (by first | rfl | decide | simp [up2, gs0, h_164_6, h_164_7, h_164_8, h_164_9, h_164_10, h_160_5, h_160_6, h_172_0]) ?_
  refine lv_aload_n hx hb dX9_go_21 rfl (lv_at hl 1 rfl) ?_
  refine gx_getr (j := 158) S hK hw t_160 cl_10 1 (by decide) rfl mw_417 rfl dX9_go_22 ?_
  refine gx_get S hK hw t_158 cl_2 5 (by decide) rfl mw_377 rfl dX9_go_25 ?_
  refine gx_top (v := 0) (by first | rfl | decide | simp [up2, gs0, h_164_6, h_164_7, h_164_8, h_164_9, h_164_10, h_160_5, h_160_6, h_172_0]) ?_
  refine lv_ior hx hb dX9_go_28 ?_
  refine gx_top (v := 0) (by decide) ?_
  refine lv_aload_n hx hb dX9_go_29 rfl (lv_at hl 1 rfl) ?_
  refine gx_get S hK hw t_160 cl_10 5 (by decide) rfl mw_421 rfl dX9_go_30 ?_
  refine gx_top (v := 0) (by first | rfl | decide | simp [up2, gs0, h_164_6, h_164_7, h_164_8, h_164_9, h_164_10, h_160_5, h_160_6, h_172_0]) ?_
  refine lv_iand hx hb dX9_go_33 ?_
  refine gx_top (v := 0) (by decide) ?_
  refine lv_if_eq (tgt := 39) hx hb dX9_go_34 (by decide) (fun _ => ?_) (fun h => absurd (by decide) h)
  refine lv_aload_n hx hb dX9_go_39 rfl (lv_at hl 1 rfl) ?_
  refine gx_getr (j := 171) S hK hw t_160 cl_10 8 (by decide) rfl mw_425 rfl dX9_go_40 ?_
  refine gx_get S hK hw t_171 cl_7 9 (by decide) rfl mw_282 rfl dX9_go_43 ?_
  refine gx_top (v := 0) (by first | rfl | decide | simp [up2, gs0, h_164_6, h_164_7, h_164_8, h_164_9, h_164_10, h_160_5, h_160_6, h_172_0]) ?_
  refine lv_aload_n hx hb dX9_go_46 rfl (lv_at hl 1 rfl) ?_
  refine gx_get S hK hw t_160 cl_10 5 (by decide) rfl mw_421 rfl dX9_go_47 ?_
  refine gx_top (v := 0) (by first | rfl | decide | simp [up2, gs0, h_164_6, h_164_7, h_164_8, h_164_9, h_164_10, h_160_5, h_160_6, h_172_0]) ?_
  refine lv_iand hx hb dX9_go_50 ?_
  refine gx_top (v := 0) (by decide) ?_
  refine lv_aload_n hx hb dX9_go_51 rfl (lv_at hl 1 rfl) ?_
  refine gx_get S hK hw t_160 cl_10 5 (by decide) rfl mw_421 rfl dX9_go_52 ?_
  refine gx_top (v := 0) (by first | rfl | decide | simp [up2, gs0, h_164_6, h_164_7, h_164_8, h_164_9, h_164_10, h_160_5, h_160_6, h_172_0]) ?_
  refine lv_icmp_ne (tgt := 79) hx hb dX9_go_55 (by decide) (fun h => absurd (by decide) h) (fun _ => ?_)
  refine lv_iload_n hx hb dX9_go_58 rfl (lv_at hl 0 rfl) ?_
  refine lv_bipush (v := 16) hx hb dX9_go_59 (by decide) ?_
  refine lv_imul hx hb dX9_go_61 ?_
  refine gx_top (v := 0) (by decide) ?_
  refine lv_iconst (v := 0) hx hb dX9_go_62 (by decide) ?_
  refine lv_aload_n hx hb dX9_go_63 rfl (lv_at hl 1 rfl) ?_
  refine gx_getr (j := 171) S hK hw t_160 cl_10 8 (by decide) rfl mw_425 rfl dX9_go_64 ?_
  refine lv_aload_n hx hb dX9_go_67 rfl (lv_at hl 1 rfl) ?_
  refine gx_get S hK hw t_160 cl_10 6 (by decide) rfl mw_422 rfl dX9_go_68 ?_
  refine gx_top (v := 0) (by first | rfl | decide | simp [up2, gs0, h_164_6, h_164_7, h_164_8, h_164_9, h_164_10, h_160_5, h_160_6, h_172_0]) ?_
  refine gx_cVi (As := [.int 0]) (rest := [.int 0, .int 0]) S hK gx_ok hw (c_Scene_spotOf0 l (E := E) (up2 (up2 (up2 (up2 (up2 (up2 (up2 (up2 ((σ)) 171 6 0) 171 7 0) 171 8 0) 171 9 0) 171 10 0) 171 7 0) 158 4 0) 158 5 0) (τ) (by first | rfl | decide | simp [up2, gs0, h_164_6, h_164_7, h_164_8, h_164_9, h_164_10, h_160_5, h_160_6, h_172_0])) cw_X9_95 t_171 cl_7 ⟨Nat.le_of_ble_eq_true rfl, Nat.le_of_ble_eq_true rfl⟩ rfl hl.1 rfl (Nat.le_of_ble_eq_true rfl) ⟨Nat.le_of_ble_eq_true rfl, Nat.le_of_ble_eq_true rfl⟩ dX9_go_71 (fun r_2 σ_2 τ_2 H locs hp hw => ?_)
  obtain ⟨er_2, es_2, et_2⟩ := hp
  obtain rfl := er_2.symm
  obtain rfl := es_2.symm
  obtain rfl := et_2.symm
  refine gx_max (w := 0) S hl.1 mw_1097 mw_577 mw_102 mw_578 ⟨Nat.le_of_ble_eq_true rfl, Nat.le_of_ble_eq_true rfl⟩ ⟨Nat.le_of_ble_eq_true rfl, Nat.le_of_ble_eq_true rfl⟩ dX9_go_74 (by decide) ?_
  refine lv_iadd hx hb dX9_go_77 ?_
  refine gx_top (v := 0) (by decide) ?_
  exact gx_ri (post := fun r σ1 τ1 => r = 0 ∧ σ1 = up2 (up2 (up2 (up2 (up2 (up2 (up2 (up2 (σ) 171 6 0) 171 7 0) 171 8 0) 171 9 0) 171 10 0) 171 7 0) 158 4 0) 158 5 0 ∧ τ1 = τ) (v := 0) S hr hlk hw rfl dX9_go_78 ⟨rfl, (by first | rfl | simp [up2, upJ]), (by first | rfl | simp [up2, upJ])⟩
set_option maxHeartbeats 4000000 in
set_option maxRecDepth 100000 in
theorem c_remember (l : Launch) {E : gE} (σ : gI) (τ : gJ) (v : Int32)  : gx_Mv l yX9_remember cX9_remember 3 none 0 gx_tb E (σ) (τ) [.ref (E.2.2 + 160), .int 0, .int v] (fun σ1 τ1 => σ1 = up2 σ 161 0 v ∧ τ1 = τ) := by
  refine gx_bv (by decide +kernel) (Nat.le_of_ble_eq_true rfl) ?_
  intro P9 e9 s m9 below meth C9 S hr hlk hK hw ls hl
  have S : CallFix P9 m9 C9 cX9_remember 3 s _ gx_G RX9 := S
  have hx := S.1
  have hb := S.2.1
  have hl : lv_has ls 3 [(0, .ref (E.2.2 + 160)), (1, .int 0), (2, .int v)] := hl
  refine lv_iload_n hx hb dX9_remember_0 rfl (lv_at hl 1 rfl) ?_
  refine lv_if_lt (tgt := 18) hx hb dX9_remember_1 (by decide) (fun h => absurd h (by decide)) (fun _ => ?_)
  refine lv_iload_n hx hb dX9_remember_4 rfl (lv_at hl 1 rfl) ?_
  refine lv_sipush (v := 4096) hx hb dX9_remember_5 (by decide) ?_
  refine lv_icmp_ge (tgt := 18) hx hb dX9_remember_8 (by decide) (fun h => absurd h (by decide)) (fun _ => ?_)
  refine lv_aload_n hx hb dX9_remember_11 rfl (lv_at hl 0 rfl) ?_
  refine gx_getr (j := 161) S hK hw t_160 cl_10 2 (by decide) rfl mw_418 rfl dX9_remember_12 ?_
  refine lv_iload_n hx hb dX9_remember_15 rfl (lv_at hl 1 rfl) ?_
  refine lv_iload_n hx hb dX9_remember_16 rfl (lv_at hl 2 rfl) ?_
  refine gx_iast S hK gx_ok hw t_161 0 rfl (gx_in rfl (by decide) (by decide)) dX9_remember_17 (fun H locs hw => ?_)
  exact gx_rv (post := fun σ1 τ1 => σ1 = up2 σ 161 0 v ∧ τ1 = τ) S hr hlk hw dX9_remember_18 ⟨(by first | rfl | simp [up2, upJ]), rfl⟩
set_option maxHeartbeats 4000000 in
set_option maxRecDepth 100000 in
theorem c_forgetSets (l : Launch) {E : gE} (σ : gI) (τ : gJ)  (h_3_7 : σ 3 7 = 0) (h_3_8 : σ 3 8 = 1) : gx_Mv l yX9_forgetSets cX9_forgetSets 3 none 1 gx_tb E (σ) (τ) [.ref (E.2.2 + 160)] (fun σ1 τ1 => σ1 = up2 σ 161 0 (-2) ∧ τ1 = τ) := by
  refine gx_bv (by decide +kernel) (Nat.le_of_ble_eq_true rfl) ?_
  intro P9 e9 s m9 below meth C9 S hr hlk hK hw ls hl
  have S : CallFix P9 m9 C9 cX9_forgetSets 3 s _ gx_G RX9 := S
  have hx := S.1
  have hb := S.2.1
  have hl : lv_has ls 3 [(0, .ref (E.2.2 + 160))] := hl
  refine lv_iconst (v := 0) hx hb dX9_forgetSets_0 (by decide) ?_
  refine lv_istore_n (lv' := [(1, .int 0), (0, .ref (E.2.2 + 160))]) hx hb dX9_forgetSets_1 rfl hl (by decide) rfl (fun ls hl => ?_)
  refine lv_iconst (v := 0) hx hb dX9_forgetSets_2 (by decide) ?_
  refine lv_istore_n (lv' := [(2, .int 0), (1, .int 0), (0, .ref (E.2.2 + 160))]) hx hb dX9_forgetSets_3 rfl hl (by decide) rfl (fun ls hl => ?_)
  refine lv_iload_n hx hb dX9_forgetSets_4 rfl (lv_at hl 0 rfl) ?_
  refine lv_aload_n hx hb dX9_forgetSets_5 rfl (lv_at hl 2 rfl) ?_
  refine gx_getr (j := 3) S hK hw t_160 cl_10 0 (by decide) rfl mw_416 rfl dX9_forgetSets_6 ?_
  refine gx_get S hK hw t_3 cl_9 8 (by decide) rfl mw_160 rfl dX9_forgetSets_9 ?_
  refine gx_top (v := 1) (by first | rfl | decide | simp [up2, gs0, h_3_7, h_3_8]) ?_
  refine lv_icmp_ge (tgt := 37) hx hb dX9_forgetSets_12 (by decide) (fun h => absurd h (by decide)) (fun _ => ?_)
  refine lv_aload_n hx hb dX9_forgetSets_15 rfl (lv_at hl 2 rfl) ?_
  refine lv_iload_n hx hb dX9_forgetSets_16 rfl (lv_at hl 1 rfl) ?_
  refine lv_bipush (v := (-2)) hx hb dX9_forgetSets_17 (by decide) ?_
  refine gx_cVv (As := [.int 0, .int (-2)]) (rest := []) S hK gx_ok hw (c_remember l (E := E) (σ) (τ) (-2) ) cw_X9_121 t_160 cl_10 ⟨Nat.le_of_ble_eq_true rfl, Nat.le_of_ble_eq_true rfl⟩ rfl hl.1 rfl (Nat.le_of_ble_eq_true rfl) ⟨Nat.le_of_ble_eq_true rfl, Nat.le_of_ble_eq_true rfl⟩ dX9_forgetSets_19 (fun σ_1 τ_1 H locs hp hw => ?_)
  obtain ⟨es_1, et_1⟩ := hp
  obtain rfl := es_1.symm
  obtain rfl := et_1.symm
  refine lv_aload_n hx hb dX9_forgetSets_22 rfl (lv_at hl 2 rfl) ?_
  refine gx_getr (j := 3) S hK hw t_160 cl_10 0 (by decide) rfl mw_416 rfl dX9_forgetSets_23 ?_
  refine lv_iload_n hx hb dX9_forgetSets_26 rfl (lv_at hl 1 rfl) ?_
  refine gx_cVi (As := [.int 0]) (rest := []) S hK gx_ok hw (c_Town_nextSet l (E := E) (up2 (σ) 161 0 (-2)) (τ) (by first | rfl | decide | simp [up2, gs0, h_3_7, h_3_8])) cw_X9_125 t_3 cl_9 ⟨Nat.le_of_ble_eq_true rfl, Nat.le_of_ble_eq_true rfl⟩ rfl hl.1 rfl (Nat.le_of_ble_eq_true rfl) ⟨Nat.le_of_ble_eq_true rfl, Nat.le_of_ble_eq_true rfl⟩ dX9_forgetSets_27 (fun r_2 σ_2 τ_2 H locs hp hw => ?_)
  obtain ⟨er_2, es_2, et_2⟩ := hp
  obtain rfl := er_2.symm
  obtain rfl := es_2.symm
  obtain rfl := et_2.symm
  refine lv_istore_n (lv' := [(1, .int 0), (2, .int 0), (0, .ref (E.2.2 + 160))]) hx hb dX9_forgetSets_30 rfl hl (by decide) rfl (fun ls hl => ?_)
  refine lv_iinc (v := 1) (lv' := [(2, .int 1), (1, .int 0), (0, .ref (E.2.2 + 160))]) hx hb dX9_forgetSets_31 hl (k := 1) rfl (by decide) (by decide) rfl (fun ls hl => ?_)
  refine lv_goto (tgt := 4) hx hb dX9_forgetSets_34 (by decide) ?_
  refine lv_iload_n hx hb dX9_forgetSets_4 rfl (lv_at hl 0 rfl) ?_
  refine lv_aload_n hx hb dX9_forgetSets_5 rfl (lv_at hl 2 rfl) ?_
  refine gx_getr (j := 3) S hK hw t_160 cl_10 0 (by decide) rfl mw_416 rfl dX9_forgetSets_6 ?_
  refine gx_get S hK hw t_3 cl_9 8 (by decide) rfl mw_160 rfl dX9_forgetSets_9 ?_
  refine gx_top (v := 1) (by first | rfl | decide | simp [up2, gs0, h_3_7, h_3_8]) ?_
  refine lv_icmp_ge (tgt := 37) hx hb dX9_forgetSets_12 (by decide) (fun _ => ?_) (fun h => absurd (by decide) h)
  exact gx_rv (post := fun σ1 τ1 => σ1 = up2 σ 161 0 (-2) ∧ τ1 = τ) S hr hlk hw dX9_forgetSets_37 ⟨(by first | rfl | simp [up2, upJ]), (by first | rfl | simp [up2, upJ])⟩
set_option maxHeartbeats 4000000 in
set_option maxRecDepth 100000 in
theorem c_spread (l : Launch) {E : gE} (σ : gI) (τ : gJ)  (h_3_7 : σ 3 7 = 0) (h_158_4 : σ 158 4 = 0) : gx_Mv l yX9_spread cX9_spread 7 none 1 gx_tb E (σ) (τ) [.ref (E.2.2 + 160), .int 0, .int 0] (fun σ1 τ1 => σ1 = up2 σ 161 0 0 ∧ τ1 = τ) := by
  refine gx_bv (by decide +kernel) (Nat.le_of_ble_eq_true rfl) ?_
  intro P9 e9 s m9 below meth C9 S hr hlk hK hw ls hl
  have S : CallFix P9 m9 C9 cX9_spread 7 s _ gx_G RX9 := S
  have hx := S.1
  have hb := S.2.1
  have hl : lv_has ls 7 [(0, .ref (E.2.2 + 160)), (1, .int 0), (2, .int 0)] := hl
  refine lv_aload_n hx hb dX9_spread_0 rfl (lv_at hl 0 rfl) ?_
  refine gx_getr (j := 3) S hK hw t_160 cl_10 0 (by decide) rfl mw_416 rfl dX9_spread_1 ?_
  refine gx_get S hK hw t_3 cl_9 7 (by decide) rfl mw_157 rfl dX9_spread_4 ?_
  refine gx_top (v := 0) (by first | rfl | decide | simp [up2, gs0, h_3_7, h_158_4]) ?_
  refine lv_aload_n hx hb dX9_spread_7 rfl (lv_at hl 0 rfl) ?_
  refine gx_getr (j := 158) S hK hw t_160 cl_10 1 (by decide) rfl mw_417 rfl dX9_spread_8 ?_
  refine gx_get S hK hw t_158 cl_2 4 (by decide) rfl mw_375 rfl dX9_spread_11 ?_
  refine gx_top (v := 0) (by first | rfl | decide | simp [up2, gs0, h_3_7, h_158_4]) ?_
  refine lv_iconst (v := (-1)) hx hb dX9_spread_14 (by decide) ?_
  refine lv_ixor hx hb dX9_spread_15 ?_
  refine gx_top (v := (-1)) (by decide) ?_
  refine lv_iand hx hb dX9_spread_16 ?_
  refine gx_top (v := 0) (by decide) ?_
  refine lv_istore_n (lv' := [(3, .int 0), (0, .ref (E.2.2 + 160)), (1, .int 0), (2, .int 0)]) hx hb dX9_spread_17 rfl hl (by decide) rfl (fun ls hl => ?_)
  refine lv_iconst (v := 1) hx hb dX9_spread_18 (by decide) ?_
  refine lv_iload_n hx hb dX9_spread_19 rfl (lv_at hl 0 rfl) ?_
  refine gx_cSi (As := [.int 0]) (rest := [.int 1]) S hK gx_ok hw (c_bitCount0 l (E := E) (σ) (τ) ) cw_X9_137 ⟨Nat.le_of_ble_eq_true rfl, Nat.le_of_ble_eq_true rfl⟩ rfl hl.1 rfl (Nat.le_of_ble_eq_true rfl) ⟨Nat.le_of_ble_eq_true rfl, Nat.le_of_ble_eq_true rfl⟩ dX9_spread_20 (fun r_1 σ_1 τ_1 H locs hp hw => ?_)
  obtain ⟨er_1, es_1, et_1⟩ := hp
  obtain rfl := er_1.symm
  obtain rfl := es_1.symm
  obtain rfl := et_1.symm
  refine lv_ishl hx hb dX9_spread_23 ?_
  refine gx_top (v := 1) (by decide) ?_
  refine lv_istore (lv' := [(4, .int 1), (3, .int 0), (0, .ref (E.2.2 + 160)), (1, .int 0), (2, .int 0)]) hx hb dX9_spread_24 hl (by decide) rfl (fun ls hl => ?_)
  refine lv_iconst (v := 0) hx hb dX9_spread_26 (by decide) ?_
  refine lv_istore (lv' := [(5, .int 0), (4, .int 1), (3, .int 0), (0, .ref (E.2.2 + 160)), (1, .int 0), (2, .int 0)]) hx hb dX9_spread_27 hl (by decide) rfl (fun ls hl => ?_)
  refine lv_iconst (v := 0) hx hb dX9_spread_29 (by decide) ?_
  refine lv_istore (lv' := [(6, .int 0), (5, .int 0), (4, .int 1), (3, .int 0), (0, .ref (E.2.2 + 160)), (1, .int 0), (2, .int 0)]) hx hb dX9_spread_30 hl (by decide) rfl (fun ls hl => ?_)
  refine lv_iload hx hb dX9_spread_32 (lv_at hl 0 rfl) ?_
  refine lv_iload hx hb dX9_spread_34 (lv_at hl 2 rfl) ?_
  refine lv_icmp_ge (tgt := 66) hx hb dX9_spread_36 (by decide) (fun h => absurd h (by decide)) (fun _ => ?_)
  refine lv_aload_n hx hb dX9_spread_39 rfl (lv_at hl 4 rfl) ?_
  refine lv_iload_n hx hb dX9_spread_40 rfl (lv_at hl 5 rfl) ?_
  refine lv_iload_n hx hb dX9_spread_41 rfl (lv_at hl 3 rfl) ?_
  refine lv_iconst (v := (-1)) hx hb dX9_spread_42 (by decide) ?_
  refine lv_ixor hx hb dX9_spread_43 ?_
  refine gx_top (v := (-1)) (by decide) ?_
  refine lv_iand hx hb dX9_spread_44 ?_
  refine gx_top (v := 0) (by decide) ?_
  refine lv_iload hx hb dX9_spread_45 (lv_at hl 1 rfl) ?_
  refine lv_ior hx hb dX9_spread_47 ?_
  refine gx_top (v := 0) (by decide) ?_
  refine lv_iload_n hx hb dX9_spread_48 rfl (lv_at hl 6 rfl) ?_
  refine gx_cVv (As := [.int 0, .int 0]) (rest := []) S hK gx_ok hw (c_remember l (E := E) (σ) (τ) 0 ) cw_X9_121 t_160 cl_10 ⟨Nat.le_of_ble_eq_true rfl, Nat.le_of_ble_eq_true rfl⟩ rfl hl.1 rfl (Nat.le_of_ble_eq_true rfl) ⟨Nat.le_of_ble_eq_true rfl, Nat.le_of_ble_eq_true rfl⟩ dX9_spread_49 (fun σ_2 τ_2 H locs hp hw => ?_)
  obtain ⟨es_2, et_2⟩ := hp
  obtain rfl := es_2.symm
  obtain rfl := et_2.symm
  refine lv_iload hx hb dX9_spread_52 (lv_at hl 1 rfl) ?_
  refine lv_iload_n hx hb dX9_spread_54 rfl (lv_at hl 3 rfl) ?_
  refine lv_isub hx hb dX9_spread_55 ?_
  refine gx_top (v := 0) (by decide) ?_
  refine lv_iload_n hx hb dX9_spread_56 rfl (lv_at hl 3 rfl) ?_
  refine lv_iand hx hb dX9_spread_57 ?_
  refine gx_top (v := 0) (by decide) ?_
  refine lv_istore (lv' := [(5, .int 0), (6, .int 0), (4, .int 1), (3, .int 0), (0, .ref (E.2.2 + 160)), (1, .int 0), (2, .int 0)]) hx hb dX9_spread_58 hl (by decide) rfl (fun ls hl => ?_)
  refine lv_iinc (v := 1) (lv' := [(6, .int 1), (5, .int 0), (4, .int 1), (3, .int 0), (0, .ref (E.2.2 + 160)), (1, .int 0), (2, .int 0)]) hx hb dX9_spread_60 hl (k := 1) rfl (by decide) (by decide) rfl (fun ls hl => ?_)
  refine lv_goto (tgt := 32) hx hb dX9_spread_63 (by decide) ?_
  refine lv_iload hx hb dX9_spread_32 (lv_at hl 0 rfl) ?_
  refine lv_iload hx hb dX9_spread_34 (lv_at hl 2 rfl) ?_
  refine lv_icmp_ge (tgt := 66) hx hb dX9_spread_36 (by decide) (fun _ => ?_) (fun h => absurd (by decide) h)
  exact gx_rv (post := fun σ1 τ1 => σ1 = up2 σ 161 0 0 ∧ τ1 = τ) S hr hlk hw dX9_spread_66 ⟨(by first | rfl | simp [up2, upJ]), (by first | rfl | simp [up2, upJ])⟩
set_option maxHeartbeats 4000000 in
set_option maxRecDepth 100000 in
theorem c_outcome (l : Launch) {E : gE} (σ : gI) (τ : gJ)  (h_164_6 : σ 164 6 = 0) (h_164_7 : σ 164 7 = 0) (h_164_8 : σ 164 8 = 0) (h_164_9 : σ 164 9 = 0) (h_164_10 : σ 164 10 = 0) (h_160_5 : σ 160 5 = 0) (h_160_6 : σ 160 6 = 0) (h_172_0 : σ 172 0 = 0) (h_161_0 : σ 161 0 = -2) (h_3_7 : σ 3 7 = 0) : gx_Mi l yX9_outcome cX9_outcome 2 (some .int) 3 gx_tb E (σ) (τ) [.ref (E.2.2 + 160), .int 0] (fun r σ1 τ1 => r = 0 ∧ σ1 = up2 (up2 (up2 (up2 (up2 (up2 (up2 (up2 (up2 (σ) 171 6 0) 171 7 0) 171 8 0) 171 9 0) 171 10 0) 171 7 0) 158 4 0) 158 5 0) 161 0 0 ∧ τ1 = τ) := by
  refine gx_bi (by decide +kernel) (Nat.le_of_ble_eq_true rfl) ?_
  intro P9 e9 s m9 below meth C9 S hr hlk hK hw ls hl
  have S : CallFix P9 m9 C9 cX9_outcome 2 s _ gx_G RX9 := S
  have hx := S.1
  have hb := S.2.1
  have hl : lv_has ls 2 [(0, .ref (E.2.2 + 160)), (1, .int 0)] := hl
  refine lv_iload_n hx hb dX9_outcome_0 rfl (lv_at hl 1 rfl) ?_
  refine lv_if_lt (tgt := 11) hx hb dX9_outcome_1 (by decide) (fun h => absurd h (by decide)) (fun _ => ?_)
  refine lv_iload_n hx hb dX9_outcome_4 rfl (lv_at hl 1 rfl) ?_
  refine lv_sipush (v := 4096) hx hb dX9_outcome_5 (by decide) ?_
  refine lv_icmp_lt (tgt := 13) hx hb dX9_outcome_8 (by decide) (fun _ => ?_) (fun h => absurd (by decide) h)
  refine lv_aload_n hx hb dX9_outcome_13 rfl (lv_at hl 0 rfl) ?_
  refine gx_getr (j := 161) S hK hw t_160 cl_10 2 (by decide) rfl mw_418 rfl dX9_outcome_14 ?_
  refine lv_iload_n hx hb dX9_outcome_17 rfl (lv_at hl 1 rfl) ?_
  refine gx_iald S hK hw t_161 0 rfl (gx_in rfl (by decide) (by decide)) dX9_outcome_18 ?_
  refine gx_top (v := (-2)) (by first | rfl | decide | simp [up2, gs0, h_164_6, h_164_7, h_164_8, h_164_9, h_164_10, h_160_5, h_160_6, h_172_0, h_161_0, h_3_7]) ?_
  refine lv_bipush (v := (-2)) hx hb dX9_outcome_19 (by decide) ?_
  refine lv_icmp_ne (tgt := 34) hx hb dX9_outcome_21 (by decide) (fun h => absurd (by decide) h) (fun _ => ?_)
  refine lv_aload_n hx hb dX9_outcome_24 rfl (lv_at hl 0 rfl) ?_
  refine lv_iload_n hx hb dX9_outcome_25 rfl (lv_at hl 1 rfl) ?_
  refine lv_aload_n hx hb dX9_outcome_26 rfl (lv_at hl 0 rfl) ?_
  refine lv_iload_n hx hb dX9_outcome_27 rfl (lv_at hl 1 rfl) ?_
  refine gx_cVi (As := [.int 0]) (rest := [.int 0, .ref (E.2.2 + 160)]) S hK gx_ok hw (c_go l (E := E) (σ) (τ) (by first | rfl | decide | simp [up2, gs0, h_164_6, h_164_7, h_164_8, h_164_9, h_164_10, h_160_5, h_160_6, h_172_0, h_161_0, h_3_7]) (by first | rfl | decide | simp [up2, gs0, h_164_6, h_164_7, h_164_8, h_164_9, h_164_10, h_160_5, h_160_6, h_172_0, h_161_0, h_3_7]) (by first | rfl | decide | simp [up2, gs0, h_164_6, h_164_7, h_164_8, h_164_9, h_164_10, h_160_5, h_160_6, h_172_0, h_161_0, h_3_7]) (by first | rfl | decide | simp [up2, gs0, h_164_6, h_164_7, h_164_8, h_164_9, h_164_10, h_160_5, h_160_6, h_172_0, h_161_0, h_3_7]) (by first | rfl | decide | simp [up2, gs0, h_164_6, h_164_7, h_164_8, h_164_9, h_164_10, h_160_5, h_160_6, h_172_0, h_161_0, h_3_7]) (by first | rfl | decide | simp [up2, gs0, h_164_6, h_164_7, h_164_8, h_164_9, h_164_10, h_160_5, h_160_6, h_172_0, h_161_0, h_3_7]) (by first | rfl | decide | simp [up2, gs0, h_164_6, h_164_7, h_164_8, h_164_9, h_164_10, h_160_5, h_160_6, h_172_0, h_161_0, h_3_7]) (by first | rfl | decide | simp [up2, gs0, h_164_6, h_164_7, h_164_8, h_164_9, h_164_10, h_160_5, h_160_6, h_172_0, h_161_0, h_3_7])) cw_X9_128 t_160 cl_10 ⟨Nat.le_of_ble_eq_true rfl, Nat.le_of_ble_eq_true rfl⟩ rfl hl.1 rfl (Nat.le_of_ble_eq_true rfl) ⟨Nat.le_of_ble_eq_true rfl, Nat.le_of_ble_eq_true rfl⟩ dX9_outcome_28 (fun r_1 σ_1 τ_1 H locs hp hw => ?_)
  obtain ⟨er_1, es_1, et_1⟩ := hp
  obtain rfl := er_1.symm
  obtain rfl := es_1.symm
  obtain rfl := et_1.symm
  refine gx_cVv (As := [.int 0, .int 0]) (rest := []) S hK gx_ok hw (c_spread l (E := E) (up2 (up2 (up2 (up2 (up2 (up2 (up2 (up2 ((σ)) 171 6 0) 171 7 0) 171 8 0) 171 9 0) 171 10 0) 171 7 0) 158 4 0) 158 5 0) (τ) (by first | rfl | decide | simp [up2, gs0, h_164_6, h_164_7, h_164_8, h_164_9, h_164_10, h_160_5, h_160_6, h_172_0, h_161_0, h_3_7]) (by first | rfl | decide | simp [up2, gs0, h_164_6, h_164_7, h_164_8, h_164_9, h_164_10, h_160_5, h_160_6, h_172_0, h_161_0, h_3_7])) cw_X9_131 t_160 cl_10 ⟨Nat.le_of_ble_eq_true rfl, Nat.le_of_ble_eq_true rfl⟩ rfl hl.1 rfl (Nat.le_of_ble_eq_true rfl) ⟨Nat.le_of_ble_eq_true rfl, Nat.le_of_ble_eq_true rfl⟩ dX9_outcome_31 (fun σ_2 τ_2 H locs hp hw => ?_)
  obtain ⟨es_2, et_2⟩ := hp
  obtain rfl := es_2.symm
  obtain rfl := et_2.symm
  refine lv_aload_n hx hb dX9_outcome_34 rfl (lv_at hl 0 rfl) ?_
  refine gx_getr (j := 161) S hK hw t_160 cl_10 2 (by decide) rfl mw_418 rfl dX9_outcome_35 ?_
  refine lv_iload_n hx hb dX9_outcome_38 rfl (lv_at hl 1 rfl) ?_
  refine gx_iald S hK hw t_161 0 rfl (gx_in rfl (by decide) (by decide)) dX9_outcome_39 ?_
  refine gx_top (v := 0) (by first | rfl | decide | simp [up2, gs0, h_164_6, h_164_7, h_164_8, h_164_9, h_164_10, h_160_5, h_160_6, h_172_0, h_161_0, h_3_7]) ?_
  exact gx_ri (post := fun r σ1 τ1 => r = 0 ∧ σ1 = up2 (up2 (up2 (up2 (up2 (up2 (up2 (up2 (up2 (σ) 171 6 0) 171 7 0) 171 8 0) 171 9 0) 171 10 0) 171 7 0) 158 4 0) 158 5 0) 161 0 0 ∧ τ1 = τ) (v := 0) S hr hlk hw rfl dX9_outcome_40 ⟨rfl, (by first | rfl | simp [up2, upJ]), (by first | rfl | simp [up2, upJ])⟩
set_option maxHeartbeats 4000000 in
set_option maxRecDepth 100000 in
theorem c_fits (l : Launch) {E : gE} (σ : gI) (τ : gJ)  (h_162_0 : σ 162 0 = 1) : gx_Mi l yX9_fits cX9_fits 2 (some .boolean) 0 gx_tb E (σ) (τ) [.ref (E.2.2 + 160), .int 0] (fun r σ1 τ1 => r = 1 ∧ σ1 = σ ∧ τ1 = τ) := by
  refine gx_bi (by decide +kernel) (Nat.le_of_ble_eq_true rfl) ?_
  intro P9 e9 s m9 below meth C9 S hr hlk hK hw ls hl
  have S : CallFix P9 m9 C9 cX9_fits 2 s _ gx_G RX9 := S
  have hx := S.1
  have hb := S.2.1
  have hl : lv_has ls 2 [(0, .ref (E.2.2 + 160)), (1, .int 0)] := hl
  refine lv_iload_n hx hb dX9_fits_0 rfl (lv_at hl 1 rfl) ?_
  refine lv_if_lt (tgt := 24) hx hb dX9_fits_1 (by decide) (fun h => absurd h (by decide)) (fun _ => ?_)
  refine lv_iload_n hx hb dX9_fits_4 rfl (lv_at hl 1 rfl) ?_
  refine lv_sipush (v := 4096) hx hb dX9_fits_5 (by decide) ?_
  refine lv_icmp_ge (tgt := 24) hx hb dX9_fits_8 (by decide) (fun h => absurd h (by decide)) (fun _ => ?_)
  refine lv_aload_n hx hb dX9_fits_11 rfl (lv_at hl 0 rfl) ?_
  refine gx_getr (j := 162) S hK hw t_160 cl_10 3 (by decide) rfl mw_419 rfl dX9_fits_12 ?_
  refine lv_iload_n hx hb dX9_fits_15 rfl (lv_at hl 1 rfl) ?_
  refine gx_zald S hK hw t_162 0 rfl (gx_in rfl (by decide) (by decide)) dX9_fits_16 ?_
  refine gx_top (v := 1) (by first | rfl | decide | simp [up2, gs0, h_162_0]) ?_
  refine lv_if_eq (tgt := 24) hx hb dX9_fits_17 (by decide) (fun h => absurd h (by decide)) (fun _ => ?_)
  refine lv_iconst (v := 1) hx hb dX9_fits_20 (by decide) ?_
  refine lv_goto (tgt := 25) hx hb dX9_fits_21 (by decide) ?_
  exact gx_ri (post := fun r σ1 τ1 => r = 1 ∧ σ1 = σ ∧ τ1 = τ) (v := 1) S hr hlk hw rfl dX9_fits_25 ⟨rfl, rfl, rfl⟩
set_option maxHeartbeats 4000000 in
set_option maxRecDepth 100000 in
theorem c_setFitting (l : Launch) {E : gE} (σ : gI) (τ : gJ)   : gx_Mv l yX9_setFitting cX9_setFitting 3 none 0 gx_tb E (σ) (τ) [.ref (E.2.2 + 160), .int 0, .int 1] (fun σ1 τ1 => σ1 = up2 σ 162 0 1 ∧ τ1 = τ) := by
  refine gx_bv (by decide +kernel) (Nat.le_of_ble_eq_true rfl) ?_
  intro P9 e9 s m9 below meth C9 S hr hlk hK hw ls hl
  have S : CallFix P9 m9 C9 cX9_setFitting 3 s _ gx_G RX9 := S
  have hx := S.1
  have hb := S.2.1
  have hl : lv_has ls 3 [(0, .ref (E.2.2 + 160)), (1, .int 0), (2, .int 1)] := hl
  refine lv_iload_n hx hb dX9_setFitting_0 rfl (lv_at hl 1 rfl) ?_
  refine lv_if_lt (tgt := 18) hx hb dX9_setFitting_1 (by decide) (fun h => absurd h (by decide)) (fun _ => ?_)
  refine lv_iload_n hx hb dX9_setFitting_4 rfl (lv_at hl 1 rfl) ?_
  refine lv_sipush (v := 4096) hx hb dX9_setFitting_5 (by decide) ?_
  refine lv_icmp_ge (tgt := 18) hx hb dX9_setFitting_8 (by decide) (fun h => absurd h (by decide)) (fun _ => ?_)
  refine lv_aload_n hx hb dX9_setFitting_11 rfl (lv_at hl 0 rfl) ?_
  refine gx_getr (j := 162) S hK hw t_160 cl_10 3 (by decide) rfl mw_419 rfl dX9_setFitting_12 ?_
  refine lv_iload_n hx hb dX9_setFitting_15 rfl (lv_at hl 1 rfl) ?_
  refine lv_iload_n hx hb dX9_setFitting_16 rfl (lv_at hl 2 rfl) ?_
  refine gx_zast S hK gx_ok hw t_162 0 rfl (gx_in rfl (by decide) (by decide)) (by decide) dX9_setFitting_17 (fun H locs hw => ?_)
  exact gx_rv (post := fun σ1 τ1 => σ1 = up2 σ 162 0 1 ∧ τ1 = τ) S hr hlk hw dX9_setFitting_18 ⟨(by first | rfl | simp [up2, upJ]), rfl⟩
set_option maxHeartbeats 4000000 in
set_option maxRecDepth 100000 in
theorem c_fitAll (l : Launch) {E : gE} (σ : gI) (τ : gJ)  (h_3_7 : σ 3 7 = 0) (h_3_8 : σ 3 8 = 1) : gx_Mv l yX9_fitAll cX9_fitAll 3 none 1 gx_tb E (σ) (τ) [.ref (E.2.2 + 160)] (fun σ1 τ1 => σ1 = up2 σ 162 0 1 ∧ τ1 = τ) := by
  refine gx_bv (by decide +kernel) (Nat.le_of_ble_eq_true rfl) ?_
  intro P9 e9 s m9 below meth C9 S hr hlk hK hw ls hl
  have S : CallFix P9 m9 C9 cX9_fitAll 3 s _ gx_G RX9 := S
  have hx := S.1
  have hb := S.2.1
  have hl : lv_has ls 3 [(0, .ref (E.2.2 + 160))] := hl
  refine lv_iconst (v := 0) hx hb dX9_fitAll_0 (by decide) ?_
  refine lv_istore_n (lv' := [(1, .int 0), (0, .ref (E.2.2 + 160))]) hx hb dX9_fitAll_1 rfl hl (by decide) rfl (fun ls hl => ?_)
  refine lv_iconst (v := 0) hx hb dX9_fitAll_2 (by decide) ?_
  refine lv_istore_n (lv' := [(2, .int 0), (1, .int 0), (0, .ref (E.2.2 + 160))]) hx hb dX9_fitAll_3 rfl hl (by decide) rfl (fun ls hl => ?_)
  refine lv_iload_n hx hb dX9_fitAll_4 rfl (lv_at hl 0 rfl) ?_
  refine lv_aload_n hx hb dX9_fitAll_5 rfl (lv_at hl 2 rfl) ?_
  refine gx_getr (j := 3) S hK hw t_160 cl_10 0 (by decide) rfl mw_416 rfl dX9_fitAll_6 ?_
  refine gx_get S hK hw t_3 cl_9 8 (by decide) rfl mw_160 rfl dX9_fitAll_9 ?_
  refine gx_top (v := 1) (by first | rfl | decide | simp [up2, gs0, h_3_7, h_3_8]) ?_
  refine lv_icmp_ge (tgt := 36) hx hb dX9_fitAll_12 (by decide) (fun h => absurd h (by decide)) (fun _ => ?_)
  refine lv_aload_n hx hb dX9_fitAll_15 rfl (lv_at hl 2 rfl) ?_
  refine lv_iload_n hx hb dX9_fitAll_16 rfl (lv_at hl 1 rfl) ?_
  refine lv_iconst (v := 1) hx hb dX9_fitAll_17 (by decide) ?_
  refine gx_cVv (As := [.int 0, .int 1]) (rest := []) S hK gx_ok hw (c_setFitting l (E := E) (σ) (τ) ) cw_X9_142 t_160 cl_10 ⟨Nat.le_of_ble_eq_true rfl, Nat.le_of_ble_eq_true rfl⟩ rfl hl.1 rfl (Nat.le_of_ble_eq_true rfl) ⟨Nat.le_of_ble_eq_true rfl, Nat.le_of_ble_eq_true rfl⟩ dX9_fitAll_18 (fun σ_1 τ_1 H locs hp hw => ?_)
  obtain ⟨es_1, et_1⟩ := hp
  obtain rfl := es_1.symm
  obtain rfl := et_1.symm
  refine lv_aload_n hx hb dX9_fitAll_21 rfl (lv_at hl 2 rfl) ?_
  refine gx_getr (j := 3) S hK hw t_160 cl_10 0 (by decide) rfl mw_416 rfl dX9_fitAll_22 ?_
  refine lv_iload_n hx hb dX9_fitAll_25 rfl (lv_at hl 1 rfl) ?_
  refine gx_cVi (As := [.int 0]) (rest := []) S hK gx_ok hw (c_Town_nextSet l (E := E) (up2 (σ) 162 0 1) (τ) (by first | rfl | decide | simp [up2, gs0, h_3_7, h_3_8])) cw_X9_125 t_3 cl_9 ⟨Nat.le_of_ble_eq_true rfl, Nat.le_of_ble_eq_true rfl⟩ rfl hl.1 rfl (Nat.le_of_ble_eq_true rfl) ⟨Nat.le_of_ble_eq_true rfl, Nat.le_of_ble_eq_true rfl⟩ dX9_fitAll_26 (fun r_2 σ_2 τ_2 H locs hp hw => ?_)
  obtain ⟨er_2, es_2, et_2⟩ := hp
  obtain rfl := er_2.symm
  obtain rfl := es_2.symm
  obtain rfl := et_2.symm
  refine lv_istore_n (lv' := [(1, .int 0), (2, .int 0), (0, .ref (E.2.2 + 160))]) hx hb dX9_fitAll_29 rfl hl (by decide) rfl (fun ls hl => ?_)
  refine lv_iinc (v := 1) (lv' := [(2, .int 1), (1, .int 0), (0, .ref (E.2.2 + 160))]) hx hb dX9_fitAll_30 hl (k := 1) rfl (by decide) (by decide) rfl (fun ls hl => ?_)
  refine lv_goto (tgt := 4) hx hb dX9_fitAll_33 (by decide) ?_
  refine lv_iload_n hx hb dX9_fitAll_4 rfl (lv_at hl 0 rfl) ?_
  refine lv_aload_n hx hb dX9_fitAll_5 rfl (lv_at hl 2 rfl) ?_
  refine gx_getr (j := 3) S hK hw t_160 cl_10 0 (by decide) rfl mw_416 rfl dX9_fitAll_6 ?_
  refine gx_get S hK hw t_3 cl_9 8 (by decide) rfl mw_160 rfl dX9_fitAll_9 ?_
  refine gx_top (v := 1) (by first | rfl | decide | simp [up2, gs0, h_3_7, h_3_8]) ?_
  refine lv_icmp_ge (tgt := 36) hx hb dX9_fitAll_12 (by decide) (fun _ => ?_) (fun h => absurd (by decide) h)
  exact gx_rv (post := fun σ1 τ1 => σ1 = up2 σ 162 0 1 ∧ τ1 = τ) S hr hlk hw dX9_fitAll_36 ⟨(by first | rfl | simp [up2, upJ]), (by first | rfl | simp [up2, upJ])⟩
set_option maxHeartbeats 4000000 in
set_option maxRecDepth 100000 in
theorem c_Diary_read (l : Launch) {E : gE} (σ : gI) (τ : gJ)  (h_1_2 : σ 1 2 = 0) : gx_Mi l yX2_read cX2_read 5 (some .int) 2 gx_tb E (σ) (τ) [.ref (E.2.2 + 25), .ref (E.2.2 + 1)] (fun r σ1 τ1 => r = 0 ∧ (∀ c k : Nat, ¬ c = 25 → ¬ (c = 1 ∧ k = 1) → σ1 c k = (σ) c k) ∧ τ1 = τ) := by
  refine gx_bi (by decide +kernel) (Nat.le_of_ble_eq_true rfl) ?_
  intro P9 e9 s m9 below meth C9 S hr hlk hK hw ls hl
  have S : CallFix P9 m9 C9 cX2_read 5 s _ gx_G RX2 := S
  have hx := S.1
  have hb := S.2.1
  have hl : lv_has ls 5 [(0, .ref (E.2.2 + 25)), (1, .ref (E.2.2 + 1))] := hl
  refine lv_aload_n hx hb dX2_read_0 rfl (lv_at hl 0 rfl) ?_
  refine lv_iconst (v := 0) hx hb dX2_read_1 (by decide) ?_
  refine gx_put S hK gx_ok hw t_25 cl_3 4 (by decide) rfl mw_246 rfl rfl (ty := .int) (v := 0) (by decide +kernel) rfl rfl dX2_read_2 (fun H locs hw => ?_)
  refine lv_aload_n hx hb dX2_read_5 rfl (lv_at hl 1 rfl) ?_
  refine lv_bipush (v := 60) hx hb dX2_read_6 (by decide) ?_
  refine gx_cVv (As := [.int 60]) (rest := []) S hK gx_ok hw (c_show l (E := E) (up2 (σ) 25 4 0) (τ) 60 (by first | rfl | decide | simp [up2, gs0, h_1_2])) cw_X2_30 t_1 cl_8 ⟨Nat.le_of_ble_eq_true rfl, Nat.le_of_ble_eq_true rfl⟩ rfl hl.1 rfl (Nat.le_of_ble_eq_true rfl) ⟨Nat.le_of_ble_eq_true rfl, Nat.le_of_ble_eq_true rfl⟩ dX2_read_8 (fun σ_1 τ_1 H locs hp hw => ?_)
  obtain ⟨hs_1, et_1⟩ := hp
  obtain rfl := et_1.symm
  refine lv_aload_n hx hb dX2_read_11 rfl (lv_at hl 1 rfl) ?_
  refine lv_iconst (v := 0) hx hb dX2_read_12 (by decide) ?_
  refine gx_cVi (As := [.int 0]) (rest := []) S hK gx_ok hw (c_isOver l (E := E) (σ_1) (τ) (by first | rfl | decide | simp [up2, gs0, h_1_2, hs_1])) cw_X2_36 t_1 cl_8 ⟨Nat.le_of_ble_eq_true rfl, Nat.le_of_ble_eq_true rfl⟩ rfl hl.1 rfl (Nat.le_of_ble_eq_true rfl) ⟨Nat.le_of_ble_eq_true rfl, Nat.le_of_ble_eq_true rfl⟩ dX2_read_13 (fun r_2 σ_2 τ_2 H locs hp hw => ?_)
  obtain ⟨er_2, es_2, et_2⟩ := hp
  obtain rfl := er_2.symm
  obtain rfl := es_2.symm
  obtain rfl := et_2.symm
  refine lv_if_eq (tgt := 21) hx hb dX2_read_16 (by decide) (fun h => absurd h (by decide)) (fun _ => ?_)
  refine lv_iconst (v := 0) hx hb dX2_read_19 (by decide) ?_
  exact gx_ri (post := fun r σ1 τ1 => r = 0 ∧ (∀ c k : Nat, ¬ c = 25 → ¬ (c = 1 ∧ k = 1) → σ1 c k = (σ) c k) ∧ τ1 = τ) (v := 0) S hr hlk hw rfl dX2_read_20 ⟨rfl, (fun c9 k9 h9_0 h9_1 => by simp [up2, upJ, h9_0, h9_1, hs_1]), (by first | rfl | simp [up2, upJ])⟩
set_option maxHeartbeats 4000000 in
set_option maxRecDepth 100000 in
theorem c_isLoad (l : Launch) {E : gE} (σ : gI) (τ : gJ) (b n : Int32)  : gx_Mi l yX11_isLoad cX11_isLoad 2 (some .boolean) 0 gx_tb E (σ) (τ) [.int b, .int n] (fun r σ1 τ1 => r = (if 0 ≤ b.toInt ∧ b.toInt ≤ 99 ∧ 0 ≤ n.toInt ∧ n.toInt ≤ 9 then 1 else 0) ∧ σ1 = σ ∧ τ1 = τ) := by
  refine gx_bi (by decide +kernel) (Nat.le_of_ble_eq_true rfl) ?_
  intro P9 e9 s m9 below meth C9 S hr hlk hK hw ls hl
  have S : CallFix P9 m9 C9 cX11_isLoad 2 s _ gx_G RX11 := S
  have hx := S.1
  have hb := S.2.1
  have hl : lv_has ls 2 [(0, .int b), (1, .int n)] := hl
  refine lv_iload_n hx hb dX11_isLoad_0 rfl (lv_at hl 0 rfl) ?_
  refine lv_if_lt (tgt := 24) hx hb dX11_isLoad_1 (by decide) (fun c_1 => ?_) (fun c_1 => ?_)
  · refine lv_iconst (v := 0) hx hb dX11_isLoad_24 (by decide) ?_
    exact gx_ri (post := fun r σ1 τ1 => r = (if 0 ≤ b.toInt ∧ b.toInt ≤ 99 ∧ 0 ≤ n.toInt ∧ n.toInt ≤ 9 then 1 else 0) ∧ σ1 = σ ∧ τ1 = τ) (v := 0) S hr hlk hw rfl dX11_isLoad_25 ⟨(by simp only [fa_lt, fa_le, fa_eq, show (0 : Int32).toInt = 0 from rfl] at c_1; exact ((if_neg (by omega)).trans (rfl)).symm), rfl, rfl⟩
  · refine lv_iload_n hx hb dX11_isLoad_4 rfl (lv_at hl 0 rfl) ?_
    refine lv_bipush (v := 99) hx hb dX11_isLoad_5 (by decide) ?_
    refine lv_icmp_gt (tgt := 24) hx hb dX11_isLoad_7 (by decide) (fun c_2 => ?_) (fun c_2 => ?_)
    · refine lv_iconst (v := 0) hx hb dX11_isLoad_24 (by decide) ?_
      exact gx_ri (post := fun r σ1 τ1 => r = (if 0 ≤ b.toInt ∧ b.toInt ≤ 99 ∧ 0 ≤ n.toInt ∧ n.toInt ≤ 9 then 1 else 0) ∧ σ1 = σ ∧ τ1 = τ) (v := 0) S hr hlk hw rfl dX11_isLoad_25 ⟨(by simp only [fa_lt, fa_le, fa_eq, show (0 : Int32).toInt = 0 from rfl, show (99 : Int32).toInt = 99 from rfl] at c_1 c_2; exact ((if_neg (by omega)).trans (rfl)).symm), rfl, rfl⟩
    · refine lv_iload_n hx hb dX11_isLoad_10 rfl (lv_at hl 1 rfl) ?_
      refine lv_if_lt (tgt := 24) hx hb dX11_isLoad_11 (by decide) (fun c_3 => ?_) (fun c_3 => ?_)
      · refine lv_iconst (v := 0) hx hb dX11_isLoad_24 (by decide) ?_
        exact gx_ri (post := fun r σ1 τ1 => r = (if 0 ≤ b.toInt ∧ b.toInt ≤ 99 ∧ 0 ≤ n.toInt ∧ n.toInt ≤ 9 then 1 else 0) ∧ σ1 = σ ∧ τ1 = τ) (v := 0) S hr hlk hw rfl dX11_isLoad_25 ⟨(by simp only [fa_lt, fa_le, fa_eq, show (0 : Int32).toInt = 0 from rfl, show (99 : Int32).toInt = 99 from rfl] at c_1 c_2 c_3; exact ((if_neg (by omega)).trans (rfl)).symm), rfl, rfl⟩
      · refine lv_iload_n hx hb dX11_isLoad_14 rfl (lv_at hl 1 rfl) ?_
        refine lv_bipush (v := 9) hx hb dX11_isLoad_15 (by decide) ?_
        refine lv_icmp_gt (tgt := 24) hx hb dX11_isLoad_17 (by decide) (fun c_4 => ?_) (fun c_4 => ?_)
        · refine lv_iconst (v := 0) hx hb dX11_isLoad_24 (by decide) ?_
          exact gx_ri (post := fun r σ1 τ1 => r = (if 0 ≤ b.toInt ∧ b.toInt ≤ 99 ∧ 0 ≤ n.toInt ∧ n.toInt ≤ 9 then 1 else 0) ∧ σ1 = σ ∧ τ1 = τ) (v := 0) S hr hlk hw rfl dX11_isLoad_25 ⟨(by simp only [fa_lt, fa_le, fa_eq, show (0 : Int32).toInt = 0 from rfl, show (9 : Int32).toInt = 9 from rfl, show (99 : Int32).toInt = 99 from rfl] at c_1 c_2 c_3 c_4; exact ((if_neg (by omega)).trans (rfl)).symm), rfl, rfl⟩
        · refine lv_iconst (v := 1) hx hb dX11_isLoad_20 (by decide) ?_
          refine lv_goto (tgt := 25) hx hb dX11_isLoad_21 (by decide) ?_
          exact gx_ri (post := fun r σ1 τ1 => r = (if 0 ≤ b.toInt ∧ b.toInt ≤ 99 ∧ 0 ≤ n.toInt ∧ n.toInt ≤ 9 then 1 else 0) ∧ σ1 = σ ∧ τ1 = τ) (v := 1) S hr hlk hw rfl dX11_isLoad_25 ⟨(by simp only [fa_lt, fa_le, fa_eq, show (0 : Int32).toInt = 0 from rfl, show (9 : Int32).toInt = 9 from rfl, show (99 : Int32).toInt = 99 from rfl] at c_1 c_2 c_3 c_4; exact (if_pos (by omega)).symm), rfl, rfl⟩
set_option maxHeartbeats 4000000 in
set_option maxRecDepth 100000 in
theorem c_isAhead (l : Launch) {E : gE} (σ : gI) (τ : gJ) (n : Int32)  : gx_Mi l yX11_isAhead cX11_isAhead 1 (some .boolean) 0 gx_tb E (σ) (τ) [.int n] (fun r σ1 τ1 => r = (if 0 ≤ n.toInt ∧ n.toInt ≤ 300 then 1 else 0) ∧ σ1 = σ ∧ τ1 = τ) := by
  refine gx_bi (by decide +kernel) (Nat.le_of_ble_eq_true rfl) ?_
  intro P9 e9 s m9 below meth C9 S hr hlk hK hw ls hl
  have S : CallFix P9 m9 C9 cX11_isAhead 1 s _ gx_G RX11 := S
  have hx := S.1
  have hb := S.2.1
  have hl : lv_has ls 1 [(0, .int n)] := hl
  refine lv_iload_n hx hb dX11_isAhead_0 rfl (lv_at hl 0 rfl) ?_
  refine lv_if_lt (tgt := 15) hx hb dX11_isAhead_1 (by decide) (fun c_1 => ?_) (fun c_1 => ?_)
  · refine lv_iconst (v := 0) hx hb dX11_isAhead_15 (by decide) ?_
    exact gx_ri (post := fun r σ1 τ1 => r = (if 0 ≤ n.toInt ∧ n.toInt ≤ 300 then 1 else 0) ∧ σ1 = σ ∧ τ1 = τ) (v := 0) S hr hlk hw rfl dX11_isAhead_16 ⟨(by simp only [fa_lt, fa_le, fa_eq, show (0 : Int32).toInt = 0 from rfl] at c_1; exact ((if_neg (by omega)).trans (rfl)).symm), rfl, rfl⟩
  · refine lv_iload_n hx hb dX11_isAhead_4 rfl (lv_at hl 0 rfl) ?_
    refine lv_sipush (v := 300) hx hb dX11_isAhead_5 (by decide) ?_
    refine lv_icmp_gt (tgt := 15) hx hb dX11_isAhead_8 (by decide) (fun c_2 => ?_) (fun c_2 => ?_)
    · refine lv_iconst (v := 0) hx hb dX11_isAhead_15 (by decide) ?_
      exact gx_ri (post := fun r σ1 τ1 => r = (if 0 ≤ n.toInt ∧ n.toInt ≤ 300 then 1 else 0) ∧ σ1 = σ ∧ τ1 = τ) (v := 0) S hr hlk hw rfl dX11_isAhead_16 ⟨(by simp only [fa_lt, fa_le, fa_eq, show (0 : Int32).toInt = 0 from rfl, show (300 : Int32).toInt = 300 from rfl] at c_1 c_2; exact ((if_neg (by omega)).trans (rfl)).symm), rfl, rfl⟩
    · refine lv_iconst (v := 1) hx hb dX11_isAhead_11 (by decide) ?_
      refine lv_goto (tgt := 16) hx hb dX11_isAhead_12 (by decide) ?_
      exact gx_ri (post := fun r σ1 τ1 => r = (if 0 ≤ n.toInt ∧ n.toInt ≤ 300 then 1 else 0) ∧ σ1 = σ ∧ τ1 = τ) (v := 1) S hr hlk hw rfl dX11_isAhead_16 ⟨(by simp only [fa_lt, fa_le, fa_eq, show (0 : Int32).toInt = 0 from rfl, show (300 : Int32).toInt = 300 from rfl] at c_1 c_2; exact (if_pos (by omega)).symm), rfl, rfl⟩
set_option maxHeartbeats 4000000 in
set_option maxRecDepth 100000 in
theorem c_minutesOf (l : Launch) {E : gE} (σ : gI) (τ : gJ)   : gx_Mi l yX11_minutesOf cX11_minutesOf 1 (some .int) 0 gx_tb E (σ) (τ) [.int 0] (fun r σ1 τ1 => r = 0 ∧ σ1 = σ ∧ τ1 = τ) := by
  refine gx_bi (by decide +kernel) (Nat.le_of_ble_eq_true rfl) ?_
  intro P9 e9 s m9 below meth C9 S hr hlk hK hw ls hl
  have S : CallFix P9 m9 C9 cX11_minutesOf 1 s _ gx_G RX11 := S
  have hx := S.1
  have hb := S.2.1
  have hl : lv_has ls 1 [(0, .int 0)] := hl
  refine lv_iload_n hx hb dX11_minutesOf_0 rfl (lv_at hl 0 rfl) ?_
  refine lv_bipush (v := 16) hx hb dX11_minutesOf_1 (by decide) ?_
  refine lv_idiv hx hb dX11_minutesOf_3 (by decide) ?_
  refine gx_top (v := 0) (by decide) ?_
  exact gx_ri (post := fun r σ1 τ1 => r = 0 ∧ σ1 = σ ∧ τ1 = τ) (v := 0) S hr hlk hw rfl dX11_minutesOf_4 ⟨rfl, rfl, rfl⟩
set_option maxHeartbeats 4000000 in
set_option maxRecDepth 100000 in
theorem c_passMinutes (l : Launch) {E : gE} (σ : gI) (τ : gJ) (j : Nat) (h_15_1 : σ 15 1 = 0) (h_158_8 : σ 158 8 = 0) (h_30_6 : σ 30 6 = 0) (hj : j ≤ 99) : gx_Mv l yX11_passMinutes cX11_passMinutes 3 none 3 gx_tb E (σ) (τ) [.ref (E.2.2 + 0), .int (nI j)] (fun σ1 τ1 => (∀ c k : Nat, ¬ (c = 30 ∧ k = 8) → σ1 c k = (σ) c k) ∧ τ1 = τ) := by
  refine gx_bv (by decide +kernel) (Nat.le_of_ble_eq_true rfl) ?_
  intro P9 e9 s m9 below meth C9 S hr hlk hK hw ls hl
  have S : CallFix P9 m9 C9 cX11_passMinutes 3 s _ gx_G RX11 := S
  have hx := S.1
  have hb := S.2.1
  have hl : lv_has ls 3 [(0, .ref (E.2.2 + 0)), (1, .int (nI j))] := hl
  refine lv_iconst (v := 0) hx hb dX11_passMinutes_0 (by decide) ?_
  refine lv_istore_n (lv' := [(2, .int 0), (0, .ref (E.2.2 + 0)), (1, .int (nI j))]) hx hb dX11_passMinutes_1 rfl hl (by decide) rfl (fun ls hl => ?_)
  have loop_1 : ∀ (n1 : Nat) (i : Nat) (σ1 : gI) (H : Heap) (locs : List Loc) (ls : Array Slot), j - i < n1 → (i ≤ j) → (∀ c k : Nat, ¬ (c = 30 ∧ k = 8) → σ1 c k = (σ) c k) → gx_W gx_tb (gx_tb).length E s (σ1) (τ) H locs → lv_has ls 3 [(0, .ref (E.2.2 + 0)), (1, .int (nI j)), (2, .int (nI i))] → W P9 l e9 (gx_rm 3) s m9 ([.ref (E.2.2 + 0), .int (nI j)] : List Value).toArray below meth C9 H locs 0 0 (MQ below (va_Qv (fun (u : gI × gJ) => (fun σ1 τ1 => (∀ c k : Nat, ¬ (c = 30 ∧ k = 8) → σ1 c k = (σ) c k) ∧ τ1 = τ) u.1 u.2) (fun u t => gx_P gx_tb E u.1 u.2 t.heap) (gx_A (gx_tb).length E.2.2 s.heap.size)) ([.ref (E.2.2 + 0), .int (nI j)] : List Value).toArray s 0 0 (gx_A (gx_tb).length E.2.2 s.heap.size)) (F0 m9 2 ls []) := by
    intro n1
    induction n1 with
    | zero => intro i σ1 H locs ls hm; exact absurd hm (Nat.not_lt_zero _)
    | succ n1 ih_1 =>
      intro i σ1 H locs ls hm hi hs_1 hw hl
      refine lv_iload_n hx hb dX11_passMinutes_2 rfl (lv_at hl 2 rfl) ?_
      refine lv_iload_n hx hb dX11_passMinutes_3 rfl (lv_at hl 1 rfl) ?_
      refine lv_icmp_ge (tgt := 24) hx hb dX11_passMinutes_4 (by decide) (fun c_2 => ?_) (fun c_2 => ?_)
      · exact gx_rv (post := fun σ1 τ1 => (∀ c k : Nat, ¬ (c = 30 ∧ k = 8) → σ1 c k = (σ) c k) ∧ τ1 = τ) S hr hlk hw dX11_passMinutes_24 ⟨(fun c9 k9 h9_0 => by simp [up2, upJ, h9_0, hs_1]), rfl⟩
      · have hlt : i < j := gx_ilt (k := j) rfl (by omega) c_2
        refine lv_aload_n hx hb dX11_passMinutes_7 rfl (lv_at hl 0 rfl) ?_
        refine gx_getr (j := 158) S hK hw t_0 cl_12 14 (by decide) rfl mw_461 rfl dX11_passMinutes_8 ?_
        refine lv_aload_n hx hb dX11_passMinutes_11 rfl (lv_at hl 0 rfl) ?_
        refine gx_getr (j := 30) S hK hw t_0 cl_12 7 (by decide) rfl mw_454 rfl dX11_passMinutes_12 ?_
        refine gx_cVv (As := [.ref (E.2.2 + 30)]) (rest := []) S hK gx_ok hw (c_pass l (E := E) (σ1) (τ) (by first | rfl | decide | simp [up2, gs0, h_15_1, h_158_8, h_30_6, hs_1]) (by first | rfl | decide | simp [up2, gs0, h_15_1, h_158_8, h_30_6, hs_1]) (by first | rfl | decide | simp [up2, gs0, h_15_1, h_158_8, h_30_6, hs_1])) cw_X11_266 t_158 cl_2 ⟨Nat.le_of_ble_eq_true rfl, Nat.le_of_ble_eq_true rfl⟩ rfl hl.1 rfl (Nat.le_of_ble_eq_true rfl) ⟨Nat.le_of_ble_eq_true rfl, Nat.le_of_ble_eq_true rfl⟩ dX11_passMinutes_15 (fun σ_3 τ_3 H locs hp hw => ?_)
        obtain ⟨hs_3, et_3⟩ := hp
        obtain rfl := et_3.symm
        refine lv_iinc (v := nI (i + 1)) (lv' := [(2, .int (nI (i + 1))), (0, .ref (E.2.2 + 0)), (1, .int (nI j))]) hx hb dX11_passMinutes_18 hl (k := 2) rfl (nI_1 _) (by decide) rfl (fun ls hl => ?_)
        refine lv_goto (tgt := 2) hx hb dX11_passMinutes_21 (by decide) ?_
        exact ih_1 (i + 1) (σ_3) _ _ _ (by omega) (by omega) (fun c9 k9 h9_0 => by simp [up2, upJ, h9_0, hs_1, hs_3]) hw (lv_sub hl [1, 2, 0] rfl)
  exact loop_1 (j + 1) 0 (σ) _ _ _ (by omega) (by omega) (fun c9 k9 h9_0 => by simp [up2, upJ, h9_0]) hw (lv_sub hl [1, 2, 0] rfl)
set_option maxHeartbeats 4000000 in
set_option maxRecDepth 100000 in
theorem c_fewestTurns (l : Launch) {E : gE} (σ : gI) (τ : gJ)  (h_164_6 : σ 164 6 = 0) (h_164_7 : σ 164 7 = 0) (h_164_8 : σ 164 8 = 0) (h_164_9 : σ 164 9 = 0) (h_164_10 : σ 164 10 = 0) (h_160_5 : σ 160 5 = 0) (h_160_6 : σ 160 6 = 0) (h_172_0 : σ 172 0 = 0) (h_3_7 : σ 3 7 = 0) (h_3_8 : σ 3 8 = 1) (h_30_7 : σ 30 7 = 0) : gx_Mi l yX11_fewestTurns cX11_fewestTurns 9 (some .int) 4 gx_tb E (σ) (τ) [.ref (E.2.2 + 0), .int (-1)] (fun r σ1 τ1 => r = 0 ∧ (∀ c k : Nat, 199 ≤ c → σ1 c k = (σ) c k) ∧ True) := by
  refine gx_bi (by decide +kernel) (Nat.le_of_ble_eq_true rfl) ?_
  intro P9 e9 s m9 below meth C9 S hr hlk hK hw ls hl
  have S : CallFix P9 m9 C9 cX11_fewestTurns 9 s _ gx_G RX11 := S
  have hx := S.1
  have hb := S.2.1
  have hl : lv_has ls 9 [(0, .ref (E.2.2 + 0)), (1, .int (-1))] := hl
  refine lv_aload_n hx hb dX11_fewestTurns_0 rfl (lv_at hl 0 rfl) ?_
  refine gx_getr (j := 160) S hK hw t_0 cl_12 15 (by decide) rfl mw_462 rfl dX11_fewestTurns_1 ?_
  refine gx_cVv (As := []) (rest := []) S hK gx_ok hw (c_forgetSets l (E := E) (σ) (τ) (by first | rfl | decide | simp [up2, gs0, h_164_6, h_164_7, h_164_8, h_164_9, h_164_10, h_160_5, h_160_6, h_172_0, h_3_7, h_3_8, h_30_7]) (by first | rfl | decide | simp [up2, gs0, h_164_6, h_164_7, h_164_8, h_164_9, h_164_10, h_160_5, h_160_6, h_172_0, h_3_7, h_3_8, h_30_7])) cw_X11_350 t_160 cl_10 ⟨Nat.le_of_ble_eq_true rfl, Nat.le_of_ble_eq_true rfl⟩ rfl hl.1 rfl (Nat.le_of_ble_eq_true rfl) ⟨Nat.le_of_ble_eq_true rfl, Nat.le_of_ble_eq_true rfl⟩ dX11_fewestTurns_4 (fun σ_1 τ_1 H locs hp hw => ?_)
  obtain ⟨es_1, et_1⟩ := hp
  obtain rfl := es_1.symm
  obtain rfl := et_1.symm
  refine lv_bipush (v := 13) hx hb dX11_fewestTurns_7 (by decide) ?_
  refine lv_istore_n (lv' := [(2, .int 13), (0, .ref (E.2.2 + 0)), (1, .int (-1))]) hx hb dX11_fewestTurns_9 rfl hl (by decide) rfl (fun ls hl => ?_)
  refine lv_iconst (v := (-1)) hx hb dX11_fewestTurns_10 (by decide) ?_
  refine lv_istore_n (lv' := [(3, .int (-1)), (2, .int 13), (0, .ref (E.2.2 + 0)), (1, .int (-1))]) hx hb dX11_fewestTurns_11 rfl hl (by decide) rfl (fun ls hl => ?_)
  refine lv_iconst (v := 0) hx hb dX11_fewestTurns_12 (by decide) ?_
  refine lv_istore (lv' := [(4, .int 0), (3, .int (-1)), (2, .int 13), (0, .ref (E.2.2 + 0)), (1, .int (-1))]) hx hb dX11_fewestTurns_13 hl (by decide) rfl (fun ls hl => ?_)
  refine lv_iconst (v := 0) hx hb dX11_fewestTurns_15 (by decide) ?_
  refine lv_istore (lv' := [(5, .int 0), (4, .int 0), (3, .int (-1)), (2, .int 13), (0, .ref (E.2.2 + 0)), (1, .int (-1))]) hx hb dX11_fewestTurns_16 hl (by decide) rfl (fun ls hl => ?_)
  refine lv_iconst (v := 0) hx hb dX11_fewestTurns_18 (by decide) ?_
  refine lv_istore (lv' := [(6, .int 0), (5, .int 0), (4, .int 0), (3, .int (-1)), (2, .int 13), (0, .ref (E.2.2 + 0)), (1, .int (-1))]) hx hb dX11_fewestTurns_19 hl (by decide) rfl (fun ls hl => ?_)
  refine lv_iload hx hb dX11_fewestTurns_21 (lv_at hl 0 rfl) ?_
  refine lv_aload_n hx hb dX11_fewestTurns_23 rfl (lv_at hl 5 rfl) ?_
  refine gx_getr (j := 3) S hK hw t_0 cl_12 1 (by decide) rfl mw_448 rfl dX11_fewestTurns_24 ?_
  refine gx_get S hK hw t_3 cl_9 8 (by decide) rfl mw_161 rfl dX11_fewestTurns_27 ?_
  refine gx_top (v := 1) (by first | rfl | decide | simp [up2, gs0, h_164_6, h_164_7, h_164_8, h_164_9, h_164_10, h_160_5, h_160_6, h_172_0, h_3_7, h_3_8, h_30_7]) ?_
  refine lv_icmp_ge (tgt := 119) hx hb dX11_fewestTurns_30 (by decide) (fun h => absurd h (by decide)) (fun _ => ?_)
  refine lv_iload hx hb dX11_fewestTurns_33 (lv_at hl 1 rfl) ?_
  refine gx_cSi (As := [.int 0]) (rest := []) S hK gx_ok hw (c_bitCount0 l (E := E) (up2 (σ) 161 0 (-2)) (τ) ) cw_X11_261 ⟨Nat.le_of_ble_eq_true rfl, Nat.le_of_ble_eq_true rfl⟩ rfl hl.1 rfl (Nat.le_of_ble_eq_true rfl) ⟨Nat.le_of_ble_eq_true rfl, Nat.le_of_ble_eq_true rfl⟩ dX11_fewestTurns_35 (fun r_2 σ_2 τ_2 H locs hp hw => ?_)
  obtain ⟨er_2, es_2, et_2⟩ := hp
  obtain rfl := er_2.symm
  obtain rfl := es_2.symm
  obtain rfl := et_2.symm
  refine lv_istore (lv' := [(7, .int 0), (6, .int 0), (5, .int 0), (4, .int 0), (3, .int (-1)), (2, .int 13), (0, .ref (E.2.2 + 0)), (1, .int (-1))]) hx hb dX11_fewestTurns_38 hl (by decide) rfl (fun ls hl => ?_)
  refine lv_iload hx hb dX11_fewestTurns_40 (lv_at hl 0 rfl) ?_
  refine lv_iload_n hx hb dX11_fewestTurns_42 rfl (lv_at hl 5 rfl) ?_
  refine lv_icmp_ge (tgt := 66) hx hb dX11_fewestTurns_43 (by decide) (fun h => absurd h (by decide)) (fun _ => ?_)
  refine lv_aload_n hx hb dX11_fewestTurns_46 rfl (lv_at hl 6 rfl) ?_
  refine gx_getr (j := 160) S hK hw t_0 cl_12 15 (by decide) rfl mw_462 rfl dX11_fewestTurns_47 ?_
  refine lv_aload_n hx hb dX11_fewestTurns_50 rfl (lv_at hl 6 rfl) ?_
  refine gx_getr (j := 30) S hK hw t_0 cl_12 7 (by decide) rfl mw_454 rfl dX11_fewestTurns_51 ?_
  refine gx_get S hK hw t_30 cl_7 7 (by decide) rfl mw_276 rfl dX11_fewestTurns_54 ?_
  refine gx_top (v := 0) (by first | rfl | decide | simp [up2, gs0, h_164_6, h_164_7, h_164_8, h_164_9, h_164_10, h_160_5, h_160_6, h_172_0, h_3_7, h_3_8, h_30_7]) ?_
  refine lv_iload hx hb dX11_fewestTurns_57 (lv_at hl 2 rfl) ?_
  refine lv_ixor hx hb dX11_fewestTurns_59 ?_
  refine gx_top (v := 0) (by decide) ?_
  refine gx_cVi (As := [.int 0]) (rest := []) S hK gx_ok hw (c_outcome l (E := E) (up2 (σ) 161 0 (-2)) (τ) (by first | rfl | decide | simp [up2, gs0, h_164_6, h_164_7, h_164_8, h_164_9, h_164_10, h_160_5, h_160_6, h_172_0, h_3_7, h_3_8, h_30_7]) (by first | rfl | decide | simp [up2, gs0, h_164_6, h_164_7, h_164_8, h_164_9, h_164_10, h_160_5, h_160_6, h_172_0, h_3_7, h_3_8, h_30_7]) (by first | rfl | decide | simp [up2, gs0, h_164_6, h_164_7, h_164_8, h_164_9, h_164_10, h_160_5, h_160_6, h_172_0, h_3_7, h_3_8, h_30_7]) (by first | rfl | decide | simp [up2, gs0, h_164_6, h_164_7, h_164_8, h_164_9, h_164_10, h_160_5, h_160_6, h_172_0, h_3_7, h_3_8, h_30_7]) (by first | rfl | decide | simp [up2, gs0, h_164_6, h_164_7, h_164_8, h_164_9, h_164_10, h_160_5, h_160_6, h_172_0, h_3_7, h_3_8, h_30_7]) (by first | rfl | decide | simp [up2, gs0, h_164_6, h_164_7, h_164_8, h_164_9, h_164_10, h_160_5, h_160_6, h_172_0, h_3_7, h_3_8, h_30_7]) (by first | rfl | decide | simp [up2, gs0, h_164_6, h_164_7, h_164_8, h_164_9, h_164_10, h_160_5, h_160_6, h_172_0, h_3_7, h_3_8, h_30_7]) (by first | rfl | decide | simp [up2, gs0, h_164_6, h_164_7, h_164_8, h_164_9, h_164_10, h_160_5, h_160_6, h_172_0, h_3_7, h_3_8, h_30_7]) (by first | rfl | decide | simp [up2, gs0, h_164_6, h_164_7, h_164_8, h_164_9, h_164_10, h_160_5, h_160_6, h_172_0, h_3_7, h_3_8, h_30_7]) (by first | rfl | decide | simp [up2, gs0, h_164_6, h_164_7, h_164_8, h_164_9, h_164_10, h_160_5, h_160_6, h_172_0, h_3_7, h_3_8, h_30_7])) cw_X11_356 t_160 cl_10 ⟨Nat.le_of_ble_eq_true rfl, Nat.le_of_ble_eq_true rfl⟩ rfl hl.1 rfl (Nat.le_of_ble_eq_true rfl) ⟨Nat.le_of_ble_eq_true rfl, Nat.le_of_ble_eq_true rfl⟩ dX11_fewestTurns_60 (fun r_3 σ_3 τ_3 H locs hp hw => ?_)
  obtain ⟨er_3, es_3, et_3⟩ := hp
  obtain rfl := er_3.symm
  obtain rfl := es_3.symm
  obtain rfl := et_3.symm
  refine lv_goto (tgt := 67) hx hb dX11_fewestTurns_63 (by decide) ?_
  refine lv_istore (lv' := [(8, .int 0), (7, .int 0), (6, .int 0), (5, .int 0), (4, .int 0), (3, .int (-1)), (2, .int 13), (0, .ref (E.2.2 + 0)), (1, .int (-1))]) hx hb dX11_fewestTurns_67 hl (by decide) rfl (fun ls hl => ?_)
  refine lv_iload hx hb dX11_fewestTurns_69 (lv_at hl 0 rfl) ?_
  refine lv_iconst (v := (-1)) hx hb dX11_fewestTurns_71 (by decide) ?_
  refine lv_icmp_eq (tgt := 102) hx hb dX11_fewestTurns_72 (by decide) (fun h => absurd h (by decide)) (fun _ => ?_)
  refine lv_iload_n hx hb dX11_fewestTurns_75 rfl (lv_at hl 8 rfl) ?_
  refine lv_iconst (v := (-1)) hx hb dX11_fewestTurns_76 (by decide) ?_
  refine lv_icmp_eq (tgt := 89) hx hb dX11_fewestTurns_77 (by decide) (fun _ => ?_) (fun h => absurd (by decide) h)
  refine lv_iload hx hb dX11_fewestTurns_89 (lv_at hl 1 rfl) ?_
  refine lv_istore_n (lv' := [(2, .int 0), (8, .int 0), (7, .int 0), (6, .int 0), (5, .int 0), (4, .int 0), (3, .int (-1)), (0, .ref (E.2.2 + 0)), (1, .int (-1))]) hx hb dX11_fewestTurns_91 rfl hl (by decide) rfl (fun ls hl => ?_)
  refine lv_iload hx hb dX11_fewestTurns_92 (lv_at hl 4 rfl) ?_
  refine lv_istore_n (lv' := [(3, .int 0), (2, .int 0), (8, .int 0), (7, .int 0), (6, .int 0), (5, .int 0), (4, .int 0), (0, .ref (E.2.2 + 0)), (1, .int (-1))]) hx hb dX11_fewestTurns_94 rfl hl (by decide) rfl (fun ls hl => ?_)
  refine lv_iload hx hb dX11_fewestTurns_95 (lv_at hl 2 rfl) ?_
  refine gx_cSi (As := [.int 0]) (rest := []) S hK gx_ok hw (c_minutesOf l (E := E) (up2 (up2 (up2 (up2 (up2 (up2 (up2 (up2 (up2 ((up2 (σ) 161 0 (-2))) 171 6 0) 171 7 0) 171 8 0) 171 9 0) 171 10 0) 171 7 0) 158 4 0) 158 5 0) 161 0 0) (τ) ) cw_X11_320 ⟨Nat.le_of_ble_eq_true rfl, Nat.le_of_ble_eq_true rfl⟩ rfl hl.1 rfl (Nat.le_of_ble_eq_true rfl) ⟨Nat.le_of_ble_eq_true rfl, Nat.le_of_ble_eq_true rfl⟩ dX11_fewestTurns_97 (fun r_4 σ_4 τ_4 H locs hp hw => ?_)
  obtain ⟨er_4, es_4, et_4⟩ := hp
  obtain rfl := er_4.symm
  obtain rfl := es_4.symm
  obtain rfl := et_4.symm
  refine lv_istore (lv' := [(4, .int 0), (3, .int 0), (2, .int 0), (8, .int 0), (7, .int 0), (6, .int 0), (5, .int 0), (0, .ref (E.2.2 + 0)), (1, .int (-1))]) hx hb dX11_fewestTurns_100 hl (by decide) rfl (fun ls hl => ?_)
  refine lv_aload_n hx hb dX11_fewestTurns_102 rfl (lv_at hl 7 rfl) ?_
  refine gx_getr (j := 3) S hK hw t_0 cl_12 1 (by decide) rfl mw_448 rfl dX11_fewestTurns_103 ?_
  refine lv_iload hx hb dX11_fewestTurns_106 (lv_at hl 6 rfl) ?_
  refine gx_cVi (As := [.int 0]) (rest := []) S hK gx_ok hw (c_Town_nextSet l (E := E) (up2 (up2 (up2 (up2 (up2 (up2 (up2 (up2 (up2 ((up2 (σ) 161 0 (-2))) 171 6 0) 171 7 0) 171 8 0) 171 9 0) 171 10 0) 171 7 0) 158 4 0) 158 5 0) 161 0 0) (τ) (by first | rfl | decide | simp [up2, gs0, h_164_6, h_164_7, h_164_8, h_164_9, h_164_10, h_160_5, h_160_6, h_172_0, h_3_7, h_3_8, h_30_7])) cw_X11_359 t_3 cl_9 ⟨Nat.le_of_ble_eq_true rfl, Nat.le_of_ble_eq_true rfl⟩ rfl hl.1 rfl (Nat.le_of_ble_eq_true rfl) ⟨Nat.le_of_ble_eq_true rfl, Nat.le_of_ble_eq_true rfl⟩ dX11_fewestTurns_108 (fun r_5 σ_5 τ_5 H locs hp hw => ?_)
  obtain ⟨er_5, es_5, et_5⟩ := hp
  obtain rfl := er_5.symm
  obtain rfl := es_5.symm
  obtain rfl := et_5.symm
  refine lv_istore (lv' := [(5, .int 0), (4, .int 0), (3, .int 0), (2, .int 0), (8, .int 0), (7, .int 0), (6, .int 0), (0, .ref (E.2.2 + 0)), (1, .int (-1))]) hx hb dX11_fewestTurns_111 hl (by decide) rfl (fun ls hl => ?_)
  refine lv_iinc (v := 1) (lv' := [(6, .int 1), (5, .int 0), (4, .int 0), (3, .int 0), (2, .int 0), (8, .int 0), (7, .int 0), (0, .ref (E.2.2 + 0)), (1, .int (-1))]) hx hb dX11_fewestTurns_113 hl (k := 6) rfl (by decide) (by decide) rfl (fun ls hl => ?_)
  refine lv_goto (tgt := 21) hx hb dX11_fewestTurns_116 (by decide) ?_
  refine lv_iload hx hb dX11_fewestTurns_21 (lv_at hl 0 rfl) ?_
  refine lv_aload_n hx hb dX11_fewestTurns_23 rfl (lv_at hl 7 rfl) ?_
  refine gx_getr (j := 3) S hK hw t_0 cl_12 1 (by decide) rfl mw_448 rfl dX11_fewestTurns_24 ?_
  refine gx_get S hK hw t_3 cl_9 8 (by decide) rfl mw_161 rfl dX11_fewestTurns_27 ?_
  refine gx_top (v := 1) (by first | rfl | decide | simp [up2, gs0, h_164_6, h_164_7, h_164_8, h_164_9, h_164_10, h_160_5, h_160_6, h_172_0, h_3_7, h_3_8, h_30_7]) ?_
  refine lv_icmp_ge (tgt := 119) hx hb dX11_fewestTurns_30 (by decide) (fun _ => ?_) (fun h => absurd (by decide) h)
  refine lv_iload_n hx hb dX11_fewestTurns_119 rfl (lv_at hl 3 rfl) ?_
  refine lv_iconst (v := (-1)) hx hb dX11_fewestTurns_120 (by decide) ?_
  refine lv_icmp_ne (tgt := 127) hx hb dX11_fewestTurns_121 (by decide) (fun _ => ?_) (fun h => absurd h (by decide))
  refine lv_aload_n hx hb dX11_fewestTurns_127 rfl (lv_at hl 7 rfl) ?_
  refine gx_getr (j := 156) S hK hw t_0 cl_12 13 (by decide) rfl mw_460 rfl dX11_fewestTurns_128 ?_
  refine lv_iload_n hx hb dX11_fewestTurns_131 rfl (lv_at hl 3 rfl) ?_
  refine lv_i2l (v := 0) hx hb dX11_fewestTurns_132 (by decide) ?_
  refine lv_iload hx hb dX11_fewestTurns_133 (lv_at hl 2 rfl) ?_
  refine lv_i2l (v := 0) hx hb dX11_fewestTurns_135 (by decide) ?_
  refine gx_cVv (As := [.long 0, .long 0]) (rest := []) S hK gx_ok hw (c_tell2 l (E := E) (up2 (up2 (up2 (up2 (up2 (up2 (up2 (up2 (up2 ((up2 (σ) 161 0 (-2))) 171 6 0) 171 7 0) 171 8 0) 171 9 0) 171 10 0) 171 7 0) 158 4 0) 158 5 0) 161 0 0) (τ) 0 0 ) cw_X11_257 t_156 cl_5 ⟨Nat.le_of_ble_eq_true rfl, Nat.le_of_ble_eq_true rfl⟩ rfl hl.1 rfl (Nat.le_of_ble_eq_true rfl) ⟨Nat.le_of_ble_eq_true rfl, Nat.le_of_ble_eq_true rfl⟩ dX11_fewestTurns_136 (fun σ_6 τ_6 H locs hp hw => ?_)
  obtain ⟨es_6, -⟩ := hp
  obtain rfl := es_6.symm
  refine lv_iload_n hx hb dX11_fewestTurns_139 rfl (lv_at hl 4 rfl) ?_
  exact gx_ri (post := fun r σ1 τ1 => r = 0 ∧ (∀ c k : Nat, 199 ≤ c → σ1 c k = (σ) c k) ∧ True) (v := 0) S hr hlk hw rfl dX11_fewestTurns_140 ⟨rfl, (fun c9 k9 h9 => (up2_hi (by omega) h9).trans ((up2_hi (by omega) h9).trans ((up2_hi (by omega) h9).trans ((up2_hi (by omega) h9).trans ((up2_hi (by omega) h9).trans ((up2_hi (by omega) h9).trans ((up2_hi (by omega) h9).trans ((up2_hi (by omega) h9).trans ((up2_hi (by omega) h9).trans ((up2_hi (by omega) h9).trans ((up2_hi (by omega) h9).trans (rfl)))))))))))), trivial⟩
set_option maxHeartbeats 4000000 in
set_option maxRecDepth 100000 in
theorem c_findFits (l : Launch) {E : gE} (σ : gI) (τ : gJ)  (h_3_7 : σ 3 7 = 0) (h_3_8 : σ 3 8 = 1) (h_152_3 : σ 152 3 = 0) : gx_Mv l yX11_findFits cX11_findFits 5 none 2 gx_tb E (σ) (τ) [.ref (E.2.2 + 0)] (fun σ1 τ1 => σ1 = up2 σ 162 0 1 ∧ τ1 = τ) := by
  refine gx_bv (by decide +kernel) (Nat.le_of_ble_eq_true rfl) ?_
  intro P9 e9 s m9 below meth C9 S hr hlk hK hw ls hl
  have S : CallFix P9 m9 C9 cX11_findFits 5 s _ gx_G RX11 := S
  have hx := S.1
  have hb := S.2.1
  have hl : lv_has ls 5 [(0, .ref (E.2.2 + 0))] := hl
  refine lv_aload_n hx hb dX11_findFits_0 rfl (lv_at hl 0 rfl) ?_
  refine gx_getr (j := 160) S hK hw t_0 cl_12 15 (by decide) rfl mw_462 rfl dX11_findFits_1 ?_
  refine gx_cVv (As := []) (rest := []) S hK gx_ok hw (c_fitAll l (E := E) (σ) (τ) (by first | rfl | decide | simp [up2, gs0, h_3_7, h_3_8, h_152_3]) (by first | rfl | decide | simp [up2, gs0, h_3_7, h_3_8, h_152_3])) cw_X11_384 t_160 cl_10 ⟨Nat.le_of_ble_eq_true rfl, Nat.le_of_ble_eq_true rfl⟩ rfl hl.1 rfl (Nat.le_of_ble_eq_true rfl) ⟨Nat.le_of_ble_eq_true rfl, Nat.le_of_ble_eq_true rfl⟩ dX11_findFits_4 (fun σ_1 τ_1 H locs hp hw => ?_)
  obtain ⟨es_1, et_1⟩ := hp
  obtain rfl := es_1.symm
  obtain rfl := et_1.symm
  refine lv_iconst (v := 0) hx hb dX11_findFits_7 (by decide) ?_
  refine lv_istore_n (lv' := [(1, .int 0), (0, .ref (E.2.2 + 0))]) hx hb dX11_findFits_8 rfl hl (by decide) rfl (fun ls hl => ?_)
  refine lv_iload_n hx hb dX11_findFits_9 rfl (lv_at hl 0 rfl) ?_
  refine lv_aload_n hx hb dX11_findFits_10 rfl (lv_at hl 1 rfl) ?_
  refine gx_getr (j := 152) S hK hw t_0 cl_12 12 (by decide) rfl mw_459 rfl dX11_findFits_11 ?_
  refine gx_get S hK hw t_152 cl_1 3 (by decide) rfl mw_340 rfl dX11_findFits_14 ?_
  refine gx_top (v := 0) (by first | rfl | decide | simp [up2, gs0, h_3_7, h_3_8, h_152_3]) ?_
  refine lv_icmp_ge (tgt := 136) hx hb dX11_findFits_17 (by decide) (fun _ => ?_) (fun h => absurd (by decide) h)
  exact gx_rv (post := fun σ1 τ1 => σ1 = up2 σ 162 0 1 ∧ τ1 = τ) S hr hlk hw dX11_findFits_136 ⟨(by first | rfl | simp [up2, upJ]), (by first | rfl | simp [up2, upJ])⟩
set_option maxHeartbeats 4000000 in
set_option maxRecDepth 100000 in
theorem c_x_sign (l : Launch) {E : gE} (v : Int32)  : gx_Mi l yX11_sign cX11_sign 2 (some .int) 1 gx_tb E gs0 gt0 [.ref (E.2.2 + 0), .int v] (fun r σ1 τ1 => r = 4 ∧ (∀ c k : Nat, 199 ≤ c → σ1 c k = gs0 c k) ∧ True) := by
  refine gx_bi (by decide +kernel) (Nat.le_of_ble_eq_true rfl) ?_
  intro P9 e9 s m9 below meth C9 S hr hlk hK hw ls hl
  have S : CallFix P9 m9 C9 cX11_sign 2 s _ gx_G RX11 := S
  have hx := S.1
  have hb := S.2.1
  have hl : lv_has ls 2 [(0, .ref (E.2.2 + 0)), (1, .int v)] := hl
  refine lv_aload_n hx hb dX11_sign_0 rfl (lv_at hl 0 rfl) ?_
  refine gx_getr (j := 1) S hK hw t_0 cl_12 0 (by decide) rfl mw_447 rfl dX11_sign_1 ?_
  refine lv_iload_n hx hb dX11_sign_4 rfl (lv_at hl 1 rfl) ?_
  refine gx_cVi (As := [.int v]) (rest := []) S hK gx_ok hw (c_addFour l (E := E) gs0 gt0 v (by first | rfl | decide | simp [up2, gs0])) cw_X11_103 t_1 cl_8 ⟨Nat.le_of_ble_eq_true rfl, Nat.le_of_ble_eq_true rfl⟩ rfl hl.1 rfl (Nat.le_of_ble_eq_true rfl) ⟨Nat.le_of_ble_eq_true rfl, Nat.le_of_ble_eq_true rfl⟩ dX11_sign_5 (fun r_1 σ_1 τ_1 H locs hp hw => ?_)
  obtain ⟨er_1, hs_1, et_1⟩ := hp
  obtain rfl := er_1.symm
  obtain rfl := et_1.symm
  refine lv_if_eq (tgt := 21) hx hb dX11_sign_8 (by decide) (fun h => absurd h (by decide)) (fun _ => ?_)
  refine lv_aload_n hx hb dX11_sign_11 rfl (lv_at hl 0 rfl) ?_
  refine gx_getr (j := 1) S hK hw t_0 cl_12 0 (by decide) rfl mw_447 rfl dX11_sign_12 ?_
  refine gx_get S hK hw t_1 cl_8 2 (by decide) rfl mw_132 rfl dX11_sign_15 ?_
  refine gx_top (v := 4) (by first | rfl | decide | simp [up2, gs0, hs_1]) ?_
  refine lv_goto (tgt := 22) hx hb dX11_sign_18 (by decide) ?_
  exact gx_ri (post := fun r σ1 τ1 => r = 4 ∧ (∀ c k : Nat, 199 ≤ c → σ1 c k = gs0 c k) ∧ True) (v := 4) S hr hlk hw rfl dX11_sign_22 ⟨rfl, (fun c9 k9 h9 => (hs_1 c9 k9 (by omega)).trans ((up2_hi (by omega) h9).trans (rfl))), trivial⟩
set_option maxHeartbeats 4000000 in
set_option maxRecDepth 100000 in
theorem c_x_end (l : Launch) {E : gE} (n : Int32)  : gx_Mi l yX11_end cX11_end 2 (some .boolean) 1 gx_tb E gs0 gt0 [.ref (E.2.2 + 0), .int n] (fun r σ1 τ1 => r = (if n.toInt = 0 then 1 else 0) ∧ (∀ c k : Nat, 199 ≤ c → σ1 c k = gs0 c k) ∧ True) := by
  refine gx_bi (by decide +kernel) (Nat.le_of_ble_eq_true rfl) ?_
  intro P9 e9 s m9 below meth C9 S hr hlk hK hw ls hl
  have S : CallFix P9 m9 C9 cX11_end 2 s _ gx_G RX11 := S
  have hx := S.1
  have hb := S.2.1
  have hl : lv_has ls 2 [(0, .ref (E.2.2 + 0)), (1, .int n)] := hl
  refine lv_aload_n hx hb dX11_end_0 rfl (lv_at hl 0 rfl) ?_
  refine gx_getr (j := 1) S hK hw t_0 cl_12 0 (by decide) rfl mw_447 rfl dX11_end_1 ?_
  refine lv_iload_n hx hb dX11_end_4 rfl (lv_at hl 1 rfl) ?_
  refine gx_cVi (As := [.int n]) (rest := []) S hK gx_ok hw (c_cut l (E := E) gs0 gt0 n (by first | rfl | decide | simp [up2, gs0])) cw_X11_111 t_1 cl_8 ⟨Nat.le_of_ble_eq_true rfl, Nat.le_of_ble_eq_true rfl⟩ rfl hl.1 rfl (Nat.le_of_ble_eq_true rfl) ⟨Nat.le_of_ble_eq_true rfl, Nat.le_of_ble_eq_true rfl⟩ dX11_end_5 (fun r_1 σ_1 τ_1 H locs hp hw => ?_)
  obtain ⟨er_1, hs_1, et_1⟩ := hp
  obtain rfl := er_1.symm
  obtain rfl := et_1.symm
  by_cases c_2 : n.toInt = 0
  · refine gx_top (v := 1) (if_pos c_2) ?_
    exact gx_ri (post := fun r σ1 τ1 => r = (if n.toInt = 0 then 1 else 0) ∧ (∀ c k : Nat, 199 ≤ c → σ1 c k = gs0 c k) ∧ True) (v := 1) S hr hlk hw rfl dX11_end_8 ⟨(by exact (if_pos (by omega)).symm), (fun c9 k9 h9 => (hs_1 c9 k9 h9).trans (rfl)), trivial⟩
  · refine gx_top (v := 0) ((if_neg c_2).trans (rfl)) ?_
    exact gx_ri (post := fun r σ1 τ1 => r = (if n.toInt = 0 then 1 else 0) ∧ (∀ c k : Nat, 199 ≤ c → σ1 c k = gs0 c k) ∧ True) (v := 0) S hr hlk hw rfl dX11_end_8 ⟨(by exact ((if_neg (by omega)).trans (rfl)).symm), (fun c9 k9 h9 => (hs_1 c9 k9 h9).trans (rfl)), trivial⟩
set_option maxHeartbeats 4000000 in
set_option maxRecDepth 100000 in
theorem c_x_town (l : Launch) {E : gE}   : gx_Mi l yX11_town cX11_town 2 (some .int) 3 gx_tb E gs0 gt0 [.ref (E.2.2 + 0)] (fun r σ1 τ1 => r = 0 ∧ (∀ c k : Nat, 199 ≤ c → σ1 c k = gs0 c k) ∧ True) := by
  refine gx_bi (by decide +kernel) (Nat.le_of_ble_eq_true rfl) ?_
  intro P9 e9 s m9 below meth C9 S hr hlk hK hw ls hl
  have S : CallFix P9 m9 C9 cX11_town 2 s _ gx_G RX11 := S
  have hx := S.1
  have hb := S.2.1
  have hl : lv_has ls 2 [(0, .ref (E.2.2 + 0))] := hl
  refine lv_aload_n hx hb dX11_town_0 rfl (lv_at hl 0 rfl) ?_
  refine gx_getr (j := 9) S hK hw t_0 cl_12 2 (by decide) rfl mw_449 rfl dX11_town_1 ?_
  refine lv_aload_n hx hb dX11_town_4 rfl (lv_at hl 0 rfl) ?_
  refine gx_getr (j := 1) S hK hw t_0 cl_12 0 (by decide) rfl mw_447 rfl dX11_town_5 ?_
  refine gx_cVi (As := [.ref (E.2.2 + 1)]) (rest := []) S hK gx_ok hw (c_Town_read l (E := E) gs0 gt0 (by first | rfl | decide | simp [up2, gs0])) cw_X11_114 t_9 cl_9 ⟨Nat.le_of_ble_eq_true rfl, Nat.le_of_ble_eq_true rfl⟩ rfl hl.1 rfl (Nat.le_of_ble_eq_true rfl) ⟨Nat.le_of_ble_eq_true rfl, Nat.le_of_ble_eq_true rfl⟩ dX11_town_8 (fun r_1 σ_1 τ_1 H locs hp hw => ?_)
  obtain ⟨er_1, hs_1, et_1⟩ := hp
  obtain rfl := er_1.symm
  obtain rfl := et_1.symm
  refine lv_istore_n (lv' := [(1, .int 0), (0, .ref (E.2.2 + 0))]) hx hb dX11_town_11 rfl hl (by decide) rfl (fun ls hl => ?_)
  refine lv_aload_n hx hb dX11_town_12 rfl (lv_at hl 1 rfl) ?_
  refine gx_getr (j := 1) S hK hw t_0 cl_12 0 (by decide) rfl mw_447 rfl dX11_town_13 ?_
  refine lv_iconst (v := 0) hx hb dX11_town_16 (by decide) ?_
  refine gx_cVi (As := [.int 0]) (rest := []) S hK gx_ok hw (c_cut0 l (E := E) (σ_1) gt0 (by first | rfl | decide | simp [up2, gs0, hs_1])) cw_X11_111 t_1 cl_8 ⟨Nat.le_of_ble_eq_true rfl, Nat.le_of_ble_eq_true rfl⟩ rfl hl.1 rfl (Nat.le_of_ble_eq_true rfl) ⟨Nat.le_of_ble_eq_true rfl, Nat.le_of_ble_eq_true rfl⟩ dX11_town_17 (fun r_2 σ_2 τ_2 H locs hp hw => ?_)
  obtain ⟨er_2, es_2, et_2⟩ := hp
  obtain rfl := er_2.symm
  obtain rfl := es_2.symm
  obtain rfl := et_2.symm
  refine lv_pop hx hb dX11_town_20 rfl ?_
  refine lv_iload_n hx hb dX11_town_21 rfl (lv_at hl 0 rfl) ?_
  refine lv_if_ge (tgt := 27) hx hb dX11_town_22 (by decide) (fun _ => ?_) (fun h => absurd (by decide) h)
  refine lv_aload_n hx hb dX11_town_27 rfl (lv_at hl 1 rfl) ?_
  refine gx_getr (j := 3) S hK hw t_0 cl_12 1 (by decide) rfl mw_448 rfl dX11_town_28 ?_
  refine lv_aload_n hx hb dX11_town_31 rfl (lv_at hl 1 rfl) ?_
  refine gx_getr (j := 9) S hK hw t_0 cl_12 2 (by decide) rfl mw_449 rfl dX11_town_32 ?_
  refine gx_cVv (As := [.ref (E.2.2 + 9)]) (rest := []) S hK gx_ok hw (c_Town_copy l (E := E) (up2 (σ_1) 1 2 0) gt0 ) cw_X11_118 t_3 cl_9 ⟨Nat.le_of_ble_eq_true rfl, Nat.le_of_ble_eq_true rfl⟩ rfl hl.1 rfl (Nat.le_of_ble_eq_true rfl) ⟨Nat.le_of_ble_eq_true rfl, Nat.le_of_ble_eq_true rfl⟩ dX11_town_35 (fun σ_3 τ_3 H locs hp hw => ?_)
  obtain ⟨hs_3, et_3⟩ := hp
  obtain rfl := et_3.symm
  refine lv_aload_n hx hb dX11_town_38 rfl (lv_at hl 1 rfl) ?_
  refine gx_getr (j := 30) S hK hw t_0 cl_12 7 (by decide) rfl mw_454 rfl dX11_town_39 ?_
  refine gx_cVv (As := []) (rest := []) S hK gx_ok hw (c_Scene_clear l (E := E) (σ_3) gt0 30 (by first | rfl | decide | simp [up2, gs0, hs_1, hs_3])) cw_X11_122 t_30 cl_7 ⟨Nat.le_of_ble_eq_true rfl, Nat.le_of_ble_eq_true rfl⟩ rfl hl.1 rfl (Nat.le_of_ble_eq_true rfl) ⟨Nat.le_of_ble_eq_true rfl, Nat.le_of_ble_eq_true rfl⟩ dX11_town_42 (fun σ_4 τ_4 H locs hp hw => ?_)
  obtain ⟨es_4, et_4⟩ := hp
  obtain rfl := es_4.symm
  obtain rfl := et_4.symm
  refine lv_aload_n hx hb dX11_town_45 rfl (lv_at hl 1 rfl) ?_
  refine gx_getr (j := 44) S hK hw t_0 cl_12 9 (by decide) rfl mw_456 rfl dX11_town_46 ?_
  refine gx_cVv (As := []) (rest := []) S hK gx_ok hw (c_Past_clear l (E := E) (up2 (up2 (up2 (up2 (up2 ((σ_3)) 30 6 0) 30 7 0) 30 8 0) 30 9 0) 30 10 0) gt0 ) cw_X11_125 t_44 cl_4 ⟨Nat.le_of_ble_eq_true rfl, Nat.le_of_ble_eq_true rfl⟩ rfl hl.1 rfl (Nat.le_of_ble_eq_true rfl) ⟨Nat.le_of_ble_eq_true rfl, Nat.le_of_ble_eq_true rfl⟩ dX11_town_49 (fun σ_5 τ_5 H locs hp hw => ?_)
  obtain ⟨es_5, et_5⟩ := hp
  obtain rfl := es_5.symm
  obtain rfl := et_5.symm
  refine lv_aload_n hx hb dX11_town_52 rfl (lv_at hl 1 rfl) ?_
  refine gx_getr (j := 152) S hK hw t_0 cl_12 12 (by decide) rfl mw_459 rfl dX11_town_53 ?_
  refine lv_iconst (v := 0) hx hb dX11_town_56 (by decide) ?_
  refine gx_put S hK gx_ok hw t_152 cl_1 3 (by decide) rfl mw_340 rfl rfl (ty := .int) (v := 0) (by decide +kernel) rfl rfl dX11_town_57 (fun H locs hw => ?_)
  refine lv_aload_n hx hb dX11_town_60 rfl (lv_at hl 1 rfl) ?_
  refine lv_iconst (v := 0) hx hb dX11_town_61 (by decide) ?_
  refine gx_put S hK gx_ok hw t_0 cl_12 11 (by decide) rfl mw_458 rfl rfl (ty := .int) (v := 0) (by decide +kernel) rfl rfl dX11_town_62 (fun H locs hw => ?_)
  refine lv_iload_n hx hb dX11_town_65 rfl (lv_at hl 0 rfl) ?_
  exact gx_ri (post := fun r σ1 τ1 => r = 0 ∧ (∀ c k : Nat, 199 ≤ c → σ1 c k = gs0 c k) ∧ True) (v := 0) S hr hlk hw rfl dX11_town_66 ⟨rfl, (fun c9 k9 h9 => (up2_hi (by omega) h9).trans ((up2_hi (by omega) h9).trans ((up2_hi (by omega) h9).trans ((up2_hi (by omega) h9).trans ((up2_hi (by omega) h9).trans ((up2_hi (by omega) h9).trans ((up2_hi (by omega) h9).trans ((up2_hi (by omega) h9).trans ((hs_3 c9 k9 (by omega) (by omega) (by omega) (by omega) (by omega)).trans ((up2_hi (by omega) h9).trans ((hs_1 c9 k9 (by omega) (by omega) (by omega)).trans (rfl)))))))))))), trivial⟩
set_option maxHeartbeats 4000000 in
set_option maxRecDepth 100000 in
theorem c_x_water (l : Launch) {E : gE}   : gx_Mi l yX11_water cX11_water 2 (some .int) 3 gx_tb E gs0 gt0 [.ref (E.2.2 + 0)] (fun r σ1 τ1 => r = 0 ∧ (∀ c k : Nat, 199 ≤ c → σ1 c k = gs0 c k) ∧ True) := by
  refine gx_bi (by decide +kernel) (Nat.le_of_ble_eq_true rfl) ?_
  intro P9 e9 s m9 below meth C9 S hr hlk hK hw ls hl
  have S : CallFix P9 m9 C9 cX11_water 2 s _ gx_G RX11 := S
  have hx := S.1
  have hb := S.2.1
  have hl : lv_has ls 2 [(0, .ref (E.2.2 + 0))] := hl
  refine lv_aload_n hx hb dX11_water_0 rfl (lv_at hl 0 rfl) ?_
  refine gx_getr (j := 15) S hK hw t_0 cl_12 3 (by decide) rfl mw_450 rfl dX11_water_1 ?_
  refine lv_aload_n hx hb dX11_water_4 rfl (lv_at hl 0 rfl) ?_
  refine gx_getr (j := 1) S hK hw t_0 cl_12 0 (by decide) rfl mw_447 rfl dX11_water_5 ?_
  refine gx_cVi (As := [.ref (E.2.2 + 1)]) (rest := []) S hK gx_ok hw (c_Water_read l (E := E) gs0 gt0 (by first | rfl | decide | simp [up2, gs0])) cw_X11_132 t_15 cl_11 ⟨Nat.le_of_ble_eq_true rfl, Nat.le_of_ble_eq_true rfl⟩ rfl hl.1 rfl (Nat.le_of_ble_eq_true rfl) ⟨Nat.le_of_ble_eq_true rfl, Nat.le_of_ble_eq_true rfl⟩ dX11_water_8 (fun r_1 σ_1 τ_1 H locs hp hw => ?_)
  obtain ⟨er_1, hs_1, et_1⟩ := hp
  obtain rfl := er_1.symm
  obtain rfl := et_1.symm
  refine lv_istore_n (lv' := [(1, .int 0), (0, .ref (E.2.2 + 0))]) hx hb dX11_water_11 rfl hl (by decide) rfl (fun ls hl => ?_)
  refine lv_aload_n hx hb dX11_water_12 rfl (lv_at hl 1 rfl) ?_
  refine gx_getr (j := 1) S hK hw t_0 cl_12 0 (by decide) rfl mw_447 rfl dX11_water_13 ?_
  refine lv_iconst (v := 0) hx hb dX11_water_16 (by decide) ?_
  refine gx_cVi (As := [.int 0]) (rest := []) S hK gx_ok hw (c_cut0 l (E := E) (σ_1) gt0 (by first | rfl | decide | simp [up2, gs0, hs_1])) cw_X11_111 t_1 cl_8 ⟨Nat.le_of_ble_eq_true rfl, Nat.le_of_ble_eq_true rfl⟩ rfl hl.1 rfl (Nat.le_of_ble_eq_true rfl) ⟨Nat.le_of_ble_eq_true rfl, Nat.le_of_ble_eq_true rfl⟩ dX11_water_17 (fun r_2 σ_2 τ_2 H locs hp hw => ?_)
  obtain ⟨er_2, es_2, et_2⟩ := hp
  obtain rfl := er_2.symm
  obtain rfl := es_2.symm
  obtain rfl := et_2.symm
  refine lv_pop hx hb dX11_water_20 rfl ?_
  refine lv_iload_n hx hb dX11_water_21 rfl (lv_at hl 0 rfl) ?_
  exact gx_ri (post := fun r σ1 τ1 => r = 0 ∧ (∀ c k : Nat, 199 ≤ c → σ1 c k = gs0 c k) ∧ True) (v := 0) S hr hlk hw rfl dX11_water_22 ⟨rfl, (fun c9 k9 h9 => (up2_hi (by omega) h9).trans ((hs_1 c9 k9 (by omega) (by omega)).trans (rfl))), trivial⟩
set_option maxHeartbeats 4000000 in
set_option maxRecDepth 100000 in
theorem c_x_rule (l : Launch) {E : gE}   : gx_Mi l yX11_rule cX11_rule 2 (some .int) 3 gx_tb E gs0 gt0 [.ref (E.2.2 + 0)] (fun r σ1 τ1 => r = 0 ∧ (∀ c k : Nat, 199 ≤ c → σ1 c k = gs0 c k) ∧ True) := by
  refine gx_bi (by decide +kernel) (Nat.le_of_ble_eq_true rfl) ?_
  intro P9 e9 s m9 below meth C9 S hr hlk hK hw ls hl
  have S : CallFix P9 m9 C9 cX11_rule 2 s _ gx_G RX11 := S
  have hx := S.1
  have hb := S.2.1
  have hl : lv_has ls 2 [(0, .ref (E.2.2 + 0))] := hl
  refine lv_aload_n hx hb dX11_rule_0 rfl (lv_at hl 0 rfl) ?_
  refine gx_getr (j := 21) S hK hw t_0 cl_12 5 (by decide) rfl mw_452 rfl dX11_rule_1 ?_
  refine lv_aload_n hx hb dX11_rule_4 rfl (lv_at hl 0 rfl) ?_
  refine gx_getr (j := 1) S hK hw t_0 cl_12 0 (by decide) rfl mw_447 rfl dX11_rule_5 ?_
  refine gx_cVi (As := [.ref (E.2.2 + 1)]) (rest := []) S hK gx_ok hw (c_Rule_read l (E := E) gs0 gt0 (by first | rfl | decide | simp [up2, gs0])) cw_X11_133 t_21 cl_6 ⟨Nat.le_of_ble_eq_true rfl, Nat.le_of_ble_eq_true rfl⟩ rfl hl.1 rfl (Nat.le_of_ble_eq_true rfl) ⟨Nat.le_of_ble_eq_true rfl, Nat.le_of_ble_eq_true rfl⟩ dX11_rule_8 (fun r_1 σ_1 τ_1 H locs hp hw => ?_)
  obtain ⟨er_1, hs_1, et_1⟩ := hp
  obtain rfl := er_1.symm
  obtain rfl := et_1.symm
  refine lv_istore_n (lv' := [(1, .int 0), (0, .ref (E.2.2 + 0))]) hx hb dX11_rule_11 rfl hl (by decide) rfl (fun ls hl => ?_)
  refine lv_aload_n hx hb dX11_rule_12 rfl (lv_at hl 1 rfl) ?_
  refine gx_getr (j := 1) S hK hw t_0 cl_12 0 (by decide) rfl mw_447 rfl dX11_rule_13 ?_
  refine lv_iconst (v := 0) hx hb dX11_rule_16 (by decide) ?_
  refine gx_cVi (As := [.int 0]) (rest := []) S hK gx_ok hw (c_cut0 l (E := E) (σ_1) gt0 (by first | rfl | decide | simp [up2, gs0, hs_1])) cw_X11_111 t_1 cl_8 ⟨Nat.le_of_ble_eq_true rfl, Nat.le_of_ble_eq_true rfl⟩ rfl hl.1 rfl (Nat.le_of_ble_eq_true rfl) ⟨Nat.le_of_ble_eq_true rfl, Nat.le_of_ble_eq_true rfl⟩ dX11_rule_17 (fun r_2 σ_2 τ_2 H locs hp hw => ?_)
  obtain ⟨er_2, es_2, et_2⟩ := hp
  obtain rfl := er_2.symm
  obtain rfl := es_2.symm
  obtain rfl := et_2.symm
  refine lv_pop hx hb dX11_rule_20 rfl ?_
  refine lv_iload_n hx hb dX11_rule_21 rfl (lv_at hl 0 rfl) ?_
  refine lv_if_lt (tgt := 36) hx hb dX11_rule_22 (by decide) (fun h => absurd h (by decide)) (fun _ => ?_)
  refine lv_aload_n hx hb dX11_rule_25 rfl (lv_at hl 1 rfl) ?_
  refine gx_getr (j := 17) S hK hw t_0 cl_12 4 (by decide) rfl mw_451 rfl dX11_rule_26 ?_
  refine lv_aload_n hx hb dX11_rule_29 rfl (lv_at hl 1 rfl) ?_
  refine gx_getr (j := 21) S hK hw t_0 cl_12 5 (by decide) rfl mw_452 rfl dX11_rule_30 ?_
  refine gx_cVv (As := [.ref (E.2.2 + 21)]) (rest := []) S hK gx_ok hw (c_Rule_copy l (E := E) (up2 (σ_1) 1 2 0) gt0 (by first | rfl | decide | simp [up2, gs0, hs_1]) (by first | rfl | decide | simp [up2, gs0, hs_1])) cw_X11_134 t_17 cl_6 ⟨Nat.le_of_ble_eq_true rfl, Nat.le_of_ble_eq_true rfl⟩ rfl hl.1 rfl (Nat.le_of_ble_eq_true rfl) ⟨Nat.le_of_ble_eq_true rfl, Nat.le_of_ble_eq_true rfl⟩ dX11_rule_33 (fun σ_3 τ_3 H locs hp hw => ?_)
  obtain ⟨hs_3, et_3⟩ := hp
  obtain rfl := et_3.symm
  refine lv_iload_n hx hb dX11_rule_36 rfl (lv_at hl 0 rfl) ?_
  exact gx_ri (post := fun r σ1 τ1 => r = 0 ∧ (∀ c k : Nat, 199 ≤ c → σ1 c k = gs0 c k) ∧ True) (v := 0) S hr hlk hw rfl dX11_rule_37 ⟨rfl, (fun c9 k9 h9 => (hs_3 c9 k9 (by omega) (by omega)).trans ((up2_hi (by omega) h9).trans ((hs_1 c9 k9 (by omega) (by omega)).trans ((up2_hi (by omega) h9).trans ((up2_hi (by omega) h9).trans ((up2_hi (by omega) h9).trans ((up2_hi (by omega) h9).trans ((up2_hi (by omega) h9).trans ((up2_hi (by omega) h9).trans ((up2_hi (by omega) h9).trans ((up2_hi (by omega) h9).trans ((up2_hi (by omega) h9).trans ((up2_hi (by omega) h9).trans ((up2_hi (by omega) h9).trans ((up2_hi (by omega) h9).trans ((up2_hi (by omega) h9).trans (rfl))))))))))))))))), trivial⟩
set_option maxHeartbeats 4000000 in
set_option maxRecDepth 100000 in
theorem c_x_flow (l : Launch) {E : gE} (n : Int32)  : gx_Mi l yX11_flow cX11_flow 2 (some .int) 1 gx_tb E gs0 gt0 [.ref (E.2.2 + 0), .int n] (fun r σ1 τ1 => r = (if 0 ≤ n.toInt ∧ n.toInt ≤ 9999 then 1 else (-1)) ∧ (∀ c k : Nat, 199 ≤ c → σ1 c k = gs0 c k) ∧ True) := by
  refine gx_bi (by decide +kernel) (Nat.le_of_ble_eq_true rfl) ?_
  intro P9 e9 s m9 below meth C9 S hr hlk hK hw ls hl
  have S : CallFix P9 m9 C9 cX11_flow 2 s _ gx_G RX11 := S
  have hx := S.1
  have hb := S.2.1
  have hl : lv_has ls 2 [(0, .ref (E.2.2 + 0)), (1, .int n)] := hl
  refine lv_iload_n hx hb dX11_flow_0 rfl (lv_at hl 1 rfl) ?_
  refine lv_if_lt (tgt := 22) hx hb dX11_flow_1 (by decide) (fun c_1 => ?_) (fun c_1 => ?_)
  · refine lv_iconst (v := (-1)) hx hb dX11_flow_22 (by decide) ?_
    exact gx_ri (post := fun r σ1 τ1 => r = (if 0 ≤ n.toInt ∧ n.toInt ≤ 9999 then 1 else (-1)) ∧ (∀ c k : Nat, 199 ≤ c → σ1 c k = gs0 c k) ∧ True) (v := (-1)) S hr hlk hw rfl dX11_flow_23 ⟨(by simp only [fa_lt, fa_le, fa_eq, show (0 : Int32).toInt = 0 from rfl] at c_1; exact ((if_neg (by omega)).trans (rfl)).symm), (fun c9 k9 h9 => rfl), trivial⟩
  · refine lv_iload_n hx hb dX11_flow_4 rfl (lv_at hl 1 rfl) ?_
    refine lv_sipush (v := 9999) hx hb dX11_flow_5 (by decide) ?_
    refine lv_icmp_gt (tgt := 22) hx hb dX11_flow_8 (by decide) (fun c_2 => ?_) (fun c_2 => ?_)
    · refine lv_iconst (v := (-1)) hx hb dX11_flow_22 (by decide) ?_
      exact gx_ri (post := fun r σ1 τ1 => r = (if 0 ≤ n.toInt ∧ n.toInt ≤ 9999 then 1 else (-1)) ∧ (∀ c k : Nat, 199 ≤ c → σ1 c k = gs0 c k) ∧ True) (v := (-1)) S hr hlk hw rfl dX11_flow_23 ⟨(by simp only [fa_lt, fa_le, fa_eq, show (0 : Int32).toInt = 0 from rfl, show (9999 : Int32).toInt = 9999 from rfl] at c_1 c_2; exact ((if_neg (by omega)).trans (rfl)).symm), (fun c9 k9 h9 => rfl), trivial⟩
    · refine lv_aload_n hx hb dX11_flow_11 rfl (lv_at hl 0 rfl) ?_
      refine gx_getr (j := 15) S hK hw t_0 cl_12 3 (by decide) rfl mw_450 rfl dX11_flow_12 ?_
      refine lv_iload_n hx hb dX11_flow_15 rfl (lv_at hl 1 rfl) ?_
      refine gx_cVi (As := [.int n]) (rest := []) S hK gx_ok hw (c_Water_in l (E := E) gs0 gt0 n (by first | rfl | decide | simp [up2, gs0])) cw_X11_198 t_15 cl_11 ⟨Nat.le_of_ble_eq_true rfl, Nat.le_of_ble_eq_true rfl⟩ rfl hl.1 rfl (Nat.le_of_ble_eq_true rfl) ⟨Nat.le_of_ble_eq_true rfl, Nat.le_of_ble_eq_true rfl⟩ dX11_flow_16 (fun r_3 σ_3 τ_3 H locs hp hw => ?_)
      obtain ⟨er_3, es_3, et_3⟩ := hp
      obtain rfl := er_3.symm
      obtain rfl := es_3.symm
      obtain rfl := et_3.symm
      refine lv_goto (tgt := 23) hx hb dX11_flow_19 (by decide) ?_
      exact gx_ri (post := fun r σ1 τ1 => r = (if 0 ≤ n.toInt ∧ n.toInt ≤ 9999 then 1 else (-1)) ∧ (∀ c k : Nat, 199 ≤ c → σ1 c k = gs0 c k) ∧ True) (v := 1) S hr hlk hw rfl dX11_flow_23 ⟨(by simp only [fa_lt, fa_le, fa_eq, show (0 : Int32).toInt = 0 from rfl, show (9999 : Int32).toInt = 9999 from rfl] at c_1 c_2; exact (if_pos (by omega)).symm), (fun c9 k9 h9 => rfl), trivial⟩
set_option maxHeartbeats 4000000 in
set_option maxRecDepth 100000 in
theorem c_x_plank (l : Launch) {E : gE} (p v : Int32)  : gx_Mi l yX11_plank cX11_plank 3 (some .boolean) 1 gx_tb E gs0 gt0 [.ref (E.2.2 + 0), .int p, .int v] (fun r σ1 τ1 => r = 0 ∧ (∀ c k : Nat, 199 ≤ c → σ1 c k = gs0 c k) ∧ True) := by
  refine gx_bi (by decide +kernel) (Nat.le_of_ble_eq_true rfl) ?_
  intro P9 e9 s m9 below meth C9 S hr hlk hK hw ls hl
  have S : CallFix P9 m9 C9 cX11_plank 3 s _ gx_G RX11 := S
  have hx := S.1
  have hb := S.2.1
  have hl : lv_has ls 3 [(0, .ref (E.2.2 + 0)), (1, .int p), (2, .int v)] := hl
  refine lv_aload_n hx hb dX11_plank_0 rfl (lv_at hl 0 rfl) ?_
  refine gx_getr (j := 3) S hK hw t_0 cl_12 1 (by decide) rfl mw_448 rfl dX11_plank_1 ?_
  refine lv_iload_n hx hb dX11_plank_4 rfl (lv_at hl 1 rfl) ?_
  refine gx_cVi (As := [.int p]) (rest := []) S hK gx_ok hw (c_Town_isFork l (E := E) gs0 gt0 p (by first | rfl | decide | simp [up2, gs0])) cw_X11_201 t_3 cl_9 ⟨Nat.le_of_ble_eq_true rfl, Nat.le_of_ble_eq_true rfl⟩ rfl hl.1 rfl (Nat.le_of_ble_eq_true rfl) ⟨Nat.le_of_ble_eq_true rfl, Nat.le_of_ble_eq_true rfl⟩ dX11_plank_5 (fun r_1 σ_1 τ_1 H locs hp hw => ?_)
  obtain ⟨er_1, es_1, et_1⟩ := hp
  obtain rfl := er_1.symm
  obtain rfl := es_1.symm
  obtain rfl := et_1.symm
  refine lv_if_eq (tgt := 20) hx hb dX11_plank_8 (by decide) (fun _ => ?_) (fun h => absurd (by decide) h)
  refine lv_iconst (v := 0) hx hb dX11_plank_20 (by decide) ?_
  exact gx_ri (post := fun r σ1 τ1 => r = 0 ∧ (∀ c k : Nat, 199 ≤ c → σ1 c k = gs0 c k) ∧ True) (v := 0) S hr hlk hw rfl dX11_plank_21 ⟨rfl, (fun c9 k9 h9 => rfl), trivial⟩
set_option maxHeartbeats 4000000 in
set_option maxRecDepth 100000 in
theorem c_x_sheet (l : Launch) {E : gE} (k n f t : Int32)  : gx_Mi l yX11_sheet cX11_sheet 9 (some .int) 0 gx_tb E gs0 gt0 [.ref (E.2.2 + 0), .int k, .int n, .int f, .int t] (fun r σ1 τ1 => r = (if k.toInt < 0 ∨ 3 < k.toInt ∨ 6 < n.toInt then (-1) else (if k.toInt = 3 then (-3) else (if n.toInt < 0 then (-2) else 0))) ∧ (∀ c k : Nat, 199 ≤ c → σ1 c k = gs0 c k) ∧ True) := by
  refine gx_bi (by decide +kernel) (Nat.le_of_ble_eq_true rfl) ?_
  intro P9 e9 s m9 below meth C9 S hr hlk hK hw ls hl
  have S : CallFix P9 m9 C9 cX11_sheet 9 s _ gx_G RX11 := S
  have hx := S.1
  have hb := S.2.1
  have hl : lv_has ls 9 [(0, .ref (E.2.2 + 0)), (1, .int k), (2, .int n), (3, .int f), (4, .int t)] := hl
  refine lv_iload_n hx hb dX11_sheet_0 rfl (lv_at hl 1 rfl) ?_
  refine lv_if_lt (tgt := 15) hx hb dX11_sheet_1 (by decide) (fun c_1 => ?_) (fun c_1 => ?_)
  · refine lv_iconst (v := (-1)) hx hb dX11_sheet_15 (by decide) ?_
    exact gx_ri (post := fun r σ1 τ1 => r = (if k.toInt < 0 ∨ 3 < k.toInt ∨ 6 < n.toInt then (-1) else (if k.toInt = 3 then (-3) else (if n.toInt < 0 then (-2) else 0))) ∧ (∀ c k : Nat, 199 ≤ c → σ1 c k = gs0 c k) ∧ True) (v := (-1)) S hr hlk hw rfl dX11_sheet_16 ⟨(by simp only [fa_lt, fa_le, fa_eq, show (0 : Int32).toInt = 0 from rfl] at c_1; exact (if_pos (by omega)).symm), (fun c9 k9 h9 => rfl), trivial⟩
  · refine lv_iload_n hx hb dX11_sheet_4 rfl (lv_at hl 1 rfl) ?_
    refine lv_iconst (v := 3) hx hb dX11_sheet_5 (by decide) ?_
    refine lv_icmp_gt (tgt := 15) hx hb dX11_sheet_6 (by decide) (fun c_2 => ?_) (fun c_2 => ?_)
    · refine lv_iconst (v := (-1)) hx hb dX11_sheet_15 (by decide) ?_
      exact gx_ri (post := fun r σ1 τ1 => r = (if k.toInt < 0 ∨ 3 < k.toInt ∨ 6 < n.toInt then (-1) else (if k.toInt = 3 then (-3) else (if n.toInt < 0 then (-2) else 0))) ∧ (∀ c k : Nat, 199 ≤ c → σ1 c k = gs0 c k) ∧ True) (v := (-1)) S hr hlk hw rfl dX11_sheet_16 ⟨(by simp only [fa_lt, fa_le, fa_eq, show (0 : Int32).toInt = 0 from rfl, show (3 : Int32).toInt = 3 from rfl] at c_1 c_2; exact (if_pos (by omega)).symm), (fun c9 k9 h9 => rfl), trivial⟩
    · refine lv_iload_n hx hb dX11_sheet_9 rfl (lv_at hl 2 rfl) ?_
      refine lv_bipush (v := 6) hx hb dX11_sheet_10 (by decide) ?_
      refine lv_icmp_le (tgt := 17) hx hb dX11_sheet_12 (by decide) (fun c_3 => ?_) (fun c_3 => ?_)
      · refine lv_iload_n hx hb dX11_sheet_17 rfl (lv_at hl 1 rfl) ?_
        refine lv_iconst (v := 3) hx hb dX11_sheet_18 (by decide) ?_
        refine lv_icmp_ne (tgt := 26) hx hb dX11_sheet_19 (by decide) (fun c_4 => ?_) (fun c_4 => ?_)
        · refine lv_iconst (v := 0) hx hb dX11_sheet_26 (by decide) ?_
          refine lv_istore (lv' := [(5, .int 0), (0, .ref (E.2.2 + 0)), (1, .int k), (2, .int n), (3, .int f), (4, .int t)]) hx hb dX11_sheet_27 hl (by decide) rfl (fun ls hl => ?_)
          refine lv_iload hx hb dX11_sheet_29 (lv_at hl 0 rfl) ?_
          refine lv_if_ne (tgt := 41) hx hb dX11_sheet_31 (by decide) (fun h => absurd (by decide) h) (fun _ => ?_)
          refine lv_iload_n hx hb dX11_sheet_34 rfl (lv_at hl 3 rfl) ?_
          refine lv_if_ge (tgt := 41) hx hb dX11_sheet_35 (by decide) (fun c_5 => ?_) (fun c_5 => ?_)
          · refine lv_iconst (v := 0) hx hb dX11_sheet_41 (by decide) ?_
            refine lv_istore (lv' := [(6, .int 0), (5, .int 0), (0, .ref (E.2.2 + 0)), (1, .int k), (2, .int n), (3, .int f), (4, .int t)]) hx hb dX11_sheet_42 hl (by decide) rfl (fun ls hl => ?_)
            refine lv_iconst (v := 0) hx hb dX11_sheet_44 (by decide) ?_
            refine lv_istore (lv' := [(7, .int 0), (6, .int 0), (5, .int 0), (0, .ref (E.2.2 + 0)), (1, .int k), (2, .int n), (3, .int f), (4, .int t)]) hx hb dX11_sheet_45 hl (by decide) rfl (fun ls hl => ?_)
            refine lv_iload hx hb dX11_sheet_47 (lv_at hl 0 rfl) ?_
            refine lv_aload_n hx hb dX11_sheet_49 rfl (lv_at hl 3 rfl) ?_
            refine gx_getr (j := 30) S hK hw t_0 cl_12 7 (by decide) rfl mw_454 rfl dX11_sheet_50 ?_
            refine gx_get S hK hw t_30 cl_7 6 (by decide) rfl mw_272 rfl dX11_sheet_53 ?_
            refine gx_top (v := 0) (by first | rfl | decide | simp [up2, gs0]) ?_
            refine lv_icmp_ge (tgt := 111) hx hb dX11_sheet_56 (by decide) (fun _ => ?_) (fun h => absurd (by decide) h)
            refine lv_iload hx hb dX11_sheet_111 (lv_at hl 2 rfl) ?_
            refine lv_if_eq (tgt := 121) hx hb dX11_sheet_113 (by decide) (fun _ => ?_) (fun h => absurd (by decide) h)
            refine lv_iload hx hb dX11_sheet_121 (lv_at hl 1 rfl) ?_
            exact gx_ri (post := fun r σ1 τ1 => r = (if k.toInt < 0 ∨ 3 < k.toInt ∨ 6 < n.toInt then (-1) else (if k.toInt = 3 then (-3) else (if n.toInt < 0 then (-2) else 0))) ∧ (∀ c k : Nat, 199 ≤ c → σ1 c k = gs0 c k) ∧ True) (v := 0) S hr hlk hw rfl dX11_sheet_123 ⟨(by simp only [fa_lt, fa_le, fa_eq, show (0 : Int32).toInt = 0 from rfl, show (3 : Int32).toInt = 3 from rfl, show (6 : Int32).toInt = 6 from rfl] at c_1 c_2 c_3 c_4 c_5; exact ((if_neg (by omega)).trans ((if_neg (by omega)).trans ((if_neg (by omega)).trans (rfl)))).symm), (fun c9 k9 h9 => rfl), trivial⟩
          · refine lv_bipush (v := (-2)) hx hb dX11_sheet_38 (by decide) ?_
            exact gx_ri (post := fun r σ1 τ1 => r = (if k.toInt < 0 ∨ 3 < k.toInt ∨ 6 < n.toInt then (-1) else (if k.toInt = 3 then (-3) else (if n.toInt < 0 then (-2) else 0))) ∧ (∀ c k : Nat, 199 ≤ c → σ1 c k = gs0 c k) ∧ True) (v := (-2)) S hr hlk hw rfl dX11_sheet_40 ⟨(by simp only [fa_lt, fa_le, fa_eq, show (0 : Int32).toInt = 0 from rfl, show (3 : Int32).toInt = 3 from rfl, show (6 : Int32).toInt = 6 from rfl] at c_1 c_2 c_3 c_4 c_5; exact ((if_neg (by omega)).trans ((if_neg (by omega)).trans (if_pos (by omega)))).symm), (fun c9 k9 h9 => rfl), trivial⟩
        · refine lv_iconst (v := 1) hx hb dX11_sheet_22 (by decide) ?_
          refine lv_goto (tgt := 27) hx hb dX11_sheet_23 (by decide) ?_
          refine lv_istore (lv' := [(5, .int 1), (0, .ref (E.2.2 + 0)), (1, .int k), (2, .int n), (3, .int f), (4, .int t)]) hx hb dX11_sheet_27 hl (by decide) rfl (fun ls hl => ?_)
          refine lv_iload hx hb dX11_sheet_29 (lv_at hl 0 rfl) ?_
          refine lv_if_ne (tgt := 41) hx hb dX11_sheet_31 (by decide) (fun _ => ?_) (fun h => absurd h (by decide))
          refine lv_iconst (v := 0) hx hb dX11_sheet_41 (by decide) ?_
          refine lv_istore (lv' := [(6, .int 0), (5, .int 1), (0, .ref (E.2.2 + 0)), (1, .int k), (2, .int n), (3, .int f), (4, .int t)]) hx hb dX11_sheet_42 hl (by decide) rfl (fun ls hl => ?_)
          refine lv_iconst (v := 0) hx hb dX11_sheet_44 (by decide) ?_
          refine lv_istore (lv' := [(7, .int 0), (6, .int 0), (5, .int 1), (0, .ref (E.2.2 + 0)), (1, .int k), (2, .int n), (3, .int f), (4, .int t)]) hx hb dX11_sheet_45 hl (by decide) rfl (fun ls hl => ?_)
          refine lv_iload hx hb dX11_sheet_47 (lv_at hl 0 rfl) ?_
          refine lv_aload_n hx hb dX11_sheet_49 rfl (lv_at hl 3 rfl) ?_
          refine gx_getr (j := 30) S hK hw t_0 cl_12 7 (by decide) rfl mw_454 rfl dX11_sheet_50 ?_
          refine gx_get S hK hw t_30 cl_7 6 (by decide) rfl mw_272 rfl dX11_sheet_53 ?_
          refine gx_top (v := 0) (by first | rfl | decide | simp [up2, gs0]) ?_
          refine lv_icmp_ge (tgt := 111) hx hb dX11_sheet_56 (by decide) (fun _ => ?_) (fun h => absurd (by decide) h)
          refine lv_iload hx hb dX11_sheet_111 (lv_at hl 2 rfl) ?_
          refine lv_if_eq (tgt := 121) hx hb dX11_sheet_113 (by decide) (fun h => absurd h (by decide)) (fun _ => ?_)
          refine lv_bipush (v := (-3)) hx hb dX11_sheet_116 (by decide) ?_
          refine lv_goto (tgt := 123) hx hb dX11_sheet_118 (by decide) ?_
          exact gx_ri (post := fun r σ1 τ1 => r = (if k.toInt < 0 ∨ 3 < k.toInt ∨ 6 < n.toInt then (-1) else (if k.toInt = 3 then (-3) else (if n.toInt < 0 then (-2) else 0))) ∧ (∀ c k : Nat, 199 ≤ c → σ1 c k = gs0 c k) ∧ True) (v := (-3)) S hr hlk hw rfl dX11_sheet_123 ⟨(by simp only [fa_lt, fa_le, fa_eq, show (0 : Int32).toInt = 0 from rfl, show (3 : Int32).toInt = 3 from rfl, show (6 : Int32).toInt = 6 from rfl] at c_1 c_2 c_3 c_4; exact ((if_neg (by omega)).trans (if_pos (by omega))).symm), (fun c9 k9 h9 => rfl), trivial⟩
      · refine lv_iconst (v := (-1)) hx hb dX11_sheet_15 (by decide) ?_
        exact gx_ri (post := fun r σ1 τ1 => r = (if k.toInt < 0 ∨ 3 < k.toInt ∨ 6 < n.toInt then (-1) else (if k.toInt = 3 then (-3) else (if n.toInt < 0 then (-2) else 0))) ∧ (∀ c k : Nat, 199 ≤ c → σ1 c k = gs0 c k) ∧ True) (v := (-1)) S hr hlk hw rfl dX11_sheet_16 ⟨(by simp only [fa_lt, fa_le, fa_eq, show (0 : Int32).toInt = 0 from rfl, show (3 : Int32).toInt = 3 from rfl, show (6 : Int32).toInt = 6 from rfl] at c_1 c_2 c_3; exact (if_pos (by omega)).symm), (fun c9 k9 h9 => rfl), trivial⟩
set_option maxHeartbeats 4000000 in
set_option maxRecDepth 100000 in
theorem c_x_put (l : Launch) {E : gE} (p b n w : Int32)  : gx_Mi l yX11_put cX11_put 5 (some .int) 1 gx_tb E gs0 gt0 [.ref (E.2.2 + 0), .int p, .int b, .int n, .int w] (fun r σ1 τ1 => r = (-1) ∧ (∀ c k : Nat, 199 ≤ c → σ1 c k = gs0 c k) ∧ True) := by
  refine gx_bi (by decide +kernel) (Nat.le_of_ble_eq_true rfl) ?_
  intro P9 e9 s m9 below meth C9 S hr hlk hK hw ls hl
  have S : CallFix P9 m9 C9 cX11_put 5 s _ gx_G RX11 := S
  have hx := S.1
  have hb := S.2.1
  have hl : lv_has ls 5 [(0, .ref (E.2.2 + 0)), (1, .int p), (2, .int b), (3, .int n), (4, .int w)] := hl
  refine lv_aload_n hx hb dX11_put_0 rfl (lv_at hl 0 rfl) ?_
  refine gx_getr (j := 3) S hK hw t_0 cl_12 1 (by decide) rfl mw_448 rfl dX11_put_1 ?_
  refine lv_iload_n hx hb dX11_put_4 rfl (lv_at hl 1 rfl) ?_
  refine gx_cVi (As := [.int p]) (rest := []) S hK gx_ok hw (c_Town_has l (E := E) gs0 gt0 p (by first | rfl | decide | simp [up2, gs0])) cw_X11_137 t_3 cl_9 ⟨Nat.le_of_ble_eq_true rfl, Nat.le_of_ble_eq_true rfl⟩ rfl hl.1 rfl (Nat.le_of_ble_eq_true rfl) ⟨Nat.le_of_ble_eq_true rfl, Nat.le_of_ble_eq_true rfl⟩ dX11_put_5 (fun r_1 σ_1 τ_1 H locs hp hw => ?_)
  obtain ⟨er_1, es_1, et_1⟩ := hp
  obtain rfl := er_1.symm
  obtain rfl := es_1.symm
  obtain rfl := et_1.symm
  refine lv_if_eq (tgt := 27) hx hb dX11_put_8 (by decide) (fun _ => ?_) (fun h => absurd (by decide) h)
  refine lv_iconst (v := (-1)) hx hb dX11_put_27 (by decide) ?_
  exact gx_ri (post := fun r σ1 τ1 => r = (-1) ∧ (∀ c k : Nat, 199 ≤ c → σ1 c k = gs0 c k) ∧ True) (v := (-1)) S hr hlk hw rfl dX11_put_28 ⟨rfl, (fun c9 k9 h9 => rfl), trivial⟩
set_option maxHeartbeats 4000000 in
set_option maxRecDepth 100000 in
theorem c_x_give (l : Launch) {E : gE} (i n : Int32)  : gx_Mi l yX11_give cX11_give 3 (some .int) 1 gx_tb E gs0 gt0 [.ref (E.2.2 + 0), .int i, .int n] (fun r σ1 τ1 => r = (-1) ∧ (∀ c k : Nat, 199 ≤ c → σ1 c k = gs0 c k) ∧ True) := by
  refine gx_bi (by decide +kernel) (Nat.le_of_ble_eq_true rfl) ?_
  intro P9 e9 s m9 below meth C9 S hr hlk hK hw ls hl
  have S : CallFix P9 m9 C9 cX11_give 3 s _ gx_G RX11 := S
  have hx := S.1
  have hb := S.2.1
  have hl : lv_has ls 3 [(0, .ref (E.2.2 + 0)), (1, .int i), (2, .int n)] := hl
  refine lv_aload_n hx hb dX11_give_0 rfl (lv_at hl 0 rfl) ?_
  refine gx_getr (j := 30) S hK hw t_0 cl_12 7 (by decide) rfl mw_454 rfl dX11_give_1 ?_
  refine lv_iload_n hx hb dX11_give_4 rfl (lv_at hl 1 rfl) ?_
  refine gx_cVi (As := [.int i]) (rest := []) S hK gx_ok hw (c_Scene_isOnWay l (E := E) gs0 gt0 30 i (by first | rfl | decide | simp [up2, gs0]) (by first | rfl | decide | simp [up2, gs0])) cw_X11_241 t_30 cl_7 ⟨Nat.le_of_ble_eq_true rfl, Nat.le_of_ble_eq_true rfl⟩ rfl hl.1 rfl (Nat.le_of_ble_eq_true rfl) ⟨Nat.le_of_ble_eq_true rfl, Nat.le_of_ble_eq_true rfl⟩ dX11_give_5 (fun r_1 σ_1 τ_1 H locs hp hw => ?_)
  obtain ⟨er_1, es_1, et_1⟩ := hp
  obtain rfl := er_1.symm
  obtain rfl := es_1.symm
  obtain rfl := et_1.symm
  refine lv_if_eq (tgt := 22) hx hb dX11_give_8 (by decide) (fun _ => ?_) (fun h => absurd (by decide) h)
  refine lv_iconst (v := (-1)) hx hb dX11_give_22 (by decide) ?_
  exact gx_ri (post := fun r σ1 τ1 => r = (-1) ∧ (∀ c k : Nat, 199 ≤ c → σ1 c k = gs0 c k) ∧ True) (v := (-1)) S hr hlk hw rfl dX11_give_23 ⟨rfl, (fun c9 k9 h9 => rfl), trivial⟩
set_option maxHeartbeats 4000000 in
set_option maxRecDepth 100000 in
theorem c_x_run (l : Launch) {E : gE} (n : Int32)  : gx_Mi l yX11_run cX11_run 5 (some .int) 4 gx_tb E gs0 gt0 [.ref (E.2.2 + 0), .int n] (fun r σ1 τ1 => r = (if 0 ≤ n.toInt ∧ n.toInt ≤ 99 then 0 else (-1)) ∧ (∀ c k : Nat, 199 ≤ c → σ1 c k = gs0 c k) ∧ True) := by
  refine gx_bi (by decide +kernel) (Nat.le_of_ble_eq_true rfl) ?_
  intro P9 e9 s m9 below meth C9 S hr hlk hK hw ls hl
  have S : CallFix P9 m9 C9 cX11_run 5 s _ gx_G RX11 := S
  have hx := S.1
  have hb := S.2.1
  have hl : lv_has ls 5 [(0, .ref (E.2.2 + 0)), (1, .int n)] := hl
  refine lv_iload_n hx hb dX11_run_0 rfl (lv_at hl 1 rfl) ?_
  refine lv_if_lt (tgt := 10) hx hb dX11_run_1 (by decide) (fun c_1 => ?_) (fun c_1 => ?_)
  · refine lv_iconst (v := (-1)) hx hb dX11_run_10 (by decide) ?_
    exact gx_ri (post := fun r σ1 τ1 => r = (if 0 ≤ n.toInt ∧ n.toInt ≤ 99 then 0 else (-1)) ∧ (∀ c k : Nat, 199 ≤ c → σ1 c k = gs0 c k) ∧ True) (v := (-1)) S hr hlk hw rfl dX11_run_11 ⟨(by simp only [fa_lt, fa_le, fa_eq, show (0 : Int32).toInt = 0 from rfl] at c_1; exact ((if_neg (by omega)).trans (rfl)).symm), (fun c9 k9 h9 => rfl), trivial⟩
  · refine lv_iload_n hx hb dX11_run_4 rfl (lv_at hl 1 rfl) ?_
    refine lv_bipush (v := 99) hx hb dX11_run_5 (by decide) ?_
    refine lv_icmp_le (tgt := 12) hx hb dX11_run_7 (by decide) (fun c_2 => ?_) (fun c_2 => ?_)
    · obtain ⟨j, hj, ej⟩ : ∃ j : Nat, j ≤ 99 ∧ n = nI j := nI_of2 (M := 99) rfl c_1 c_2
      refine lv_iload_n hx hb dX11_run_12 rfl (lv_at hl 1 rfl) ?_
      refine lv_if_le (tgt := 27) hx hb dX11_run_13 (by decide) (fun c_3 => ?_) (fun c_3 => ?_)
      · refine lv_aload_n hx hb dX11_run_27 rfl (lv_at hl 0 rfl) ?_
        refine gx_getr (j := 30) S hK hw t_0 cl_12 7 (by decide) rfl mw_454 rfl dX11_run_28 ?_
        refine gx_get S hK hw t_30 cl_7 9 (by decide) rfl mw_283 rfl dX11_run_31 ?_
        refine gx_top (v := 0) (by first | rfl | decide | simp [up2, gs0]) ?_
        refine lv_istore_n (lv' := [(2, .int 0), (0, .ref (E.2.2 + 0)), (1, .int n)]) hx hb dX11_run_34 rfl hl (by decide) rfl (fun ls hl => ?_)
        refine lv_aload_n hx hb dX11_run_35 rfl (lv_at hl 1 rfl) ?_
        refine gx_getr (j := 30) S hK hw t_0 cl_12 7 (by decide) rfl mw_454 rfl dX11_run_36 ?_
        refine gx_get S hK hw t_30 cl_7 10 (by decide) rfl mw_286 rfl dX11_run_39 ?_
        refine gx_top (v := 0) (by first | rfl | decide | simp [up2, gs0]) ?_
        refine lv_istore_n (lv' := [(3, .int 0), (2, .int 0), (0, .ref (E.2.2 + 0)), (1, .int n)]) hx hb dX11_run_42 rfl hl (by decide) rfl (fun ls hl => ?_)
        refine lv_aload_n hx hb dX11_run_43 rfl (lv_at hl 2 rfl) ?_
        refine lv_iload_n hx hb dX11_run_44 rfl (lv_at hl 3 rfl) ?_
        refine gx_top (v := nI j) ej ?_
        refine gx_cVv (As := [.int (nI j)]) (rest := []) S hK gx_ok hw (c_passMinutes l (E := E) gs0 gt0 j (by first | rfl | decide | simp [up2, gs0]) (by first | rfl | decide | simp [up2, gs0]) (by first | rfl | decide | simp [up2, gs0]) hj) cw_X11_253 t_0 cl_12 ⟨Nat.le_of_ble_eq_true rfl, Nat.le_of_ble_eq_true rfl⟩ rfl hl.1 rfl (Nat.le_of_ble_eq_true rfl) ⟨Nat.le_of_ble_eq_true rfl, Nat.le_of_ble_eq_true rfl⟩ dX11_run_45 (fun σ_4 τ_4 H locs hp hw => ?_)
        obtain ⟨hs_4, et_4⟩ := hp
        obtain rfl := et_4.symm
        refine lv_aload_n hx hb dX11_run_48 rfl (lv_at hl 2 rfl) ?_
        refine gx_getr (j := 30) S hK hw t_0 cl_12 7 (by decide) rfl mw_454 rfl dX11_run_49 ?_
        refine gx_get S hK hw t_30 cl_7 9 (by decide) rfl mw_283 rfl dX11_run_52 ?_
        refine gx_top (v := 0) (by first | rfl | decide | simp [up2, gs0, hs_4]) ?_
        refine lv_iload_n hx hb dX11_run_55 rfl (lv_at hl 1 rfl) ?_
        refine lv_iconst (v := (-1)) hx hb dX11_run_56 (by decide) ?_
        refine lv_ixor hx hb dX11_run_57 ?_
        refine gx_top (v := (-1)) (by decide) ?_
        refine lv_iand hx hb dX11_run_58 ?_
        refine gx_top (v := 0) (by decide) ?_
        refine lv_istore (lv' := [(4, .int 0), (3, .int 0), (2, .int 0), (0, .ref (E.2.2 + 0)), (1, .int n)]) hx hb dX11_run_59 hl (by decide) rfl (fun ls hl => ?_)
        refine lv_aload_n hx hb dX11_run_61 rfl (lv_at hl 3 rfl) ?_
        refine gx_getr (j := 156) S hK hw t_0 cl_12 13 (by decide) rfl mw_460 rfl dX11_run_62 ?_
        refine lv_iload hx hb dX11_run_65 (lv_at hl 0 rfl) ?_
        refine lv_i2l (v := 0) hx hb dX11_run_67 (by decide) ?_
        refine lv_aload_n hx hb dX11_run_68 rfl (lv_at hl 3 rfl) ?_
        refine gx_getr (j := 30) S hK hw t_0 cl_12 7 (by decide) rfl mw_454 rfl dX11_run_69 ?_
        refine gx_get S hK hw t_30 cl_7 10 (by decide) rfl mw_286 rfl dX11_run_72 ?_
        refine gx_top (v := 0) (by first | rfl | decide | simp [up2, gs0, hs_4]) ?_
        refine lv_iload_n hx hb dX11_run_75 rfl (lv_at hl 1 rfl) ?_
        refine lv_iconst (v := (-1)) hx hb dX11_run_76 (by decide) ?_
        refine lv_ixor hx hb dX11_run_77 ?_
        refine gx_top (v := (-1)) (by decide) ?_
        refine lv_iand hx hb dX11_run_78 ?_
        refine gx_top (v := 0) (by decide) ?_
        refine lv_i2l (v := 0) hx hb dX11_run_79 (by decide) ?_
        refine gx_cVv (As := [.long 0, .long 0]) (rest := []) S hK gx_ok hw (c_tell2 l (E := E) (σ_4) gt0 0 0 ) cw_X11_257 t_156 cl_5 ⟨Nat.le_of_ble_eq_true rfl, Nat.le_of_ble_eq_true rfl⟩ rfl hl.1 rfl (Nat.le_of_ble_eq_true rfl) ⟨Nat.le_of_ble_eq_true rfl, Nat.le_of_ble_eq_true rfl⟩ dX11_run_80 (fun σ_5 τ_5 H locs hp hw => ?_)
        obtain ⟨es_5, -⟩ := hp
        obtain rfl := es_5.symm
        refine lv_iload hx hb dX11_run_83 (lv_at hl 0 rfl) ?_
        refine gx_cSi (As := [.int 0]) (rest := []) S hK gx_ok hw (c_bitCount0 l (E := E) (up2 (σ_4) 156 1 2) (τ_5) ) cw_X11_261 ⟨Nat.le_of_ble_eq_true rfl, Nat.le_of_ble_eq_true rfl⟩ rfl hl.1 rfl (Nat.le_of_ble_eq_true rfl) ⟨Nat.le_of_ble_eq_true rfl, Nat.le_of_ble_eq_true rfl⟩ dX11_run_85 (fun r_6 σ_6 τ_6 H locs hp hw => ?_)
        obtain ⟨er_6, es_6, et_6⟩ := hp
        obtain rfl := er_6.symm
        obtain rfl := es_6.symm
        obtain rfl := et_6.symm
        exact gx_ri (post := fun r σ1 τ1 => r = (if 0 ≤ n.toInt ∧ n.toInt ≤ 99 then 0 else (-1)) ∧ (∀ c k : Nat, 199 ≤ c → σ1 c k = gs0 c k) ∧ True) (v := 0) S hr hlk hw rfl dX11_run_88 ⟨(by simp only [fa_lt, fa_le, fa_eq, show (0 : Int32).toInt = 0 from rfl, show (99 : Int32).toInt = 99 from rfl] at c_1 c_2 c_3; exact (if_pos (by omega)).symm), (fun c9 k9 h9 => (up2_hi (by omega) h9).trans ((hs_4 c9 k9 (by omega)).trans (rfl))), trivial⟩
      · refine lv_aload_n hx hb dX11_run_16 rfl (lv_at hl 0 rfl) ?_
        refine gx_getr (j := 44) S hK hw t_0 cl_12 9 (by decide) rfl mw_456 rfl dX11_run_17 ?_
        refine lv_aload_n hx hb dX11_run_20 rfl (lv_at hl 0 rfl) ?_
        refine gx_getr (j := 30) S hK hw t_0 cl_12 7 (by decide) rfl mw_454 rfl dX11_run_21 ?_
        refine gx_cVv (As := [.ref (E.2.2 + 30)]) (rest := []) S hK gx_ok hw (c_Past_push l (E := E) gs0 gt0 30 (by first | rfl | decide | simp [up2, gs0]) (by first | rfl | decide | simp [up2, gs0]) (by first | rfl | decide | simp [up2, gs0]) (by first | rfl | decide | simp [up2, gs0]) (by first | rfl | decide | simp [up2, gs0]) (by first | rfl | decide | simp [up2, gs0]) (by first | rfl | decide | simp [up2, gs0]) (by first | rfl | decide | simp [up2, gs0]) (by first | rfl | decide | simp [up2, gs0]) (by first | rfl | decide | simp [up2, gs0])) cw_X11_204 t_44 cl_4 ⟨Nat.le_of_ble_eq_true rfl, Nat.le_of_ble_eq_true rfl⟩ rfl hl.1 rfl (Nat.le_of_ble_eq_true rfl) ⟨Nat.le_of_ble_eq_true rfl, Nat.le_of_ble_eq_true rfl⟩ dX11_run_24 (fun σ_7 τ_7 H locs hp hw => ?_)
        obtain ⟨es_7, et_7⟩ := hp
        obtain rfl := es_7.symm
        obtain rfl := et_7.symm
        refine lv_aload_n hx hb dX11_run_27 rfl (lv_at hl 0 rfl) ?_
        refine gx_getr (j := 30) S hK hw t_0 cl_12 7 (by decide) rfl mw_454 rfl dX11_run_28 ?_
        refine gx_get S hK hw t_30 cl_7 9 (by decide) rfl mw_283 rfl dX11_run_31 ?_
        refine gx_top (v := 0) (by first | rfl | decide | simp [up2, gs0]) ?_
        refine lv_istore_n (lv' := [(2, .int 0), (0, .ref (E.2.2 + 0)), (1, .int n)]) hx hb dX11_run_34 rfl hl (by decide) rfl (fun ls hl => ?_)
        refine lv_aload_n hx hb dX11_run_35 rfl (lv_at hl 1 rfl) ?_
        refine gx_getr (j := 30) S hK hw t_0 cl_12 7 (by decide) rfl mw_454 rfl dX11_run_36 ?_
        refine gx_get S hK hw t_30 cl_7 10 (by decide) rfl mw_286 rfl dX11_run_39 ?_
        refine gx_top (v := 0) (by first | rfl | decide | simp [up2, gs0]) ?_
        refine lv_istore_n (lv' := [(3, .int 0), (2, .int 0), (0, .ref (E.2.2 + 0)), (1, .int n)]) hx hb dX11_run_42 rfl hl (by decide) rfl (fun ls hl => ?_)
        refine lv_aload_n hx hb dX11_run_43 rfl (lv_at hl 2 rfl) ?_
        refine lv_iload_n hx hb dX11_run_44 rfl (lv_at hl 3 rfl) ?_
        refine gx_top (v := nI j) ej ?_
        refine gx_cVv (As := [.int (nI j)]) (rest := []) S hK gx_ok hw (c_passMinutes l (E := E) (up2 (up2 (up2 (up2 (up2 (up2 (up2 (gs0) 46 6 0) 46 7 0) 46 8 0) 46 9 0) 46 10 0) 44 1 1) 44 2 1) gt0 j (by first | rfl | decide | simp [up2, gs0]) (by first | rfl | decide | simp [up2, gs0]) (by first | rfl | decide | simp [up2, gs0]) hj) cw_X11_253 t_0 cl_12 ⟨Nat.le_of_ble_eq_true rfl, Nat.le_of_ble_eq_true rfl⟩ rfl hl.1 rfl (Nat.le_of_ble_eq_true rfl) ⟨Nat.le_of_ble_eq_true rfl, Nat.le_of_ble_eq_true rfl⟩ dX11_run_45 (fun σ_8 τ_8 H locs hp hw => ?_)
        obtain ⟨hs_8, et_8⟩ := hp
        obtain rfl := et_8.symm
        refine lv_aload_n hx hb dX11_run_48 rfl (lv_at hl 2 rfl) ?_
        refine gx_getr (j := 30) S hK hw t_0 cl_12 7 (by decide) rfl mw_454 rfl dX11_run_49 ?_
        refine gx_get S hK hw t_30 cl_7 9 (by decide) rfl mw_283 rfl dX11_run_52 ?_
        refine gx_top (v := 0) (by first | rfl | decide | simp [up2, gs0, hs_8]) ?_
        refine lv_iload_n hx hb dX11_run_55 rfl (lv_at hl 1 rfl) ?_
        refine lv_iconst (v := (-1)) hx hb dX11_run_56 (by decide) ?_
        refine lv_ixor hx hb dX11_run_57 ?_
        refine gx_top (v := (-1)) (by decide) ?_
        refine lv_iand hx hb dX11_run_58 ?_
        refine gx_top (v := 0) (by decide) ?_
        refine lv_istore (lv' := [(4, .int 0), (3, .int 0), (2, .int 0), (0, .ref (E.2.2 + 0)), (1, .int n)]) hx hb dX11_run_59 hl (by decide) rfl (fun ls hl => ?_)
        refine lv_aload_n hx hb dX11_run_61 rfl (lv_at hl 3 rfl) ?_
        refine gx_getr (j := 156) S hK hw t_0 cl_12 13 (by decide) rfl mw_460 rfl dX11_run_62 ?_
        refine lv_iload hx hb dX11_run_65 (lv_at hl 0 rfl) ?_
        refine lv_i2l (v := 0) hx hb dX11_run_67 (by decide) ?_
        refine lv_aload_n hx hb dX11_run_68 rfl (lv_at hl 3 rfl) ?_
        refine gx_getr (j := 30) S hK hw t_0 cl_12 7 (by decide) rfl mw_454 rfl dX11_run_69 ?_
        refine gx_get S hK hw t_30 cl_7 10 (by decide) rfl mw_286 rfl dX11_run_72 ?_
        refine gx_top (v := 0) (by first | rfl | decide | simp [up2, gs0, hs_8]) ?_
        refine lv_iload_n hx hb dX11_run_75 rfl (lv_at hl 1 rfl) ?_
        refine lv_iconst (v := (-1)) hx hb dX11_run_76 (by decide) ?_
        refine lv_ixor hx hb dX11_run_77 ?_
        refine gx_top (v := (-1)) (by decide) ?_
        refine lv_iand hx hb dX11_run_78 ?_
        refine gx_top (v := 0) (by decide) ?_
        refine lv_i2l (v := 0) hx hb dX11_run_79 (by decide) ?_
        refine gx_cVv (As := [.long 0, .long 0]) (rest := []) S hK gx_ok hw (c_tell2 l (E := E) (σ_8) gt0 0 0 ) cw_X11_257 t_156 cl_5 ⟨Nat.le_of_ble_eq_true rfl, Nat.le_of_ble_eq_true rfl⟩ rfl hl.1 rfl (Nat.le_of_ble_eq_true rfl) ⟨Nat.le_of_ble_eq_true rfl, Nat.le_of_ble_eq_true rfl⟩ dX11_run_80 (fun σ_9 τ_9 H locs hp hw => ?_)
        obtain ⟨es_9, -⟩ := hp
        obtain rfl := es_9.symm
        refine lv_iload hx hb dX11_run_83 (lv_at hl 0 rfl) ?_
        refine gx_cSi (As := [.int 0]) (rest := []) S hK gx_ok hw (c_bitCount0 l (E := E) (up2 (σ_8) 156 1 2) (τ_9) ) cw_X11_261 ⟨Nat.le_of_ble_eq_true rfl, Nat.le_of_ble_eq_true rfl⟩ rfl hl.1 rfl (Nat.le_of_ble_eq_true rfl) ⟨Nat.le_of_ble_eq_true rfl, Nat.le_of_ble_eq_true rfl⟩ dX11_run_85 (fun r_10 σ_10 τ_10 H locs hp hw => ?_)
        obtain ⟨er_10, es_10, et_10⟩ := hp
        obtain rfl := er_10.symm
        obtain rfl := es_10.symm
        obtain rfl := et_10.symm
        exact gx_ri (post := fun r σ1 τ1 => r = (if 0 ≤ n.toInt ∧ n.toInt ≤ 99 then 0 else (-1)) ∧ (∀ c k : Nat, 199 ≤ c → σ1 c k = gs0 c k) ∧ True) (v := 0) S hr hlk hw rfl dX11_run_88 ⟨(by simp only [fa_lt, fa_le, fa_eq, show (0 : Int32).toInt = 0 from rfl, show (99 : Int32).toInt = 99 from rfl] at c_1 c_2 c_3; exact (if_pos (by omega)).symm), (fun c9 k9 h9 => (up2_hi (by omega) h9).trans ((hs_8 c9 k9 (by omega)).trans ((up2_hi (by omega) h9).trans ((up2_hi (by omega) h9).trans ((up2_hi (by omega) h9).trans ((up2_hi (by omega) h9).trans ((up2_hi (by omega) h9).trans ((up2_hi (by omega) h9).trans ((up2_hi (by omega) h9).trans (rfl)))))))))), trivial⟩
    · refine lv_iconst (v := (-1)) hx hb dX11_run_10 (by decide) ?_
      exact gx_ri (post := fun r σ1 τ1 => r = (if 0 ≤ n.toInt ∧ n.toInt ≤ 99 then 0 else (-1)) ∧ (∀ c k : Nat, 199 ≤ c → σ1 c k = gs0 c k) ∧ True) (v := (-1)) S hr hlk hw rfl dX11_run_11 ⟨(by simp only [fa_lt, fa_le, fa_eq, show (0 : Int32).toInt = 0 from rfl, show (99 : Int32).toInt = 99 from rfl] at c_1 c_2; exact ((if_neg (by omega)).trans (rfl)).symm), (fun c9 k9 h9 => rfl), trivial⟩
set_option maxHeartbeats 4000000 in
set_option maxRecDepth 100000 in
theorem c_x_day (l : Launch) {E : gE}   : gx_Mi l yX11_day cX11_day 7 (some .int) 3 gx_tb E gs0 gt0 [.ref (E.2.2 + 0)] (fun r σ1 τ1 => r = 0 ∧ (∀ c k : Nat, 199 ≤ c → σ1 c k = gs0 c k) ∧ True) := by
  refine gx_bi (by decide +kernel) (Nat.le_of_ble_eq_true rfl) ?_
  intro P9 e9 s m9 below meth C9 S hr hlk hK hw ls hl
  have S : CallFix P9 m9 C9 cX11_day 7 s _ gx_G RX11 := S
  have hx := S.1
  have hb := S.2.1
  have hl : lv_has ls 7 [(0, .ref (E.2.2 + 0))] := hl
  refine lv_aload_n hx hb dX11_day_0 rfl (lv_at hl 0 rfl) ?_
  refine gx_getr (j := 25) S hK hw t_0 cl_12 6 (by decide) rfl mw_453 rfl dX11_day_1 ?_
  refine lv_aload_n hx hb dX11_day_4 rfl (lv_at hl 0 rfl) ?_
  refine gx_getr (j := 1) S hK hw t_0 cl_12 0 (by decide) rfl mw_447 rfl dX11_day_5 ?_
  refine gx_cVi (As := [.ref (E.2.2 + 1)]) (rest := []) S hK gx_ok hw (c_Diary_read l (E := E) gs0 gt0 (by first | rfl | decide | simp [up2, gs0])) cw_X11_269 t_25 cl_3 ⟨Nat.le_of_ble_eq_true rfl, Nat.le_of_ble_eq_true rfl⟩ rfl hl.1 rfl (Nat.le_of_ble_eq_true rfl) ⟨Nat.le_of_ble_eq_true rfl, Nat.le_of_ble_eq_true rfl⟩ dX11_day_8 (fun r_1 σ_1 τ_1 H locs hp hw => ?_)
  obtain ⟨er_1, hs_1, et_1⟩ := hp
  obtain rfl := er_1.symm
  obtain rfl := et_1.symm
  refine lv_istore_n (lv' := [(1, .int 0), (0, .ref (E.2.2 + 0))]) hx hb dX11_day_11 rfl hl (by decide) rfl (fun ls hl => ?_)
  refine lv_aload_n hx hb dX11_day_12 rfl (lv_at hl 1 rfl) ?_
  refine gx_getr (j := 1) S hK hw t_0 cl_12 0 (by decide) rfl mw_447 rfl dX11_day_13 ?_
  refine lv_iconst (v := 0) hx hb dX11_day_16 (by decide) ?_
  refine gx_cVi (As := [.int 0]) (rest := []) S hK gx_ok hw (c_cut0 l (E := E) (σ_1) gt0 (by first | rfl | decide | simp [up2, gs0, hs_1])) cw_X11_111 t_1 cl_8 ⟨Nat.le_of_ble_eq_true rfl, Nat.le_of_ble_eq_true rfl⟩ rfl hl.1 rfl (Nat.le_of_ble_eq_true rfl) ⟨Nat.le_of_ble_eq_true rfl, Nat.le_of_ble_eq_true rfl⟩ dX11_day_17 (fun r_2 σ_2 τ_2 H locs hp hw => ?_)
  obtain ⟨er_2, es_2, et_2⟩ := hp
  obtain rfl := er_2.symm
  obtain rfl := es_2.symm
  obtain rfl := et_2.symm
  refine lv_pop hx hb dX11_day_20 rfl ?_
  refine lv_iload_n hx hb dX11_day_21 rfl (lv_at hl 0 rfl) ?_
  refine lv_if_ge (tgt := 27) hx hb dX11_day_22 (by decide) (fun _ => ?_) (fun h => absurd (by decide) h)
  refine lv_aload_n hx hb dX11_day_27 rfl (lv_at hl 1 rfl) ?_
  refine gx_getr (j := 37) S hK hw t_0 cl_12 8 (by decide) rfl mw_455 rfl dX11_day_28 ?_
  refine lv_aload_n hx hb dX11_day_31 rfl (lv_at hl 1 rfl) ?_
  refine gx_getr (j := 30) S hK hw t_0 cl_12 7 (by decide) rfl mw_454 rfl dX11_day_32 ?_
  refine gx_cVv (As := [.ref (E.2.2 + 30)]) (rest := []) S hK gx_ok hw (c_Scene_copy l (E := E) (up2 (σ_1) 1 2 0) gt0 37 30 (by first | rfl | decide | simp [up2, gs0, hs_1]) (by first | rfl | decide | simp [up2, gs0, hs_1]) (by first | rfl | decide | simp [up2, gs0, hs_1]) (by first | rfl | decide | simp [up2, gs0, hs_1]) (by first | rfl | decide | simp [up2, gs0, hs_1]) (by first | rfl | decide | simp [up2, gs0, hs_1]) (by first | rfl | decide | simp [up2, gs0, hs_1]) (by first | rfl | decide | simp [up2, gs0, hs_1]) (by first | rfl | decide | simp [up2, gs0, hs_1])) cw_X11_270 t_37 cl_7 ⟨Nat.le_of_ble_eq_true rfl, Nat.le_of_ble_eq_true rfl⟩ rfl hl.1 rfl (Nat.le_of_ble_eq_true rfl) ⟨Nat.le_of_ble_eq_true rfl, Nat.le_of_ble_eq_true rfl⟩ dX11_day_35 (fun σ_3 τ_3 H locs hp hw => ?_)
  obtain ⟨es_3, et_3⟩ := hp
  obtain rfl := es_3.symm
  obtain rfl := et_3.symm
  refine lv_iconst (v := 0) hx hb dX11_day_38 (by decide) ?_
  refine lv_istore_n (lv' := [(2, .int 0), (1, .int 0), (0, .ref (E.2.2 + 0))]) hx hb dX11_day_39 rfl hl (by decide) rfl (fun ls hl => ?_)
  refine lv_iconst (v := 0) hx hb dX11_day_40 (by decide) ?_
  refine lv_istore_n (lv' := [(3, .int 0), (2, .int 0), (1, .int 0), (0, .ref (E.2.2 + 0))]) hx hb dX11_day_41 rfl hl (by decide) rfl (fun ls hl => ?_)
  refine lv_iconst (v := 1) hx hb dX11_day_42 (by decide) ?_
  refine lv_istore (lv' := [(4, .int 1), (3, .int 0), (2, .int 0), (1, .int 0), (0, .ref (E.2.2 + 0))]) hx hb dX11_day_43 hl (by decide) rfl (fun ls hl => ?_)
  refine lv_iconst (v := 0) hx hb dX11_day_45 (by decide) ?_
  refine lv_istore (lv' := [(5, .int 0), (4, .int 1), (3, .int 0), (2, .int 0), (1, .int 0), (0, .ref (E.2.2 + 0))]) hx hb dX11_day_46 hl (by decide) rfl (fun ls hl => ?_)
  refine lv_iload hx hb dX11_day_48 (lv_at hl 0 rfl) ?_
  refine lv_iload_n hx hb dX11_day_50 rfl (lv_at hl 4 rfl) ?_
  refine lv_icmp_ge (tgt := 98) hx hb dX11_day_51 (by decide) (fun _ => ?_) (fun h => absurd (by decide) h)
  refine lv_iload_n hx hb dX11_day_98 rfl (lv_at hl 3 rfl) ?_
  refine lv_if_le (tgt := 113) hx hb dX11_day_99 (by decide) (fun _ => ?_) (fun h => absurd (by decide) h)
  refine lv_aload_n hx hb dX11_day_113 rfl (lv_at hl 5 rfl) ?_
  refine gx_getr (j := 156) S hK hw t_0 cl_12 13 (by decide) rfl mw_460 rfl dX11_day_114 ?_
  refine lv_iload hx hb dX11_day_117 (lv_at hl 1 rfl) ?_
  refine lv_if_eq (tgt := 126) hx hb dX11_day_119 (by decide) (fun h => absurd h (by decide)) (fun _ => ?_)
  refine lv_lconst (v := 0) hx hb dX11_day_122 (by decide) ?_
  refine lv_goto (tgt := 127) hx hb dX11_day_123 (by decide) ?_
  refine lv_iload_n hx hb dX11_day_127 rfl (lv_at hl 2 rfl) ?_
  refine lv_i2l (v := 0) hx hb dX11_day_128 (by decide) ?_
  refine gx_cVv (As := [.long 0, .long 0]) (rest := []) S hK gx_ok hw (c_tell2 l (E := E) (up2 (up2 (up2 (up2 (up2 ((up2 (σ_1) 1 2 0)) 37 6 0) 37 7 0) 37 8 0) 37 9 0) 37 10 0) gt0 0 0 ) cw_X11_257 t_156 cl_5 ⟨Nat.le_of_ble_eq_true rfl, Nat.le_of_ble_eq_true rfl⟩ rfl hl.1 rfl (Nat.le_of_ble_eq_true rfl) ⟨Nat.le_of_ble_eq_true rfl, Nat.le_of_ble_eq_true rfl⟩ dX11_day_129 (fun σ_4 τ_4 H locs hp hw => ?_)
  obtain ⟨es_4, -⟩ := hp
  obtain rfl := es_4.symm
  refine lv_iload_n hx hb dX11_day_132 rfl (lv_at hl 3 rfl) ?_
  exact gx_ri (post := fun r σ1 τ1 => r = 0 ∧ (∀ c k : Nat, 199 ≤ c → σ1 c k = gs0 c k) ∧ True) (v := 0) S hr hlk hw rfl dX11_day_133 ⟨rfl, (fun c9 k9 h9 => (up2_hi (by omega) h9).trans ((up2_hi (by omega) h9).trans ((up2_hi (by omega) h9).trans ((up2_hi (by omega) h9).trans ((up2_hi (by omega) h9).trans ((up2_hi (by omega) h9).trans ((up2_hi (by omega) h9).trans ((hs_1 c9 k9 (by omega) (by omega)).trans (rfl))))))))), trivial⟩
set_option maxHeartbeats 4000000 in
set_option maxRecDepth 100000 in
theorem c_x_undo (l : Launch) {E : gE}   : gx_Mi l yX11_undo cX11_undo 1 (some .int) 1 gx_tb E gs0 gt0 [.ref (E.2.2 + 0)] (fun r σ1 τ1 => r = (-1) ∧ (∀ c k : Nat, 199 ≤ c → σ1 c k = gs0 c k) ∧ True) := by
  refine gx_bi (by decide +kernel) (Nat.le_of_ble_eq_true rfl) ?_
  intro P9 e9 s m9 below meth C9 S hr hlk hK hw ls hl
  have S : CallFix P9 m9 C9 cX11_undo 1 s _ gx_G RX11 := S
  have hx := S.1
  have hb := S.2.1
  have hl : lv_has ls 1 [(0, .ref (E.2.2 + 0))] := hl
  refine lv_aload_n hx hb dX11_undo_0 rfl (lv_at hl 0 rfl) ?_
  refine gx_getr (j := 44) S hK hw t_0 cl_12 9 (by decide) rfl mw_456 rfl dX11_undo_1 ?_
  refine lv_aload_n hx hb dX11_undo_4 rfl (lv_at hl 0 rfl) ?_
  refine gx_getr (j := 30) S hK hw t_0 cl_12 7 (by decide) rfl mw_454 rfl dX11_undo_5 ?_
  refine gx_cVi (As := [.ref (E.2.2 + 30)]) (rest := []) S hK gx_ok hw (c_Past_pop l (E := E) gs0 gt0 (by first | rfl | decide | simp [up2, gs0]) (by first | rfl | decide | simp [up2, gs0])) cw_X11_283 t_44 cl_4 ⟨Nat.le_of_ble_eq_true rfl, Nat.le_of_ble_eq_true rfl⟩ rfl hl.1 rfl (Nat.le_of_ble_eq_true rfl) ⟨Nat.le_of_ble_eq_true rfl, Nat.le_of_ble_eq_true rfl⟩ dX11_undo_8 (fun r_1 σ_1 τ_1 H locs hp hw => ?_)
  obtain ⟨er_1, es_1, et_1⟩ := hp
  obtain rfl := er_1.symm
  obtain rfl := es_1.symm
  obtain rfl := et_1.symm
  refine lv_if_eq (tgt := 24) hx hb dX11_undo_11 (by decide) (fun _ => ?_) (fun h => absurd (by decide) h)
  refine lv_iconst (v := (-1)) hx hb dX11_undo_24 (by decide) ?_
  exact gx_ri (post := fun r σ1 τ1 => r = (-1) ∧ (∀ c k : Nat, 199 ≤ c → σ1 c k = gs0 c k) ∧ True) (v := (-1)) S hr hlk hw rfl dX11_undo_25 ⟨rfl, (fun c9 k9 h9 => rfl), trivial⟩
set_option maxHeartbeats 4000000 in
set_option maxRecDepth 100000 in
theorem c_x_where (l : Launch) {E : gE} (i n : Int32)  : gx_Mi l yX11_where cX11_where 4 (some .int) 1 gx_tb E gs0 gt0 [.ref (E.2.2 + 0), .int i, .int n] (fun r σ1 τ1 => r = (-1) ∧ (∀ c k : Nat, 199 ≤ c → σ1 c k = gs0 c k) ∧ True) := by
  refine gx_bi (by decide +kernel) (Nat.le_of_ble_eq_true rfl) ?_
  intro P9 e9 s m9 below meth C9 S hr hlk hK hw ls hl
  have S : CallFix P9 m9 C9 cX11_where 4 s _ gx_G RX11 := S
  have hx := S.1
  have hb := S.2.1
  have hl : lv_has ls 4 [(0, .ref (E.2.2 + 0)), (1, .int i), (2, .int n)] := hl
  refine lv_aload_n hx hb dX11_where_0 rfl (lv_at hl 0 rfl) ?_
  refine gx_getr (j := 30) S hK hw t_0 cl_12 7 (by decide) rfl mw_454 rfl dX11_where_1 ?_
  refine lv_iload_n hx hb dX11_where_4 rfl (lv_at hl 1 rfl) ?_
  refine gx_cVi (As := [.int i]) (rest := []) S hK gx_ok hw (c_Scene_has l (E := E) gs0 gt0 30 i (by first | rfl | decide | simp [up2, gs0]) (by first | rfl | decide | simp [up2, gs0])) cw_X11_172 t_30 cl_7 ⟨Nat.le_of_ble_eq_true rfl, Nat.le_of_ble_eq_true rfl⟩ rfl hl.1 rfl (Nat.le_of_ble_eq_true rfl) ⟨Nat.le_of_ble_eq_true rfl, Nat.le_of_ble_eq_true rfl⟩ dX11_where_5 (fun r_1 σ_1 τ_1 H locs hp hw => ?_)
  obtain ⟨er_1, es_1, et_1⟩ := hp
  obtain rfl := er_1.symm
  obtain rfl := es_1.symm
  obtain rfl := et_1.symm
  refine lv_if_eq (tgt := 18) hx hb dX11_where_8 (by decide) (fun _ => ?_) (fun h => absurd (by decide) h)
  refine lv_iconst (v := (-1)) hx hb dX11_where_18 (by decide) ?_
  exact gx_ri (post := fun r σ1 τ1 => r = (-1) ∧ (∀ c k : Nat, 199 ≤ c → σ1 c k = gs0 c k) ∧ True) (v := (-1)) S hr hlk hw rfl dX11_where_19 ⟨rfl, (fun c9 k9 h9 => rfl), trivial⟩
set_option maxHeartbeats 4000000 in
set_option maxRecDepth 100000 in
theorem c_x_comes (l : Launch) {E : gE} (i : Int32)  : gx_Mi l yX11_comes cX11_comes 5 (some .int) 1 gx_tb E gs0 gt0 [.ref (E.2.2 + 0), .int i] (fun r σ1 τ1 => r = (-1) ∧ (∀ c k : Nat, 199 ≤ c → σ1 c k = gs0 c k) ∧ True) := by
  refine gx_bi (by decide +kernel) (Nat.le_of_ble_eq_true rfl) ?_
  intro P9 e9 s m9 below meth C9 S hr hlk hK hw ls hl
  have S : CallFix P9 m9 C9 cX11_comes 5 s _ gx_G RX11 := S
  have hx := S.1
  have hb := S.2.1
  have hl : lv_has ls 5 [(0, .ref (E.2.2 + 0)), (1, .int i)] := hl
  refine lv_aload_n hx hb dX11_comes_0 rfl (lv_at hl 0 rfl) ?_
  refine gx_getr (j := 30) S hK hw t_0 cl_12 7 (by decide) rfl mw_454 rfl dX11_comes_1 ?_
  refine lv_iload_n hx hb dX11_comes_4 rfl (lv_at hl 1 rfl) ?_
  refine gx_cVi (As := [.int i]) (rest := []) S hK gx_ok hw (c_Scene_has l (E := E) gs0 gt0 30 i (by first | rfl | decide | simp [up2, gs0]) (by first | rfl | decide | simp [up2, gs0])) cw_X11_172 t_30 cl_7 ⟨Nat.le_of_ble_eq_true rfl, Nat.le_of_ble_eq_true rfl⟩ rfl hl.1 rfl (Nat.le_of_ble_eq_true rfl) ⟨Nat.le_of_ble_eq_true rfl, Nat.le_of_ble_eq_true rfl⟩ dX11_comes_5 (fun r_1 σ_1 τ_1 H locs hp hw => ?_)
  obtain ⟨er_1, es_1, et_1⟩ := hp
  obtain rfl := er_1.symm
  obtain rfl := es_1.symm
  obtain rfl := et_1.symm
  refine lv_if_ne (tgt := 13) hx hb dX11_comes_8 (by decide) (fun h => absurd (by decide) h) (fun _ => ?_)
  refine lv_iconst (v := (-1)) hx hb dX11_comes_11 (by decide) ?_
  exact gx_ri (post := fun r σ1 τ1 => r = (-1) ∧ (∀ c k : Nat, 199 ≤ c → σ1 c k = gs0 c k) ∧ True) (v := (-1)) S hr hlk hw rfl dX11_comes_12 ⟨rfl, (fun c9 k9 h9 => rfl), trivial⟩
set_option maxHeartbeats 4000000 in
set_option maxRecDepth 100000 in
theorem c_x_lost (l : Launch) {E : gE} (n : Int32)  : gx_Mi l yX11_lost cX11_lost 6 (some .int) 1 gx_tb E gs0 gt0 [.ref (E.2.2 + 0), .int n] (fun r σ1 τ1 => r = (if 0 ≤ n.toInt ∧ n.toInt ≤ 300 then (-2) else (-1)) ∧ (∀ c k : Nat, 199 ≤ c → σ1 c k = gs0 c k) ∧ True) := by
  refine gx_bi (by decide +kernel) (Nat.le_of_ble_eq_true rfl) ?_
  intro P9 e9 s m9 below meth C9 S hr hlk hK hw ls hl
  have S : CallFix P9 m9 C9 cX11_lost 6 s _ gx_G RX11 := S
  have hx := S.1
  have hb := S.2.1
  have hl : lv_has ls 6 [(0, .ref (E.2.2 + 0)), (1, .int n)] := hl
  refine lv_iload_n hx hb dX11_lost_0 rfl (lv_at hl 1 rfl) ?_
  refine gx_cSi (As := [.int n]) (rest := []) S hK gx_ok hw (c_isAhead l (E := E) gs0 gt0 n ) cw_X11_290 ⟨Nat.le_of_ble_eq_true rfl, Nat.le_of_ble_eq_true rfl⟩ rfl hl.1 rfl (Nat.le_of_ble_eq_true rfl) ⟨Nat.le_of_ble_eq_true rfl, Nat.le_of_ble_eq_true rfl⟩ dX11_lost_1 (fun r_1 σ_1 τ_1 H locs hp hw => ?_)
  obtain ⟨er_1, es_1, et_1⟩ := hp
  obtain rfl := er_1.symm
  obtain rfl := es_1.symm
  obtain rfl := et_1.symm
  by_cases c_2 : 0 ≤ n.toInt ∧ n.toInt ≤ 300
  · refine gx_top (v := 1) (if_pos c_2) ?_
    refine lv_if_ne (tgt := 9) hx hb dX11_lost_4 (by decide) (fun _ => ?_) (fun h => absurd h (by decide))
    refine lv_aload_n hx hb dX11_lost_9 rfl (lv_at hl 0 rfl) ?_
    refine gx_getr (j := 160) S hK hw t_0 cl_12 15 (by decide) rfl mw_462 rfl dX11_lost_10 ?_
    refine gx_getr (j := 171) S hK hw t_160 cl_10 8 (by decide) rfl mw_426 rfl dX11_lost_13 ?_
    refine lv_astore_n (lv' := [(2, .ref (E.2.2 + 171)), (0, .ref (E.2.2 + 0)), (1, .int n)]) hx hb dX11_lost_16 rfl hl (by decide) rfl (fun ls hl => ?_)
    refine lv_aload_n hx hb dX11_lost_17 rfl (lv_at hl 0 rfl) ?_
    refine lv_aload_n hx hb dX11_lost_18 rfl (lv_at hl 1 rfl) ?_
    refine gx_getr (j := 30) S hK hw t_0 cl_12 7 (by decide) rfl mw_454 rfl dX11_lost_19 ?_
    refine gx_cVv (As := [.ref (E.2.2 + 30)]) (rest := []) S hK gx_ok hw (c_Scene_copy l (E := E) gs0 gt0 171 30 (by first | rfl | decide | simp [up2, gs0]) (by first | rfl | decide | simp [up2, gs0]) (by first | rfl | decide | simp [up2, gs0]) (by first | rfl | decide | simp [up2, gs0]) (by first | rfl | decide | simp [up2, gs0]) (by first | rfl | decide | simp [up2, gs0]) (by first | rfl | decide | simp [up2, gs0]) (by first | rfl | decide | simp [up2, gs0]) (by first | rfl | decide | simp [up2, gs0])) cw_X11_270 t_171 cl_7 ⟨Nat.le_of_ble_eq_true rfl, Nat.le_of_ble_eq_true rfl⟩ rfl hl.1 rfl (Nat.le_of_ble_eq_true rfl) ⟨Nat.le_of_ble_eq_true rfl, Nat.le_of_ble_eq_true rfl⟩ dX11_lost_22 (fun σ_3 τ_3 H locs hp hw => ?_)
    obtain ⟨es_3, et_3⟩ := hp
    obtain rfl := es_3.symm
    obtain rfl := et_3.symm
    refine lv_iconst (v := 1) hx hb dX11_lost_25 (by decide) ?_
    refine lv_istore_n (lv' := [(3, .int 1), (2, .ref (E.2.2 + 171)), (0, .ref (E.2.2 + 0)), (1, .int n)]) hx hb dX11_lost_26 rfl hl (by decide) rfl (fun ls hl => ?_)
    refine lv_iload_n hx hb dX11_lost_27 rfl (lv_at hl 0 rfl) ?_
    refine lv_iload_n hx hb dX11_lost_28 rfl (lv_at hl 3 rfl) ?_
    refine lv_icmp_gt (tgt := 100) hx hb dX11_lost_29 (by decide) (fun c_4 => ?_) (fun c_4 => ?_)
    · refine lv_bipush (v := (-2)) hx hb dX11_lost_100 (by decide) ?_
      exact gx_ri (post := fun r σ1 τ1 => r = (if 0 ≤ n.toInt ∧ n.toInt ≤ 300 then (-2) else (-1)) ∧ (∀ c k : Nat, 199 ≤ c → σ1 c k = gs0 c k) ∧ True) (v := (-2)) S hr hlk hw rfl dX11_lost_102 ⟨(by simp only [fa_lt, fa_le, fa_eq, show (1 : Int32).toInt = 1 from rfl] at c_4; exact (if_pos (by omega)).symm), (fun c9 k9 h9 => (up2_hi (by omega) h9).trans ((up2_hi (by omega) h9).trans ((up2_hi (by omega) h9).trans ((up2_hi (by omega) h9).trans ((up2_hi (by omega) h9).trans (rfl)))))), trivial⟩
    · refine lv_aload_n hx hb dX11_lost_32 rfl (lv_at hl 1 rfl) ?_
      refine gx_cVi (As := []) (rest := []) S hK gx_ok hw (c_Scene_onWay l (E := E) (up2 (up2 (up2 (up2 (up2 (gs0) 171 6 0) 171 7 0) 171 8 0) 171 9 0) 171 10 0) gt0 171 (by first | rfl | decide | simp [up2, gs0]) (by first | rfl | decide | simp [up2, gs0]) (by first | rfl | decide | simp [up2, gs0]) (by first | rfl | decide | simp [up2, gs0])) cw_X11_166 t_171 cl_7 ⟨Nat.le_of_ble_eq_true rfl, Nat.le_of_ble_eq_true rfl⟩ rfl hl.1 rfl (Nat.le_of_ble_eq_true rfl) ⟨Nat.le_of_ble_eq_true rfl, Nat.le_of_ble_eq_true rfl⟩ dX11_lost_33 (fun r_5 σ_5 τ_5 H locs hp hw => ?_)
      obtain ⟨er_5, es_5, et_5⟩ := hp
      obtain rfl := er_5.symm
      obtain rfl := es_5.symm
      obtain rfl := et_5.symm
      refine lv_if_eq (tgt := 100) hx hb dX11_lost_36 (by decide) (fun _ => ?_) (fun h => absurd (by decide) h)
      refine lv_bipush (v := (-2)) hx hb dX11_lost_100 (by decide) ?_
      exact gx_ri (post := fun r σ1 τ1 => r = (if 0 ≤ n.toInt ∧ n.toInt ≤ 300 then (-2) else (-1)) ∧ (∀ c k : Nat, 199 ≤ c → σ1 c k = gs0 c k) ∧ True) (v := (-2)) S hr hlk hw rfl dX11_lost_102 ⟨(by simp only [fa_lt, fa_le, fa_eq, show (1 : Int32).toInt = 1 from rfl] at c_4; exact (if_pos (by omega)).symm), (fun c9 k9 h9 => (up2_hi (by omega) h9).trans ((up2_hi (by omega) h9).trans ((up2_hi (by omega) h9).trans ((up2_hi (by omega) h9).trans ((up2_hi (by omega) h9).trans (rfl)))))), trivial⟩
  · refine gx_top (v := 0) ((if_neg c_2).trans (rfl)) ?_
    refine lv_if_ne (tgt := 9) hx hb dX11_lost_4 (by decide) (fun h => absurd (by decide) h) (fun _ => ?_)
    refine lv_iconst (v := (-1)) hx hb dX11_lost_7 (by decide) ?_
    exact gx_ri (post := fun r σ1 τ1 => r = (if 0 ≤ n.toInt ∧ n.toInt ≤ 300 then (-2) else (-1)) ∧ (∀ c k : Nat, 199 ≤ c → σ1 c k = gs0 c k) ∧ True) (v := (-1)) S hr hlk hw rfl dX11_lost_8 ⟨(by exact ((if_neg (by omega)).trans (rfl)).symm), (fun c9 k9 h9 => rfl), trivial⟩
set_option maxHeartbeats 4000000 in
set_option maxRecDepth 100000 in
theorem c_x_homes (l : Launch) {E : gE} (n : Int32)  : gx_Mi l yX11_homes cX11_homes 2 (some .int) 2 gx_tb E gs0 gt0 [.ref (E.2.2 + 0), .int n] (fun r σ1 τ1 => r = (if 0 ≤ n.toInt ∧ n.toInt ≤ 300 then 0 else (-1)) ∧ (∀ c k : Nat, 199 ≤ c → σ1 c k = gs0 c k) ∧ True) := by
  refine gx_bi (by decide +kernel) (Nat.le_of_ble_eq_true rfl) ?_
  intro P9 e9 s m9 below meth C9 S hr hlk hK hw ls hl
  have S : CallFix P9 m9 C9 cX11_homes 2 s _ gx_G RX11 := S
  have hx := S.1
  have hb := S.2.1
  have hl : lv_has ls 2 [(0, .ref (E.2.2 + 0)), (1, .int n)] := hl
  refine lv_iload_n hx hb dX11_homes_0 rfl (lv_at hl 1 rfl) ?_
  refine gx_cSi (As := [.int n]) (rest := []) S hK gx_ok hw (c_isAhead l (E := E) gs0 gt0 n ) cw_X11_290 ⟨Nat.le_of_ble_eq_true rfl, Nat.le_of_ble_eq_true rfl⟩ rfl hl.1 rfl (Nat.le_of_ble_eq_true rfl) ⟨Nat.le_of_ble_eq_true rfl, Nat.le_of_ble_eq_true rfl⟩ dX11_homes_1 (fun r_1 σ_1 τ_1 H locs hp hw => ?_)
  obtain ⟨er_1, es_1, et_1⟩ := hp
  obtain rfl := er_1.symm
  obtain rfl := es_1.symm
  obtain rfl := et_1.symm
  by_cases c_2 : 0 ≤ n.toInt ∧ n.toInt ≤ 300
  · refine gx_top (v := 1) (if_pos c_2) ?_
    refine lv_if_ne (tgt := 9) hx hb dX11_homes_4 (by decide) (fun _ => ?_) (fun h => absurd h (by decide))
    refine lv_aload_n hx hb dX11_homes_9 rfl (lv_at hl 0 rfl) ?_
    refine gx_getr (j := 160) S hK hw t_0 cl_12 15 (by decide) rfl mw_462 rfl dX11_homes_10 ?_
    refine lv_aload_n hx hb dX11_homes_13 rfl (lv_at hl 0 rfl) ?_
    refine gx_getr (j := 30) S hK hw t_0 cl_12 7 (by decide) rfl mw_454 rfl dX11_homes_14 ?_
    refine lv_iload_n hx hb dX11_homes_17 rfl (lv_at hl 1 rfl) ?_
    refine gx_cVv (As := [.ref (E.2.2 + 30), .int n]) (rest := []) S hK gx_ok hw (c_goOn l (E := E) gs0 gt0 n (by first | rfl | decide | simp [up2, gs0]) (by first | rfl | decide | simp [up2, gs0]) (by first | rfl | decide | simp [up2, gs0]) (by first | rfl | decide | simp [up2, gs0]) (by first | rfl | decide | simp [up2, gs0])) cw_X11_293 t_160 cl_10 ⟨Nat.le_of_ble_eq_true rfl, Nat.le_of_ble_eq_true rfl⟩ rfl hl.1 rfl (Nat.le_of_ble_eq_true rfl) ⟨Nat.le_of_ble_eq_true rfl, Nat.le_of_ble_eq_true rfl⟩ dX11_homes_18 (fun σ_3 τ_3 H locs hp hw => ?_)
    obtain ⟨es_3, et_3⟩ := hp
    obtain rfl := es_3.symm
    obtain rfl := et_3.symm
    refine lv_aload_n hx hb dX11_homes_21 rfl (lv_at hl 0 rfl) ?_
    refine gx_getr (j := 156) S hK hw t_0 cl_12 13 (by decide) rfl mw_460 rfl dX11_homes_22 ?_
    refine lv_aload_n hx hb dX11_homes_25 rfl (lv_at hl 0 rfl) ?_
    refine gx_getr (j := 160) S hK hw t_0 cl_12 15 (by decide) rfl mw_462 rfl dX11_homes_26 ?_
    refine gx_getr (j := 171) S hK hw t_160 cl_10 8 (by decide) rfl mw_426 rfl dX11_homes_29 ?_
    refine gx_get S hK hw t_171 cl_7 10 (by decide) rfl mw_286 rfl dX11_homes_32 ?_
    refine gx_top (v := 0) (by first | rfl | decide | simp [up2, gs0]) ?_
    refine lv_i2l (v := 0) hx hb dX11_homes_35 (by decide) ?_
    refine lv_aload_n hx hb dX11_homes_36 rfl (lv_at hl 0 rfl) ?_
    refine gx_getr (j := 160) S hK hw t_0 cl_12 15 (by decide) rfl mw_462 rfl dX11_homes_37 ?_
    refine gx_getr (j := 171) S hK hw t_160 cl_10 8 (by decide) rfl mw_426 rfl dX11_homes_40 ?_
    refine gx_cVi (As := []) (rest := [.long 0, .ref (E.2.2 + 156)]) S hK gx_ok hw (c_Scene_onWay l (E := E) (up2 (up2 (up2 (up2 (up2 (gs0) 171 6 0) 171 7 0) 171 8 0) 171 9 0) 171 10 0) gt0 171 (by first | rfl | decide | simp [up2, gs0]) (by first | rfl | decide | simp [up2, gs0]) (by first | rfl | decide | simp [up2, gs0]) (by first | rfl | decide | simp [up2, gs0])) cw_X11_166 t_171 cl_7 ⟨Nat.le_of_ble_eq_true rfl, Nat.le_of_ble_eq_true rfl⟩ rfl hl.1 rfl (Nat.le_of_ble_eq_true rfl) ⟨Nat.le_of_ble_eq_true rfl, Nat.le_of_ble_eq_true rfl⟩ dX11_homes_43 (fun r_4 σ_4 τ_4 H locs hp hw => ?_)
    obtain ⟨er_4, es_4, et_4⟩ := hp
    obtain rfl := er_4.symm
    obtain rfl := es_4.symm
    obtain rfl := et_4.symm
    refine lv_i2l (v := 0) hx hb dX11_homes_46 (by decide) ?_
    refine gx_cVv (As := [.long 0, .long 0]) (rest := []) S hK gx_ok hw (c_tell2 l (E := E) (up2 (up2 (up2 (up2 (up2 (gs0) 171 6 0) 171 7 0) 171 8 0) 171 9 0) 171 10 0) gt0 0 0 ) cw_X11_257 t_156 cl_5 ⟨Nat.le_of_ble_eq_true rfl, Nat.le_of_ble_eq_true rfl⟩ rfl hl.1 rfl (Nat.le_of_ble_eq_true rfl) ⟨Nat.le_of_ble_eq_true rfl, Nat.le_of_ble_eq_true rfl⟩ dX11_homes_47 (fun σ_5 τ_5 H locs hp hw => ?_)
    obtain ⟨es_5, -⟩ := hp
    obtain rfl := es_5.symm
    refine lv_aload_n hx hb dX11_homes_50 rfl (lv_at hl 0 rfl) ?_
    refine gx_getr (j := 160) S hK hw t_0 cl_12 15 (by decide) rfl mw_462 rfl dX11_homes_51 ?_
    refine gx_getr (j := 171) S hK hw t_160 cl_10 8 (by decide) rfl mw_426 rfl dX11_homes_54 ?_
    refine gx_get S hK hw t_171 cl_7 9 (by decide) rfl mw_283 rfl dX11_homes_57 ?_
    refine gx_top (v := 0) (by first | rfl | decide | simp [up2, gs0]) ?_
    exact gx_ri (post := fun r σ1 τ1 => r = (if 0 ≤ n.toInt ∧ n.toInt ≤ 300 then 0 else (-1)) ∧ (∀ c k : Nat, 199 ≤ c → σ1 c k = gs0 c k) ∧ True) (v := 0) S hr hlk hw rfl dX11_homes_60 ⟨(by exact (if_pos (by omega)).symm), (fun c9 k9 h9 => (up2_hi (by omega) h9).trans ((up2_hi (by omega) h9).trans ((up2_hi (by omega) h9).trans ((up2_hi (by omega) h9).trans ((up2_hi (by omega) h9).trans ((up2_hi (by omega) h9).trans (rfl))))))), trivial⟩
  · refine gx_top (v := 0) ((if_neg c_2).trans (rfl)) ?_
    refine lv_if_ne (tgt := 9) hx hb dX11_homes_4 (by decide) (fun h => absurd (by decide) h) (fun _ => ?_)
    refine lv_iconst (v := (-1)) hx hb dX11_homes_7 (by decide) ?_
    exact gx_ri (post := fun r σ1 τ1 => r = (if 0 ≤ n.toInt ∧ n.toInt ≤ 300 then 0 else (-1)) ∧ (∀ c k : Nat, 199 ≤ c → σ1 c k = gs0 c k) ∧ True) (v := (-1)) S hr hlk hw rfl dX11_homes_8 ⟨(by exact ((if_neg (by omega)).trans (rfl)).symm), (fun c9 k9 h9 => rfl), trivial⟩
set_option maxHeartbeats 4000000 in
set_option maxRecDepth 100000 in
theorem c_x_sail (l : Launch) {E : gE} (p b n w t : Int32)  : gx_Mi l yX11_sail cX11_sail 7 (some .int) 1 gx_tb E gs0 gt0 [.ref (E.2.2 + 0), .int p, .int b, .int n, .int w, .int t] (fun r σ1 τ1 => r = (-1) ∧ (∀ c k : Nat, 199 ≤ c → σ1 c k = gs0 c k) ∧ True) := by
  refine gx_bi (by decide +kernel) (Nat.le_of_ble_eq_true rfl) ?_
  intro P9 e9 s m9 below meth C9 S hr hlk hK hw ls hl
  have S : CallFix P9 m9 C9 cX11_sail 7 s _ gx_G RX11 := S
  have hx := S.1
  have hb := S.2.1
  have hl : lv_has ls 7 [(0, .ref (E.2.2 + 0)), (1, .int p), (2, .int b), (3, .int n), (4, .int w), (5, .int t)] := hl
  refine lv_aload_n hx hb dX11_sail_0 rfl (lv_at hl 0 rfl) ?_
  refine gx_getr (j := 3) S hK hw t_0 cl_12 1 (by decide) rfl mw_448 rfl dX11_sail_1 ?_
  refine lv_iload_n hx hb dX11_sail_4 rfl (lv_at hl 1 rfl) ?_
  refine gx_cVi (As := [.int p]) (rest := []) S hK gx_ok hw (c_Town_has l (E := E) gs0 gt0 p (by first | rfl | decide | simp [up2, gs0])) cw_X11_137 t_3 cl_9 ⟨Nat.le_of_ble_eq_true rfl, Nat.le_of_ble_eq_true rfl⟩ rfl hl.1 rfl (Nat.le_of_ble_eq_true rfl) ⟨Nat.le_of_ble_eq_true rfl, Nat.le_of_ble_eq_true rfl⟩ dX11_sail_5 (fun r_1 σ_1 τ_1 H locs hp hw => ?_)
  obtain ⟨er_1, es_1, et_1⟩ := hp
  obtain rfl := er_1.symm
  obtain rfl := es_1.symm
  obtain rfl := et_1.symm
  refine lv_if_eq (tgt := 39) hx hb dX11_sail_8 (by decide) (fun _ => ?_) (fun h => absurd (by decide) h)
  refine lv_iconst (v := (-1)) hx hb dX11_sail_39 (by decide) ?_
  exact gx_ri (post := fun r σ1 τ1 => r = (-1) ∧ (∀ c k : Nat, 199 ≤ c → σ1 c k = gs0 c k) ∧ True) (v := (-1)) S hr hlk hw rfl dX11_sail_40 ⟨rfl, (fun c9 k9 h9 => rfl), trivial⟩
set_option maxHeartbeats 4000000 in
set_option maxRecDepth 100000 in
theorem c_x_soonest (l : Launch) {E : gE} (b n t : Int32)  : gx_Mi l yX11_soonest cX11_soonest 10 (some .int) 1 gx_tb E gs0 gt0 [.ref (E.2.2 + 0), .int b, .int n, .int t] (fun r σ1 τ1 => r = (-1) ∧ (∀ c k : Nat, 199 ≤ c → σ1 c k = gs0 c k) ∧ True) := by
  refine gx_bi (by decide +kernel) (Nat.le_of_ble_eq_true rfl) ?_
  intro P9 e9 s m9 below meth C9 S hr hlk hK hw ls hl
  have S : CallFix P9 m9 C9 cX11_soonest 10 s _ gx_G RX11 := S
  have hx := S.1
  have hb := S.2.1
  have hl : lv_has ls 10 [(0, .ref (E.2.2 + 0)), (1, .int b), (2, .int n), (3, .int t)] := hl
  refine lv_iload_n hx hb dX11_soonest_0 rfl (lv_at hl 1 rfl) ?_
  refine lv_iload_n hx hb dX11_soonest_1 rfl (lv_at hl 2 rfl) ?_
  refine gx_cSi (As := [.int b, .int n]) (rest := []) S hK gx_ok hw (c_isLoad l (E := E) gs0 gt0 b n ) cw_X11_227 ⟨Nat.le_of_ble_eq_true rfl, Nat.le_of_ble_eq_true rfl⟩ rfl hl.1 rfl (Nat.le_of_ble_eq_true rfl) ⟨Nat.le_of_ble_eq_true rfl, Nat.le_of_ble_eq_true rfl⟩ dX11_soonest_2 (fun r_1 σ_1 τ_1 H locs hp hw => ?_)
  obtain ⟨er_1, es_1, et_1⟩ := hp
  obtain rfl := er_1.symm
  obtain rfl := es_1.symm
  obtain rfl := et_1.symm
  by_cases c_2 : 0 ≤ b.toInt ∧ b.toInt ≤ 99 ∧ 0 ≤ n.toInt ∧ n.toInt ≤ 9
  · refine gx_top (v := 1) (if_pos c_2) ?_
    refine lv_if_eq (tgt := 19) hx hb dX11_soonest_5 (by decide) (fun h => absurd h (by decide)) (fun _ => ?_)
    refine lv_aload_n hx hb dX11_soonest_8 rfl (lv_at hl 0 rfl) ?_
    refine gx_getr (j := 3) S hK hw t_0 cl_12 1 (by decide) rfl mw_448 rfl dX11_soonest_9 ?_
    refine lv_iload_n hx hb dX11_soonest_12 rfl (lv_at hl 3 rfl) ?_
    refine gx_cVi (As := [.int t]) (rest := []) S hK gx_ok hw (c_Town_isKitchen l (E := E) gs0 gt0 t (by first | rfl | decide | simp [up2, gs0])) cw_X11_234 t_3 cl_9 ⟨Nat.le_of_ble_eq_true rfl, Nat.le_of_ble_eq_true rfl⟩ rfl hl.1 rfl (Nat.le_of_ble_eq_true rfl) ⟨Nat.le_of_ble_eq_true rfl, Nat.le_of_ble_eq_true rfl⟩ dX11_soonest_13 (fun r_3 σ_3 τ_3 H locs hp hw => ?_)
    obtain ⟨er_3, es_3, et_3⟩ := hp
    obtain rfl := er_3.symm
    obtain rfl := es_3.symm
    obtain rfl := et_3.symm
    refine lv_if_ne (tgt := 21) hx hb dX11_soonest_16 (by decide) (fun h => absurd (by decide) h) (fun _ => ?_)
    refine lv_iconst (v := (-1)) hx hb dX11_soonest_19 (by decide) ?_
    exact gx_ri (post := fun r σ1 τ1 => r = (-1) ∧ (∀ c k : Nat, 199 ≤ c → σ1 c k = gs0 c k) ∧ True) (v := (-1)) S hr hlk hw rfl dX11_soonest_20 ⟨rfl, (fun c9 k9 h9 => rfl), trivial⟩
  · refine gx_top (v := 0) ((if_neg c_2).trans (rfl)) ?_
    refine lv_if_eq (tgt := 19) hx hb dX11_soonest_5 (by decide) (fun _ => ?_) (fun h => absurd (by decide) h)
    refine lv_iconst (v := (-1)) hx hb dX11_soonest_19 (by decide) ?_
    exact gx_ri (post := fun r σ1 τ1 => r = (-1) ∧ (∀ c k : Nat, 199 ≤ c → σ1 c k = gs0 c k) ∧ True) (v := (-1)) S hr hlk hw rfl dX11_soonest_20 ⟨rfl, (fun c9 k9 h9 => rfl), trivial⟩
set_option maxHeartbeats 4000000 in
set_option maxRecDepth 100000 in
theorem c_x_basin (l : Launch) {E : gE} (b n t : Int32)  : gx_Mi l yX11_basin cX11_basin 9 (some .int) 1 gx_tb E gs0 gt0 [.ref (E.2.2 + 0), .int b, .int n, .int t] (fun r σ1 τ1 => r = (-1) ∧ (∀ c k : Nat, 199 ≤ c → σ1 c k = gs0 c k) ∧ True) := by
  refine gx_bi (by decide +kernel) (Nat.le_of_ble_eq_true rfl) ?_
  intro P9 e9 s m9 below meth C9 S hr hlk hK hw ls hl
  have S : CallFix P9 m9 C9 cX11_basin 9 s _ gx_G RX11 := S
  have hx := S.1
  have hb := S.2.1
  have hl : lv_has ls 9 [(0, .ref (E.2.2 + 0)), (1, .int b), (2, .int n), (3, .int t)] := hl
  refine lv_iload_n hx hb dX11_basin_0 rfl (lv_at hl 1 rfl) ?_
  refine lv_iload_n hx hb dX11_basin_1 rfl (lv_at hl 2 rfl) ?_
  refine gx_cSi (As := [.int b, .int n]) (rest := []) S hK gx_ok hw (c_isLoad l (E := E) gs0 gt0 b n ) cw_X11_227 ⟨Nat.le_of_ble_eq_true rfl, Nat.le_of_ble_eq_true rfl⟩ rfl hl.1 rfl (Nat.le_of_ble_eq_true rfl) ⟨Nat.le_of_ble_eq_true rfl, Nat.le_of_ble_eq_true rfl⟩ dX11_basin_2 (fun r_1 σ_1 τ_1 H locs hp hw => ?_)
  obtain ⟨er_1, es_1, et_1⟩ := hp
  obtain rfl := er_1.symm
  obtain rfl := es_1.symm
  obtain rfl := et_1.symm
  by_cases c_2 : 0 ≤ b.toInt ∧ b.toInt ≤ 99 ∧ 0 ≤ n.toInt ∧ n.toInt ≤ 9
  · refine gx_top (v := 1) (if_pos c_2) ?_
    refine lv_if_eq (tgt := 19) hx hb dX11_basin_5 (by decide) (fun h => absurd h (by decide)) (fun _ => ?_)
    refine lv_aload_n hx hb dX11_basin_8 rfl (lv_at hl 0 rfl) ?_
    refine gx_getr (j := 3) S hK hw t_0 cl_12 1 (by decide) rfl mw_448 rfl dX11_basin_9 ?_
    refine lv_iload_n hx hb dX11_basin_12 rfl (lv_at hl 3 rfl) ?_
    refine gx_cVi (As := [.int t]) (rest := []) S hK gx_ok hw (c_Town_isKitchen l (E := E) gs0 gt0 t (by first | rfl | decide | simp [up2, gs0])) cw_X11_234 t_3 cl_9 ⟨Nat.le_of_ble_eq_true rfl, Nat.le_of_ble_eq_true rfl⟩ rfl hl.1 rfl (Nat.le_of_ble_eq_true rfl) ⟨Nat.le_of_ble_eq_true rfl, Nat.le_of_ble_eq_true rfl⟩ dX11_basin_13 (fun r_3 σ_3 τ_3 H locs hp hw => ?_)
    obtain ⟨er_3, es_3, et_3⟩ := hp
    obtain rfl := er_3.symm
    obtain rfl := es_3.symm
    obtain rfl := et_3.symm
    refine lv_if_ne (tgt := 21) hx hb dX11_basin_16 (by decide) (fun h => absurd (by decide) h) (fun _ => ?_)
    refine lv_iconst (v := (-1)) hx hb dX11_basin_19 (by decide) ?_
    exact gx_ri (post := fun r σ1 τ1 => r = (-1) ∧ (∀ c k : Nat, 199 ≤ c → σ1 c k = gs0 c k) ∧ True) (v := (-1)) S hr hlk hw rfl dX11_basin_20 ⟨rfl, (fun c9 k9 h9 => rfl), trivial⟩
  · refine gx_top (v := 0) ((if_neg c_2).trans (rfl)) ?_
    refine lv_if_eq (tgt := 19) hx hb dX11_basin_5 (by decide) (fun _ => ?_) (fun h => absurd (by decide) h)
    refine lv_iconst (v := (-1)) hx hb dX11_basin_19 (by decide) ?_
    exact gx_ri (post := fun r σ1 τ1 => r = (-1) ∧ (∀ c k : Nat, 199 ≤ c → σ1 c k = gs0 c k) ∧ True) (v := (-1)) S hr hlk hw rfl dX11_basin_20 ⟨rfl, (fun c9 k9 h9 => rfl), trivial⟩
set_option maxHeartbeats 4000000 in
set_option maxRecDepth 100000 in
theorem c_x_boat (l : Launch) {E : gE} (p n t : Int32)  : gx_Mi l yX11_boat cX11_boat 6 (some .int) 1 gx_tb E gs0 gt0 [.ref (E.2.2 + 0), .int p, .int n, .int t] (fun r σ1 τ1 => r = (-1) ∧ (∀ c k : Nat, 199 ≤ c → σ1 c k = gs0 c k) ∧ True) := by
  refine gx_bi (by decide +kernel) (Nat.le_of_ble_eq_true rfl) ?_
  intro P9 e9 s m9 below meth C9 S hr hlk hK hw ls hl
  have S : CallFix P9 m9 C9 cX11_boat 6 s _ gx_G RX11 := S
  have hx := S.1
  have hb := S.2.1
  have hl : lv_has ls 6 [(0, .ref (E.2.2 + 0)), (1, .int p), (2, .int n), (3, .int t)] := hl
  refine lv_aload_n hx hb dX11_boat_0 rfl (lv_at hl 0 rfl) ?_
  refine gx_getr (j := 3) S hK hw t_0 cl_12 1 (by decide) rfl mw_448 rfl dX11_boat_1 ?_
  refine lv_iload_n hx hb dX11_boat_4 rfl (lv_at hl 1 rfl) ?_
  refine gx_cVi (As := [.int p]) (rest := []) S hK gx_ok hw (c_Town_has l (E := E) gs0 gt0 p (by first | rfl | decide | simp [up2, gs0])) cw_X11_137 t_3 cl_9 ⟨Nat.le_of_ble_eq_true rfl, Nat.le_of_ble_eq_true rfl⟩ rfl hl.1 rfl (Nat.le_of_ble_eq_true rfl) ⟨Nat.le_of_ble_eq_true rfl, Nat.le_of_ble_eq_true rfl⟩ dX11_boat_5 (fun r_1 σ_1 τ_1 H locs hp hw => ?_)
  obtain ⟨er_1, es_1, et_1⟩ := hp
  obtain rfl := er_1.symm
  obtain rfl := es_1.symm
  obtain rfl := et_1.symm
  refine lv_if_eq (tgt := 30) hx hb dX11_boat_8 (by decide) (fun _ => ?_) (fun h => absurd (by decide) h)
  refine lv_iconst (v := (-1)) hx hb dX11_boat_30 (by decide) ?_
  exact gx_ri (post := fun r σ1 τ1 => r = (-1) ∧ (∀ c k : Nat, 199 ≤ c → σ1 c k = gs0 c k) ∧ True) (v := (-1)) S hr hlk hw rfl dX11_boat_31 ⟨rfl, (fun c9 k9 h9 => rfl), trivial⟩
set_option maxHeartbeats 4000000 in
set_option maxRecDepth 100000 in
theorem c_x_coins (l : Launch) {E : gE} (p b t : Int32)  : gx_Mi l yX11_coins cX11_coins 6 (some .int) 1 gx_tb E gs0 gt0 [.ref (E.2.2 + 0), .int p, .int b, .int t] (fun r σ1 τ1 => r = (-1) ∧ (∀ c k : Nat, 199 ≤ c → σ1 c k = gs0 c k) ∧ True) := by
  refine gx_bi (by decide +kernel) (Nat.le_of_ble_eq_true rfl) ?_
  intro P9 e9 s m9 below meth C9 S hr hlk hK hw ls hl
  have S : CallFix P9 m9 C9 cX11_coins 6 s _ gx_G RX11 := S
  have hx := S.1
  have hb := S.2.1
  have hl : lv_has ls 6 [(0, .ref (E.2.2 + 0)), (1, .int p), (2, .int b), (3, .int t)] := hl
  refine lv_aload_n hx hb dX11_coins_0 rfl (lv_at hl 0 rfl) ?_
  refine gx_getr (j := 3) S hK hw t_0 cl_12 1 (by decide) rfl mw_448 rfl dX11_coins_1 ?_
  refine lv_iload_n hx hb dX11_coins_4 rfl (lv_at hl 1 rfl) ?_
  refine gx_cVi (As := [.int p]) (rest := []) S hK gx_ok hw (c_Town_has l (E := E) gs0 gt0 p (by first | rfl | decide | simp [up2, gs0])) cw_X11_137 t_3 cl_9 ⟨Nat.le_of_ble_eq_true rfl, Nat.le_of_ble_eq_true rfl⟩ rfl hl.1 rfl (Nat.le_of_ble_eq_true rfl) ⟨Nat.le_of_ble_eq_true rfl, Nat.le_of_ble_eq_true rfl⟩ dX11_coins_5 (fun r_1 σ_1 τ_1 H locs hp hw => ?_)
  obtain ⟨er_1, es_1, et_1⟩ := hp
  obtain rfl := er_1.symm
  obtain rfl := es_1.symm
  obtain rfl := et_1.symm
  refine lv_if_eq (tgt := 30) hx hb dX11_coins_8 (by decide) (fun _ => ?_) (fun h => absurd (by decide) h)
  refine lv_iconst (v := (-1)) hx hb dX11_coins_30 (by decide) ?_
  exact gx_ri (post := fun r σ1 τ1 => r = (-1) ∧ (∀ c k : Nat, 199 ≤ c → σ1 c k = gs0 c k) ∧ True) (v := (-1)) S hr hlk hw rfl dX11_coins_31 ⟨rfl, (fun c9 k9 h9 => rfl), trivial⟩
set_option maxHeartbeats 4000000 in
set_option maxRecDepth 100000 in
theorem c_x_waits (l : Launch) {E : gE} (p b n t : Int32)  : gx_Mi l yX11_waits cX11_waits 11 (some .int) 1 gx_tb E gs0 gt0 [.ref (E.2.2 + 0), .int p, .int b, .int n, .int t] (fun r σ1 τ1 => r = (-1) ∧ (∀ c k : Nat, 199 ≤ c → σ1 c k = gs0 c k) ∧ True) := by
  refine gx_bi (by decide +kernel) (Nat.le_of_ble_eq_true rfl) ?_
  intro P9 e9 s m9 below meth C9 S hr hlk hK hw ls hl
  have S : CallFix P9 m9 C9 cX11_waits 11 s _ gx_G RX11 := S
  have hx := S.1
  have hb := S.2.1
  have hl : lv_has ls 11 [(0, .ref (E.2.2 + 0)), (1, .int p), (2, .int b), (3, .int n), (4, .int t)] := hl
  refine lv_aload_n hx hb dX11_waits_0 rfl (lv_at hl 0 rfl) ?_
  refine gx_getr (j := 3) S hK hw t_0 cl_12 1 (by decide) rfl mw_448 rfl dX11_waits_1 ?_
  refine lv_iload_n hx hb dX11_waits_4 rfl (lv_at hl 1 rfl) ?_
  refine gx_cVi (As := [.int p]) (rest := []) S hK gx_ok hw (c_Town_has l (E := E) gs0 gt0 p (by first | rfl | decide | simp [up2, gs0])) cw_X11_137 t_3 cl_9 ⟨Nat.le_of_ble_eq_true rfl, Nat.le_of_ble_eq_true rfl⟩ rfl hl.1 rfl (Nat.le_of_ble_eq_true rfl) ⟨Nat.le_of_ble_eq_true rfl, Nat.le_of_ble_eq_true rfl⟩ dX11_waits_5 (fun r_1 σ_1 τ_1 H locs hp hw => ?_)
  obtain ⟨er_1, es_1, et_1⟩ := hp
  obtain rfl := er_1.symm
  obtain rfl := es_1.symm
  obtain rfl := et_1.symm
  refine lv_if_eq (tgt := 31) hx hb dX11_waits_8 (by decide) (fun _ => ?_) (fun h => absurd (by decide) h)
  refine lv_iconst (v := (-1)) hx hb dX11_waits_31 (by decide) ?_
  exact gx_ri (post := fun r σ1 τ1 => r = (-1) ∧ (∀ c k : Nat, 199 ≤ c → σ1 c k = gs0 c k) ∧ True) (v := (-1)) S hr hlk hw rfl dX11_waits_32 ⟨rfl, (fun c9 k9 h9 => rfl), trivial⟩
set_option maxHeartbeats 4000000 in
set_option maxRecDepth 100000 in
theorem c_x_round (l : Launch) {E : gE} (p : Int32)  : gx_Mi l yX11_round cX11_round 4 (some .int) 1 gx_tb E gs0 gt0 [.ref (E.2.2 + 0), .int p] (fun r σ1 τ1 => r = (-1) ∧ (∀ c k : Nat, 199 ≤ c → σ1 c k = gs0 c k) ∧ True) := by
  refine gx_bi (by decide +kernel) (Nat.le_of_ble_eq_true rfl) ?_
  intro P9 e9 s m9 below meth C9 S hr hlk hK hw ls hl
  have S : CallFix P9 m9 C9 cX11_round 4 s _ gx_G RX11 := S
  have hx := S.1
  have hb := S.2.1
  have hl : lv_has ls 4 [(0, .ref (E.2.2 + 0)), (1, .int p)] := hl
  refine lv_aload_n hx hb dX11_round_0 rfl (lv_at hl 0 rfl) ?_
  refine gx_getr (j := 3) S hK hw t_0 cl_12 1 (by decide) rfl mw_448 rfl dX11_round_1 ?_
  refine lv_iload_n hx hb dX11_round_4 rfl (lv_at hl 1 rfl) ?_
  refine gx_cVi (As := [.int p]) (rest := []) S hK gx_ok hw (c_Town_has l (E := E) gs0 gt0 p (by first | rfl | decide | simp [up2, gs0])) cw_X11_137 t_3 cl_9 ⟨Nat.le_of_ble_eq_true rfl, Nat.le_of_ble_eq_true rfl⟩ rfl hl.1 rfl (Nat.le_of_ble_eq_true rfl) ⟨Nat.le_of_ble_eq_true rfl, Nat.le_of_ble_eq_true rfl⟩ dX11_round_5 (fun r_1 σ_1 τ_1 H locs hp hw => ?_)
  obtain ⟨er_1, es_1, et_1⟩ := hp
  obtain rfl := er_1.symm
  obtain rfl := es_1.symm
  obtain rfl := et_1.symm
  refine lv_if_ne (tgt := 13) hx hb dX11_round_8 (by decide) (fun h => absurd (by decide) h) (fun _ => ?_)
  refine lv_iconst (v := (-1)) hx hb dX11_round_11 (by decide) ?_
  exact gx_ri (post := fun r σ1 τ1 => r = (-1) ∧ (∀ c k : Nat, 199 ≤ c → σ1 c k = gs0 c k) ∧ True) (v := (-1)) S hr hlk hw rfl dX11_round_12 ⟨rfl, (fun c9 k9 h9 => rfl), trivial⟩
set_option maxHeartbeats 4000000 in
set_option maxRecDepth 100000 in
theorem c_x_save (l : Launch) {E : gE} (those : Int32)  : gx_Mi l yX11_save cX11_save 2 (some .int) 5 gx_tb E gs0 gt0 [.ref (E.2.2 + 0), .int those] (fun r σ1 τ1 => r = (if those.toInt = 0 then 0 else (-1)) ∧ (∀ c k : Nat, 199 ≤ c → σ1 c k = gs0 c k) ∧ True) := by
  refine gx_bi (by decide +kernel) (Nat.le_of_ble_eq_true rfl) ?_
  intro P9 e9 s m9 below meth C9 S hr hlk hK hw ls hl
  have S : CallFix P9 m9 C9 cX11_save 2 s _ gx_G RX11 := S
  have hx := S.1
  have hb := S.2.1
  have hl : lv_has ls 2 [(0, .ref (E.2.2 + 0)), (1, .int those)] := hl
  refine lv_iload_n hx hb dX11_save_0 rfl (lv_at hl 1 rfl) ?_
  refine lv_if_lt (tgt := 17) hx hb dX11_save_1 (by decide) (fun c_1 => ?_) (fun c_1 => ?_)
  · refine lv_iconst (v := (-1)) hx hb dX11_save_17 (by decide) ?_
    exact gx_ri (post := fun r σ1 τ1 => r = (if those.toInt = 0 then 0 else (-1)) ∧ (∀ c k : Nat, 199 ≤ c → σ1 c k = gs0 c k) ∧ True) (v := (-1)) S hr hlk hw rfl dX11_save_18 ⟨(by simp only [fa_lt, fa_le, fa_eq, show (0 : Int32).toInt = 0 from rfl] at c_1; exact ((if_neg (by omega)).trans (rfl)).symm), (fun c9 k9 h9 => rfl), trivial⟩
  · refine lv_iload_n hx hb dX11_save_4 rfl (lv_at hl 1 rfl) ?_
    refine lv_iconst (v := 1) hx hb dX11_save_5 (by decide) ?_
    refine lv_aload_n hx hb dX11_save_6 rfl (lv_at hl 0 rfl) ?_
    refine gx_getr (j := 30) S hK hw t_0 cl_12 7 (by decide) rfl mw_454 rfl dX11_save_7 ?_
    refine gx_get S hK hw t_30 cl_7 6 (by decide) rfl mw_272 rfl dX11_save_10 ?_
    refine gx_top (v := 0) (by first | rfl | decide | simp [up2, gs0]) ?_
    refine lv_ishl hx hb dX11_save_13 ?_
    refine gx_top (v := 1) (by decide) ?_
    refine lv_icmp_lt (tgt := 19) hx hb dX11_save_14 (by decide) (fun c_2 => ?_) (fun c_2 => ?_)
    · have e0 : those = 0 := (fa_eq _ _).mpr (by simp only [fa_lt, fa_le, show (0 : Int32).toInt = 0 from rfl, show (1 : Int32).toInt = 1 from rfl] at c_1 c_2 ⊢; omega)
      have hl : lv_has ls 2 [(0, .ref (E.2.2 + 0)), (1, .int 0)] := by rw [e0] at hl; exact hl
      refine lv_aload_n hx hb dX11_save_19 rfl (lv_at hl 0 rfl) ?_
      refine gx_getr (j := 160) S hK hw t_0 cl_12 15 (by decide) rfl mw_462 rfl dX11_save_20 ?_
      refine lv_aload_n hx hb dX11_save_23 rfl (lv_at hl 0 rfl) ?_
      refine gx_getr (j := 30) S hK hw t_0 cl_12 7 (by decide) rfl mw_454 rfl dX11_save_24 ?_
      refine lv_iload_n hx hb dX11_save_27 rfl (lv_at hl 1 rfl) ?_
      refine lv_iconst (v := 0) hx hb dX11_save_28 (by decide) ?_
      refine gx_cVv (As := [.ref (E.2.2 + 30), .int 0, .int 0]) (rest := []) S hK gx_ok hw (c_startFrom l (E := E) gs0 gt0 (by first | rfl | decide | simp [up2, gs0]) (by first | rfl | decide | simp [up2, gs0]) (by first | rfl | decide | simp [up2, gs0]) (by first | rfl | decide | simp [up2, gs0]) (by first | rfl | decide | simp [up2, gs0]) (by first | rfl | decide | simp [up2, gs0])) cw_X11_343 t_160 cl_10 ⟨Nat.le_of_ble_eq_true rfl, Nat.le_of_ble_eq_true rfl⟩ rfl hl.1 rfl (Nat.le_of_ble_eq_true rfl) ⟨Nat.le_of_ble_eq_true rfl, Nat.le_of_ble_eq_true rfl⟩ dX11_save_29 (fun σ_3 τ_3 H locs hp hw => ?_)
      obtain ⟨es_3, et_3⟩ := hp
      obtain rfl := es_3.symm
      obtain rfl := et_3.symm
      refine lv_aload_n hx hb dX11_save_32 rfl (lv_at hl 0 rfl) ?_
      refine lv_iconst (v := (-1)) hx hb dX11_save_33 (by decide) ?_
      refine gx_cVi (As := [.int (-1)]) (rest := []) S hK gx_ok hw (c_fewestTurns l (E := E) (up2 (up2 (up2 (up2 (up2 (up2 (up2 (gs0) 164 6 0) 164 7 0) 164 8 0) 164 9 0) 164 10 0) 160 5 0) 160 6 0) gt0 (by first | rfl | decide | simp [up2, gs0]) (by first | rfl | decide | simp [up2, gs0]) (by first | rfl | decide | simp [up2, gs0]) (by first | rfl | decide | simp [up2, gs0]) (by first | rfl | decide | simp [up2, gs0]) (by first | rfl | decide | simp [up2, gs0]) (by first | rfl | decide | simp [up2, gs0]) (by first | rfl | decide | simp [up2, gs0]) (by first | rfl | decide | simp [up2, gs0]) (by first | rfl | decide | simp [up2, gs0]) (by first | rfl | decide | simp [up2, gs0])) cw_X11_347 t_0 cl_12 ⟨Nat.le_of_ble_eq_true rfl, Nat.le_of_ble_eq_true rfl⟩ rfl hl.1 rfl (Nat.le_of_ble_eq_true rfl) ⟨Nat.le_of_ble_eq_true rfl, Nat.le_of_ble_eq_true rfl⟩ dX11_save_34 (fun r_4 σ_4 τ_4 H locs hp hw => ?_)
      obtain ⟨er_4, hs_4, -⟩ := hp
      obtain rfl := er_4.symm
      exact gx_ri (post := fun r σ1 τ1 => r = (if those.toInt = 0 then 0 else (-1)) ∧ (∀ c k : Nat, 199 ≤ c → σ1 c k = gs0 c k) ∧ True) (v := 0) S hr hlk hw rfl dX11_save_37 ⟨(by simp only [fa_lt, fa_le, fa_eq, show (0 : Int32).toInt = 0 from rfl, show (1 : Int32).toInt = 1 from rfl] at c_1 c_2; exact (if_pos (by omega)).symm), (fun c9 k9 h9 => (hs_4 c9 k9 h9).trans ((up2_hi (by omega) h9).trans ((up2_hi (by omega) h9).trans ((up2_hi (by omega) h9).trans ((up2_hi (by omega) h9).trans ((up2_hi (by omega) h9).trans ((up2_hi (by omega) h9).trans ((up2_hi (by omega) h9).trans (rfl))))))))), trivial⟩
    · refine lv_iconst (v := (-1)) hx hb dX11_save_17 (by decide) ?_
      exact gx_ri (post := fun r σ1 τ1 => r = (if those.toInt = 0 then 0 else (-1)) ∧ (∀ c k : Nat, 199 ≤ c → σ1 c k = gs0 c k) ∧ True) (v := (-1)) S hr hlk hw rfl dX11_save_18 ⟨(by simp only [fa_lt, fa_le, fa_eq, show (0 : Int32).toInt = 0 from rfl, show (1 : Int32).toInt = 1 from rfl] at c_1 c_2; exact ((if_neg (by omega)).trans (rfl)).symm), (fun c9 k9 h9 => rfl), trivial⟩
set_option maxHeartbeats 4000000 in
set_option maxRecDepth 100000 in
theorem c_x_steer (l : Launch) {E : gE} (i t : Int32)  : gx_Mi l yX11_steer cX11_steer 3 (some .int) 1 gx_tb E gs0 gt0 [.ref (E.2.2 + 0), .int i, .int t] (fun r σ1 τ1 => r = (-1) ∧ (∀ c k : Nat, 199 ≤ c → σ1 c k = gs0 c k) ∧ True) := by
  refine gx_bi (by decide +kernel) (Nat.le_of_ble_eq_true rfl) ?_
  intro P9 e9 s m9 below meth C9 S hr hlk hK hw ls hl
  have S : CallFix P9 m9 C9 cX11_steer 3 s _ gx_G RX11 := S
  have hx := S.1
  have hb := S.2.1
  have hl : lv_has ls 3 [(0, .ref (E.2.2 + 0)), (1, .int i), (2, .int t)] := hl
  refine lv_aload_n hx hb dX11_steer_0 rfl (lv_at hl 0 rfl) ?_
  refine gx_getr (j := 30) S hK hw t_0 cl_12 7 (by decide) rfl mw_454 rfl dX11_steer_1 ?_
  refine lv_iload_n hx hb dX11_steer_4 rfl (lv_at hl 1 rfl) ?_
  refine gx_cVi (As := [.int i]) (rest := []) S hK gx_ok hw (c_Scene_has l (E := E) gs0 gt0 30 i (by first | rfl | decide | simp [up2, gs0]) (by first | rfl | decide | simp [up2, gs0])) cw_X11_172 t_30 cl_7 ⟨Nat.le_of_ble_eq_true rfl, Nat.le_of_ble_eq_true rfl⟩ rfl hl.1 rfl (Nat.le_of_ble_eq_true rfl) ⟨Nat.le_of_ble_eq_true rfl, Nat.le_of_ble_eq_true rfl⟩ dX11_steer_5 (fun r_1 σ_1 τ_1 H locs hp hw => ?_)
  obtain ⟨er_1, es_1, et_1⟩ := hp
  obtain rfl := er_1.symm
  obtain rfl := es_1.symm
  obtain rfl := et_1.symm
  refine lv_if_eq (tgt := 22) hx hb dX11_steer_8 (by decide) (fun _ => ?_) (fun h => absurd (by decide) h)
  refine lv_iconst (v := (-1)) hx hb dX11_steer_22 (by decide) ?_
  exact gx_ri (post := fun r σ1 τ1 => r = (-1) ∧ (∀ c k : Nat, 199 ≤ c → σ1 c k = gs0 c k) ∧ True) (v := (-1)) S hr hlk hw rfl dX11_steer_23 ⟨rfl, (fun c9 k9 h9 => rfl), trivial⟩
set_option maxHeartbeats 4000000 in
set_option maxRecDepth 100000 in
theorem c_x_ways (l : Launch) {E : gE} (p b n t : Int32)  : gx_Mi l yX11_ways cX11_ways 10 (some .int) 1 gx_tb E gs0 gt0 [.ref (E.2.2 + 0), .int p, .int b, .int n, .int t] (fun r σ1 τ1 => r = (-1) ∧ (∀ c k : Nat, 199 ≤ c → σ1 c k = gs0 c k) ∧ True) := by
  refine gx_bi (by decide +kernel) (Nat.le_of_ble_eq_true rfl) ?_
  intro P9 e9 s m9 below meth C9 S hr hlk hK hw ls hl
  have S : CallFix P9 m9 C9 cX11_ways 10 s _ gx_G RX11 := S
  have hx := S.1
  have hb := S.2.1
  have hl : lv_has ls 10 [(0, .ref (E.2.2 + 0)), (1, .int p), (2, .int b), (3, .int n), (4, .int t)] := hl
  refine lv_aload_n hx hb dX11_ways_0 rfl (lv_at hl 0 rfl) ?_
  refine gx_getr (j := 3) S hK hw t_0 cl_12 1 (by decide) rfl mw_448 rfl dX11_ways_1 ?_
  refine lv_iload_n hx hb dX11_ways_4 rfl (lv_at hl 1 rfl) ?_
  refine gx_cVi (As := [.int p]) (rest := []) S hK gx_ok hw (c_Town_has l (E := E) gs0 gt0 p (by first | rfl | decide | simp [up2, gs0])) cw_X11_137 t_3 cl_9 ⟨Nat.le_of_ble_eq_true rfl, Nat.le_of_ble_eq_true rfl⟩ rfl hl.1 rfl (Nat.le_of_ble_eq_true rfl) ⟨Nat.le_of_ble_eq_true rfl, Nat.le_of_ble_eq_true rfl⟩ dX11_ways_5 (fun r_1 σ_1 τ_1 H locs hp hw => ?_)
  obtain ⟨er_1, es_1, et_1⟩ := hp
  obtain rfl := er_1.symm
  obtain rfl := es_1.symm
  obtain rfl := et_1.symm
  refine lv_if_eq (tgt := 31) hx hb dX11_ways_8 (by decide) (fun _ => ?_) (fun h => absurd (by decide) h)
  refine lv_iconst (v := (-1)) hx hb dX11_ways_31 (by decide) ?_
  exact gx_ri (post := fun r σ1 τ1 => r = (-1) ∧ (∀ c k : Nat, 199 ≤ c → σ1 c k = gs0 c k) ∧ True) (v := (-1)) S hr hlk hw rfl dX11_ways_32 ⟨rfl, (fun c9 k9 h9 => rfl), trivial⟩
set_option maxHeartbeats 4000000 in
set_option maxRecDepth 100000 in
theorem c_x_duel (l : Launch) {E : gE} (p b n t w : Int32)  : gx_Mi l yX11_duel cX11_duel 9 (some .int) 1 gx_tb E gs0 gt0 [.ref (E.2.2 + 0), .int p, .int b, .int n, .int t, .int w] (fun r σ1 τ1 => r = (-1) ∧ (∀ c k : Nat, 199 ≤ c → σ1 c k = gs0 c k) ∧ True) := by
  refine gx_bi (by decide +kernel) (Nat.le_of_ble_eq_true rfl) ?_
  intro P9 e9 s m9 below meth C9 S hr hlk hK hw ls hl
  have S : CallFix P9 m9 C9 cX11_duel 9 s _ gx_G RX11 := S
  have hx := S.1
  have hb := S.2.1
  have hl : lv_has ls 9 [(0, .ref (E.2.2 + 0)), (1, .int p), (2, .int b), (3, .int n), (4, .int t), (5, .int w)] := hl
  refine lv_aload_n hx hb dX11_duel_0 rfl (lv_at hl 0 rfl) ?_
  refine gx_getr (j := 3) S hK hw t_0 cl_12 1 (by decide) rfl mw_448 rfl dX11_duel_1 ?_
  refine lv_iload_n hx hb dX11_duel_4 rfl (lv_at hl 1 rfl) ?_
  refine gx_cVi (As := [.int p]) (rest := []) S hK gx_ok hw (c_Town_has l (E := E) gs0 gt0 p (by first | rfl | decide | simp [up2, gs0])) cw_X11_137 t_3 cl_9 ⟨Nat.le_of_ble_eq_true rfl, Nat.le_of_ble_eq_true rfl⟩ rfl hl.1 rfl (Nat.le_of_ble_eq_true rfl) ⟨Nat.le_of_ble_eq_true rfl, Nat.le_of_ble_eq_true rfl⟩ dX11_duel_5 (fun r_1 σ_1 τ_1 H locs hp hw => ?_)
  obtain ⟨er_1, es_1, et_1⟩ := hp
  obtain rfl := er_1.symm
  obtain rfl := es_1.symm
  obtain rfl := et_1.symm
  refine lv_if_eq (tgt := 42) hx hb dX11_duel_8 (by decide) (fun _ => ?_) (fun h => absurd (by decide) h)
  refine lv_iconst (v := (-1)) hx hb dX11_duel_42 (by decide) ?_
  exact gx_ri (post := fun r σ1 τ1 => r = (-1) ∧ (∀ c k : Nat, 199 ≤ c → σ1 c k = gs0 c k) ∧ True) (v := (-1)) S hr hlk hw rfl dX11_duel_43 ⟨rfl, (fun c9 k9 h9 => rfl), trivial⟩
set_option maxHeartbeats 4000000 in
set_option maxRecDepth 100000 in
theorem c_x_cork (l : Launch) {E : gE} (p n t : Int32)  : gx_Mi l yX11_cork cX11_cork 5 (some .int) 1 gx_tb E gs0 gt0 [.ref (E.2.2 + 0), .int p, .int n, .int t] (fun r σ1 τ1 => r = (-1) ∧ (∀ c k : Nat, 199 ≤ c → σ1 c k = gs0 c k) ∧ True) := by
  refine gx_bi (by decide +kernel) (Nat.le_of_ble_eq_true rfl) ?_
  intro P9 e9 s m9 below meth C9 S hr hlk hK hw ls hl
  have S : CallFix P9 m9 C9 cX11_cork 5 s _ gx_G RX11 := S
  have hx := S.1
  have hb := S.2.1
  have hl : lv_has ls 5 [(0, .ref (E.2.2 + 0)), (1, .int p), (2, .int n), (3, .int t)] := hl
  refine lv_iload_n hx hb dX11_cork_0 rfl (lv_at hl 3 rfl) ?_
  refine lv_iconst (v := (-1)) hx hb dX11_cork_1 (by decide) ?_
  refine lv_icmp_eq (tgt := 16) hx hb dX11_cork_2 (by decide) (fun c_1 => ?_) (fun c_1 => ?_)
  · refine lv_iconst (v := 1) hx hb dX11_cork_16 (by decide) ?_
    refine lv_goto (tgt := 21) hx hb dX11_cork_17 (by decide) ?_
    refine lv_istore (lv' := [(4, .int 1), (0, .ref (E.2.2 + 0)), (1, .int p), (2, .int n), (3, .int t)]) hx hb dX11_cork_21 hl (by decide) rfl (fun ls hl => ?_)
    refine lv_aload_n hx hb dX11_cork_23 rfl (lv_at hl 1 rfl) ?_
    refine gx_getr (j := 3) S hK hw t_0 cl_12 1 (by decide) rfl mw_448 rfl dX11_cork_24 ?_
    refine lv_iload_n hx hb dX11_cork_27 rfl (lv_at hl 2 rfl) ?_
    refine gx_cVi (As := [.int p]) (rest := []) S hK gx_ok hw (c_Town_has l (E := E) gs0 gt0 p (by first | rfl | decide | simp [up2, gs0])) cw_X11_137 t_3 cl_9 ⟨Nat.le_of_ble_eq_true rfl, Nat.le_of_ble_eq_true rfl⟩ rfl hl.1 rfl (Nat.le_of_ble_eq_true rfl) ⟨Nat.le_of_ble_eq_true rfl, Nat.le_of_ble_eq_true rfl⟩ dX11_cork_28 (fun r_2 σ_2 τ_2 H locs hp hw => ?_)
    obtain ⟨er_2, es_2, et_2⟩ := hp
    obtain rfl := er_2.symm
    obtain rfl := es_2.symm
    obtain rfl := et_2.symm
    refine lv_if_eq (tgt := 46) hx hb dX11_cork_31 (by decide) (fun _ => ?_) (fun h => absurd (by decide) h)
    refine lv_iconst (v := (-1)) hx hb dX11_cork_46 (by decide) ?_
    exact gx_ri (post := fun r σ1 τ1 => r = (-1) ∧ (∀ c k : Nat, 199 ≤ c → σ1 c k = gs0 c k) ∧ True) (v := (-1)) S hr hlk hw rfl dX11_cork_47 ⟨rfl, (fun c9 k9 h9 => rfl), trivial⟩
  · refine lv_aload_n hx hb dX11_cork_5 rfl (lv_at hl 0 rfl) ?_
    refine gx_getr (j := 3) S hK hw t_0 cl_12 1 (by decide) rfl mw_448 rfl dX11_cork_6 ?_
    refine lv_iload_n hx hb dX11_cork_9 rfl (lv_at hl 3 rfl) ?_
    refine gx_cVi (As := [.int t]) (rest := []) S hK gx_ok hw (c_Town_isKitchen l (E := E) gs0 gt0 t (by first | rfl | decide | simp [up2, gs0])) cw_X11_234 t_3 cl_9 ⟨Nat.le_of_ble_eq_true rfl, Nat.le_of_ble_eq_true rfl⟩ rfl hl.1 rfl (Nat.le_of_ble_eq_true rfl) ⟨Nat.le_of_ble_eq_true rfl, Nat.le_of_ble_eq_true rfl⟩ dX11_cork_10 (fun r_3 σ_3 τ_3 H locs hp hw => ?_)
    obtain ⟨er_3, es_3, et_3⟩ := hp
    obtain rfl := er_3.symm
    obtain rfl := es_3.symm
    obtain rfl := et_3.symm
    refine lv_if_eq (tgt := 20) hx hb dX11_cork_13 (by decide) (fun _ => ?_) (fun h => absurd (by decide) h)
    refine lv_iconst (v := 0) hx hb dX11_cork_20 (by decide) ?_
    refine lv_istore (lv' := [(4, .int 0), (0, .ref (E.2.2 + 0)), (1, .int p), (2, .int n), (3, .int t)]) hx hb dX11_cork_21 hl (by decide) rfl (fun ls hl => ?_)
    refine lv_aload_n hx hb dX11_cork_23 rfl (lv_at hl 1 rfl) ?_
    refine gx_getr (j := 3) S hK hw t_0 cl_12 1 (by decide) rfl mw_448 rfl dX11_cork_24 ?_
    refine lv_iload_n hx hb dX11_cork_27 rfl (lv_at hl 2 rfl) ?_
    refine gx_cVi (As := [.int p]) (rest := []) S hK gx_ok hw (c_Town_has l (E := E) gs0 gt0 p (by first | rfl | decide | simp [up2, gs0])) cw_X11_137 t_3 cl_9 ⟨Nat.le_of_ble_eq_true rfl, Nat.le_of_ble_eq_true rfl⟩ rfl hl.1 rfl (Nat.le_of_ble_eq_true rfl) ⟨Nat.le_of_ble_eq_true rfl, Nat.le_of_ble_eq_true rfl⟩ dX11_cork_28 (fun r_4 σ_4 τ_4 H locs hp hw => ?_)
    obtain ⟨er_4, es_4, et_4⟩ := hp
    obtain rfl := er_4.symm
    obtain rfl := es_4.symm
    obtain rfl := et_4.symm
    refine lv_if_eq (tgt := 46) hx hb dX11_cork_31 (by decide) (fun _ => ?_) (fun h => absurd (by decide) h)
    refine lv_iconst (v := (-1)) hx hb dX11_cork_46 (by decide) ?_
    exact gx_ri (post := fun r σ1 τ1 => r = (-1) ∧ (∀ c k : Nat, 199 ≤ c → σ1 c k = gs0 c k) ∧ True) (v := (-1)) S hr hlk hw rfl dX11_cork_47 ⟨rfl, (fun c9 k9 h9 => rfl), trivial⟩
set_option maxHeartbeats 4000000 in
set_option maxRecDepth 100000 in
theorem c_x_forget (l : Launch) {E : gE}   : gx_Mi l yX11_forget cX11_forget 2 (some .int) 0 gx_tb E gs0 gt0 [.ref (E.2.2 + 0)] (fun r σ1 τ1 => r = 0 ∧ (∀ c k : Nat, 199 ≤ c → σ1 c k = gs0 c k) ∧ True) := by
  refine gx_bi (by decide +kernel) (Nat.le_of_ble_eq_true rfl) ?_
  intro P9 e9 s m9 below meth C9 S hr hlk hK hw ls hl
  have S : CallFix P9 m9 C9 cX11_forget 2 s _ gx_G RX11 := S
  have hx := S.1
  have hb := S.2.1
  have hl : lv_has ls 2 [(0, .ref (E.2.2 + 0))] := hl
  refine lv_aload_n hx hb dX11_forget_0 rfl (lv_at hl 0 rfl) ?_
  refine gx_getr (j := 152) S hK hw t_0 cl_12 12 (by decide) rfl mw_459 rfl dX11_forget_1 ?_
  refine gx_get S hK hw t_152 cl_1 3 (by decide) rfl mw_340 rfl dX11_forget_4 ?_
  refine gx_top (v := 0) (by first | rfl | decide | simp [up2, gs0]) ?_
  refine lv_istore_n (lv' := [(1, .int 0), (0, .ref (E.2.2 + 0))]) hx hb dX11_forget_7 rfl hl (by decide) rfl (fun ls hl => ?_)
  refine lv_aload_n hx hb dX11_forget_8 rfl (lv_at hl 1 rfl) ?_
  refine gx_getr (j := 152) S hK hw t_0 cl_12 12 (by decide) rfl mw_459 rfl dX11_forget_9 ?_
  refine lv_iconst (v := 0) hx hb dX11_forget_12 (by decide) ?_
  refine gx_put S hK gx_ok hw t_152 cl_1 3 (by decide) rfl mw_340 rfl rfl (ty := .int) (v := 0) (by decide +kernel) rfl rfl dX11_forget_13 (fun H locs hw => ?_)
  refine lv_iload_n hx hb dX11_forget_16 rfl (lv_at hl 0 rfl) ?_
  exact gx_ri (post := fun r σ1 τ1 => r = 0 ∧ (∀ c k : Nat, 199 ≤ c → σ1 c k = gs0 c k) ∧ True) (v := 0) S hr hlk hw rfl dX11_forget_17 ⟨rfl, (fun c9 k9 h9 => (up2_hi (by omega) h9).trans (rfl)), trivial⟩
set_option maxHeartbeats 4000000 in
set_option maxRecDepth 100000 in
theorem c_x_maps (l : Launch) {E : gE}   : gx_Mi l yX11_maps cX11_maps 7 (some .int) 3 gx_tb E gs0 gt0 [.ref (E.2.2 + 0)] (fun r σ1 τ1 => r = 1 ∧ (∀ c k : Nat, 199 ≤ c → σ1 c k = gs0 c k) ∧ True) := by
  refine gx_bi (by decide +kernel) (Nat.le_of_ble_eq_true rfl) ?_
  intro P9 e9 s m9 below meth C9 S hr hlk hK hw ls hl
  have S : CallFix P9 m9 C9 cX11_maps 7 s _ gx_G RX11 := S
  have hx := S.1
  have hb := S.2.1
  have hl : lv_has ls 7 [(0, .ref (E.2.2 + 0))] := hl
  refine lv_aload_n hx hb dX11_maps_0 rfl (lv_at hl 0 rfl) ?_
  refine gx_cVv (As := []) (rest := []) S hK gx_ok hw (c_findFits l (E := E) gs0 gt0 (by first | rfl | decide | simp [up2, gs0]) (by first | rfl | decide | simp [up2, gs0]) (by first | rfl | decide | simp [up2, gs0])) cw_X11_372 t_0 cl_12 ⟨Nat.le_of_ble_eq_true rfl, Nat.le_of_ble_eq_true rfl⟩ rfl hl.1 rfl (Nat.le_of_ble_eq_true rfl) ⟨Nat.le_of_ble_eq_true rfl, Nat.le_of_ble_eq_true rfl⟩ dX11_maps_1 (fun σ_1 τ_1 H locs hp hw => ?_)
  obtain ⟨es_1, et_1⟩ := hp
  obtain rfl := es_1.symm
  obtain rfl := et_1.symm
  refine lv_iconst (v := 0) hx hb dX11_maps_4 (by decide) ?_
  refine lv_istore_n (lv' := [(1, .int 0), (0, .ref (E.2.2 + 0))]) hx hb dX11_maps_5 rfl hl (by decide) rfl (fun ls hl => ?_)
  refine lv_iconst (v := (-1)) hx hb dX11_maps_6 (by decide) ?_
  refine lv_istore_n (lv' := [(2, .int (-1)), (1, .int 0), (0, .ref (E.2.2 + 0))]) hx hb dX11_maps_7 rfl hl (by decide) rfl (fun ls hl => ?_)
  refine lv_aload_n hx hb dX11_maps_8 rfl (lv_at hl 2 rfl) ?_
  refine gx_getr (j := 3) S hK hw t_0 cl_12 1 (by decide) rfl mw_448 rfl dX11_maps_9 ?_
  refine gx_get S hK hw t_3 cl_9 7 (by decide) rfl mw_158 rfl dX11_maps_12 ?_
  refine gx_top (v := 0) (by first | rfl | decide | simp [up2, gs0]) ?_
  refine lv_istore_n (lv' := [(3, .int 0), (2, .int (-1)), (1, .int 0), (0, .ref (E.2.2 + 0))]) hx hb dX11_maps_15 rfl hl (by decide) rfl (fun ls hl => ?_)
  refine lv_aload_n hx hb dX11_maps_16 rfl (lv_at hl 3 rfl) ?_
  refine gx_getr (j := 3) S hK hw t_0 cl_12 1 (by decide) rfl mw_448 rfl dX11_maps_17 ?_
  refine gx_get S hK hw t_3 cl_9 7 (by decide) rfl mw_158 rfl dX11_maps_20 ?_
  refine gx_top (v := 0) (by first | rfl | decide | simp [up2, gs0]) ?_
  refine lv_istore (lv' := [(4, .int 0), (3, .int 0), (2, .int (-1)), (1, .int 0), (0, .ref (E.2.2 + 0))]) hx hb dX11_maps_23 hl (by decide) rfl (fun ls hl => ?_)
  refine lv_iconst (v := 0) hx hb dX11_maps_25 (by decide) ?_
  refine lv_istore (lv' := [(5, .int 0), (4, .int 0), (3, .int 0), (2, .int (-1)), (1, .int 0), (0, .ref (E.2.2 + 0))]) hx hb dX11_maps_26 hl (by decide) rfl (fun ls hl => ?_)
  refine lv_iconst (v := 0) hx hb dX11_maps_28 (by decide) ?_
  refine lv_istore (lv' := [(6, .int 0), (5, .int 0), (4, .int 0), (3, .int 0), (2, .int (-1)), (1, .int 0), (0, .ref (E.2.2 + 0))]) hx hb dX11_maps_29 hl (by decide) rfl (fun ls hl => ?_)
  refine lv_iload hx hb dX11_maps_31 (lv_at hl 0 rfl) ?_
  refine lv_aload_n hx hb dX11_maps_33 rfl (lv_at hl 6 rfl) ?_
  refine gx_getr (j := 3) S hK hw t_0 cl_12 1 (by decide) rfl mw_448 rfl dX11_maps_34 ?_
  refine gx_get S hK hw t_3 cl_9 8 (by decide) rfl mw_161 rfl dX11_maps_37 ?_
  refine gx_top (v := 1) (by first | rfl | decide | simp [up2, gs0]) ?_
  refine lv_icmp_ge (tgt := 101) hx hb dX11_maps_40 (by decide) (fun h => absurd h (by decide)) (fun _ => ?_)
  refine lv_aload_n hx hb dX11_maps_43 rfl (lv_at hl 6 rfl) ?_
  refine gx_getr (j := 160) S hK hw t_0 cl_12 15 (by decide) rfl mw_462 rfl dX11_maps_44 ?_
  refine lv_iload hx hb dX11_maps_47 (lv_at hl 1 rfl) ?_
  refine gx_cVi (As := [.int 0]) (rest := []) S hK gx_ok hw (c_fits l (E := E) (up2 gs0 162 0 1) gt0 (by first | rfl | decide | simp [up2, gs0])) cw_X11_378 t_160 cl_10 ⟨Nat.le_of_ble_eq_true rfl, Nat.le_of_ble_eq_true rfl⟩ rfl hl.1 rfl (Nat.le_of_ble_eq_true rfl) ⟨Nat.le_of_ble_eq_true rfl, Nat.le_of_ble_eq_true rfl⟩ dX11_maps_49 (fun r_2 σ_2 τ_2 H locs hp hw => ?_)
  obtain ⟨er_2, es_2, et_2⟩ := hp
  obtain rfl := er_2.symm
  obtain rfl := es_2.symm
  obtain rfl := et_2.symm
  refine lv_if_eq (tgt := 84) hx hb dX11_maps_52 (by decide) (fun h => absurd h (by decide)) (fun _ => ?_)
  refine lv_iinc (v := 1) (lv' := [(1, .int 1), (6, .int 0), (5, .int 0), (4, .int 0), (3, .int 0), (2, .int (-1)), (0, .ref (E.2.2 + 0))]) hx hb dX11_maps_55 hl (k := 5) rfl (by decide) (by decide) rfl (fun ls hl => ?_)
  refine lv_iload_n hx hb dX11_maps_58 rfl (lv_at hl 5 rfl) ?_
  refine lv_iconst (v := (-1)) hx hb dX11_maps_59 (by decide) ?_
  refine lv_icmp_ne (tgt := 68) hx hb dX11_maps_60 (by decide) (fun h => absurd (by decide) h) (fun _ => ?_)
  refine lv_iload hx hb dX11_maps_63 (lv_at hl 2 rfl) ?_
  refine lv_goto (tgt := 69) hx hb dX11_maps_65 (by decide) ?_
  refine lv_istore_n (lv' := [(2, .int 0), (1, .int 1), (6, .int 0), (5, .int 0), (4, .int 0), (3, .int 0), (0, .ref (E.2.2 + 0))]) hx hb dX11_maps_69 rfl hl (by decide) rfl (fun ls hl => ?_)
  refine lv_iload_n hx hb dX11_maps_70 rfl (lv_at hl 5 rfl) ?_
  refine lv_iload hx hb dX11_maps_71 (lv_at hl 3 rfl) ?_
  refine lv_iand hx hb dX11_maps_73 ?_
  refine gx_top (v := 0) (by decide) ?_
  refine lv_istore_n (lv' := [(3, .int 0), (2, .int 0), (1, .int 1), (6, .int 0), (5, .int 0), (4, .int 0), (0, .ref (E.2.2 + 0))]) hx hb dX11_maps_74 rfl hl (by decide) rfl (fun ls hl => ?_)
  refine lv_iload hx hb dX11_maps_75 (lv_at hl 5 rfl) ?_
  refine lv_iload hx hb dX11_maps_77 (lv_at hl 4 rfl) ?_
  refine lv_iconst (v := (-1)) hx hb dX11_maps_79 (by decide) ?_
  refine lv_ixor hx hb dX11_maps_80 ?_
  refine gx_top (v := (-1)) (by decide) ?_
  refine lv_iand hx hb dX11_maps_81 ?_
  refine gx_top (v := 0) (by decide) ?_
  refine lv_istore (lv' := [(4, .int 0), (3, .int 0), (2, .int 0), (1, .int 1), (6, .int 0), (5, .int 0), (0, .ref (E.2.2 + 0))]) hx hb dX11_maps_82 hl (by decide) rfl (fun ls hl => ?_)
  refine lv_aload_n hx hb dX11_maps_84 rfl (lv_at hl 6 rfl) ?_
  refine gx_getr (j := 3) S hK hw t_0 cl_12 1 (by decide) rfl mw_448 rfl dX11_maps_85 ?_
  refine lv_iload hx hb dX11_maps_88 (lv_at hl 5 rfl) ?_
  refine gx_cVi (As := [.int 0]) (rest := []) S hK gx_ok hw (c_Town_nextSet l (E := E) (up2 gs0 162 0 1) gt0 (by first | rfl | decide | simp [up2, gs0])) cw_X11_359 t_3 cl_9 ⟨Nat.le_of_ble_eq_true rfl, Nat.le_of_ble_eq_true rfl⟩ rfl hl.1 rfl (Nat.le_of_ble_eq_true rfl) ⟨Nat.le_of_ble_eq_true rfl, Nat.le_of_ble_eq_true rfl⟩ dX11_maps_90 (fun r_3 σ_3 τ_3 H locs hp hw => ?_)
  obtain ⟨er_3, es_3, et_3⟩ := hp
  obtain rfl := er_3.symm
  obtain rfl := es_3.symm
  obtain rfl := et_3.symm
  refine lv_istore (lv' := [(5, .int 0), (4, .int 0), (3, .int 0), (2, .int 0), (1, .int 1), (6, .int 0), (0, .ref (E.2.2 + 0))]) hx hb dX11_maps_93 hl (by decide) rfl (fun ls hl => ?_)
  refine lv_iinc (v := 1) (lv' := [(6, .int 1), (5, .int 0), (4, .int 0), (3, .int 0), (2, .int 0), (1, .int 1), (0, .ref (E.2.2 + 0))]) hx hb dX11_maps_95 hl (k := 5) rfl (by decide) (by decide) rfl (fun ls hl => ?_)
  refine lv_goto (tgt := 31) hx hb dX11_maps_98 (by decide) ?_
  refine lv_iload hx hb dX11_maps_31 (lv_at hl 0 rfl) ?_
  refine lv_aload_n hx hb dX11_maps_33 rfl (lv_at hl 6 rfl) ?_
  refine gx_getr (j := 3) S hK hw t_0 cl_12 1 (by decide) rfl mw_448 rfl dX11_maps_34 ?_
  refine gx_get S hK hw t_3 cl_9 8 (by decide) rfl mw_161 rfl dX11_maps_37 ?_
  refine gx_top (v := 1) (by first | rfl | decide | simp [up2, gs0]) ?_
  refine lv_icmp_ge (tgt := 101) hx hb dX11_maps_40 (by decide) (fun _ => ?_) (fun h => absurd (by decide) h)
  refine lv_aload_n hx hb dX11_maps_101 rfl (lv_at hl 6 rfl) ?_
  refine gx_getr (j := 156) S hK hw t_0 cl_12 13 (by decide) rfl mw_460 rfl dX11_maps_102 ?_
  refine lv_iload_n hx hb dX11_maps_105 rfl (lv_at hl 4 rfl) ?_
  refine lv_i2l (v := 0) hx hb dX11_maps_106 (by decide) ?_
  refine lv_iload_n hx hb dX11_maps_107 rfl (lv_at hl 3 rfl) ?_
  refine lv_i2l (v := 0) hx hb dX11_maps_108 (by decide) ?_
  refine lv_iload hx hb dX11_maps_109 (lv_at hl 2 rfl) ?_
  refine lv_i2l (v := 0) hx hb dX11_maps_111 (by decide) ?_
  refine gx_cVv (As := [.long 0, .long 0, .long 0]) (rest := []) S hK gx_ok hw (c_tell3 l (E := E) (up2 gs0 162 0 1) gt0 0 0 0 ) cw_X11_300 t_156 cl_5 ⟨Nat.le_of_ble_eq_true rfl, Nat.le_of_ble_eq_true rfl⟩ rfl hl.1 rfl (Nat.le_of_ble_eq_true rfl) ⟨Nat.le_of_ble_eq_true rfl, Nat.le_of_ble_eq_true rfl⟩ dX11_maps_112 (fun σ_4 τ_4 H locs hp hw => ?_)
  obtain ⟨es_4, -⟩ := hp
  obtain rfl := es_4.symm
  refine lv_iload_n hx hb dX11_maps_115 rfl (lv_at hl 5 rfl) ?_
  exact gx_ri (post := fun r σ1 τ1 => r = 1 ∧ (∀ c k : Nat, 199 ≤ c → σ1 c k = gs0 c k) ∧ True) (v := 1) S hr hlk hw rfl dX11_maps_116 ⟨rfl, (fun c9 k9 h9 => (up2_hi (by omega) h9).trans ((up2_hi (by omega) h9).trans (rfl))), trivial⟩
set_option maxHeartbeats 4000000 in
set_option maxRecDepth 100000 in
theorem c_x_next (l : Launch) {E : gE} (n : Int32)  : gx_Mi l yX11_next cX11_next 6 (some .int) 0 gx_tb E gs0 gt0 [.ref (E.2.2 + 0), .int n] (fun r σ1 τ1 => r = (-1) ∧ (∀ c k : Nat, 199 ≤ c → σ1 c k = gs0 c k) ∧ True) := by
  refine gx_bi (by decide +kernel) (Nat.le_of_ble_eq_true rfl) ?_
  intro P9 e9 s m9 below meth C9 S hr hlk hK hw ls hl
  have S : CallFix P9 m9 C9 cX11_next 6 s _ gx_G RX11 := S
  have hx := S.1
  have hb := S.2.1
  have hl : lv_has ls 6 [(0, .ref (E.2.2 + 0)), (1, .int n)] := hl
  refine lv_aload_n hx hb dX11_next_0 rfl (lv_at hl 0 rfl) ?_
  refine gx_getr (j := 3) S hK hw t_0 cl_12 1 (by decide) rfl mw_448 rfl dX11_next_1 ?_
  refine gx_get S hK hw t_3 cl_9 6 (by decide) rfl mw_155 rfl dX11_next_4 ?_
  refine gx_top (v := 0) (by first | rfl | decide | simp [up2, gs0]) ?_
  refine lv_if_eq (tgt := 17) hx hb dX11_next_7 (by decide) (fun _ => ?_) (fun h => absurd (by decide) h)
  refine lv_iconst (v := (-1)) hx hb dX11_next_17 (by decide) ?_
  exact gx_ri (post := fun r σ1 τ1 => r = (-1) ∧ (∀ c k : Nat, 199 ≤ c → σ1 c k = gs0 c k) ∧ True) (v := (-1)) S hr hlk hw rfl dX11_next_18 ⟨rfl, (fun c9 k9 h9 => rfl), trivial⟩
set_option maxHeartbeats 4000000 in
set_option maxRecDepth 100000 in
theorem c_x_odds (l : Launch) {E : gE} (i n p : Int32)  : gx_Mi l yX11_odds cX11_odds 10 (some .int) 1 gx_tb E gs0 gt0 [.ref (E.2.2 + 0), .int i, .int n, .int p] (fun r σ1 τ1 => r = (-1) ∧ (∀ c k : Nat, 199 ≤ c → σ1 c k = gs0 c k) ∧ True) := by
  refine gx_bi (by decide +kernel) (Nat.le_of_ble_eq_true rfl) ?_
  intro P9 e9 s m9 below meth C9 S hr hlk hK hw ls hl
  have S : CallFix P9 m9 C9 cX11_odds 10 s _ gx_G RX11 := S
  have hx := S.1
  have hb := S.2.1
  have hl : lv_has ls 10 [(0, .ref (E.2.2 + 0)), (1, .int i), (2, .int n), (3, .int p)] := hl
  refine lv_aload_n hx hb dX11_odds_0 rfl (lv_at hl 0 rfl) ?_
  refine gx_getr (j := 30) S hK hw t_0 cl_12 7 (by decide) rfl mw_454 rfl dX11_odds_1 ?_
  refine lv_iload_n hx hb dX11_odds_4 rfl (lv_at hl 1 rfl) ?_
  refine gx_cVi (As := [.int i]) (rest := []) S hK gx_ok hw (c_Scene_has l (E := E) gs0 gt0 30 i (by first | rfl | decide | simp [up2, gs0]) (by first | rfl | decide | simp [up2, gs0])) cw_X11_172 t_30 cl_7 ⟨Nat.le_of_ble_eq_true rfl, Nat.le_of_ble_eq_true rfl⟩ rfl hl.1 rfl (Nat.le_of_ble_eq_true rfl) ⟨Nat.le_of_ble_eq_true rfl, Nat.le_of_ble_eq_true rfl⟩ dX11_odds_5 (fun r_1 σ_1 τ_1 H locs hp hw => ?_)
  obtain ⟨er_1, es_1, et_1⟩ := hp
  obtain rfl := er_1.symm
  obtain rfl := es_1.symm
  obtain rfl := et_1.symm
  refine lv_if_eq (tgt := 31) hx hb dX11_odds_8 (by decide) (fun _ => ?_) (fun h => absurd (by decide) h)
  refine lv_iconst (v := (-1)) hx hb dX11_odds_31 (by decide) ?_
  exact gx_ri (post := fun r σ1 τ1 => r = (-1) ∧ (∀ c k : Nat, 199 ≤ c → σ1 c k = gs0 c k) ∧ True) (v := (-1)) S hr hlk hw rfl dX11_odds_32 ⟨rfl, (fun c9 k9 h9 => rfl), trivial⟩
set_option maxHeartbeats 4000000 in
set_option maxRecDepth 100000 in
theorem c_x_marks (l : Launch) {E : gE} (b n t : Int32)  : gx_Mi l yX11_marks cX11_marks 10 (some .int) 1 gx_tb E gs0 gt0 [.ref (E.2.2 + 0), .int b, .int n, .int t] (fun r σ1 τ1 => r = (if 0 ≤ b.toInt ∧ b.toInt ≤ 99 ∧ 0 ≤ n.toInt ∧ n.toInt ≤ 9 ∧ 0 ≤ t.toInt ∧ t.toInt < 4096 then 0 else (-1)) ∧ (∀ c k : Nat, 199 ≤ c → σ1 c k = gs0 c k) ∧ True) := by
  refine gx_bi (by decide +kernel) (Nat.le_of_ble_eq_true rfl) ?_
  intro P9 e9 s m9 below meth C9 S hr hlk hK hw ls hl
  have S : CallFix P9 m9 C9 cX11_marks 10 s _ gx_G RX11 := S
  have hx := S.1
  have hb := S.2.1
  have hl : lv_has ls 10 [(0, .ref (E.2.2 + 0)), (1, .int b), (2, .int n), (3, .int t)] := hl
  refine lv_iload_n hx hb dX11_marks_0 rfl (lv_at hl 1 rfl) ?_
  refine lv_iload_n hx hb dX11_marks_1 rfl (lv_at hl 2 rfl) ?_
  refine gx_cSi (As := [.int b, .int n]) (rest := []) S hK gx_ok hw (c_isLoad l (E := E) gs0 gt0 b n ) cw_X11_227 ⟨Nat.le_of_ble_eq_true rfl, Nat.le_of_ble_eq_true rfl⟩ rfl hl.1 rfl (Nat.le_of_ble_eq_true rfl) ⟨Nat.le_of_ble_eq_true rfl, Nat.le_of_ble_eq_true rfl⟩ dX11_marks_2 (fun r_1 σ_1 τ_1 H locs hp hw => ?_)
  obtain ⟨er_1, es_1, et_1⟩ := hp
  obtain rfl := er_1.symm
  obtain rfl := es_1.symm
  obtain rfl := et_1.symm
  by_cases c_2 : 0 ≤ b.toInt ∧ b.toInt ≤ 99 ∧ 0 ≤ n.toInt ∧ n.toInt ≤ 9
  · refine gx_top (v := 1) (if_pos c_2) ?_
    refine lv_if_eq (tgt := 19) hx hb dX11_marks_5 (by decide) (fun h => absurd h (by decide)) (fun _ => ?_)
    refine lv_iload_n hx hb dX11_marks_8 rfl (lv_at hl 3 rfl) ?_
    refine lv_if_lt (tgt := 19) hx hb dX11_marks_9 (by decide) (fun c_3 => ?_) (fun c_3 => ?_)
    · refine lv_iconst (v := (-1)) hx hb dX11_marks_19 (by decide) ?_
      exact gx_ri (post := fun r σ1 τ1 => r = (if 0 ≤ b.toInt ∧ b.toInt ≤ 99 ∧ 0 ≤ n.toInt ∧ n.toInt ≤ 9 ∧ 0 ≤ t.toInt ∧ t.toInt < 4096 then 0 else (-1)) ∧ (∀ c k : Nat, 199 ≤ c → σ1 c k = gs0 c k) ∧ True) (v := (-1)) S hr hlk hw rfl dX11_marks_20 ⟨(by simp only [fa_lt, fa_le, fa_eq, show (0 : Int32).toInt = 0 from rfl] at c_3; exact ((if_neg (by omega)).trans (rfl)).symm), (fun c9 k9 h9 => rfl), trivial⟩
    · refine lv_iload_n hx hb dX11_marks_12 rfl (lv_at hl 3 rfl) ?_
      refine lv_sipush (v := 4096) hx hb dX11_marks_13 (by decide) ?_
      refine lv_icmp_lt (tgt := 21) hx hb dX11_marks_16 (by decide) (fun c_4 => ?_) (fun c_4 => ?_)
      · refine lv_iconst (v := 0) hx hb dX11_marks_21 (by decide) ?_
        refine lv_istore (lv' := [(4, .int 0), (0, .ref (E.2.2 + 0)), (1, .int b), (2, .int n), (3, .int t)]) hx hb dX11_marks_22 hl (by decide) rfl (fun ls hl => ?_)
        refine lv_iconst (v := 0) hx hb dX11_marks_24 (by decide) ?_
        refine lv_istore (lv' := [(5, .int 0), (4, .int 0), (0, .ref (E.2.2 + 0)), (1, .int b), (2, .int n), (3, .int t)]) hx hb dX11_marks_25 hl (by decide) rfl (fun ls hl => ?_)
        refine lv_iconst (v := (-1)) hx hb dX11_marks_27 (by decide) ?_
        refine lv_istore (lv' := [(6, .int (-1)), (5, .int 0), (4, .int 0), (0, .ref (E.2.2 + 0)), (1, .int b), (2, .int n), (3, .int t)]) hx hb dX11_marks_28 hl (by decide) rfl (fun ls hl => ?_)
        refine lv_iconst (v := 0) hx hb dX11_marks_30 (by decide) ?_
        refine lv_istore (lv' := [(7, .int 0), (6, .int (-1)), (5, .int 0), (4, .int 0), (0, .ref (E.2.2 + 0)), (1, .int b), (2, .int n), (3, .int t)]) hx hb dX11_marks_31 hl (by decide) rfl (fun ls hl => ?_)
        refine lv_iload hx hb dX11_marks_33 (lv_at hl 0 rfl) ?_
        refine lv_aload_n hx hb dX11_marks_35 rfl (lv_at hl 4 rfl) ?_
        refine gx_getr (j := 3) S hK hw t_0 cl_12 1 (by decide) rfl mw_448 rfl dX11_marks_36 ?_
        refine gx_get S hK hw t_3 cl_9 6 (by decide) rfl mw_155 rfl dX11_marks_39 ?_
        refine gx_top (v := 0) (by first | rfl | decide | simp [up2, gs0]) ?_
        refine lv_icmp_ge (tgt := 126) hx hb dX11_marks_42 (by decide) (fun _ => ?_) (fun h => absurd (by decide) h)
        refine lv_iload hx hb dX11_marks_126 (lv_at hl 3 rfl) ?_
        refine lv_if_ne (tgt := 142) hx hb dX11_marks_128 (by decide) (fun h => absurd (by decide) h) (fun _ => ?_)
        refine lv_aload_n hx hb dX11_marks_131 rfl (lv_at hl 4 rfl) ?_
        refine gx_getr (j := 156) S hK hw t_0 cl_12 13 (by decide) rfl mw_460 rfl dX11_marks_132 ?_
        refine lv_lconst (v := 0) hx hb dX11_marks_135 (by decide) ?_
        refine gx_cVv (As := [.long 0]) (rest := []) S hK gx_ok hw (c_tell1 l (E := E) gs0 gt0 0 ) cw_X11_307 t_156 cl_5 ⟨Nat.le_of_ble_eq_true rfl, Nat.le_of_ble_eq_true rfl⟩ rfl hl.1 rfl (Nat.le_of_ble_eq_true rfl) ⟨Nat.le_of_ble_eq_true rfl, Nat.le_of_ble_eq_true rfl⟩ dX11_marks_136 (fun σ_5 τ_5 H locs hp hw => ?_)
        obtain ⟨es_5, -⟩ := hp
        obtain rfl := es_5.symm
        refine lv_goto (tgt := 161) hx hb dX11_marks_139 (by decide) ?_
        refine lv_iload hx hb dX11_marks_161 (lv_at hl 3 rfl) ?_
        exact gx_ri (post := fun r σ1 τ1 => r = (if 0 ≤ b.toInt ∧ b.toInt ≤ 99 ∧ 0 ≤ n.toInt ∧ n.toInt ≤ 9 ∧ 0 ≤ t.toInt ∧ t.toInt < 4096 then 0 else (-1)) ∧ (∀ c k : Nat, 199 ≤ c → σ1 c k = gs0 c k) ∧ True) (v := 0) S hr hlk hw rfl dX11_marks_163 ⟨(by simp only [fa_lt, fa_le, fa_eq, show (0 : Int32).toInt = 0 from rfl, show (4096 : Int32).toInt = 4096 from rfl] at c_3 c_4; exact (if_pos (by omega)).symm), (fun c9 k9 h9 => (up2_hi (by omega) h9).trans (rfl)), trivial⟩
      · refine lv_iconst (v := (-1)) hx hb dX11_marks_19 (by decide) ?_
        exact gx_ri (post := fun r σ1 τ1 => r = (if 0 ≤ b.toInt ∧ b.toInt ≤ 99 ∧ 0 ≤ n.toInt ∧ n.toInt ≤ 9 ∧ 0 ≤ t.toInt ∧ t.toInt < 4096 then 0 else (-1)) ∧ (∀ c k : Nat, 199 ≤ c → σ1 c k = gs0 c k) ∧ True) (v := (-1)) S hr hlk hw rfl dX11_marks_20 ⟨(by simp only [fa_lt, fa_le, fa_eq, show (0 : Int32).toInt = 0 from rfl, show (4096 : Int32).toInt = 4096 from rfl] at c_3 c_4; exact ((if_neg (by omega)).trans (rfl)).symm), (fun c9 k9 h9 => rfl), trivial⟩
  · refine gx_top (v := 0) ((if_neg c_2).trans (rfl)) ?_
    refine lv_if_eq (tgt := 19) hx hb dX11_marks_5 (by decide) (fun _ => ?_) (fun h => absurd (by decide) h)
    refine lv_iconst (v := (-1)) hx hb dX11_marks_19 (by decide) ?_
    exact gx_ri (post := fun r σ1 τ1 => r = (if 0 ≤ b.toInt ∧ b.toInt ≤ 99 ∧ 0 ≤ n.toInt ∧ n.toInt ≤ 9 ∧ 0 ≤ t.toInt ∧ t.toInt < 4096 then 0 else (-1)) ∧ (∀ c k : Nat, 199 ≤ c → σ1 c k = gs0 c k) ∧ True) (v := (-1)) S hr hlk hw rfl dX11_marks_20 ⟨(by exact ((if_neg (by omega)).trans (rfl)).symm), (fun c9 k9 h9 => rfl), trivial⟩
set_option maxHeartbeats 4000000 in
set_option maxRecDepth 100000 in
theorem c_x_order (l : Launch) {E : gE} (i n : Int32)  : gx_Mi l yX11_order cX11_order 7 (some .int) 1 gx_tb E gs0 gt0 [.ref (E.2.2 + 0), .int i, .int n] (fun r σ1 τ1 => r = (-1) ∧ (∀ c k : Nat, 199 ≤ c → σ1 c k = gs0 c k) ∧ True) := by
  refine gx_bi (by decide +kernel) (Nat.le_of_ble_eq_true rfl) ?_
  intro P9 e9 s m9 below meth C9 S hr hlk hK hw ls hl
  have S : CallFix P9 m9 C9 cX11_order 7 s _ gx_G RX11 := S
  have hx := S.1
  have hb := S.2.1
  have hl : lv_has ls 7 [(0, .ref (E.2.2 + 0)), (1, .int i), (2, .int n)] := hl
  refine lv_iload_n hx hb dX11_order_0 rfl (lv_at hl 1 rfl) ?_
  refine lv_iload_n hx hb dX11_order_1 rfl (lv_at hl 2 rfl) ?_
  refine lv_icmp_eq (tgt := 27) hx hb dX11_order_2 (by decide) (fun c_1 => ?_) (fun c_1 => ?_)
  · refine lv_iconst (v := (-1)) hx hb dX11_order_27 (by decide) ?_
    exact gx_ri (post := fun r σ1 τ1 => r = (-1) ∧ (∀ c k : Nat, 199 ≤ c → σ1 c k = gs0 c k) ∧ True) (v := (-1)) S hr hlk hw rfl dX11_order_28 ⟨rfl, (fun c9 k9 h9 => rfl), trivial⟩
  · refine lv_aload_n hx hb dX11_order_5 rfl (lv_at hl 0 rfl) ?_
    refine gx_getr (j := 30) S hK hw t_0 cl_12 7 (by decide) rfl mw_454 rfl dX11_order_6 ?_
    refine lv_iload_n hx hb dX11_order_9 rfl (lv_at hl 1 rfl) ?_
    refine gx_cVi (As := [.int i]) (rest := []) S hK gx_ok hw (c_Scene_isOnWay l (E := E) gs0 gt0 30 i (by first | rfl | decide | simp [up2, gs0]) (by first | rfl | decide | simp [up2, gs0])) cw_X11_241 t_30 cl_7 ⟨Nat.le_of_ble_eq_true rfl, Nat.le_of_ble_eq_true rfl⟩ rfl hl.1 rfl (Nat.le_of_ble_eq_true rfl) ⟨Nat.le_of_ble_eq_true rfl, Nat.le_of_ble_eq_true rfl⟩ dX11_order_10 (fun r_2 σ_2 τ_2 H locs hp hw => ?_)
    obtain ⟨er_2, es_2, et_2⟩ := hp
    obtain rfl := er_2.symm
    obtain rfl := es_2.symm
    obtain rfl := et_2.symm
    refine lv_if_eq (tgt := 27) hx hb dX11_order_13 (by decide) (fun _ => ?_) (fun h => absurd (by decide) h)
    refine lv_iconst (v := (-1)) hx hb dX11_order_27 (by decide) ?_
    exact gx_ri (post := fun r σ1 τ1 => r = (-1) ∧ (∀ c k : Nat, 199 ≤ c → σ1 c k = gs0 c k) ∧ True) (v := (-1)) S hr hlk hw rfl dX11_order_28 ⟨rfl, (fun c9 k9 h9 => rfl), trivial⟩
set_option maxHeartbeats 4000000 in
set_option maxRecDepth 100000 in
theorem c_x_keep (l : Launch) {E : gE} (i : Int32)  : gx_Mi l yX11_keep cX11_keep 2 (some .boolean) 1 gx_tb E gs0 gt0 [.ref (E.2.2 + 0), .int i] (fun r σ1 τ1 => r = (if 0 ≤ i.toInt ∧ i.toInt ≤ 2 then 1 else 0) ∧ (∀ c k : Nat, 199 ≤ c → σ1 c k = gs0 c k) ∧ True) := by
  refine gx_bi (by decide +kernel) (Nat.le_of_ble_eq_true rfl) ?_
  intro P9 e9 s m9 below meth C9 S hr hlk hK hw ls hl
  have S : CallFix P9 m9 C9 cX11_keep 2 s _ gx_G RX11 := S
  have hx := S.1
  have hb := S.2.1
  have hl : lv_has ls 2 [(0, .ref (E.2.2 + 0)), (1, .int i)] := hl
  refine lv_iload_n hx hb dX11_keep_0 rfl (lv_at hl 1 rfl) ?_
  refine lv_if_lt (tgt := 9) hx hb dX11_keep_1 (by decide) (fun c_1 => ?_) (fun c_1 => ?_)
  · refine lv_iconst (v := 0) hx hb dX11_keep_9 (by decide) ?_
    exact gx_ri (post := fun r σ1 τ1 => r = (if 0 ≤ i.toInt ∧ i.toInt ≤ 2 then 1 else 0) ∧ (∀ c k : Nat, 199 ≤ c → σ1 c k = gs0 c k) ∧ True) (v := 0) S hr hlk hw rfl dX11_keep_10 ⟨(by simp only [fa_lt, fa_le, fa_eq, show (0 : Int32).toInt = 0 from rfl] at c_1; exact ((if_neg (by omega)).trans (rfl)).symm), (fun c9 k9 h9 => rfl), trivial⟩
  · refine lv_iload_n hx hb dX11_keep_4 rfl (lv_at hl 1 rfl) ?_
    refine lv_iconst (v := 3) hx hb dX11_keep_5 (by decide) ?_
    refine lv_icmp_lt (tgt := 11) hx hb dX11_keep_6 (by decide) (fun c_2 => ?_) (fun c_2 => ?_)
    · have hsp : i = 0 ∨ i = 1 ∨ i = 2 := by simp only [fa_lt, fa_le, fa_eq, show (0 : Int32).toInt = 0 from rfl, show (1 : Int32).toInt = 1 from rfl, show (2 : Int32).toInt = 2 from rfl, show (3 : Int32).toInt = 3 from rfl] at c_1 c_2 ⊢; omega
      rcases hsp with e_3 | e_4 | e_5
      · have hl : lv_has ls 2 [(0, .ref (E.2.2 + 0)), (1, .int 0)] := by rw [e_3] at hl; exact hl
        refine lv_aload_n hx hb dX11_keep_11 rfl (lv_at hl 0 rfl) ?_
        refine gx_getr (j := 151) S hK hw t_0 cl_12 10 (by decide) rfl mw_457 rfl dX11_keep_12 ?_
        refine lv_iload_n hx hb dX11_keep_15 rfl (lv_at hl 1 rfl) ?_
        refine gx_aald (r := 178) S hK hw t_151 0 rfl (gx_in rfl (by decide) (by decide)) rfl dX11_keep_16 ?_
        refine lv_aload_n hx hb dX11_keep_17 rfl (lv_at hl 0 rfl) ?_
        refine gx_getr (j := 30) S hK hw t_0 cl_12 7 (by decide) rfl mw_454 rfl dX11_keep_18 ?_
        refine gx_cVv (As := [.ref (E.2.2 + 30)]) (rest := []) S hK gx_ok hw (c_Scene_copy l (E := E) gs0 gt0 178 30 (by first | rfl | decide | simp [up2, gs0]) (by first | rfl | decide | simp [up2, gs0]) (by first | rfl | decide | simp [up2, gs0]) (by first | rfl | decide | simp [up2, gs0]) (by first | rfl | decide | simp [up2, gs0]) (by first | rfl | decide | simp [up2, gs0]) (by first | rfl | decide | simp [up2, gs0]) (by first | rfl | decide | simp [up2, gs0]) (by first | rfl | decide | simp [up2, gs0])) cw_X11_270 t_178 cl_7 ⟨Nat.le_of_ble_eq_true rfl, Nat.le_of_ble_eq_true rfl⟩ rfl hl.1 rfl (Nat.le_of_ble_eq_true rfl) ⟨Nat.le_of_ble_eq_true rfl, Nat.le_of_ble_eq_true rfl⟩ dX11_keep_21 (fun σ_6 τ_6 H locs hp hw => ?_)
        obtain ⟨es_6, et_6⟩ := hp
        obtain rfl := es_6.symm
        obtain rfl := et_6.symm
        refine lv_aload_n hx hb dX11_keep_24 rfl (lv_at hl 0 rfl) ?_
        refine lv_dup hx hb dX11_keep_25 rfl ?_
        refine gx_get S hK hw t_0 cl_12 11 (by decide) rfl mw_458 rfl dX11_keep_26 ?_
        refine gx_top (v := 0) (by first | rfl | decide | simp [up2, gs0]) ?_
        refine lv_iconst (v := 1) hx hb dX11_keep_29 (by decide) ?_
        refine lv_iload_n hx hb dX11_keep_30 rfl (lv_at hl 1 rfl) ?_
        refine lv_ishl hx hb dX11_keep_31 ?_
        refine gx_top (v := 1) (by decide) ?_
        refine lv_ior hx hb dX11_keep_32 ?_
        refine gx_top (v := 1) (by decide) ?_
        refine gx_put S hK gx_ok hw t_0 cl_12 11 (by decide) rfl mw_458 rfl rfl (ty := .int) (v := 1) (by decide +kernel) rfl rfl dX11_keep_33 (fun H locs hw => ?_)
        refine lv_iconst (v := 1) hx hb dX11_keep_36 (by decide) ?_
        exact gx_ri (post := fun r σ1 τ1 => r = (if 0 ≤ i.toInt ∧ i.toInt ≤ 2 then 1 else 0) ∧ (∀ c k : Nat, 199 ≤ c → σ1 c k = gs0 c k) ∧ True) (v := 1) S hr hlk hw rfl dX11_keep_37 ⟨(by simp only [fa_lt, fa_le, fa_eq, show (0 : Int32).toInt = 0 from rfl, show (3 : Int32).toInt = 3 from rfl] at c_1 c_2 e_3; exact (if_pos (by omega)).symm), (fun c9 k9 h9 => (up2_hi (by omega) h9).trans ((up2_hi (by omega) h9).trans ((up2_hi (by omega) h9).trans ((up2_hi (by omega) h9).trans ((up2_hi (by omega) h9).trans ((up2_hi (by omega) h9).trans (rfl))))))), trivial⟩
      · have hl : lv_has ls 2 [(0, .ref (E.2.2 + 0)), (1, .int 1)] := by rw [e_4] at hl; exact hl
        refine lv_aload_n hx hb dX11_keep_11 rfl (lv_at hl 0 rfl) ?_
        refine gx_getr (j := 151) S hK hw t_0 cl_12 10 (by decide) rfl mw_457 rfl dX11_keep_12 ?_
        refine lv_iload_n hx hb dX11_keep_15 rfl (lv_at hl 1 rfl) ?_
        refine gx_aald (r := 185) S hK hw t_151 1 rfl (gx_in rfl (by decide) (by decide)) rfl dX11_keep_16 ?_
        refine lv_aload_n hx hb dX11_keep_17 rfl (lv_at hl 0 rfl) ?_
        refine gx_getr (j := 30) S hK hw t_0 cl_12 7 (by decide) rfl mw_454 rfl dX11_keep_18 ?_
        refine gx_cVv (As := [.ref (E.2.2 + 30)]) (rest := []) S hK gx_ok hw (c_Scene_copy l (E := E) gs0 gt0 185 30 (by first | rfl | decide | simp [up2, gs0]) (by first | rfl | decide | simp [up2, gs0]) (by first | rfl | decide | simp [up2, gs0]) (by first | rfl | decide | simp [up2, gs0]) (by first | rfl | decide | simp [up2, gs0]) (by first | rfl | decide | simp [up2, gs0]) (by first | rfl | decide | simp [up2, gs0]) (by first | rfl | decide | simp [up2, gs0]) (by first | rfl | decide | simp [up2, gs0])) cw_X11_270 t_185 cl_7 ⟨Nat.le_of_ble_eq_true rfl, Nat.le_of_ble_eq_true rfl⟩ rfl hl.1 rfl (Nat.le_of_ble_eq_true rfl) ⟨Nat.le_of_ble_eq_true rfl, Nat.le_of_ble_eq_true rfl⟩ dX11_keep_21 (fun σ_7 τ_7 H locs hp hw => ?_)
        obtain ⟨es_7, et_7⟩ := hp
        obtain rfl := es_7.symm
        obtain rfl := et_7.symm
        refine lv_aload_n hx hb dX11_keep_24 rfl (lv_at hl 0 rfl) ?_
        refine lv_dup hx hb dX11_keep_25 rfl ?_
        refine gx_get S hK hw t_0 cl_12 11 (by decide) rfl mw_458 rfl dX11_keep_26 ?_
        refine gx_top (v := 0) (by first | rfl | decide | simp [up2, gs0]) ?_
        refine lv_iconst (v := 1) hx hb dX11_keep_29 (by decide) ?_
        refine lv_iload_n hx hb dX11_keep_30 rfl (lv_at hl 1 rfl) ?_
        refine lv_ishl hx hb dX11_keep_31 ?_
        refine gx_top (v := 2) (by decide) ?_
        refine lv_ior hx hb dX11_keep_32 ?_
        refine gx_top (v := 2) (by decide) ?_
        refine gx_put S hK gx_ok hw t_0 cl_12 11 (by decide) rfl mw_458 rfl rfl (ty := .int) (v := 2) (by decide +kernel) rfl rfl dX11_keep_33 (fun H locs hw => ?_)
        refine lv_iconst (v := 1) hx hb dX11_keep_36 (by decide) ?_
        exact gx_ri (post := fun r σ1 τ1 => r = (if 0 ≤ i.toInt ∧ i.toInt ≤ 2 then 1 else 0) ∧ (∀ c k : Nat, 199 ≤ c → σ1 c k = gs0 c k) ∧ True) (v := 1) S hr hlk hw rfl dX11_keep_37 ⟨(by simp only [fa_lt, fa_le, fa_eq, show (0 : Int32).toInt = 0 from rfl, show (1 : Int32).toInt = 1 from rfl, show (3 : Int32).toInt = 3 from rfl] at c_1 c_2 e_4; exact (if_pos (by omega)).symm), (fun c9 k9 h9 => (up2_hi (by omega) h9).trans ((up2_hi (by omega) h9).trans ((up2_hi (by omega) h9).trans ((up2_hi (by omega) h9).trans ((up2_hi (by omega) h9).trans ((up2_hi (by omega) h9).trans (rfl))))))), trivial⟩
      · have hl : lv_has ls 2 [(0, .ref (E.2.2 + 0)), (1, .int 2)] := by rw [e_5] at hl; exact hl
        refine lv_aload_n hx hb dX11_keep_11 rfl (lv_at hl 0 rfl) ?_
        refine gx_getr (j := 151) S hK hw t_0 cl_12 10 (by decide) rfl mw_457 rfl dX11_keep_12 ?_
        refine lv_iload_n hx hb dX11_keep_15 rfl (lv_at hl 1 rfl) ?_
        refine gx_aald (r := 192) S hK hw t_151 2 rfl (gx_in rfl (by decide) (by decide)) rfl dX11_keep_16 ?_
        refine lv_aload_n hx hb dX11_keep_17 rfl (lv_at hl 0 rfl) ?_
        refine gx_getr (j := 30) S hK hw t_0 cl_12 7 (by decide) rfl mw_454 rfl dX11_keep_18 ?_
        refine gx_cVv (As := [.ref (E.2.2 + 30)]) (rest := []) S hK gx_ok hw (c_Scene_copy l (E := E) gs0 gt0 192 30 (by first | rfl | decide | simp [up2, gs0]) (by first | rfl | decide | simp [up2, gs0]) (by first | rfl | decide | simp [up2, gs0]) (by first | rfl | decide | simp [up2, gs0]) (by first | rfl | decide | simp [up2, gs0]) (by first | rfl | decide | simp [up2, gs0]) (by first | rfl | decide | simp [up2, gs0]) (by first | rfl | decide | simp [up2, gs0]) (by first | rfl | decide | simp [up2, gs0])) cw_X11_270 t_192 cl_7 ⟨Nat.le_of_ble_eq_true rfl, Nat.le_of_ble_eq_true rfl⟩ rfl hl.1 rfl (Nat.le_of_ble_eq_true rfl) ⟨Nat.le_of_ble_eq_true rfl, Nat.le_of_ble_eq_true rfl⟩ dX11_keep_21 (fun σ_8 τ_8 H locs hp hw => ?_)
        obtain ⟨es_8, et_8⟩ := hp
        obtain rfl := es_8.symm
        obtain rfl := et_8.symm
        refine lv_aload_n hx hb dX11_keep_24 rfl (lv_at hl 0 rfl) ?_
        refine lv_dup hx hb dX11_keep_25 rfl ?_
        refine gx_get S hK hw t_0 cl_12 11 (by decide) rfl mw_458 rfl dX11_keep_26 ?_
        refine gx_top (v := 0) (by first | rfl | decide | simp [up2, gs0]) ?_
        refine lv_iconst (v := 1) hx hb dX11_keep_29 (by decide) ?_
        refine lv_iload_n hx hb dX11_keep_30 rfl (lv_at hl 1 rfl) ?_
        refine lv_ishl hx hb dX11_keep_31 ?_
        refine gx_top (v := 4) (by decide) ?_
        refine lv_ior hx hb dX11_keep_32 ?_
        refine gx_top (v := 4) (by decide) ?_
        refine gx_put S hK gx_ok hw t_0 cl_12 11 (by decide) rfl mw_458 rfl rfl (ty := .int) (v := 4) (by decide +kernel) rfl rfl dX11_keep_33 (fun H locs hw => ?_)
        refine lv_iconst (v := 1) hx hb dX11_keep_36 (by decide) ?_
        exact gx_ri (post := fun r σ1 τ1 => r = (if 0 ≤ i.toInt ∧ i.toInt ≤ 2 then 1 else 0) ∧ (∀ c k : Nat, 199 ≤ c → σ1 c k = gs0 c k) ∧ True) (v := 1) S hr hlk hw rfl dX11_keep_37 ⟨(by simp only [fa_lt, fa_le, fa_eq, show (0 : Int32).toInt = 0 from rfl, show (2 : Int32).toInt = 2 from rfl, show (3 : Int32).toInt = 3 from rfl] at c_1 c_2 e_5; exact (if_pos (by omega)).symm), (fun c9 k9 h9 => (up2_hi (by omega) h9).trans ((up2_hi (by omega) h9).trans ((up2_hi (by omega) h9).trans ((up2_hi (by omega) h9).trans ((up2_hi (by omega) h9).trans ((up2_hi (by omega) h9).trans (rfl))))))), trivial⟩
    · refine lv_iconst (v := 0) hx hb dX11_keep_9 (by decide) ?_
      exact gx_ri (post := fun r σ1 τ1 => r = (if 0 ≤ i.toInt ∧ i.toInt ≤ 2 then 1 else 0) ∧ (∀ c k : Nat, 199 ≤ c → σ1 c k = gs0 c k) ∧ True) (v := 0) S hr hlk hw rfl dX11_keep_10 ⟨(by simp only [fa_lt, fa_le, fa_eq, show (0 : Int32).toInt = 0 from rfl, show (3 : Int32).toInt = 3 from rfl] at c_1 c_2; exact ((if_neg (by omega)).trans (rfl)).symm), (fun c9 k9 h9 => rfl), trivial⟩
set_option maxHeartbeats 4000000 in
set_option maxRecDepth 100000 in
theorem c_x_again (l : Launch) {E : gE} (i : Int32)  : gx_Mi l yX11_again cX11_again 2 (some .boolean) 0 gx_tb E gs0 gt0 [.ref (E.2.2 + 0), .int i] (fun r σ1 τ1 => r = 0 ∧ (∀ c k : Nat, 199 ≤ c → σ1 c k = gs0 c k) ∧ True) := by
  refine gx_bi (by decide +kernel) (Nat.le_of_ble_eq_true rfl) ?_
  intro P9 e9 s m9 below meth C9 S hr hlk hK hw ls hl
  have S : CallFix P9 m9 C9 cX11_again 2 s _ gx_G RX11 := S
  have hx := S.1
  have hb := S.2.1
  have hl : lv_has ls 2 [(0, .ref (E.2.2 + 0)), (1, .int i)] := hl
  refine lv_iload_n hx hb dX11_again_0 rfl (lv_at hl 1 rfl) ?_
  refine lv_if_lt (tgt := 20) hx hb dX11_again_1 (by decide) (fun c_1 => ?_) (fun c_1 => ?_)
  · refine lv_iconst (v := 0) hx hb dX11_again_20 (by decide) ?_
    exact gx_ri (post := fun r σ1 τ1 => r = 0 ∧ (∀ c k : Nat, 199 ≤ c → σ1 c k = gs0 c k) ∧ True) (v := 0) S hr hlk hw rfl dX11_again_21 ⟨rfl, (fun c9 k9 h9 => rfl), trivial⟩
  · refine lv_iload_n hx hb dX11_again_4 rfl (lv_at hl 1 rfl) ?_
    refine lv_iconst (v := 3) hx hb dX11_again_5 (by decide) ?_
    refine lv_icmp_ge (tgt := 20) hx hb dX11_again_6 (by decide) (fun c_2 => ?_) (fun c_2 => ?_)
    · refine lv_iconst (v := 0) hx hb dX11_again_20 (by decide) ?_
      exact gx_ri (post := fun r σ1 τ1 => r = 0 ∧ (∀ c k : Nat, 199 ≤ c → σ1 c k = gs0 c k) ∧ True) (v := 0) S hr hlk hw rfl dX11_again_21 ⟨rfl, (fun c9 k9 h9 => rfl), trivial⟩
    · refine lv_aload_n hx hb dX11_again_9 rfl (lv_at hl 0 rfl) ?_
      refine gx_get S hK hw t_0 cl_12 11 (by decide) rfl mw_458 rfl dX11_again_10 ?_
      refine gx_top (v := 0) (by first | rfl | decide | simp [up2, gs0]) ?_
      refine lv_iload_n hx hb dX11_again_13 rfl (lv_at hl 1 rfl) ?_
      refine lv_ishr hx hb dX11_again_14 ?_
      refine gx_top (v := 0) (by exact gx_0shr _) ?_
      refine lv_iconst (v := 1) hx hb dX11_again_15 (by decide) ?_
      refine lv_iand hx hb dX11_again_16 ?_
      refine gx_top (v := 0) (by decide) ?_
      refine lv_if_ne (tgt := 22) hx hb dX11_again_17 (by decide) (fun h => absurd (by decide) h) (fun _ => ?_)
      refine lv_iconst (v := 0) hx hb dX11_again_20 (by decide) ?_
      exact gx_ri (post := fun r σ1 τ1 => r = 0 ∧ (∀ c k : Nat, 199 ≤ c → σ1 c k = gs0 c k) ∧ True) (v := 0) S hr hlk hw rfl dX11_again_21 ⟨rfl, (fun c9 k9 h9 => rfl), trivial⟩
set_option maxHeartbeats 4000000 in
set_option maxRecDepth 100000 in
theorem c_x_count (l : Launch) {E : gE} (n : Int32)  : gx_Mi l yX11_count cX11_count 2 (some .int) 1 gx_tb E gs0 gt0 [.ref (E.2.2 + 0), .int n] (fun r σ1 τ1 => r = (if 0 ≤ n.toInt ∧ n.toInt ≤ 11 then 0 else (-100)) ∧ (∀ c k : Nat, 199 ≤ c → σ1 c k = gs0 c k) ∧ True) := by
  refine gx_bi (by decide +kernel) (Nat.le_of_ble_eq_true rfl) ?_
  intro P9 e9 s m9 below meth C9 S hr hlk hK hw ls hl
  have S : CallFix P9 m9 C9 cX11_count 2 s _ gx_G RX11 := S
  have hx := S.1
  have hb := S.2.1
  have hl : lv_has ls 2 [(0, .ref (E.2.2 + 0)), (1, .int n)] := hl
  refine lv_iload_n hx hb dX11_count_0 rfl (lv_at hl 1 rfl) ?_
  by_cases c_1 : n = 0
  · refine gx_top (v := 0) c_1 ?_
    refine lv_tableIn (tgt := 64) hx hb dX11_count_1 (by decide) (by decide) rfl (by decide) ?_
    refine lv_aload_n hx hb dX11_count_64 rfl (lv_at hl 0 rfl) ?_
    refine gx_getr (j := 3) S hK hw t_0 cl_12 1 (by decide) rfl mw_448 rfl dX11_count_65 ?_
    refine gx_get S hK hw t_3 cl_9 6 (by decide) rfl mw_155 rfl dX11_count_68 ?_
    refine gx_top (v := 0) (by first | rfl | decide | simp [up2, gs0]) ?_
    exact gx_ri (post := fun r σ1 τ1 => r = (if 0 ≤ n.toInt ∧ n.toInt ≤ 11 then 0 else (-100)) ∧ (∀ c k : Nat, 199 ≤ c → σ1 c k = gs0 c k) ∧ True) (v := 0) S hr hlk hw rfl dX11_count_71 ⟨(by simp only [fa_lt, fa_le, fa_eq, show (0 : Int32).toInt = 0 from rfl] at c_1; exact (if_pos (by omega)).symm), (fun c9 k9 h9 => rfl), trivial⟩
  by_cases c_2 : n = 1
  · refine gx_top (v := 1) c_2 ?_
    refine lv_tableIn (tgt := 72) hx hb dX11_count_1 (by decide) (by decide) rfl (by decide) ?_
    refine lv_aload_n hx hb dX11_count_72 rfl (lv_at hl 0 rfl) ?_
    refine gx_getr (j := 30) S hK hw t_0 cl_12 7 (by decide) rfl mw_454 rfl dX11_count_73 ?_
    refine gx_get S hK hw t_30 cl_7 6 (by decide) rfl mw_272 rfl dX11_count_76 ?_
    refine gx_top (v := 0) (by first | rfl | decide | simp [up2, gs0]) ?_
    exact gx_ri (post := fun r σ1 τ1 => r = (if 0 ≤ n.toInt ∧ n.toInt ≤ 11 then 0 else (-100)) ∧ (∀ c k : Nat, 199 ≤ c → σ1 c k = gs0 c k) ∧ True) (v := 0) S hr hlk hw rfl dX11_count_79 ⟨(by simp only [fa_lt, fa_le, fa_eq, show (1 : Int32).toInt = 1 from rfl] at c_2; exact (if_pos (by omega)).symm), (fun c9 k9 h9 => rfl), trivial⟩
  by_cases c_3 : n = 2
  · refine gx_top (v := 2) c_3 ?_
    refine lv_tableIn (tgt := 80) hx hb dX11_count_1 (by decide) (by decide) rfl (by decide) ?_
    refine lv_aload_n hx hb dX11_count_80 rfl (lv_at hl 0 rfl) ?_
    refine gx_getr (j := 30) S hK hw t_0 cl_12 7 (by decide) rfl mw_454 rfl dX11_count_81 ?_
    refine gx_get S hK hw t_30 cl_7 8 (by decide) rfl mw_280 rfl dX11_count_84 ?_
    refine gx_top (v := 0) (by first | rfl | decide | simp [up2, gs0]) ?_
    exact gx_ri (post := fun r σ1 τ1 => r = (if 0 ≤ n.toInt ∧ n.toInt ≤ 11 then 0 else (-100)) ∧ (∀ c k : Nat, 199 ≤ c → σ1 c k = gs0 c k) ∧ True) (v := 0) S hr hlk hw rfl dX11_count_87 ⟨(by simp only [fa_lt, fa_le, fa_eq, show (2 : Int32).toInt = 2 from rfl] at c_3; exact (if_pos (by omega)).symm), (fun c9 k9 h9 => rfl), trivial⟩
  by_cases c_4 : n = 3
  · refine gx_top (v := 3) c_4 ?_
    refine lv_tableIn (tgt := 88) hx hb dX11_count_1 (by decide) (by decide) rfl (by decide) ?_
    refine lv_aload_n hx hb dX11_count_88 rfl (lv_at hl 0 rfl) ?_
    refine gx_getr (j := 3) S hK hw t_0 cl_12 1 (by decide) rfl mw_448 rfl dX11_count_89 ?_
    refine gx_get S hK hw t_3 cl_9 7 (by decide) rfl mw_158 rfl dX11_count_92 ?_
    refine gx_top (v := 0) (by first | rfl | decide | simp [up2, gs0]) ?_
    exact gx_ri (post := fun r σ1 τ1 => r = (if 0 ≤ n.toInt ∧ n.toInt ≤ 11 then 0 else (-100)) ∧ (∀ c k : Nat, 199 ≤ c → σ1 c k = gs0 c k) ∧ True) (v := 0) S hr hlk hw rfl dX11_count_95 ⟨(by simp only [fa_lt, fa_le, fa_eq, show (3 : Int32).toInt = 3 from rfl] at c_4; exact (if_pos (by omega)).symm), (fun c9 k9 h9 => rfl), trivial⟩
  by_cases c_5 : n = 4
  · refine gx_top (v := 4) c_5 ?_
    refine lv_tableIn (tgt := 96) hx hb dX11_count_1 (by decide) (by decide) rfl (by decide) ?_
    refine lv_aload_n hx hb dX11_count_96 rfl (lv_at hl 0 rfl) ?_
    refine gx_getr (j := 30) S hK hw t_0 cl_12 7 (by decide) rfl mw_454 rfl dX11_count_97 ?_
    refine gx_get S hK hw t_30 cl_7 7 (by decide) rfl mw_276 rfl dX11_count_100 ?_
    refine gx_top (v := 0) (by first | rfl | decide | simp [up2, gs0]) ?_
    exact gx_ri (post := fun r σ1 τ1 => r = (if 0 ≤ n.toInt ∧ n.toInt ≤ 11 then 0 else (-100)) ∧ (∀ c k : Nat, 199 ≤ c → σ1 c k = gs0 c k) ∧ True) (v := 0) S hr hlk hw rfl dX11_count_103 ⟨(by simp only [fa_lt, fa_le, fa_eq, show (4 : Int32).toInt = 4 from rfl] at c_5; exact (if_pos (by omega)).symm), (fun c9 k9 h9 => rfl), trivial⟩
  by_cases c_6 : n = 5
  · refine gx_top (v := 5) c_6 ?_
    refine lv_tableIn (tgt := 104) hx hb dX11_count_1 (by decide) (by decide) rfl (by decide) ?_
    refine lv_aload_n hx hb dX11_count_104 rfl (lv_at hl 0 rfl) ?_
    refine gx_getr (j := 30) S hK hw t_0 cl_12 7 (by decide) rfl mw_454 rfl dX11_count_105 ?_
    refine gx_cVi (As := []) (rest := []) S hK gx_ok hw (c_Scene_onWay l (E := E) gs0 gt0 30 (by first | rfl | decide | simp [up2, gs0]) (by first | rfl | decide | simp [up2, gs0]) (by first | rfl | decide | simp [up2, gs0]) (by first | rfl | decide | simp [up2, gs0])) cw_X11_166 t_30 cl_7 ⟨Nat.le_of_ble_eq_true rfl, Nat.le_of_ble_eq_true rfl⟩ rfl hl.1 rfl (Nat.le_of_ble_eq_true rfl) ⟨Nat.le_of_ble_eq_true rfl, Nat.le_of_ble_eq_true rfl⟩ dX11_count_108 (fun r_7 σ_7 τ_7 H locs hp hw => ?_)
    obtain ⟨er_7, es_7, et_7⟩ := hp
    obtain rfl := er_7.symm
    obtain rfl := es_7.symm
    obtain rfl := et_7.symm
    exact gx_ri (post := fun r σ1 τ1 => r = (if 0 ≤ n.toInt ∧ n.toInt ≤ 11 then 0 else (-100)) ∧ (∀ c k : Nat, 199 ≤ c → σ1 c k = gs0 c k) ∧ True) (v := 0) S hr hlk hw rfl dX11_count_111 ⟨(by simp only [fa_lt, fa_le, fa_eq, show (5 : Int32).toInt = 5 from rfl] at c_6; exact (if_pos (by omega)).symm), (fun c9 k9 h9 => rfl), trivial⟩
  by_cases c_8 : n = 6
  · refine gx_top (v := 6) c_8 ?_
    refine lv_tableIn (tgt := 112) hx hb dX11_count_1 (by decide) (by decide) rfl (by decide) ?_
    refine lv_aload_n hx hb dX11_count_112 rfl (lv_at hl 0 rfl) ?_
    refine gx_getr (j := 30) S hK hw t_0 cl_12 7 (by decide) rfl mw_454 rfl dX11_count_113 ?_
    refine gx_get S hK hw t_30 cl_7 9 (by decide) rfl mw_283 rfl dX11_count_116 ?_
    refine gx_top (v := 0) (by first | rfl | decide | simp [up2, gs0]) ?_
    exact gx_ri (post := fun r σ1 τ1 => r = (if 0 ≤ n.toInt ∧ n.toInt ≤ 11 then 0 else (-100)) ∧ (∀ c k : Nat, 199 ≤ c → σ1 c k = gs0 c k) ∧ True) (v := 0) S hr hlk hw rfl dX11_count_119 ⟨(by simp only [fa_lt, fa_le, fa_eq, show (6 : Int32).toInt = 6 from rfl] at c_8; exact (if_pos (by omega)).symm), (fun c9 k9 h9 => rfl), trivial⟩
  by_cases c_9 : n = 7
  · refine gx_top (v := 7) c_9 ?_
    refine lv_tableIn (tgt := 120) hx hb dX11_count_1 (by decide) (by decide) rfl (by decide) ?_
    refine lv_aload_n hx hb dX11_count_120 rfl (lv_at hl 0 rfl) ?_
    refine gx_getr (j := 30) S hK hw t_0 cl_12 7 (by decide) rfl mw_454 rfl dX11_count_121 ?_
    refine gx_get S hK hw t_30 cl_7 10 (by decide) rfl mw_286 rfl dX11_count_124 ?_
    refine gx_top (v := 0) (by first | rfl | decide | simp [up2, gs0]) ?_
    exact gx_ri (post := fun r σ1 τ1 => r = (if 0 ≤ n.toInt ∧ n.toInt ≤ 11 then 0 else (-100)) ∧ (∀ c k : Nat, 199 ≤ c → σ1 c k = gs0 c k) ∧ True) (v := 0) S hr hlk hw rfl dX11_count_127 ⟨(by simp only [fa_lt, fa_le, fa_eq, show (7 : Int32).toInt = 7 from rfl] at c_9; exact (if_pos (by omega)).symm), (fun c9 k9 h9 => rfl), trivial⟩
  by_cases c_10 : n = 8
  · refine gx_top (v := 8) c_10 ?_
    refine lv_tableIn (tgt := 128) hx hb dX11_count_1 (by decide) (by decide) rfl (by decide) ?_
    refine lv_aload_n hx hb dX11_count_128 rfl (lv_at hl 0 rfl) ?_
    refine gx_getr (j := 44) S hK hw t_0 cl_12 9 (by decide) rfl mw_456 rfl dX11_count_129 ?_
    refine gx_get S hK hw t_44 cl_4 2 (by decide) rfl mw_322 rfl dX11_count_132 ?_
    refine gx_top (v := 0) (by first | rfl | decide | simp [up2, gs0]) ?_
    exact gx_ri (post := fun r σ1 τ1 => r = (if 0 ≤ n.toInt ∧ n.toInt ≤ 11 then 0 else (-100)) ∧ (∀ c k : Nat, 199 ≤ c → σ1 c k = gs0 c k) ∧ True) (v := 0) S hr hlk hw rfl dX11_count_135 ⟨(by simp only [fa_lt, fa_le, fa_eq, show (8 : Int32).toInt = 8 from rfl] at c_10; exact (if_pos (by omega)).symm), (fun c9 k9 h9 => rfl), trivial⟩
  by_cases c_11 : n = 9
  · refine gx_top (v := 9) c_11 ?_
    refine lv_tableIn (tgt := 136) hx hb dX11_count_1 (by decide) (by decide) rfl (by decide) ?_
    refine lv_aload_n hx hb dX11_count_136 rfl (lv_at hl 0 rfl) ?_
    refine gx_getr (j := 152) S hK hw t_0 cl_12 12 (by decide) rfl mw_459 rfl dX11_count_137 ?_
    refine gx_get S hK hw t_152 cl_1 3 (by decide) rfl mw_340 rfl dX11_count_140 ?_
    refine gx_top (v := 0) (by first | rfl | decide | simp [up2, gs0]) ?_
    exact gx_ri (post := fun r σ1 τ1 => r = (if 0 ≤ n.toInt ∧ n.toInt ≤ 11 then 0 else (-100)) ∧ (∀ c k : Nat, 199 ≤ c → σ1 c k = gs0 c k) ∧ True) (v := 0) S hr hlk hw rfl dX11_count_143 ⟨(by simp only [fa_lt, fa_le, fa_eq, show (9 : Int32).toInt = 9 from rfl] at c_11; exact (if_pos (by omega)).symm), (fun c9 k9 h9 => rfl), trivial⟩
  by_cases c_12 : n = 10
  · refine gx_top (v := 10) c_12 ?_
    refine lv_tableIn (tgt := 144) hx hb dX11_count_1 (by decide) (by decide) rfl (by decide) ?_
    refine lv_aload_n hx hb dX11_count_144 rfl (lv_at hl 0 rfl) ?_
    refine gx_getr (j := 156) S hK hw t_0 cl_12 13 (by decide) rfl mw_460 rfl dX11_count_145 ?_
    refine gx_get S hK hw t_156 cl_5 1 (by decide) rfl mw_358 rfl dX11_count_148 ?_
    refine gx_top (v := 0) (by first | rfl | decide | simp [up2, gs0]) ?_
    exact gx_ri (post := fun r σ1 τ1 => r = (if 0 ≤ n.toInt ∧ n.toInt ≤ 11 then 0 else (-100)) ∧ (∀ c k : Nat, 199 ≤ c → σ1 c k = gs0 c k) ∧ True) (v := 0) S hr hlk hw rfl dX11_count_151 ⟨(by simp only [fa_lt, fa_le, fa_eq, show (10 : Int32).toInt = 10 from rfl] at c_12; exact (if_pos (by omega)).symm), (fun c9 k9 h9 => rfl), trivial⟩
  by_cases c_13 : n = 11
  · refine gx_top (v := 11) c_13 ?_
    refine lv_tableIn (tgt := 152) hx hb dX11_count_1 (by decide) (by decide) rfl (by decide) ?_
    refine lv_aload_n hx hb dX11_count_152 rfl (lv_at hl 0 rfl) ?_
    refine gx_getr (j := 1) S hK hw t_0 cl_12 0 (by decide) rfl mw_447 rfl dX11_count_153 ?_
    refine gx_get S hK hw t_1 cl_8 2 (by decide) rfl mw_132 rfl dX11_count_156 ?_
    refine gx_top (v := 0) (by first | rfl | decide | simp [up2, gs0]) ?_
    exact gx_ri (post := fun r σ1 τ1 => r = (if 0 ≤ n.toInt ∧ n.toInt ≤ 11 then 0 else (-100)) ∧ (∀ c k : Nat, 199 ≤ c → σ1 c k = gs0 c k) ∧ True) (v := 0) S hr hlk hw rfl dX11_count_159 ⟨(by simp only [fa_lt, fa_le, fa_eq, show (11 : Int32).toInt = 11 from rfl] at c_13; exact (if_pos (by omega)).symm), (fun c9 k9 h9 => rfl), trivial⟩
  refine lv_tableOut (tgt := 160) hx hb dX11_count_1 (by have t_c_1 := lv_neT (a := 0) c_1 rfl; have t_c_2 := lv_neT (a := 1) c_2 rfl; have t_c_3 := lv_neT (a := 2) c_3 rfl; have t_c_4 := lv_neT (a := 3) c_4 rfl; have t_c_5 := lv_neT (a := 4) c_5 rfl; have t_c_6 := lv_neT (a := 5) c_6 rfl; have t_c_8 := lv_neT (a := 6) c_8 rfl; have t_c_9 := lv_neT (a := 7) c_9 rfl; have t_c_10 := lv_neT (a := 8) c_10 rfl; have t_c_11 := lv_neT (a := 9) c_11 rfl; have t_c_12 := lv_neT (a := 10) c_12 rfl; have t_c_13 := lv_neT (a := 11) c_13 rfl; omega) (by decide) ?_
  refine lv_bipush (v := (-100)) hx hb dX11_count_160 (by decide) ?_
  exact gx_ri (post := fun r σ1 τ1 => r = (if 0 ≤ n.toInt ∧ n.toInt ≤ 11 then 0 else (-100)) ∧ (∀ c k : Nat, 199 ≤ c → σ1 c k = gs0 c k) ∧ True) (v := (-100)) S hr hlk hw rfl dX11_count_162 ⟨(by simp only [fa_lt, fa_le, fa_eq, show (0 : Int32).toInt = 0 from rfl, show (1 : Int32).toInt = 1 from rfl, show (2 : Int32).toInt = 2 from rfl, show (3 : Int32).toInt = 3 from rfl, show (4 : Int32).toInt = 4 from rfl, show (5 : Int32).toInt = 5 from rfl, show (6 : Int32).toInt = 6 from rfl, show (7 : Int32).toInt = 7 from rfl, show (8 : Int32).toInt = 8 from rfl, show (9 : Int32).toInt = 9 from rfl, show (10 : Int32).toInt = 10 from rfl, show (11 : Int32).toInt = 11 from rfl] at c_1 c_2 c_3 c_4 c_5 c_6 c_8 c_9 c_10 c_11 c_12 c_13; exact ((if_neg (by omega)).trans (rfl)).symm), (fun c9 k9 h9 => rfl), trivial⟩
end
