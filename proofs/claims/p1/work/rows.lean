section
-- ===== PART A: goes FIRST, ahead of the names: the tables' words, and 'selects' of the private methods out of them =====
/-- a private method of a class that the tables say can be made, by its rows of tables_1 -/
def lw_okq (q : MethodName × Nat) : Prop := (q.1.cls ≠ "java/lang/invoke/MethodHandle" ∧ q.1.cls ≠ "java/lang/invoke/VarHandle") ∧ Cond.instantiable q.1.cls q.2 ∈ tables_1 ∧ Cond.privateMethod q.1 ∈ tables_1 ∧ Cond.instanceMethod q.1 ∈ tables_1
theorem lw_p0 : lw_okq (⟨"DownTheGutter$Town", "clear", "()V"⟩, 9) := ⟨⟨by decide +kernel, by decide +kernel⟩, List.mem_of_getElem? (i := 55) (by decide +kernel), List.mem_of_getElem? (i := 433) (by decide +kernel), List.mem_of_getElem? (i := 434) (by decide +kernel)⟩
theorem lw_p1 : lw_okq (⟨"DownTheGutter$Town", "readLine", "(LDownTheGutter$Signs;I)I"⟩, 9) := ⟨⟨by decide +kernel, by decide +kernel⟩, List.mem_of_getElem? (i := 55) (by decide +kernel), List.mem_of_getElem? (i := 448) (by decide +kernel), List.mem_of_getElem? (i := 449) (by decide +kernel)⟩
theorem lw_p2 : lw_okq (⟨"DownTheGutter$Town", "addPlace", "(IIII)V"⟩, 9) := ⟨⟨by decide +kernel, by decide +kernel⟩, List.mem_of_getElem? (i := 55) (by decide +kernel), List.mem_of_getElem? (i := 545) (by decide +kernel), List.mem_of_getElem? (i := 546) (by decide +kernel)⟩
theorem lw_p3 : lw_okq (⟨"DownTheGutter$Town", "use", "(II)V"⟩, 9) := ⟨⟨by decide +kernel, by decide +kernel⟩, List.mem_of_getElem? (i := 55) (by decide +kernel), List.mem_of_getElem? (i := 553) (by decide +kernel), List.mem_of_getElem? (i := 554) (by decide +kernel)⟩
theorem lw_p4 : lw_okq (⟨"DownTheGutter$Town", "readFork", "(LDownTheGutter$Signs;II)I"⟩, 9) := ⟨⟨by decide +kernel, by decide +kernel⟩, List.mem_of_getElem? (i := 55) (by decide +kernel), List.mem_of_getElem? (i := 557) (by decide +kernel), List.mem_of_getElem? (i := 558) (by decide +kernel)⟩
theorem lw_p5 : lw_okq (⟨"DownTheGutter$Town", "readMill", "(LDownTheGutter$Signs;II)I"⟩, 9) := ⟨⟨by decide +kernel, by decide +kernel⟩, List.mem_of_getElem? (i := 55) (by decide +kernel), List.mem_of_getElem? (i := 561) (by decide +kernel), List.mem_of_getElem? (i := 562) (by decide +kernel)⟩
theorem lw_p6 : lw_okq (⟨"DownTheGutter$Town", "readFigure", "(LDownTheGutter$Signs;III)I"⟩, 9) := ⟨⟨by decide +kernel, by decide +kernel⟩, List.mem_of_getElem? (i := 55) (by decide +kernel), List.mem_of_getElem? (i := 569) (by decide +kernel), List.mem_of_getElem? (i := 570) (by decide +kernel)⟩
theorem lw_p7 : lw_okq (⟨"DownTheGutter$Town", "judgeLetters", "()I"⟩, 9) := ⟨⟨by decide +kernel, by decide +kernel⟩, List.mem_of_getElem? (i := 55) (by decide +kernel), List.mem_of_getElem? (i := 573) (by decide +kernel), List.mem_of_getElem? (i := 574) (by decide +kernel)⟩
theorem lw_p8 : lw_okq (⟨"DownTheGutter$Rule", "clear", "()V"⟩, 11) := ⟨⟨by decide +kernel, by decide +kernel⟩, List.mem_of_getElem? (i := 107) (by decide +kernel), List.mem_of_getElem? (i := 614) (by decide +kernel), List.mem_of_getElem? (i := 615) (by decide +kernel)⟩
theorem lw_p9 : lw_okq (⟨"DownTheGutter$Rule", "addFact", "(I)V"⟩, 11) := ⟨⟨by decide +kernel, by decide +kernel⟩, List.mem_of_getElem? (i := 107) (by decide +kernel), List.mem_of_getElem? (i := 620) (by decide +kernel), List.mem_of_getElem? (i := 621) (by decide +kernel)⟩
theorem lw_p10 : lw_okq (⟨"DownTheGutter$Rule", "addStep", "(I)V"⟩, 11) := ⟨⟨by decide +kernel, by decide +kernel⟩, List.mem_of_getElem? (i := 107) (by decide +kernel), List.mem_of_getElem? (i := 624) (by decide +kernel), List.mem_of_getElem? (i := 625) (by decide +kernel)⟩
theorem lw_p11 : lw_okq (⟨"DownTheGutter$Rule", "finish", "(I)I"⟩, 11) := ⟨⟨by decide +kernel, by decide +kernel⟩, List.mem_of_getElem? (i := 107) (by decide +kernel), List.mem_of_getElem? (i := 628) (by decide +kernel), List.mem_of_getElem? (i := 629) (by decide +kernel)⟩
theorem lw_p12 : lw_okq (⟨"DownTheGutter$Rule", "release", "(I)V"⟩, 11) := ⟨⟨by decide +kernel, by decide +kernel⟩, List.mem_of_getElem? (i := 107) (by decide +kernel), List.mem_of_getElem? (i := 632) (by decide +kernel), List.mem_of_getElem? (i := 633) (by decide +kernel)⟩
theorem lw_p13 : lw_okq (⟨"DownTheGutter$Rule", "takeThing", "(LDownTheGutter$Signs;I)Z"⟩, 11) := ⟨⟨by decide +kernel, by decide +kernel⟩, List.mem_of_getElem? (i := 107) (by decide +kernel), List.mem_of_getElem? (i := 639) (by decide +kernel), List.mem_of_getElem? (i := 640) (by decide +kernel)⟩
theorem lw_p14 : lw_okq (⟨"DownTheGutter$Rule", "hold", "(I)V"⟩, 11) := ⟨⟨by decide +kernel, by decide +kernel⟩, List.mem_of_getElem? (i := 107) (by decide +kernel), List.mem_of_getElem? (i := 647) (by decide +kernel), List.mem_of_getElem? (i := 648) (by decide +kernel)⟩
theorem lw_p15 : lw_okq (⟨"DownTheGutter$Rule", "takeBehindThing", "(LDownTheGutter$Signs;I)Z"⟩, 11) := ⟨⟨by decide +kernel, by decide +kernel⟩, List.mem_of_getElem? (i := 107) (by decide +kernel), List.mem_of_getElem? (i := 651) (by decide +kernel), List.mem_of_getElem? (i := 652) (by decide +kernel)⟩
def lw_privs_1 : List (MethodName × Nat) := [(⟨"DownTheGutter$Town", "clear", "()V"⟩, 9), (⟨"DownTheGutter$Town", "readLine", "(LDownTheGutter$Signs;I)I"⟩, 9), (⟨"DownTheGutter$Town", "addPlace", "(IIII)V"⟩, 9), (⟨"DownTheGutter$Town", "use", "(II)V"⟩, 9), (⟨"DownTheGutter$Town", "readFork", "(LDownTheGutter$Signs;II)I"⟩, 9), (⟨"DownTheGutter$Town", "readMill", "(LDownTheGutter$Signs;II)I"⟩, 9), (⟨"DownTheGutter$Town", "readFigure", "(LDownTheGutter$Signs;III)I"⟩, 9), (⟨"DownTheGutter$Town", "judgeLetters", "()I"⟩, 9), (⟨"DownTheGutter$Rule", "clear", "()V"⟩, 11), (⟨"DownTheGutter$Rule", "addFact", "(I)V"⟩, 11), (⟨"DownTheGutter$Rule", "addStep", "(I)V"⟩, 11), (⟨"DownTheGutter$Rule", "finish", "(I)I"⟩, 11), (⟨"DownTheGutter$Rule", "release", "(I)V"⟩, 11), (⟨"DownTheGutter$Rule", "takeThing", "(LDownTheGutter$Signs;I)Z"⟩, 11), (⟨"DownTheGutter$Rule", "hold", "(I)V"⟩, 11), (⟨"DownTheGutter$Rule", "takeBehindThing", "(LDownTheGutter$Signs;I)Z"⟩, 11)]
theorem lw_r1 : ∀ q ∈ lw_privs_1, lw_okq q := List.forall_mem_cons.mpr ⟨lw_p0, List.forall_mem_cons.mpr ⟨lw_p1, List.forall_mem_cons.mpr ⟨lw_p2, List.forall_mem_cons.mpr ⟨lw_p3, List.forall_mem_cons.mpr ⟨lw_p4, List.forall_mem_cons.mpr ⟨lw_p5, List.forall_mem_cons.mpr ⟨lw_p6, List.forall_mem_cons.mpr ⟨lw_p7, List.forall_mem_cons.mpr ⟨lw_p8, List.forall_mem_cons.mpr ⟨lw_p9, List.forall_mem_cons.mpr ⟨lw_p10, List.forall_mem_cons.mpr ⟨lw_p11, List.forall_mem_cons.mpr ⟨lw_p12, List.forall_mem_cons.mpr ⟨lw_p13, List.forall_mem_cons.mpr ⟨lw_p14, List.forall_mem_cons.mpr ⟨lw_p15, fun _ h => absurd h List.not_mem_nil⟩⟩⟩⟩⟩⟩⟩⟩⟩⟩⟩⟩⟩⟩⟩⟩
theorem lw_p16 : lw_okq (⟨"DownTheGutter$Rule", "lengthenNumber", "(I)Z"⟩, 11) := ⟨⟨by decide +kernel, by decide +kernel⟩, List.mem_of_getElem? (i := 107) (by decide +kernel), List.mem_of_getElem? (i := 655) (by decide +kernel), List.mem_of_getElem? (i := 656) (by decide +kernel)⟩
theorem lw_p17 : lw_okq (⟨"DownTheGutter$Rule", "close", "()Z"⟩, 11) := ⟨⟨by decide +kernel, by decide +kernel⟩, List.mem_of_getElem? (i := 107) (by decide +kernel), List.mem_of_getElem? (i := 659) (by decide +kernel), List.mem_of_getElem? (i := 660) (by decide +kernel)⟩
theorem lw_p18 : lw_okq (⟨"DownTheGutter", "passMinutes", "(I)V"⟩, 16) := ⟨⟨by decide +kernel, by decide +kernel⟩, List.mem_of_getElem? (i := 28) (by decide +kernel), List.mem_of_getElem? (i := 750) (by decide +kernel), List.mem_of_getElem? (i := 751) (by decide +kernel)⟩
theorem lw_p19 : lw_okq (⟨"DownTheGutter$Current", "flowIn", "(I)I"⟩, 10) := ⟨⟨by decide +kernel, by decide +kernel⟩, List.mem_of_getElem? (i := 278) (by decide +kernel), List.mem_of_getElem? (i := 758) (by decide +kernel), List.mem_of_getElem? (i := 759) (by decide +kernel)⟩
theorem lw_p20 : lw_okq (⟨"DownTheGutter$Current", "step", "(LDownTheGutter$Scene;II)Z"⟩, 10) := ⟨⟨by decide +kernel, by decide +kernel⟩, List.mem_of_getElem? (i := 278) (by decide +kernel), List.mem_of_getElem? (i := 768) (by decide +kernel), List.mem_of_getElem? (i := 769) (by decide +kernel)⟩
theorem lw_p21 : lw_okq (⟨"DownTheGutter$Current", "wayOf", "(LDownTheGutter$Scene;III)I"⟩, 10) := ⟨⟨by decide +kernel, by decide +kernel⟩, List.mem_of_getElem? (i := 278) (by decide +kernel), List.mem_of_getElem? (i := 788) (by decide +kernel), List.mem_of_getElem? (i := 789) (by decide +kernel)⟩
theorem lw_p22 : lw_okq (⟨"DownTheGutter$Current", "pays", "(LDownTheGutter$Scene;II)Z"⟩, 10) := ⟨⟨by decide +kernel, by decide +kernel⟩, List.mem_of_getElem? (i := 278) (by decide +kernel), List.mem_of_getElem? (i := 818) (by decide +kernel), List.mem_of_getElem? (i := 819) (by decide +kernel)⟩
theorem lw_p23 : lw_okq (⟨"DownTheGutter$Current", "arrives", "(LDownTheGutter$Scene;III)Z"⟩, 10) := ⟨⟨by decide +kernel, by decide +kernel⟩, List.mem_of_getElem? (i := 278) (by decide +kernel), List.mem_of_getElem? (i := 830) (by decide +kernel), List.mem_of_getElem? (i := 831) (by decide +kernel)⟩
theorem lw_p24 : lw_okq (⟨"DownTheGutter$Diary", "readAct", "(LDownTheGutter$Signs;I)I"⟩, 5) := ⟨⟨by decide +kernel, by decide +kernel⟩, List.mem_of_getElem? (i := 149) (by decide +kernel), List.mem_of_getElem? (i := 857) (by decide +kernel), List.mem_of_getElem? (i := 858) (by decide +kernel)⟩
theorem lw_p25 : lw_okq (⟨"DownTheGutter$Diary", "readPut", "(LDownTheGutter$Signs;I)I"⟩, 5) := ⟨⟨by decide +kernel, by decide +kernel⟩, List.mem_of_getElem? (i := 149) (by decide +kernel), List.mem_of_getElem? (i := 863) (by decide +kernel), List.mem_of_getElem? (i := 864) (by decide +kernel)⟩
theorem lw_p26 : lw_okq (⟨"DownTheGutter$Diary", "add", "(IIII)V"⟩, 5) := ⟨⟨by decide +kernel, by decide +kernel⟩, List.mem_of_getElem? (i := 149) (by decide +kernel), List.mem_of_getElem? (i := 876) (by decide +kernel), List.mem_of_getElem? (i := 877) (by decide +kernel)⟩
theorem lw_p27 : lw_okq (⟨"DownTheGutter$Diary", "readTurn", "(LDownTheGutter$Signs;I)I"⟩, 5) := ⟨⟨by decide +kernel, by decide +kernel⟩, List.mem_of_getElem? (i := 149) (by decide +kernel), List.mem_of_getElem? (i := 880) (by decide +kernel), List.mem_of_getElem? (i := 881) (by decide +kernel)⟩
theorem lw_p28 : lw_okq (⟨"DownTheGutter$Diary", "readMinutes", "(LDownTheGutter$Signs;I)I"⟩, 5) := ⟨⟨by decide +kernel, by decide +kernel⟩, List.mem_of_getElem? (i := 149) (by decide +kernel), List.mem_of_getElem? (i := 884) (by decide +kernel), List.mem_of_getElem? (i := 885) (by decide +kernel)⟩
theorem lw_p29 : lw_okq (⟨"DownTheGutter$Diary", "readGive", "(LDownTheGutter$Signs;I)I"⟩, 5) := ⟨⟨by decide +kernel, by decide +kernel⟩, List.mem_of_getElem? (i := 149) (by decide +kernel), List.mem_of_getElem? (i := 888) (by decide +kernel), List.mem_of_getElem? (i := 889) (by decide +kernel)⟩
theorem lw_p30 : lw_okq (⟨"DownTheGutter", "perform", "(I)I"⟩, 16) := ⟨⟨by decide +kernel, by decide +kernel⟩, List.mem_of_getElem? (i := 28) (by decide +kernel), List.mem_of_getElem? (i := 893) (by decide +kernel), List.mem_of_getElem? (i := 894) (by decide +kernel)⟩
theorem lw_p31 : lw_okq (⟨"DownTheGutter$Diary", "has", "(I)Z"⟩, 5) := ⟨⟨by decide +kernel, by decide +kernel⟩, List.mem_of_getElem? (i := 149) (by decide +kernel), List.mem_of_getElem? (i := 901) (by decide +kernel), List.mem_of_getElem? (i := 902) (by decide +kernel)⟩
def lw_privs_2 : List (MethodName × Nat) := [(⟨"DownTheGutter$Rule", "lengthenNumber", "(I)Z"⟩, 11), (⟨"DownTheGutter$Rule", "close", "()Z"⟩, 11), (⟨"DownTheGutter", "passMinutes", "(I)V"⟩, 16), (⟨"DownTheGutter$Current", "flowIn", "(I)I"⟩, 10), (⟨"DownTheGutter$Current", "step", "(LDownTheGutter$Scene;II)Z"⟩, 10), (⟨"DownTheGutter$Current", "wayOf", "(LDownTheGutter$Scene;III)I"⟩, 10), (⟨"DownTheGutter$Current", "pays", "(LDownTheGutter$Scene;II)Z"⟩, 10), (⟨"DownTheGutter$Current", "arrives", "(LDownTheGutter$Scene;III)Z"⟩, 10), (⟨"DownTheGutter$Diary", "readAct", "(LDownTheGutter$Signs;I)I"⟩, 5), (⟨"DownTheGutter$Diary", "readPut", "(LDownTheGutter$Signs;I)I"⟩, 5), (⟨"DownTheGutter$Diary", "add", "(IIII)V"⟩, 5), (⟨"DownTheGutter$Diary", "readTurn", "(LDownTheGutter$Signs;I)I"⟩, 5), (⟨"DownTheGutter$Diary", "readMinutes", "(LDownTheGutter$Signs;I)I"⟩, 5), (⟨"DownTheGutter$Diary", "readGive", "(LDownTheGutter$Signs;I)I"⟩, 5), (⟨"DownTheGutter", "perform", "(I)I"⟩, 16), (⟨"DownTheGutter$Diary", "has", "(I)Z"⟩, 5)]
theorem lw_r2 : ∀ q ∈ lw_privs_2, lw_okq q := List.forall_mem_cons.mpr ⟨lw_p16, List.forall_mem_cons.mpr ⟨lw_p17, List.forall_mem_cons.mpr ⟨lw_p18, List.forall_mem_cons.mpr ⟨lw_p19, List.forall_mem_cons.mpr ⟨lw_p20, List.forall_mem_cons.mpr ⟨lw_p21, List.forall_mem_cons.mpr ⟨lw_p22, List.forall_mem_cons.mpr ⟨lw_p23, List.forall_mem_cons.mpr ⟨lw_p24, List.forall_mem_cons.mpr ⟨lw_p25, List.forall_mem_cons.mpr ⟨lw_p26, List.forall_mem_cons.mpr ⟨lw_p27, List.forall_mem_cons.mpr ⟨lw_p28, List.forall_mem_cons.mpr ⟨lw_p29, List.forall_mem_cons.mpr ⟨lw_p30, List.forall_mem_cons.mpr ⟨lw_p31, fun _ h => absurd h List.not_mem_nil⟩⟩⟩⟩⟩⟩⟩⟩⟩⟩⟩⟩⟩⟩⟩⟩
theorem lw_p32 : lw_okq (⟨"DownTheGutter", "sailed", "(IIII)I"⟩, 16) := ⟨⟨by decide +kernel, by decide +kernel⟩, List.mem_of_getElem? (i := 28) (by decide +kernel), List.mem_of_getElem? (i := 990) (by decide +kernel), List.mem_of_getElem? (i := 991) (by decide +kernel)⟩
theorem lw_p33 : lw_okq (⟨"DownTheGutter", "fewestTurns", "(I)I"⟩, 16) := ⟨⟨by decide +kernel, by decide +kernel⟩, List.mem_of_getElem? (i := 28) (by decide +kernel), List.mem_of_getElem? (i := 1064) (by decide +kernel), List.mem_of_getElem? (i := 1065) (by decide +kernel)⟩
theorem lw_p34 : lw_okq (⟨"DownTheGutter$Trials", "remember", "(II)V"⟩, 9) := ⟨⟨by decide +kernel, by decide +kernel⟩, List.mem_of_getElem? (i := 321) (by decide +kernel), List.mem_of_getElem? (i := 1072) (by decide +kernel), List.mem_of_getElem? (i := 1073) (by decide +kernel)⟩
theorem lw_p35 : lw_okq (⟨"DownTheGutter$Trials", "spread", "(II)V"⟩, 9) := ⟨⟨by decide +kernel, by decide +kernel⟩, List.mem_of_getElem? (i := 321) (by decide +kernel), List.mem_of_getElem? (i := 1085) (by decide +kernel), List.mem_of_getElem? (i := 1086) (by decide +kernel)⟩
theorem lw_p36 : lw_okq (⟨"DownTheGutter", "firstGets", "(IIIZ)Z"⟩, 16) := ⟨⟨by decide +kernel, by decide +kernel⟩, List.mem_of_getElem? (i := 28) (by decide +kernel), List.mem_of_getElem? (i := 1103) (by decide +kernel), List.mem_of_getElem? (i := 1104) (by decide +kernel)⟩
theorem lw_p37 : lw_okq (⟨"DownTheGutter", "findFits", "()V"⟩, 16) := ⟨⟨by decide +kernel, by decide +kernel⟩, List.mem_of_getElem? (i := 28) (by decide +kernel), List.mem_of_getElem? (i := 1126) (by decide +kernel), List.mem_of_getElem? (i := 1127) (by decide +kernel)⟩
theorem lw_p38 : lw_okq (⟨"DownTheGutter$Corks", "has", "(I)Z"⟩, 4) := ⟨⟨by decide +kernel, by decide +kernel⟩, List.mem_of_getElem? (i := 243) (by decide +kernel), List.mem_of_getElem? (i := 1142) (by decide +kernel), List.mem_of_getElem? (i := 1143) (by decide +kernel)⟩
theorem lw_p39 : lw_okq (⟨"DownTheGutter$Trials", "tally", "(I)I"⟩, 9) := ⟨⟨by decide +kernel, by decide +kernel⟩, List.mem_of_getElem? (i := 321) (by decide +kernel), List.mem_of_getElem? (i := 1174) (by decide +kernel), List.mem_of_getElem? (i := 1175) (by decide +kernel)⟩
theorem lw_p40 : lw_okq (⟨"java/lang/Throwable", "fillInStackTrace", "(I)Ljava/lang/Throwable;"⟩, 6) := ⟨⟨by decide +kernel, by decide +kernel⟩, List.mem_of_getElem? (i := 1256) (by decide +kernel), List.mem_of_getElem? (i := 1254) (by decide +kernel), List.mem_of_getElem? (i := 1255) (by decide +kernel)⟩
theorem lw_p41 : lw_okq (⟨"DownTheGutterModel", "begins", "(I)I"⟩, 60) := ⟨⟨by decide +kernel, by decide +kernel⟩, List.mem_of_getElem? (i := 1321) (by decide +kernel), List.mem_of_getElem? (i := 1527) (by decide +kernel), List.mem_of_getElem? (i := 1528) (by decide +kernel)⟩
theorem lw_p42 : lw_okq (⟨"DownTheGutterModel", "readsPlace", "()Z"⟩, 60) := ⟨⟨by decide +kernel, by decide +kernel⟩, List.mem_of_getElem? (i := 1321) (by decide +kernel), List.mem_of_getElem? (i := 1532) (by decide +kernel), List.mem_of_getElem? (i := 1533) (by decide +kernel)⟩
theorem lw_p43 : lw_okq (⟨"DownTheGutterModel", "takesOf", "(Ljava/lang/String;)I"⟩, 60) := ⟨⟨by decide +kernel, by decide +kernel⟩, List.mem_of_getElem? (i := 1321) (by decide +kernel), List.mem_of_getElem? (i := 1537) (by decide +kernel), List.mem_of_getElem? (i := 1538) (by decide +kernel)⟩
theorem lw_p44 : lw_okq (⟨"DownTheGutterModel", "among", "(Ljava/lang/String;)I"⟩, 60) := ⟨⟨by decide +kernel, by decide +kernel⟩, List.mem_of_getElem? (i := 1321) (by decide +kernel), List.mem_of_getElem? (i := 1541) (by decide +kernel), List.mem_of_getElem? (i := 1542) (by decide +kernel)⟩
theorem lw_p45 : lw_okq (⟨"DownTheGutterModel", "readsLetter", "()I"⟩, 60) := ⟨⟨by decide +kernel, by decide +kernel⟩, List.mem_of_getElem? (i := 1321) (by decide +kernel), List.mem_of_getElem? (i := 1569) (by decide +kernel), List.mem_of_getElem? (i := 1570) (by decide +kernel)⟩
theorem lw_p46 : lw_okq (⟨"DownTheGutterModel", "takes", "(I)Z"⟩, 60) := ⟨⟨by decide +kernel, by decide +kernel⟩, List.mem_of_getElem? (i := 1321) (by decide +kernel), List.mem_of_getElem? (i := 1655) (by decide +kernel), List.mem_of_getElem? (i := 1656) (by decide +kernel)⟩
theorem lw_p47 : lw_okq (⟨"DownTheGutterModel", "faultOf", "(IIZ)I"⟩, 60) := ⟨⟨by decide +kernel, by decide +kernel⟩, List.mem_of_getElem? (i := 1321) (by decide +kernel), List.mem_of_getElem? (i := 1659) (by decide +kernel), List.mem_of_getElem? (i := 1660) (by decide +kernel)⟩
def lw_privs_3 : List (MethodName × Nat) := [(⟨"DownTheGutter", "sailed", "(IIII)I"⟩, 16), (⟨"DownTheGutter", "fewestTurns", "(I)I"⟩, 16), (⟨"DownTheGutter$Trials", "remember", "(II)V"⟩, 9), (⟨"DownTheGutter$Trials", "spread", "(II)V"⟩, 9), (⟨"DownTheGutter", "firstGets", "(IIIZ)Z"⟩, 16), (⟨"DownTheGutter", "findFits", "()V"⟩, 16), (⟨"DownTheGutter$Corks", "has", "(I)Z"⟩, 4), (⟨"DownTheGutter$Trials", "tally", "(I)I"⟩, 9), (⟨"java/lang/Throwable", "fillInStackTrace", "(I)Ljava/lang/Throwable;"⟩, 6), (⟨"DownTheGutterModel", "begins", "(I)I"⟩, 60), (⟨"DownTheGutterModel", "readsPlace", "()Z"⟩, 60), (⟨"DownTheGutterModel", "takesOf", "(Ljava/lang/String;)I"⟩, 60), (⟨"DownTheGutterModel", "among", "(Ljava/lang/String;)I"⟩, 60), (⟨"DownTheGutterModel", "readsLetter", "()I"⟩, 60), (⟨"DownTheGutterModel", "takes", "(I)Z"⟩, 60), (⟨"DownTheGutterModel", "faultOf", "(IIZ)I"⟩, 60)]
theorem lw_r3 : ∀ q ∈ lw_privs_3, lw_okq q := List.forall_mem_cons.mpr ⟨lw_p32, List.forall_mem_cons.mpr ⟨lw_p33, List.forall_mem_cons.mpr ⟨lw_p34, List.forall_mem_cons.mpr ⟨lw_p35, List.forall_mem_cons.mpr ⟨lw_p36, List.forall_mem_cons.mpr ⟨lw_p37, List.forall_mem_cons.mpr ⟨lw_p38, List.forall_mem_cons.mpr ⟨lw_p39, List.forall_mem_cons.mpr ⟨lw_p40, List.forall_mem_cons.mpr ⟨lw_p41, List.forall_mem_cons.mpr ⟨lw_p42, List.forall_mem_cons.mpr ⟨lw_p43, List.forall_mem_cons.mpr ⟨lw_p44, List.forall_mem_cons.mpr ⟨lw_p45, List.forall_mem_cons.mpr ⟨lw_p46, List.forall_mem_cons.mpr ⟨lw_p47, fun _ h => absurd h List.not_mem_nil⟩⟩⟩⟩⟩⟩⟩⟩⟩⟩⟩⟩⟩⟩⟩⟩
theorem lw_p48 : lw_okq (⟨"DownTheGutterModel", "readsRank", "(I)Z"⟩, 60) := ⟨⟨by decide +kernel, by decide +kernel⟩, List.mem_of_getElem? (i := 1321) (by decide +kernel), List.mem_of_getElem? (i := 1672) (by decide +kernel), List.mem_of_getElem? (i := 1673) (by decide +kernel)⟩
theorem lw_p49 : lw_okq (⟨"DownTheGutterModel", "readsThing", "()Z"⟩, 60) := ⟨⟨by decide +kernel, by decide +kernel⟩, List.mem_of_getElem? (i := 1321) (by decide +kernel), List.mem_of_getElem? (i := 1676) (by decide +kernel), List.mem_of_getElem? (i := 1677) (by decide +kernel)⟩
theorem lw_p50 : lw_okq (⟨"DownTheGutterModel", "codes", "(I)V"⟩, 60) := ⟨⟨by decide +kernel, by decide +kernel⟩, List.mem_of_getElem? (i := 1321) (by decide +kernel), List.mem_of_getElem? (i := 1680) (by decide +kernel), List.mem_of_getElem? (i := 1681) (by decide +kernel)⟩
theorem lw_p51 : lw_okq (⟨"DownTheGutterModel", "isDigit", "()Z"⟩, 60) := ⟨⟨by decide +kernel, by decide +kernel⟩, List.mem_of_getElem? (i := 1321) (by decide +kernel), List.mem_of_getElem? (i := 1684) (by decide +kernel), List.mem_of_getElem? (i := 1685) (by decide +kernel)⟩
theorem lw_p52 : lw_okq (⟨"DownTheGutterModel", "numberOf", "(I)I"⟩, 60) := ⟨⟨by decide +kernel, by decide +kernel⟩, List.mem_of_getElem? (i := 1321) (by decide +kernel), List.mem_of_getElem? (i := 1690) (by decide +kernel), List.mem_of_getElem? (i := 1691) (by decide +kernel)⟩
theorem lw_p53 : lw_okq (⟨"DownTheGutterModel", "isPlace", "(I)Z"⟩, 60) := ⟨⟨by decide +kernel, by decide +kernel⟩, List.mem_of_getElem? (i := 1321) (by decide +kernel), List.mem_of_getElem? (i := 1702) (by decide +kernel), List.mem_of_getElem? (i := 1703) (by decide +kernel)⟩
theorem lw_p54 : lw_okq (⟨"DownTheGutterModel", "refuse", "()I"⟩, 60) := ⟨⟨by decide +kernel, by decide +kernel⟩, List.mem_of_getElem? (i := 1321) (by decide +kernel), List.mem_of_getElem? (i := 1707) (by decide +kernel), List.mem_of_getElem? (i := 1708) (by decide +kernel)⟩
theorem lw_p55 : lw_okq (⟨"DownTheGutterModel", "isThing", "(I)Z"⟩, 60) := ⟨⟨by decide +kernel, by decide +kernel⟩, List.mem_of_getElem? (i := 1321) (by decide +kernel), List.mem_of_getElem? (i := 1715) (by decide +kernel), List.mem_of_getElem? (i := 1716) (by decide +kernel)⟩
theorem lw_p56 : lw_okq (⟨"DownTheGutterModel", "waterIn", "(I)I"⟩, 60) := ⟨⟨by decide +kernel, by decide +kernel⟩, List.mem_of_getElem? (i := 1321) (by decide +kernel), List.mem_of_getElem? (i := 1726) (by decide +kernel), List.mem_of_getElem? (i := 1727) (by decide +kernel)⟩
theorem lw_p57 : lw_okq (⟨"DownTheGutterModel", "isFork", "(I)Z"⟩, 60) := ⟨⟨by decide +kernel, by decide +kernel⟩, List.mem_of_getElem? (i := 1321) (by decide +kernel), List.mem_of_getElem? (i := 1741) (by decide +kernel), List.mem_of_getElem? (i := 1742) (by decide +kernel)⟩
theorem lw_p58 : lw_okq (⟨"DownTheGutterModel", "putsBy", "()V"⟩, 60) := ⟨⟨by decide +kernel, by decide +kernel⟩, List.mem_of_getElem? (i := 1321) (by decide +kernel), List.mem_of_getElem? (i := 1745) (by decide +kernel), List.mem_of_getElem? (i := 1746) (by decide +kernel)⟩
theorem lw_p59 : lw_okq (⟨"DownTheGutterModel", "adds", "(I)I"⟩, 60) := ⟨⟨by decide +kernel, by decide +kernel⟩, List.mem_of_getElem? (i := 1321) (by decide +kernel), List.mem_of_getElem? (i := 1749) (by decide +kernel), List.mem_of_getElem? (i := 1750) (by decide +kernel)⟩
theorem lw_p60 : lw_okq (⟨"DownTheGutterModel", "comesNow", "(IIII)I"⟩, 60) := ⟨⟨by decide +kernel, by decide +kernel⟩, List.mem_of_getElem? (i := 1321) (by decide +kernel), List.mem_of_getElem? (i := 1762) (by decide +kernel), List.mem_of_getElem? (i := 1763) (by decide +kernel)⟩
theorem lw_p61 : lw_okq (⟨"DownTheGutterModel", "canPut", "(III)Z"⟩, 60) := ⟨⟨by decide +kernel, by decide +kernel⟩, List.mem_of_getElem? (i := 1321) (by decide +kernel), List.mem_of_getElem? (i := 1766) (by decide +kernel), List.mem_of_getElem? (i := 1767) (by decide +kernel)⟩
theorem lw_p62 : lw_okq (⟨"DownTheGutterModel", "lays", "([IIIIII)V"⟩, 60) := ⟨⟨by decide +kernel, by decide +kernel⟩, List.mem_of_getElem? (i := 1321) (by decide +kernel), List.mem_of_getElem? (i := 1772) (by decide +kernel), List.mem_of_getElem? (i := 1773) (by decide +kernel)⟩
theorem lw_p63 : lw_okq (⟨"DownTheGutterModel", "gives", "(II)I"⟩, 60) := ⟨⟨by decide +kernel, by decide +kernel⟩, List.mem_of_getElem? (i := 1321) (by decide +kernel), List.mem_of_getElem? (i := 1780) (by decide +kernel), List.mem_of_getElem? (i := 1781) (by decide +kernel)⟩
def lw_privs_4 : List (MethodName × Nat) := [(⟨"DownTheGutterModel", "readsRank", "(I)Z"⟩, 60), (⟨"DownTheGutterModel", "readsThing", "()Z"⟩, 60), (⟨"DownTheGutterModel", "codes", "(I)V"⟩, 60), (⟨"DownTheGutterModel", "isDigit", "()Z"⟩, 60), (⟨"DownTheGutterModel", "numberOf", "(I)I"⟩, 60), (⟨"DownTheGutterModel", "isPlace", "(I)Z"⟩, 60), (⟨"DownTheGutterModel", "refuse", "()I"⟩, 60), (⟨"DownTheGutterModel", "isThing", "(I)Z"⟩, 60), (⟨"DownTheGutterModel", "waterIn", "(I)I"⟩, 60), (⟨"DownTheGutterModel", "isFork", "(I)Z"⟩, 60), (⟨"DownTheGutterModel", "putsBy", "()V"⟩, 60), (⟨"DownTheGutterModel", "adds", "(I)I"⟩, 60), (⟨"DownTheGutterModel", "comesNow", "(IIII)I"⟩, 60), (⟨"DownTheGutterModel", "canPut", "(III)Z"⟩, 60), (⟨"DownTheGutterModel", "lays", "([IIIIII)V"⟩, 60), (⟨"DownTheGutterModel", "gives", "(II)I"⟩, 60)]
theorem lw_r4 : ∀ q ∈ lw_privs_4, lw_okq q := List.forall_mem_cons.mpr ⟨lw_p48, List.forall_mem_cons.mpr ⟨lw_p49, List.forall_mem_cons.mpr ⟨lw_p50, List.forall_mem_cons.mpr ⟨lw_p51, List.forall_mem_cons.mpr ⟨lw_p52, List.forall_mem_cons.mpr ⟨lw_p53, List.forall_mem_cons.mpr ⟨lw_p54, List.forall_mem_cons.mpr ⟨lw_p55, List.forall_mem_cons.mpr ⟨lw_p56, List.forall_mem_cons.mpr ⟨lw_p57, List.forall_mem_cons.mpr ⟨lw_p58, List.forall_mem_cons.mpr ⟨lw_p59, List.forall_mem_cons.mpr ⟨lw_p60, List.forall_mem_cons.mpr ⟨lw_p61, List.forall_mem_cons.mpr ⟨lw_p62, List.forall_mem_cons.mpr ⟨lw_p63, fun _ h => absurd h List.not_mem_nil⟩⟩⟩⟩⟩⟩⟩⟩⟩⟩⟩⟩⟩⟩⟩⟩
theorem lw_p64 : lw_okq (⟨"DownTheGutterModel", "minuteGoes", "([I)V"⟩, 60) := ⟨⟨by decide +kernel, by decide +kernel⟩, List.mem_of_getElem? (i := 1321) (by decide +kernel), List.mem_of_getElem? (i := 1791) (by decide +kernel), List.mem_of_getElem? (i := 1792) (by decide +kernel)⟩
theorem lw_p65 : lw_okq (⟨"DownTheGutterModel", "steps", "([II)Z"⟩, 60) := ⟨⟨by decide +kernel, by decide +kernel⟩, List.mem_of_getElem? (i := 1321) (by decide +kernel), List.mem_of_getElem? (i := 1795) (by decide +kernel), List.mem_of_getElem? (i := 1796) (by decide +kernel)⟩
theorem lw_p66 : lw_okq (⟨"DownTheGutterModel", "ends", "([III)V"⟩, 60) := ⟨⟨by decide +kernel, by decide +kernel⟩, List.mem_of_getElem? (i := 1321) (by decide +kernel), List.mem_of_getElem? (i := 1799) (by decide +kernel), List.mem_of_getElem? (i := 1800) (by decide +kernel)⟩
theorem lw_p67 : lw_okq (⟨"DownTheGutterModel", "ruled", "([II)I"⟩, 60) := ⟨⟨by decide +kernel, by decide +kernel⟩, List.mem_of_getElem? (i := 1321) (by decide +kernel), List.mem_of_getElem? (i := 1803) (by decide +kernel), List.mem_of_getElem? (i := 1804) (by decide +kernel)⟩
theorem lw_p68 : lw_okq (⟨"DownTheGutterModel", "askedOf", "([III)I"⟩, 60) := ⟨⟨by decide +kernel, by decide +kernel⟩, List.mem_of_getElem? (i := 1321) (by decide +kernel), List.mem_of_getElem? (i := 1810) (by decide +kernel), List.mem_of_getElem? (i := 1811) (by decide +kernel)⟩
theorem lw_p69 : lw_okq (⟨"DownTheGutterModel", "enters", "(J)V"⟩, 60) := ⟨⟨by decide +kernel, by decide +kernel⟩, List.mem_of_getElem? (i := 1321) (by decide +kernel), List.mem_of_getElem? (i := 1817) (by decide +kernel), List.mem_of_getElem? (i := 1818) (by decide +kernel)⟩
theorem lw_p70 : lw_okq (⟨"DownTheGutterModel", "readsAct", "()Z"⟩, 60) := ⟨⟨by decide +kernel, by decide +kernel⟩, List.mem_of_getElem? (i := 1321) (by decide +kernel), List.mem_of_getElem? (i := 1826) (by decide +kernel), List.mem_of_getElem? (i := 1827) (by decide +kernel)⟩
theorem lw_p71 : lw_okq (⟨"DownTheGutterModel", "does", "(I)Z"⟩, 60) := ⟨⟨by decide +kernel, by decide +kernel⟩, List.mem_of_getElem? (i := 1321) (by decide +kernel), List.mem_of_getElem? (i := 1832) (by decide +kernel), List.mem_of_getElem? (i := 1833) (by decide +kernel)⟩
theorem lw_p72 : lw_okq (⟨"DownTheGutterModel", "goesOn", "(I)V"⟩, 60) := ⟨⟨by decide +kernel, by decide +kernel⟩, List.mem_of_getElem? (i := 1321) (by decide +kernel), List.mem_of_getElem? (i := 1841) (by decide +kernel), List.mem_of_getElem? (i := 1842) (by decide +kernel)⟩
theorem lw_p73 : lw_okq (⟨"DownTheGutterModel", "endsAfter", "([III)I"⟩, 60) := ⟨⟨by decide +kernel, by decide +kernel⟩, List.mem_of_getElem? (i := 1321) (by decide +kernel), List.mem_of_getElem? (i := 1852) (by decide +kernel), List.mem_of_getElem? (i := 1853) (by decide +kernel)⟩
theorem lw_p74 : lw_okq (⟨"DownTheGutterModel", "canSail", "(IIII)Z"⟩, 60) := ⟨⟨by decide +kernel, by decide +kernel⟩, List.mem_of_getElem? (i := 1321) (by decide +kernel), List.mem_of_getElem? (i := 1872) (by decide +kernel), List.mem_of_getElem? (i := 1873) (by decide +kernel)⟩
theorem lw_p75 : lw_okq (⟨"DownTheGutterModel", "isKitchen", "(I)Z"⟩, 60) := ⟨⟨by decide +kernel, by decide +kernel⟩, List.mem_of_getElem? (i := 1321) (by decide +kernel), List.mem_of_getElem? (i := 1876) (by decide +kernel), List.mem_of_getElem? (i := 1877) (by decide +kernel)⟩
theorem lw_p76 : lw_okq (⟨"DownTheGutterModel", "thinksNow", "()V"⟩, 60) := ⟨⟨by decide +kernel, by decide +kernel⟩, List.mem_of_getElem? (i := 1321) (by decide +kernel), List.mem_of_getElem? (i := 1880) (by decide +kernel), List.mem_of_getElem? (i := 1881) (by decide +kernel)⟩
theorem lw_p77 : lw_okq (⟨"DownTheGutterModel", "sails", "(IIIII)I"⟩, 60) := ⟨⟨by decide +kernel, by decide +kernel⟩, List.mem_of_getElem? (i := 1321) (by decide +kernel), List.mem_of_getElem? (i := 1884) (by decide +kernel), List.mem_of_getElem? (i := 1885) (by decide +kernel)⟩
theorem lw_p78 : lw_okq (⟨"DownTheGutterModel", "goesAlone", "(IIII)I"⟩, 60) := ⟨⟨by decide +kernel, by decide +kernel⟩, List.mem_of_getElem? (i := 1321) (by decide +kernel), List.mem_of_getElem? (i := 1888) (by decide +kernel), List.mem_of_getElem? (i := 1889) (by decide +kernel)⟩
theorem lw_p79 : lw_okq (⟨"DownTheGutterModel", "laysAlone", "(IIII)V"⟩, 60) := ⟨⟨by decide +kernel, by decide +kernel⟩, List.mem_of_getElem? (i := 1321) (by decide +kernel), List.mem_of_getElem? (i := 1892) (by decide +kernel), List.mem_of_getElem? (i := 1893) (by decide +kernel)⟩
def lw_privs_5 : List (MethodName × Nat) := [(⟨"DownTheGutterModel", "minuteGoes", "([I)V"⟩, 60), (⟨"DownTheGutterModel", "steps", "([II)Z"⟩, 60), (⟨"DownTheGutterModel", "ends", "([III)V"⟩, 60), (⟨"DownTheGutterModel", "ruled", "([II)I"⟩, 60), (⟨"DownTheGutterModel", "askedOf", "([III)I"⟩, 60), (⟨"DownTheGutterModel", "enters", "(J)V"⟩, 60), (⟨"DownTheGutterModel", "readsAct", "()Z"⟩, 60), (⟨"DownTheGutterModel", "does", "(I)Z"⟩, 60), (⟨"DownTheGutterModel", "goesOn", "(I)V"⟩, 60), (⟨"DownTheGutterModel", "endsAfter", "([III)I"⟩, 60), (⟨"DownTheGutterModel", "canSail", "(IIII)Z"⟩, 60), (⟨"DownTheGutterModel", "isKitchen", "(I)Z"⟩, 60), (⟨"DownTheGutterModel", "thinksNow", "()V"⟩, 60), (⟨"DownTheGutterModel", "sails", "(IIIII)I"⟩, 60), (⟨"DownTheGutterModel", "goesAlone", "(IIII)I"⟩, 60), (⟨"DownTheGutterModel", "laysAlone", "(IIII)V"⟩, 60)]
theorem lw_r5 : ∀ q ∈ lw_privs_5, lw_okq q := List.forall_mem_cons.mpr ⟨lw_p64, List.forall_mem_cons.mpr ⟨lw_p65, List.forall_mem_cons.mpr ⟨lw_p66, List.forall_mem_cons.mpr ⟨lw_p67, List.forall_mem_cons.mpr ⟨lw_p68, List.forall_mem_cons.mpr ⟨lw_p69, List.forall_mem_cons.mpr ⟨lw_p70, List.forall_mem_cons.mpr ⟨lw_p71, List.forall_mem_cons.mpr ⟨lw_p72, List.forall_mem_cons.mpr ⟨lw_p73, List.forall_mem_cons.mpr ⟨lw_p74, List.forall_mem_cons.mpr ⟨lw_p75, List.forall_mem_cons.mpr ⟨lw_p76, List.forall_mem_cons.mpr ⟨lw_p77, List.forall_mem_cons.mpr ⟨lw_p78, List.forall_mem_cons.mpr ⟨lw_p79, fun _ h => absurd h List.not_mem_nil⟩⟩⟩⟩⟩⟩⟩⟩⟩⟩⟩⟩⟩⟩⟩⟩
theorem lw_p80 : lw_okq (⟨"DownTheGutterModel", "saves", "(III)I"⟩, 60) := ⟨⟨by decide +kernel, by decide +kernel⟩, List.mem_of_getElem? (i := 1321) (by decide +kernel), List.mem_of_getElem? (i := 1924) (by decide +kernel), List.mem_of_getElem? (i := 1925) (by decide +kernel)⟩
theorem lw_p81 : lw_okq (⟨"DownTheGutterModel", "forks", "()I"⟩, 60) := ⟨⟨by decide +kernel, by decide +kernel⟩, List.mem_of_getElem? (i := 1321) (by decide +kernel), List.mem_of_getElem? (i := 1928) (by decide +kernel), List.mem_of_getElem? (i := 1929) (by decide +kernel)⟩
theorem lw_p82 : lw_okq (⟨"DownTheGutterModel", "savedAfter", "(II)I"⟩, 60) := ⟨⟨by decide +kernel, by decide +kernel⟩, List.mem_of_getElem? (i := 1321) (by decide +kernel), List.mem_of_getElem? (i := 1932) (by decide +kernel), List.mem_of_getElem? (i := 1933) (by decide +kernel)⟩
theorem lw_p83 : lw_okq (⟨"DownTheGutterModel", "plays", "(III)I"⟩, 60) := ⟨⟨by decide +kernel, by decide +kernel⟩, List.mem_of_getElem? (i := 1321) (by decide +kernel), List.mem_of_getElem? (i := 1948) (by decide +kernel), List.mem_of_getElem? (i := 1949) (by decide +kernel)⟩
theorem lw_p84 : lw_okq (⟨"DownTheGutterModel", "playsOut", "(I)I"⟩, 60) := ⟨⟨by decide +kernel, by decide +kernel⟩, List.mem_of_getElem? (i := 1321) (by decide +kernel), List.mem_of_getElem? (i := 1952) (by decide +kernel), List.mem_of_getElem? (i := 1953) (by decide +kernel)⟩
theorem lw_p85 : lw_okq (⟨"DownTheGutterModel", "laysFits", "()I"⟩, 60) := ⟨⟨by decide +kernel, by decide +kernel⟩, List.mem_of_getElem? (i := 1321) (by decide +kernel), List.mem_of_getElem? (i := 1969) (by decide +kernel), List.mem_of_getElem? (i := 1970) (by decide +kernel)⟩
theorem lw_p86 : lw_okq (⟨"DownTheGutterModel", "floatsTo", "(III)I"⟩, 60) := ⟨⟨by decide +kernel, by decide +kernel⟩, List.mem_of_getElem? (i := 1321) (by decide +kernel), List.mem_of_getElem? (i := 1973) (by decide +kernel), List.mem_of_getElem? (i := 1974) (by decide +kernel)⟩
theorem lw_p87 : lw_okq (⟨"DownTheGutterModel", "entersFraction", "(JJ)V"⟩, 60) := ⟨⟨by decide +kernel, by decide +kernel⟩, List.mem_of_getElem? (i := 1321) (by decide +kernel), List.mem_of_getElem? (i := 1987) (by decide +kernel), List.mem_of_getElem? (i := 1988) (by decide +kernel)⟩
def lw_privs_6 : List (MethodName × Nat) := [(⟨"DownTheGutterModel", "saves", "(III)I"⟩, 60), (⟨"DownTheGutterModel", "forks", "()I"⟩, 60), (⟨"DownTheGutterModel", "savedAfter", "(II)I"⟩, 60), (⟨"DownTheGutterModel", "plays", "(III)I"⟩, 60), (⟨"DownTheGutterModel", "playsOut", "(I)I"⟩, 60), (⟨"DownTheGutterModel", "laysFits", "()I"⟩, 60), (⟨"DownTheGutterModel", "floatsTo", "(III)I"⟩, 60), (⟨"DownTheGutterModel", "entersFraction", "(JJ)V"⟩, 60)]
theorem lw_r6 : ∀ q ∈ lw_privs_6, lw_okq q := List.forall_mem_cons.mpr ⟨lw_p80, List.forall_mem_cons.mpr ⟨lw_p81, List.forall_mem_cons.mpr ⟨lw_p82, List.forall_mem_cons.mpr ⟨lw_p83, List.forall_mem_cons.mpr ⟨lw_p84, List.forall_mem_cons.mpr ⟨lw_p85, List.forall_mem_cons.mpr ⟨lw_p86, List.forall_mem_cons.mpr ⟨lw_p87, fun _ h => absurd h List.not_mem_nil⟩⟩⟩⟩⟩⟩⟩⟩
def lw_privs : List (MethodName × Nat) := lw_privs_1 ++ (lw_privs_2 ++ (lw_privs_3 ++ (lw_privs_4 ++ (lw_privs_5 ++ (lw_privs_6)))))
def lw_tbl : List Cond := k2_sels lw_privs ++ tables_1
theorem lw_privs_ok : ∀ q ∈ lw_privs, lw_okq q := by
  show ∀ q ∈ lw_privs_1 ++ (lw_privs_2 ++ (lw_privs_3 ++ (lw_privs_4 ++ (lw_privs_5 ++ (lw_privs_6))))), lw_okq q
  exact List.forall_mem_append.mpr ⟨lw_r1, List.forall_mem_append.mpr ⟨lw_r2, List.forall_mem_append.mpr ⟨lw_r3, List.forall_mem_append.mpr ⟨lw_r4, List.forall_mem_append.mpr ⟨lw_r5, lw_r6⟩⟩⟩⟩⟩
def RX0 : String := "DownTheGutter$Corks"
def TX0 : u_T := fun k => match k with
  | 0 => ("DownTheGutter$Corks", "spots", "[I", true)
  | 1 => ("DownTheGutter$Corks", "minutes", "[I", true)
  | 2 => ("DownTheGutter$Corks", "ends", "[I", true)
  | _ => ("DownTheGutter$Corks", "told", "I", false)
def tyX0 : Nat → FieldType := fun k => match k with
  | 0 => .array .int
  | 1 => .array .int
  | 2 => .array .int
  | _ => .int
abbrev wsX00 : List Cond := u_ws RX0 TX0 4
theorem nmX0 : ∀ a, a < 4 → ∀ b, b < 4 → a ≠ b → (TX0 a).2.1 ≠ (TX0 b).2.1 := by decide +kernel
theorem tyX0_ok : ∀ k, k < 4 → parseFieldDescriptor (TX0 k).2.2.1 = some (tyX0 k) := by decide +kernel
abbrev cX0_init : ByteArray := prog_2_method_1_code
def yX0_init : MethodName := ⟨RX0, "<init>", "()V"⟩
abbrev cX0_has : ByteArray := prog_2_method_2_code
def yX0_has : MethodName := ⟨RX0, "has", "(I)Z"⟩
abbrev cX0_spotOf : ByteArray := prog_2_method_3_code
def yX0_spotOf : MethodName := ⟨RX0, "spotOf", "(I)I"⟩
abbrev cX0_minuteOf : ByteArray := prog_2_method_4_code
def yX0_minuteOf : MethodName := ⟨RX0, "minuteOf", "(I)I"⟩
abbrev cX0_endOf : ByteArray := prog_2_method_5_code
def yX0_endOf : MethodName := ⟨RX0, "endOf", "(I)I"⟩
abbrev cX0_add : ByteArray := prog_2_method_6_code
def yX0_add : MethodName := ⟨RX0, "add", "(III)Z"⟩
def RX1 : String := "DownTheGutter$Current"
def TX1 : u_T := fun k => match k with
  | 0 => ("DownTheGutter$Current", "town", "LDownTheGutter$Town;", true)
  | 1 => ("DownTheGutter$Current", "water", "LDownTheGutter$Water;", true)
  | 2 => ("DownTheGutter$Current", "rule", "LDownTheGutter$Rule;", true)
  | 3 => ("DownTheGutter$Current", "facts", "[I", true)
  | 4 => ("DownTheGutter$Current", "asked", "I", false)
  | 5 => ("DownTheGutter$Current", "stuck", "I", false)
  | 6 => ("DownTheGutter$Current", "steps", "I", false)
  | 7 => ("DownTheGutter$Current", "isEndless", "Z", false)
  | 8 => ("DownTheGutter$Current", "rain", "I", false)
  | _ => ("DownTheGutter$Current", "rainFrom", "I", false)
def tyX1 : Nat → FieldType := fun k => match k with
  | 0 => .object "DownTheGutter$Town"
  | 1 => .object "DownTheGutter$Water"
  | 2 => .object "DownTheGutter$Rule"
  | 3 => .array .int
  | 4 => .int
  | 5 => .int
  | 6 => .int
  | 7 => .boolean
  | 8 => .int
  | _ => .int
abbrev wsX10 : List Cond := u_ws RX1 TX1 10
theorem nmX1 : ∀ a, a < 10 → ∀ b, b < 10 → a ≠ b → (TX1 a).2.1 ≠ (TX1 b).2.1 := by decide +kernel
theorem tyX1_ok : ∀ k, k < 10 → parseFieldDescriptor (TX1 k).2.2.1 = some (tyX1 k) := by decide +kernel
abbrev cX1_init : ByteArray := prog_3_method_1_code
def yX1_init : MethodName := ⟨RX1, "<init>", "(LDownTheGutter$Town;LDownTheGutter$Water;LDownTheGutter$Rule;)V"⟩
abbrev cX1_seesOthers : ByteArray := prog_3_method_2_code
def yX1_seesOthers : MethodName := ⟨RX1, "seesOthers", "()Z"⟩
abbrev cX1_flowIn : ByteArray := prog_3_method_3_code
def yX1_flowIn : MethodName := ⟨RX1, "flowIn", "(I)I"⟩
abbrev cX1_pass : ByteArray := prog_3_method_4_code
def yX1_pass : MethodName := ⟨RX1, "pass", "(LDownTheGutter$Scene;)V"⟩
abbrev cX1_step : ByteArray := prog_3_method_5_code
def yX1_step : MethodName := ⟨RX1, "step", "(LDownTheGutter$Scene;II)Z"⟩
abbrev cX1_wayOf : ByteArray := prog_3_method_6_code
def yX1_wayOf : MethodName := ⟨RX1, "wayOf", "(LDownTheGutter$Scene;III)I"⟩
abbrev cX1_pays : ByteArray := prog_3_method_7_code
def yX1_pays : MethodName := ⟨RX1, "pays", "(LDownTheGutter$Scene;II)Z"⟩
abbrev cX1_arrives : ByteArray := prog_3_method_8_code
def yX1_arrives : MethodName := ⟨RX1, "arrives", "(LDownTheGutter$Scene;III)Z"⟩
def RX2 : String := "DownTheGutter$Diary"
def TX2 : u_T := fun k => match k with
  | 0 => ("DownTheGutter$Diary", "kinds", "[I", true)
  | 1 => ("DownTheGutter$Diary", "firsts", "[I", true)
  | 2 => ("DownTheGutter$Diary", "seconds", "[I", true)
  | 3 => ("DownTheGutter$Diary", "thirds", "[I", true)
  | _ => ("DownTheGutter$Diary", "acts", "I", false)
def tyX2 : Nat → FieldType := fun k => match k with
  | 0 => .array .int
  | 1 => .array .int
  | 2 => .array .int
  | 3 => .array .int
  | _ => .int
abbrev wsX20 : List Cond := u_ws RX2 TX2 5
theorem nmX2 : ∀ a, a < 5 → ∀ b, b < 5 → a ≠ b → (TX2 a).2.1 ≠ (TX2 b).2.1 := by decide +kernel
theorem tyX2_ok : ∀ k, k < 5 → parseFieldDescriptor (TX2 k).2.2.1 = some (tyX2 k) := by decide +kernel
abbrev cX2_init : ByteArray := prog_4_method_1_code
def yX2_init : MethodName := ⟨RX2, "<init>", "()V"⟩
abbrev cX2_has : ByteArray := prog_4_method_2_code
def yX2_has : MethodName := ⟨RX2, "has", "(I)Z"⟩
abbrev cX2_kindOf : ByteArray := prog_4_method_3_code
def yX2_kindOf : MethodName := ⟨RX2, "kindOf", "(I)I"⟩
abbrev cX2_firstOf : ByteArray := prog_4_method_4_code
def yX2_firstOf : MethodName := ⟨RX2, "firstOf", "(I)I"⟩
abbrev cX2_secondOf : ByteArray := prog_4_method_5_code
def yX2_secondOf : MethodName := ⟨RX2, "secondOf", "(I)I"⟩
abbrev cX2_thirdOf : ByteArray := prog_4_method_6_code
def yX2_thirdOf : MethodName := ⟨RX2, "thirdOf", "(I)I"⟩
abbrev cX2_read : ByteArray := prog_4_method_7_code
def yX2_read : MethodName := ⟨RX2, "read", "(LDownTheGutter$Signs;)I"⟩
abbrev cX2_readAct : ByteArray := prog_4_method_8_code
def yX2_readAct : MethodName := ⟨RX2, "readAct", "(LDownTheGutter$Signs;I)I"⟩
abbrev cX2_readPut : ByteArray := prog_4_method_9_code
def yX2_readPut : MethodName := ⟨RX2, "readPut", "(LDownTheGutter$Signs;I)I"⟩
abbrev cX2_readTurn : ByteArray := prog_4_method_10_code
def yX2_readTurn : MethodName := ⟨RX2, "readTurn", "(LDownTheGutter$Signs;I)I"⟩
abbrev cX2_readMinutes : ByteArray := prog_4_method_11_code
def yX2_readMinutes : MethodName := ⟨RX2, "readMinutes", "(LDownTheGutter$Signs;I)I"⟩
abbrev cX2_readGive : ByteArray := prog_4_method_12_code
def yX2_readGive : MethodName := ⟨RX2, "readGive", "(LDownTheGutter$Signs;I)I"⟩
abbrev cX2_behindNumber : ByteArray := prog_4_method_13_code
def yX2_behindNumber : MethodName := ⟨RX2, "behindNumber", "(LDownTheGutter$Signs;I)I"⟩
abbrev cX2_numberAt : ByteArray := prog_4_method_14_code
def yX2_numberAt : MethodName := ⟨RX2, "numberAt", "(LDownTheGutter$Signs;II)I"⟩
abbrev cX2_add : ByteArray := prog_4_method_15_code
def yX2_add : MethodName := ⟨RX2, "add", "(IIII)V"⟩
def RX3 : String := "DownTheGutter$Past"
def TX3 : u_T := fun k => match k with
  | 0 => ("DownTheGutter$Past", "scenes", "[LDownTheGutter$Scene;", true)
  | 1 => ("DownTheGutter$Past", "top", "I", false)
  | _ => ("DownTheGutter$Past", "size", "I", false)
def tyX3 : Nat → FieldType := fun k => match k with
  | 0 => .array (.object "DownTheGutter$Scene")
  | 1 => .int
  | _ => .int
abbrev wsX30 : List Cond := u_ws RX3 TX3 3
theorem nmX3 : ∀ a, a < 3 → ∀ b, b < 3 → a ≠ b → (TX3 a).2.1 ≠ (TX3 b).2.1 := by decide +kernel
theorem tyX3_ok : ∀ k, k < 3 → parseFieldDescriptor (TX3 k).2.2.1 = some (tyX3 k) := by decide +kernel
abbrev cX3_init : ByteArray := prog_5_method_1_code
def yX3_init : MethodName := ⟨RX3, "<init>", "()V"⟩
abbrev cX3_clear : ByteArray := prog_5_method_2_code
def yX3_clear : MethodName := ⟨RX3, "clear", "()V"⟩
abbrev cX3_push : ByteArray := prog_5_method_3_code
def yX3_push : MethodName := ⟨RX3, "push", "(LDownTheGutter$Scene;)V"⟩
abbrev cX3_pop : ByteArray := prog_5_method_4_code
def yX3_pop : MethodName := ⟨RX3, "pop", "(LDownTheGutter$Scene;)Z"⟩
def RX4 : String := "DownTheGutter$Row"
def TX4 : u_T := fun k => match k with
  | 0 => ("DownTheGutter$Row", "numbers", "[J", true)
  | _ => ("DownTheGutter$Row", "size", "I", false)
def tyX4 : Nat → FieldType := fun k => match k with
  | 0 => .array .long
  | _ => .int
abbrev wsX40 : List Cond := u_ws RX4 TX4 2
theorem nmX4 : ∀ a, a < 2 → ∀ b, b < 2 → a ≠ b → (TX4 a).2.1 ≠ (TX4 b).2.1 := by decide +kernel
theorem tyX4_ok : ∀ k, k < 2 → parseFieldDescriptor (TX4 k).2.2.1 = some (tyX4 k) := by decide +kernel
abbrev cX4_init : ByteArray := prog_6_method_1_code
def yX4_init : MethodName := ⟨RX4, "<init>", "()V"⟩
abbrev cX4_tell : ByteArray := prog_6_method_2_code
def yX4_tell : MethodName := ⟨RX4, "tell", "(J)V"⟩
abbrev cX4_tell_ : ByteArray := prog_6_method_3_code
def yX4_tell_ : MethodName := ⟨RX4, "tell", "(JJ)V"⟩
abbrev cX4_tell__ : ByteArray := prog_6_method_4_code
def yX4_tell__ : MethodName := ⟨RX4, "tell", "(JJJ)V"⟩
abbrev cX4_numberAt : ByteArray := prog_6_method_5_code
def yX4_numberAt : MethodName := ⟨RX4, "numberAt", "(I)J"⟩
def RX5 : String := "DownTheGutter$Rule"
def TX5 : u_T := fun k => match k with
  | 0 => ("DownTheGutter$Rule", "steps", "[I", true)
  | 1 => ("DownTheGutter$Rule", "stack", "[I", true)
  | 2 => ("DownTheGutter$Rule", "held", "[I", true)
  | 3 => ("DownTheGutter$Rule", "size", "I", false)
  | 4 => ("DownTheGutter$Rule", "holding", "I", false)
  | 5 => ("DownTheGutter$Rule", "open", "I", false)
  | 6 => ("DownTheGutter$Rule", "compared", "I", false)
  | 7 => ("DownTheGutter$Rule", "digits", "I", false)
  | 8 => ("DownTheGutter$Rule", "wantsThing", "Z", false)
  | 9 => ("DownTheGutter$Rule", "asksPlank", "Z", false)
  | _ => ("DownTheGutter$Rule", "asksOthers", "Z", false)
def tyX5 : Nat → FieldType := fun k => match k with
  | 0 => .array .int
  | 1 => .array .int
  | 2 => .array .int
  | 3 => .int
  | 4 => .int
  | 5 => .int
  | 6 => .int
  | 7 => .int
  | 8 => .boolean
  | 9 => .boolean
  | _ => .boolean
abbrev wsX50 : List Cond := u_ws RX5 TX5 11
theorem nmX5 : ∀ a, a < 11 → ∀ b, b < 11 → a ≠ b → (TX5 a).2.1 ≠ (TX5 b).2.1 := by decide +kernel
theorem tyX5_ok : ∀ k, k < 11 → parseFieldDescriptor (TX5 k).2.2.1 = some (tyX5 k) := by decide +kernel
abbrev cX5_init : ByteArray := prog_7_method_1_code
def yX5_init : MethodName := ⟨RX5, "<init>", "()V"⟩
abbrev cX5_copy : ByteArray := prog_7_method_2_code
def yX5_copy : MethodName := ⟨RX5, "copy", "(LDownTheGutter$Rule;)V"⟩
abbrev cX5_read : ByteArray := prog_7_method_3_code
def yX5_read : MethodName := ⟨RX5, "read", "(LDownTheGutter$Signs;)I"⟩
abbrev cX5_clear : ByteArray := prog_7_method_4_code
def yX5_clear : MethodName := ⟨RX5, "clear", "()V"⟩
abbrev cX5_finish : ByteArray := prog_7_method_5_code
def yX5_finish : MethodName := ⟨RX5, "finish", "(I)I"⟩
abbrev cX5_takeThing : ByteArray := prog_7_method_6_code
def yX5_takeThing : MethodName := ⟨RX5, "takeThing", "(LDownTheGutter$Signs;I)Z"⟩
abbrev cX5_takeBehindThing : ByteArray := prog_7_method_7_code
def yX5_takeBehindThing : MethodName := ⟨RX5, "takeBehindThing", "(LDownTheGutter$Signs;I)Z"⟩
abbrev cX5_lengthenNumber : ByteArray := prog_7_method_8_code
def yX5_lengthenNumber : MethodName := ⟨RX5, "lengthenNumber", "(I)Z"⟩
abbrev cX5_close : ByteArray := prog_7_method_9_code
def yX5_close : MethodName := ⟨RX5, "close", "()Z"⟩
abbrev cX5_addFact : ByteArray := prog_7_method_10_code
def yX5_addFact : MethodName := ⟨RX5, "addFact", "(I)V"⟩
abbrev cX5_addStep : ByteArray := prog_7_method_11_code
def yX5_addStep : MethodName := ⟨RX5, "addStep", "(I)V"⟩
abbrev cX5_hold : ByteArray := prog_7_method_12_code
def yX5_hold : MethodName := ⟨RX5, "hold", "(I)V"⟩
abbrev cX5_release : ByteArray := prog_7_method_13_code
def yX5_release : MethodName := ⟨RX5, "release", "(I)V"⟩
abbrev cX5_rankOf : ByteArray := prog_7_method_14_code
def yX5_rankOf : MethodName := ⟨RX5, "rankOf", "(I)I"⟩
abbrev cX5_value : ByteArray := prog_7_method_15_code
def yX5_value : MethodName := ⟨RX5, "value", "([I)I"⟩
def RX6 : String := "DownTheGutter$Scene"
def TX6 : u_T := fun k => match k with
  | 0 => ("DownTheGutter$Scene", "spots", "[I", true)
  | 1 => ("DownTheGutter$Scene", "papers", "[I", true)
  | 2 => ("DownTheGutter$Scene", "purses", "[I", true)
  | 3 => ("DownTheGutter$Scene", "trails", "[I", true)
  | 4 => ("DownTheGutter$Scene", "starts", "[I", true)
  | 5 => ("DownTheGutter$Scene", "ends", "[I", true)
  | 6 => ("DownTheGutter$Scene", "things", "I", false)
  | 7 => ("DownTheGutter$Scene", "planks", "I", false)
  | 8 => ("DownTheGutter$Scene", "now", "I", false)
  | 9 => ("DownTheGutter$Scene", "home", "I", false)
  | _ => ("DownTheGutter$Scene", "lost", "I", false)
def tyX6 : Nat → FieldType := fun k => match k with
  | 0 => .array .int
  | 1 => .array .int
  | 2 => .array .int
  | 3 => .array .int
  | 4 => .array .int
  | 5 => .array .int
  | 6 => .int
  | 7 => .int
  | 8 => .int
  | 9 => .int
  | _ => .int
abbrev wsX60 : List Cond := u_ws RX6 TX6 11
theorem nmX6 : ∀ a, a < 11 → ∀ b, b < 11 → a ≠ b → (TX6 a).2.1 ≠ (TX6 b).2.1 := by decide +kernel
theorem tyX6_ok : ∀ k, k < 11 → parseFieldDescriptor (TX6 k).2.2.1 = some (tyX6 k) := by decide +kernel
abbrev cX6_init : ByteArray := prog_8_method_1_code
def yX6_init : MethodName := ⟨RX6, "<init>", "()V"⟩
abbrev cX6_clear : ByteArray := prog_8_method_2_code
def yX6_clear : MethodName := ⟨RX6, "clear", "()V"⟩
abbrev cX6_copy : ByteArray := prog_8_method_3_code
def yX6_copy : MethodName := ⟨RX6, "copy", "(LDownTheGutter$Scene;)V"⟩
abbrev cX6_has : ByteArray := prog_8_method_4_code
def yX6_has : MethodName := ⟨RX6, "has", "(I)Z"⟩
abbrev cX6_isOnWay : ByteArray := prog_8_method_5_code
def yX6_isOnWay : MethodName := ⟨RX6, "isOnWay", "(I)Z"⟩
abbrev cX6_isAfloat : ByteArray := prog_8_method_6_code
def yX6_isAfloat : MethodName := ⟨RX6, "isAfloat", "(I)Z"⟩
abbrev cX6_onWay : ByteArray := prog_8_method_7_code
def yX6_onWay : MethodName := ⟨RX6, "onWay", "()I"⟩
abbrev cX6_spotOf : ByteArray := prog_8_method_8_code
def yX6_spotOf : MethodName := ⟨RX6, "spotOf", "(I)I"⟩
abbrev cX6_paperOf : ByteArray := prog_8_method_9_code
def yX6_paperOf : MethodName := ⟨RX6, "paperOf", "(I)I"⟩
abbrev cX6_purseOf : ByteArray := prog_8_method_10_code
def yX6_purseOf : MethodName := ⟨RX6, "purseOf", "(I)I"⟩
abbrev cX6_trailOf : ByteArray := prog_8_method_11_code
def yX6_trailOf : MethodName := ⟨RX6, "trailOf", "(I)I"⟩
abbrev cX6_startsIn : ByteArray := prog_8_method_12_code
def yX6_startsIn : MethodName := ⟨RX6, "startsIn", "(I)I"⟩
abbrev cX6_endedIn : ByteArray := prog_8_method_13_code
def yX6_endedIn : MethodName := ⟨RX6, "endedIn", "(I)I"⟩
abbrev cX6_fateOf : ByteArray := prog_8_method_14_code
def yX6_fateOf : MethodName := ⟨RX6, "fateOf", "(I)I"⟩
abbrev cX6_at : ByteArray := prog_8_method_15_code
def yX6_at : MethodName := ⟨RX6, "at", "(I)I"⟩
abbrev cX6_add : ByteArray := prog_8_method_16_code
def yX6_add : MethodName := ⟨RX6, "add", "(IIIIZ)I"⟩
abbrev cX6_enrich : ByteArray := prog_8_method_17_code
def yX6_enrich : MethodName := ⟨RX6, "enrich", "(II)I"⟩
abbrev cX6_setPaper : ByteArray := prog_8_method_18_code
def yX6_setPaper : MethodName := ⟨RX6, "setPaper", "(II)V"⟩
abbrev cX6_setPurse : ByteArray := prog_8_method_19_code
def yX6_setPurse : MethodName := ⟨RX6, "setPurse", "(II)V"⟩
abbrev cX6_setStart : ByteArray := prog_8_method_20_code
def yX6_setStart : MethodName := ⟨RX6, "setStart", "(II)V"⟩
abbrev cX6_holdBack : ByteArray := prog_8_method_21_code
def yX6_holdBack : MethodName := ⟨RX6, "holdBack", "(I)V"⟩
abbrev cX6_move : ByteArray := prog_8_method_22_code
def yX6_move : MethodName := ⟨RX6, "move", "(II)V"⟩
abbrev cX6_comeHome : ByteArray := prog_8_method_23_code
def yX6_comeHome : MethodName := ⟨RX6, "comeHome", "(I)V"⟩
abbrev cX6_lose : ByteArray := prog_8_method_24_code
def yX6_lose : MethodName := ⟨RX6, "lose", "(I)V"⟩
def RX7 : String := "DownTheGutter$Signs"
def TX7 : u_T := fun k => match k with
  | 0 => ("DownTheGutter$Signs", "signs", "[I", true)
  | 1 => ("DownTheGutter$Signs", "seen", "I", false)
  | _ => ("DownTheGutter$Signs", "length", "I", false)
def tyX7 : Nat → FieldType := fun k => match k with
  | 0 => .array .int
  | 1 => .int
  | _ => .int
abbrev wsX70 : List Cond := u_ws RX7 TX7 3
theorem nmX7 : ∀ a, a < 3 → ∀ b, b < 3 → a ≠ b → (TX7 a).2.1 ≠ (TX7 b).2.1 := by decide +kernel
theorem tyX7_ok : ∀ k, k < 3 → parseFieldDescriptor (TX7 k).2.2.1 = some (tyX7 k) := by decide +kernel
abbrev cX7_init : ByteArray := prog_9_method_1_code
def yX7_init : MethodName := ⟨RX7, "<init>", "()V"⟩
abbrev cX7_addFour : ByteArray := prog_9_method_2_code
def yX7_addFour : MethodName := ⟨RX7, "addFour", "(I)Z"⟩
abbrev cX7_cut : ByteArray := prog_9_method_3_code
def yX7_cut : MethodName := ⟨RX7, "cut", "(I)Z"⟩
abbrev cX7_showAtMost : ByteArray := prog_9_method_4_code
def yX7_showAtMost : MethodName := ⟨RX7, "showAtMost", "(I)V"⟩
abbrev cX7_look : ByteArray := prog_9_method_5_code
def yX7_look : MethodName := ⟨RX7, "look", "(I)I"⟩
abbrev cX7_isOver : ByteArray := prog_9_method_6_code
def yX7_isOver : MethodName := ⟨RX7, "isOver", "(I)Z"⟩
abbrev cX7_hasSign : ByteArray := prog_9_method_7_code
def yX7_hasSign : MethodName := ⟨RX7, "hasSign", "(IC)Z"⟩
abbrev cX7_digit : ByteArray := prog_9_method_8_code
def yX7_digit : MethodName := ⟨RX7, "digit", "(I)I"⟩
abbrev cX7_letter : ByteArray := prog_9_method_9_code
def yX7_letter : MethodName := ⟨RX7, "letter", "(I)I"⟩
abbrev cX7_oneOf : ByteArray := prog_9_method_10_code
def yX7_oneOf : MethodName := ⟨RX7, "oneOf", "(Ljava/lang/String;I)I"⟩
def RX8 : String := "DownTheGutter$Town"
def TX8 : u_T := fun k => match k with
  | 0 => ("DownTheGutter$Town", "kinds", "[I", true)
  | 1 => ("DownTheGutter$Town", "nexts", "[I", true)
  | 2 => ("DownTheGutter$Town", "seconds", "[I", true)
  | 3 => ("DownTheGutter$Town", "figures", "[I", true)
  | 4 => ("DownTheGutter$Town", "firstUse", "[I", true)
  | 5 => ("DownTheGutter$Town", "kitchens", "I", false)
  | 6 => ("DownTheGutter$Town", "size", "I", false)
  | 7 => ("DownTheGutter$Town", "forks", "I", false)
  | _ => ("DownTheGutter$Town", "sets", "I", false)
def tyX8 : Nat → FieldType := fun k => match k with
  | 0 => .array .int
  | 1 => .array .int
  | 2 => .array .int
  | 3 => .array .int
  | 4 => .array .int
  | 5 => .int
  | 6 => .int
  | 7 => .int
  | _ => .int
abbrev wsX80 : List Cond := u_ws RX8 TX8 9
theorem nmX8 : ∀ a, a < 9 → ∀ b, b < 9 → a ≠ b → (TX8 a).2.1 ≠ (TX8 b).2.1 := by decide +kernel
theorem tyX8_ok : ∀ k, k < 9 → parseFieldDescriptor (TX8 k).2.2.1 = some (tyX8 k) := by decide +kernel
abbrev cX8_init : ByteArray := prog_10_method_1_code
def yX8_init : MethodName := ⟨RX8, "<init>", "()V"⟩
abbrev cX8_has : ByteArray := prog_10_method_2_code
def yX8_has : MethodName := ⟨RX8, "has", "(I)Z"⟩
abbrev cX8_isFork : ByteArray := prog_10_method_3_code
def yX8_isFork : MethodName := ⟨RX8, "isFork", "(I)Z"⟩
abbrev cX8_isKitchen : ByteArray := prog_10_method_4_code
def yX8_isKitchen : MethodName := ⟨RX8, "isKitchen", "(I)Z"⟩
abbrev cX8_kindOf : ByteArray := prog_10_method_5_code
def yX8_kindOf : MethodName := ⟨RX8, "kindOf", "(I)I"⟩
abbrev cX8_nextOf : ByteArray := prog_10_method_6_code
def yX8_nextOf : MethodName := ⟨RX8, "nextOf", "(I)I"⟩
abbrev cX8_secondOf : ByteArray := prog_10_method_7_code
def yX8_secondOf : MethodName := ⟨RX8, "secondOf", "(I)I"⟩
abbrev cX8_figureOf : ByteArray := prog_10_method_8_code
def yX8_figureOf : MethodName := ⟨RX8, "figureOf", "(I)I"⟩
abbrev cX8_nextSet : ByteArray := prog_10_method_9_code
def yX8_nextSet : MethodName := ⟨RX8, "nextSet", "(I)I"⟩
abbrev cX8_copy : ByteArray := prog_10_method_10_code
def yX8_copy : MethodName := ⟨RX8, "copy", "(LDownTheGutter$Town;)V"⟩
abbrev cX8_read : ByteArray := prog_10_method_11_code
def yX8_read : MethodName := ⟨RX8, "read", "(LDownTheGutter$Signs;)I"⟩
abbrev cX8_clear : ByteArray := prog_10_method_12_code
def yX8_clear : MethodName := ⟨RX8, "clear", "()V"⟩
abbrev cX8_judgeLetters : ByteArray := prog_10_method_13_code
def yX8_judgeLetters : MethodName := ⟨RX8, "judgeLetters", "()I"⟩
abbrev cX8_readLine : ByteArray := prog_10_method_14_code
def yX8_readLine : MethodName := ⟨RX8, "readLine", "(LDownTheGutter$Signs;I)I"⟩
abbrev cX8_readFork : ByteArray := prog_10_method_15_code
def yX8_readFork : MethodName := ⟨RX8, "readFork", "(LDownTheGutter$Signs;II)I"⟩
abbrev cX8_readMill : ByteArray := prog_10_method_16_code
def yX8_readMill : MethodName := ⟨RX8, "readMill", "(LDownTheGutter$Signs;II)I"⟩
abbrev cX8_readFigure : ByteArray := prog_10_method_17_code
def yX8_readFigure : MethodName := ⟨RX8, "readFigure", "(LDownTheGutter$Signs;III)I"⟩
abbrev cX8_use : ByteArray := prog_10_method_18_code
def yX8_use : MethodName := ⟨RX8, "use", "(II)V"⟩
abbrev cX8_addPlace : ByteArray := prog_10_method_19_code
def yX8_addPlace : MethodName := ⟨RX8, "addPlace", "(IIII)V"⟩
def RX9 : String := "DownTheGutter$Trials"
def TX9 : u_T := fun k => match k with
  | 0 => ("DownTheGutter$Trials", "town", "LDownTheGutter$Town;", true)
  | 1 => ("DownTheGutter$Trials", "current", "LDownTheGutter$Current;", true)
  | 2 => ("DownTheGutter$Trials", "tells", "[I", true)
  | 3 => ("DownTheGutter$Trials", "fitting", "[Z", true)
  | 4 => ("DownTheGutter$Trials", "tallies", "[I", true)
  | 5 => ("DownTheGutter$Trials", "those", "I", false)
  | 6 => ("DownTheGutter$Trials", "lead", "I", false)
  | 7 => ("DownTheGutter$Trials", "start", "LDownTheGutter$Scene;", true)
  | _ => ("DownTheGutter$Trials", "scene", "LDownTheGutter$Scene;", true)
def tyX9 : Nat → FieldType := fun k => match k with
  | 0 => .object "DownTheGutter$Town"
  | 1 => .object "DownTheGutter$Current"
  | 2 => .array .int
  | 3 => .array .boolean
  | 4 => .array .int
  | 5 => .int
  | 6 => .int
  | 7 => .object "DownTheGutter$Scene"
  | _ => .object "DownTheGutter$Scene"
abbrev wsX90 : List Cond := u_ws RX9 TX9 9
theorem nmX9 : ∀ a, a < 9 → ∀ b, b < 9 → a ≠ b → (TX9 a).2.1 ≠ (TX9 b).2.1 := by decide +kernel
theorem tyX9_ok : ∀ k, k < 9 → parseFieldDescriptor (TX9 k).2.2.1 = some (tyX9 k) := by decide +kernel
abbrev cX9_init : ByteArray := prog_11_method_1_code
def yX9_init : MethodName := ⟨RX9, "<init>", "(LDownTheGutter$Town;LDownTheGutter$Current;)V"⟩
abbrev cX9_thinkOf : ByteArray := prog_11_method_2_code
def yX9_thinkOf : MethodName := ⟨RX9, "thinkOf", "(IIIII)V"⟩
abbrev cX9_startFrom : ByteArray := prog_11_method_3_code
def yX9_startFrom : MethodName := ⟨RX9, "startFrom", "(LDownTheGutter$Scene;II)V"⟩
abbrev cX9_begin : ByteArray := prog_11_method_4_code
def yX9_begin : MethodName := ⟨RX9, "begin", "(I)V"⟩
abbrev cX9_go : ByteArray := prog_11_method_5_code
def yX9_go : MethodName := ⟨RX9, "go", "(I)I"⟩
abbrev cX9_goOn : ByteArray := prog_11_method_6_code
def yX9_goOn : MethodName := ⟨RX9, "goOn", "(LDownTheGutter$Scene;I)V"⟩
abbrev cX9_settle : ByteArray := prog_11_method_7_code
def yX9_settle : MethodName := ⟨RX9, "settle", "(LDownTheGutter$Scene;I)I"⟩
abbrev cX9_circle : ByteArray := prog_11_method_8_code
def yX9_circle : MethodName := ⟨RX9, "circle", "(II)I"⟩
abbrev cX9_forgetSets : ByteArray := prog_11_method_9_code
def yX9_forgetSets : MethodName := ⟨RX9, "forgetSets", "()V"⟩
abbrev cX9_remember : ByteArray := prog_11_method_10_code
def yX9_remember : MethodName := ⟨RX9, "remember", "(II)V"⟩
abbrev cX9_outcome : ByteArray := prog_11_method_11_code
def yX9_outcome : MethodName := ⟨RX9, "outcome", "(I)I"⟩
abbrev cX9_spread : ByteArray := prog_11_method_12_code
def yX9_spread : MethodName := ⟨RX9, "spread", "(II)V"⟩
abbrev cX9_fits : ByteArray := prog_11_method_13_code
def yX9_fits : MethodName := ⟨RX9, "fits", "(I)Z"⟩
abbrev cX9_setFitting : ByteArray := prog_11_method_14_code
def yX9_setFitting : MethodName := ⟨RX9, "setFitting", "(IZ)V"⟩
abbrev cX9_fitAll : ByteArray := prog_11_method_15_code
def yX9_fitAll : MethodName := ⟨RX9, "fitAll", "()V"⟩
abbrev cX9_mostLeft : ByteArray := prog_11_method_16_code
def yX9_mostLeft : MethodName := ⟨RX9, "mostLeft", "()I"⟩
abbrev cX9_tally : ByteArray := prog_11_method_17_code
def yX9_tally : MethodName := ⟨RX9, "tally", "(I)I"⟩
def RX10 : String := "DownTheGutter$Water"
def TX10 : u_T := fun k => match k with
  | 0 => ("DownTheGutter$Water", "digits", "[I", true)
  | _ => ("DownTheGutter$Water", "length", "I", false)
def tyX10 : Nat → FieldType := fun k => match k with
  | 0 => .array .int
  | _ => .int
abbrev wsX100 : List Cond := u_ws RX10 TX10 2
theorem nmX10 : ∀ a, a < 2 → ∀ b, b < 2 → a ≠ b → (TX10 a).2.1 ≠ (TX10 b).2.1 := by decide +kernel
theorem tyX10_ok : ∀ k, k < 2 → parseFieldDescriptor (TX10 k).2.2.1 = some (tyX10 k) := by decide +kernel
abbrev cX10_init : ByteArray := prog_12_method_1_code
def yX10_init : MethodName := ⟨RX10, "<init>", "()V"⟩
abbrev cX10_in : ByteArray := prog_12_method_2_code
def yX10_in : MethodName := ⟨RX10, "in", "(I)I"⟩
abbrev cX10_read : ByteArray := prog_12_method_3_code
def yX10_read : MethodName := ⟨RX10, "read", "(LDownTheGutter$Signs;)I"⟩
def RX11 : String := "DownTheGutter"
def TX11 : u_T := fun k => match k with
  | 0 => ("DownTheGutter", "text", "LDownTheGutter$Signs;", true)
  | 1 => ("DownTheGutter", "town", "LDownTheGutter$Town;", true)
  | 2 => ("DownTheGutter", "draftTown", "LDownTheGutter$Town;", true)
  | 3 => ("DownTheGutter", "water", "LDownTheGutter$Water;", true)
  | 4 => ("DownTheGutter", "rule", "LDownTheGutter$Rule;", true)
  | 5 => ("DownTheGutter", "draftRule", "LDownTheGutter$Rule;", true)
  | 6 => ("DownTheGutter", "diary", "LDownTheGutter$Diary;", true)
  | 7 => ("DownTheGutter", "present", "LDownTheGutter$Scene;", true)
  | 8 => ("DownTheGutter", "before", "LDownTheGutter$Scene;", true)
  | 9 => ("DownTheGutter", "past", "LDownTheGutter$Past;", true)
  | 10 => ("DownTheGutter", "kept", "[LDownTheGutter$Scene;", true)
  | 11 => ("DownTheGutter", "keptBits", "I", false)
  | 12 => ("DownTheGutter", "corks", "LDownTheGutter$Corks;", true)
  | 13 => ("DownTheGutter", "row", "LDownTheGutter$Row;", true)
  | 14 => ("DownTheGutter", "current", "LDownTheGutter$Current;", true)
  | _ => ("DownTheGutter", "trials", "LDownTheGutter$Trials;", true)
def tyX11 : Nat → FieldType := fun k => match k with
  | 0 => .object "DownTheGutter$Signs"
  | 1 => .object "DownTheGutter$Town"
  | 2 => .object "DownTheGutter$Town"
  | 3 => .object "DownTheGutter$Water"
  | 4 => .object "DownTheGutter$Rule"
  | 5 => .object "DownTheGutter$Rule"
  | 6 => .object "DownTheGutter$Diary"
  | 7 => .object "DownTheGutter$Scene"
  | 8 => .object "DownTheGutter$Scene"
  | 9 => .object "DownTheGutter$Past"
  | 10 => .array (.object "DownTheGutter$Scene")
  | 11 => .int
  | 12 => .object "DownTheGutter$Corks"
  | 13 => .object "DownTheGutter$Row"
  | 14 => .object "DownTheGutter$Current"
  | _ => .object "DownTheGutter$Trials"
abbrev wsX110 : List Cond := u_ws RX11 TX11 16
theorem nmX11 : ∀ a, a < 16 → ∀ b, b < 16 → a ≠ b → (TX11 a).2.1 ≠ (TX11 b).2.1 := by decide +kernel
theorem tyX11_ok : ∀ k, k < 16 → parseFieldDescriptor (TX11 k).2.2.1 = some (tyX11 k) := by decide +kernel
abbrev cX11_init : ByteArray := prog_1_method_1_code
def yX11_init : MethodName := ⟨RX11, "<init>", "()V"⟩
abbrev cX11_sign : ByteArray := prog_1_method_2_code
def yX11_sign : MethodName := ⟨RX11, "sign", "(I)I"⟩
abbrev cX11_end : ByteArray := prog_1_method_3_code
def yX11_end : MethodName := ⟨RX11, "end", "(I)Z"⟩
abbrev cX11_town : ByteArray := prog_1_method_4_code
def yX11_town : MethodName := ⟨RX11, "town", "()I"⟩
abbrev cX11_water : ByteArray := prog_1_method_5_code
def yX11_water : MethodName := ⟨RX11, "water", "()I"⟩
abbrev cX11_rule : ByteArray := prog_1_method_6_code
def yX11_rule : MethodName := ⟨RX11, "rule", "()I"⟩
abbrev cX11_place : ByteArray := prog_1_method_7_code
def yX11_place : MethodName := ⟨RX11, "place", "(II)I"⟩
abbrev cX11_of : ByteArray := prog_1_method_8_code
def yX11_of : MethodName := ⟨RX11, "of", "(II)I"⟩
abbrev cX11_flow : ByteArray := prog_1_method_9_code
def yX11_flow : MethodName := ⟨RX11, "flow", "(I)I"⟩
abbrev cX11_plank : ByteArray := prog_1_method_10_code
def yX11_plank : MethodName := ⟨RX11, "plank", "(II)Z"⟩
abbrev cX11_sheet : ByteArray := prog_1_method_11_code
def yX11_sheet : MethodName := ⟨RX11, "sheet", "(IIII)I"⟩
abbrev cX11_entry : ByteArray := prog_1_method_12_code
def yX11_entry : MethodName := ⟨RX11, "entry", "(II)I"⟩
abbrev cX11_put : ByteArray := prog_1_method_13_code
def yX11_put : MethodName := ⟨RX11, "put", "(IIII)I"⟩
abbrev cX11_give : ByteArray := prog_1_method_14_code
def yX11_give : MethodName := ⟨RX11, "give", "(II)I"⟩
abbrev cX11_run : ByteArray := prog_1_method_15_code
def yX11_run : MethodName := ⟨RX11, "run", "(I)I"⟩
abbrev cX11_passMinutes : ByteArray := prog_1_method_16_code
def yX11_passMinutes : MethodName := ⟨RX11, "passMinutes", "(I)V"⟩
abbrev cX11_day : ByteArray := prog_1_method_17_code
def yX11_day : MethodName := ⟨RX11, "day", "()I"⟩
abbrev cX11_perform : ByteArray := prog_1_method_18_code
def yX11_perform : MethodName := ⟨RX11, "perform", "(I)I"⟩
abbrev cX11_undo : ByteArray := prog_1_method_19_code
def yX11_undo : MethodName := ⟨RX11, "undo", "()I"⟩
abbrev cX11_where : ByteArray := prog_1_method_20_code
def yX11_where : MethodName := ⟨RX11, "where", "(II)I"⟩
abbrev cX11_comes : ByteArray := prog_1_method_21_code
def yX11_comes : MethodName := ⟨RX11, "comes", "(I)I"⟩
abbrev cX11_lost : ByteArray := prog_1_method_22_code
def yX11_lost : MethodName := ⟨RX11, "lost", "(I)I"⟩
abbrev cX11_homes : ByteArray := prog_1_method_23_code
def yX11_homes : MethodName := ⟨RX11, "homes", "(I)I"⟩
abbrev cX11_sail : ByteArray := prog_1_method_24_code
def yX11_sail : MethodName := ⟨RX11, "sail", "(IIIII)I"⟩
abbrev cX11_soonest : ByteArray := prog_1_method_25_code
def yX11_soonest : MethodName := ⟨RX11, "soonest", "(III)I"⟩
abbrev cX11_basin : ByteArray := prog_1_method_26_code
def yX11_basin : MethodName := ⟨RX11, "basin", "(III)I"⟩
abbrev cX11_boat : ByteArray := prog_1_method_27_code
def yX11_boat : MethodName := ⟨RX11, "boat", "(III)I"⟩
abbrev cX11_coins : ByteArray := prog_1_method_28_code
def yX11_coins : MethodName := ⟨RX11, "coins", "(III)I"⟩
abbrev cX11_waits : ByteArray := prog_1_method_29_code
def yX11_waits : MethodName := ⟨RX11, "waits", "(IIII)I"⟩
abbrev cX11_round : ByteArray := prog_1_method_30_code
def yX11_round : MethodName := ⟨RX11, "round", "(I)I"⟩
abbrev cX11_save : ByteArray := prog_1_method_31_code
def yX11_save : MethodName := ⟨RX11, "save", "(I)I"⟩
abbrev cX11_steer : ByteArray := prog_1_method_32_code
def yX11_steer : MethodName := ⟨RX11, "steer", "(II)I"⟩
abbrev cX11_fewestTurns : ByteArray := prog_1_method_33_code
def yX11_fewestTurns : MethodName := ⟨RX11, "fewestTurns", "(I)I"⟩
abbrev cX11_ways : ByteArray := prog_1_method_34_code
def yX11_ways : MethodName := ⟨RX11, "ways", "(IIII)I"⟩
abbrev cX11_duel : ByteArray := prog_1_method_35_code
def yX11_duel : MethodName := ⟨RX11, "duel", "(IIIII)I"⟩
abbrev cX11_firstGets : ByteArray := prog_1_method_36_code
def yX11_firstGets : MethodName := ⟨RX11, "firstGets", "(IIIZ)Z"⟩
abbrev cX11_cork : ByteArray := prog_1_method_37_code
def yX11_cork : MethodName := ⟨RX11, "cork", "(III)I"⟩
abbrev cX11_forget : ByteArray := prog_1_method_38_code
def yX11_forget : MethodName := ⟨RX11, "forget", "()I"⟩
abbrev cX11_maps : ByteArray := prog_1_method_39_code
def yX11_maps : MethodName := ⟨RX11, "maps", "()I"⟩
abbrev cX11_next : ByteArray := prog_1_method_40_code
def yX11_next : MethodName := ⟨RX11, "next", "(I)I"⟩
abbrev cX11_findFits : ByteArray := prog_1_method_41_code
def yX11_findFits : MethodName := ⟨RX11, "findFits", "()V"⟩
abbrev cX11_odds : ByteArray := prog_1_method_42_code
def yX11_odds : MethodName := ⟨RX11, "odds", "(III)I"⟩
abbrev cX11_weightOf : ByteArray := prog_1_method_43_code
def yX11_weightOf : MethodName := ⟨RX11, "weightOf", "(III)I"⟩
abbrev cX11_commonDivisor : ByteArray := prog_1_method_44_code
def yX11_commonDivisor : MethodName := ⟨RX11, "commonDivisor", "(II)I"⟩
abbrev cX11_marks : ByteArray := prog_1_method_45_code
def yX11_marks : MethodName := ⟨RX11, "marks", "(III)I"⟩
abbrev cX11_order : ByteArray := prog_1_method_46_code
def yX11_order : MethodName := ⟨RX11, "order", "(II)I"⟩
abbrev cX11_keep : ByteArray := prog_1_method_47_code
def yX11_keep : MethodName := ⟨RX11, "keep", "(I)Z"⟩
abbrev cX11_again : ByteArray := prog_1_method_48_code
def yX11_again : MethodName := ⟨RX11, "again", "(I)Z"⟩
abbrev cX11_count : ByteArray := prog_1_method_49_code
def yX11_count : MethodName := ⟨RX11, "count", "(I)I"⟩
abbrev cX11_row : ByteArray := prog_1_method_50_code
def yX11_row : MethodName := ⟨RX11, "row", "(I)J"⟩
abbrev cX11_isLoad : ByteArray := prog_1_method_51_code
def yX11_isLoad : MethodName := ⟨RX11, "isLoad", "(II)Z"⟩
abbrev cX11_isWait : ByteArray := prog_1_method_52_code
def yX11_isWait : MethodName := ⟨RX11, "isWait", "(I)Z"⟩
abbrev cX11_isAhead : ByteArray := prog_1_method_53_code
def yX11_isAhead : MethodName := ⟨RX11, "isAhead", "(I)Z"⟩
abbrev cX11_isCorkMinute : ByteArray := prog_1_method_54_code
def yX11_isCorkMinute : MethodName := ⟨RX11, "isCorkMinute", "(I)Z"⟩
abbrev cX11_isIn : ByteArray := prog_1_method_55_code
def yX11_isIn : MethodName := ⟨RX11, "isIn", "(II)Z"⟩
abbrev cX11_kitchenOf : ByteArray := prog_1_method_56_code
def yX11_kitchenOf : MethodName := ⟨RX11, "kitchenOf", "(I)I"⟩
abbrev cX11_minutesOf : ByteArray := prog_1_method_57_code
def yX11_minutesOf : MethodName := ⟨RX11, "minutesOf", "(I)I"⟩
abbrev cX11_lowest : ByteArray := prog_1_method_58_code
def yX11_lowest : MethodName := ⟨RX11, "lowest", "(I)I"⟩
abbrev cX11_sailed : ByteArray := prog_1_method_59_code
def yX11_sailed : MethodName := ⟨RX11, "sailed", "(IIII)I"⟩
def RX12 : String := "DownTheGutterModel"
def TX12 : u_T := fun k => match k with
  | 0 => ("DownTheGutterModel", "thrown", "I", false)
  | 1 => ("DownTheGutterModel", "rows", "I", false)
  | 2 => ("DownTheGutterModel", "row", "[J", true)
  | 3 => ("DownTheGutterModel", "places", "I", false)
  | 4 => ("DownTheGutterModel", "waterLong", "I", false)
  | 5 => ("DownTheGutterModel", "kind", "[I", true)
  | 6 => ("DownTheGutterModel", "goes", "[I", true)
  | 7 => ("DownTheGutterModel", "second", "[I", true)
  | 8 => ("DownTheGutterModel", "number", "[I", true)
  | 9 => ("DownTheGutterModel", "waters", "[I", true)
  | 10 => ("DownTheGutterModel", "now", "[I", true)
  | 11 => ("DownTheGutterModel", "then", "[I", true)
  | 12 => ("DownTheGutterModel", "tape", "[I", true)
  | 13 => ("DownTheGutterModel", "taped", "I", false)
  | 14 => ("DownTheGutterModel", "at", "I", false)
  | 15 => ("DownTheGutterModel", "to", "I", false)
  | 16 => ("DownTheGutterModel", "nest", "I", false)
  | 17 => ("DownTheGutterModel", "readKind", "[I", true)
  | 18 => ("DownTheGutterModel", "readGoes", "[I", true)
  | 19 => ("DownTheGutterModel", "readSecond", "[I", true)
  | 20 => ("DownTheGutterModel", "readNumber", "[I", true)
  | 21 => ("DownTheGutterModel", "readMany", "I", false)
  | 22 => ("DownTheGutterModel", "meant", "[I", true)
  | 23 => ("DownTheGutterModel", "stood", "[I", true)
  | 24 => ("DownTheGutterModel", "meantMany", "I", false)
  | 25 => ("DownTheGutterModel", "readWaters", "[I", true)
  | 26 => ("DownTheGutterModel", "code", "[I", true)
  | 27 => ("DownTheGutterModel", "readCode", "[I", true)
  | 28 => ("DownTheGutterModel", "codeLong", "I", false)
  | 29 => ("DownTheGutterModel", "readLong", "I", false)
  | 30 => ("DownTheGutterModel", "stack", "[I", true)
  | 31 => ("DownTheGutterModel", "rains", "I", false)
  | 32 => ("DownTheGutterModel", "rainsFrom", "I", false)
  | 33 => ("DownTheGutterModel", "isForever", "Z", false)
  | 34 => ("DownTheGutterModel", "hasLeft", "Z", false)
  | 35 => ("DownTheGutterModel", "leaves", "I", false)
  | 36 => ("DownTheGutterModel", "undos", "I", false)
  | 37 => ("DownTheGutterModel", "undone", "[I", true)
  | 38 => ("DownTheGutterModel", "actSign", "[I", true)
  | 39 => ("DownTheGutterModel", "actOne", "[I", true)
  | 40 => ("DownTheGutterModel", "actTwo", "[I", true)
  | 41 => ("DownTheGutterModel", "actThree", "[I", true)
  | 42 => ("DownTheGutterModel", "acts", "I", false)
  | 43 => ("DownTheGutterModel", "cameHome", "I", false)
  | 44 => ("DownTheGutterModel", "alone", "[I", true)
  | 45 => ("DownTheGutterModel", "soloPlanks", "I", false)
  | 46 => ("DownTheGutterModel", "soloNow", "I", false)
  | 47 => ("DownTheGutterModel", "played", "[I", true)
  | 48 => ("DownTheGutterModel", "playPlace", "I", false)
  | 49 => ("DownTheGutterModel", "playBoat", "I", false)
  | 50 => ("DownTheGutterModel", "playCoins", "I", false)
  | 51 => ("DownTheGutterModel", "playKitchen", "I", false)
  | 52 => ("DownTheGutterModel", "corks", "I", false)
  | 53 => ("DownTheGutterModel", "corkPlace", "[I", true)
  | 54 => ("DownTheGutterModel", "corkMinute", "[I", true)
  | 55 => ("DownTheGutterModel", "corkHome", "[I", true)
  | 56 => ("DownTheGutterModel", "fits", "[Z", true)
  | 57 => ("DownTheGutterModel", "parts", "[I", true)
  | 58 => ("DownTheGutterModel", "isKept", "[Z", true)
  | _ => ("DownTheGutterModel", "kept", "[I", true)
def tyX12 : Nat → FieldType := fun k => match k with
  | 0 => .int
  | 1 => .int
  | 2 => .array .long
  | 3 => .int
  | 4 => .int
  | 5 => .array .int
  | 6 => .array .int
  | 7 => .array .int
  | 8 => .array .int
  | 9 => .array .int
  | 10 => .array .int
  | 11 => .array .int
  | 12 => .array .int
  | 13 => .int
  | 14 => .int
  | 15 => .int
  | 16 => .int
  | 17 => .array .int
  | 18 => .array .int
  | 19 => .array .int
  | 20 => .array .int
  | 21 => .int
  | 22 => .array .int
  | 23 => .array .int
  | 24 => .int
  | 25 => .array .int
  | 26 => .array .int
  | 27 => .array .int
  | 28 => .int
  | 29 => .int
  | 30 => .array .int
  | 31 => .int
  | 32 => .int
  | 33 => .boolean
  | 34 => .boolean
  | 35 => .int
  | 36 => .int
  | 37 => .array .int
  | 38 => .array .int
  | 39 => .array .int
  | 40 => .array .int
  | 41 => .array .int
  | 42 => .int
  | 43 => .int
  | 44 => .array .int
  | 45 => .int
  | 46 => .int
  | 47 => .array .int
  | 48 => .int
  | 49 => .int
  | 50 => .int
  | 51 => .int
  | 52 => .int
  | 53 => .array .int
  | 54 => .array .int
  | 55 => .array .int
  | 56 => .array .boolean
  | 57 => .array .int
  | 58 => .array .boolean
  | _ => .array .int
abbrev wsX120 : List Cond := u_ws RX12 TX12 60
theorem nmX12 : ∀ a, a < 60 → ∀ b, b < 60 → a ≠ b → (TX12 a).2.1 ≠ (TX12 b).2.1 := by decide +kernel
theorem tyX12_ok : ∀ k, k < 60 → parseFieldDescriptor (TX12 k).2.2.1 = some (tyX12 k) := by decide +kernel
abbrev cX12_init : ByteArray := prog_14_method_1_code
def yX12_init : MethodName := ⟨RX12, "<init>", "()V"⟩
abbrev cX12_thrown : ByteArray := prog_14_method_2_code
def yX12_thrown : MethodName := ⟨RX12, "thrown", "()I"⟩
abbrev cX12_refuse : ByteArray := prog_14_method_3_code
def yX12_refuse : MethodName := ⟨RX12, "refuse", "()I"⟩
abbrev cX12_in : ByteArray := prog_14_method_4_code
def yX12_in : MethodName := ⟨RX12, "in", "(JJJ)Z"⟩
abbrev cX12_has : ByteArray := prog_14_method_5_code
def yX12_has : MethodName := ⟨RX12, "has", "(II)Z"⟩
abbrev cX12_flag : ByteArray := prog_14_method_6_code
def yX12_flag : MethodName := ⟨RX12, "flag", "(Z)I"⟩
abbrev cX12_common : ByteArray := prog_14_method_7_code
def yX12_common : MethodName := ⟨RX12, "common", "(JJ)J"⟩
abbrev cX12_enters : ByteArray := prog_14_method_8_code
def yX12_enters : MethodName := ⟨RX12, "enters", "(J)V"⟩
abbrev cX12_entersFraction : ByteArray := prog_14_method_9_code
def yX12_entersFraction : MethodName := ⟨RX12, "entersFraction", "(JJ)V"⟩
abbrev cX12_isPlace : ByteArray := prog_14_method_10_code
def yX12_isPlace : MethodName := ⟨RX12, "isPlace", "(I)Z"⟩
abbrev cX12_isFork : ByteArray := prog_14_method_11_code
def yX12_isFork : MethodName := ⟨RX12, "isFork", "(I)Z"⟩
abbrev cX12_isKitchen : ByteArray := prog_14_method_12_code
def yX12_isKitchen : MethodName := ⟨RX12, "isKitchen", "(I)Z"⟩
abbrev cX12_isThing : ByteArray := prog_14_method_13_code
def yX12_isThing : MethodName := ⟨RX12, "isThing", "(I)Z"⟩
abbrev cX12_forks : ByteArray := prog_14_method_14_code
def yX12_forks : MethodName := ⟨RX12, "forks", "()I"⟩
abbrev cX12_sign : ByteArray := prog_14_method_15_code
def yX12_sign : MethodName := ⟨RX12, "sign", "(I)I"⟩
abbrev cX12_end : ByteArray := prog_14_method_16_code
def yX12_end : MethodName := ⟨RX12, "end", "(I)Z"⟩
abbrev cX12_begins : ByteArray := prog_14_method_17_code
def yX12_begins : MethodName := ⟨RX12, "begins", "(I)I"⟩
abbrev cX12_takes : ByteArray := prog_14_method_18_code
def yX12_takes : MethodName := ⟨RX12, "takes", "(I)Z"⟩
abbrev cX12_isDigit : ByteArray := prog_14_method_19_code
def yX12_isDigit : MethodName := ⟨RX12, "isDigit", "()Z"⟩
abbrev cX12_among : ByteArray := prog_14_method_20_code
def yX12_among : MethodName := ⟨RX12, "among", "(Ljava/lang/String;)I"⟩
abbrev cX12_takesOf : ByteArray := prog_14_method_21_code
def yX12_takesOf : MethodName := ⟨RX12, "takesOf", "(Ljava/lang/String;)I"⟩
abbrev cX12_numberOf : ByteArray := prog_14_method_22_code
def yX12_numberOf : MethodName := ⟨RX12, "numberOf", "(I)I"⟩
abbrev cX12_faultOf : ByteArray := prog_14_method_23_code
def yX12_faultOf : MethodName := ⟨RX12, "faultOf", "(IIZ)I"⟩
abbrev cX12_readsLetter : ByteArray := prog_14_method_24_code
def yX12_readsLetter : MethodName := ⟨RX12, "readsLetter", "()I"⟩
abbrev cX12_readsPlace : ByteArray := prog_14_method_25_code
def yX12_readsPlace : MethodName := ⟨RX12, "readsPlace", "()Z"⟩
abbrev cX12_town : ByteArray := prog_14_method_26_code
def yX12_town : MethodName := ⟨RX12, "town", "()I"⟩
abbrev cX12_water : ByteArray := prog_14_method_27_code
def yX12_water : MethodName := ⟨RX12, "water", "()I"⟩
abbrev cX12_codes : ByteArray := prog_14_method_28_code
def yX12_codes : MethodName := ⟨RX12, "codes", "(I)V"⟩
abbrev cX12_readsThing : ByteArray := prog_14_method_29_code
def yX12_readsThing : MethodName := ⟨RX12, "readsThing", "()Z"⟩
abbrev cX12_readsRank : ByteArray := prog_14_method_30_code
def yX12_readsRank : MethodName := ⟨RX12, "readsRank", "(I)Z"⟩
abbrev cX12_rule : ByteArray := prog_14_method_31_code
def yX12_rule : MethodName := ⟨RX12, "rule", "()I"⟩
abbrev cX12_waterIn : ByteArray := prog_14_method_32_code
def yX12_waterIn : MethodName := ⟨RX12, "waterIn", "(I)I"⟩
abbrev cX12_othersAt : ByteArray := prog_14_method_33_code
def yX12_othersAt : MethodName := ⟨RX12, "othersAt", "([II)I"⟩
abbrev cX12_askedOf : ByteArray := prog_14_method_34_code
def yX12_askedOf : MethodName := ⟨RX12, "askedOf", "([III)I"⟩
abbrev cX12_worked : ByteArray := prog_14_method_35_code
def yX12_worked : MethodName := ⟨RX12, "worked", "(III)I"⟩
abbrev cX12_ruled : ByteArray := prog_14_method_36_code
def yX12_ruled : MethodName := ⟨RX12, "ruled", "([II)I"⟩
abbrev cX12_ends : ByteArray := prog_14_method_37_code
def yX12_ends : MethodName := ⟨RX12, "ends", "([III)V"⟩
abbrev cX12_steps : ByteArray := prog_14_method_38_code
def yX12_steps : MethodName := ⟨RX12, "steps", "([II)Z"⟩
abbrev cX12_minuteGoes : ByteArray := prog_14_method_39_code
def yX12_minuteGoes : MethodName := ⟨RX12, "minuteGoes", "([I)V"⟩
abbrev cX12_thoseHow : ByteArray := prog_14_method_40_code
def yX12_thoseHow : MethodName := ⟨RX12, "thoseHow", "([II)I"⟩
abbrev cX12_place : ByteArray := prog_14_method_41_code
def yX12_place : MethodName := ⟨RX12, "place", "(II)I"⟩
abbrev cX12_of : ByteArray := prog_14_method_42_code
def yX12_of : MethodName := ⟨RX12, "of", "(II)I"⟩
abbrev cX12_flow : ByteArray := prog_14_method_43_code
def yX12_flow : MethodName := ⟨RX12, "flow", "(I)I"⟩
abbrev cX12_puts : ByteArray := prog_14_method_44_code
def yX12_puts : MethodName := ⟨RX12, "puts", "([I[I)V"⟩
abbrev cX12_putsBy : ByteArray := prog_14_method_45_code
def yX12_putsBy : MethodName := ⟨RX12, "putsBy", "()V"⟩
abbrev cX12_adds : ByteArray := prog_14_method_46_code
def yX12_adds : MethodName := ⟨RX12, "adds", "(I)I"⟩
abbrev cX12_undo : ByteArray := prog_14_method_47_code
def yX12_undo : MethodName := ⟨RX12, "undo", "()I"⟩
abbrev cX12_plank : ByteArray := prog_14_method_48_code
def yX12_plank : MethodName := ⟨RX12, "plank", "(II)Z"⟩
abbrev cX12_sheet : ByteArray := prog_14_method_49_code
def yX12_sheet : MethodName := ⟨RX12, "sheet", "(IIII)I"⟩
abbrev cX12_lays : ByteArray := prog_14_method_50_code
def yX12_lays : MethodName := ⟨RX12, "lays", "([IIIIII)V"⟩
abbrev cX12_canPut : ByteArray := prog_14_method_51_code
def yX12_canPut : MethodName := ⟨RX12, "canPut", "(III)Z"⟩
abbrev cX12_comesNow : ByteArray := prog_14_method_52_code
def yX12_comesNow : MethodName := ⟨RX12, "comesNow", "(IIII)I"⟩
abbrev cX12_gives : ByteArray := prog_14_method_53_code
def yX12_gives : MethodName := ⟨RX12, "gives", "(II)I"⟩
abbrev cX12_put : ByteArray := prog_14_method_54_code
def yX12_put : MethodName := ⟨RX12, "put", "(IIII)I"⟩
abbrev cX12_give : ByteArray := prog_14_method_55_code
def yX12_give : MethodName := ⟨RX12, "give", "(II)I"⟩
abbrev cX12_run : ByteArray := prog_14_method_56_code
def yX12_run : MethodName := ⟨RX12, "run", "(I)I"⟩
abbrev cX12_readsAct : ByteArray := prog_14_method_57_code
def yX12_readsAct : MethodName := ⟨RX12, "readsAct", "()Z"⟩
abbrev cX12_does : ByteArray := prog_14_method_58_code
def yX12_does : MethodName := ⟨RX12, "does", "(I)Z"⟩
abbrev cX12_day : ByteArray := prog_14_method_59_code
def yX12_day : MethodName := ⟨RX12, "day", "()I"⟩
abbrev cX12_goesOn : ByteArray := prog_14_method_60_code
def yX12_goesOn : MethodName := ⟨RX12, "goesOn", "(I)V"⟩
abbrev cX12_where : ByteArray := prog_14_method_61_code
def yX12_where : MethodName := ⟨RX12, "where", "(II)I"⟩
abbrev cX12_endsAfter : ByteArray := prog_14_method_62_code
def yX12_endsAfter : MethodName := ⟨RX12, "endsAfter", "([III)I"⟩
abbrev cX12_comes : ByteArray := prog_14_method_63_code
def yX12_comes : MethodName := ⟨RX12, "comes", "(I)I"⟩
abbrev cX12_lost : ByteArray := prog_14_method_64_code
def yX12_lost : MethodName := ⟨RX12, "lost", "(I)I"⟩
abbrev cX12_homes : ByteArray := prog_14_method_65_code
def yX12_homes : MethodName := ⟨RX12, "homes", "(I)I"⟩
abbrev cX12_thinksNow : ByteArray := prog_14_method_66_code
def yX12_thinksNow : MethodName := ⟨RX12, "thinksNow", "()V"⟩
abbrev cX12_goesAlone : ByteArray := prog_14_method_67_code
def yX12_goesAlone : MethodName := ⟨RX12, "goesAlone", "(IIII)I"⟩
abbrev cX12_laysAlone : ByteArray := prog_14_method_68_code
def yX12_laysAlone : MethodName := ⟨RX12, "laysAlone", "(IIII)V"⟩
abbrev cX12_sails : ByteArray := prog_14_method_69_code
def yX12_sails : MethodName := ⟨RX12, "sails", "(IIIII)I"⟩
abbrev cX12_canSail : ByteArray := prog_14_method_70_code
def yX12_canSail : MethodName := ⟨RX12, "canSail", "(IIII)Z"⟩
abbrev cX12_sail : ByteArray := prog_14_method_71_code
def yX12_sail : MethodName := ⟨RX12, "sail", "(IIIII)I"⟩
abbrev cX12_soonest : ByteArray := prog_14_method_72_code
def yX12_soonest : MethodName := ⟨RX12, "soonest", "(III)I"⟩
abbrev cX12_basin : ByteArray := prog_14_method_73_code
def yX12_basin : MethodName := ⟨RX12, "basin", "(III)I"⟩
abbrev cX12_boat : ByteArray := prog_14_method_74_code
def yX12_boat : MethodName := ⟨RX12, "boat", "(III)I"⟩
abbrev cX12_coins : ByteArray := prog_14_method_75_code
def yX12_coins : MethodName := ⟨RX12, "coins", "(III)I"⟩
abbrev cX12_waits : ByteArray := prog_14_method_76_code
def yX12_waits : MethodName := ⟨RX12, "waits", "(IIII)I"⟩
abbrev cX12_round : ByteArray := prog_14_method_77_code
def yX12_round : MethodName := ⟨RX12, "round", "(I)I"⟩
abbrev cX12_savedAfter : ByteArray := prog_14_method_78_code
def yX12_savedAfter : MethodName := ⟨RX12, "savedAfter", "(II)I"⟩
abbrev cX12_saves : ByteArray := prog_14_method_79_code
def yX12_saves : MethodName := ⟨RX12, "saves", "(III)I"⟩
abbrev cX12_save : ByteArray := prog_14_method_80_code
def yX12_save : MethodName := ⟨RX12, "save", "(I)I"⟩
abbrev cX12_steer : ByteArray := prog_14_method_81_code
def yX12_steer : MethodName := ⟨RX12, "steer", "(II)I"⟩
abbrev cX12_ways : ByteArray := prog_14_method_82_code
def yX12_ways : MethodName := ⟨RX12, "ways", "(IIII)I"⟩
abbrev cX12_playsOut : ByteArray := prog_14_method_83_code
def yX12_playsOut : MethodName := ⟨RX12, "playsOut", "(I)I"⟩
abbrev cX12_plays : ByteArray := prog_14_method_84_code
def yX12_plays : MethodName := ⟨RX12, "plays", "(III)I"⟩
abbrev cX12_duel : ByteArray := prog_14_method_85_code
def yX12_duel : MethodName := ⟨RX12, "duel", "(IIIII)I"⟩
abbrev cX12_cork : ByteArray := prog_14_method_86_code
def yX12_cork : MethodName := ⟨RX12, "cork", "(III)I"⟩
abbrev cX12_forget : ByteArray := prog_14_method_87_code
def yX12_forget : MethodName := ⟨RX12, "forget", "()I"⟩
abbrev cX12_floatsTo : ByteArray := prog_14_method_88_code
def yX12_floatsTo : MethodName := ⟨RX12, "floatsTo", "(III)I"⟩
abbrev cX12_laysFits : ByteArray := prog_14_method_89_code
def yX12_laysFits : MethodName := ⟨RX12, "laysFits", "()I"⟩
abbrev cX12_maps : ByteArray := prog_14_method_90_code
def yX12_maps : MethodName := ⟨RX12, "maps", "()I"⟩
abbrev cX12_next : ByteArray := prog_14_method_91_code
def yX12_next : MethodName := ⟨RX12, "next", "(I)I"⟩
abbrev cX12_odds : ByteArray := prog_14_method_92_code
def yX12_odds : MethodName := ⟨RX12, "odds", "(III)I"⟩
abbrev cX12_marks : ByteArray := prog_14_method_93_code
def yX12_marks : MethodName := ⟨RX12, "marks", "(III)I"⟩
abbrev cX12_order : ByteArray := prog_14_method_94_code
def yX12_order : MethodName := ⟨RX12, "order", "(II)I"⟩
abbrev cX12_keep : ByteArray := prog_14_method_95_code
def yX12_keep : MethodName := ⟨RX12, "keep", "(I)Z"⟩
abbrev cX12_again : ByteArray := prog_14_method_96_code
def yX12_again : MethodName := ⟨RX12, "again", "(I)Z"⟩
abbrev cX12_count : ByteArray := prog_14_method_97_code
def yX12_count : MethodName := ⟨RX12, "count", "(I)I"⟩
abbrev cX12_row : ByteArray := prog_14_method_98_code
def yX12_row : MethodName := ⟨RX12, "row", "(I)J"⟩
def RJx145de : String := "java/io/Serializable"
def TJx145de : u_T := fun k => match k with
  | _ => ("", "", "", false)
def tyJx145de : Nat → FieldType := fun k => match k with
  | _ => .int
abbrev wsJx145de0 : List Cond := u_ws RJx145de TJx145de 0
theorem nmJx145de : ∀ a, a < 0 → ∀ b, b < 0 → a ≠ b → (TJx145de a).2.1 ≠ (TJx145de b).2.1 := by decide +kernel
theorem tyJx145de_ok : ∀ k, k < 0 → parseFieldDescriptor (TJx145de k).2.2.1 = some (tyJx145de k) := by decide +kernel
def RJx9f9b0 : String := "java/lang/CharSequence"
def TJx9f9b0 : u_T := fun k => match k with
  | _ => ("", "", "", false)
def tyJx9f9b0 : Nat → FieldType := fun k => match k with
  | _ => .int
abbrev wsJx9f9b00 : List Cond := u_ws RJx9f9b0 TJx9f9b0 0
theorem nmJx9f9b0 : ∀ a, a < 0 → ∀ b, b < 0 → a ≠ b → (TJx9f9b0 a).2.1 ≠ (TJx9f9b0 b).2.1 := by decide +kernel
theorem tyJx9f9b0_ok : ∀ k, k < 0 → parseFieldDescriptor (TJx9f9b0 k).2.2.1 = some (tyJx9f9b0 k) := by decide +kernel
def RJ11 : String := "java/lang/Character"
def TJ11 : u_T := fun k => match k with
  | _ => ("", "", "", false)
def tyJ11 : Nat → FieldType := fun k => match k with
  | _ => .int
abbrev wsJ110 : List Cond := u_ws RJ11 TJ11 0
theorem nmJ11 : ∀ a, a < 0 → ∀ b, b < 0 → a ≠ b → (TJ11 a).2.1 ≠ (TJ11 b).2.1 := by decide +kernel
theorem tyJ11_ok : ∀ k, k < 0 → parseFieldDescriptor (TJ11 k).2.2.1 = some (tyJ11 k) := by decide +kernel
abbrev cJ11_isValidCodePoint_9a6ad : ByteArray := prog_17_method_11_code
def yJ11_isValidCodePoint_9a6ad : MethodName := ⟨RJ11, "isValidCodePoint", "(I)Z"⟩
abbrev cJ11_highSurrogate_5068e : ByteArray := prog_17_method_28_code
def yJ11_highSurrogate_5068e : MethodName := ⟨RJ11, "highSurrogate", "(I)C"⟩
abbrev cJ11_lowSurrogate_5068e : ByteArray := prog_17_method_29_code
def yJ11_lowSurrogate_5068e : MethodName := ⟨RJ11, "lowSurrogate", "(I)C"⟩
def RJx8e188 : String := "java/lang/Cloneable"
def TJx8e188 : u_T := fun k => match k with
  | _ => ("", "", "", false)
def tyJx8e188 : Nat → FieldType := fun k => match k with
  | _ => .int
abbrev wsJx8e1880 : List Cond := u_ws RJx8e188 TJx8e188 0
theorem nmJx8e188 : ∀ a, a < 0 → ∀ b, b < 0 → a ≠ b → (TJx8e188 a).2.1 ≠ (TJx8e188 b).2.1 := by decide +kernel
theorem tyJx8e188_ok : ∀ k, k < 0 → parseFieldDescriptor (TJx8e188 k).2.2.1 = some (tyJx8e188 k) := by decide +kernel
def RJxb160c : String := "java/lang/Comparable"
def TJxb160c : u_T := fun k => match k with
  | _ => ("", "", "", false)
def tyJxb160c : Nat → FieldType := fun k => match k with
  | _ => .int
abbrev wsJxb160c0 : List Cond := u_ws RJxb160c TJxb160c 0
theorem nmJxb160c : ∀ a, a < 0 → ∀ b, b < 0 → a ≠ b → (TJxb160c a).2.1 ≠ (TJxb160c b).2.1 := by decide +kernel
theorem tyJxb160c_ok : ∀ k, k < 0 → parseFieldDescriptor (TJxb160c k).2.2.1 = some (tyJxb160c k) := by decide +kernel
def RJ6 : String := "java/lang/Integer"
def TJ6 : u_T := fun k => match k with
  | _ => ("", "", "", false)
def tyJ6 : Nat → FieldType := fun k => match k with
  | _ => .int
abbrev wsJ60 : List Cond := u_ws RJ6 TJ6 0
theorem nmJ6 : ∀ a, a < 0 → ∀ b, b < 0 → a ≠ b → (TJ6 a).2.1 ≠ (TJ6 b).2.1 := by decide +kernel
theorem tyJ6_ok : ∀ k, k < 0 → parseFieldDescriptor (TJ6 k).2.2.1 = some (tyJ6 k) := by decide +kernel
abbrev cJ6_numberOfTrailingZeros_0f7a4 : ByteArray := prog_21_method_48_code
def yJ6_numberOfTrailingZeros_0f7a4 : MethodName := ⟨RJ6, "numberOfTrailingZeros", "(I)I"⟩
abbrev cJ6_bitCount_0f7a4 : ByteArray := prog_21_method_49_code
def yJ6_bitCount_0f7a4 : MethodName := ⟨RJ6, "bitCount", "(I)I"⟩
def RJ9 : String := "java/lang/Math"
def TJ9 : u_T := fun k => match k with
  | _ => ("", "", "", false)
def tyJ9 : Nat → FieldType := fun k => match k with
  | _ => .int
abbrev wsJ90 : List Cond := u_ws RJ9 TJ9 0
theorem nmJ9 : ∀ a, a < 0 → ∀ b, b < 0 → a ≠ b → (TJ9 a).2.1 ≠ (TJ9 b).2.1 := by decide +kernel
theorem tyJ9_ok : ∀ k, k < 0 → parseFieldDescriptor (TJ9 k).2.2.1 = some (tyJ9 k) := by decide +kernel
abbrev cJ9_max_7cf53 : ByteArray := prog_22_method_65_code
def yJ9_max_7cf53 : MethodName := ⟨RJ9, "max", "(II)I"⟩
abbrev cJ9_min_7cf53 : ByteArray := prog_22_method_69_code
def yJ9_min_7cf53 : MethodName := ⟨RJ9, "min", "(II)I"⟩
def RJ0 : String := "java/lang/String"
def TJ0 : u_T := fun k => match k with
  | 0 => ("java/lang/String", "value", "[B", true)
  | 1 => ("java/lang/String", "coder", "B", true)
  | 2 => ("java/lang/String", "hash", "I", false)
  | _ => ("java/lang/String", "hashIsZero", "Z", false)
def tyJ0 : Nat → FieldType := fun k => match k with
  | 0 => .array .byte
  | 1 => .byte
  | 2 => .int
  | _ => .boolean
abbrev wsJ00 : List Cond := u_ws RJ0 TJ0 4
theorem nmJ0 : ∀ a, a < 4 → ∀ b, b < 4 → a ≠ b → (TJ0 a).2.1 ≠ (TJ0 b).2.1 := by decide +kernel
theorem tyJ0_ok : ∀ k, k < 4 → parseFieldDescriptor (TJ0 k).2.2.1 = some (tyJ0 k) := by decide +kernel
abbrev cJ0_length_8abf5 : ByteArray := prog_24_method_54_code
def yJ0_length_8abf5 : MethodName := ⟨RJ0, "length", "()I"⟩
abbrev cJ0_charAt_5068e : ByteArray := prog_24_method_56_code
def yJ0_charAt_5068e : MethodName := ⟨RJ0, "charAt", "(I)C"⟩
abbrev cJ0_indexOf_0f7a4 : ByteArray := prog_24_method_79_code
def yJ0_indexOf_0f7a4 : MethodName := ⟨RJ0, "indexOf", "(I)I"⟩
abbrev cJ0_indexOf_7cf53 : ByteArray := prog_24_method_80_code
def yJ0_indexOf_7cf53 : MethodName := ⟨RJ0, "indexOf", "(II)I"⟩
abbrev cJ0_substring_b52d3 : ByteArray := prog_24_method_91_code
def yJ0_substring_b52d3 : MethodName := ⟨RJ0, "substring", "(I)Ljava/lang/String;"⟩
abbrev cJ0_substring_37a41 : ByteArray := prog_24_method_92_code
def yJ0_substring_37a41 : MethodName := ⟨RJ0, "substring", "(II)Ljava/lang/String;"⟩
abbrev cJ0_init_031fb : ByteArray := prog_24_method_151_code
def yJ0_init_031fb : MethodName := ⟨RJ0, "<init>", "([BB)V"⟩
abbrev cJ0_coder_7d493 : ByteArray := prog_24_method_152_code
def yJ0_coder_7d493 : MethodName := ⟨RJ0, "coder", "()B"⟩
abbrev cJ0_isLatin1_aae02 : ByteArray := prog_24_method_154_code
def yJ0_isLatin1_aae02 : MethodName := ⟨RJ0, "isLatin1", "()Z"⟩
abbrev cJ0_checkIndex_df160 : ByteArray := prog_24_method_155_code
def yJ0_checkIndex_df160 : MethodName := ⟨RJ0, "checkIndex", "(II)V"⟩
abbrev cJ0_checkBoundsOffCount_cabcc : ByteArray := prog_24_method_157_code
def yJ0_checkBoundsOffCount_cabcc : MethodName := ⟨RJ0, "checkBoundsOffCount", "(III)I"⟩
abbrev cJ0_checkBoundsBeginEnd_23922 : ByteArray := prog_24_method_158_code
def yJ0_checkBoundsBeginEnd_23922 : MethodName := ⟨RJ0, "checkBoundsBeginEnd", "(III)V"⟩
def RJ1 : String := "java/lang/StringLatin1"
def TJ1 : u_T := fun k => match k with
  | _ => ("", "", "", false)
def tyJ1 : Nat → FieldType := fun k => match k with
  | _ => .int
abbrev wsJ10 : List Cond := u_ws RJ1 TJ1 0
theorem nmJ1 : ∀ a, a < 0 → ∀ b, b < 0 → a ≠ b → (TJ1 a).2.1 ≠ (TJ1 b).2.1 := by decide +kernel
theorem tyJ1_ok : ∀ k, k < 0 → parseFieldDescriptor (TJ1 k).2.2.1 = some (tyJ1 k) := by decide +kernel
abbrev cJ1_charAt_3b067 : ByteArray := prog_25_method_2_code
def yJ1_charAt_3b067 : MethodName := ⟨RJ1, "charAt", "([BI)C"⟩
abbrev cJ1_canEncode_9a6ad : ByteArray := prog_25_method_4_code
def yJ1_canEncode_9a6ad : MethodName := ⟨RJ1, "canEncode", "(I)Z"⟩
abbrev cJ1_indexOf_4cfef : ByteArray := prog_25_method_22_code
def yJ1_indexOf_4cfef : MethodName := ⟨RJ1, "indexOf", "([BIII)I"⟩
abbrev cJ1_indexOfChar_4cfef : ByteArray := prog_25_method_23_code
def yJ1_indexOfChar_4cfef : MethodName := ⟨RJ1, "indexOfChar", "([BIII)I"⟩
abbrev cJ1_newString_b4f7a : ByteArray := prog_25_method_47_code
def yJ1_newString_b4f7a : MethodName := ⟨RJ1, "newString", "([BII)Ljava/lang/String;"⟩
def RJ2 : String := "java/lang/StringUTF16"
def TJ2 : u_T := fun k => match k with
  | _ => ("", "", "", false)
def tyJ2 : Nat → FieldType := fun k => match k with
  | _ => .int
abbrev wsJ20 : List Cond := u_ws RJ2 TJ2 0
theorem nmJ2 : ∀ a, a < 0 → ∀ b, b < 0 → a ≠ b → (TJ2 a).2.1 ≠ (TJ2 b).2.1 := by decide +kernel
theorem tyJ2_ok : ∀ k, k < 0 → parseFieldDescriptor (TJ2 k).2.2.1 = some (tyJ2 k) := by decide +kernel
abbrev cJ2_newBytesLength_0f7a4 : ByteArray := prog_26_method_3_code
def yJ2_newBytesLength_0f7a4 : MethodName := ⟨RJ2, "newBytesLength", "(I)I"⟩
abbrev cJ2_getChar_3b067 : ByteArray := prog_26_method_5_code
def yJ2_getChar_3b067 : MethodName := ⟨RJ2, "getChar", "([BI)C"⟩
abbrev cJ2_length_9d52b : ByteArray := prog_26_method_6_code
def yJ2_length_9d52b : MethodName := ⟨RJ2, "length", "([B)I"⟩
abbrev cJ2_coderFromArrayLen_85cad : ByteArray := prog_26_method_15_code
def yJ2_coderFromArrayLen_85cad : MethodName := ⟨RJ2, "coderFromArrayLen", "([BI)B"⟩
abbrev cJ2_compress_39247 : ByteArray := prog_26_method_17_code
def yJ2_compress_39247 : MethodName := ⟨RJ2, "compress", "([BII)[B"⟩
abbrev cJ2_compress_5af95 : ByteArray := prog_26_method_22_code
def yJ2_compress_5af95 : MethodName := ⟨RJ2, "compress", "([BI[BII)I"⟩
abbrev cJ2_indexOf_4cfef : ByteArray := prog_26_method_40_code
def yJ2_indexOf_4cfef : MethodName := ⟨RJ2, "indexOf", "([BIII)I"⟩
abbrev cJ2_indexOfChar_4cfef : ByteArray := prog_26_method_47_code
def yJ2_indexOfChar_4cfef : MethodName := ⟨RJ2, "indexOfChar", "([BIII)I"⟩
abbrev cJ2_indexOfCharUnsafe_4cfef : ByteArray := prog_26_method_48_code
def yJ2_indexOfCharUnsafe_4cfef : MethodName := ⟨RJ2, "indexOfCharUnsafe", "([BIII)I"⟩
abbrev cJ2_indexOfSupplementary_4cfef : ByteArray := prog_26_method_49_code
def yJ2_indexOfSupplementary_4cfef : MethodName := ⟨RJ2, "indexOfSupplementary", "([BIII)I"⟩
abbrev cJ2_newString_b4f7a : ByteArray := prog_26_method_69_code
def yJ2_newString_b4f7a : MethodName := ⟨RJ2, "newString", "([BII)Ljava/lang/String;"⟩
abbrev cJ2_charAt_3b067 : ByteArray := prog_26_method_83_code
def yJ2_charAt_3b067 : MethodName := ⟨RJ2, "charAt", "([BI)C"⟩
abbrev cJ2_checkIndex_2214a : ByteArray := prog_26_method_91_code
def yJ2_checkIndex_2214a : MethodName := ⟨RJ2, "checkIndex", "(I[B)V"⟩
abbrev cJ2_checkBoundsBeginEnd_d044e : ByteArray := prog_26_method_93_code
def yJ2_checkBoundsBeginEnd_d044e : MethodName := ⟨RJ2, "checkBoundsBeginEnd", "(II[B)V"⟩
abbrev cJ2_checkBoundsOffCount_d044e : ByteArray := prog_26_method_94_code
def yJ2_checkBoundsOffCount_d044e : MethodName := ⟨RJ2, "checkBoundsOffCount", "(II[B)V"⟩
def RJ10 : String := "java/lang/System"
def TJ10 : u_T := fun k => match k with
  | _ => ("", "", "", false)
def tyJ10 : Nat → FieldType := fun k => match k with
  | _ => .int
abbrev wsJ100 : List Cond := u_ws RJ10 TJ10 0
theorem nmJ10 : ∀ a, a < 0 → ∀ b, b < 0 → a ≠ b → (TJ10 a).2.1 ≠ (TJ10 b).2.1 := by decide +kernel
theorem tyJ10_ok : ∀ k, k < 0 → parseFieldDescriptor (TJ10 k).2.2.1 = some (tyJ10 k) := by decide +kernel
def RJxfd54e : String := "java/lang/constant/Constable"
def TJxfd54e : u_T := fun k => match k with
  | _ => ("", "", "", false)
def tyJxfd54e : Nat → FieldType := fun k => match k with
  | _ => .int
abbrev wsJxfd54e0 : List Cond := u_ws RJxfd54e TJxfd54e 0
theorem nmJxfd54e : ∀ a, a < 0 → ∀ b, b < 0 → a ≠ b → (TJxfd54e a).2.1 ≠ (TJxfd54e b).2.1 := by decide +kernel
theorem tyJxfd54e_ok : ∀ k, k < 0 → parseFieldDescriptor (TJxfd54e k).2.2.1 = some (tyJxfd54e k) := by decide +kernel
def RJx3cf43 : String := "java/lang/constant/ConstantDesc"
def TJx3cf43 : u_T := fun k => match k with
  | _ => ("", "", "", false)
def tyJx3cf43 : Nat → FieldType := fun k => match k with
  | _ => .int
abbrev wsJx3cf430 : List Cond := u_ws RJx3cf43 TJx3cf43 0
theorem nmJx3cf43 : ∀ a, a < 0 → ∀ b, b < 0 → a ≠ b → (TJx3cf43 a).2.1 ≠ (TJx3cf43 b).2.1 := by decide +kernel
theorem tyJx3cf43_ok : ∀ k, k < 0 → parseFieldDescriptor (TJx3cf43 k).2.2.1 = some (tyJx3cf43 k) := by decide +kernel
def RJ7 : String := "java/util/Arrays"
def TJ7 : u_T := fun k => match k with
  | _ => ("", "", "", false)
def tyJ7 : Nat → FieldType := fun k => match k with
  | _ => .int
abbrev wsJ70 : List Cond := u_ws RJ7 TJ7 0
theorem nmJ7 : ∀ a, a < 0 → ∀ b, b < 0 → a ≠ b → (TJ7 a).2.1 ≠ (TJ7 b).2.1 := by decide +kernel
theorem tyJ7_ok : ∀ k, k < 0 → parseFieldDescriptor (TJ7 k).2.2.1 = some (tyJ7 k) := by decide +kernel
abbrev cJ7_checkLength_df160 : ByteArray := prog_31_method_131_code
def yJ7_checkLength_df160 : MethodName := ⟨RJ7, "checkLength", "(II)V"⟩
abbrev cJ7_copyOfRange_39247 : ByteArray := prog_31_method_132_code
def yJ7_copyOfRange_39247 : MethodName := ⟨RJ7, "copyOfRange", "([BII)[B"⟩
abbrev cJ7_copyOfRangeByte_39247 : ByteArray := prog_31_method_133_code
def yJ7_copyOfRangeByte_39247 : MethodName := ⟨RJ7, "copyOfRangeByte", "([BII)[B"⟩
def RJ3 : String := "jdk/internal/util/Preconditions"
def TJ3 : u_T := fun k => match k with
  | _ => ("", "", "", false)
def tyJ3 : Nat → FieldType := fun k => match k with
  | _ => .int
abbrev wsJ30 : List Cond := u_ws RJ3 TJ3 0
theorem nmJ3 : ∀ a, a < 0 → ∀ b, b < 0 → a ≠ b → (TJ3 a).2.1 ≠ (TJ3 b).2.1 := by decide +kernel
theorem tyJ3_ok : ∀ k, k < 0 → parseFieldDescriptor (TJ3 k).2.2.1 = some (tyJ3 k) := by decide +kernel
abbrev cJ3_checkIndex_8e157 : ByteArray := prog_33_method_11_code
def yJ3_checkIndex_8e157 : MethodName := ⟨RJ3, "checkIndex", "(IILjava/util/function/BiFunction;)I"⟩
abbrev cJ3_checkFromToIndex_8c36e : ByteArray := prog_33_method_12_code
def yJ3_checkFromToIndex_8c36e : MethodName := ⟨RJ3, "checkFromToIndex", "(IIILjava/util/function/BiFunction;)I"⟩
abbrev cJ3_checkFromIndexSize_8c36e : ByteArray := prog_33_method_13_code
def yJ3_checkFromIndexSize_8c36e : MethodName := ⟨RJ3, "checkFromIndexSize", "(IIILjava/util/function/BiFunction;)I"⟩
def RL : String := "DownTheGutterLaw"
abbrev cL_place : ByteArray := method_3_code
def yL_place : MethodName := ⟨RL, "place", "(LDownTheGutter;II[J)I"⟩
abbrev cL_of : ByteArray := method_4_code
def yL_of : MethodName := ⟨RL, "of", "(LDownTheGutter;II[J)I"⟩
abbrev cL_row : ByteArray := method_5_code
def yL_row : MethodName := ⟨RL, "row", "(LDownTheGutter;I[J)I"⟩
abbrev cL_law : ByteArray := code
def yL_law : MethodName := ⟨RL, "law", "([I)Z"⟩
abbrev vwCl : List vw_C := [(RJ0, TJ0, 4), (RX0, TX0, 4), (RX1, TX1, 10), (RX2, TX2, 5), (RX3, TX3, 3), (RX4, TX4, 2), (RX5, TX5, 11), (RX6, TX6, 11), (RX7, TX7, 3), (RX8, TX8, 9), (RX9, TX9, 9), (RX10, TX10, 2), (RX11, TX11, 16), (RX12, TX12, 60)]
end
section
/-! ===== BEGIN exceptions that leave a method, and their catching by the caller (launches without stack traces) ===== -/
section VXA
/-! The laws vx_back, vx_callV, vx_callS, vx_callSW, vx_throw0, vx_throwS follow proofs of the library, with one case more: JvmDerived/Free/Laws.lean (Back.of_free), Shelf42/LK1.lean (callV, callS), Shelf/KitTraced.lean (throwNew0V, throwNewS). -/
/-- where a method has thrown q: the class by its name, the cell, what was written, the world -/
def vx_T (XC : String → State → State → Prop) (st : State) (q : Addr) (t : State) (mc ms : Nat) (free : Addr → Prop) : Prop :=
  ∃ (E : String) (ce : Cell) (L : List Loc), XC E st t ∧ t.heap[q]? = some ce ∧ ce.vm = .none ∧ st.vm.findClass E = some ce.cls ∧ st.WarmedH t.vm ∧ st.sameButNew ({ t with vm := st.vm } : State) L mc ms ∧ ∀ z ∈ L, free z.base
def vx_Q (Qc : Array Value → State → Outcome → State → Prop) (XC : String → State → State → Prop) (mc ms : Nat) (free : Addr → Prop) : Array Value → State → Outcome → State → Prop := fun a st o t =>
  (Qc a st o t ∧ ∃ L, FrameEnd st o t L mc ms ∧ ∀ q ∈ L, free q.base) ∨ ∃ q, o = .threw q ∧ vx_T XC st q t mc ms free
/-- a callee that returns or throws -/
def vx_Met (l : Launch) (y : MethodName) (ws : List Cond) (rm : Room) (Pc : Array Value → State → Prop) (Qc : Array Value → State → Outcome → State → Prop) (XC : String → State → State → Prop) (mc ms : Nat) (free : Addr → Prop) : Prop :=
  MetFree l y (headSpec ws rm) Pc (fun _ _ _ _ _ => True) (vx_Q Qc XC mc ms free)
def vx_Post (XC : String → State → State → Prop) (mc ms : Nat) (free : Addr → Prop) : Pt → Array Value → Addr → Pt → Prop := fun A a q B =>
  ∃ (g : JFrame) (mk : MethodId) (t : State) (L : List Loc) (E : String) (ce : Cell), B.U.heap = t.heap ∧ B.U.vm = t.vm ∧ XC E (A.U.calling g mk a) t ∧ t.heap[q]? = some ce ∧ ce.vm = .none ∧ A.U.vm.findClass E = some ce.cls ∧ B.locs = A.locs ++ L ∧ (∀ z ∈ L, free z.base) ∧ B.cells = A.cells + mc ∧ B.slots = A.slots + ms
def vx_Back (l : Launch) (R : Room) (p : Program) (e : Env) (below : List Frame) (s : State) (sargs : Array Value) (y : MethodName) (len W9 : Nat)
    (Pre : Pt → Array Value → Prop) (Post : Pt → Array Value → Option Value → Pt → Prop) (PostX : Pt → Array Value → Addr → Pt → Prop) : Prop :=
  ∀ (m : MethodId) (meth : Method) (c : Code) (A : Pt) (g : JFrame) (ig : Instr) (mk : MethodId) (a : Array Value),
    Stand p l e R s m sargs below meth c A.U A.locs A.cells A.slots → g.method = m → g.locals.size = c.maxLocals → decode c.code g.pc = .ok (ig, len) →
    2 * g.monitorRoom + (g.stack.map fun v => v.category).sum ≤ W9 → A.U.methodNamed? y = some mk → Pre A a →
    (∃ (v : Option Value) (B : Pt), Stand p l e R s m sargs below meth c B.U B.locs B.cells B.slots ∧ Post A a v B ∧
      Steps p.tables e below (doInvoke e (A.U.setTop g) [] mk a).1 (B.U.setTop { g with pc := g.pc + len, stack := v.toList ++ g.stack })) ∨
    (∃ (q : Addr) (B : Pt), Stand p l e R s m sargs below meth c B.U B.locs B.cells B.slots ∧ PostX A a q B ∧
      Steps p.tables e below (doInvoke e (A.U.setTop g) [] mk a).1 ((B.U.setTop g).pushFrame (.throwing q)))
section Payer
variable {l : Launch} {R : Room} {p : Program} {e : Env} {below : List Frame} {s : State} {sargs : Array Value} {y : MethodName} {len W9 : Nat}
theorem vx_back {ws : List Cond} {rm : Room} {Pc : Array Value → State → Prop} {Qc : Array Value → State → Outcome → State → Prop} {XC : String → State → State → Prop} {mc ms : Nat} {free : Addr → Prop} {bytes : ByteArray} {maxL : Nat} {ret : Option FieldType}
    (hM : vx_Met l y ws rm Pc Qc XC mc ms free) (hblind : FrameBlind Pc) (hrc : rm.cells = mc) (hrs : rm.slots = ms)
    (hframes : rm.frames + 1 ≤ R.frames) (hlocals : W9 + (maxL + 11) + rm.locals ≤ R.locals)
    (hws : ∀ w ∈ ws, ∀ a' U, s.WarmedH U.vm → w.before a' U = true) (hcode : Cond.code y bytes maxL ret ∈ ws) (hinit : ∀ a' U, s.WarmedH U.vm → (Cond.initialized y.cls).before a' U = true) :
    vx_Back l R p e below s sargs y len W9 (PreOf R mc ms Pc) (PostOf Qc mc ms free) (vx_Post XC mc ms free) := by
  intro m meth c A g ig mk a X hg hsize hdg hW hn hp
  have h1 : (headSpec ws rm).pre.before a A.U = true := atoms_intro fun w hw => hws w hw _ _ X.warmed
  have h2 : (Cond.code y bytes maxL ret).before a A.U = true := hws _ hcode _ _ X.warmed
  have h3 : (Cond.initialized y.cls).before a A.U = true := hinit _ _ X.warmed
  have h4 : A.cells + (headSpec ws rm).room.cells ≤ R.cells := by rw [show (headSpec ws rm).room.cells = mc from hrc]; exact hp.1
  have h5 : A.slots + (headSpec ws rm).room.slots ≤ R.slots := by rw [show (headSpec ws rm).room.slots = ms from hrs]; exact hp.2.1
  have hPc : Pc a (A.U.calling g mk a) := hblind _ _ _ _ hp.2.2
  obtain ⟨U, Ls, c0, s0⟩ := A
  dsimp only [Pt.U, Pt.locs, Pt.cells, Pt.slots] at h1 h2 h3 h4 h5 X hn hPc ⊢
  obtain ⟨methY, cY, hmY, hcY, -, hlY, -, -, -, -⟩ := Cond.code_spec hn h2
  obtain ⟨kY, hkY, -⟩ := className_of_methodNamed hn
  have hinitY : kY.init = .initialized := Cond.initialized_spec (findClass_of_methodNamed hn) hkY h3
  have h : At U g.method c below := by rw [hg]; exact X.here
  have hlocals9 : W9 + (maxL + 11) + (headSpec ws rm).room.locals ≤ R.locals := hlocals
  have happ : (headSpec ws rm).appliesLoose y e.platform (U.calling g mk a) = true :=
    Spec.appliesLoose_calling (g := g) h hdg hn hkY hinitY
      (X.room_calling (g := g) (R' := (headSpec ws rm).room) hsize hmY hcY hframes (by rw [hlY]; omega) h4 h5) h1
  obtain ⟨mid, hmid⟩ := h.above
  have hfr : (U.setTop g).frames = (.java g :: mid) ++ below := by rw [State.frames_setTop' g h.top, hmid]; rfl
  obtain ⟨o, s₂, hsteps, -, hend, hq⟩ := Steps.callFree hM p X.admits X.cas X.clock (acts := []) hfr happ hPc trivial
  have hq' : vx_Q Qc XC mc ms free a (U.calling g mk a) o s₂ := hq
  rw [State.frames_setTop' g h.top] at hend
  obtain ⟨g₀, hg0⟩ := Option.isSome_iff_exists.mp h.top
  obtain ⟨r, hr⟩ := State.topJava?_eq_some.mp hg0
  have hr' : (({ U with heap := s₂.heap, slotsUsed := s₂.slotsUsed } : State).setVm s₂.vm).frames = .java g₀ :: r := hr
  rcases hq' with ⟨hqc, L, hfe, hL⟩ | ⟨q, rfl, E, ce, L, hx, hce, hcv, hcl, hW₂, hsm, hL⟩
  · obtain ⟨⟨v, rfl⟩, hW₂, e2, q2, q3, q4, q5, q6⟩ := id hfe
    have e3 : s₂ = ({ (U.calling g mk a).setFrames s₂.frames with heap := s₂.heap, slotsUsed := s₂.slotsUsed } : State).setVm s₂.vm := by
      have : s₂ = ({ s₂ with vm := (U.calling g mk a).vm } : State).setVm s₂.vm := rfl
      rw [e2] at this
      exact this
    obtain ⟨c₂, i₂, len₂, hc₂, hd₂, hf₂⟩ := hend
    have hW' : U.WarmedH s₂.vm := hW₂
    have hcc : c₂ = c := by
      have h1 : s₂.code? g.method = U.code? g.method := by
        rw [State.code?_eq, State.code?_eq, hW'.alike.method?]
      exact Option.some.inj (hc₂.symm.trans (h1.trans h.code))
    subst hcc
    have hlen : len₂ = len := by rw [hdg] at hd₂; cases hd₂; rfl
    subst hlen
    have hs₂ : s₂ = (({ U with heap := s₂.heap, slotsUsed := s₂.slotsUsed } : State).setVm s₂.vm).setTop { g with pc := g.pc + len₂, stack := v.toList ++ g.stack } := by
      refine e3.trans ?_
      rw [hf₂, State.calling_eq h.top, State.setFrames_setFrames, State.setTop_of_frames _ hr', hr]
      rfl
    have hsame : U.sameButNew ({ U with heap := s₂.heap, slotsUsed := s₂.slotsUsed } : State) L mc ms := by
      refine ⟨?_, q2, q3, q4, q5, q6⟩
      obtain ⟨t, ht, -⟩ := State.frames_cons hr
      show ({ U with heap := s₂.heap, slotsUsed := s₂.slotsUsed } : State) = { U.setFrames U.frames with heap := s₂.heap, slotsUsed := s₂.slotsUsed }
      rw [State.setFrames_self ht]
    subst hg
    refine Or.inl ⟨v, ⟨(({ U with heap := s₂.heap, slotsUsed := s₂.slotsUsed } : State).setVm s₂.vm), Ls ++ L, c0 + mc, s0 + ms⟩,
      ⟨X.admits, X.cas, X.clock, X.frames, X.room, X.hears, X.method, X.code, (X.here.setHeapUsed s₂.heap s₂.slotsUsed).setVm hW'.alike, X.tail, State.WarmedH.trans X.warmed hW', X.limits, X.bytes, X.same.trans (hsame.setVm s.vm)⟩,
      ⟨g, mk, s₂, L, rfl, rfl, hqc, rfl, hL, rfl, rfl⟩, ?_⟩
    show Steps p.tables e below _ ((({ U with heap := s₂.heap, slotsUsed := s₂.slotsUsed } : State).setVm s₂.vm).setTop { g with pc := g.pc + len₂, stack := v.toList ++ g.stack })
    rw [← hs₂]
    exact hsteps
  · obtain ⟨e2, q2, q3, q4, q5, q6⟩ := id hsm
    have e3 : s₂ = ({ (U.calling g mk a).setFrames s₂.frames with heap := s₂.heap, slotsUsed := s₂.slotsUsed } : State).setVm s₂.vm := by
      have : s₂ = ({ s₂ with vm := (U.calling g mk a).vm } : State).setVm s₂.vm := rfl
      rw [e2] at this
      exact this
    have hf₂ : s₂.frames = .throwing q :: .java g :: U.frames.tail := hend
    have hW' : U.WarmedH s₂.vm := hW₂
    have hs₂ : s₂ = ((({ U with heap := s₂.heap, slotsUsed := s₂.slotsUsed } : State).setVm s₂.vm).setTop g).pushFrame (.throwing q) := by
      refine e3.trans ?_
      rw [hf₂, State.calling_eq h.top, State.setFrames_setFrames, State.pushFrame, State.frames_setTop _ hr', State.setTop_of_frames _ hr', State.setFrames_setFrames, hr]
      rfl
    have hsame : U.sameButNew ({ U with heap := s₂.heap, slotsUsed := s₂.slotsUsed } : State) L mc ms := by
      refine ⟨?_, q2, q3, q4, q5, q6⟩
      obtain ⟨t, ht, -⟩ := State.frames_cons hr
      show ({ U with heap := s₂.heap, slotsUsed := s₂.slotsUsed } : State) = { U.setFrames U.frames with heap := s₂.heap, slotsUsed := s₂.slotsUsed }
      rw [State.setFrames_self ht]
    subst hg
    refine Or.inr ⟨q, ⟨(({ U with heap := s₂.heap, slotsUsed := s₂.slotsUsed } : State).setVm s₂.vm), Ls ++ L, c0 + mc, s0 + ms⟩,
      ⟨X.admits, X.cas, X.clock, X.frames, X.room, X.hears, X.method, X.code, (X.here.setHeapUsed s₂.heap s₂.slotsUsed).setVm hW'.alike, X.tail, State.WarmedH.trans X.warmed hW', X.limits, X.bytes, X.same.trans (hsame.setVm s.vm)⟩,
      ⟨g, mk, s₂, L, E, ce, rfl, rfl, hx, hce, hcv, hcl, rfl, hL, rfl, rfl⟩, ?_⟩
    show Steps p.tables e below _ (((({ U with heap := s₂.heap, slotsUsed := s₂.slotsUsed } : State).setVm s₂.vm).setTop g).pushFrame (.throwing q))
    rw [← hs₂]
    exact hsteps
end Payer
section Calls
variable {p : Program} {l : Launch} {e : Env} {R : Room} {s : State} {m : MethodId} {args : Array Value} {below : List Frame} {meth : Method} {c : Code} {T : State} {locs : List Loc} {cells slots : Nat}
theorem vx_callV (X : Stand p l e R s m args below meth c T locs cells slots) (hexec : p.tables.exec = Jvm.exec) {own C : String} {index : Nat} {y : MethodName} {bytes : ByteArray} {maxL : Nat} {ret : Option FieldType}
    (hown : s.vm.findClass own = some m.cls) (hlink : (Cond.methodLink own index y).before args s = true) (hinst : (Cond.instanceMethod y).before args s = true) (hsel : (Cond.selects C y y).before args s = true)
    (hcode : (Cond.code y bytes maxL ret).before args s = true) (hy : y.cls ≠ "java/lang/invoke/MethodHandle" ∧ y.cls ≠ "java/lang/invoke/VarHandle")
    {W9 : Nat} {Pre : Pt → Array Value → Prop} {Post : Pt → Array Value → Option Value → Pt → Prop} {PostX : Pt → Array Value → Addr → Pt → Prop} (hK : vx_Back l R p e below s args y 3 W9 Pre Post PostX)
    {b : Addr} {cellB : Cell} (hcell : T.heap[b]? = some cellB) (hobj : cellB.vm.isStatics = false) (hcls : s.vm.findClass C = some cellB.cls)
    {g : JFrame} (hg : g.method = m) (hsize : g.locals.size = c.maxLocals) {argsL rest : List Value} (hlen : ∀ sig, parseMethodDescriptor y.desc = some sig → argsL.length = sig.parameters.length)
    (hstack : g.stack = argsL.reverse ++ .ref b :: rest) (hW : 2 * g.monitorRoom + (rest.map fun v => v.category).sum ≤ W9) (hdg : decode c.code g.pc = .ok (.invokevirtual index, 3))
    (hpre : ∀ vm₁, s.WarmedH vm₁ → Pre ⟨T.setVm vm₁, locs, cells, slots⟩ (Value.ref b :: argsL).toArray) :
    (∃ (v : Option Value) (vm₁ : Vm) (B : Pt), s.WarmedH vm₁ ∧ Stand p l e R s m args below meth c B.U B.locs B.cells B.slots ∧ Post ⟨T.setVm vm₁, locs, cells, slots⟩ (Value.ref b :: argsL).toArray v B ∧
      ∀ target, Steps p.tables e below (B.U.setTop { g with pc := g.pc + 3, stack := v.toList ++ rest }) target → Steps p.tables e below (T.setTop g) target) ∨
    (∃ (q : Addr) (vm₁ : Vm) (B : Pt), s.WarmedH vm₁ ∧ Stand p l e R s m args below meth c B.U B.locs B.cells B.slots ∧ PostX ⟨T.setVm vm₁, locs, cells, slots⟩ (Value.ref b :: argsL).toArray q B ∧
      Steps p.tables e below (T.setTop g) ((B.U.setTop { g with stack := rest }).pushFrame (.throwing q))) := by
  obtain ⟨mk, methM, hnamed, hmethM, hstM, habM⟩ := Cond.instanceMethod_spec hinst
  obtain ⟨methM', cM, hmethM', -, -, -, -, -, -, hsigM⟩ := Cond.code_spec hnamed hcode
  cases hmethM.symm.trans hmethM'
  obtain ⟨c2, r2, m2, q1, q2, q3, q4, kP, hkP, hkPi⟩ := Cond.selects_spec hsel
  cases hcls.symm.trans q1
  cases (State.methodFound?_of_named hnamed hy).symm.trans q2
  cases hnamed.symm.trans q3
  have hselP : selectMethod e.platform s.vm cellB.cls mk = .method mk := by rw [Launch.admits_selectMethod X.admits]; exact q4
  obtain ⟨vm₁, X₁, hstep₁⟩ := X.invokevirtual hexec hown hlink hnamed hmethM hstM hkP hkPi hy (a := b) (cell := cellB) hcell
    (fun z h => by rw [h] at hobj; cases hobj) hselP hmethM habM hkP hkPi (g := g) hg (argsL := argsL) (rest := rest) (hlen _ hsigM) hstack hdg
  rcases hK m meth c ⟨T.setVm vm₁, locs, cells, slots⟩ { g with stack := rest } (.invokevirtual index) mk (Value.ref b :: argsL).toArray X₁ hg hsize hdg hW (X₁.named hnamed) (hpre vm₁ X₁.warmed) with ⟨v, B, X', hpost, hsteps⟩ | ⟨q, B, X', hpost, hsteps⟩
  · exact Or.inl ⟨v, vm₁, B, X₁.warmed, X', hpost, fun target h => hstep₁ _ fun acts => by rw [doInvoke_state]; exact hsteps.trans h⟩
  · exact Or.inr ⟨q, vm₁, B, X₁.warmed, X', hpost, hstep₁ _ fun acts => by rw [doInvoke_state]; exact hsteps⟩
theorem vx_callS (X : Stand p l e R s m args below meth c T locs cells slots) (hexec : p.tables.exec = Jvm.exec) {own : String} {index : Nat} {y : MethodName} {bytes : ByteArray} {maxL : Nat} {ret : Option FieldType}
    (hown : s.vm.findClass own = some m.cls) (hlink : (Cond.methodLink own index y).before args s = true) (hstat : (Cond.static y).before args s = true) (hinit : (Cond.initialized y.cls).before args s = true)
    (hcode : (Cond.code y bytes maxL ret).before args s = true) (hy : y.cls ≠ "java/lang/invoke/MethodHandle" ∧ y.cls ≠ "java/lang/invoke/VarHandle")
    {W9 : Nat} {Pre : Pt → Array Value → Prop} {Post : Pt → Array Value → Option Value → Pt → Prop} {PostX : Pt → Array Value → Addr → Pt → Prop} (hK : vx_Back l R p e below s args y 3 W9 Pre Post PostX)
    {g : JFrame} (hg : g.method = m) (hsize : g.locals.size = c.maxLocals) {argsL rest : List Value} (hlen : ∀ sig, parseMethodDescriptor y.desc = some sig → argsL.length = sig.parameters.length)
    (hstack : g.stack = argsL.reverse ++ rest) (hW : 2 * g.monitorRoom + (rest.map fun v => v.category).sum ≤ W9) (hdg : decode c.code g.pc = .ok (.invokestatic index, 3))
    (hpre : ∀ vm₁, s.WarmedH vm₁ → Pre ⟨T.setVm vm₁, locs, cells, slots⟩ argsL.toArray) :
    (∃ (v : Option Value) (vm₁ : Vm) (B : Pt), s.WarmedH vm₁ ∧ Stand p l e R s m args below meth c B.U B.locs B.cells B.slots ∧ Post ⟨T.setVm vm₁, locs, cells, slots⟩ argsL.toArray v B ∧
      ∀ target, Steps p.tables e below (B.U.setTop { g with pc := g.pc + 3, stack := v.toList ++ rest }) target → Steps p.tables e below (T.setTop g) target) ∨
    (∃ (q : Addr) (vm₁ : Vm) (B : Pt), s.WarmedH vm₁ ∧ Stand p l e R s m args below meth c B.U B.locs B.cells B.slots ∧ PostX ⟨T.setVm vm₁, locs, cells, slots⟩ argsL.toArray q B ∧
      Steps p.tables e below (T.setTop g) ((B.U.setTop { g with stack := rest }).pushFrame (.throwing q))) := by
  obtain ⟨mk, hnamed⟩ := Cond.code_named hcode
  obtain ⟨methM, cM, hmethM, -, -, -, -, -, -, hsigM⟩ := Cond.code_spec hnamed hcode
  have hstatic : methM.isStatic = true := Cond.static_spec hnamed hmethM hstat
  obtain ⟨kP, hkP, -⟩ := className_of_methodNamed hnamed
  have hinitP : kP.init = .initialized := Cond.initialized_spec (findClass_of_methodNamed hnamed) hkP hinit
  obtain ⟨vm₁, X₁, hstep₁⟩ := X.invokestatic hexec hown hlink hnamed hmethM hstatic hkP hinitP hy (g := g) hg (argsL := argsL) (rest := rest) (hlen _ hsigM) hstack hdg
  rcases hK m meth c ⟨T.setVm vm₁, locs, cells, slots⟩ { g with stack := rest } (.invokestatic index) mk argsL.toArray X₁ hg hsize hdg hW (X₁.named hnamed) (hpre vm₁ X₁.warmed) with ⟨v, B, X', hpost, hsteps⟩ | ⟨q, B, X', hpost, hsteps⟩
  · exact Or.inl ⟨v, vm₁, B, X₁.warmed, X', hpost, fun target h => hstep₁ _ fun acts => by rw [doInvoke_state]; exact hsteps.trans h⟩
  · exact Or.inr ⟨q, vm₁, B, X₁.warmed, X', hpost, hstep₁ _ fun acts => by rw [doInvoke_state]; exact hsteps⟩
end Calls
theorem vx_cls {s : State} {T : State} {vm₁ : Vm} {E : String} {k : ClassId} (hW : s.WarmedH vm₁) (h : (T.setVm vm₁).vm.findClass E = some k) : s.vm.findClass E = some k := by
  have h1 : vm₁.findClass E = some k := h
  rw [hW.alike.findClass] at h1
  exact h1
/-- the method's frame g, with q thrown over it -/
def vx_W (p : Program) (l : Launch) (e : Env) (R : Room) (s : State) (m : MethodId) (args : Array Value) (below : List Frame) (meth : Method) (c : Code) (H : Heap) (locs : List Loc) (cells slots : Nat) (Q : State → Prop) (g : JFrame) (q : Addr) : Prop :=
  ∀ T : State, T.heap = H → Stand p l e R s m args below meth c T locs cells slots → ∃ t, Steps p.tables e below ((T.setTop g).pushFrame (.throwing q)) t ∧ Q t
def vx_Run (p : Program) (l : Launch) (e : Env) (R : Room) (s : State) (m : MethodId) (args : Array Value) (below : List Frame) (meth : Method) (c : Code) (H : Heap) (locs : List Loc) (cells slots mc ms : Nat) (g : JFrame) (rest : List Value) (Qa : State → Outcome → State → Prop) (XC : String → State → State → Prop) (free : Addr → Prop) : Prop :=
  ∀ T : State, T.heap = H → Stand p l e R s m args below meth c T locs cells slots →
    (∃ (v : Option Value) (st₀ t T' : State) (L : List Loc), st₀.heap = H ∧ Stand p l e R s m args below meth c T' (locs ++ L) (cells + mc) (slots + ms) ∧ (∀ q ∈ L, free q.base) ∧ T'.heap = t.heap ∧ T'.vm = t.vm ∧ Qa st₀ (.returned v) t ∧
      Goes p e below T g T' { g with pc := g.pc + 3, stack := v.toList ++ rest }) ∨
    (∃ (q : Addr) (st₀ t T' : State) (L : List Loc) (E : String) (ce : Cell), st₀.heap = H ∧ Stand p l e R s m args below meth c T' (locs ++ L) (cells + mc) (slots + ms) ∧ (∀ z ∈ L, free z.base) ∧ T'.heap = t.heap ∧ T'.vm = t.vm ∧ XC E st₀ t ∧ t.heap[q]? = some ce ∧ ce.vm = .none ∧ s.vm.findClass E = some ce.cls ∧
      Steps p.tables e below (T.setTop g) ((T'.setTop { g with stack := rest }).pushFrame (.throwing q)))
def vx_X {S : Type} (px : S → Prop) (B : String → S → State → Prop) (A : Nat → Prop) : String → State → State → Prop := fun E st t => ∃ u : S, px u ∧ B E u t ∧ va_F A st t
section Runs
variable {p : Program} {l : Launch} {e : Env} {R : Room} {s : State} {m : MethodId} {args : Array Value} {below : List Frame} {meth : Method} {c : Code} {H : Heap} {locs : List Loc} {cells slots : Nat}
variable {y : MethodName} {bytes cc : ByteArray} {maxL nL mc ms n index : Nat} {ret : Option FieldType} {ws : List Cond} {rm : Room} {Pc : Array Value → State → Prop} {Qc : Array Value → State → Outcome → State → Prop} {XC : String → State → State → Prop} {free : Addr → Prop} {Ts : List Cond} {own C : String} {b : Addr} {As rest : List Value} {g : JFrame}
theorem vx_callBack (cb : CallB R s args own index y bytes maxL ret ws rm mc ms n) (hM : vx_Met l y ws rm Pc Qc XC mc ms free) (hbl : FrameBlind Pc) : vx_Back l R p e below s args y 3 8 (PreOf R mc ms Pc) (PostOf Qc mc ms free) (vx_Post XC mc ms free) := by
  obtain ⟨hrc, hrs, hfr, hlo, hws, hcw, -, hini, -⟩ := cb
  exact vx_back (bytes := bytes) (maxL := maxL) (ret := ret) hM hbl hrc hrs hfr hlo hws hcw (fun a' U hW => word_at hW (Or.inl (by first | rfl | simp [Cond.onTables, Cond.keeps, Cond.steady])) hini)
theorem vx_runV (S : CallFix p m c cc nL s args Ts own) (hM : vx_Met l y ws rm Pc Qc XC mc ms free) (cw : CallW R s args own C index y bytes maxL ret ws rm mc ms n) (hp : PreV s H C b Pc As)
    (hg : g.method = m) (hn : As.length = n) (hsize : g.locals.size = nL) (hstack : g.stack = As.reverse ++ .ref b :: rest) (hW : 2 * g.monitorRoom + (rest.map fun v => v.category).sum ≤ 8) (hdg : decode cc g.pc = .ok (.invokevirtual index, 3)) (hf : cells + mc ≤ R.cells ∧ slots + ms ≤ R.slots) :
    vx_Run p l e R s m args below meth c H locs cells slots mc ms g rest (Qc (Value.ref b :: As).toArray) XC free := by
  have hK : vx_Back l R p e below s args y 3 8 (PreOf R mc ms Pc) (PostOf Qc mc ms free) (vx_Post XC mc ms free) := vx_callBack cw.1 hM hp.1
  obtain ⟨⟨-, -, -, -, -, -, hcode, -, hy, hlen, hl⟩, hin, hse⟩ := cw
  obtain ⟨hx, hb, hml, ho, -⟩ := S
  obtain ⟨-, ⟨cellB, hcB, hoB, hclB⟩, hPc⟩ := hp
  intro T hT X
  rcases vx_callV X hx (C := C) (bytes := bytes) (maxL := maxL) (ret := ret) ho hl hin hse hcode hy hK (by rw [hT]; exact hcB) hoB hclB hg (hsize.trans hml.symm) (argsL := As) (rest := rest) (fun sig h => hn.trans (hlen sig h)) hstack hW (by rw [hb]; exact hdg)
    (fun vm₁ hW₁ => ⟨hf.1, hf.2, hPc (T.setVm vm₁) hT hW₁⟩) with ⟨v, vm₁, ⟨U', l2, c2, s2⟩, hW₁, X', ⟨g', mk, t, L, e1, e2, hq, h1, hL, h2, h3⟩, st⟩ | ⟨q, vm₁, ⟨U', l2, c2, s2⟩, hW₁, X', ⟨g', mk, t, L, E, ce, e1, e2, hq, hce, hcv, hcl, h1, hL, h2, h3⟩, st⟩
  · dsimp only [Pt.U, Pt.locs, Pt.cells, Pt.slots] at X' e1 e2 h1 h2 h3 st
    subst h1; subst h2; subst h3
    exact Or.inl ⟨v, (T.setVm vm₁).calling g' mk (Value.ref b :: As).toArray, t, U', L, hT, X', hL, e1, e2, hq, st⟩
  · dsimp only [Pt.U, Pt.locs, Pt.cells, Pt.slots] at X' e1 e2 h1 h2 h3 st hcl
    subst h1; subst h2; subst h3
    exact Or.inr ⟨q, (T.setVm vm₁).calling g' mk (Value.ref b :: As).toArray, t, U', L, E, ce, hT, X', hL, e1, e2, hq, hce, hcv, vx_cls hW₁ hcl, st⟩
theorem vx_runS (S : CallFix p m c cc nL s args Ts own) (hM : vx_Met l y ws rm Pc Qc XC mc ms free) (cw : CallB R s args own index y bytes maxL ret ws rm mc ms n ∧ (Cond.static y).before args s = true) (hp : PreS s H Pc As)
    (hg : g.method = m) (hn : As.length = n) (hsize : g.locals.size = nL) (hstack : g.stack = As.reverse ++ rest) (hW : 2 * g.monitorRoom + (rest.map fun v => v.category).sum ≤ 8) (hdg : decode cc g.pc = .ok (.invokestatic index, 3)) (hf : cells + mc ≤ R.cells ∧ slots + ms ≤ R.slots) :
    vx_Run p l e R s m args below meth c H locs cells slots mc ms g rest (Qc As.toArray) XC free := by
  have hK : vx_Back l R p e below s args y 3 8 (PreOf R mc ms Pc) (PostOf Qc mc ms free) (vx_Post XC mc ms free) := vx_callBack cw.1 hM hp.1
  obtain ⟨⟨-, -, -, -, -, -, hcode, hini, hy, hlen, hl⟩, hstt⟩ := cw
  obtain ⟨hx, hb, hml, ho, -⟩ := S
  intro T hT X
  rcases vx_callS X hx (bytes := bytes) (maxL := maxL) (ret := ret) ho hl hstt hini hcode hy hK hg (hsize.trans hml.symm) (argsL := As) (rest := rest) (fun sig h => hn.trans (hlen sig h)) hstack hW (by rw [hb]; exact hdg)
    (fun vm₁ hW₁ => ⟨hf.1, hf.2, hp.2 (T.setVm vm₁) hT hW₁⟩) with ⟨v, vm₁, ⟨U', l2, c2, s2⟩, hW₁, X', ⟨g', mk, t, L, e1, e2, hq, h1, hL, h2, h3⟩, st⟩ | ⟨q, vm₁, ⟨U', l2, c2, s2⟩, hW₁, X', ⟨g', mk, t, L, E, ce, e1, e2, hq, hce, hcv, hcl, h1, hL, h2, h3⟩, st⟩
  · dsimp only [Pt.U, Pt.locs, Pt.cells, Pt.slots] at X' e1 e2 h1 h2 h3 st
    subst h1; subst h2; subst h3
    exact Or.inl ⟨v, (T.setVm vm₁).calling g' mk As.toArray, t, U', L, hT, X', hL, e1, e2, hq, st⟩
  · dsimp only [Pt.U, Pt.locs, Pt.cells, Pt.slots] at X' e1 e2 h1 h2 h3 st hcl
    subst h1; subst h2; subst h3
    exact Or.inr ⟨q, (T.setVm vm₁).calling g' mk As.toArray, t, U', L, E, ce, hT, X', hL, e1, e2, hq, hce, hcv, vx_cls hW₁ hcl, st⟩
end Runs
section Rows
variable {p : Program} {l : Launch} {e : Env} {R : Room} {s : State} {m : MethodId} {args : Array Value} {below : List Frame} {meth : Method} {c : Code} {H : Heap} {locs : List Loc} {cells slots : Nat} {Q : State → Prop}
variable {mc ms : Nat} {free : Addr → Prop} {A0 A1 : Nat → Prop} {H0 : Heap} {a : Array Value} {pc : Nat} {ls : Array Slot} {st0 rest : List Value}
theorem vx_keep {st₀ t T' : State} {L : List Loc} (h0 : st₀.heap = H) (e1 : T'.heap = t.heap) (hS : va_S A0 H0 H locs) (hA : ∀ q, q < H.size → A1 q → A0 q) (hf : ∀ q, free q → A0 q) (hL : ∀ q ∈ L, free q.base) (hF : va_F A1 st₀ t) :
    H.size ≤ T'.heap.size ∧ (∀ q : Nat, q < H.size → ¬ A1 q → T'.heap[q]? = H[q]?) ∧ va_S A0 H0 T'.heap (locs ++ L) := by
  obtain ⟨hz, hk⟩ := hF
  rw [h0] at hz hk
  exact ⟨by rw [e1]; exact hz, fun q h1 h2 => by rw [e1]; exact hk q h1 h2,
    ⟨Nat.le_trans hS.1 (by rw [e1]; exact hz), fun q h1 h2 => by rw [e1, hk q (Nat.lt_of_lt_of_le h1 hS.1) (fun z => h2 (hA q (Nat.lt_of_lt_of_le h1 hS.1) z))]; exact hS.2.1 q h1 h2, fun q hq => by
      rcases List.mem_append.mp hq with h | h
      · exact hS.2.2 q h
      · exact hf _ (hL q h)⟩⟩
theorem vx_calli {S SX : Type} {post : Int32 → S → Prop} {px : SX → Prop} {B : S → State → Prop} {BX : String → SX → State → Prop} {AX : Nat → Prop} (hr : vx_Run p l e R s m args below meth c H locs cells slots mc ms (F0 m pc ls st0) rest (va_Qi post B A1 a) (vx_X px BX AX) free) (hS : va_S A0 H0 H locs) (hA : ∀ q, q < H.size → A1 q → A0 q) (hf : ∀ q, free q → A0 q) (hAX : ∀ q, q < H.size → AX q → A0 q)
    (kx : ∀ (E : String) (ce : Cell) (q9 : Addr) (u : SX) (t : State) (H1 : Heap) (locs1 : List Loc), t.heap = H1 → s.vm.Alike t.vm → px u → BX E u t → H.size ≤ H1.size → (∀ q : Nat, q < H.size → ¬ AX q → H1[q]? = H[q]?) → va_S A0 H0 H1 locs1 → H1[q9]? = some ce → ce.vm = .none → s.vm.findClass E = some ce.cls → vx_W p l e R s m args below meth c H1 locs1 (cells + mc) (slots + ms) Q (F0 m pc ls rest) q9)
    (kk : ∀ (r : Int32) (u : S) (t : State) (H1 : Heap) (locs1 : List Loc), t.heap = H1 → s.vm.Alike t.vm → post r u → B u t → H.size ≤ H1.size → (∀ q : Nat, q < H.size → ¬ A1 q → H1[q]? = H[q]?) → va_S A0 H0 H1 locs1 → W p l e R s m args below meth c H1 locs1 (cells + mc) (slots + ms) Q (F0 m (pc + 3) ls (.int r :: rest))) : W p l e R s m args below meth c H locs cells slots Q (F0 m pc ls st0) := by
  intro T hT X
  rcases hr T hT X with ⟨v, st₀, t, T', L, h0, X', hL, e1, e2, ⟨⟨r, u, hv, hp, hb⟩, hF⟩, st⟩ | ⟨q, st₀, t, T', L, E, ce, h0, X', hL, e1, e2, ⟨u, hp, hb, hF⟩, hce, hcv, hcl, st⟩
  · cases hv
    obtain ⟨k1, k2, k3⟩ := vx_keep h0 e1 hS hA hf hL hF
    obtain ⟨t2, a1, b1⟩ := kk r u t T'.heap (locs ++ L) e1.symm (by rw [← e2]; exact X'.warmed.alike) hp hb k1 k2 k3 T' rfl X'
    exact ⟨t2, st t2 a1, b1⟩
  · obtain ⟨k1, k2, k3⟩ := vx_keep h0 e1 hS hAX hf hL hF
    obtain ⟨t2, a1, b1⟩ := kx E ce q u t T'.heap (locs ++ L) e1.symm (by rw [← e2]; exact X'.warmed.alike) hp hb k1 k2 k3 (by rw [e1]; exact hce) hcv hcl T' rfl X'
    exact ⟨t2, st.trans a1, b1⟩
theorem vx_calll {S SX : Type} {post : Int64 → S → Prop} {px : SX → Prop} {B : S → State → Prop} {BX : String → SX → State → Prop} {AX : Nat → Prop} (hr : vx_Run p l e R s m args below meth c H locs cells slots mc ms (F0 m pc ls st0) rest (va_Ql post B A1 a) (vx_X px BX AX) free) (hS : va_S A0 H0 H locs) (hA : ∀ q, q < H.size → A1 q → A0 q) (hf : ∀ q, free q → A0 q) (hAX : ∀ q, q < H.size → AX q → A0 q)
    (kx : ∀ (E : String) (ce : Cell) (q9 : Addr) (u : SX) (t : State) (H1 : Heap) (locs1 : List Loc), t.heap = H1 → s.vm.Alike t.vm → px u → BX E u t → H.size ≤ H1.size → (∀ q : Nat, q < H.size → ¬ AX q → H1[q]? = H[q]?) → va_S A0 H0 H1 locs1 → H1[q9]? = some ce → ce.vm = .none → s.vm.findClass E = some ce.cls → vx_W p l e R s m args below meth c H1 locs1 (cells + mc) (slots + ms) Q (F0 m pc ls rest) q9)
    (kk : ∀ (r : Int64) (u : S) (t : State) (H1 : Heap) (locs1 : List Loc), t.heap = H1 → s.vm.Alike t.vm → post r u → B u t → H.size ≤ H1.size → (∀ q : Nat, q < H.size → ¬ A1 q → H1[q]? = H[q]?) → va_S A0 H0 H1 locs1 → W p l e R s m args below meth c H1 locs1 (cells + mc) (slots + ms) Q (F0 m (pc + 3) ls (.long r :: rest))) : W p l e R s m args below meth c H locs cells slots Q (F0 m pc ls st0) := by
  intro T hT X
  rcases hr T hT X with ⟨v, st₀, t, T', L, h0, X', hL, e1, e2, ⟨⟨r, u, hv, hp, hb⟩, hF⟩, st⟩ | ⟨q, st₀, t, T', L, E, ce, h0, X', hL, e1, e2, ⟨u, hp, hb, hF⟩, hce, hcv, hcl, st⟩
  · cases hv
    obtain ⟨k1, k2, k3⟩ := vx_keep h0 e1 hS hA hf hL hF
    obtain ⟨t2, a1, b1⟩ := kk r u t T'.heap (locs ++ L) e1.symm (by rw [← e2]; exact X'.warmed.alike) hp hb k1 k2 k3 T' rfl X'
    exact ⟨t2, st t2 a1, b1⟩
  · obtain ⟨k1, k2, k3⟩ := vx_keep h0 e1 hS hAX hf hL hF
    obtain ⟨t2, a1, b1⟩ := kx E ce q u t T'.heap (locs ++ L) e1.symm (by rw [← e2]; exact X'.warmed.alike) hp hb k1 k2 k3 (by rw [e1]; exact hce) hcv hcl T' rfl X'
    exact ⟨t2, st.trans a1, b1⟩
theorem vx_callf {S SX : Type} {post : UInt32 → S → Prop} {px : SX → Prop} {B : S → State → Prop} {BX : String → SX → State → Prop} {AX : Nat → Prop} (hr : vx_Run p l e R s m args below meth c H locs cells slots mc ms (F0 m pc ls st0) rest (va_Qf post B A1 a) (vx_X px BX AX) free) (hS : va_S A0 H0 H locs) (hA : ∀ q, q < H.size → A1 q → A0 q) (hf : ∀ q, free q → A0 q) (hAX : ∀ q, q < H.size → AX q → A0 q)
    (kx : ∀ (E : String) (ce : Cell) (q9 : Addr) (u : SX) (t : State) (H1 : Heap) (locs1 : List Loc), t.heap = H1 → s.vm.Alike t.vm → px u → BX E u t → H.size ≤ H1.size → (∀ q : Nat, q < H.size → ¬ AX q → H1[q]? = H[q]?) → va_S A0 H0 H1 locs1 → H1[q9]? = some ce → ce.vm = .none → s.vm.findClass E = some ce.cls → vx_W p l e R s m args below meth c H1 locs1 (cells + mc) (slots + ms) Q (F0 m pc ls rest) q9)
    (kk : ∀ (r : UInt32) (u : S) (t : State) (H1 : Heap) (locs1 : List Loc), t.heap = H1 → s.vm.Alike t.vm → post r u → B u t → H.size ≤ H1.size → (∀ q : Nat, q < H.size → ¬ A1 q → H1[q]? = H[q]?) → va_S A0 H0 H1 locs1 → W p l e R s m args below meth c H1 locs1 (cells + mc) (slots + ms) Q (F0 m (pc + 3) ls (.float r :: rest))) : W p l e R s m args below meth c H locs cells slots Q (F0 m pc ls st0) := by
  intro T hT X
  rcases hr T hT X with ⟨v, st₀, t, T', L, h0, X', hL, e1, e2, ⟨⟨r, u, hv, hp, hb⟩, hF⟩, st⟩ | ⟨q, st₀, t, T', L, E, ce, h0, X', hL, e1, e2, ⟨u, hp, hb, hF⟩, hce, hcv, hcl, st⟩
  · cases hv
    obtain ⟨k1, k2, k3⟩ := vx_keep h0 e1 hS hA hf hL hF
    obtain ⟨t2, a1, b1⟩ := kk r u t T'.heap (locs ++ L) e1.symm (by rw [← e2]; exact X'.warmed.alike) hp hb k1 k2 k3 T' rfl X'
    exact ⟨t2, st t2 a1, b1⟩
  · obtain ⟨k1, k2, k3⟩ := vx_keep h0 e1 hS hAX hf hL hF
    obtain ⟨t2, a1, b1⟩ := kx E ce q u t T'.heap (locs ++ L) e1.symm (by rw [← e2]; exact X'.warmed.alike) hp hb k1 k2 k3 (by rw [e1]; exact hce) hcv hcl T' rfl X'
    exact ⟨t2, st.trans a1, b1⟩
theorem vx_calld {S SX : Type} {post : UInt64 → S → Prop} {px : SX → Prop} {B : S → State → Prop} {BX : String → SX → State → Prop} {AX : Nat → Prop} (hr : vx_Run p l e R s m args below meth c H locs cells slots mc ms (F0 m pc ls st0) rest (va_Qd post B A1 a) (vx_X px BX AX) free) (hS : va_S A0 H0 H locs) (hA : ∀ q, q < H.size → A1 q → A0 q) (hf : ∀ q, free q → A0 q) (hAX : ∀ q, q < H.size → AX q → A0 q)
    (kx : ∀ (E : String) (ce : Cell) (q9 : Addr) (u : SX) (t : State) (H1 : Heap) (locs1 : List Loc), t.heap = H1 → s.vm.Alike t.vm → px u → BX E u t → H.size ≤ H1.size → (∀ q : Nat, q < H.size → ¬ AX q → H1[q]? = H[q]?) → va_S A0 H0 H1 locs1 → H1[q9]? = some ce → ce.vm = .none → s.vm.findClass E = some ce.cls → vx_W p l e R s m args below meth c H1 locs1 (cells + mc) (slots + ms) Q (F0 m pc ls rest) q9)
    (kk : ∀ (r : UInt64) (u : S) (t : State) (H1 : Heap) (locs1 : List Loc), t.heap = H1 → s.vm.Alike t.vm → post r u → B u t → H.size ≤ H1.size → (∀ q : Nat, q < H.size → ¬ A1 q → H1[q]? = H[q]?) → va_S A0 H0 H1 locs1 → W p l e R s m args below meth c H1 locs1 (cells + mc) (slots + ms) Q (F0 m (pc + 3) ls (.double r :: rest))) : W p l e R s m args below meth c H locs cells slots Q (F0 m pc ls st0) := by
  intro T hT X
  rcases hr T hT X with ⟨v, st₀, t, T', L, h0, X', hL, e1, e2, ⟨⟨r, u, hv, hp, hb⟩, hF⟩, st⟩ | ⟨q, st₀, t, T', L, E, ce, h0, X', hL, e1, e2, ⟨u, hp, hb, hF⟩, hce, hcv, hcl, st⟩
  · cases hv
    obtain ⟨k1, k2, k3⟩ := vx_keep h0 e1 hS hA hf hL hF
    obtain ⟨t2, a1, b1⟩ := kk r u t T'.heap (locs ++ L) e1.symm (by rw [← e2]; exact X'.warmed.alike) hp hb k1 k2 k3 T' rfl X'
    exact ⟨t2, st t2 a1, b1⟩
  · obtain ⟨k1, k2, k3⟩ := vx_keep h0 e1 hS hAX hf hL hF
    obtain ⟨t2, a1, b1⟩ := kx E ce q u t T'.heap (locs ++ L) e1.symm (by rw [← e2]; exact X'.warmed.alike) hp hb k1 k2 k3 (by rw [e1]; exact hce) hcv hcl T' rfl X'
    exact ⟨t2, st.trans a1, b1⟩
theorem vx_callv {S SX : Type} {post : S → Prop} {px : SX → Prop} {B : S → State → Prop} {BX : String → SX → State → Prop} {AX : Nat → Prop} (hr : vx_Run p l e R s m args below meth c H locs cells slots mc ms (F0 m pc ls st0) rest (va_Qv post B A1 a) (vx_X px BX AX) free) (hS : va_S A0 H0 H locs) (hA : ∀ q, q < H.size → A1 q → A0 q) (hf : ∀ q, free q → A0 q) (hAX : ∀ q, q < H.size → AX q → A0 q)
    (kx : ∀ (E : String) (ce : Cell) (q9 : Addr) (u : SX) (t : State) (H1 : Heap) (locs1 : List Loc), t.heap = H1 → s.vm.Alike t.vm → px u → BX E u t → H.size ≤ H1.size → (∀ q : Nat, q < H.size → ¬ AX q → H1[q]? = H[q]?) → va_S A0 H0 H1 locs1 → H1[q9]? = some ce → ce.vm = .none → s.vm.findClass E = some ce.cls → vx_W p l e R s m args below meth c H1 locs1 (cells + mc) (slots + ms) Q (F0 m pc ls rest) q9)
    (kk : ∀ (u : S) (t : State) (H1 : Heap) (locs1 : List Loc), t.heap = H1 → s.vm.Alike t.vm → post u → B u t → H.size ≤ H1.size → (∀ q : Nat, q < H.size → ¬ A1 q → H1[q]? = H[q]?) → va_S A0 H0 H1 locs1 → W p l e R s m args below meth c H1 locs1 (cells + mc) (slots + ms) Q (F0 m (pc + 3) ls (rest))) : W p l e R s m args below meth c H locs cells slots Q (F0 m pc ls st0) := by
  intro T hT X
  rcases hr T hT X with ⟨v, st₀, t, T', L, h0, X', hL, e1, e2, ⟨⟨u, hv, hp, hb⟩, hF⟩, st⟩ | ⟨q, st₀, t, T', L, E, ce, h0, X', hL, e1, e2, ⟨u, hp, hb, hF⟩, hce, hcv, hcl, st⟩
  · cases hv
    obtain ⟨k1, k2, k3⟩ := vx_keep h0 e1 hS hA hf hL hF
    obtain ⟨t2, a1, b1⟩ := kk u t T'.heap (locs ++ L) e1.symm (by rw [← e2]; exact X'.warmed.alike) hp hb k1 k2 k3 T' rfl X'
    exact ⟨t2, st t2 a1, b1⟩
  · obtain ⟨k1, k2, k3⟩ := vx_keep h0 e1 hS hAX hf hL hF
    obtain ⟨t2, a1, b1⟩ := kx E ce q u t T'.heap (locs ++ L) e1.symm (by rw [← e2]; exact X'.warmed.alike) hp hb k1 k2 k3 (by rw [e1]; exact hce) hcv hcl T' rfl X'
    exact ⟨t2, st.trans a1, b1⟩
end Rows
section Ends
variable {p : Program} {l : Launch} {e : Env} {R : Room} {s : State} {m : MethodId} {args : Array Value} {below : List Frame} {meth : Method} {c : Code} {H : Heap} {locs : List Loc} {cells slots : Nat} {Q : State → Prop}
variable {mc ms : Nat} {free : Addr → Prop} {A0 A1 : Nat → Prop} {H0 : Heap} {a : Array Value} {ls : Array Slot} {st0 rest : List Value}
variable {Qc : Array Value → State → Outcome → State → Prop} {XC : String → State → State → Prop}
/-- what a body that may throw owes at its end -/
def vx_MQ (below : List Frame) (Qc : Array Value → State → Outcome → State → Prop) (XC : String → State → State → Prop) (a : Array Value) (s : State) (mc ms : Nat) (free : Addr → Prop) : State → Prop := fun t =>
  ∃ o, t.status = .running ∧ Ended t below o ∧ vx_Q Qc XC mc ms free a s o t
theorem vx_ret {g : JFrame} {mc ms : Nat} (k : W p l e R s m args below meth c H locs cells slots (MQ below Qc args s mc ms free) g) : W p l e R s m args below meth c H locs cells slots (vx_MQ below Qc XC args s mc ms free) g := by
  intro T hT X
  obtain ⟨t, a1, o, b1, b2, b3, b4⟩ := k T hT X
  exact ⟨t, a1, o, b1, b2, Or.inl ⟨b3, b4⟩⟩
/-- not caught here: it goes on to the caller -/
theorem vx_widen {g : JFrame} {q : Addr} {k n : Nat} (h1 : cells ≤ k) (h2 : slots ≤ n) (kk : vx_W p l e R s m args below meth c H locs k n Q g q) : vx_W p l e R s m args below meth c H locs cells slots Q g q := fun T hT X => kk T hT (stand_widen X h1 h2)
theorem vx_out {pc : Nat} {E : String} {ce : Cell} {q : Addr} {mc ms : Nat} (hout : ∀ x ∈ c.exceptionTable.toList, covers x pc = false) (hlocks : meth.locks = false) (hcell : H[q]? = some ce) (hv : ce.vm = .none) (hcl : s.vm.findClass E = some ce.cls)
    (hx : ∀ t : State, t.heap = H → s.vm.Alike t.vm → XC E s t) (hf : ∀ z ∈ locs, free z.base) (hc : cells ≤ mc) (hs : slots ≤ ms) :
    vx_W p l e R s m args below meth c H locs cells slots (vx_MQ below Qc XC args s mc ms free) (F0 m pc ls rest) q := by
  intro T hT X
  obtain ⟨st1, hrun, hend, hW, hsm⟩ := X.leaveThrown q (g := F0 m pc ls rest) rfl rfl rfl hout hlocks
  have hcell9 : (T.setFrames (.throwing q :: below)).heap[q]? = some ce := by
    show T.heap[q]? = some ce
    rw [hT]; exact hcell
  exact ⟨_, st1, .threw q, hrun, hend, Or.inr ⟨q, rfl, E, ce, locs, hx _ hT hW.alike, hcell9, hv, hcl, hW, hsm.mono hc hs, hf⟩⟩
theorem vx_frame {U : State} {k n : Nat} (h : s.sameButNew ({ U with vm := s.vm } : State) locs k n) : s.heap.size ≤ U.heap.size ∧ ∀ q : Nat, q < s.heap.size → (∀ z ∈ locs, z.base ≠ q) → U.heap[q]? = s.heap[q]? := by
  obtain ⟨-, h2, -, -, -, h6⟩ := h
  refine ⟨h2, fun q hq hz => ?_⟩
  obtain ⟨c9, e1, e2, e3, e4⟩ := h6 q _ (Array.getElem?_eq_getElem hq)
  have hs : c9.slots = (s.heap[q]).slots := Array.ext_getElem? fun i => e4 i fun hm => hz _ hm rfl
  have h9 : c9 = s.heap[q] := by
    rw [hs] at e2
    exact e2
  have e5 : U.heap[q]? = some c9 := e1
  rw [e5, h9, Array.getElem?_eq_getElem hq]
/-- the words of a throw but the four that speak of the heap -/
def vx_no (w : Cond) : Bool := decide (w ≠ .isRef (.static Bundle.tN "UNASSIGNED_STACK" Bundle.steD)) && decide (w ≠ .isRef (.static Bundle.tN "SUPPRESSED_SENTINEL" Bundle.listD)) && decide (w ≠ .laysStatic Bundle.tN "UNASSIGNED_STACK" Bundle.steD) && decide (w ≠ .laysStatic Bundle.tN "SUPPRESSED_SENTINEL" Bundle.listD)
def vx_at0 (own : String) (ic : Nat) (X : String) (names : List String) : List Cond := (Bundle.ownAtoms0 own ic X names).filter vx_no
def vx_atS (own : String) (ic : Nat) (X : String) (names : List String) : List Cond := (Bundle.ownAtoms own ic X names).filter vx_no
/-- a word that the tables alone decide, or a good one -/
def vx_ot (w : Cond) : Bool := w.onTables || goodWord w
theorem vx_ot_at {args a' : Array Value} {s U : State} {w : Cond} (hW : s.WarmedH U.vm) (hvm : s.vm = U.vm) (hg : vx_ot w = true) (h : w.before args s = true) : w.before a' U = true := by
  simp only [vx_ot, Bool.or_eq_true] at hg
  rcases hg with hg | hg
  · exact va_tabs hg hvm h
  · exact word_at hW (good_of_word hg) h
/-- a list's words: the good ones out of the method's own list, the others by premises of their own -/
theorem vx_hat {args : Array Value} {s : State} {L B : List Cond} (h1 : ∀ w ∈ L.filter goodWord, w.before args s = true) (h2 : ∀ w ∈ L.filter (fun w => !goodWord w), w ∈ B) (h3 : ∀ w ∈ B, w.before args s = true) : ∀ w ∈ L, w.before args s = true := by
  intro w hw
  by_cases g : goodWord w = true
  · exact h1 w (List.mem_filter.mpr ⟨hw, g⟩)
  · refine h3 w (h2 w (List.mem_filter.mpr ⟨hw, ?_⟩))
    show (!goodWord w) = true
    cases hgw : goodWord w
    · rfl
    · exact absurd hgw g
theorem vx_c {args : Array Value} {s : State} {w : Cond} {B : List Cond} (h : w.before args s = true) (t : ∀ w ∈ B, w.before args s = true) : ∀ w' ∈ w :: B, w'.before args s = true := fun w' h' => (List.mem_cons.mp h').elim (fun e => by rw [e]; exact h) (t w')
theorem vx_n {args : Array Value} {s : State} : ∀ w ∈ ([] : List Cond), w.before args s = true := fun _ h => nomatch h
theorem vx_own {args : Array Value} {s : State} {L : List Cond} (h1 : ∀ w ∈ L.filter vx_no, w.before args s = true)
    (hU : (Cond.isRef (.static Bundle.tN "UNASSIGNED_STACK" Bundle.steD)).before args s = true) (hN : (Cond.isRef (.static Bundle.tN "SUPPRESSED_SENTINEL" Bundle.listD)).before args s = true)
    (lU : (Cond.laysStatic Bundle.tN "UNASSIGNED_STACK" Bundle.steD).before args s = true) (lN : (Cond.laysStatic Bundle.tN "SUPPRESSED_SENTINEL" Bundle.listD).before args s = true) : ∀ w ∈ L, w.before args s = true := by
  intro w hw
  by_cases e1 : w = .isRef (.static Bundle.tN "UNASSIGNED_STACK" Bundle.steD)
  · rw [e1]; exact hU
  · by_cases e2 : w = .isRef (.static Bundle.tN "SUPPRESSED_SENTINEL" Bundle.listD)
    · rw [e2]; exact hN
    · by_cases e3 : w = .laysStatic Bundle.tN "UNASSIGNED_STACK" Bundle.steD
      · rw [e3]; exact lU
      · by_cases e4 : w = .laysStatic Bundle.tN "SUPPRESSED_SENTINEL" Bundle.listD
        · rw [e4]; exact lN
        · exact h1 w (List.mem_filter.mpr ⟨hw, by unfold vx_no; rw [decide_eq_true e1, decide_eq_true e2, decide_eq_true e3, decide_eq_true e4]; rfl⟩)
/-- where a static field lies, its class's statics cell in H -/
def vx_L (C n d : String) (A : Nat → Prop) (U : State) (H : Heap) : Prop := ∃ (c : ClassId) (k : Class) (i : Nat) (f : Field) (a : Nat) (cell : Cell), U.vm.findClass C = some c ∧ U.fieldFound? C n d = some (c, k, i, f) ∧ f.isStatic = true ∧ k.statics = some a ∧ H[a]? = some cell ∧ cell.vm.isStatics = true ∧ cell.cls = c ∧ f.slot < cell.slots.size ∧ k.staticTypes[f.slot]? = some f.type ∧ ¬ A a
theorem vx_L.moved {C n d : String} {A : Nat → Prop} {u U : State} {H : Heap} (hvm : u.vm.Alike U.vm) (h : vx_L C n d A u H) : vx_L C n d A U H := by
  obtain ⟨c, k, i, f, a, cell, h1, h2, h3, h4, h5, h6, h7, h8, h9, h10⟩ := h
  obtain ⟨k', hi', he⟩ := State.fieldFound?_setVm hvm h2
  exact ⟨c, k', i, f, a, cell, by rw [hvm.findClass]; exact h1, hi', h3, by rw [he]; exact h4, h5, h6, h7, h8, by rw [he]; exact h9, h10⟩
theorem vx_L.kept {C n d : String} {A : Nat → Prop} {U : State} {H H1 : Heap} (h : vx_L C n d A U H) (hq : ∀ a : Nat, a < H.size → ¬ A a → H1[a]? = H[a]?) : vx_L C n d A U H1 := by
  obtain ⟨c, k, i, f, a, cell, h1, h2, h3, h4, h5, h6, h7, h8, h9, h10⟩ := h
  exact ⟨c, k, i, f, a, cell, h1, h2, h3, h4, by rw [hq a (Array.getElem?_eq_some_iff.mp h5).1 h10]; exact h5, h6, h7, h8, h9, h10⟩
theorem vx_L.narrow {C n d : String} {A B : Nat → Prop} {U : State} {H : Heap} (h : vx_L C n d A U H) (hAB : ∀ q, B q → A q) : vx_L C n d B U H := by
  obtain ⟨c, k, i, f, a, cell, h1, h2, h3, h4, h5, h6, h7, h8, h9, h10⟩ := h
  exact ⟨c, k, i, f, a, cell, h1, h2, h3, h4, h5, h6, h7, h8, h9, fun z => h10 (hAB _ z)⟩
theorem vx_L.word {C n d : String} {A : Nat → Prop} {s : State} {args : Array Value} (h : vx_L C n d A s s.heap) : (Cond.laysStatic C n d).before args s = true := by
  obtain ⟨c, k, i, f, a, cell, h1, h2, h3, h4, h5, h6, h7, h8, h9, -⟩ := h
  show (Cond.laysStatic C n d).holds args s none s [] = true
  exact Cond.laysStatic_of h1 h2 h3 h4 h5 h6 h7 h8 h9
/-- .. and what it holds: null or some reference -/
def vx_Zq (C n d : String) (A : Nat → Prop) (U : State) (H : Heap) : Prop := va_Zq C n d A U H ∧ vx_L C n d A U H
theorem vx_Zq.moved {C n d : String} {A : Nat → Prop} {u U : State} {H : Heap} (hvm : u.vm.Alike U.vm) (h : vx_Zq C n d A u H) : vx_Zq C n d A U H := ⟨va_Zq.moved hvm h.1, vx_L.moved hvm h.2⟩
theorem vx_Zq.kept {C n d : String} {A : Nat → Prop} {U : State} {H H1 : Heap} (h : vx_Zq C n d A U H) (hq : ∀ a : Nat, a < H.size → ¬ A a → H1[a]? = H[a]?) : vx_Zq C n d A U H1 := ⟨va_Zq.kept h.1 hq, vx_L.kept h.2 hq⟩
theorem vx_Zq.narrow {C n d : String} {A B : Nat → Prop} {U : State} {H : Heap} (h : vx_Zq C n d A U H) (hAB : ∀ q, B q → A q) : vx_Zq C n d B U H := ⟨va_Zq.narrow h.1 hAB, vx_L.narrow h.2 hAB⟩
theorem vx_Zqof {args : Array Value} {s : State} {C n d : String} {A : Nat → Prop} (hl : (Cond.laysStatic C n d).before args s = true) (hini : (Cond.initialized C).before args s = true) (h : (Cond.isRef (.static C n d)).before args s = true) (hA : ∀ a : Nat, a < s.heap.size → ¬ A a) : vx_Zq C n d A s s.heap := by
  refine ⟨va_Zqof hl hini h hA, ?_⟩
  obtain ⟨c, k, i, f, a, cell, h1, h2, h3, h4, h5, h6, h7, h8, h9⟩ := Cond.laysStatic_spec hl
  exact ⟨c, k, i, f, a, cell, h1, h2, h3, h4, h5, h6, h7, h8, h9, hA a (Array.getElem?_eq_some_iff.mp h5).1⟩
theorem vx_isRef {C n d : String} {v : Value} {A : Nat → Prop} {s : State} {args : Array Value} (h : va_Z C n d v A s s.heap) (hv : v.isRef = true) : (Cond.isRef (.static C n d)).before args s = true := by
  obtain ⟨cf, kf, fi, f, a, cell, h1, h2, h3, h4, h5, h6, h7, -⟩ := h
  have he : (Term.static C n d).eval args s none [] s = some v := by
    simp [Term.eval, State.fieldNamed?, h1, h2, h4, h5, h6, h7]
  simp only [Cond.before, Cond.holds, Cond.value, he]
  cases v <;> simp_all [Value.isRef]
theorem vx_isRefq {C n d : String} {A : Nat → Prop} {s : State} {args : Array Value} (h : va_Zq C n d A s s.heap) : (Cond.isRef (.static C n d)).before args s = true := by
  rcases h with h | ⟨t, h⟩
  · exact vx_isRef h rfl
  · exact vx_isRef h rfl
/-- the same frame, seen from here: as if the method were called anew in this heap -/
theorem vx_rebase {T : State} (X : Stand p l e R s m args below meth c T locs cells slots) {R' : Room} (hf : R'.frames ≤ R.frames) (hl : R'.locals ≤ R.locals) (hc : cells + R'.cells ≤ R.cells) (hs : slots + R'.slots ≤ R.slots) :
    Stand p l e R' ((T.setVm s.vm).setFrames (.invoking m args :: below)) m args below meth c T [] 0 0 := by
  have htop : (T.setVm s.vm).topJava?.isSome := X.here.top
  have hF : ((T.setVm s.vm).setFrames (.invoking m args :: below)).frames = .invoking m args :: below := State.frames_setFrames _ (State.cur_lt_of_top htop)
  obtain ⟨g₀, hg0⟩ := Option.isSome_iff_exists.mp htop
  obtain ⟨r, hr⟩ := State.topJava?_eq_some.mp hg0
  have hl9 : e.platform.stackLimits (T.setVm s.vm).me = e.platform.stackLimits s.me := X.limits
  have hb9 : (T.setVm s.vm).me.stackBytes = s.me.stackBytes := X.bytes
  refine ⟨X.admits, X.cas, X.clock, hF, ?_, X.hears, X.method, X.code, X.here, X.tail, X.warmed, ?_, ?_, ?_⟩
  · have h := X.room
    have hU : ((T.setVm s.vm).setFrames (.invoking m args :: below)).localsInUse = s.localsInUse := by
      rw [State.localsInUse_invoking hF (meth := meth) (c := c) X.method X.code, State.localsInUse_invoking X.frames X.method X.code]
    simp only [State.hasRoom, Bool.and_eq_true, decide_eq_true_eq] at h ⊢
    obtain ⟨⟨⟨⟨h1, h2, h3, h4, h5, h6⟩, h7⟩, h8⟩, h9⟩ := h
    rw [X.frames, List.length_cons] at h2 h3
    have q1 := X.heapSize
    have q2 := X.used
    simp only [hF, hU, List.length_cons, State.stackLimits_setFrames, State.stackBytes_setFrames, hl9, hb9]
    refine ⟨⟨⟨⟨by omega, by omega, by omega, by omega, by omega, h6⟩, ?_⟩, ?_⟩, X.book⟩
    · show T.heap.size + R'.cells ≤ e.platform.maxCells
      omega
    · show T.slotsUsed + R'.slots ≤ e.platform.maxSlots
      omega
  · rw [State.stackLimits_setFrames]; rfl
  · rw [State.stackBytes_setFrames]; rfl
  · refine ⟨?_, Nat.le_refl _, Nat.le_refl _, ?_, ?_, fun a c9 h9 => ⟨c9, h9, rfl, rfl, fun _ _ => rfl⟩⟩
    · obtain ⟨t, ht, -⟩ := State.frames_cons hr
      show T.setVm s.vm = { ((T.setVm s.vm).setFrames (.invoking m args :: below)).setFrames (T.setVm s.vm).frames with heap := T.heap, slotsUsed := T.slotsUsed }
      rw [State.setFrames_setFrames, State.setFrames_self ht]
      rfl
    · show T.slotsUsed = T.slotsUsed + ((T.heap.toList.drop T.heap.size).map (·.slots.size)).sum
      rw [List.drop_eq_nil_of_le (Nat.le_of_eq Array.length_toList)]
      rfl
    · show ((T.heap.toList.drop T.heap.size).map (·.slots.size)).sum ≤ 0
      rw [List.drop_eq_nil_of_le (Nat.le_of_eq Array.length_toList)]
      exact Nat.le_refl _
/-- 'throw new E()': new; dup; invokespecial; athrow -/
theorem vx_throw0 {cc : ByteArray} {pc : Nat} (hexec : p.tables.exec = Jvm.exec) (hb : c.code = cc) (hl : l.stackTraces = false) {own cls : String} {names : List String} {ik ic mc ms : Nat} {A : Nat → Prop}
    (hown : s.vm.findClass own = some m.cls) (hcls : Bundle.fit cls = true) (hnames : ∀ n ∈ names, Bundle.fit n = true)
    (hk : (Cond.classLink own ik cls).before args s = true) (hini : (Cond.initialized cls).before args s = true) (hat : ∀ w ∈ vx_at0 own ic cls names, w.before args s = true)
    (hgood : ∀ w ∈ Cond.classLink own ik cls :: Cond.initialized cls :: vx_at0 own ic cls names, vx_ot w = true)
    (hU : vx_Zq Bundle.tN "UNASSIGNED_STACK" Bundle.steD A s s.heap) (hN : vx_Zq Bundle.tN "SUPPRESSED_SENTINEL" Bundle.listD A s s.heap) (hS : va_S A s.heap H locs) (hsize : ls.size = c.maxLocals)
    (d0 : decode cc pc = .ok (.new ik, 3)) (d3 : decode cc (pc + 3) = .ok (.dup, 1)) (d4 : decode cc (pc + 4) = .ok (.invokespecial ic, 3)) (d7 : decode cc (pc + 7) = .ok (.athrow, 1))
    (hout : ∀ x ∈ c.exceptionTable.toList, covers x (pc + 7) = false)
    (hRframes : names.length + 3 < R.frames) (hRlocals : (rest.map fun v => v.category).sum + (13 * (names.length + 1) + 42) ≤ R.locals) (hRcells : cells + 1 ≤ R.cells) (hRslots : slots + 6 ≤ R.slots) (hlocks : meth.locks = false)
    (hx : ∀ t : State, s.vm.Alike t.vm → H.size ≤ t.heap.size → (∀ q : Nat, q < H.size → t.heap[q]? = H[q]?) → XC cls s t)
    (hf : ∀ z ∈ locs, free z.base) (hc : cells + 1 ≤ mc) (hs : slots + 6 ≤ ms) :
    W p l e R s m args below meth c H locs cells slots (vx_MQ below Qc XC args s mc ms free) (F0 m pc ls rest) := by
  intro T hT X
  have htr : e.platform.stackTraces = false := (show e.platform.stackTraces = l.stackTraces by rw [X.admits.platform]).trans hl
  have Y := vx_rebase X (R' := { frames := R.frames, locals := R.locals, cells := 1, slots := 6 }) (Nat.le_refl _) (Nat.le_refl _) hRcells hRslots
  obtain ⟨s', hA⟩ : ∃ z, z = (T.setVm s.vm).setFrames (.invoking m args :: below) := ⟨_, rfl⟩
  rw [← hA] at Y
  have hvm : s'.vm = s.vm := by rw [hA]; rfl
  have hhp : s'.heap = H := by rw [hA]; exact hT
  have hW0 : s.WarmedH s'.vm := by rw [hvm]; exact State.WarmedH.refl s
  have hat' : ∀ w ∈ vx_at0 own ic cls names, w.before args s' = true := fun w hw => vx_ot_at hW0 hvm.symm (hgood w (List.mem_cons_of_mem _ (List.mem_cons_of_mem _ hw))) (hat w hw)
  have hk' : (Cond.classLink own ik cls).before args s' = true := vx_ot_at hW0 hvm.symm (hgood _ List.mem_cons_self) hk
  have hini' : (Cond.initialized cls).before args s' = true := vx_ot_at hW0 hvm.symm (hgood _ (List.mem_cons_of_mem _ List.mem_cons_self)) hini
  have hU' : vx_Zq Bundle.tN "UNASSIGNED_STACK" Bundle.steD A s' s'.heap := by rw [hhp]; exact vx_Zq.moved hW0.alike (hU.kept hS.2.1)
  have hN' : vx_Zq Bundle.tN "SUPPRESSED_SENTINEL" Bundle.listD A s' s'.heap := by rw [hhp]; exact vx_Zq.moved hW0.alike (hN.kept hS.2.1)
  have h : ∀ w ∈ Bundle.ownAtoms0 own ic cls names, w.before args s' = true := vx_own hat' (vx_isRefq hU'.1) (vx_isRefq hN'.1) hU'.2.word hN'.2.word
  have hown' : s'.vm.findClass own = some m.cls := by rw [hvm]; exact hown
  have hins : (Cond.instantiable cls 6).before args s' = true := h _ (by simp [Bundle.ownAtoms0])
  obtain ⟨vm₁, cX, kX, hfX, hkX, -, -, X₁, st1⟩ := Y.newCold hexec (own := own) (C := cls) (index := ik) (n := 6) hown' hk' hins hini'
    (g := F0 m pc ls rest) rfl (by rw [hb]; exact d0) (Nat.le_refl _) (Nat.le_refl _)
  generalize hT1 : (T.setVm vm₁).pushCell { cls := cX, slots := kX.instanceTypes.map defaultValue, vm := .none } = T1 at X₁ st1
  have hcat : (Value.ref T.heap.size).category = 1 := rfl
  have hcellA : T1.heap[T.heap.size]? = some (freshCell cX kX) := by rw [← hT1]; exact State.heap_pushCell_size _ _
  have d3' : decode c.code (pc + 3) = .ok (.dup, 1) := by rw [hb]; exact d3
  obtain ⟨U, hsteps, hrun, hend, hW, hsame, ce, hce, hO⟩ := X₁.ctorThrow0 hexec htr (own := own) (cls := cls) (names := names) (ic := ic) hown' hcls hnames h (fun x hx => nomatch hx) hfX hkX hcellA (by rw [hhp, hT]; exact Nat.le_refl _)
    (g := { method := m, pc := pc + 4, locals := ls, stack := .ref T.heap.size :: .ref T.heap.size :: rest, locked := none }) rfl hsize rfl rfl (rest := rest) rfl
    (by rw [hb]; exact d4) (by rw [hb]; exact d7) hout hRframes (by simp only [List.map_cons, List.sum_cons, hcat]; omega) hlocks
  obtain ⟨f1, f2⟩ := vx_frame hsame
  rw [hhp] at f1 f2
  have hWs : s.WarmedH U.vm := State.WarmedH.trans hW0 hW
  have hcl : s.vm.findClass cls = some ce.cls := by
    have h9 := hO.cls
    rw [hvm] at h9
    exact h9
  have hall : s.sameButNew ({ U with vm := s.vm } : State) locs mc ms := by
    subst hA
    obtain ⟨e1, e2⟩ := hsame
    rw [State.setFrames_setFrames] at e1
    have h2 : (T.setVm s.vm).sameButNew ({ U with vm := s.vm } : State) [] (0 + 1) (0 + 6) := ⟨e1, e2⟩
    have h3 := X.same.trans h2
    rw [List.append_nil] at h3
    exact h3.mono hc hs
  refine ⟨U, ?_, .threw T.heap.size, hrun, hend, Or.inr ⟨T.heap.size, rfl, cls, ce, locs, hx U hWs.alike f1 (fun q hq => f2 q hq (fun z hz => nomatch hz)), hce, hO.vm, hcl, hWs, hall, hf⟩⟩
  refine st1 _ ?_
  show Steps p.tables e below (T1.setTop { method := m, pc := pc + 3, locals := ls, stack := .ref T.heap.size :: rest, locked := none }) _
  jvm_step X₁.here [X₁.here.top, hexec, d3', Value.category]
  exact hsteps
/-- 'throw new E("text")': new; dup; ldc; invokespecial; athrow -/
theorem vx_throwS {cc : ByteArray} {pc : Nat} (hexec : p.tables.exec = Jvm.exec) (hb : c.code = cc) (hl : l.stackTraces = false) {own cls text : String} {names : List String} {ik is ic mc ms sa : Nat} {A : Nat → Prop}
    (hown : s.vm.findClass own = some m.cls) (hcls : Bundle.fit cls = true) (hnames : ∀ n ∈ names, Bundle.fit n = true)
    (hk : (Cond.classLink own ik cls).before args s = true) (hini : (Cond.initialized cls).before args s = true) (hstr : vk_R own is text sa s) (hat : ∀ w ∈ vx_atS own ic cls names, w.before args s = true)
    (hgood : ∀ w ∈ Cond.classLink own ik cls :: Cond.initialized cls :: vx_atS own ic cls names, vx_ot w = true)
    (hU : vx_Zq Bundle.tN "UNASSIGNED_STACK" Bundle.steD A s s.heap) (hN : vx_Zq Bundle.tN "SUPPRESSED_SENTINEL" Bundle.listD A s s.heap) (hS : va_S A s.heap H locs) (hsize : ls.size = c.maxLocals)
    (d0 : decode cc pc = .ok (.new ik, 3)) (d3 : decode cc (pc + 3) = .ok (.dup, 1)) (d4 : decode cc (pc + 4) = .ok (.ldc is, 2)) (d6 : decode cc (pc + 6) = .ok (.invokespecial ic, 3)) (d9 : decode cc (pc + 9) = .ok (.athrow, 1))
    (hout : ∀ x ∈ c.exceptionTable.toList, covers x (pc + 9) = false)
    (hRframes : names.length + 3 < R.frames) (hRlocals : (rest.map fun v => v.category).sum + (13 * (names.length + 1) + 43) ≤ R.locals) (hRcells : cells + 1 ≤ R.cells) (hRslots : slots + 6 ≤ R.slots) (hlocks : meth.locks = false)
    (hx : ∀ t : State, s.vm.Alike t.vm → H.size ≤ t.heap.size → (∀ q : Nat, q < H.size → t.heap[q]? = H[q]?) → XC cls s t)
    (hf : ∀ z ∈ locs, free z.base) (hc : cells + 1 ≤ mc) (hs : slots + 6 ≤ ms) :
    W p l e R s m args below meth c H locs cells slots (vx_MQ below Qc XC args s mc ms free) (F0 m pc ls rest) := by
  intro T hT X
  have htr : e.platform.stackTraces = false := (show e.platform.stackTraces = l.stackTraces by rw [X.admits.platform]).trans hl
  have Y := vx_rebase X (R' := { frames := R.frames, locals := R.locals, cells := 1, slots := 6 }) (Nat.le_refl _) (Nat.le_refl _) hRcells hRslots
  obtain ⟨s', hA⟩ : ∃ z, z = (T.setVm s.vm).setFrames (.invoking m args :: below) := ⟨_, rfl⟩
  rw [← hA] at Y
  have hvm : s'.vm = s.vm := by rw [hA]; rfl
  have hhp : s'.heap = H := by rw [hA]; exact hT
  have hW0 : s.WarmedH s'.vm := by rw [hvm]; exact State.WarmedH.refl s
  have hat' : ∀ w ∈ vx_atS own ic cls names, w.before args s' = true := fun w hw => vx_ot_at hW0 hvm.symm (hgood w (List.mem_cons_of_mem _ (List.mem_cons_of_mem _ hw))) (hat w hw)
  have hk' : (Cond.classLink own ik cls).before args s' = true := vx_ot_at hW0 hvm.symm (hgood _ List.mem_cons_self) hk
  have hini' : (Cond.initialized cls).before args s' = true := vx_ot_at hW0 hvm.symm (hgood _ (List.mem_cons_of_mem _ List.mem_cons_self)) hini
  have hU' : vx_Zq Bundle.tN "UNASSIGNED_STACK" Bundle.steD A s' s'.heap := by rw [hhp]; exact vx_Zq.moved hW0.alike (hU.kept hS.2.1)
  have hN' : vx_Zq Bundle.tN "SUPPRESSED_SENTINEL" Bundle.listD A s' s'.heap := by rw [hhp]; exact vx_Zq.moved hW0.alike (hN.kept hS.2.1)
  have h : ∀ w ∈ Bundle.ownAtoms own ic cls names, w.before args s' = true := vx_own hat' (vx_isRefq hU'.1) (vx_isRefq hN'.1) hU'.2.word hN'.2.word
  have hown' : s'.vm.findClass own = some m.cls := by rw [hvm]; exact hown
  have hins : (Cond.instantiable cls 6).before args s' = true := h _ (by simp [Bundle.ownAtoms])
  obtain ⟨vm₁, cX, kX, hfX, hkX, -, -, X₁, st1⟩ := Y.newCold hexec (own := own) (C := cls) (index := ik) (n := 6) hown' hk' hins hini'
    (g := F0 m pc ls rest) rfl (by rw [hb]; exact d0) (Nat.le_refl _) (Nat.le_refl _)
  generalize hT1 : (T.setVm vm₁).pushCell { cls := cX, slots := kX.instanceTypes.map defaultValue, vm := .none } = T1 at X₁ st1
  have hcat : (Value.ref T.heap.size).category = 1 := rfl
  have hcellA : T1.heap[T.heap.size]? = some (freshCell cX kX) := by rw [← hT1]; exact State.heap_pushCell_size _ _
  have d3' : decode c.code (pc + 3) = .ok (.dup, 1) := by rw [hb]; exact d3
  have d4' : decode c.code (pc + 4) = .ok (.ldc is, 2) := by rw [hb]; exact d4
  have hstr' : vk_R own is text sa s' := vk_R.warm hW0 hstr
  obtain ⟨U, hsteps, hrun, hend, hW, hsame, ce, hce, hO⟩ := X₁.ctorThrowS hexec htr (own := own) (cls := cls) (names := names) (ic := ic) hown' hcls hnames h (fun x hx => nomatch hx) hfX hkX hcellA (by rw [hhp, hT]; exact Nat.le_refl _) (msg := .ref sa) rfl
    (g := { method := m, pc := pc + 6, locals := ls, stack := .ref sa :: .ref T.heap.size :: .ref T.heap.size :: rest, locked := none }) rfl hsize rfl rfl (rest := rest) rfl
    (by rw [hb]; exact d6) (by rw [hb]; exact d9) hout hRframes (by simp only [List.map_cons, List.sum_cons, hcat]; omega) hlocks
  obtain ⟨f1, f2⟩ := vx_frame hsame
  rw [hhp] at f1 f2
  have hWs : s.WarmedH U.vm := State.WarmedH.trans hW0 hW
  have hcl : s.vm.findClass cls = some ce.cls := by
    have h9 := hO.cls
    rw [hvm] at h9
    exact h9
  have hall : s.sameButNew ({ U with vm := s.vm } : State) locs mc ms := by
    subst hA
    obtain ⟨e1, e2⟩ := hsame
    rw [State.setFrames_setFrames] at e1
    have h2 : (T.setVm s.vm).sameButNew ({ U with vm := s.vm } : State) [] (0 + 1) (0 + 6) := ⟨e1, e2⟩
    have h3 := X.same.trans h2
    rw [List.append_nil] at h3
    exact h3.mono hc hs
  refine ⟨U, ?_, .threw T.heap.size, hrun, hend, Or.inr ⟨T.heap.size, rfl, cls, ce, locs, hx U hWs.alike f1 (fun q hq => f2 q hq (fun z hz => nomatch hz)), hce, hO.vm, hcl, hWs, hall, hf⟩⟩
  refine st1 _ ?_
  show Steps p.tables e below (T1.setTop { method := m, pc := pc + 3, locals := ls, stack := .ref T.heap.size :: rest, locked := none }) _
  jvm_step X₁.here [X₁.here.top, hexec, d3', Value.category]
  exact X₁.ldcString hexec (own := own) (text := text) (index := is) (a := sa) hown' hstr'.1 hstr'.2
    (g := { method := m, pc := pc + 4, locals := ls, stack := .ref T.heap.size :: .ref T.heap.size :: rest, locked := none }) rfl d4' _ hsteps
/-- 'throw new E("text")', the text by a wide index -/
theorem vx_throwSW {cc : ByteArray} {pc : Nat} (hexec : p.tables.exec = Jvm.exec) (hb : c.code = cc) (hl : l.stackTraces = false) {own cls text : String} {names : List String} {ik is ic mc ms sa : Nat} {A : Nat → Prop}
    (hown : s.vm.findClass own = some m.cls) (hcls : Bundle.fit cls = true) (hnames : ∀ n ∈ names, Bundle.fit n = true)
    (hk : (Cond.classLink own ik cls).before args s = true) (hini : (Cond.initialized cls).before args s = true) (hstr : vk_R own is text sa s) (hat : ∀ w ∈ vx_atS own ic cls names, w.before args s = true)
    (hgood : ∀ w ∈ Cond.classLink own ik cls :: Cond.initialized cls :: vx_atS own ic cls names, vx_ot w = true)
    (hU : vx_Zq Bundle.tN "UNASSIGNED_STACK" Bundle.steD A s s.heap) (hN : vx_Zq Bundle.tN "SUPPRESSED_SENTINEL" Bundle.listD A s s.heap) (hS : va_S A s.heap H locs) (hsize : ls.size = c.maxLocals)
    (d0 : decode cc pc = .ok (.new ik, 3)) (d3 : decode cc (pc + 3) = .ok (.dup, 1)) (d4 : decode cc (pc + 4) = .ok (.ldc_w is, 3)) (d7 : decode cc (pc + 7) = .ok (.invokespecial ic, 3)) (d10 : decode cc (pc + 10) = .ok (.athrow, 1))
    (hout : ∀ x ∈ c.exceptionTable.toList, covers x (pc + 10) = false)
    (hRframes : names.length + 3 < R.frames) (hRlocals : (rest.map fun v => v.category).sum + (13 * (names.length + 1) + 43) ≤ R.locals) (hRcells : cells + 1 ≤ R.cells) (hRslots : slots + 6 ≤ R.slots) (hlocks : meth.locks = false)
    (hx : ∀ t : State, s.vm.Alike t.vm → H.size ≤ t.heap.size → (∀ q : Nat, q < H.size → t.heap[q]? = H[q]?) → XC cls s t)
    (hf : ∀ z ∈ locs, free z.base) (hc : cells + 1 ≤ mc) (hs : slots + 6 ≤ ms) :
    W p l e R s m args below meth c H locs cells slots (vx_MQ below Qc XC args s mc ms free) (F0 m pc ls rest) := by
  intro T hT X
  have htr : e.platform.stackTraces = false := (show e.platform.stackTraces = l.stackTraces by rw [X.admits.platform]).trans hl
  have Y := vx_rebase X (R' := { frames := R.frames, locals := R.locals, cells := 1, slots := 6 }) (Nat.le_refl _) (Nat.le_refl _) hRcells hRslots
  obtain ⟨s', hA⟩ : ∃ z, z = (T.setVm s.vm).setFrames (.invoking m args :: below) := ⟨_, rfl⟩
  rw [← hA] at Y
  have hvm : s'.vm = s.vm := by rw [hA]; rfl
  have hhp : s'.heap = H := by rw [hA]; exact hT
  have hW0 : s.WarmedH s'.vm := by rw [hvm]; exact State.WarmedH.refl s
  have hat' : ∀ w ∈ vx_atS own ic cls names, w.before args s' = true := fun w hw => vx_ot_at hW0 hvm.symm (hgood w (List.mem_cons_of_mem _ (List.mem_cons_of_mem _ hw))) (hat w hw)
  have hk' : (Cond.classLink own ik cls).before args s' = true := vx_ot_at hW0 hvm.symm (hgood _ List.mem_cons_self) hk
  have hini' : (Cond.initialized cls).before args s' = true := vx_ot_at hW0 hvm.symm (hgood _ (List.mem_cons_of_mem _ List.mem_cons_self)) hini
  have hU' : vx_Zq Bundle.tN "UNASSIGNED_STACK" Bundle.steD A s' s'.heap := by rw [hhp]; exact vx_Zq.moved hW0.alike (hU.kept hS.2.1)
  have hN' : vx_Zq Bundle.tN "SUPPRESSED_SENTINEL" Bundle.listD A s' s'.heap := by rw [hhp]; exact vx_Zq.moved hW0.alike (hN.kept hS.2.1)
  have h : ∀ w ∈ Bundle.ownAtoms own ic cls names, w.before args s' = true := vx_own hat' (vx_isRefq hU'.1) (vx_isRefq hN'.1) hU'.2.word hN'.2.word
  have hown' : s'.vm.findClass own = some m.cls := by rw [hvm]; exact hown
  have hins : (Cond.instantiable cls 6).before args s' = true := h _ (by simp [Bundle.ownAtoms])
  obtain ⟨vm₁, cX, kX, hfX, hkX, -, -, X₁, st1⟩ := Y.newCold hexec (own := own) (C := cls) (index := ik) (n := 6) hown' hk' hins hini'
    (g := F0 m pc ls rest) rfl (by rw [hb]; exact d0) (Nat.le_refl _) (Nat.le_refl _)
  generalize hT1 : (T.setVm vm₁).pushCell { cls := cX, slots := kX.instanceTypes.map defaultValue, vm := .none } = T1 at X₁ st1
  have hcat : (Value.ref T.heap.size).category = 1 := rfl
  have hcellA : T1.heap[T.heap.size]? = some (freshCell cX kX) := by rw [← hT1]; exact State.heap_pushCell_size _ _
  have d3' : decode c.code (pc + 3) = .ok (.dup, 1) := by rw [hb]; exact d3
  have d4' : decode c.code (pc + 4) = .ok (.ldc_w is, 3) := by rw [hb]; exact d4
  have hstr' : vk_R own is text sa s' := vk_R.warm hW0 hstr
  obtain ⟨U, hsteps, hrun, hend, hW, hsame, ce, hce, hO⟩ := X₁.ctorThrowS hexec htr (own := own) (cls := cls) (names := names) (ic := ic) hown' hcls hnames h (fun x hx => nomatch hx) hfX hkX hcellA (by rw [hhp, hT]; exact Nat.le_refl _) (msg := .ref sa) rfl
    (g := { method := m, pc := pc + 7, locals := ls, stack := .ref sa :: .ref T.heap.size :: .ref T.heap.size :: rest, locked := none }) rfl hsize rfl rfl (rest := rest) rfl
    (by rw [hb]; exact d7) (by rw [hb]; exact d10) hout hRframes (by simp only [List.map_cons, List.sum_cons, hcat]; omega) hlocks
  obtain ⟨f1, f2⟩ := vx_frame hsame
  rw [hhp] at f1 f2
  have hWs : s.WarmedH U.vm := State.WarmedH.trans hW0 hW
  have hcl : s.vm.findClass cls = some ce.cls := by
    have h9 := hO.cls
    rw [hvm] at h9
    exact h9
  have hall : s.sameButNew ({ U with vm := s.vm } : State) locs mc ms := by
    subst hA
    obtain ⟨e1, e2⟩ := hsame
    rw [State.setFrames_setFrames] at e1
    have h2 : (T.setVm s.vm).sameButNew ({ U with vm := s.vm } : State) [] (0 + 1) (0 + 6) := ⟨e1, e2⟩
    have h3 := X.same.trans h2
    rw [List.append_nil] at h3
    exact h3.mono hc hs
  refine ⟨U, ?_, .threw T.heap.size, hrun, hend, Or.inr ⟨T.heap.size, rfl, cls, ce, locs, hx U hWs.alike f1 (fun q hq => f2 q hq (fun z hz => nomatch hz)), hce, hO.vm, hcl, hWs, hall, hf⟩⟩
  refine st1 _ ?_
  show Steps p.tables e below (T1.setTop { method := m, pc := pc + 3, locals := ls, stack := .ref T.heap.size :: rest, locked := none }) _
  jvm_step X₁.here [X₁.here.top, hexec, d3', Value.category]
  exact X₁.ldcStringW hexec (own := own) (text := text) (index := is) (a := sa) hown' hstr'.1 hstr'.2
    (g := { method := m, pc := pc + 4, locals := ls, stack := .ref T.heap.size :: .ref T.heap.size :: rest, locked := none }) rfl d4' _ hsteps
end Ends
section Bodies
variable {l : Launch}
theorem vx_ofW {y : MethodName} {ws ws' : List Cond} {rm : Room} {Pc : Array Value → State → Prop} {Qc : Array Value → State → Outcome → State → Prop} {XC : String → State → State → Prop} {mc ms : Nat} {free : Addr → Prop} {cc : ByteArray} {maxL : Nat} {ret : Option FieldType}
    (hy : plainName y.cls = true) (hw : ws = Cond.code y cc maxL ret :: ws')
    (body : ∀ p e s m args below meth c s₁, BodyLoose p l y (headSpec ws rm) cc maxL ret e s m args below meth c s₁ → c.maxLocals = maxL → (∀ x ∈ c.exceptionTable.toList, False) → Pc args s →
      W p l e (headSpec ws rm).room s m args below meth c s.heap [] 0 0 (vx_MQ below Qc XC args s mc ms free) (entryFrame m args maxL)) : vx_Met l y ws rm Pc Qc XC mc ms free := by
  refine MetFree.of_bodyS (code := cc) (maxLocals := maxL) (ret := ret) hy ?_ ?_
  · intro args s m h hn
    obtain ⟨meth, c, h1, h2, h3, h4, h5, h6, -, -⟩ := Cond.code_spec hn (atoms_spec (ws := ws) h _ (by rw [hw]; exact List.mem_cons_self))
    exact ⟨meth, c, h1, h2, h3, h4, h5, h6⟩
  · intro p e s m args below meth c s₁ B hml hP _
    have hh0 : s₁.heap = s.heap := by rw [B.state]; rfl
    have ht : ∀ x ∈ c.exceptionTable.toList, False := by
      obtain ⟨meth9, c9, h1, h2, -, -, -, -, h7, -⟩ := Cond.code_spec B.named (atoms_spec (ws := ws) B.pre _ (by rw [hw]; exact List.mem_cons_self))
      cases Option.some.inj (h1.symm.trans B.method)
      cases Option.some.inj (h2.symm.trans (Stand.of_body B).code)
      intro x hx
      rw [Array.isEmpty_iff.mp h7] at hx
      cases hx
    obtain ⟨t, a1, o, b1, b2, b3⟩ := body p e s m args below meth c s₁ B hml ht hP s₁ hh0 (Stand.of_body B)
    exact ⟨t, o, a1, b1, b2, b3⟩
/-- the table of a body with handlers -/
theorem vx_table {p : Program} {x y : MethodName} {S : Spec} {cc bytes : ByteArray} {maxL maxL' : Nat} {ret ret' : Option FieldType} {e : Env} {s s₁ : State} {m : MethodId} {args : Array Value} {below : List Frame} {meth : Method} {c : Code} {hh : List (Nat × Nat × Nat × Nat)}
    (B : BodyLoose p l y S cc maxL ret e s m args below meth c s₁) (h : (Cond.codeWith y bytes maxL' ret' hh).before args s = true) : c.exceptionTable.toList = tableOf hh := by
  obtain ⟨m9, meth9, c9, hn9, h1, h2, -, -, h6, -⟩ := Cond.codeWith_spec h
  cases Option.some.inj (hn9.symm.trans B.named)
  cases Option.some.inj (h1.symm.trans B.method)
  cases Option.some.inj (h2.symm.trans (Stand.of_body B).code)
  rw [← h6, table_eq]
end Bodies
end VXA
/-! ===== END ===== -/
/-! ===== BEGIN a static call of a method with an exception table ===== -/
section VXS
variable {p : Program} {l : Launch} {e : Env} {R : Room} {s : State} {m : MethodId} {args : Array Value} {below : List Frame} {meth : Method} {c : Code} {T : State} {H : Heap} {locs : List Loc} {cells slots : Nat}
abbrev vx_CSW (R : Room) (s : State) (args : Array Value) (own : String) (index : Nat) (y : MethodName) (bytes : ByteArray) (maxL : Nat) (ret : Option FieldType) (hh : List (Nat × Nat × Nat × Nat)) (ws : List Cond) (rm : Room) (mc ms n : Nat) : Prop :=
  (rm.cells = mc ∧ rm.slots = ms ∧ rm.frames + 1 ≤ R.frames ∧ 8 + (maxL + 11) + rm.locals ≤ R.locals ∧ (∀ w ∈ ws, ∀ (a' : Array Value) (U : State), s.WarmedH U.vm → w.before a' U = true) ∧ Cond.codeWith y bytes maxL ret hh ∈ ws) ∧
  (Cond.codeWith y bytes maxL ret hh).before args s = true ∧ (Cond.initialized y.cls).before args s = true ∧ (y.cls ≠ "java/lang/invoke/MethodHandle" ∧ y.cls ≠ "java/lang/invoke/VarHandle") ∧
  (∀ sig, parseMethodDescriptor y.desc = some sig → n = sig.parameters.length) ∧ (Cond.methodLink own index y).before args s = true ∧ (Cond.static y).before args s = true
theorem vx_cwSW {own : String} {index maxL mc ms : Nat} {y : MethodName} {bytes : ByteArray} {ret : Option FieldType} {hh : List (Nat × Nat × Nat × Nat)} {Ts ws ws' : List Cond} {rm : Room} (n : Nat) (ht : ∀ w ∈ Ts, w.before args s = true) (hT : GoodIn Ts (va_wsS own index y ws)) (hw : ws = Cond.codeWith y bytes maxL ret hh :: ws') (hrc : rm.cells = mc) (hrs : rm.slots = ms)
    (hd : y.cls ≠ "java/lang/invoke/MethodHandle" ∧ y.cls ≠ "java/lang/invoke/VarHandle" ∧ (parseMethodDescriptor y.desc).map (fun d => d.parameters.length) = some n) (hR : rm.frames + 1 ≤ R.frames ∧ 8 + (maxL + 11) + rm.locals ≤ R.locals) :
    vx_CSW R s args own index y bytes maxL ret hh ws rm mc ms n := by
  have ok : ∀ w ∈ va_wsS own index y ws, w.before args s = true := fun w h => ht w (hT w h).1
  have hG : GoodIn Ts ws := fun w h => hT w (by unfold va_wsS; exact List.mem_append_right _ h)
  have hc : Cond.codeWith y bytes maxL ret hh ∈ ws := by rw [hw]; exact List.mem_cons_self
  refine ⟨⟨hrc, hrs, hR.1, hR.2, pay_in ht hG, hc⟩, ht _ (hG _ hc).1, ok _ (by simp [va_wsS]), ⟨hd.1, hd.2.1⟩, fun sig h => ?_, ok _ (by simp [va_wsS]), ok _ (by simp [va_wsS])⟩
  have h2 := hd.2.2
  rw [h] at h2
  exact (Option.some.inj h2).symm
theorem vx_callSW (X : Stand p l e R s m args below meth c T locs cells slots) (hexec : p.tables.exec = Jvm.exec) {own : String} {index : Nat} {y : MethodName} {bytes : ByteArray} {maxL : Nat} {ret : Option FieldType} {hh : List (Nat × Nat × Nat × Nat)}
    (hown : s.vm.findClass own = some m.cls) (hlink : (Cond.methodLink own index y).before args s = true) (hstat : (Cond.static y).before args s = true) (hinit : (Cond.initialized y.cls).before args s = true)
    (hcode : (Cond.codeWith y bytes maxL ret hh).before args s = true) (hy : y.cls ≠ "java/lang/invoke/MethodHandle" ∧ y.cls ≠ "java/lang/invoke/VarHandle")
    {W9 : Nat} {Pre : Pt → Array Value → Prop} {Post : Pt → Array Value → Option Value → Pt → Prop} (hK : Back l R p e below s args y 3 W9 Pre Post)
    {g : JFrame} (hg : g.method = m) (hsize : g.locals.size = c.maxLocals) {argsL rest : List Value} (hlen : ∀ sig, parseMethodDescriptor y.desc = some sig → argsL.length = sig.parameters.length)
    (hstack : g.stack = argsL.reverse ++ rest) (hW : 2 * g.monitorRoom + (rest.map fun v => v.category).sum ≤ W9) (hdg : decode c.code g.pc = .ok (.invokestatic index, 3))
    (hpre : ∀ vm₁, s.WarmedH vm₁ → Pre ⟨T.setVm vm₁, locs, cells, slots⟩ argsL.toArray) :
    ∃ (v : Option Value) (vm₁ : Vm) (B : Pt), s.WarmedH vm₁ ∧ Stand p l e R s m args below meth c B.U B.locs B.cells B.slots ∧ Post ⟨T.setVm vm₁, locs, cells, slots⟩ argsL.toArray v B ∧
      ∀ target, Steps p.tables e below (B.U.setTop { g with pc := g.pc + 3, stack := v.toList ++ rest }) target → Steps p.tables e below (T.setTop g) target := by
  obtain ⟨mk, methM, cM, hnamed, hmethM, -, -, -, -, -, -, hsigM⟩ := Cond.codeWith_spec hcode
  have hstatic : methM.isStatic = true := Cond.static_spec hnamed hmethM hstat
  obtain ⟨kP, hkP, -⟩ := className_of_methodNamed hnamed
  have hinitP : kP.init = .initialized := Cond.initialized_spec (findClass_of_methodNamed hnamed) hkP hinit
  obtain ⟨vm₁, X₁, hstep₁⟩ := X.invokestatic hexec hown hlink hnamed hmethM hstatic hkP hinitP hy (g := g) hg (argsL := argsL) (rest := rest) (hlen _ hsigM) hstack hdg
  obtain ⟨v, B, X', hpost, hsteps⟩ := hK m meth c ⟨T.setVm vm₁, locs, cells, slots⟩ { g with stack := rest } (.invokestatic index) mk argsL.toArray X₁ hg hsize hdg hW (X₁.named hnamed) (hpre vm₁ X₁.warmed)
  exact ⟨v, vm₁, B, X₁.warmed, X', hpost, fun target h => hstep₁ _ fun acts => by rw [doInvoke_state]; exact hsteps.trans h⟩
theorem vx_runSW {y : MethodName} {bytes cc : ByteArray} {maxL nL mc ms n index : Nat} {ret : Option FieldType} {hh : List (Nat × Nat × Nat × Nat)} {ws : List Cond} {rm : Room} {Pc : Array Value → State → Prop} {Qc : Array Value → State → Outcome → State → Prop} {free : Addr → Prop} {Ts : List Cond} {own : String} {As rest : List Value} {g : JFrame}
    (S : CallFix p m c cc nL s args Ts own) (hM : Met l y ws rm Pc Qc mc ms free) (cw : vx_CSW R s args own index y bytes maxL ret hh ws rm mc ms n) (hp : PreS s H Pc As)
    (hg : g.method = m) (hn : As.length = n) (hsize : g.locals.size = nL) (hstack : g.stack = As.reverse ++ rest) (hW : 2 * g.monitorRoom + (rest.map fun v => v.category).sum ≤ 8) (hdg : decode cc g.pc = .ok (.invokestatic index, 3)) (hf : cells + mc ≤ R.cells ∧ slots + ms ≤ R.slots) :
    va_Run p l e R s m args below meth c H locs cells slots mc ms g rest (Qc As.toArray) (free) := by
  obtain ⟨⟨hrc, hrs, hfr, hlo, hws, hcw⟩, hcode, hini, hy, hlen, hl, hstt⟩ := cw
  have hK : Back l R p e below s args y 3 8 (PreOf R mc ms Pc) (PostOf Qc mc ms free) := va_backW (hh := hh) (bytes := bytes) (maxL := maxL) (ret := ret) hM hp.1 hrc hrs hfr hlo hws hcw (fun a' U hW => word_at hW (Or.inl (by first | rfl | simp [Cond.onTables, Cond.keeps, Cond.steady])) hini)
  obtain ⟨hx, hb, hml, ho, -⟩ := S
  intro T hT X
  obtain ⟨v, vm₁, ⟨U', l2, c2, s2⟩, hW₁, X', ⟨g', mk, t, L, e1, e2, hq, h1, hL, h2, h3⟩, st⟩ := vx_callSW X hx (hh := hh) (bytes := bytes) (maxL := maxL) (ret := ret) ho hl hstt hini hcode hy hK hg (hsize.trans hml.symm) (argsL := As) (rest := rest) (fun sig h => hn.trans (hlen sig h)) hstack hW (by rw [hb]; exact hdg)
    (fun vm₁ hW₁ => ⟨hf.1, hf.2, hp.2 (T.setVm vm₁) hT hW₁⟩)
  dsimp only [Pt.U, Pt.locs, Pt.cells, Pt.slots] at X' e1 e2 h1 h2 h3 st
  subst h1; subst h2; subst h3
  exact ⟨v, (T.setVm vm₁).calling g' mk As.toArray, t, U', L, hT, X', hL, e1, e2, hq, st⟩
/-- a thing of a world lies in the heap -/
theorem vx_lt {D : va_G} {cl : List vw_C} {ws : va_W} {H1 : Heap} (h : va_P D cl ws H1) {k : Nat} {q : Nat × va_E} (hk : ws[k]? = some q) : q.1 < H1.size := (h k q hk).lt
end VXS
/-! ===== END ===== -/
/-! a throw that a method's own first row catches -/
theorem gy_find {e : Env} {s : State} {f : JFrame} {a : Addr} {meth : Method} {code : Code} {x : ExceptionTableEntry} {suf : List ExceptionTableEntry} {k : ClassId} {cell : Cell} (hm : s.vm.method? f.method = some meth) (hc : meth.code = some code) (hsplit : code.exceptionTable.toList = x :: suf) (hx : covers x f.pc = true) (h0 : x.catchType ≠ 0) (hl : s.vm.ClassLinks e.platform f.method.cls x.catchType k) (hcell : s.heap[a]? = some cell) (hobj : ∀ j, cell.vm ≠ .statics j) (hk : ∃ z, s.vm.classes[cell.cls]? = some z) (hkk : ∃ z, s.vm.classes[k]? = some z) (hfit : s.vm.assignable cell.cls k = true) (Q : Handler → Pre) (E : CtlPost) (d : Bool) (acts : List Action) :
    wp (findHandler f a) Q E e d acts s ↔ Q (.found x.handlerPc) d acts (s.setVm (s.vm.noted f.method.cls x.catchType (.cls k))) := by
  rw [Jvm.W.findHandler_eq hm hc, hsplit]
  simp only [covers] at hx
  obtain ⟨ha, ht⟩ := (resolveClass_links e.toSetting hl).op (op := VmOp.resolveClass f.method.cls x.catchType) rfl
  have hal : s.vm.Alike (s.vm.noted f.method.cls x.catchType (.cls k)) := (Vm.Alike.refl s.vm).noted _ _ _
  obtain ⟨z1, hz1⟩ := hk
  obtain ⟨z2, hz2⟩ := hkk
  obtain ⟨y1, hy1, -⟩ := hal.2.2 _ _ hz1
  obtain ⟨y2, hy2, -⟩ := hal.2.2 _ _ hz2
  have hfit9 : (s.vm.noted f.method.cls x.catchType (.cls k)).assignable cell.cls k = true := by rw [hal.assignable]; exact hfit
  simp [findHandler.go, hx, h0, ha, ht, hcell, hobj, hy1, hy2, hfit9, VmOp.dirties, VmOp.acts]
theorem gy_go {tb : Tables} {e : Env} {s target : State} {g : JFrame} {c : Code} {below : List Frame} {a : Addr} (h : At s g.method c below) {pc : Nat} {vm9 : Vm}
    (hfind : ∀ (Q : Handler → Pre) (E : CtlPost) (d : Bool) (acts : List Action), wp (findHandler g a) Q E e d acts ((s.setTop g).pushFrame (.throwing a)) ↔ Q (.found pc) d acts (((s.setTop g).pushFrame (.throwing a)).setVm vm9))
    (hrest : Steps tb e below ((s.setVm vm9).setTop { g with pc := pc, stack := [.ref a] }) target) : Steps tb e below ((s.setTop g).pushFrame (.throwing a)) target := by
  have hst : ∀ r : List Frame, (stepThrowing e ((s.setTop g).pushFrame (.throwing a)) a (.java g :: r)).Is ((((s.setTop g).pushFrame (.throwing a)).setVm vm9).setFrames (.java { g with pc := pc, stack := [.ref a] } :: r)) [] := by
    intro r
    simp only [stepThrowing, searchFrame, vmDo]
    generalize hr : Sem.go _ e false [] ((s.setTop g).pushFrame (.throwing a)) = res
    obtain ⟨as, rfl, ha⟩ := Sem.eq_ok_of hr (a := Handler.found pc) (s' := ((s.setTop g).pushFrame (.throwing a)).setVm vm9) (acts' := []) (by simp [hfind _ _ _ _])
    exact ⟨rfl, ha⟩
  obtain ⟨hgo, hw⟩ := h.throwing a
  refine Steps.head hgo hw ?_
  rw [stepThread_throwing (frames_entered h.top _), (hst _).1]
  obtain ⟨g₀, hg⟩ := Option.isSome_iff_exists.mp h.top
  obtain ⟨r, hr⟩ := State.topJava?_eq_some.mp hg
  have hr9 : (s.setVm vm9).frames = .java g₀ :: r := hr
  have hsw : ∀ (u : State) (F G : List Frame), ((u.setFrames F).setVm vm9).setFrames G = (u.setVm vm9).setFrames G := fun u F G => by
    have h1 : (u.setFrames F).setVm vm9 = (u.setVm vm9).setFrames F := rfl
    rw [h1, State.setFrames_setFrames]
  rw [State.setTop_of_frames _ hr9] at hrest
  rw [hr, List.tail_cons, State.pushFrame, hsw, State.setTop_of_frames _ hr, hsw]
  exact hrest
/-- caught by the first row of this method's table -/
theorem vx_catch {p : Program} {l : Launch} {e : Env} {R : Room} {s : State} {m : MethodId} {args : Array Value} {below : List Frame} {meth : Method} {c : Code} {H : Heap} {locs : List Loc} {cells slots : Nat} {Q : State → Prop} {pc : Nat} {ls : Array Slot} {rest : List Value} {own name : String} {E : String} {ce : Cell} {q : Addr} (hown : s.vm.findClass own = some m.cls) (x : ExceptionTableEntry) (suf : List ExceptionTableEntry) (hsplit : c.exceptionTable.toList = x :: suf)
    (hx : covers x pc = true) (h0 : x.catchType ≠ 0) (hlink : (Cond.classLink own x.catchType name).before args s = true) (hcast : (Cond.castable E name).before args s = true) (hcell : H[q]? = some ce) (hv : ce.vm = .none) (hcl : s.vm.findClass E = some ce.cls)
    (kk : W p l e R s m args below meth c H locs cells slots Q (F0 m x.handlerPc ls [.ref q])) : vx_W p l e R s m args below meth c H locs cells slots Q (F0 m pc ls rest) q := by
  intro T hT X
  have hpl : e.platform.magicAccessors = ({} : Platform).magicAccessors := by rw [X.admits.platform]
  obtain ⟨c3, c4, hc3, hc4, hasg⟩ := Cond.castable_spec hcast
  cases Option.some.inj (hc3.symm.trans hcl)
  obtain ⟨c5, hc5, hcl5⟩ := Cond.classLink_spec hown hlink e.platform hpl
  cases Option.some.inj (hc4.symm.trans hc5)
  obtain ⟨k9, h9, -⟩ := Vm.findClass_spec hcl
  obtain ⟨dk, _, _, kt, hd, _, _, _, _, hkt, _, hopen⟩ := hcl5.here
  obtain ⟨y9, hy9, -⟩ := X.warmed.alike.2.2 _ _ h9
  obtain ⟨yt, hyt, -⟩ := X.warmed.alike.2.2 _ _ hkt
  have hfind := fun Q E d acts => gy_find (e := e) (s := (T.setTop (F0 m pc ls rest)).pushFrame (.throwing q)) (f := F0 m pc ls rest) (a := q) (meth := meth) (code := c) (x := x) (suf := suf) (k := c4) (cell := ce) X.method' X.code hsplit hx h0 (X.warmed.classLinks hcl5) (by show T.heap[q]? = some ce; rw [hT]; exact hcell) (fun j => by rw [hv]; exact fun h => by cases h) ⟨y9, hy9⟩ ⟨yt, hyt⟩ (by show T.vm.assignable _ _ = true; rw [X.warmed.alike.assignable]; exact hasg) Q E d acts
  obtain ⟨t, a1, b1⟩ := kk (T.setVm (T.vm.noted m.cls x.catchType (.cls c4))) hT (X.noted (X.warmed.noted hd hopen (State.rightAt_cls hcl5)))
  exact ⟨t, gy_go X.here hfind a1, b1⟩
end
section
/-! THE LAYER: the heap's picture is two functions of numbers: a cell's number and a place in it (field or element) give what stands there; the shape (classes, references, lengths) is a table. -/
/-- the words that may be handed on -/
def gx_G : List Cond := lw_tbl.filter goodWord
theorem gx_mem (i : Nat) {w : Cond} (h : lw_tbl[i]? = some w) (g : goodWord w = true) : w ∈ gx_G := List.mem_filter.mpr ⟨List.mem_of_getElem? h, g⟩
theorem gx_mems (ws : List Cond) (ps : List Nat) (hp : ws = ps.filterMap (fun i => lw_tbl[i]?)) (h : ws.all goodWord = true) : ∀ w ∈ ws, w ∈ gx_G := by
  intro w hw
  have h1 := List.all_eq_true.mp h w hw
  rw [hp] at hw
  obtain ⟨i, -, hi⟩ := List.mem_filterMap.mp hw
  exact gx_mem i hi h1
theorem gx_good {w : Cond} (h : w ∈ gx_G) : (w.onTables && w.keeps) = true ∨ ∃ ty, w = .arrayClass ty := good_of_word (List.mem_filter.mp h).2
abbrev gI : Type := Nat → Nat → Int32
abbrev gJ : Type := Nat → Nat → Int64
/-- an object: its class's number, its fields (a number; a null; a reference to a cell); an array: its kind (0 int, 1 long, 2 boolean, 3 Scene), its length, its references -/
abbrev gD : Type := (Nat × List (Option (Option Nat))) ⊕ (Nat × Nat × List (Option Nat))
/-- the tables' numbers, the addresses of the text constants and of their bytes; the array classes; the address of cell 0 -/
abbrev gE : Type := (va_G × (Nat → Nat) × (Nat → Nat)) × (Nat → ClassId) × Nat
def up2 (σ : gI) (c k : Nat) (v : Int32) : gI := fun c' k' => if c' = c ∧ k' = k then v else σ c' k'
def upJ (τ : gJ) (c k : Nat) (v : Int64) : gJ := fun c' k' => if c' = c ∧ k' = k then v else τ c' k'
def gx_v (b : Nat) (x : Int32) : Option (Option Nat) → Value
  | none => .int x
  | some none => .null
  | some (some j) => .ref (b + j)
def gx_fv (b : Nat) (f : Nat → Int32) : Nat → List (Option (Option Nat)) → List Value
  | _, [] => []
  | k, d :: r => gx_v b (f k) d :: gx_fv b f (k + 1) r
def gx_cell (E : gE) (σ : gI) (τ : gJ) (c : Nat) : gD → va_E
  | .inl (ci, fds) => .inr (ci, gx_fv E.2.2 (σ c) 0 fds)
  | .inr (0, n, _) => .inl (E.2.1 0, n, .inl (σ c))
  | .inr (1, n, _) => .inl (E.2.1 1, n, .inr (.inl (τ c)))
  | .inr (2, n, _) => .inl (E.2.1 2, n, .inl (σ c))
  | .inr (_, n, rs) => .inl (E.2.1 3, n, .inr (.inr (.inr (.inr (fun i => (rs[i]?.getD none).map (fun j => E.2.2 + j))))))
def gx_wf (E : gE) (σ : gI) (τ : gJ) : Nat → List gD → va_W
  | _, [] => []
  | c, d :: r => (E.2.2 + c, gx_cell E σ τ c d) :: gx_wf E σ τ (c + 1) r
def gx_w (tb : List gD) (E : gE) (σ : gI) (τ : gJ) : va_W := gx_wf E σ τ 0 tb
theorem gx_wf_at (E : gE) (σ : gI) (τ : gJ) : ∀ (tb : List gD) (c k : Nat), (gx_wf E σ τ c tb)[k]? = tb[k]?.map (fun d => (E.2.2 + (c + k), gx_cell E σ τ (c + k) d))
  | [], c, k => by simp [gx_wf]
  | d :: r, c, 0 => by simp [gx_wf]
  | d :: r, c, k + 1 => by
    have h := gx_wf_at E σ τ r (c + 1) k
    simp only [gx_wf, List.getElem?_cons_succ, h]
    rw [show c + 1 + k = c + (k + 1) by omega]
theorem gx_at {tb : List gD} {E : gE} {σ : gI} {τ : gJ} {c : Nat} {d : gD} (h : tb[c]? = some d) : (gx_w tb E σ τ)[c]? = some (E.2.2 + c, gx_cell E σ τ c d) := by
  have h1 := gx_wf_at E σ τ tb 0 c
  rw [h, Nat.zero_add] at h1
  exact h1
theorem gx_wf_len (E : gE) (σ : gI) (τ : gJ) : ∀ (tb : List gD) (c : Nat), (gx_wf E σ τ c tb).length = tb.length
  | [], c => rfl
  | d :: r, c => by simp [gx_wf, gx_wf_len E σ τ r (c + 1)]
theorem gx_wf_app (E : gE) (σ : gI) (τ : gJ) : ∀ (tb t2 : List gD) (c : Nat), gx_wf E σ τ c (tb ++ t2) = gx_wf E σ τ c tb ++ gx_wf E σ τ (c + tb.length) t2
  | [], t2, c => by simp [gx_wf]
  | d :: r, t2, c => by
    simp only [List.cons_append, gx_wf, List.length_cons, gx_wf_app E σ τ r t2 (c + 1)]
    rw [show c + 1 + r.length = c + (r.length + 1) by omega]
theorem gx_w_push (E : gE) (σ : gI) (τ : gJ) (tb : List gD) (d : gD) : gx_w (tb ++ [d]) E σ τ = gx_w tb E σ τ ++ [(E.2.2 + tb.length, gx_cell E σ τ tb.length d)] := by
  unfold gx_w
  rw [gx_wf_app, Nat.zero_add]
  rfl
theorem gx_w_set {tb : List gD} {E : gE} {σ σ' : gI} {τ τ' : gJ} {c : Nat} {d' : gD} (hc : c < tb.length) (ho : ∀ c' d1, c' ≠ c → gx_cell E σ' τ' c' d1 = gx_cell E σ τ c' d1) :
    (gx_w tb E σ τ).set c (E.2.2 + c, gx_cell E σ' τ' c d') = gx_w (tb.set c d') E σ' τ' := by
  apply List.ext_getElem?
  intro k
  have h1 := gx_wf_at E σ τ tb 0 k
  have h2 := gx_wf_at E σ' τ' (tb.set c d') 0 k
  rw [Nat.zero_add] at h1 h2
  have hl : c < (gx_w tb E σ τ).length := by unfold gx_w; rw [gx_wf_len]; exact hc
  by_cases hk : k = c
  · subst hk
    rw [List.getElem?_set_self hl]
    unfold gx_w
    rw [h2, List.getElem?_set_self hc]
    rfl
  · rw [List.getElem?_set_ne (Ne.symm hk)]
    unfold gx_w
    rw [h1, h2, List.getElem?_set_ne (Ne.symm hk)]
    cases tb[k]? with
    | none => rfl
    | some d1 => simp only [Option.map_some]; rw [ho k d1 hk]
theorem gx_set_same {α : Type} {l : List α} {c : Nat} {d : α} (h : l[c]? = some d) : l.set c d = l := by
  apply List.ext_getElem?
  intro k
  by_cases hk : k = c
  · subst hk
    rw [List.getElem?_set_self (List.getElem?_eq_some_iff.mp h).1, h]
  · rw [List.getElem?_set_ne (Ne.symm hk)]
theorem gx_fv_at (b : Nat) (f : Nat → Int32) : ∀ (fds : List (Option (Option Nat))) (c k : Nat), (gx_fv b f c fds)[k]? = fds[k]?.map (fun d => gx_v b (f (c + k)) d)
  | [], c, k => by simp [gx_fv]
  | d :: r, c, 0 => by simp [gx_fv]
  | d :: r, c, k + 1 => by
    have h := gx_fv_at b f r (c + 1) k
    simp only [gx_fv, List.getElem?_cons_succ, h]
    rw [show c + 1 + k = c + (k + 1) by omega]
theorem gx_fv_len (b : Nat) (f : Nat → Int32) : ∀ (fds : List (Option (Option Nat))) (c : Nat), (gx_fv b f c fds).length = fds.length
  | [], c => rfl
  | d :: r, c => by simp [gx_fv, gx_fv_len b f r (c + 1)]
theorem gx_fv_set (b : Nat) (f g : Nat → Int32) (fds : List (Option (Option Nat))) (k : Nat) (d : Option (Option Nat)) (hk : k < fds.length) (hg : ∀ j, j ≠ k → g j = f j) : (gx_fv b f 0 fds).set k (gx_v b (g k) d) = gx_fv b g 0 (fds.set k d) := by
  apply List.ext_getElem?
  intro j
  have hl : k < (gx_fv b f 0 fds).length := by rw [gx_fv_len]; exact hk
  by_cases hj : j = k
  · subst hj
    rw [List.getElem?_set_self hl, gx_fv_at, List.getElem?_set_self hk, Nat.zero_add]
    rfl
  · rw [List.getElem?_set_ne (Ne.symm hj), gx_fv_at, gx_fv_at, List.getElem?_set_ne (Ne.symm hj), Nat.zero_add, hg j hj]
theorem gx_cell_other {E : gE} {σ : gI} {τ : gJ} {c k : Nat} {v : Int32} (c' : Nat) (d : gD) (h : c' ≠ c) : gx_cell E (up2 σ c k v) τ c' d = gx_cell E σ τ c' d := by
  have h1 : up2 σ c k v c' = σ c' := by funext j; simp [up2, h]
  rcases d with ⟨ci, fds⟩ | ⟨n, m, rs⟩
  · simp only [gx_cell, h1]
  · match n with
    | 0 => simp only [gx_cell, h1]
    | 1 => rfl
    | 2 => simp only [gx_cell, h1]
    | n + 3 => rfl
theorem gx_cell_otherJ {E : gE} {σ : gI} {τ : gJ} {c k : Nat} {v : Int64} (c' : Nat) (d : gD) (h : c' ≠ c) : gx_cell E σ (upJ τ c k v) c' d = gx_cell E σ τ c' d := by
  have h1 : upJ τ c k v c' = τ c' := by funext j; simp [upJ, h]
  rcases d with ⟨ci, fds⟩ | ⟨n, m, rs⟩
  · rfl
  · match n with
    | 0 => rfl
    | 1 => simp only [gx_cell, h1]
    | 2 => rfl
    | n + 3 => rfl
theorem up2_upd (σ : gI) (c k : Nat) (v : Int32) : up2 σ c k v c = upd (σ c) k v := by
  funext j; by_cases h : j = k <;> simp [up2, upd, h]
theorem upJ_upd (τ : gJ) (c k : Nat) (v : Int64) : upJ τ c k v c = vp_updL (τ c) k v := by
  funext j; by_cases h : j = k <;> simp [upJ, vp_updL, h]
/-- the addresses that a method may change -/
def gx_A (n : Nat) (b sz : Nat) : Nat → Prop := fun q => (b ≤ q ∧ q < b + n) ∨ sz ≤ q
def gx_ty (E : gE) : List (ClassId × FieldType) := [(E.2.1 0, .int), (E.2.1 1, .long), (E.2.1 2, .boolean), (E.2.1 3, .object "DownTheGutter$Scene")]
abbrev gx_P (tb : List gD) (E : gE) (σ : gI) (τ : gJ) (H : Heap) : Prop := va_P E.1.1 vwCl (gx_w tb E σ τ) H
/-- what lies below cell 0 and stays: the text constants, statics that are read -/
def gx_ss : List (String × Nat × String × List Int32) := [(RX8, 65, "gdfrmik", [103, 100, 102, 114, 109, 105, 107]), (RX5, 75, "pmwibcnf", [112, 109, 119, 105, 98, 99, 110, 102]), (RX5, 101, "+-*/<>=", [43, 45, 42, 47, 60, 62, 61]), (RX2, 47, "tpnc", [116, 112, 110, 99]), (RX11, 142, "no such place", [110, 111, 32, 115, 117, 99, 104, 32, 112, 108, 97, 99, 101]), (RX11, 170, "a place has no such number", [97, 32, 112, 108, 97, 99, 101, 32, 104, 97, 115, 32, 110, 111, 32, 115, 117, 99, 104, 32, 110, 117, 109, 98, 101, 114]), (RX11, 173, "no such thing", [110, 111, 32, 115, 117, 99, 104, 32, 116, 104, 105, 110, 103]), (RX11, 196, "a thing has no such number", [97, 32, 116, 104, 105, 110, 103, 32, 104, 97, 115, 32, 110, 111, 32, 115, 117, 99, 104, 32, 110, 117, 109, 98, 101, 114]), (RX11, 424, "the row has no such number", [116, 104, 101, 32, 114, 111, 119, 32, 104, 97, 115, 32, 110, 111, 32, 115, 117, 99, 104, 32, 110, 117, 109, 98, 101, 114]), (RX12, 192, "gdfrmik", [103, 100, 102, 114, 109, 105, 107]), (RX12, 181, "abcdefghijkl", [97, 98, 99, 100, 101, 102, 103, 104, 105, 106, 107, 108]), (RX12, 197, "0123456789", [48, 49, 50, 51, 52, 53, 54, 55, 56, 57]), (RJ1, 151, "", []), (RJ2, 295, "", []), (RX12, 223, "0123", [48, 49, 50, 51]), (RX12, 241, "pmwibcnf", [112, 109, 119, 105, 98, 99, 110, 102]), (RX12, 246, "<>=", [60, 62, 61]), (RX12, 248, "+-", [43, 45]), (RX12, 250, "*/", [42, 47]), (RX12, 361, "tpnc", [116, 112, 110, 99]), (RX12, 363, "123456789", [49, 50, 51, 52, 53, 54, 55, 56, 57])]
def gx_B (E : gE) : Nat → Prop := fun q => E.2.2 ≤ q
def gx_Z (E : gE) (U : State) (H : Heap) : Prop := (∀ (i : Nat) (q : String × Nat × String × List Int32), gx_ss[i]? = some q → vk_S 1 [q.2.2.2.length] [q.2.2.2] (fun _ => E.1.2.1 i) (fun _ => E.1.2.2 i) (gx_B E) U H ∧ vk_R q.1 q.2.1 q.2.2.1 (E.1.2.1 i) U) ∧ va_Z "java/lang/String" "COMPACT_STRINGS" "Z" (.int 1) (gx_B E) U H ∧ vx_Zq Bundle.tN "UNASSIGNED_STACK" Bundle.steD (gx_B E) U H ∧ vx_Zq Bundle.tN "SUPPRESSED_SENTINEL" Bundle.listD (gx_B E) U H ∧ E.2.2 ≤ H.size
theorem gx_Z.warm {E : gE} {s U : State} {H : Heap} (hW : s.WarmedH U.vm) (h : gx_Z E s H) : gx_Z E U H :=
  ⟨fun i q hi => ⟨vk_S.moved hW.alike (h.1 i q hi).1, vk_R.warm hW (h.1 i q hi).2⟩, va_Z.moved hW.alike h.2.1, vx_Zq.moved hW.alike h.2.2.1, vx_Zq.moved hW.alike h.2.2.2.1, h.2.2.2.2⟩
theorem gx_Z.same {E : gE} {s U : State} {H : Heap} (hV : U.vm = s.vm) (h : gx_Z E s H) : gx_Z E U H := by
  have hA : s.vm.Alike U.vm := by rw [hV]; exact Vm.Alike.refl _
  exact ⟨fun i q hi => ⟨vk_S.moved hA (h.1 i q hi).1, vk_R.same hV (h.1 i q hi).2⟩, va_Z.moved hA h.2.1, vx_Zq.moved hA h.2.2.1, vx_Zq.moved hA h.2.2.2.1, h.2.2.2.2⟩
theorem gx_Z.kept {E : gE} {U : State} {H H1 : Heap} (h : gx_Z E U H) (hq : ∀ a : Nat, a < H.size → ¬ gx_B E a → H1[a]? = H[a]?) (hz : H.size ≤ H1.size) : gx_Z E U H1 :=
  ⟨fun i q hi => ⟨vk_S.kept (h.1 i q hi).1 hq, (h.1 i q hi).2⟩, va_Z.kept h.2.1 hq, vx_Zq.kept h.2.2.1 hq, vx_Zq.kept h.2.2.2.1 hq, Nat.le_trans h.2.2.2.2 hz⟩
def gx_K (E : gE) (U : State) : Prop := va_K E.1.1 vwCl (gx_ty E) U ∧ gx_Z E U U.heap
theorem gx_D {tb : List gD} {E : gE} {σ : gI} {τ : gJ} {sz : Nat} : va_D (gx_A tb.length E.2.2 sz) (gx_w tb E σ τ) := by
  have key : ∀ (k : Nat) (q : Nat × va_E), (gx_w tb E σ τ)[k]? = some q → q.1 = E.2.2 + k ∧ k < tb.length := by
    intro k q h
    have h1 := gx_wf_at E σ τ tb 0 k
    unfold gx_w at h
    rw [h1] at h
    cases hk : tb[k]? with
    | none => rw [hk] at h; cases h
    | some d =>
      rw [hk] at h
      simp only [Option.map_some, Option.some.injEq] at h
      subst h
      exact ⟨by simp, (List.getElem?_eq_some_iff.mp hk).1⟩
  refine ⟨fun i j x y hi hj hxy => ?_, fun k q hk => ?_⟩
  · have h1 := (key i x hi).1
    have h2 := (key j y hj).1
    omega
  · obtain ⟨h1, h2⟩ := key k q hk
    exact Or.inl ⟨by omega, by omega⟩
/-- the world in a method's frame: the picture, and what changed since its start -/
def gx_W (tb : List gD) (n0 : Nat) (E : gE) (s : State) (σ : gI) (τ : gJ) (H : Heap) (locs : List Loc) : Prop := gx_P tb E σ τ H ∧ va_S (gx_A n0 E.2.2 s.heap.size) s.heap H locs
/-- the world's cells are all among those that the method may change -/
def gx_Ok (tb : List gD) (n0 : Nat) (E : gE) (s : State) : Prop := ∀ k, k < tb.length → gx_A n0 E.2.2 s.heap.size (E.2.2 + k)
theorem gx_ok {tb : List gD} {E : gE} {s : State} : gx_Ok tb tb.length E s := fun k h => Or.inl ⟨by omega, by omega⟩
theorem gx_okc {tb : List gD} {n0 : Nat} {E : gE} {s : State} (h : s.heap.size = E.2.2 + n0) : gx_Ok tb n0 E s := fun k _ => by
  by_cases hk : k < n0
  · exact Or.inl ⟨by omega, by omega⟩
  · exact Or.inr (by omega)
/-- a class of the tables: its number, name, fields -/
def gx_C (ci : Nat) (C : String) (T : u_T) (N : Nat) : Prop := vwCl[ci]? = some (C, T, N) ∧ (∀ w ∈ u_ws C T N, w ∈ gx_G) ∧ (∀ a, a < N → ∀ b, b < N → a ≠ b → (T a).2.1 ≠ (T b).2.1) ∧ ∃ ty : Nat → FieldType, ∀ k, k < N → parseFieldDescriptor (T k).2.2.1 = some (ty k)
theorem gx_K.move {tb : List gD} {n0 : Nat} {E : gE} {s U : State} {σ : gI} {τ : gJ} {H : Heap} {locs : List Loc} (hW : s.WarmedH U.vm) (hU : U.heap = H) (hw : gx_W tb n0 E s σ τ H locs) (hK : gx_K E s) : gx_K E U := by
  refine ⟨va_K.moved hW.alike hK.1, ?_⟩
  rw [hU]
  refine gx_Z.warm hW (gx_Z.kept hK.2 (fun a h1 h2 => hw.2.2.1 a h1 (fun h3 => ?_)) hw.2.1)
  rcases h3 with h3 | h3
  · exact h2 h3.1
  · omega
section GX
variable {p : Program} {l : Launch} {e : Env} {R : Room} {s : State} {m : MethodId} {args : Array Value} {below : List Frame} {meth : Method} {c : Code} {H : Heap} {locs : List Loc} {cells slots : Nat} {Q : State → Prop}
variable {cc : ByteArray} {pc nL : Nat} {ls : Array Slot} {rest : List Value} {own : String} {tb : List gD} {n0 : Nat} {E : gE} {σ : gI} {τ : gJ}
theorem gx_top {x v : Int32} (h : x = v) (k : W p l e R s m args below meth c H locs cells slots Q (F0 m pc ls (.int v :: rest))) : W p l e R s m args below meth c H locs cells slots Q (F0 m pc ls (.int x :: rest)) := h ▸ k
theorem gx_topl {x v : Int64} (h : x = v) (k : W p l e R s m args below meth c H locs cells slots Q (F0 m pc ls (.long v :: rest))) : W p l e R s m args below meth c H locs cells slots Q (F0 m pc ls (.long x :: rest)) := h ▸ k
/-- a number in a field -/
theorem gx_get (S : CallFix p m c cc nL s args gx_G own) (hK : gx_K E s) (hw : gx_W tb n0 E s σ τ H locs) {q ci : Nat} {fds : List (Option (Option Nat))} (hT : tb[q]? = some (.inl (ci, fds))) {C : String} {T : u_T} {N : Nat} (hC : gx_C ci C T N) (k : Nat) (hk : k < N) (hf : fds[k]? = some none) {index : Nat} {ref : String} (hlink : Cond.fieldLink own index ref (T k).2.1 (T k).2.2.1 ∈ gx_G) (href : (T k).1 = ref) (hdg : decode cc pc = .ok (.getfield index, 3))
    (kk : W p l e R s m args below meth c H locs cells slots Q (F0 m (pc + 3) ls (.int (σ q k) :: rest))) : W p l e R s m args below meth c H locs cells slots Q (F0 m pc ls (.ref (E.2.2 + q) :: rest)) := by
  obtain ⟨hx, hb, hml, hown, hts⟩ := S
  subst href
  refine va_get (v := .int (σ q k)) (ci := ci) hx hb hts hC.2.1 hown hK.1 hw.1 q (gx_at hT) hC.1 k hk (hts _ hlink) (fun _ h9 => h9) ?_ hdg kk
  rw [gx_fv_at, hf, Nat.zero_add]
  rfl
/-- a reference in a field -/
theorem gx_getr (S : CallFix p m c cc nL s args gx_G own) (hK : gx_K E s) (hw : gx_W tb n0 E s σ τ H locs) {q ci j : Nat} {fds : List (Option (Option Nat))} (hT : tb[q]? = some (.inl (ci, fds))) {C : String} {T : u_T} {N : Nat} (hC : gx_C ci C T N) (k : Nat) (hk : k < N) (hf : fds[k]? = some (some (some j))) {index : Nat} {ref : String} (hlink : Cond.fieldLink own index ref (T k).2.1 (T k).2.2.1 ∈ gx_G) (href : (T k).1 = ref) (hdg : decode cc pc = .ok (.getfield index, 3))
    (kk : W p l e R s m args below meth c H locs cells slots Q (F0 m (pc + 3) ls (.ref (E.2.2 + j) :: rest))) : W p l e R s m args below meth c H locs cells slots Q (F0 m pc ls (.ref (E.2.2 + q) :: rest)) := by
  obtain ⟨hx, hb, hml, hown, hts⟩ := S
  subst href
  refine va_get (v := .ref (E.2.2 + j)) (ci := ci) hx hb hts hC.2.1 hown hK.1 hw.1 q (gx_at hT) hC.1 k hk (hts _ hlink) (fun _ h9 => h9) ?_ hdg kk
  rw [gx_fv_at, hf, Nat.zero_add]
  rfl
theorem gx_len {α : Type} {l : List α} {c : Nat} {d : α} (h : l[c]? = some d) : c < l.length := (List.getElem?_eq_some_iff.mp h).1
theorem gx_Dn (hA : gx_Ok tb n0 E s) : va_D (gx_A n0 E.2.2 s.heap.size) (gx_w tb E σ τ) := by
  refine ⟨(gx_D (sz := s.heap.size)).1, fun k1 q1 h1 => ?_⟩
  have h2 := gx_wf_at E σ τ tb 0 k1
  unfold gx_w at h1
  rw [h2] at h1
  cases hk : tb[k1]? with
  | none => rw [hk] at h1; cases h1
  | some d =>
    rw [hk] at h1
    simp only [Option.map_some, Option.some.injEq, Nat.zero_add] at h1
    subst h1
    exact hA k1 (List.getElem?_eq_some_iff.mp hk).1
/-- a number into a field -/
theorem gx_put (S : CallFix p m c cc nL s args gx_G own) (hK : gx_K E s) (hA : gx_Ok tb n0 E s) (hw : gx_W tb n0 E s σ τ H locs) {q ci : Nat} {fds : List (Option (Option Nat))} (hT : tb[q]? = some (.inl (ci, fds))) {C : String} {T : u_T} {N : Nat} (hC : gx_C ci C T N) (k : Nat) (hk : k < N) (hf : fds[k]? = some none) {index : Nat} {ref : String} (hlink : Cond.fieldLink own index ref (T k).2.1 (T k).2.2.1 ∈ gx_G) (href : (T k).1 = ref) (hfin : (T k).2.2.2 = false) {ty : FieldType} {v : Int32} (hd : parseFieldDescriptor (T k).2.2.1 = some ty) (hn : narrow ty (.int v) = .int v) (hfit : fits ty (.int v) = true) (hdg : decode cc pc = .ok (.putfield index, 3))
    (kk : ∀ (H1 : Heap) (locs1 : List Loc), gx_W tb n0 E s (up2 σ q k v) τ H1 locs1 → W p l e R s m args below meth c H1 locs1 cells slots Q (F0 m (pc + 3) ls rest)) : W p l e R s m args below meth c H locs cells slots Q (F0 m pc ls (.int v :: .ref (E.2.2 + q) :: rest)) := by
  obtain ⟨hx, hb, hml, hown, hts⟩ := S
  subst href
  obtain ⟨ty0, hty⟩ := hC.2.2.2
  have hk1 := gx_len hf
  refine va_put (ci := ci) (v := .int v) hx hb hts hC.2.1 ty0 hty hC.2.2.1 hown hK.1 hw.1 (gx_Dn hA) hw.2 q (gx_at hT) hC.1 k hk (hts _ hlink) (fun _ h9 => h9) hfin hd hn hfit (by rw [gx_fv_len]; exact hk1) hdg (fun H1 locs1 hP _ hS => kk H1 locs1 ⟨?_, hS⟩)
  have e1 : gx_cell E (up2 σ q k v) τ q (.inl (ci, fds)) = .inr (ci, (gx_fv E.2.2 (σ q) 0 fds).set k (.int v)) := by
    show (Sum.inr (ci, gx_fv E.2.2 (up2 σ q k v q) 0 fds) : va_E) = _
    have h2 := gx_fv_set E.2.2 (σ q) (up2 σ q k v q) fds k none hk1 (fun j hj => by simp [up2, hj])
    rw [gx_set_same hf] at h2
    rw [← h2]
    simp [gx_v, up2]
  rw [← e1, gx_w_set (gx_len hT) (fun c' d1 h => gx_cell_other c' d1 h), gx_set_same hT] at hP
  exact hP
theorem gx_in {i : Int32} {n j : Nat} (h : i.toNatClampNeg = j) (h0 : ¬ i < 0) (hj : j < n) : vp_in i n := by
  intro h1
  rcases h1 with h1 | h1
  · exact h0 h1
  · omega
/-- an element of an int array -/
theorem gx_iald (S : CallFix p m c cc nL s args gx_G own) (hK : gx_K E s) (hw : gx_W tb n0 E s σ τ H locs) {q n : Nat} {rs : List (Option Nat)} (hT : tb[q]? = some (.inr (0, n, rs))) {i : Int32} (j : Nat) (hj : i.toNatClampNeg = j) (hin : vp_in i n) (hdg : decode cc pc = .ok (.iaload, 1))
    (kk : W p l e R s m args below meth c H locs cells slots Q (F0 m (pc + 1) ls (.int (σ q j) :: rest))) : W p l e R s m args below meth c H locs cells slots Q (F0 m pc ls (.int i :: .ref (E.2.2 + q) :: rest)) := by
  subst hj
  exact va_iald S.1 S.2.1 hK.1 hw.1 q 0 (gx_at hT) rfl hin hdg kk
theorem gx_iast (S : CallFix p m c cc nL s args gx_G own) (hK : gx_K E s) (hA : gx_Ok tb n0 E s) (hw : gx_W tb n0 E s σ τ H locs) {q n : Nat} {rs : List (Option Nat)} (hT : tb[q]? = some (.inr (0, n, rs))) {i x : Int32} (j : Nat) (hj : i.toNatClampNeg = j) (hin : vp_in i n) (hdg : decode cc pc = .ok (.iastore, 1))
    (kk : ∀ (H1 : Heap) (locs1 : List Loc), gx_W tb n0 E s (up2 σ q j x) τ H1 locs1 → W p l e R s m args below meth c H1 locs1 cells slots Q (F0 m (pc + 1) ls rest)) : W p l e R s m args below meth c H locs cells slots Q (F0 m pc ls (.int x :: .int i :: .ref (E.2.2 + q) :: rest)) := by
  subst hj
  refine va_iast S.1 S.2.1 hK.1 hw.1 (gx_Dn hA) hw.2 q 0 (gx_at hT) rfl hin hdg (fun H1 locs1 hP _ hS => kk H1 locs1 ⟨?_, hS⟩)
  have e1 : gx_cell E (up2 σ q i.toNatClampNeg x) τ q (.inr (0, n, rs)) = .inl (E.2.1 0, n, .inl (upd (σ q) i.toNatClampNeg x)) := by
    show (Sum.inl (E.2.1 0, n, Sum.inl (up2 σ q i.toNatClampNeg x q)) : va_E) = _
    rw [up2_upd]
  rw [← e1, gx_w_set (gx_len hT) (fun c' d1 h => gx_cell_other c' d1 h), gx_set_same hT] at hP
  exact hP
/-- an element of a boolean array -/
theorem gx_zald (S : CallFix p m c cc nL s args gx_G own) (hK : gx_K E s) (hw : gx_W tb n0 E s σ τ H locs) {q n : Nat} {rs : List (Option Nat)} (hT : tb[q]? = some (.inr (2, n, rs))) {i : Int32} (j : Nat) (hj : i.toNatClampNeg = j) (hin : vp_in i n) (hdg : decode cc pc = .ok (.baload, 1))
    (kk : W p l e R s m args below meth c H locs cells slots Q (F0 m (pc + 1) ls (.int (σ q j) :: rest))) : W p l e R s m args below meth c H locs cells slots Q (F0 m pc ls (.int i :: .ref (E.2.2 + q) :: rest)) := by
  subst hj
  exact va_zald S.1 S.2.1 hK.1 hw.1 q 2 (gx_at hT) rfl hin hdg kk
theorem gx_zast (S : CallFix p m c cc nL s args gx_G own) (hK : gx_K E s) (hA : gx_Ok tb n0 E s) (hw : gx_W tb n0 E s σ τ H locs) {q n : Nat} {rs : List (Option Nat)} (hT : tb[q]? = some (.inr (2, n, rs))) {i x : Int32} (j : Nat) (hj : i.toNatClampNeg = j) (hin : vp_in i n) (hx : vp_nar .boolean x = x) (hdg : decode cc pc = .ok (.bastore, 1))
    (kk : ∀ (H1 : Heap) (locs1 : List Loc), gx_W tb n0 E s (up2 σ q j x) τ H1 locs1 → W p l e R s m args below meth c H1 locs1 cells slots Q (F0 m (pc + 1) ls rest)) : W p l e R s m args below meth c H locs cells slots Q (F0 m pc ls (.int x :: .int i :: .ref (E.2.2 + q) :: rest)) := by
  subst hj
  refine va_zast S.1 S.2.1 hK.1 hw.1 (gx_Dn hA) hw.2 q 2 (gx_at hT) rfl hin hdg (fun H1 locs1 hP _ hS => kk H1 locs1 ⟨?_, hS⟩)
  rw [hx] at hP
  have e1 : gx_cell E (up2 σ q i.toNatClampNeg x) τ q (.inr (2, n, rs)) = .inl (E.2.1 2, n, .inl (upd (σ q) i.toNatClampNeg x)) := by
    show (Sum.inl (E.2.1 2, n, Sum.inl (up2 σ q i.toNatClampNeg x q)) : va_E) = _
    rw [up2_upd]
  rw [← e1, gx_w_set (gx_len hT) (fun c' d1 h => gx_cell_other c' d1 h), gx_set_same hT] at hP
  exact hP
/-- an element of a long array -/
theorem gx_lald (S : CallFix p m c cc nL s args gx_G own) (hK : gx_K E s) (hw : gx_W tb n0 E s σ τ H locs) {q n : Nat} {rs : List (Option Nat)} (hT : tb[q]? = some (.inr (1, n, rs))) {i : Int32} (j : Nat) (hj : i.toNatClampNeg = j) (hin : vp_in i n) (hdg : decode cc pc = .ok (.laload, 1))
    (kk : W p l e R s m args below meth c H locs cells slots Q (F0 m (pc + 1) ls (.long (τ q j) :: rest))) : W p l e R s m args below meth c H locs cells slots Q (F0 m pc ls (.int i :: .ref (E.2.2 + q) :: rest)) := by
  subst hj
  exact va_lald S.1 S.2.1 hK.1 hw.1 q 1 (gx_at hT) rfl hin hdg kk
theorem gx_last (S : CallFix p m c cc nL s args gx_G own) (hK : gx_K E s) (hA : gx_Ok tb n0 E s) (hw : gx_W tb n0 E s σ τ H locs) {q n : Nat} {rs : List (Option Nat)} (hT : tb[q]? = some (.inr (1, n, rs))) {i : Int32} {x : Int64} (j : Nat) (hj : i.toNatClampNeg = j) (hin : vp_in i n) (hdg : decode cc pc = .ok (.lastore, 1))
    (kk : ∀ (H1 : Heap) (locs1 : List Loc), gx_W tb n0 E s σ (upJ τ q j x) H1 locs1 → W p l e R s m args below meth c H1 locs1 cells slots Q (F0 m (pc + 1) ls rest)) : W p l e R s m args below meth c H locs cells slots Q (F0 m pc ls (.long x :: .int i :: .ref (E.2.2 + q) :: rest)) := by
  subst hj
  refine va_last S.1 S.2.1 hK.1 hw.1 (gx_Dn hA) hw.2 q 1 (gx_at hT) rfl hin hdg (fun H1 locs1 hP _ hS => kk H1 locs1 ⟨?_, hS⟩)
  have e1 : gx_cell E σ (upJ τ q i.toNatClampNeg x) q (.inr (1, n, rs)) = .inl (E.2.1 1, n, .inr (.inl (vp_updL (τ q) i.toNatClampNeg x))) := by
    show (Sum.inl (E.2.1 1, n, Sum.inr (Sum.inl (upJ τ q i.toNatClampNeg x q))) : va_E) = _
    rw [upJ_upd]
  rw [← e1, gx_w_set (gx_len hT) (fun c' d1 h => gx_cell_otherJ c' d1 h), gx_set_same hT] at hP
  exact hP
/-- an element of an array of references -/
theorem gx_aald (S : CallFix p m c cc nL s args gx_G own) (hK : gx_K E s) (hw : gx_W tb n0 E s σ τ H locs) {q n r : Nat} {rs : List (Option Nat)} (hT : tb[q]? = some (.inr (3, n, rs))) {i : Int32} (j : Nat) (hj : i.toNatClampNeg = j) (hin : vp_in i n) (hr : rs[j]? = some (some r)) (hdg : decode cc pc = .ok (.aaload, 1))
    (kk : W p l e R s m args below meth c H locs cells slots Q (F0 m (pc + 1) ls (.ref (E.2.2 + r) :: rest))) : W p l e R s m args below meth c H locs cells slots Q (F0 m pc ls (.int i :: .ref (E.2.2 + q) :: rest)) := by
  subst hj
  refine va_aldq S.1 S.2.1 hK.1 hw.1 q 3 (gx_at hT) rfl hin hdg ?_
  rw [hr]
  exact kk
end GX
/-- the room of a method that makes nothing: by the depth of its calls -/
def gx_rm (d : Nat) : Room := { frames := d, cells := 0, slots := 0, locals := 40 * d }
/-- a contract: on this picture the method returns, and tells of its answer and of the picture behind it -/
def gx_Pre (tb : List gD) (E : gE) (σ : gI) (τ : gJ) (sz : Nat) (U : State) : Prop := U.heap.size = sz ∧ gx_P tb E σ τ U.heap ∧ gx_K E U
def gx_Mi (l : Launch) (y : MethodName) (cc : ByteArray) (mL : Nat) (ret : Option FieldType) (d : Nat) (tb : List gD) (E : gE) (σ : gI) (τ : gJ) (av : List Value) (post : Int32 → gI → gJ → Prop) : Prop :=
  ∀ sz : Nat, Met l y (Cond.code y cc mL ret :: gx_G) (gx_rm d) (va_Pc av (gx_Pre tb E σ τ sz)) (va_Qi (fun r (u : gI × gJ) => post r u.1 u.2) (fun u t => gx_P tb E u.1 u.2 t.heap) (gx_A tb.length E.2.2 sz)) 0 0 (gx_A tb.length E.2.2 sz)
def gx_Ml (l : Launch) (y : MethodName) (cc : ByteArray) (mL : Nat) (ret : Option FieldType) (d : Nat) (tb : List gD) (E : gE) (σ : gI) (τ : gJ) (av : List Value) (post : Int64 → gI → gJ → Prop) : Prop :=
  ∀ sz : Nat, Met l y (Cond.code y cc mL ret :: gx_G) (gx_rm d) (va_Pc av (gx_Pre tb E σ τ sz)) (va_Ql (fun r (u : gI × gJ) => post r u.1 u.2) (fun u t => gx_P tb E u.1 u.2 t.heap) (gx_A tb.length E.2.2 sz)) 0 0 (gx_A tb.length E.2.2 sz)
def gx_Mv (l : Launch) (y : MethodName) (cc : ByteArray) (mL : Nat) (ret : Option FieldType) (d : Nat) (tb : List gD) (E : gE) (σ : gI) (τ : gJ) (av : List Value) (post : gI → gJ → Prop) : Prop :=
  ∀ sz : Nat, Met l y (Cond.code y cc mL ret :: gx_G) (gx_rm d) (va_Pc av (gx_Pre tb E σ τ sz)) (va_Qv (fun (u : gI × gJ) => post u.1 u.2) (fun u t => gx_P tb E u.1 u.2 t.heap) (gx_A tb.length E.2.2 sz)) 0 0 (gx_A tb.length E.2.2 sz)
theorem gx_blind {av : List Value} {tb : List gD} {E : gE} {σ : gI} {τ : gJ} {sz : Nat} : FrameBlind (va_Pc av (gx_Pre tb E σ τ sz)) := by
  intro a U g mk q
  obtain ⟨q0, q1, qP, qK⟩ := q
  exact ⟨q0, q1, qP, ⟨va_K.moved (u := U) (U := U.calling g mk a) (Vm.Alike.refl U.vm) qK.1, gx_Z.same (s := U) (U := U.calling g mk a) rfl qK.2⟩⟩
section GB
variable {l : Launch} {y : MethodName} {cc : ByteArray} {mL d : Nat} {ret : Option FieldType} {tb : List gD} {E : gE} {σ : gI} {τ : gJ} {av : List Value}
/-- what a body has at its entry -/
theorem gx_begin {Pc : Array Value → State → Prop} {Qc : Nat → Array Value → State → Outcome → State → Prop} {rm : Room} {mc ms : Nat} {A : Nat → Nat → Prop} (hy : plainName y.cls = true) (hPc : ∀ a U, Pc a U → a = av.toArray) (hlen : (lg_sl av).length ≤ mL)
    {sz : Nat} (hsz : ∀ a U, Pc a U → U.heap.size = sz)
    (body : ∀ (p : Program) (e : Env) (s : State) (m : MethodId) (below : List Frame) (meth : Method) (c : Code), CallFix p m c cc mL s av.toArray gx_G y.cls → meth.sig.returnType = ret → meth.locks = false → meth.name = y.name → Pc av.toArray s → s.heap.size = sz → ∀ ls : Array Slot, lv_has ls mL (lv_args 0 av) →
      W p l e rm s m av.toArray below meth c s.heap [] 0 0 (MQ below (Qc s.heap.size) av.toArray s mc ms (A s.heap.size)) (F0 m 0 ls [])) : Met l y (Cond.code y cc mL ret :: gx_G) rm Pc (Qc sz) mc ms (A sz) := by
  refine Met.ofW (cc := cc) (maxL := mL) (ret := ret) hy rfl ?_
  intro p e s m args below meth c s₁ B hml hv
  obtain rfl := hPc _ _ hv
  have hz := hsz _ _ hv
  subst hz
  have hts := atoms_spec (ws := Cond.code y cc mL ret :: gx_G) B.pre
  have hl := lv_entry av (n := mL) hlen
  rw [lg_entry_eq]
  exact body p e s m below meth c ⟨B.exec, B.bytes, hml, findClass_of_methodNamed B.named, fun w hw => hts w (List.mem_cons_of_mem _ hw)⟩ B.returns B.notSynchronized (name_of_methodNamed B.named B.method).1 hv rfl _ hl
theorem gx_bi {post : Int32 → gI → gJ → Prop} (hy : plainName y.cls = true) (hlen : (lg_sl av).length ≤ mL)
    (body : ∀ (p : Program) (e : Env) (s : State) (m : MethodId) (below : List Frame) (meth : Method) (c : Code), CallFix p m c cc mL s av.toArray gx_G y.cls → meth.sig.returnType = ret → meth.locks = false → gx_K E s → gx_W tb tb.length E s σ τ s.heap [] → ∀ ls : Array Slot, lv_has ls mL (lv_args 0 av) →
      W p l e (gx_rm d) s m av.toArray below meth c s.heap [] 0 0 (MQ below (va_Qi (fun r (u : gI × gJ) => post r u.1 u.2) (fun u t => gx_P tb E u.1 u.2 t.heap) (gx_A tb.length E.2.2 s.heap.size)) av.toArray s 0 0 (gx_A tb.length E.2.2 s.heap.size)) (F0 m 0 ls [])) : gx_Mi l y cc mL ret d tb E σ τ av post := by
  intro sz
  refine gx_begin (Qc := fun sz => va_Qi (fun r (u : gI × gJ) => post r u.1 u.2) (fun u t => gx_P tb E u.1 u.2 t.heap) (gx_A tb.length E.2.2 sz)) (A := fun sz => gx_A tb.length E.2.2 sz) hy (fun a U h => h.1) hlen (fun a U h => h.2.1) ?_
  intro p e s m below meth c S hr hlk _ hv _ ls hl
  exact body p e s m below meth c S hr hlk hv.2.2.2 ⟨hv.2.2.1, va_S.rf⟩ ls hl
theorem gx_bl {post : Int64 → gI → gJ → Prop} (hy : plainName y.cls = true) (hlen : (lg_sl av).length ≤ mL)
    (body : ∀ (p : Program) (e : Env) (s : State) (m : MethodId) (below : List Frame) (meth : Method) (c : Code), CallFix p m c cc mL s av.toArray gx_G y.cls → meth.sig.returnType = ret → meth.locks = false → gx_K E s → gx_W tb tb.length E s σ τ s.heap [] → ∀ ls : Array Slot, lv_has ls mL (lv_args 0 av) →
      W p l e (gx_rm d) s m av.toArray below meth c s.heap [] 0 0 (MQ below (va_Ql (fun r (u : gI × gJ) => post r u.1 u.2) (fun u t => gx_P tb E u.1 u.2 t.heap) (gx_A tb.length E.2.2 s.heap.size)) av.toArray s 0 0 (gx_A tb.length E.2.2 s.heap.size)) (F0 m 0 ls [])) : gx_Ml l y cc mL ret d tb E σ τ av post := by
  intro sz
  refine gx_begin (Qc := fun sz => va_Ql (fun r (u : gI × gJ) => post r u.1 u.2) (fun u t => gx_P tb E u.1 u.2 t.heap) (gx_A tb.length E.2.2 sz)) (A := fun sz => gx_A tb.length E.2.2 sz) hy (fun a U h => h.1) hlen (fun a U h => h.2.1) ?_
  intro p e s m below meth c S hr hlk _ hv _ ls hl
  exact body p e s m below meth c S hr hlk hv.2.2.2 ⟨hv.2.2.1, va_S.rf⟩ ls hl
theorem gx_bv {post : gI → gJ → Prop} (hy : plainName y.cls = true) (hlen : (lg_sl av).length ≤ mL)
    (body : ∀ (p : Program) (e : Env) (s : State) (m : MethodId) (below : List Frame) (meth : Method) (c : Code), CallFix p m c cc mL s av.toArray gx_G y.cls → meth.sig.returnType = ret → meth.locks = false → gx_K E s → gx_W tb tb.length E s σ τ s.heap [] → ∀ ls : Array Slot, lv_has ls mL (lv_args 0 av) →
      W p l e (gx_rm d) s m av.toArray below meth c s.heap [] 0 0 (MQ below (va_Qv (fun (u : gI × gJ) => post u.1 u.2) (fun u t => gx_P tb E u.1 u.2 t.heap) (gx_A tb.length E.2.2 s.heap.size)) av.toArray s 0 0 (gx_A tb.length E.2.2 s.heap.size)) (F0 m 0 ls [])) : gx_Mv l y cc mL ret d tb E σ τ av post := by
  intro sz
  refine gx_begin (Qc := fun sz => va_Qv (fun (u : gI × gJ) => post u.1 u.2) (fun u t => gx_P tb E u.1 u.2 t.heap) (gx_A tb.length E.2.2 sz)) (A := fun sz => gx_A tb.length E.2.2 sz) hy (fun a U h => h.1) hlen (fun a U h => h.2.1) ?_
  intro p e s m below meth c S hr hlk _ hv _ ls hl
  exact body p e s m below meth c S hr hlk hv.2.2.2 ⟨hv.2.2.1, va_S.rf⟩ ls hl
end GB
section GR
variable {p : Program} {l : Launch} {e : Env} {R : Room} {s : State} {m : MethodId} {args : Array Value} {below : List Frame} {meth : Method} {c : Code} {H : Heap} {locs : List Loc} {Q : State → Prop}
variable {cc : ByteArray} {pc nL : Nat} {ls : Array Slot} {rest : List Value} {own : String} {tb : List gD} {E : gE} {σ : gI} {τ : gJ}
theorem gx_ri {post : Int32 → gI → gJ → Prop} {v : Int32} {ty : FieldType} (S : CallFix p m c cc nL s args gx_G own) (hr : meth.sig.returnType = some ty) (hlk : meth.locks = false) (hw : gx_W tb tb.length E s σ τ H locs) (hn : narrow ty (.int v) = .int v) (hdg : decode cc pc = .ok (.ireturn, 1)) (hp : post v σ τ) :
    W p l e R s m args below meth c H locs 0 0 (MQ below (va_Qi (fun r (u : gI × gJ) => post r u.1 u.2) (fun u t => gx_P tb E u.1 u.2 t.heap) (gx_A tb.length E.2.2 s.heap.size)) args s 0 0 (gx_A tb.length E.2.2 s.heap.size)) (F0 m pc ls [.int v]) :=
  W.zret S.1 S.2.1 hr hn (fun t ht _ => ⟨⟨v, (σ, τ), rfl, hp, by subst ht; exact hw.1⟩, hw.2.F ht⟩) hw.2.2.2 hdg hlk
theorem gx_rl {post : Int64 → gI → gJ → Prop} {v : Int64} (S : CallFix p m c cc nL s args gx_G own) (hr : meth.sig.returnType = some .long) (hlk : meth.locks = false) (hw : gx_W tb tb.length E s σ τ H locs) (hdg : decode cc pc = .ok (.lreturn, 1)) (hp : post v σ τ) :
    W p l e R s m args below meth c H locs 0 0 (MQ below (va_Ql (fun r (u : gI × gJ) => post r u.1 u.2) (fun u t => gx_P tb E u.1 u.2 t.heap) (gx_A tb.length E.2.2 s.heap.size)) args s 0 0 (gx_A tb.length E.2.2 s.heap.size)) (F0 m pc ls [.long v]) :=
  W.lret S.1 S.2.1 hr (fun t ht _ => ⟨⟨v, (σ, τ), rfl, hp, by subst ht; exact hw.1⟩, hw.2.F ht⟩) hw.2.2.2 hdg hlk
theorem gx_rv {post : gI → gJ → Prop} (S : CallFix p m c cc nL s args gx_G own) (hr : meth.sig.returnType = none) (hlk : meth.locks = false) (hw : gx_W tb tb.length E s σ τ H locs) (hdg : decode cc pc = .ok (.return_, 1)) (hp : post σ τ) :
    W p l e R s m args below meth c H locs 0 0 (MQ below (va_Qv (fun (u : gI × gJ) => post u.1 u.2) (fun u t => gx_P tb E u.1 u.2 t.heap) (gx_A tb.length E.2.2 s.heap.size)) args s 0 0 (gx_A tb.length E.2.2 s.heap.size)) (F0 m pc ls []) :=
  W.vret S.1 S.2.1 hr (fun t ht _ => ⟨⟨(σ, τ), rfl, hp, by subst ht; exact hw.1⟩, hw.2.F ht⟩) hw.2.2.2 hdg hlk
end GR
/-- the words of a virtual call, of a static call -/
def gx_Wv (own : String) (idx : Nat) (y : MethodName) (cc : ByteArray) (mL : Nat) (ret : Option FieldType) (n : Nat) : Prop := (Cond.methodLink own idx y ∈ gx_G ∧ Cond.instanceMethod y ∈ gx_G ∧ Cond.selects y.cls y y ∈ gx_G ∧ Cond.initialized y.cls ∈ gx_G ∧ Cond.code y cc mL ret ∈ gx_G) ∧ y.cls ≠ "java/lang/invoke/MethodHandle" ∧ y.cls ≠ "java/lang/invoke/VarHandle" ∧ (parseMethodDescriptor y.desc).map (fun d => d.parameters.length) = some n
def gx_Ws (own : String) (idx : Nat) (y : MethodName) (cc : ByteArray) (mL : Nat) (ret : Option FieldType) (n : Nat) : Prop := (Cond.methodLink own idx y ∈ gx_G ∧ Cond.static y ∈ gx_G ∧ Cond.initialized y.cls ∈ gx_G ∧ Cond.code y cc mL ret ∈ gx_G) ∧ y.cls ≠ "java/lang/invoke/MethodHandle" ∧ y.cls ≠ "java/lang/invoke/VarHandle" ∧ (parseMethodDescriptor y.desc).map (fun d => d.parameters.length) = some n
theorem gx_goodV {own : String} {idx : Nat} {y : MethodName} {cc : ByteArray} {mL : Nat} {ret : Option FieldType} {n : Nat} (w : gx_Wv own idx y cc mL ret n) : GoodIn gx_G (wsV own idx y.cls y (Cond.code y cc mL ret :: gx_G)) := by
  obtain ⟨⟨h1, h2, h3, h4, h5⟩, -⟩ := w
  intro w hw
  simp only [wsV, List.cons_append, List.nil_append, List.mem_cons] at hw
  rcases hw with rfl | rfl | rfl | rfl | rfl | hw
  · exact ⟨h1, gx_good h1⟩
  · exact ⟨h2, gx_good h2⟩
  · exact ⟨h3, gx_good h3⟩
  · exact ⟨h4, gx_good h4⟩
  · exact ⟨h5, gx_good h5⟩
  · exact ⟨hw, gx_good hw⟩
theorem gx_goodS {own : String} {idx : Nat} {y : MethodName} {cc : ByteArray} {mL : Nat} {ret : Option FieldType} {n : Nat} (w : gx_Ws own idx y cc mL ret n) : GoodIn gx_G (va_wsS own idx y (Cond.code y cc mL ret :: gx_G)) := by
  obtain ⟨⟨h1, h2, h4, h5⟩, -⟩ := w
  intro w hw
  simp only [va_wsS, List.cons_append, List.nil_append, List.mem_cons] at hw
  rcases hw with rfl | rfl | rfl | rfl | hw
  · exact ⟨h1, gx_good h1⟩
  · exact ⟨h2, gx_good h2⟩
  · exact ⟨h4, gx_good h4⟩
  · exact ⟨h5, gx_good h5⟩
  · exact ⟨hw, gx_good hw⟩
section GK
variable {p : Program} {l : Launch} {e : Env} {R : Room} {s : State} {m : MethodId} {args : Array Value} {below : List Frame} {meth : Method} {c : Code} {H : Heap} {locs : List Loc} {cells slots : Nat} {Q : State → Prop}
variable {cc cc' : ByteArray} {pc nL mL d n idx n0 : Nat} {ls : Array Slot} {st rest As : List Value} {own : String} {tb : List gD} {E : gE} {σ : gI} {τ : gJ} {y : MethodName} {ret : Option FieldType}
theorem gx_sub {q : Nat} (hA : gx_Ok tb n0 E s) (hw : gx_W tb n0 E s σ τ H locs) : gx_A tb.length E.2.2 H.size q → gx_A n0 E.2.2 s.heap.size q := by
  intro h
  rcases h with h | h
  · have h1 := hA (q - E.2.2) (by omega)
    rwa [show E.2.2 + (q - E.2.2) = q by omega] at h1
  · exact Or.inr (Nat.le_trans hw.2.1 h)
theorem gx_cVi {post : Int32 → gI → gJ → Prop} {q : Nat} (S : CallFix p m c cc nL s args gx_G own) (hK : gx_K E s) (hA : gx_Ok tb n0 E s) (hw : gx_W tb n0 E s σ τ H locs) (M : gx_Mi l y cc' mL ret d tb E σ τ (.ref (E.2.2 + q) :: As) post) (w : gx_Wv own idx y cc' mL ret n) {ci N : Nat} {T : u_T} {fds : List (Option (Option Nat))} (hT : tb[q]? = some (.inl (ci, fds))) (hC : gx_C ci y.cls T N) (hR : d + 1 ≤ R.frames ∧ 8 + (mL + 11) + 40 * d ≤ R.locals) (hn : As.length = n) (hls : ls.size = nL) (hst : st = As.reverse ++ .ref (E.2.2 + q) :: rest) (hW : (rest.map fun v => v.category).sum ≤ 8) (hf : cells + 0 ≤ R.cells ∧ slots + 0 ≤ R.slots) (hdg : decode cc pc = .ok (.invokevirtual idx, 3))
    (kk : ∀ (r : Int32) (σ' : gI) (τ' : gJ) (H1 : Heap) (locs1 : List Loc), post r σ' τ' → gx_W tb n0 E s σ' τ' H1 locs1 → W p l e R s m args below meth c H1 locs1 cells slots Q (F0 m (pc + 3) ls (.int r :: rest))) : W p l e R s m args below meth c H locs cells slots Q (F0 m pc ls st) := by
  subst hst
  refine va_calli (va_runV (As := As) (rest := rest) (b := E.2.2 + q) S (M H.size) (cwV n S.2.2.2.2 (gx_goodV w) rfl rfl rfl ⟨rfl, w.2⟩ hR) ⟨gx_blind, va_recv hK.1 hw.1 hC.1 (gx_at hT), fun U hU hW9 => ⟨rfl, by rw [hU], by rw [hU]; exact hw.1, gx_K.move hW9 hU hw hK⟩⟩ rfl hn hls rfl (lv_room hW) hdg hf) hw.2 (fun q1 _ h => gx_sub hA hw h) (fun q1 h => gx_sub hA hw h) ?_
  intro r u t H1 locs1 ht hvm hp hB hz hk hS
  exact kk r u.1 u.2 H1 locs1 hp ⟨by rw [← ht]; exact hB, hS⟩
theorem gx_cSi {post : Int32 → gI → gJ → Prop} (S : CallFix p m c cc nL s args gx_G own) (hK : gx_K E s) (hA : gx_Ok tb n0 E s) (hw : gx_W tb n0 E s σ τ H locs) (M : gx_Mi l y cc' mL ret d tb E σ τ As post) (w : gx_Ws own idx y cc' mL ret n) (hR : d + 1 ≤ R.frames ∧ 8 + (mL + 11) + 40 * d ≤ R.locals) (hn : As.length = n) (hls : ls.size = nL) (hst : st = As.reverse ++ rest) (hW : (rest.map fun v => v.category).sum ≤ 8) (hf : cells + 0 ≤ R.cells ∧ slots + 0 ≤ R.slots) (hdg : decode cc pc = .ok (.invokestatic idx, 3))
    (kk : ∀ (r : Int32) (σ' : gI) (τ' : gJ) (H1 : Heap) (locs1 : List Loc), post r σ' τ' → gx_W tb n0 E s σ' τ' H1 locs1 → W p l e R s m args below meth c H1 locs1 cells slots Q (F0 m (pc + 3) ls (.int r :: rest))) : W p l e R s m args below meth c H locs cells slots Q (F0 m pc ls st) := by
  subst hst
  refine va_calli (va_runS (As := As) (rest := rest) S (M H.size) (va_cwS n S.2.2.2.2 (gx_goodS w) rfl rfl rfl w.2 hR) ⟨gx_blind, fun U hU hW9 => ⟨rfl, by rw [hU], by rw [hU]; exact hw.1, gx_K.move hW9 hU hw hK⟩⟩ rfl hn hls rfl (lv_room hW) hdg hf) hw.2 (fun q1 _ h => gx_sub hA hw h) (fun q1 h => gx_sub hA hw h) ?_
  intro r u t H1 locs1 ht hvm hp hB hz hk hS
  exact kk r u.1 u.2 H1 locs1 hp ⟨by rw [← ht]; exact hB, hS⟩
theorem gx_cVl {post : Int64 → gI → gJ → Prop} {q : Nat} (S : CallFix p m c cc nL s args gx_G own) (hK : gx_K E s) (hA : gx_Ok tb n0 E s) (hw : gx_W tb n0 E s σ τ H locs) (M : gx_Ml l y cc' mL ret d tb E σ τ (.ref (E.2.2 + q) :: As) post) (w : gx_Wv own idx y cc' mL ret n) {ci N : Nat} {T : u_T} {fds : List (Option (Option Nat))} (hT : tb[q]? = some (.inl (ci, fds))) (hC : gx_C ci y.cls T N) (hR : d + 1 ≤ R.frames ∧ 8 + (mL + 11) + 40 * d ≤ R.locals) (hn : As.length = n) (hls : ls.size = nL) (hst : st = As.reverse ++ .ref (E.2.2 + q) :: rest) (hW : (rest.map fun v => v.category).sum ≤ 8) (hf : cells + 0 ≤ R.cells ∧ slots + 0 ≤ R.slots) (hdg : decode cc pc = .ok (.invokevirtual idx, 3))
    (kk : ∀ (r : Int64) (σ' : gI) (τ' : gJ) (H1 : Heap) (locs1 : List Loc), post r σ' τ' → gx_W tb n0 E s σ' τ' H1 locs1 → W p l e R s m args below meth c H1 locs1 cells slots Q (F0 m (pc + 3) ls (.long r :: rest))) : W p l e R s m args below meth c H locs cells slots Q (F0 m pc ls st) := by
  subst hst
  refine va_calll (va_runV (As := As) (rest := rest) (b := E.2.2 + q) S (M H.size) (cwV n S.2.2.2.2 (gx_goodV w) rfl rfl rfl ⟨rfl, w.2⟩ hR) ⟨gx_blind, va_recv hK.1 hw.1 hC.1 (gx_at hT), fun U hU hW9 => ⟨rfl, by rw [hU], by rw [hU]; exact hw.1, gx_K.move hW9 hU hw hK⟩⟩ rfl hn hls rfl (lv_room hW) hdg hf) hw.2 (fun q1 _ h => gx_sub hA hw h) (fun q1 h => gx_sub hA hw h) ?_
  intro r u t H1 locs1 ht hvm hp hB hz hk hS
  exact kk r u.1 u.2 H1 locs1 hp ⟨by rw [← ht]; exact hB, hS⟩
theorem gx_cSl {post : Int64 → gI → gJ → Prop} (S : CallFix p m c cc nL s args gx_G own) (hK : gx_K E s) (hA : gx_Ok tb n0 E s) (hw : gx_W tb n0 E s σ τ H locs) (M : gx_Ml l y cc' mL ret d tb E σ τ As post) (w : gx_Ws own idx y cc' mL ret n) (hR : d + 1 ≤ R.frames ∧ 8 + (mL + 11) + 40 * d ≤ R.locals) (hn : As.length = n) (hls : ls.size = nL) (hst : st = As.reverse ++ rest) (hW : (rest.map fun v => v.category).sum ≤ 8) (hf : cells + 0 ≤ R.cells ∧ slots + 0 ≤ R.slots) (hdg : decode cc pc = .ok (.invokestatic idx, 3))
    (kk : ∀ (r : Int64) (σ' : gI) (τ' : gJ) (H1 : Heap) (locs1 : List Loc), post r σ' τ' → gx_W tb n0 E s σ' τ' H1 locs1 → W p l e R s m args below meth c H1 locs1 cells slots Q (F0 m (pc + 3) ls (.long r :: rest))) : W p l e R s m args below meth c H locs cells slots Q (F0 m pc ls st) := by
  subst hst
  refine va_calll (va_runS (As := As) (rest := rest) S (M H.size) (va_cwS n S.2.2.2.2 (gx_goodS w) rfl rfl rfl w.2 hR) ⟨gx_blind, fun U hU hW9 => ⟨rfl, by rw [hU], by rw [hU]; exact hw.1, gx_K.move hW9 hU hw hK⟩⟩ rfl hn hls rfl (lv_room hW) hdg hf) hw.2 (fun q1 _ h => gx_sub hA hw h) (fun q1 h => gx_sub hA hw h) ?_
  intro r u t H1 locs1 ht hvm hp hB hz hk hS
  exact kk r u.1 u.2 H1 locs1 hp ⟨by rw [← ht]; exact hB, hS⟩
theorem gx_cVv {post : gI → gJ → Prop} {q : Nat} (S : CallFix p m c cc nL s args gx_G own) (hK : gx_K E s) (hA : gx_Ok tb n0 E s) (hw : gx_W tb n0 E s σ τ H locs) (M : gx_Mv l y cc' mL ret d tb E σ τ (.ref (E.2.2 + q) :: As) post) (w : gx_Wv own idx y cc' mL ret n) {ci N : Nat} {T : u_T} {fds : List (Option (Option Nat))} (hT : tb[q]? = some (.inl (ci, fds))) (hC : gx_C ci y.cls T N) (hR : d + 1 ≤ R.frames ∧ 8 + (mL + 11) + 40 * d ≤ R.locals) (hn : As.length = n) (hls : ls.size = nL) (hst : st = As.reverse ++ .ref (E.2.2 + q) :: rest) (hW : (rest.map fun v => v.category).sum ≤ 8) (hf : cells + 0 ≤ R.cells ∧ slots + 0 ≤ R.slots) (hdg : decode cc pc = .ok (.invokevirtual idx, 3))
    (kk : ∀ (σ' : gI) (τ' : gJ) (H1 : Heap) (locs1 : List Loc), post σ' τ' → gx_W tb n0 E s σ' τ' H1 locs1 → W p l e R s m args below meth c H1 locs1 cells slots Q (F0 m (pc + 3) ls (rest))) : W p l e R s m args below meth c H locs cells slots Q (F0 m pc ls st) := by
  subst hst
  refine va_callv (va_runV (As := As) (rest := rest) (b := E.2.2 + q) S (M H.size) (cwV n S.2.2.2.2 (gx_goodV w) rfl rfl rfl ⟨rfl, w.2⟩ hR) ⟨gx_blind, va_recv hK.1 hw.1 hC.1 (gx_at hT), fun U hU hW9 => ⟨rfl, by rw [hU], by rw [hU]; exact hw.1, gx_K.move hW9 hU hw hK⟩⟩ rfl hn hls rfl (lv_room hW) hdg hf) hw.2 (fun q1 _ h => gx_sub hA hw h) (fun q1 h => gx_sub hA hw h) ?_
  intro u t H1 locs1 ht hvm hp hB hz hk hS
  exact kk u.1 u.2 H1 locs1 hp ⟨by rw [← ht]; exact hB, hS⟩
theorem gx_cSv {post : gI → gJ → Prop} (S : CallFix p m c cc nL s args gx_G own) (hK : gx_K E s) (hA : gx_Ok tb n0 E s) (hw : gx_W tb n0 E s σ τ H locs) (M : gx_Mv l y cc' mL ret d tb E σ τ As post) (w : gx_Ws own idx y cc' mL ret n) (hR : d + 1 ≤ R.frames ∧ 8 + (mL + 11) + 40 * d ≤ R.locals) (hn : As.length = n) (hls : ls.size = nL) (hst : st = As.reverse ++ rest) (hW : (rest.map fun v => v.category).sum ≤ 8) (hf : cells + 0 ≤ R.cells ∧ slots + 0 ≤ R.slots) (hdg : decode cc pc = .ok (.invokestatic idx, 3))
    (kk : ∀ (σ' : gI) (τ' : gJ) (H1 : Heap) (locs1 : List Loc), post σ' τ' → gx_W tb n0 E s σ' τ' H1 locs1 → W p l e R s m args below meth c H1 locs1 cells slots Q (F0 m (pc + 3) ls (rest))) : W p l e R s m args below meth c H locs cells slots Q (F0 m pc ls st) := by
  subst hst
  refine va_callv (va_runS (As := As) (rest := rest) S (M H.size) (va_cwS n S.2.2.2.2 (gx_goodS w) rfl rfl rfl w.2 hR) ⟨gx_blind, fun U hU hW9 => ⟨rfl, by rw [hU], by rw [hU]; exact hw.1, gx_K.move hW9 hU hw hK⟩⟩ rfl hn hls rfl (lv_room hW) hdg hf) hw.2 (fun q1 _ h => gx_sub hA hw h) (fun q1 h => gx_sub hA hw h) ?_
  intro u t H1 locs1 ht hvm hp hB hz hk hS
  exact kk u.1 u.2 H1 locs1 hp ⟨by rw [← ht]; exact hB, hS⟩
theorem gx_max {x v : Int32} {w : Int32} (S : CallFix p m c cc nL s args gx_G own) (hls : ls.size = nL) (hl : Cond.methodLink own idx Lib.Math.max.name ∈ gx_G) (hs : Cond.static Lib.Math.max.name ∈ gx_G) (hi : Cond.initialized "java/lang/Math" ∈ gx_G) (hc : Cond.code Lib.Math.max.name Lib.Math.max.code 2 (some .int) ∈ gx_G) (hR : 1 ≤ R.frames ∧ (rest.map fun v => v.category).sum + 13 ≤ R.locals) (hf : cells ≤ R.cells ∧ slots ≤ R.slots) (hdg : decode cc pc = .ok (.invokestatic idx, 3)) (hv : (if x < v then v else x) = w)
    (kk : W p l e R s m args below meth c H locs cells slots Q (F0 m (pc + 3) ls (.int w :: rest))) : W p l e R s m args below meth c H locs cells slots Q (F0 m pc ls (.int v :: .int x :: rest)) := by
  subst hv
  exact va_mmax S.1 S.2.1 (S.2.2.1.trans hls.symm) S.2.2.2.1 (S.2.2.2.2 _ hl) (S.2.2.2.2 _ hs) (S.2.2.2.2 _ hi) (S.2.2.2.2 _ hc) hR.1 hR.2 hf.1 hf.2 hdg kk
theorem gx_min {x v : Int32} {w : Int32} (S : CallFix p m c cc nL s args gx_G own) (hls : ls.size = nL) (hl : Cond.methodLink own idx Lib.Math.min.name ∈ gx_G) (hs : Cond.static Lib.Math.min.name ∈ gx_G) (hi : Cond.initialized "java/lang/Math" ∈ gx_G) (hc : Cond.code Lib.Math.min.name Lib.Math.min.code 2 (some .int) ∈ gx_G) (hR : 1 ≤ R.frames ∧ (rest.map fun v => v.category).sum + 13 ≤ R.locals) (hf : cells ≤ R.cells ∧ slots ≤ R.slots) (hdg : decode cc pc = .ok (.invokestatic idx, 3)) (hv : (if v < x then v else x) = w)
    (kk : W p l e R s m args below meth c H locs cells slots Q (F0 m (pc + 3) ls (.int w :: rest))) : W p l e R s m args below meth c H locs cells slots Q (F0 m pc ls (.int v :: .int x :: rest)) := by
  subst hv
  exact va_mmin S.1 S.2.1 (S.2.2.1.trans hls.symm) S.2.2.2.1 (S.2.2.2.2 _ hl) (S.2.2.2.2 _ hs) (S.2.2.2.2 _ hi) (S.2.2.2.2 _ hc) hR.1 hR.2 hf.1 hf.2 hdg kk
end GK
/-! MAKING: the cells come one behind the other -/
def gx_isNest : Cond → Bool
  | .methodLinkNest _ _ _ _ => true
  | _ => false
def gx_nest : List Cond := [Cond.methodLinkNest RX11 11 yX7_init RX11, Cond.methodLinkNest RX11 18 yX8_init RX11, Cond.methodLinkNest RX11 28 yX10_init RX11, Cond.methodLinkNest RX11 45 yX2_init RX11, Cond.methodLinkNest RX11 52 yX6_init RX11, Cond.methodLinkNest RX3 15 yX6_init RX11, Cond.methodLinkNest RX11 73 yX0_init RX11, Cond.methodLinkNest RX11 80 yX4_init RX11, Cond.methodLinkNest RX9 24 yX6_init RX11, Cond.methodLinkNest RX9 155 yX11_kitchenOf RX11]
theorem gx_nest_ok : gx_nest.all gx_isNest = true := by decide +kernel
/-- what only the makers need of the tables -/
def gx_N (U : State) : Prop := (∀ w ∈ gx_nest, va_Nw w U) ∧ va_AO "DownTheGutter$Scene" U
theorem gx_N.warm {s U : State} (hW : s.WarmedH U.vm) (h : gx_N s) : gx_N U := by
  refine ⟨fun w hw => ?_, va_AO.moved hW.alike h.2⟩
  have h1 := h.1 w hw
  have h2 : gx_isNest w = true := List.all_eq_true.mp gx_nest_ok w hw
  cases w <;> first | exact va_Nw.warmM hW h1 | (exfalso; revert h2; simp [gx_isNest])
theorem gx_N.same {s U : State} (hV : s.vm = U.vm) (h : gx_N s) : gx_N U := by
  refine ⟨fun w hw => ?_, va_AO.moved (by rw [hV]; exact Vm.Alike.refl _) h.2⟩
  have h1 := h.1 w hw
  have h2 : gx_isNest w = true := List.all_eq_true.mp gx_nest_ok w hw
  cases w <;> first | exact va_Nw.same rfl hV h1 | (exfalso; revert h2; simp [gx_isNest])
section GN
variable {p : Program} {l : Launch} {e : Env} {R : Room} {s : State} {m : MethodId} {args : Array Value} {below : List Frame} {meth : Method} {c : Code} {H : Heap} {locs : List Loc} {cells slots : Nat} {Q : State → Prop}
variable {cc cc' : ByteArray} {pc nL mL d n idx n0 : Nat} {ls : Array Slot} {st rest As : List Value} {own : String} {tb tb' : List gD} {E : gE} {σ σ' : gI} {τ : gJ} {y : MethodName}
theorem gx_grow {H1 : Heap} {D : gD} (hw : gx_W tb n0 E s σ τ H locs) (hz : H.size = E.2.2 + tb.length) (z1 : H1.size = H.size + 1) (o1 : ∀ q, q < H.size → H1[q]? = H[q]?) (hn : va_at E.1.1 vwCl (E.2.2 + tb.length, gx_cell E σ τ tb.length D) H1) : gx_W (tb ++ [D]) n0 E s σ τ H1 locs ∧ H1.size = E.2.2 + (tb ++ [D]).length := by
  refine ⟨⟨?_, Nat.le_trans hw.2.1 (by omega), fun q h1 h2 => (o1 q (Nat.lt_of_lt_of_le h1 hw.2.1)).trans (hw.2.2.1 q h1 h2), hw.2.2.2⟩, by simp; omega⟩
  show va_P E.1.1 vwCl (gx_w (tb ++ [D]) E σ τ) H1
  rw [gx_w_push]
  refine (hw.1.kept (fun k x hx => o1 x.1 ((hw.1 k x hx).lt))).app (fun k x hx => ?_)
  have hz : k < 1 := (List.getElem?_eq_some_iff.mp hx).1
  rw [show k = 0 by omega] at hx
  cases hx
  exact hn
/-- new -/
theorem gx_new (S : CallFix p m c cc nL s args gx_G own) (hK : gx_K E s) (hw : gx_W tb n0 E s σ τ H locs) (hz : H.size = E.2.2 + tb.length) {ci N : Nat} {C : String} {T : u_T} (hC : gx_C ci C T N) (ty : Nat → FieldType) (hty : ∀ k, k < N → parseFieldDescriptor (T k).2.2.1 = some (ty k)) (fds : List (Option (Option Nat))) (hfs : ∀ j, j < N → defaultValue (ty j) = vp_V (gx_fv E.2.2 (fun _ => 0) 0 fds) j) (h0 : σ tb.length = fun _ => 0) (hcl : Cond.classLink own idx C ∈ gx_G) (hin : Cond.instantiable C N ∈ gx_G) (hini : Cond.initialized C ∈ gx_G) (hf : cells + 1 ≤ R.cells ∧ slots + N ≤ R.slots) (hdg : decode cc pc = .ok (.new idx, 3))
    (kk : ∀ H1 : Heap, gx_W (tb ++ [(Sum.inl (ci, fds) : gD)]) n0 E s σ τ H1 locs → H1.size = E.2.2 + (tb ++ [(Sum.inl (ci, fds) : gD)]).length → W p l e R s m args below meth c H1 locs (cells + 1) (slots + N) Q (F0 m (pc + 3) ls (.ref (E.2.2 + tb.length) :: rest))) : W p l e R s m args below meth c H locs cells slots Q (F0 m pc ls rest) := by
  obtain ⟨hx, hb, hml, hown, hts⟩ := S
  have hKn := hK.1.1 ci _ hC.1
  refine W.newcK hx hb hown (hts _ hcl) (hts _ hin) (hts _ hini) rfl hdg hf.1 hf.2 hKn.2.1 rfl fun H1 kC hkC e1 z1 o1 => ?_
  have h9 := gx_grow (D := .inl (ci, fds)) hw hz z1 o1 ?_
  · rw [hz]
    exact kk H1 h9.1 h9.2
  · refine ⟨_, hC.1, ?_⟩
    rw [hz] at e1
    rw [h0]
    exact (u_born ty hts hC.2.1 hKn hkC e1 hty).to hfs
theorem gx_cyI (hK : gx_K E s) {cA : ClassId} {k : Nat} {ty : FieldType} (h : (gx_ty E)[k]? = some (E.2.1 k, ty)) (hn : va_RA s (E.2.1 k) ty → s.vm.findClass ("[" ++ ty.toString) = some (E.2.1 k)) (hA : s.vm.findClass ("[" ++ ty.toString) = some cA) : cA = E.2.1 k :=
  Option.some.inj (hA.symm.trans (hn (hK.1.2 k _ h).2))
/-- an array of numbers -/
theorem gx_newI (S : CallFix p m c cc nL s args gx_G own) (hK : gx_K E s) (hw : gx_W tb n0 E s σ τ H locs) (hz : H.size = E.2.2 + tb.length) {k : Int32} {N : Nat} (hn : ¬ k < 0) (hN : k.toNatClampNeg = N) (hby : N ≤ 100000) (h0 : σ tb.length = fun _ => 0) (har : Cond.arrayClass .int ∈ gx_G) (hf : cells + 1 ≤ R.cells ∧ slots + N ≤ R.slots) (hdg : decode cc pc = .ok (.newarray .int, 2))
    (kk : ∀ H1 : Heap, gx_W (tb ++ [(Sum.inr (0, N, []) : gD)]) n0 E s σ τ H1 locs → H1.size = E.2.2 + (tb ++ [(Sum.inr (0, N, []) : gD)]).length → W p l e R s m args below meth c H1 locs (cells + 1) (slots + N) Q (F0 m (pc + 2) ls (.ref (E.2.2 + tb.length) :: rest))) : W p l e R s m args below meth c H locs cells slots Q (F0 m pc ls (.int k :: rest)) := by
  obtain ⟨hx, hb, hml, hown, hts⟩ := S
  refine va_newaK hx hb (atype := .int) (hts _ har) rfl hdg rfl hn hN (by show N * 4 ≤ _; omega) hf.1 hf.2 rfl fun H1 cA e1 z1 o1 _ hNm => ?_
  obtain rfl := gx_cyI hK (k := 0) (ty := .int) rfl (fun h => h) hNm
  have h9 := gx_grow (D := .inr (0, N, [])) hw hz z1 o1 ?_
  · rw [hz]
    exact kk H1 h9.1 h9.2
  · rw [hz] at e1
    show H1[E.2.2 + tb.length]? = some (vp_cell _ (N, .inl (σ tb.length)))
    rw [h0, vp_cell_i]
    exact e1
theorem gx_newZ (S : CallFix p m c cc nL s args gx_G own) (hK : gx_K E s) (hw : gx_W tb n0 E s σ τ H locs) (hz : H.size = E.2.2 + tb.length) {k : Int32} {N : Nat} (hn : ¬ k < 0) (hN : k.toNatClampNeg = N) (hby : N ≤ 100000) (h0 : σ tb.length = fun _ => 0) (har : Cond.arrayClass .boolean ∈ gx_G) (hf : cells + 1 ≤ R.cells ∧ slots + N ≤ R.slots) (hdg : decode cc pc = .ok (.newarray .boolean, 2))
    (kk : ∀ H1 : Heap, gx_W (tb ++ [(Sum.inr (2, N, []) : gD)]) n0 E s σ τ H1 locs → H1.size = E.2.2 + (tb ++ [(Sum.inr (2, N, []) : gD)]).length → W p l e R s m args below meth c H1 locs (cells + 1) (slots + N) Q (F0 m (pc + 2) ls (.ref (E.2.2 + tb.length) :: rest))) : W p l e R s m args below meth c H locs cells slots Q (F0 m pc ls (.int k :: rest)) := by
  obtain ⟨hx, hb, hml, hown, hts⟩ := S
  refine va_newaK hx hb (atype := .boolean) (hts _ har) rfl hdg rfl hn hN (by show N * 1 ≤ _; omega) hf.1 hf.2 rfl fun H1 cA e1 z1 o1 _ hNm => ?_
  obtain rfl := gx_cyI hK (k := 2) (ty := .boolean) rfl (fun h => h) hNm
  have h9 := gx_grow (D := .inr (2, N, [])) hw hz z1 o1 ?_
  · rw [hz]
    exact kk H1 h9.1 h9.2
  · rw [hz] at e1
    show H1[E.2.2 + tb.length]? = some (vp_cell _ (N, .inl (σ tb.length)))
    rw [h0, vp_cell_i]
    exact e1
theorem gx_newJ (S : CallFix p m c cc nL s args gx_G own) (hK : gx_K E s) (hw : gx_W tb n0 E s σ τ H locs) (hz : H.size = E.2.2 + tb.length) {k : Int32} {N : Nat} (hn : ¬ k < 0) (hN : k.toNatClampNeg = N) (hby : N ≤ 100000) (h0 : τ tb.length = fun _ => 0) (har : Cond.arrayClass .long ∈ gx_G) (hf : cells + 1 ≤ R.cells ∧ slots + N ≤ R.slots) (hdg : decode cc pc = .ok (.newarray .long, 2))
    (kk : ∀ H1 : Heap, gx_W (tb ++ [(Sum.inr (1, N, []) : gD)]) n0 E s σ τ H1 locs → H1.size = E.2.2 + (tb ++ [(Sum.inr (1, N, []) : gD)]).length → W p l e R s m args below meth c H1 locs (cells + 1) (slots + N) Q (F0 m (pc + 2) ls (.ref (E.2.2 + tb.length) :: rest))) : W p l e R s m args below meth c H locs cells slots Q (F0 m pc ls (.int k :: rest)) := by
  obtain ⟨hx, hb, hml, hown, hts⟩ := S
  refine va_newaK hx hb (atype := .long) (hts _ har) rfl hdg rfl hn hN (by show N * 8 ≤ _; omega) hf.1 hf.2 rfl fun H1 cA e1 z1 o1 _ hNm => ?_
  obtain rfl := gx_cyI hK (k := 1) (ty := .long) rfl (fun h => h) hNm
  have h9 := gx_grow (D := .inr (1, N, [])) hw hz z1 o1 ?_
  · rw [hz]
    exact kk H1 h9.1 h9.2
  · rw [hz] at e1
    show H1[E.2.2 + tb.length]? = some (vp_cell _ (N, .inr (.inl (τ tb.length))))
    rw [h0]
    exact e1
/-- a field is written in a maker: the table may change, the heap's size stays -/
theorem gx_putC (S : CallFix p m c cc nL s args gx_G own) (hK : gx_K E s) (hA : gx_Ok tb n0 E s) (hw : gx_W tb n0 E s σ τ H locs) {q ci : Nat} {fds : List (Option (Option Nat))} (hT : tb[q]? = some (.inl (ci, fds))) {C : String} {T : u_T} {N : Nat} (hC : gx_C ci C T N) (k : Nat) (hk : k < N) (hkf : k < fds.length) {ref : String} (hlink : Cond.fieldLink own idx ref (T k).2.1 (T k).2.2.1 ∈ gx_G) (href : (T k).1 = ref) (hfin : (T k).2.2.2 = false ∨ ((T k).2.2.2 = true ∧ meth.name = "<init>" ∧ (T k).1 = own)) {ty : FieldType} {v : Value} (hd : parseFieldDescriptor (T k).2.2.1 = some ty) (hn : narrow ty v = v) (hfit : fits ty v = true) (D' : gD) (hD' : gx_cell E σ' τ q D' = .inr (ci, (gx_fv E.2.2 (σ q) 0 fds).set k v)) (ho : ∀ c' d1, c' ≠ q → gx_cell E σ' τ c' d1 = gx_cell E σ τ c' d1) (hdg : decode cc pc = .ok (.putfield idx, 3))
    (kk : ∀ (H1 : Heap) (locs1 : List Loc), gx_W (tb.set q D') n0 E s σ' τ H1 locs1 → H1.size = H.size → W p l e R s m args below meth c H1 locs1 cells slots Q (F0 m (pc + 3) ls rest)) : W p l e R s m args below meth c H locs cells slots Q (F0 m pc ls (v :: .ref (E.2.2 + q) :: rest)) := by
  obtain ⟨hx, hb, hml, hown, hts⟩ := S
  subst href
  obtain ⟨ty0, hty⟩ := hC.2.2.2
  have hap := va_apart (own := own) hts hC.2.1 ty0 hty hC.2.2.1 hK.1 hC.1
  obtain ⟨r, h1, cell, q1, q2, q3, q4⟩ := hw.1 q _ (gx_at hT)
  have hr : r = (C, T, N) := Option.some.inj (h1.symm.trans hC.1)
  subst hr
  obtain ⟨hS, hfc, kC, hkC, hkind⟩ := hK.1.1 ci _ hC.1
  obtain ⟨cf, kf, fi, f, hi, hsl⟩ := hS k hk
  have hlay := hts _ (hC.2.1 _ (u_in_lay hk))
  have hst := (u_facts hfc hkC (u_lays hts hC.2.1 hk) hi).1
  have hl : k < (gx_fv E.2.2 (σ q) 0 fds).length := by rw [gx_fv_len]; exact hkf
  have fin : ∀ (H' : Heap) (L : List Loc), H'[E.2.2 + q]? = some (cell.setSlot f.slot v) → H'.size = H.size → (∀ q9, q9 ≠ E.2.2 + q → H'[q9]? = H[q9]?) → L = locs ++ [⟨E.2.2 + q, f.slot⟩] → W p l e R s m args below meth c H' L cells slots Q (F0 m (pc + 3) ls rest) := by
    intro H' L e1 e2 e3 eL
    subst eL
    rw [hsl] at e1
    refine kk H' _ ⟨?_, ?_⟩ e2
    · have hP := hw.1.set (gx_Dn hA) (gx_at hT) (e := .inr (ci, (gx_fv E.2.2 (σ q) 0 fds).set k v)) ⟨_, hC.1, t_OB.to (V := updV (vp_V (gx_fv E.2.2 (σ q) 0 fds)) k v) ⟨_, e1, q2, q3, t_set q4 hap hk v⟩ (fun j _ => vp_updV_set hl v j)⟩ e3
      rw [← hD', gx_w_set (gx_len hT) ho] at hP
      exact hP
    · exact hw.2.put e2 e3 (hA q (gx_len hT))
  rcases hfin with hfin | ⟨hfin, hin2, hdecl⟩
  · unfold u_lay at hlay
    rw [if_neg (by rw [hfin]; decide)] at hlay
    have h6 := u_store hfc hkC hkind hlay hi hd hn hfit
    exact W.putK hx hb (f := f) ⟨hown, hts _ hlink, ⟨_, _, _, hi⟩, hst⟩ (by rw [q2]; exact h6) q1 q3 (by rw [hsl]; exact k2_hasslot (q4 k hk)) rfl rfl hdg fun H' e1 e2 e3 => fin H' _ e1 e2 e3 rfl
  · unfold u_lay at hlay
    rw [if_pos hfin] at hlay
    have hcf : m.cls = cf := by
      obtain ⟨_, _, c', _, _, _, -, -, hf', -, -, -, hown2, -⟩ := Cond.laysFinal_spec hlay
      have e1 : c' = cf := by have := hi.symm.trans hf'; simp at this; exact this.1.symm
      rw [hdecl] at hown2
      rw [← e1]; exact Option.some.inj (hown.symm.trans hown2)
    have h6 := u_fits hfc hkC hkind (Or.inr hlay) hi hd hn hfit
    exact W.putFinK hx hb hown (hts _ hlink) hi hst hcf hin2 (by rw [q2]; exact h6) q1 q3 (by rw [hsl]; exact k2_hasslot (q4 k hk)) rfl rfl hdg fun H' e1 e2 e3 => fin H' _ e1 e2 e3 rfl
theorem gx_cellr {fds : List (Option (Option Nat))} {k j q ci : Nat} (hk : k < fds.length) : gx_cell E σ τ q (.inl (ci, fds.set k (some (some j)))) = .inr (ci, (gx_fv E.2.2 (σ q) 0 fds).set k (.ref (E.2.2 + j))) := by
  show (Sum.inr (ci, gx_fv E.2.2 (σ q) 0 (fds.set k (some (some j)))) : va_E) = _
  rw [← gx_fv_set E.2.2 (σ q) (σ q) fds k (some (some j)) hk (fun _ _ => rfl)]
  rfl
theorem gx_celli {fds : List (Option (Option Nat))} {k q ci : Nat} {v : Int32} (hf : fds[k]? = some none) : gx_cell E (up2 σ q k v) τ q (.inl (ci, fds)) = .inr (ci, (gx_fv E.2.2 (σ q) 0 fds).set k (.int v)) := by
  show (Sum.inr (ci, gx_fv E.2.2 (up2 σ q k v q) 0 fds) : va_E) = _
  have h2 := gx_fv_set E.2.2 (σ q) (up2 σ q k v q) fds k none (gx_len hf) (fun j hj => by simp [up2, hj])
  rw [gx_set_same hf] at h2
  rw [← h2]
  simp [gx_v, up2]
/-- a reference into a field, in a maker -/
theorem gx_putF (S : CallFix p m c cc nL s args gx_G own) (hK : gx_K E s) (hA : gx_Ok tb n0 E s) (hw : gx_W tb n0 E s σ τ H locs) {q ci : Nat} {fds : List (Option (Option Nat))} (hT : tb[q]? = some (.inl (ci, fds))) {C : String} {T : u_T} {N : Nat} (hC : gx_C ci C T N) (k : Nat) (hk : k < N) (hkf : k < fds.length) {ref : String} (hlink : Cond.fieldLink own idx ref (T k).2.1 (T k).2.2.1 ∈ gx_G) (href : (T k).1 = ref) (hfin : (T k).2.2.2 = true ∧ meth.name = "<init>" ∧ (T k).1 = own) {ty : FieldType} {j : Nat} (hd : parseFieldDescriptor (T k).2.2.1 = some ty) (hn : narrow ty (.ref (E.2.2 + j)) = .ref (E.2.2 + j)) (hfit : fits ty (.ref (E.2.2 + j)) = true) (hdg : decode cc pc = .ok (.putfield idx, 3))
    (kk : ∀ (H1 : Heap) (locs1 : List Loc), gx_W (tb.set q (.inl (ci, fds.set k (some (some j))))) n0 E s σ τ H1 locs1 → H1.size = H.size → W p l e R s m args below meth c H1 locs1 cells slots Q (F0 m (pc + 3) ls rest)) : W p l e R s m args below meth c H locs cells slots Q (F0 m pc ls (.ref (E.2.2 + j) :: .ref (E.2.2 + q) :: rest)) :=
  gx_putC S hK hA hw hT hC k hk hkf hlink href (Or.inr hfin) hd hn hfit _ (gx_cellr hkf) (fun _ _ _ => rfl) hdg kk
/-- a number into a field, in a maker -/
theorem gx_putI (S : CallFix p m c cc nL s args gx_G own) (hK : gx_K E s) (hA : gx_Ok tb n0 E s) (hw : gx_W tb n0 E s σ τ H locs) {q ci : Nat} {fds : List (Option (Option Nat))} (hT : tb[q]? = some (.inl (ci, fds))) {C : String} {T : u_T} {N : Nat} (hC : gx_C ci C T N) (k : Nat) (hk : k < N) (hf : fds[k]? = some none) {ref : String} (hlink : Cond.fieldLink own idx ref (T k).2.1 (T k).2.2.1 ∈ gx_G) (href : (T k).1 = ref) (hfin : (T k).2.2.2 = false) {ty : FieldType} {v : Int32} (hd : parseFieldDescriptor (T k).2.2.1 = some ty) (hn : narrow ty (.int v) = .int v) (hfit : fits ty (.int v) = true) (hdg : decode cc pc = .ok (.putfield idx, 3))
    (kk : ∀ (H1 : Heap) (locs1 : List Loc), gx_W tb n0 E s (up2 σ q k v) τ H1 locs1 → H1.size = H.size → W p l e R s m args below meth c H1 locs1 cells slots Q (F0 m (pc + 3) ls rest)) : W p l e R s m args below meth c H locs cells slots Q (F0 m pc ls (.int v :: .ref (E.2.2 + q) :: rest)) := by
  refine gx_putC S hK hA hw hT hC k hk (gx_len hf) hlink href (Or.inl hfin) hd hn hfit (.inl (ci, fds)) (gx_celli hf) (fun c' d1 h => gx_cell_other c' d1 h) hdg (fun H1 locs1 h1 h2 => kk H1 locs1 ?_ h2)
  rw [gx_set_same hT] at h1
  exact h1
theorem gx_iastC (S : CallFix p m c cc nL s args gx_G own) (hK : gx_K E s) (hA : gx_Ok tb n0 E s) (hw : gx_W tb n0 E s σ τ H locs) {q n : Nat} {rs : List (Option Nat)} (hT : tb[q]? = some (.inr (0, n, rs))) {i x : Int32} (j : Nat) (hj : i.toNatClampNeg = j) (hin : vp_in i n) (hdg : decode cc pc = .ok (.iastore, 1))
    (kk : ∀ (H1 : Heap) (locs1 : List Loc), gx_W tb n0 E s (up2 σ q j x) τ H1 locs1 → H1.size = H.size → W p l e R s m args below meth c H1 locs1 cells slots Q (F0 m (pc + 1) ls rest)) : W p l e R s m args below meth c H locs cells slots Q (F0 m pc ls (.int x :: .int i :: .ref (E.2.2 + q) :: rest)) := by
  subst hj
  refine W.iast S.1 S.2.1 (hw.1 q _ (gx_at hT)) ((hK.1.2 0 _ rfl).1 n (fun j => .int (σ q j))) (fun q => by cases q) (by show ¬ (i < 0 ∨ (arrV _ _ _).slots.size ≤ _); rw [arrV_size]; exact hin) rfl rfl hdg fun H1 e z oq => ?_
  refine kk H1 _ ⟨?_, hw.2.put z oq (hA q (gx_len hT))⟩ z
  have e1 : gx_cell E (up2 σ q i.toNatClampNeg x) τ q (.inr (0, n, rs)) = .inl (E.2.1 0, n, .inl (upd (σ q) i.toNatClampNeg x)) := by
    show (Sum.inl (E.2.1 0, n, Sum.inl (up2 σ q i.toNatClampNeg x q)) : va_E) = _
    rw [up2_upd]
  have hP := hw.1.set (gx_Dn hA) (gx_at hT) (e := .inl (E.2.1 0, n, .inl (upd (σ q) i.toNatClampNeg x))) (H1 := H1) ?_ oq
  · rw [← e1, gx_w_set (gx_len hT) (fun c' d1 h => gx_cell_other c' d1 h), gx_set_same hT] at hP
    exact hP
  · show H1[E.2.2 + q]? = some (vp_cell _ _)
    rw [e]
    show some ((vp_cell (E.2.1 0) (n, .inl (σ q))).setSlot _ _) = _
    rw [vp_cell_i, vp_cell_i, arrV_store]
    congr 2
    funext k
    by_cases hq : k = i.toNatClampNeg
    · subst hq
      simp [updV, upd]
    · simp [updV, upd, hq]
/-- an array of Scenes -/
theorem gx_newS (S : CallFix p m c cc nL s args gx_G own) (hK : gx_K E s) (hN9 : gx_N s) (hw : gx_W tb n0 E s σ τ H locs) (hz : H.size = E.2.2 + tb.length) {k : Int32} {N : Nat} (hn : ¬ k < 0) (hN : k.toNatClampNeg = N) (hby : N ≤ 100000) (hcl : Cond.classLink own idx "DownTheGutter$Scene" ∈ gx_G) (hf : cells + 1 ≤ R.cells ∧ slots + N ≤ R.slots) (hdg : decode cc pc = .ok (.anewarray idx, 3))
    (kk : ∀ H1 : Heap, gx_W (tb ++ [(Sum.inr (3, N, List.replicate N none) : gD)]) n0 E s σ τ H1 locs → H1.size = E.2.2 + (tb ++ [(Sum.inr (3, N, List.replicate N none) : gD)]).length → W p l e R s m args below meth c H1 locs (cells + 1) (slots + N) Q (F0 m (pc + 3) ls (.ref (E.2.2 + tb.length) :: rest))) : W p l e R s m args below meth c H locs cells slots Q (F0 m pc ls (.int k :: rest)) := by
  obtain ⟨hx, hb, hml, hown, hts⟩ := S
  subst hN
  refine W.anew hx hb hown (hts _ hcl) (va_AO.use hN9.2) rfl hdg rfl hn (by omega) hf.1 hf.2 fun cA kA comp f1 f2 f3 f4 => ?_
  obtain ⟨kA', comp', g1, g2, g3, g4⟩ := (hK.1.2 3 _ rfl).2
  have hcA : cA = E.2.1 3 := Option.some.inj (f1.symm.trans g4)
  subst hcA
  generalize hH1 : H.push ({ cls := E.2.1 3, slots := Array.replicate k.toNatClampNeg .null, vm := .none } : Cell) = H1
  have z1 : H1.size = H.size + 1 := by rw [← hH1, Array.size_push]
  have e1 : H1[H.size]? = some (arrV (E.2.1 3) k.toNatClampNeg (fun _ => .null)) := by rw [← hH1, Array.getElem?_push_size, ← arrV_new]
  have o1 : ∀ q : Nat, q < H.size → H1[q]? = H[q]? := fun q hq => by rw [← hH1, Array.getElem?_push, if_neg (Nat.ne_of_lt hq)]
  have h9 := gx_grow (D := .inr (3, k.toNatClampNeg, List.replicate k.toNatClampNeg none)) hw hz z1 o1 ?_
  · rw [hz]
    exact kk H1 h9.1 h9.2
  · rw [hz] at e1
    show H1[E.2.2 + tb.length]? = some (vp_cell _ _)
    rw [e1]
    show _ = some (vp_cell (E.2.1 3) (k.toNatClampNeg, .inr (.inr (.inr (.inr (fun i => (((List.replicate k.toNatClampNeg (none : Option Nat))[i]?).getD none).map (fun j => E.2.2 + j)))))))
    rw [vp_cell_q]
    congr 2
    funext j
    have h8 : ((List.replicate k.toNatClampNeg (none : Option Nat))[j]?).getD none = none := by
      rw [List.getElem?_replicate]
      split <;> rfl
    rw [h8]
    rfl
/-- a Scene into an array of Scenes -/
theorem gx_aastC (S : CallFix p m c cc nL s args gx_G own) (hK : gx_K E s) (hA : gx_Ok tb n0 E s) (hw : gx_W tb n0 E s σ τ H locs) {q n v : Nat} {rs : List (Option Nat)} (hT : tb[q]? = some (.inr (3, n, rs))) {fds : List (Option (Option Nat))} (hv : tb[v]? = some (.inl (7, fds))) {i : Int32} (j : Nat) (hj : i.toNatClampNeg = j) (hin : vp_in i n) (hrs : j < rs.length) (hdg : decode cc pc = .ok (.aastore, 1))
    (kk : ∀ (H1 : Heap) (locs1 : List Loc), gx_W (tb.set q (.inr (3, n, rs.set j (some v)))) n0 E s σ τ H1 locs1 → H1.size = H.size → W p l e R s m args below meth c H1 locs1 cells slots Q (F0 m (pc + 1) ls rest)) : W p l e R s m args below meth c H locs cells slots Q (F0 m pc ls (.ref (E.2.2 + v) :: .int i :: .ref (E.2.2 + q) :: rest)) := by
  subst hj
  have hlt : i.toNatClampNeg < n := Nat.not_le.mp fun q => hin (Or.inr q)
  have h0 : ¬ i < 0 := fun q => hin (Or.inl q)
  obtain ⟨r', hr', cellV, g1, g2, g3, -⟩ := hw.1 v _ (gx_at hv)
  have hcls := (hK.1.1 7 (RX6, TX6, 11) rfl).2
  obtain ⟨kA, comp, k1, k2, k3, -⟩ := (hK.1.2 3 _ rfl).2
  have hcomp : comp = E.1.1.1 7 := Option.some.inj (k3.symm.trans hcls.1)
  subst hcomp
  obtain ⟨kC, hkC, -⟩ := hcls.2
  refine W.aast S.1 S.2.1 (hw.1 q _ (gx_at hT)) (fun q h => by cases h) (fun h => by cases h) k1 k2 rfl hkC ⟨h0, by show _ < (arrV _ _ _).slots.size; rw [arrV_size]; exact hlt⟩ g1 (fun q h => by rw [g3] at h; cases h) (by rw [g2]; exact hkC) (by rw [g2]; exact va_assign hcls) rfl rfl hdg fun H1 e z oq => ?_
  refine kk H1 _ ⟨?_, hw.2.put z oq (hA q (gx_len hT))⟩ z
  have hP := hw.1.set (gx_Dn hA) (gx_at hT) (e := gx_cell E σ τ q (.inr (3, n, rs.set i.toNatClampNeg (some v)))) (H1 := H1) ?_ oq
  · rw [gx_w_set (gx_len hT) (fun c' d1 _ => rfl)] at hP
    exact hP
  · show H1[E.2.2 + q]? = some (vp_cell _ _)
    rw [e]
    show some ((vp_cell (E.2.1 3) (n, .inr (.inr (.inr (.inr (fun i => (rs[i]?.getD none).map (fun j => E.2.2 + j))))))).setSlot _ _) = some (vp_cell (E.2.1 3) (n, .inr (.inr (.inr (.inr (fun k => ((rs.set i.toNatClampNeg (some v))[k]?.getD none).map (fun j => E.2.2 + j)))))))
    rw [vp_cell_q, vp_cell_q, arrV_store]
    congr 2
    funext k
    by_cases hq : k = i.toNatClampNeg
    · subst hq
      rw [List.getElem?_set_self hrs]
      simp [updV, va_rf]
    · rw [List.getElem?_set_ne (Ne.symm hq)]
      simp [updV, hq]
end GN
/-- a maker's contract: from a table, a picture to a table, a picture -/
def gx_rc (d mc ms : Nat) : Room := { frames := d, cells := mc, slots := ms, locals := 40 * d }
def gx_Pc (tb : List gD) (E : gE) (σ : gI) (τ : gJ) (U : State) : Prop := gx_Pre tb E σ τ (E.2.2 + tb.length) U ∧ gx_N U
def gx_Mc (l : Launch) (y : MethodName) (cc : ByteArray) (mL d mc ms : Nat) (tb tb' : List gD) (E : gE) (σ σ' : gI) (τ : gJ) (av : List Value) : Prop :=
  Met l y (Cond.code y cc mL none :: gx_G) (gx_rc d mc ms) (va_Pc av (gx_Pc tb E σ τ)) (va_Qv (fun (_ : Unit) => True) (fun _ t => gx_P tb' E σ' τ t.heap ∧ t.heap.size = E.2.2 + tb'.length) (gx_A tb.length E.2.2 (E.2.2 + tb.length))) mc ms (gx_A tb.length E.2.2 (E.2.2 + tb.length))
theorem gx_blindC {av : List Value} {tb : List gD} {E : gE} {σ : gI} {τ : gJ} : FrameBlind (va_Pc av (gx_Pc tb E σ τ)) := by
  intro a U g mk q
  obtain ⟨q0, ⟨q1, qP, qK⟩, qN⟩ := q
  exact ⟨q0, ⟨q1, qP, ⟨va_K.moved (u := U) (U := U.calling g mk a) (Vm.Alike.refl U.vm) qK.1, gx_Z.same (s := U) (U := U.calling g mk a) rfl qK.2⟩⟩, gx_N.same (s := U) (U := U.calling g mk a) rfl qN⟩
section GC
variable {p : Program} {l : Launch} {e : Env} {R : Room} {s : State} {m : MethodId} {args : Array Value} {below : List Frame} {meth : Method} {c : Code} {H : Heap} {locs : List Loc} {cells slots : Nat} {Q : State → Prop}
variable {cc cc' : ByteArray} {pc nL mL d n idx n0 mc ms : Nat} {ls : Array Slot} {st rest As av : List Value} {own : String} {tb tb' : List gD} {E : gE} {σ σ' : gI} {τ : gJ} {y : MethodName}
theorem gx_bc (hy : plainName y.cls = true) (hlen : (lg_sl av).length ≤ mL)
    (body : ∀ (p : Program) (e : Env) (s : State) (m : MethodId) (below : List Frame) (meth : Method) (c : Code), CallFix p m c cc mL s av.toArray gx_G y.cls → meth.sig.returnType = none → meth.locks = false → meth.name = y.name → gx_K E s → gx_N s → s.heap.size = E.2.2 + tb.length → gx_W tb tb.length E s σ τ s.heap [] → ∀ ls : Array Slot, lv_has ls mL (lv_args 0 av) →
      W p l e (gx_rc d mc ms) s m av.toArray below meth c s.heap [] 0 0 (MQ below (va_Qv (fun (_ : Unit) => True) (fun _ t => gx_P tb' E σ' τ t.heap ∧ t.heap.size = E.2.2 + tb'.length) (gx_A tb.length E.2.2 s.heap.size)) av.toArray s mc ms (gx_A tb.length E.2.2 s.heap.size)) (F0 m 0 ls [])) : gx_Mc l y cc mL d mc ms tb tb' E σ σ' τ av := by
  refine gx_begin (Qc := fun sz => va_Qv (fun (_ : Unit) => True) (fun _ t => gx_P tb' E σ' τ t.heap ∧ t.heap.size = E.2.2 + tb'.length) (gx_A tb.length E.2.2 sz)) (A := fun sz => gx_A tb.length E.2.2 sz) hy (fun a U h => h.1) hlen (fun a U h => h.2.1.1) ?_
  intro p e s m below meth c S hr hlk hnm hv hz ls hl
  exact body p e s m below meth c S hr hlk hnm hv.2.1.2.2 hv.2.2 hz ⟨hv.2.1.2.1, va_S.rf⟩ ls hl
theorem gx_rc9 (S : CallFix p m c cc nL s args gx_G own) (hr : meth.sig.returnType = none) (hlk : meth.locks = false) (hw : gx_W tb' tb.length E s σ' τ H locs) (hz : H.size = E.2.2 + tb'.length) (hdg : decode cc pc = .ok (.return_, 1)) :
    W p l e R s m args below meth c H locs mc ms (MQ below (va_Qv (fun (_ : Unit) => True) (fun _ t => gx_P tb' E σ' τ t.heap ∧ t.heap.size = E.2.2 + tb'.length) (gx_A tb.length E.2.2 s.heap.size)) args s mc ms (gx_A tb.length E.2.2 s.heap.size)) (F0 m pc ls []) :=
  W.vret S.1 S.2.1 hr (fun t ht _ => ⟨⟨(), rfl, trivial, by rw [ht]; exact hw.1, by rw [ht]; exact hz⟩, hw.2.F ht⟩) hw.2.2.2 hdg hlk
theorem gx_goodM {y : MethodName} {cc : ByteArray} {mL : Nat} (h : Cond.code y cc mL none ∈ gx_G) : GoodIn gx_G (Cond.code y cc mL none :: gx_G) := by
  intro w hw
  rcases List.mem_cons.mp hw with rfl | hw
  · exact ⟨h, gx_good h⟩
  · exact ⟨hw, gx_good hw⟩
def gx_Wi (own : String) (idx : Nat) (y : MethodName) (cc : ByteArray) (mL : Nat) (n : Nat) : Prop := (Cond.methodLink own idx y ∈ gx_G ∧ Cond.instanceMethod y ∈ gx_G ∧ Cond.initialized y.cls ∈ gx_G ∧ Cond.code y cc mL none ∈ gx_G) ∧ y.name = "<init>" ∧ y.cls ≠ "java/lang/invoke/MethodHandle" ∧ y.cls ≠ "java/lang/invoke/VarHandle" ∧ (parseMethodDescriptor y.desc).map (fun d => d.parameters.length) = some n
def gx_Wn (own : String) (idx : Nat) (y : MethodName) (host : String) (cc : ByteArray) (mL : Nat) (n : Nat) : Prop := (Cond.methodLinkNest own idx y host ∈ gx_nest ∧ Cond.instanceMethod y ∈ gx_G ∧ Cond.initialized y.cls ∈ gx_G ∧ Cond.code y cc mL none ∈ gx_G) ∧ y.name = "<init>" ∧ y.cls ≠ "java/lang/invoke/MethodHandle" ∧ y.cls ≠ "java/lang/invoke/VarHandle" ∧ (parseMethodDescriptor y.desc).map (fun d => d.parameters.length) = some n
/-- a maker is called -/
theorem gx_cI {q : Nat} (S : CallFix p m c cc nL s args gx_G own) (hK : gx_K E s) (hN9 : gx_N s) (hA : gx_Ok tb n0 E s) (hw : gx_W tb n0 E s σ τ H locs) (hz : H.size = E.2.2 + tb.length) (M : gx_Mc l y cc' mL d mc ms tb tb' E σ σ' τ (.ref (E.2.2 + q) :: As)) (w : gx_Wi own idx y cc' mL n) (hR : d + 1 ≤ R.frames ∧ 8 + (mL + 11) + 40 * d ≤ R.locals) (hn : As.length = n) (hls : ls.size = nL) (hst : st = As.reverse ++ .ref (E.2.2 + q) :: rest) (hW : (rest.map fun v => v.category).sum ≤ 8) (hf : cells + mc ≤ R.cells ∧ slots + ms ≤ R.slots) (hdg : decode cc pc = .ok (.invokespecial idx, 3))
    (kk : ∀ (H1 : Heap) (locs1 : List Loc), gx_W tb' n0 E s σ' τ H1 locs1 → H1.size = E.2.2 + tb'.length → W p l e R s m args below meth c H1 locs1 (cells + mc) (slots + ms) Q (F0 m (pc + 3) ls rest)) : W p l e R s m args below meth c H locs cells slots Q (F0 m pc ls st) := by
  subst hst
  obtain ⟨⟨h1, h2, h3, h4⟩, h5, h6⟩ := w
  refine va_callv (va_runI (As := As) (rest := rest) (b := E.2.2 + q) S M (cwI n S.2.2.2.2 (gx_goodM h4) rfl rfl rfl (S.2.2.2.2 _ h3) (S.2.2.2.2 _ h1) (S.2.2.2.2 _ h2) h5 h6 hR) ⟨gx_blindC, fun U hU hW9 => ⟨rfl, ⟨by rw [hU]; exact hz, by rw [hU]; exact hw.1, gx_K.move hW9 hU hw hK⟩, gx_N.warm hW9 hN9⟩⟩ rfl hn hls rfl (lv_room hW) hdg hf) hw.2 (fun q1 _ h => gx_sub hA hw (by rw [hz]; exact h)) (fun q1 h => gx_sub hA hw (by rw [hz]; exact h)) ?_
  intro u t H1 locs1 ht hvm hp hB _ hk hS
  exact kk H1 locs1 ⟨by rw [← ht]; exact hB.1, hS⟩ (by rw [← ht]; exact hB.2)
theorem gx_cN {q : Nat} {host : String} (S : CallFix p m c cc nL s args gx_G own) (hK : gx_K E s) (hN9 : gx_N s) (hA : gx_Ok tb n0 E s) (hw : gx_W tb n0 E s σ τ H locs) (hz : H.size = E.2.2 + tb.length) (M : gx_Mc l y cc' mL d mc ms tb tb' E σ σ' τ (.ref (E.2.2 + q) :: As)) (w : gx_Wn own idx y host cc' mL n) (hR : d + 1 ≤ R.frames ∧ 8 + (mL + 11) + 40 * d ≤ R.locals) (hn : As.length = n) (hls : ls.size = nL) (hst : st = As.reverse ++ .ref (E.2.2 + q) :: rest) (hW : (rest.map fun v => v.category).sum ≤ 8) (hf : cells + mc ≤ R.cells ∧ slots + ms ≤ R.slots) (hdg : decode cc pc = .ok (.invokespecial idx, 3))
    (kk : ∀ (H1 : Heap) (locs1 : List Loc), gx_W tb' n0 E s σ' τ H1 locs1 → H1.size = E.2.2 + tb'.length → W p l e R s m args below meth c H1 locs1 (cells + mc) (slots + ms) Q (F0 m (pc + 3) ls rest)) : W p l e R s m args below meth c H locs cells slots Q (F0 m pc ls st) := by
  subst hst
  obtain ⟨⟨h1, h2, h3, h4⟩, h5, h6⟩ := w
  refine va_callv (va_runIN (As := As) (rest := rest) (b := E.2.2 + q) S M ⟨va_cnB n S.2.2.2.2 (gx_goodM h4) rfl rfl rfl (hN9.1 _ h1) (S.2.2.2.2 _ h3) h6 hR, h5, S.2.2.2.2 _ h2⟩ ⟨gx_blindC, fun U hU hW9 => ⟨rfl, ⟨by rw [hU]; exact hz, by rw [hU]; exact hw.1, gx_K.move hW9 hU hw hK⟩, gx_N.warm hW9 hN9⟩⟩ rfl hn hls rfl (lv_room hW) hdg hf) hw.2 (fun q1 _ h => gx_sub hA hw (by rw [hz]; exact h)) (fun q1 h => gx_sub hA hw (by rw [hz]; exact h)) ?_
  intro u t H1 locs1 ht hvm hp hB _ hk hS
  exact kk H1 locs1 ⟨by rw [← ht]; exact hB.1, hS⟩ (by rw [← ht]; exact hB.2)
/-- Object.<init> -/
theorem gx_obj {q : Nat} (S : CallFix p m c cc nL s args gx_G own) (hl : Cond.methodLink own idx objectInit ∈ gx_G) (hi : Cond.instanceMethod objectInit ∈ gx_G) (hc : Cond.code objectInit ⟨#[0xb1]⟩ 1 none ∈ gx_G) (hls : ls.size = nL) (hdg : decode cc pc = .ok (.invokespecial idx, 3)) (hR : 1 ≤ R.frames ∧ (rest.map fun v => v.category).sum + 12 ≤ R.locals) (kk : W p l e R s m args below meth c H locs cells slots Q (F0 m (pc + 3) ls rest)) : W p l e R s m args below meth c H locs cells slots Q (F0 m pc ls (.ref q :: rest)) :=
  W.objInit S.1 S.2.1 S.2.2.2.1 (S.2.2.2.2 _ hl) (S.2.2.2.2 _ hi) (S.2.2.2.2 _ hc) rfl (hls.trans S.2.2.1.symm) rfl hdg hR.1 (by show 2 * 0 + _ + 12 ≤ _; rw [Nat.mul_zero, Nat.zero_add]; exact hR.2) kk
end GC
/-! TEXT CONSTANTS -/
section GS
variable {p : Program} {l : Launch} {e : Env} {R : Room} {s : State} {m : MethodId} {args : Array Value} {below : List Frame} {meth : Method} {c : Code} {H : Heap} {locs : List Loc} {cells slots : Nat} {Q : State → Prop}
variable {cc cc' : ByteArray} {pc nL mL d n idx n0 i : Nat} {ls : Array Slot} {st rest As : List Value} {own : String} {tb : List gD} {E : gE} {σ : gI} {τ : gJ} {y : MethodName} {ret : Option FieldType} {q : String × Nat × String × List Int32}
theorem gx_SB (hK : gx_K E s) (hw : gx_W tb n0 E s σ τ H locs) : va_S (gx_B E) s.heap H locs := by
  have hz : E.2.2 ≤ s.heap.size := hK.2.2.2.2.2
  have hAB : ∀ a, gx_A n0 E.2.2 s.heap.size a → gx_B E a := fun a h => by
    rcases h with h | h
    · exact h.1
    · exact Nat.le_trans hz h
  exact ⟨hw.2.1, fun a h1 h2 => hw.2.2.1 a h1 (fun h => h2 (hAB a h)), fun a h => hAB _ (hw.2.2.2 a h)⟩
theorem gx_lds (S : CallFix p m c cc nL s args gx_G own) (hK : gx_K E s) (hq : gx_ss[i]? = some q) (hown : q.1 = own) (hdg : decode cc pc = .ok (.ldc q.2.1, 2))
    (kk : W p l e R s m args below meth c H locs cells slots Q (F0 m (pc + 2) ls (.ref (E.1.2.1 i) :: rest))) : W p l e R s m args below meth c H locs cells slots Q (F0 m pc ls rest) := by
  subst hown
  exact va_ldcS S.1 S.2.1 S.2.2.2.1 (hK.2.1 i q hq).2 hdg kk
theorem gx_scod (S : CallFix p m c cc nL s args gx_G own) (hK : gx_K E s) (hw : gx_W tb n0 E s σ τ H locs) (hq : gx_ss[i]? = some q) (hl : Cond.fieldLink own idx "java/lang/String" "coder" "B" ∈ gx_G) (hdg : decode cc pc = .ok (.getfield idx, 3))
    (kk : W p l e R s m args below meth c H locs cells slots Q (F0 m (pc + 3) ls (.int 0 :: rest))) : W p l e R s m args below meth c H locs cells slots Q (F0 m pc ls (.ref (E.1.2.1 i) :: rest)) :=
  vk_getf S.1 S.2.1 ((hK.2.1 i q hq).1.1 0 (by decide)).2.1 (gx_SB hK hw) S.2.2.2.1 (S.2.2.2.2 _ hl) (fun _ h => h) hdg kk
theorem gx_sval (S : CallFix p m c cc nL s args gx_G own) (hK : gx_K E s) (hw : gx_W tb n0 E s σ τ H locs) (hq : gx_ss[i]? = some q) (hl : Cond.fieldLink own idx "java/lang/String" "value" "[B" ∈ gx_G) (hdg : decode cc pc = .ok (.getfield idx, 3))
    (kk : W p l e R s m args below meth c H locs cells slots Q (F0 m (pc + 3) ls (.ref (E.1.2.2 i) :: rest))) : W p l e R s m args below meth c H locs cells slots Q (F0 m pc ls (.ref (E.1.2.1 i) :: rest)) :=
  vk_getf S.1 S.2.1 ((hK.2.1 i q hq).1.1 0 (by decide)).2.2.1 (gx_SB hK hw) S.2.2.2.1 (S.2.2.2.2 _ hl) (fun _ h => h) hdg kk
theorem gx_slen {v : Int32} (S : CallFix p m c cc nL s args gx_G own) (hK : gx_K E s) (hw : gx_W tb n0 E s σ τ H locs) (hq : gx_ss[i]? = some q) (hv : Int32.ofNat q.2.2.2.length = v) (hdg : decode cc pc = .ok (.arraylength, 1))
    (kk : W p l e R s m args below meth c H locs cells slots Q (F0 m (pc + 1) ls (.int v :: rest))) : W p l e R s m args below meth c H locs cells slots Q (F0 m pc ls (.ref (E.1.2.2 i) :: rest)) :=
  va_tlen S.1 S.2.1 ((hK.2.1 i q hq).1.1 0 (by decide)).2.2.2 (gx_SB hK hw) hv hdg kk
theorem gx_cs (S : CallFix p m c cc nL s args gx_G own) (hK : gx_K E s) (hw : gx_W tb n0 E s σ τ H locs) (hl : Cond.fieldLink own idx "java/lang/String" "COMPACT_STRINGS" "Z" ∈ gx_G) (hdg : decode cc pc = .ok (.getstatic idx, 3))
    (kk : W p l e R s m args below meth c H locs cells slots Q (F0 m (pc + 3) ls (.int 1 :: rest))) : W p l e R s m args below meth c H locs cells slots Q (F0 m pc ls rest) :=
  va_gets S.1 S.2.1 hK.2.2.1 (gx_SB hK hw) S.2.2.2.1 (S.2.2.2.2 _ hl) (fun _ h => h) hdg kk
/-- a call on a text constant -/
theorem gx_cTi {post : Int32 → gI → gJ → Prop} (S : CallFix p m c cc nL s args gx_G own) (hK : gx_K E s) (hA : gx_Ok tb n0 E s) (hw : gx_W tb n0 E s σ τ H locs) (M : gx_Mi l y cc' mL ret d tb E σ τ (.ref (E.1.2.1 i) :: As) post) (w : gx_Wv own idx y cc' mL ret n) (hq : gx_ss[i]? = some q) (hy : y.cls = "java/lang/String") (hR : d + 1 ≤ R.frames ∧ 8 + (mL + 11) + 40 * d ≤ R.locals) (hn : As.length = n) (hls : ls.size = nL) (hst : st = As.reverse ++ .ref (E.1.2.1 i) :: rest) (hW : (rest.map fun v => v.category).sum ≤ 8) (hf : cells + 0 ≤ R.cells ∧ slots + 0 ≤ R.slots) (hdg : decode cc pc = .ok (.invokevirtual idx, 3))
    (kk : ∀ (r : Int32) (σ' : gI) (τ' : gJ) (H1 : Heap) (locs1 : List Loc), post r σ' τ' → gx_W tb n0 E s σ' τ' H1 locs1 → W p l e R s m args below meth c H1 locs1 cells slots Q (F0 m (pc + 3) ls (.int r :: rest))) : W p l e R s m args below meth c H locs cells slots Q (F0 m pc ls st) := by
  subst hst
  have hrc : ∃ cell : Cell, H[E.1.2.1 i]? = some cell ∧ cell.vm.isStatics = false ∧ s.vm.findClass y.cls = some cell.cls := by
    rw [hy]
    exact vk_recv (i := 0) (hK.2.1 i q hq).1 (by decide) (gx_SB hK hw)
  refine va_calli (va_runV (As := As) (rest := rest) (b := E.1.2.1 i) S (M H.size) (cwV n S.2.2.2.2 (gx_goodV w) rfl rfl rfl ⟨rfl, w.2⟩ hR) ⟨gx_blind, hrc, fun U hU hW9 => ⟨rfl, by rw [hU], by rw [hU]; exact hw.1, gx_K.move hW9 hU hw hK⟩⟩ rfl hn hls rfl (lv_room hW) hdg hf) hw.2 (fun q1 _ h => gx_sub hA hw h) (fun q1 h => gx_sub hA hw h) ?_
  intro r u t H1 locs1 ht hvm hp hB hz hk hS
  exact kk r u.1 u.2 H1 locs1 hp ⟨by rw [← ht]; exact hB, hS⟩
end GS
theorem up2_hi {σ : gI} {c k c9 k9 n : Nat} {v : Int32} (h : c < n) (h9 : n ≤ c9) : up2 σ c k v c9 k9 = σ c9 k9 := by
  unfold up2
  rw [if_neg (by omega)]
theorem gx_cl (x y : Int64) : lg_cmp x y < 0 ↔ x.toInt < y.toInt := by
  unfold lg_cmp
  split
  · next h => exact ⟨fun q => absurd q (by decide), fun q => by have := Int64.lt_iff_toInt_lt.mp h; omega⟩
  · next h =>
    split
    · next h2 => subst h2; exact ⟨fun q => absurd q (by decide), fun q => by omega⟩
    · next h2 => exact ⟨fun _ => by
        have h3 : ¬ y.toInt < x.toInt := fun q => h (Int64.lt_iff_toInt_lt.mpr q)
        have h4 : ¬ x.toInt = y.toInt := fun q => h2 (Int64.toInt_inj.mp q)
        omega, fun _ => by decide⟩
theorem gx_cg (x y : Int64) : 0 < lg_cmp x y ↔ y.toInt < x.toInt := by
  unfold lg_cmp
  split
  · next h => exact ⟨fun _ => Int64.lt_iff_toInt_lt.mp h, fun _ => by decide⟩
  · next h =>
    split
    · next h2 => subst h2; exact ⟨fun q => absurd q (by decide), fun q => by omega⟩
    · next h2 => exact ⟨fun q => absurd q (by decide), fun q => absurd (Int64.lt_iff_toInt_lt.mpr q) h⟩
theorem fa_lt (a b : Int32) : a < b ↔ a.toInt < b.toInt := Int32.lt_iff_toInt_lt
theorem fa_le (a b : Int32) : a ≤ b ↔ a.toInt ≤ b.toInt := Int32.le_iff_toInt_le
theorem fa_eq (a b : Int32) : a = b ↔ a.toInt = b.toInt := Int32.toInt_inj.symm
theorem gx_0shr (y : Int32) : (0 : Int32) >>> (y &&& 31) = 0 := by
  apply Int32.toBitVec_inj.mp
  simp
theorem gx_0shl (y : Int32) : (0 : Int32) <<< (y &&& 31) = 0 := by
  apply Int32.toBitVec_inj.mp
  simp
theorem gx_ilt {i k : Nat} {x : Int32} (hk : x = nI k) (hi : i < 2 ^ 31) (h : ¬ x ≤ nI i) : i < k := by
  subst hk
  exact Nat.not_le.mp fun q => h (nI_le q hi)
theorem gx_ige {i k : Nat} {x : Int32} (hk : x = nI k) (hi : i < 2 ^ 31) (hk2 : k < 2 ^ 31) (h : x ≤ nI i) : k ≤ i := by
  subst hk
  exact (nI_leI hk2 hi).mp h
theorem gx_nat {n : Int32} {M : Nat} (h0 : 0 ≤ n.toInt) (h1 : n.toInt ≤ M) : ∃ j : Nat, j ≤ M ∧ n = nI j := by
  obtain ⟨j, hj, rfl⟩ := nI_of (x := n) (fun q => by
    have h2 := Int32.lt_iff_toInt_lt.mp q
    have e0 : (0 : Int32).toInt = 0 := rfl
    omega)
  rw [nI_toInt hj] at h1
  exact ⟨j, by omega, rfl⟩
theorem gx_inl {i k : Nat} {x : Int32} (hk : x = nI k) (hi : i < 2 ^ 31) (hk2 : k < 2 ^ 31) (h : ¬ x < nI i) : i ≤ k := by
  subst hk
  exact Nat.not_lt.mp fun q => h (nI_lt q hi)
theorem up2_id {σ : gI} {c k : Nat} {v : Int32} (h : σ c k = v) : up2 σ c k v = σ := by
  funext c9 k9
  unfold up2
  split
  · next q => rw [q.1, q.2, h]
  · rfl
end
section
/-! MAKERS over a table that is a part known by its length, and a part told -/
def gx_Y (tb ds : List gD) (n0 : Nat) (E : gE) (s : State) (σ : gI) (τ : gJ) (H : Heap) (locs : List Loc) : Prop := gx_W (tb ++ ds) n0 E s σ τ H locs ∧ H.size = E.2.2 + (tb.length + ds.length)
theorem gx_ap {tb ds : List gD} {n k : Nat} {d : gD} (hn : tb.length = n) (h : ds[k]? = some d) : (tb ++ ds)[n + k]? = some d := by
  subst hn
  rw [List.getElem?_append_right (by omega), Nat.add_sub_cancel_left]
  exact h
theorem gx_aps {tb ds : List gD} {n k : Nat} {d : gD} (hn : tb.length = n) : (tb ++ ds).set (n + k) d = tb ++ ds.set k d := by
  subst hn
  rw [List.set_append_right _ _ (by omega), Nat.add_sub_cancel_left]
theorem y_ln {tb ds : List gD} {n K : Nat} (hn : tb.length = n) (h : ds.length = K) : (tb ++ ds).length = n + K := by
  rw [List.length_append, hn, h]
section GY
variable {p : Program} {l : Launch} {e : Env} {R : Room} {s : State} {m : MethodId} {args : Array Value} {below : List Frame} {meth : Method} {c : Code} {H : Heap} {locs : List Loc} {cells slots : Nat} {Q : State → Prop}
variable {cc cc' : ByteArray} {pc nL mL d idx n0 n mc ms : Nat} {ls : Array Slot} {st rest As : List Value} {own : String} {tb ds : List gD} {E : gE} {σ σ' : gI} {τ : gJ} {y : MethodName}
theorem y_sz (hY : gx_Y tb ds n0 E s σ τ H locs) : H.size = E.2.2 + (tb ++ ds).length := by rw [List.length_append]; exact hY.2
theorem y_of {D : gD} {H1 : Heap} (h : gx_W (tb ++ ds ++ [D]) n0 E s σ τ H1 locs) (hz : H1.size = E.2.2 + (tb ++ ds ++ [D]).length) : gx_Y tb (ds ++ [D]) n0 E s σ τ H1 locs := by
  rw [List.append_assoc] at h hz
  rw [List.length_append] at hz
  exact ⟨h, hz⟩
theorem y_newI (S : CallFix p m c cc nL s args gx_G own) (hK : gx_K E s) (hY : gx_Y tb ds n0 E s σ τ H locs) (hn : tb.length = n) (K : Nat) (hK9 : ds.length = K) {k : Int32} {N : Nat} (hk : ¬ k < 0) (hN : k.toNatClampNeg = N) (hby : N ≤ 100000) (h0 : ∀ c9 k9 : Nat, n + K ≤ c9 → σ c9 k9 = 0) (har : Cond.arrayClass .int ∈ gx_G) (hf : cells + 1 ≤ R.cells ∧ slots + N ≤ R.slots) (hdg : decode cc pc = .ok (.newarray .int, 2))
    (kk : ∀ H1 : Heap, gx_Y tb (ds ++ [.inr (0, N, [])]) n0 E s σ τ H1 locs → W p l e R s m args below meth c H1 locs (cells + 1) (slots + N) Q (F0 m (pc + 2) ls (.ref (E.2.2 + (n + K)) :: rest))) : W p l e R s m args below meth c H locs cells slots Q (F0 m pc ls (.int k :: rest)) := by
  subst hn; subst hK9
  refine gx_newI S hK hY.1 (y_sz hY) hk hN hby ?_ har hf hdg (fun H1 h1 h2 => ?_)
  · funext k9; exact h0 _ _ (by rw [List.length_append]; exact Nat.le_refl _)
  · rw [List.length_append]; exact kk H1 (y_of h1 h2)
theorem y_newZ (S : CallFix p m c cc nL s args gx_G own) (hK : gx_K E s) (hY : gx_Y tb ds n0 E s σ τ H locs) (hn : tb.length = n) (K : Nat) (hK9 : ds.length = K) {k : Int32} {N : Nat} (hk : ¬ k < 0) (hN : k.toNatClampNeg = N) (hby : N ≤ 100000) (h0 : ∀ c9 k9 : Nat, n + K ≤ c9 → σ c9 k9 = 0) (har : Cond.arrayClass .boolean ∈ gx_G) (hf : cells + 1 ≤ R.cells ∧ slots + N ≤ R.slots) (hdg : decode cc pc = .ok (.newarray .boolean, 2))
    (kk : ∀ H1 : Heap, gx_Y tb (ds ++ [.inr (2, N, [])]) n0 E s σ τ H1 locs → W p l e R s m args below meth c H1 locs (cells + 1) (slots + N) Q (F0 m (pc + 2) ls (.ref (E.2.2 + (n + K)) :: rest))) : W p l e R s m args below meth c H locs cells slots Q (F0 m pc ls (.int k :: rest)) := by
  subst hn; subst hK9
  refine gx_newZ S hK hY.1 (y_sz hY) hk hN hby ?_ har hf hdg (fun H1 h1 h2 => ?_)
  · funext k9; exact h0 _ _ (by rw [List.length_append]; exact Nat.le_refl _)
  · rw [List.length_append]; exact kk H1 (y_of h1 h2)
theorem y_newJ (S : CallFix p m c cc nL s args gx_G own) (hK : gx_K E s) (hY : gx_Y tb ds n0 E s σ τ H locs) (hn : tb.length = n) (K : Nat) (hK9 : ds.length = K) {k : Int32} {N : Nat} (hk : ¬ k < 0) (hN : k.toNatClampNeg = N) (hby : N ≤ 100000) (h0 : ∀ c9 k9 : Nat, n + K ≤ c9 → τ c9 k9 = 0) (har : Cond.arrayClass .long ∈ gx_G) (hf : cells + 1 ≤ R.cells ∧ slots + N ≤ R.slots) (hdg : decode cc pc = .ok (.newarray .long, 2))
    (kk : ∀ H1 : Heap, gx_Y tb (ds ++ [.inr (1, N, [])]) n0 E s σ τ H1 locs → W p l e R s m args below meth c H1 locs (cells + 1) (slots + N) Q (F0 m (pc + 2) ls (.ref (E.2.2 + (n + K)) :: rest))) : W p l e R s m args below meth c H locs cells slots Q (F0 m pc ls (.int k :: rest)) := by
  subst hn; subst hK9
  refine gx_newJ S hK hY.1 (y_sz hY) hk hN hby ?_ har hf hdg (fun H1 h1 h2 => ?_)
  · funext k9; exact h0 _ _ (by rw [List.length_append]; exact Nat.le_refl _)
  · rw [List.length_append]; exact kk H1 (y_of h1 h2)
theorem y_newS (S : CallFix p m c cc nL s args gx_G own) (hK : gx_K E s) (hN9 : gx_N s) (hY : gx_Y tb ds n0 E s σ τ H locs) (hn : tb.length = n) (K : Nat) (hK9 : ds.length = K) {k : Int32} {N : Nat} (hk : ¬ k < 0) (hN : k.toNatClampNeg = N) (hby : N ≤ 100000) (hcl : Cond.classLink own idx "DownTheGutter$Scene" ∈ gx_G) (hf : cells + 1 ≤ R.cells ∧ slots + N ≤ R.slots) (hdg : decode cc pc = .ok (.anewarray idx, 3))
    (kk : ∀ H1 : Heap, gx_Y tb (ds ++ [.inr (3, N, List.replicate N none)]) n0 E s σ τ H1 locs → W p l e R s m args below meth c H1 locs (cells + 1) (slots + N) Q (F0 m (pc + 3) ls (.ref (E.2.2 + (n + K)) :: rest))) : W p l e R s m args below meth c H locs cells slots Q (F0 m pc ls (.int k :: rest)) := by
  subst hn; subst hK9
  refine gx_newS S hK hN9 hY.1 (y_sz hY) hk hN hby hcl hf hdg (fun H1 h1 h2 => ?_)
  rw [List.length_append]; exact kk H1 (y_of h1 h2)
theorem y_new (S : CallFix p m c cc nL s args gx_G own) (hK : gx_K E s) (hY : gx_Y tb ds n0 E s σ τ H locs) (hn : tb.length = n) (K : Nat) (hK9 : ds.length = K) {ci N : Nat} {C : String} {T : u_T} (hC : gx_C ci C T N) (ty : Nat → FieldType) (hty : ∀ k, k < N → parseFieldDescriptor (T k).2.2.1 = some (ty k)) (fds : List (Option (Option Nat))) (hfs : ∀ j, j < N → defaultValue (ty j) = vp_V (gx_fv E.2.2 (fun _ => 0) 0 fds) j) (h0 : ∀ c9 k9 : Nat, n + K ≤ c9 → σ c9 k9 = 0) (hcl : Cond.classLink own idx C ∈ gx_G) (hin : Cond.instantiable C N ∈ gx_G) (hini : Cond.initialized C ∈ gx_G) (hf : cells + 1 ≤ R.cells ∧ slots + N ≤ R.slots) (hdg : decode cc pc = .ok (.new idx, 3))
    (kk : ∀ H1 : Heap, gx_Y tb (ds ++ [.inl (ci, fds)]) n0 E s σ τ H1 locs → W p l e R s m args below meth c H1 locs (cells + 1) (slots + N) Q (F0 m (pc + 3) ls (.ref (E.2.2 + (n + K)) :: rest))) : W p l e R s m args below meth c H locs cells slots Q (F0 m pc ls rest) := by
  subst hn; subst hK9
  refine gx_new S hK hY.1 (y_sz hY) hC ty hty fds hfs ?_ hcl hin hini hf hdg (fun H1 h1 h2 => ?_)
  · funext k9; exact h0 _ _ (by rw [List.length_append]; exact Nat.le_refl _)
  · rw [List.length_append]; exact kk H1 (y_of h1 h2)
theorem y_putF (S : CallFix p m c cc nL s args gx_G own) (hK : gx_K E s) (hA : ∀ t, gx_Ok t n0 E s) (hY : gx_Y tb ds n0 E s σ τ H locs) (hn : tb.length = n) (q : Nat) {ci : Nat} {fds : List (Option (Option Nat))} (hT : ds[q]? = some (.inl (ci, fds))) {C : String} {T : u_T} {N : Nat} (hC : gx_C ci C T N) (k : Nat) (hk : k < N) (hkf : k < fds.length) {ref : String} (hlink : Cond.fieldLink own idx ref (T k).2.1 (T k).2.2.1 ∈ gx_G) (href : (T k).1 = ref) (hfin : (T k).2.2.2 = true ∧ meth.name = "<init>" ∧ (T k).1 = own) {ty : FieldType} {j : Nat} (hd : parseFieldDescriptor (T k).2.2.1 = some ty) (hna : narrow ty (.ref (E.2.2 + j)) = .ref (E.2.2 + j)) (hfit : fits ty (.ref (E.2.2 + j)) = true) (hdg : decode cc pc = .ok (.putfield idx, 3))
    (kk : ∀ (H1 : Heap) (locs1 : List Loc), gx_Y tb (ds.set q (.inl (ci, fds.set k (some (some j))))) n0 E s σ τ H1 locs1 → W p l e R s m args below meth c H1 locs1 cells slots Q (F0 m (pc + 3) ls rest)) : W p l e R s m args below meth c H locs cells slots Q (F0 m pc ls (.ref (E.2.2 + j) :: .ref (E.2.2 + (n + q)) :: rest)) := by
  refine gx_putF S hK (hA _) hY.1 (gx_ap hn hT) hC k hk hkf hlink href hfin hd hna hfit hdg (fun H1 locs1 h1 h2 => kk H1 locs1 ⟨?_, ?_⟩)
  · rw [gx_aps hn] at h1; exact h1
  · rw [h2, List.length_set]; exact hY.2
theorem y_putI (S : CallFix p m c cc nL s args gx_G own) (hK : gx_K E s) (hA : ∀ t, gx_Ok t n0 E s) (hY : gx_Y tb ds n0 E s σ τ H locs) (hn : tb.length = n) (q : Nat) {ci : Nat} {fds : List (Option (Option Nat))} (hT : ds[q]? = some (.inl (ci, fds))) {C : String} {T : u_T} {N : Nat} (hC : gx_C ci C T N) (k : Nat) (hk : k < N) (hf : fds[k]? = some none) {ref : String} (hlink : Cond.fieldLink own idx ref (T k).2.1 (T k).2.2.1 ∈ gx_G) (href : (T k).1 = ref) (hfin : (T k).2.2.2 = false) {ty : FieldType} {v : Int32} (hd : parseFieldDescriptor (T k).2.2.1 = some ty) (hna : narrow ty (.int v) = .int v) (hfit : fits ty (.int v) = true) (hdg : decode cc pc = .ok (.putfield idx, 3))
    (kk : ∀ (H1 : Heap) (locs1 : List Loc), gx_Y tb ds n0 E s (up2 σ (n + q) k v) τ H1 locs1 → W p l e R s m args below meth c H1 locs1 cells slots Q (F0 m (pc + 3) ls rest)) : W p l e R s m args below meth c H locs cells slots Q (F0 m pc ls (.int v :: .ref (E.2.2 + (n + q)) :: rest)) :=
  gx_putI S hK (hA _) hY.1 (gx_ap hn hT) hC k hk hf hlink href hfin hd hna hfit hdg (fun H1 locs1 h1 h2 => kk H1 locs1 ⟨h1, by rw [h2]; exact hY.2⟩)
theorem y_iast (S : CallFix p m c cc nL s args gx_G own) (hK : gx_K E s) (hA : ∀ t, gx_Ok t n0 E s) (hY : gx_Y tb ds n0 E s σ τ H locs) (hn : tb.length = n) (q : Nat) {N : Nat} {rs : List (Option Nat)} (hT : ds[q]? = some (.inr (0, N, rs))) {i x : Int32} (j : Nat) (hj : i.toNatClampNeg = j) (hin : vp_in i N) (hdg : decode cc pc = .ok (.iastore, 1))
    (kk : ∀ (H1 : Heap) (locs1 : List Loc), gx_Y tb ds n0 E s (up2 σ (n + q) j x) τ H1 locs1 → W p l e R s m args below meth c H1 locs1 cells slots Q (F0 m (pc + 1) ls rest)) : W p l e R s m args below meth c H locs cells slots Q (F0 m pc ls (.int x :: .int i :: .ref (E.2.2 + (n + q)) :: rest)) :=
  gx_iastC S hK (hA _) hY.1 (gx_ap hn hT) j hj hin hdg (fun H1 locs1 h1 h2 => kk H1 locs1 ⟨h1, by rw [h2]; exact hY.2⟩)
theorem y_aast (S : CallFix p m c cc nL s args gx_G own) (hK : gx_K E s) (hA : ∀ t, gx_Ok t n0 E s) (hY : gx_Y tb ds n0 E s σ τ H locs) (hn : tb.length = n) (q v : Nat) {N : Nat} {rs : List (Option Nat)} (hT : ds[q]? = some (.inr (3, N, rs))) {fds : List (Option (Option Nat))} (hv : ds[v]? = some (.inl (7, fds))) {i : Int32} (j : Nat) (hj : i.toNatClampNeg = j) (hin : vp_in i N) (hrs : j < rs.length) (hdg : decode cc pc = .ok (.aastore, 1))
    (kk : ∀ (H1 : Heap) (locs1 : List Loc), gx_Y tb (ds.set q (.inr (3, N, rs.set j (some (n + v))))) n0 E s σ τ H1 locs1 → W p l e R s m args below meth c H1 locs1 cells slots Q (F0 m (pc + 1) ls rest)) : W p l e R s m args below meth c H locs cells slots Q (F0 m pc ls (.ref (E.2.2 + (n + v)) :: .int i :: .ref (E.2.2 + (n + q)) :: rest)) := by
  refine gx_aastC S hK (hA _) hY.1 (gx_ap hn hT) (gx_ap hn hv) j hj hin hrs hdg (fun H1 locs1 h1 h2 => kk H1 locs1 ⟨?_, ?_⟩)
  · rw [gx_aps hn] at h1; exact h1
  · rw [h2, List.length_set]; exact hY.2
theorem y_getr (S : CallFix p m c cc nL s args gx_G own) (hK : gx_K E s) (hY : gx_Y tb ds n0 E s σ τ H locs) (hn : tb.length = n) (q : Nat) {ci j : Nat} {fds : List (Option (Option Nat))} (hT : ds[q]? = some (.inl (ci, fds))) {C : String} {T : u_T} {N : Nat} (hC : gx_C ci C T N) (k : Nat) (hk : k < N) (hf : fds[k]? = some (some (some j))) {ref : String} (hlink : Cond.fieldLink own idx ref (T k).2.1 (T k).2.2.1 ∈ gx_G) (href : (T k).1 = ref) (hdg : decode cc pc = .ok (.getfield idx, 3))
    (kk : W p l e R s m args below meth c H locs cells slots Q (F0 m (pc + 3) ls (.ref (E.2.2 + j) :: rest))) : W p l e R s m args below meth c H locs cells slots Q (F0 m pc ls (.ref (E.2.2 + (n + q)) :: rest)) :=
  gx_getr S hK hY.1 (gx_ap hn hT) hC k hk hf hlink href hdg kk
/-- a maker's own maker is called: its object is the last cell -/
theorem y_cI {b : gD} {dsp news : List gD} {na K : Nat} (S : CallFix p m c cc nL s args gx_G own) (hK : gx_K E s) (hN9 : gx_N s) (hA : ∀ t, gx_Ok t n0 E s) (hY : gx_Y tb (dsp ++ [b]) n0 E s σ τ H locs) (hn : tb.length = n) (hK9 : dsp.length = K) (M : gx_Mc l y cc' mL d mc ms (tb ++ dsp ++ [b]) (tb ++ dsp ++ news) E σ σ' τ (.ref (E.2.2 + (n + K)) :: As)) (w : gx_Wi own idx y cc' mL na) (hR : d + 1 ≤ R.frames ∧ 8 + (mL + 11) + 40 * d ≤ R.locals) (hna : As.length = na) (hls : ls.size = nL) (hst : st = As.reverse ++ .ref (E.2.2 + (n + K)) :: rest) (hW : (rest.map fun v => v.category).sum ≤ 8) (hf : cells + mc ≤ R.cells ∧ slots + ms ≤ R.slots) (hdg : decode cc pc = .ok (.invokespecial idx, 3))
    (kk : ∀ (H1 : Heap) (locs1 : List Loc), gx_Y tb (dsp ++ news) n0 E s σ' τ H1 locs1 → W p l e R s m args below meth c H1 locs1 (cells + mc) (slots + ms) Q (F0 m (pc + 3) ls rest)) : W p l e R s m args below meth c H locs cells slots Q (F0 m pc ls st) := by
  refine gx_cI S hK hN9 (hA _) (by rw [List.append_assoc]; exact hY.1) (by rw [List.append_assoc]; exact y_sz hY) M w hR hna hls hst hW hf hdg (fun H1 locs1 h1 h2 => kk H1 locs1 ⟨?_, ?_⟩)
  · rw [List.append_assoc] at h1; exact h1
  · rw [List.append_assoc, List.length_append] at h2; exact h2
theorem y_cN {b : gD} {dsp news : List gD} {na K : Nat} {host : String} (S : CallFix p m c cc nL s args gx_G own) (hK : gx_K E s) (hN9 : gx_N s) (hA : ∀ t, gx_Ok t n0 E s) (hY : gx_Y tb (dsp ++ [b]) n0 E s σ τ H locs) (hn : tb.length = n) (hK9 : dsp.length = K) (M : gx_Mc l y cc' mL d mc ms (tb ++ dsp ++ [b]) (tb ++ dsp ++ news) E σ σ' τ (.ref (E.2.2 + (n + K)) :: As)) (w : gx_Wn own idx y host cc' mL na) (hR : d + 1 ≤ R.frames ∧ 8 + (mL + 11) + 40 * d ≤ R.locals) (hna : As.length = na) (hls : ls.size = nL) (hst : st = As.reverse ++ .ref (E.2.2 + (n + K)) :: rest) (hW : (rest.map fun v => v.category).sum ≤ 8) (hf : cells + mc ≤ R.cells ∧ slots + ms ≤ R.slots) (hdg : decode cc pc = .ok (.invokespecial idx, 3))
    (kk : ∀ (H1 : Heap) (locs1 : List Loc), gx_Y tb (dsp ++ news) n0 E s σ' τ H1 locs1 → W p l e R s m args below meth c H1 locs1 (cells + mc) (slots + ms) Q (F0 m (pc + 3) ls rest)) : W p l e R s m args below meth c H locs cells slots Q (F0 m pc ls st) := by
  refine gx_cN S hK hN9 (hA _) (by rw [List.append_assoc]; exact hY.1) (by rw [List.append_assoc]; exact y_sz hY) M w hR hna hls hst hW hf hdg (fun H1 locs1 h1 h2 => kk H1 locs1 ⟨?_, ?_⟩)
  · rw [List.append_assoc] at h1; exact h1
  · rw [List.append_assoc, List.length_append] at h2; exact h2
/-- a maker's body and its end -/
theorem y_b {b : gD} {news : List gD} {av : List Value} (hy : plainName y.cls = true) (hlen : (lg_sl av).length ≤ mL)
    (body : ∀ (p : Program) (e : Env) (s : State) (m : MethodId) (below : List Frame) (meth : Method) (c : Code), CallFix p m c cc mL s av.toArray gx_G y.cls → meth.sig.returnType = none → meth.locks = false → meth.name = y.name → gx_K E s → gx_N s → (∀ t, gx_Ok t (tb ++ [b]).length E s) → gx_Y tb [b] (tb ++ [b]).length E s σ τ s.heap [] → ∀ ls : Array Slot, lv_has ls mL (lv_args 0 av) →
      W p l e (gx_rc d mc ms) s m av.toArray below meth c s.heap [] 0 0 (MQ below (va_Qv (fun (_ : Unit) => True) (fun _ t => gx_P (tb ++ news) E σ' τ t.heap ∧ t.heap.size = E.2.2 + (tb ++ news).length) (gx_A (tb ++ [b]).length E.2.2 s.heap.size)) av.toArray s mc ms (gx_A (tb ++ [b]).length E.2.2 s.heap.size)) (F0 m 0 ls [])) : gx_Mc l y cc mL d mc ms (tb ++ [b]) (tb ++ news) E σ σ' τ av := by
  refine gx_bc hy hlen ?_
  intro p e s m below meth c S hr hlk hnm hK hN hz hw ls hl
  exact body p e s m below meth c S hr hlk hnm hK hN (fun t => gx_okc hz) ⟨hw, by rw [List.length_append] at hz; exact hz⟩ ls hl
theorem y_r {b : gD} {news : List gD} (S : CallFix p m c cc nL s args gx_G own) (hr : meth.sig.returnType = none) (hlk : meth.locks = false) (hY : gx_Y tb news (tb ++ [b]).length E s σ' τ H locs) (hdg : decode cc pc = .ok (.return_, 1)) :
    W p l e R s m args below meth c H locs mc ms (MQ below (va_Qv (fun (_ : Unit) => True) (fun _ t => gx_P (tb ++ news) E σ' τ t.heap ∧ t.heap.size = E.2.2 + (tb ++ news).length) (gx_A (tb ++ [b]).length E.2.2 s.heap.size)) args s mc ms (gx_A (tb ++ [b]).length E.2.2 s.heap.size)) (F0 m pc ls []) :=
  gx_rc9 S hr hlk hY.1 (y_sz hY) hdg
end GY
end
section
theorem cl_1 : gx_C 1 RX0 TX0 4 := ⟨rfl, gx_mems _ [341, 343, 345, 347] (by decide +kernel) (by decide +kernel), nmX0, tyX0, tyX0_ok⟩
theorem cl_2 : gx_C 2 RX1 TX1 10 := ⟨rfl, gx_mems _ [387, 389, 391, 393, 395, 397, 399, 401, 403, 405] (by decide +kernel) (by decide +kernel), nmX1, tyX1, tyX1_ok⟩
theorem cl_3 : gx_C 3 RX2 TX2 5 := ⟨rfl, gx_mems _ [247, 249, 251, 253, 255] (by decide +kernel) (by decide +kernel), nmX2, tyX2, tyX2_ok⟩
theorem cl_4 : gx_C 4 RX3 TX3 3 := ⟨rfl, gx_mems _ [323, 325, 327] (by decide +kernel) (by decide +kernel), nmX3, tyX3, tyX3_ok⟩
theorem cl_5 : gx_C 5 RX4 TX4 2 := ⟨rfl, gx_mems _ [359, 361] (by decide +kernel) (by decide +kernel), nmX4, tyX4, tyX4_ok⟩
theorem cl_6 : gx_C 6 RX5 TX5 11 := ⟨rfl, gx_mems _ [213, 215, 217, 219, 221, 223, 225, 227, 229, 231, 233] (by decide +kernel) (by decide +kernel), nmX5, tyX5, tyX5_ok⟩
theorem cl_7 : gx_C 7 RX6 TX6 11 := ⟨rfl, gx_mems _ [287, 289, 291, 293, 295, 297, 299, 301, 303, 305, 307] (by decide +kernel) (by decide +kernel), nmX6, tyX6, tyX6_ok⟩
theorem cl_8 : gx_C 8 RX7 TX7 3 := ⟨rfl, gx_mems _ [134, 136, 138] (by decide +kernel) (by decide +kernel), nmX7, tyX7, tyX7_ok⟩
theorem cl_9 : gx_C 9 RX8 TX8 9 := ⟨rfl, gx_mems _ [162, 164, 166, 168, 170, 172, 174, 176, 178] (by decide +kernel) (by decide +kernel), nmX8, tyX8, tyX8_ok⟩
theorem cl_10 : gx_C 10 RX9 TX9 9 := ⟨rfl, gx_mems _ [427, 429, 431, 433, 435, 437, 439, 441, 443] (by decide +kernel) (by decide +kernel), nmX9, tyX9, tyX9_ok⟩
theorem cl_11 : gx_C 11 RX10 TX10 2 := ⟨rfl, gx_mems _ [189, 191] (by decide +kernel) (by decide +kernel), nmX10, tyX10, tyX10_ok⟩
theorem cl_12 : gx_C 12 RX11 TX11 16 := ⟨rfl, gx_mems _ [463, 465, 467, 469, 471, 473, 475, 477, 479, 481, 483, 485, 487, 489, 491, 493] (by decide +kernel) (by decide +kernel), nmX11, tyX11, tyX11_ok⟩
theorem cl_13 : gx_C 13 RX12 TX12 60 := ⟨rfl, gx_mems _ [1474, 1476, 1478, 1480, 1482, 1484, 1486, 1488, 1490, 1492, 1494, 1496, 1498, 1500, 1502, 1504, 1506, 1508, 1510, 1512, 1514, 1516, 1518, 1520, 1522, 1524, 1526, 1528, 1530, 1532, 1534, 1536, 1538, 1540, 1542, 1544, 1546, 1548, 1550, 1552, 1554, 1556, 1558, 1560, 1562, 1564, 1566, 1568, 1570, 1572, 1574, 1576, 1578, 1580, 1582, 1584, 1586, 1588, 1590, 1592] (by decide +kernel) (by decide +kernel), nmX12, tyX12, tyX12_ok⟩
def gx_tb : List gD := [.inl (12, [some (some 1), some (some 3), some (some 9), some (some 15), some (some 17), some (some 21), some (some 25), some (some 30), some (some 37), some (some 44), some (some 151), none, some (some 152), some (some 156), some (some 158), some (some 160)]), .inl (8, [some (some 2), none, none]), .inr (0, 80, []), .inl (9, [some (some 4), some (some 5), some (some 6), some (some 7), some (some 8), none, none, none, none]), .inr (0, 12, []), .inr (0, 12, []), .inr (0, 12, []), .inr (0, 12, []), .inr (0, 12, []), .inl (9, [some (some 10), some (some 11), some (some 12), some (some 13), some (some 14), none, none, none, none]), .inr (0, 12, []), .inr (0, 12, []), .inr (0, 12, []), .inr (0, 12, []), .inr (0, 12, []), .inl (11, [some (some 16), none]), .inr (0, 40, []), .inl (6, [some (some 18), some (some 19), some (some 20), none, none, none, none, none, none, none, none]), .inr (0, 40, []), .inr (0, 40, []), .inr (0, 40, []), .inl (6, [some (some 22), some (some 23), some (some 24), none, none, none, none, none, none, none, none]), .inr (0, 40, []), .inr (0, 40, []), .inr (0, 40, []), .inl (3, [some (some 26), some (some 27), some (some 28), some (some 29), none]), .inr (0, 20, []), .inr (0, 20, []), .inr (0, 20, []), .inr (0, 20, []), .inl (7, [some (some 31), some (some 32), some (some 33), some (some 34), some (some 35), some (some 36), none, none, none, none, none]), .inr (0, 6, []), .inr (0, 6, []), .inr (0, 6, []), .inr (0, 6, []), .inr (0, 6, []), .inr (0, 6, []), .inl (7, [some (some 38), some (some 39), some (some 40), some (some 41), some (some 42), some (some 43), none, none, none, none, none]), .inr (0, 6, []), .inr (0, 6, []), .inr (0, 6, []), .inr (0, 6, []), .inr (0, 6, []), .inr (0, 6, []), .inl (4, [some (some 45), none, none]), .inr (3, 15, [some 46, some 53, some 60, some 67, some 74, some 81, some 88, some 95, some 102, some 109, some 116, some 123, some 130, some 137, some 144]), .inl (7, [some (some 47), some (some 48), some (some 49), some (some 50), some (some 51), some (some 52), none, none, none, none, none]), .inr (0, 6, []), .inr (0, 6, []), .inr (0, 6, []), .inr (0, 6, []), .inr (0, 6, []), .inr (0, 6, []), .inl (7, [some (some 54), some (some 55), some (some 56), some (some 57), some (some 58), some (some 59), none, none, none, none, none]), .inr (0, 6, []), .inr (0, 6, []), .inr (0, 6, []), .inr (0, 6, []), .inr (0, 6, []), .inr (0, 6, []), .inl (7, [some (some 61), some (some 62), some (some 63), some (some 64), some (some 65), some (some 66), none, none, none, none, none]), .inr (0, 6, []), .inr (0, 6, []), .inr (0, 6, []), .inr (0, 6, []), .inr (0, 6, []), .inr (0, 6, []), .inl (7, [some (some 68), some (some 69), some (some 70), some (some 71), some (some 72), some (some 73), none, none, none, none, none]), .inr (0, 6, []), .inr (0, 6, []), .inr (0, 6, []), .inr (0, 6, []), .inr (0, 6, []), .inr (0, 6, []), .inl (7, [some (some 75), some (some 76), some (some 77), some (some 78), some (some 79), some (some 80), none, none, none, none, none]), .inr (0, 6, []), .inr (0, 6, []), .inr (0, 6, []), .inr (0, 6, []), .inr (0, 6, []), .inr (0, 6, []), .inl (7, [some (some 82), some (some 83), some (some 84), some (some 85), some (some 86), some (some 87), none, none, none, none, none]), .inr (0, 6, []), .inr (0, 6, []), .inr (0, 6, []), .inr (0, 6, []), .inr (0, 6, []), .inr (0, 6, []), .inl (7, [some (some 89), some (some 90), some (some 91), some (some 92), some (some 93), some (some 94), none, none, none, none, none]), .inr (0, 6, []), .inr (0, 6, []), .inr (0, 6, []), .inr (0, 6, []), .inr (0, 6, []), .inr (0, 6, []), .inl (7, [some (some 96), some (some 97), some (some 98), some (some 99), some (some 100), some (some 101), none, none, none, none, none]), .inr (0, 6, []), .inr (0, 6, []), .inr (0, 6, []), .inr (0, 6, []), .inr (0, 6, []), .inr (0, 6, []), .inl (7, [some (some 103), some (some 104), some (some 105), some (some 106), some (some 107), some (some 108), none, none, none, none, none]), .inr (0, 6, []), .inr (0, 6, []), .inr (0, 6, []), .inr (0, 6, []), .inr (0, 6, []), .inr (0, 6, []), .inl (7, [some (some 110), some (some 111), some (some 112), some (some 113), some (some 114), some (some 115), none, none, none, none, none]), .inr (0, 6, []), .inr (0, 6, []), .inr (0, 6, []), .inr (0, 6, []), .inr (0, 6, []), .inr (0, 6, []), .inl (7, [some (some 117), some (some 118), some (some 119), some (some 120), some (some 121), some (some 122), none, none, none, none, none]), .inr (0, 6, []), .inr (0, 6, []), .inr (0, 6, []), .inr (0, 6, []), .inr (0, 6, []), .inr (0, 6, []), .inl (7, [some (some 124), some (some 125), some (some 126), some (some 127), some (some 128), some (some 129), none, none, none, none, none]), .inr (0, 6, []), .inr (0, 6, []), .inr (0, 6, []), .inr (0, 6, []), .inr (0, 6, []), .inr (0, 6, []), .inl (7, [some (some 131), some (some 132), some (some 133), some (some 134), some (some 135), some (some 136), none, none, none, none, none]), .inr (0, 6, []), .inr (0, 6, []), .inr (0, 6, []), .inr (0, 6, []), .inr (0, 6, []), .inr (0, 6, []), .inl (7, [some (some 138), some (some 139), some (some 140), some (some 141), some (some 142), some (some 143), none, none, none, none, none]), .inr (0, 6, []), .inr (0, 6, []), .inr (0, 6, []), .inr (0, 6, []), .inr (0, 6, []), .inr (0, 6, []), .inl (7, [some (some 145), some (some 146), some (some 147), some (some 148), some (some 149), some (some 150), none, none, none, none, none]), .inr (0, 6, []), .inr (0, 6, []), .inr (0, 6, []), .inr (0, 6, []), .inr (0, 6, []), .inr (0, 6, []), .inr (3, 3, [some 178, some 185, some 192]), .inl (1, [some (some 153), some (some 154), some (some 155), none]), .inr (0, 10, []), .inr (0, 10, []), .inr (0, 10, []), .inl (5, [some (some 157), none]), .inr (1, 3, []), .inl (2, [some (some 3), some (some 15), some (some 17), some (some 159), none, none, none, none, none, none]), .inr (0, 8, []), .inl (10, [some (some 3), some (some 158), some (some 161), some (some 162), some (some 163), none, none, some (some 164), some (some 171)]), .inr (0, 4096, []), .inr (2, 4096, []), .inr (0, 13, []), .inl (7, [some (some 165), some (some 166), some (some 167), some (some 168), some (some 169), some (some 170), none, none, none, none, none]), .inr (0, 6, []), .inr (0, 6, []), .inr (0, 6, []), .inr (0, 6, []), .inr (0, 6, []), .inr (0, 6, []), .inl (7, [some (some 172), some (some 173), some (some 174), some (some 175), some (some 176), some (some 177), none, none, none, none, none]), .inr (0, 6, []), .inr (0, 6, []), .inr (0, 6, []), .inr (0, 6, []), .inr (0, 6, []), .inr (0, 6, []), .inl (7, [some (some 179), some (some 180), some (some 181), some (some 182), some (some 183), some (some 184), none, none, none, none, none]), .inr (0, 6, []), .inr (0, 6, []), .inr (0, 6, []), .inr (0, 6, []), .inr (0, 6, []), .inr (0, 6, []), .inl (7, [some (some 186), some (some 187), some (some 188), some (some 189), some (some 190), some (some 191), none, none, none, none, none]), .inr (0, 6, []), .inr (0, 6, []), .inr (0, 6, []), .inr (0, 6, []), .inr (0, 6, []), .inr (0, 6, []), .inl (7, [some (some 193), some (some 194), some (some 195), some (some 196), some (some 197), some (some 198), none, none, none, none, none]), .inr (0, 6, []), .inr (0, 6, []), .inr (0, 6, []), .inr (0, 6, []), .inr (0, 6, []), .inr (0, 6, []), .inl (13, [none, none, some (some 200), none, none, some (some 201), some (some 202), some (some 203), some (some 204), some (some 205), some (some 206), some (some 207), some (some 208), none, none, none, none, some (some 209), some (some 210), some (some 211), some (some 212), none, some (some 213), some (some 214), none, some (some 215), some (some 216), some (some 217), none, none, some (some 218), none, none, none, none, none, none, some (some 219), some (some 220), some (some 221), some (some 222), some (some 223), none, none, some (some 224), none, none, some (some 225), none, none, none, none, none, some (some 226), some (some 227), some (some 228), some (some 229), some (some 230), some (some 231), some (some 232)]), .inr (1, 16, []), .inr (0, 12, []), .inr (0, 12, []), .inr (0, 12, []), .inr (0, 12, []), .inr (0, 40, []), .inr (0, 45, []), .inr (0, 45, []), .inr (0, 80, []), .inr (0, 12, []), .inr (0, 12, []), .inr (0, 12, []), .inr (0, 12, []), .inr (0, 80, []), .inr (0, 80, []), .inr (0, 40, []), .inr (0, 80, []), .inr (0, 80, []), .inr (0, 80, []), .inr (0, 720, []), .inr (0, 60, []), .inr (0, 60, []), .inr (0, 60, []), .inr (0, 60, []), .inr (0, 45, []), .inr (0, 4096, []), .inr (0, 10, []), .inr (0, 10, []), .inr (0, 10, []), .inr (2, 4096, []), .inr (0, 13, []), .inr (2, 3, []), .inr (0, 135, []), .inr (1, 1, [])]
def gs0 : gI := up2 (up2 (up2 (up2 (up2 (up2 ((fun _ _ => 0 : gI)) 3 8 1) 9 8 1) 17 3 1) 17 9 1) 21 3 1) 21 9 1
def gt0 : gJ := fun _ _ => 0
end
section
theorem mw_90 : (Cond.initialized RX7) ∈ gx_G := gx_mem 90 (by decide +kernel) (by decide +kernel)
theorem mw_91 : (Cond.initialized RX8) ∈ gx_G := gx_mem 91 (by decide +kernel) (by decide +kernel)
theorem mw_92 : (Cond.initialized RX10) ∈ gx_G := gx_mem 92 (by decide +kernel) (by decide +kernel)
theorem mw_93 : (Cond.initialized RX5) ∈ gx_G := gx_mem 93 (by decide +kernel) (by decide +kernel)
theorem mw_94 : (Cond.initialized RX2) ∈ gx_G := gx_mem 94 (by decide +kernel) (by decide +kernel)
theorem mw_95 : (Cond.initialized RX6) ∈ gx_G := gx_mem 95 (by decide +kernel) (by decide +kernel)
theorem mw_96 : (Cond.initialized RX3) ∈ gx_G := gx_mem 96 (by decide +kernel) (by decide +kernel)
theorem mw_97 : (Cond.initialized RX0) ∈ gx_G := gx_mem 97 (by decide +kernel) (by decide +kernel)
theorem mw_98 : (Cond.initialized RX4) ∈ gx_G := gx_mem 98 (by decide +kernel) (by decide +kernel)
theorem mw_99 : (Cond.initialized RX1) ∈ gx_G := gx_mem 99 (by decide +kernel) (by decide +kernel)
theorem mw_100 : (Cond.initialized RX9) ∈ gx_G := gx_mem 100 (by decide +kernel) (by decide +kernel)
theorem mw_120 : (Cond.methodLink RX11 3 objectInit) ∈ gx_G := gx_mem 120 (by decide +kernel) (by decide +kernel)
theorem mw_121 : (Cond.instanceMethod objectInit) ∈ gx_G := gx_mem 121 (by decide +kernel) (by decide +kernel)
theorem mw_122 : (Cond.code objectInit ⟨#[0xb1]⟩ 1 none) ∈ gx_G := gx_mem 122 (by decide +kernel) (by decide +kernel)
theorem mw_123 : (Cond.classLink RX11 9 RX7) ∈ gx_G := gx_mem 123 (by decide +kernel) (by decide +kernel)
theorem mw_124 : (Cond.instantiable RX7 3) ∈ gx_G := gx_mem 124 (by decide +kernel) (by decide +kernel)
theorem mw_126 : (Cond.instanceMethod yX7_init) ∈ gx_G := gx_mem 126 (by decide +kernel) (by decide +kernel)
theorem mw_127 : (Cond.code yX7_init cX7_init 1 none) ∈ gx_G := gx_mem 127 (by decide +kernel) (by decide +kernel)
theorem mw_128 : (Cond.methodLink RX7 3 objectInit) ∈ gx_G := gx_mem 128 (by decide +kernel) (by decide +kernel)
theorem mw_129 : (Cond.fieldLink RX7 11 "DownTheGutter$Signs" "signs" "[I") ∈ gx_G := gx_mem 129 (by decide +kernel) (by decide +kernel)
theorem mw_141 : (Cond.arrayClass .int) ∈ gx_G := gx_mem 141 (by decide +kernel) (by decide +kernel)
theorem mw_142 : (Cond.classLink RX11 16 RX8) ∈ gx_G := gx_mem 142 (by decide +kernel) (by decide +kernel)
theorem mw_143 : (Cond.instantiable RX8 9) ∈ gx_G := gx_mem 143 (by decide +kernel) (by decide +kernel)
theorem mw_145 : (Cond.instanceMethod yX8_init) ∈ gx_G := gx_mem 145 (by decide +kernel) (by decide +kernel)
theorem mw_146 : (Cond.code yX8_init cX8_init 1 none) ∈ gx_G := gx_mem 146 (by decide +kernel) (by decide +kernel)
theorem mw_147 : (Cond.methodLink RX8 3 objectInit) ∈ gx_G := gx_mem 147 (by decide +kernel) (by decide +kernel)
theorem mw_148 : (Cond.fieldLink RX8 9 "DownTheGutter$Town" "kinds" "[I") ∈ gx_G := gx_mem 148 (by decide +kernel) (by decide +kernel)
theorem mw_149 : (Cond.fieldLink RX8 15 "DownTheGutter$Town" "nexts" "[I") ∈ gx_G := gx_mem 149 (by decide +kernel) (by decide +kernel)
theorem mw_150 : (Cond.fieldLink RX8 18 "DownTheGutter$Town" "seconds" "[I") ∈ gx_G := gx_mem 150 (by decide +kernel) (by decide +kernel)
theorem mw_151 : (Cond.fieldLink RX8 21 "DownTheGutter$Town" "figures" "[I") ∈ gx_G := gx_mem 151 (by decide +kernel) (by decide +kernel)
theorem mw_152 : (Cond.fieldLink RX8 24 "DownTheGutter$Town" "firstUse" "[I") ∈ gx_G := gx_mem 152 (by decide +kernel) (by decide +kernel)
theorem mw_159 : (Cond.fieldLink RX8 27 "DownTheGutter$Town" "sets" "I") ∈ gx_G := gx_mem 159 (by decide +kernel) (by decide +kernel)
theorem mw_181 : (Cond.classLink RX11 26 RX10) ∈ gx_G := gx_mem 181 (by decide +kernel) (by decide +kernel)
theorem mw_182 : (Cond.instantiable RX10 2) ∈ gx_G := gx_mem 182 (by decide +kernel) (by decide +kernel)
theorem mw_184 : (Cond.instanceMethod yX10_init) ∈ gx_G := gx_mem 184 (by decide +kernel) (by decide +kernel)
theorem mw_185 : (Cond.code yX10_init cX10_init 1 none) ∈ gx_G := gx_mem 185 (by decide +kernel) (by decide +kernel)
theorem mw_186 : (Cond.methodLink RX10 3 objectInit) ∈ gx_G := gx_mem 186 (by decide +kernel) (by decide +kernel)
theorem mw_187 : (Cond.fieldLink RX10 11 "DownTheGutter$Water" "digits" "[I") ∈ gx_G := gx_mem 187 (by decide +kernel) (by decide +kernel)
theorem mw_194 : (Cond.classLink RX11 33 RX5) ∈ gx_G := gx_mem 194 (by decide +kernel) (by decide +kernel)
theorem mw_195 : (Cond.instantiable RX5 11) ∈ gx_G := gx_mem 195 (by decide +kernel) (by decide +kernel)
theorem mw_196 : (Cond.methodLink RX11 35 yX5_init) ∈ gx_G := gx_mem 196 (by decide +kernel) (by decide +kernel)
theorem mw_197 : (Cond.instanceMethod yX5_init) ∈ gx_G := gx_mem 197 (by decide +kernel) (by decide +kernel)
theorem mw_198 : (Cond.code yX5_init cX5_init 1 none) ∈ gx_G := gx_mem 198 (by decide +kernel) (by decide +kernel)
theorem mw_199 : (Cond.methodLink RX5 1 objectInit) ∈ gx_G := gx_mem 199 (by decide +kernel) (by decide +kernel)
theorem mw_200 : (Cond.fieldLink RX5 9 "DownTheGutter$Rule" "steps" "[I") ∈ gx_G := gx_mem 200 (by decide +kernel) (by decide +kernel)
theorem mw_201 : (Cond.fieldLink RX5 13 "DownTheGutter$Rule" "stack" "[I") ∈ gx_G := gx_mem 201 (by decide +kernel) (by decide +kernel)
theorem mw_202 : (Cond.fieldLink RX5 16 "DownTheGutter$Rule" "held" "[I") ∈ gx_G := gx_mem 202 (by decide +kernel) (by decide +kernel)
theorem mw_203 : (Cond.fieldLink RX5 19 "DownTheGutter$Rule" "size" "I") ∈ gx_G := gx_mem 203 (by decide +kernel) (by decide +kernel)
theorem mw_209 : (Cond.fieldLink RX5 23 "DownTheGutter$Rule" "asksPlank" "Z") ∈ gx_G := gx_mem 209 (by decide +kernel) (by decide +kernel)
theorem mw_236 : (Cond.classLink RX11 43 RX2) ∈ gx_G := gx_mem 236 (by decide +kernel) (by decide +kernel)
theorem mw_237 : (Cond.instantiable RX2 5) ∈ gx_G := gx_mem 237 (by decide +kernel) (by decide +kernel)
theorem mw_239 : (Cond.instanceMethod yX2_init) ∈ gx_G := gx_mem 239 (by decide +kernel) (by decide +kernel)
theorem mw_240 : (Cond.code yX2_init cX2_init 1 none) ∈ gx_G := gx_mem 240 (by decide +kernel) (by decide +kernel)
theorem mw_241 : (Cond.methodLink RX2 1 objectInit) ∈ gx_G := gx_mem 241 (by decide +kernel) (by decide +kernel)
theorem mw_242 : (Cond.fieldLink RX2 9 "DownTheGutter$Diary" "kinds" "[I") ∈ gx_G := gx_mem 242 (by decide +kernel) (by decide +kernel)
theorem mw_243 : (Cond.fieldLink RX2 13 "DownTheGutter$Diary" "firsts" "[I") ∈ gx_G := gx_mem 243 (by decide +kernel) (by decide +kernel)
theorem mw_244 : (Cond.fieldLink RX2 16 "DownTheGutter$Diary" "seconds" "[I") ∈ gx_G := gx_mem 244 (by decide +kernel) (by decide +kernel)
theorem mw_245 : (Cond.fieldLink RX2 19 "DownTheGutter$Diary" "thirds" "[I") ∈ gx_G := gx_mem 245 (by decide +kernel) (by decide +kernel)
theorem mw_258 : (Cond.classLink RX11 50 RX6) ∈ gx_G := gx_mem 258 (by decide +kernel) (by decide +kernel)
theorem mw_259 : (Cond.instantiable RX6 11) ∈ gx_G := gx_mem 259 (by decide +kernel) (by decide +kernel)
theorem mw_261 : (Cond.instanceMethod yX6_init) ∈ gx_G := gx_mem 261 (by decide +kernel) (by decide +kernel)
theorem mw_262 : (Cond.code yX6_init cX6_init 1 none) ∈ gx_G := gx_mem 262 (by decide +kernel) (by decide +kernel)
theorem mw_263 : (Cond.methodLink RX6 3 objectInit) ∈ gx_G := gx_mem 263 (by decide +kernel) (by decide +kernel)
theorem mw_264 : (Cond.fieldLink RX6 9 "DownTheGutter$Scene" "spots" "[I") ∈ gx_G := gx_mem 264 (by decide +kernel) (by decide +kernel)
theorem mw_265 : (Cond.fieldLink RX6 15 "DownTheGutter$Scene" "papers" "[I") ∈ gx_G := gx_mem 265 (by decide +kernel) (by decide +kernel)
theorem mw_266 : (Cond.fieldLink RX6 18 "DownTheGutter$Scene" "purses" "[I") ∈ gx_G := gx_mem 266 (by decide +kernel) (by decide +kernel)
theorem mw_267 : (Cond.fieldLink RX6 21 "DownTheGutter$Scene" "trails" "[I") ∈ gx_G := gx_mem 267 (by decide +kernel) (by decide +kernel)
theorem mw_268 : (Cond.fieldLink RX6 24 "DownTheGutter$Scene" "starts" "[I") ∈ gx_G := gx_mem 268 (by decide +kernel) (by decide +kernel)
theorem mw_269 : (Cond.fieldLink RX6 27 "DownTheGutter$Scene" "ends" "[I") ∈ gx_G := gx_mem 269 (by decide +kernel) (by decide +kernel)
theorem mw_310 : (Cond.classLink RX11 60 RX3) ∈ gx_G := gx_mem 310 (by decide +kernel) (by decide +kernel)
theorem mw_311 : (Cond.instantiable RX3 3) ∈ gx_G := gx_mem 311 (by decide +kernel) (by decide +kernel)
theorem mw_312 : (Cond.methodLink RX11 62 yX3_init) ∈ gx_G := gx_mem 312 (by decide +kernel) (by decide +kernel)
theorem mw_313 : (Cond.instanceMethod yX3_init) ∈ gx_G := gx_mem 313 (by decide +kernel) (by decide +kernel)
theorem mw_314 : (Cond.code yX3_init cX3_init 2 none) ∈ gx_G := gx_mem 314 (by decide +kernel) (by decide +kernel)
theorem mw_315 : (Cond.methodLink RX3 1 objectInit) ∈ gx_G := gx_mem 315 (by decide +kernel) (by decide +kernel)
theorem mw_316 : (Cond.classLink RX3 9 RX6) ∈ gx_G := gx_mem 316 (by decide +kernel) (by decide +kernel)
theorem mw_319 : (Cond.fieldLink RX3 11 "DownTheGutter$Past" "scenes" "[LDownTheGutter$Scene;") ∈ gx_G := gx_mem 319 (by decide +kernel) (by decide +kernel)
theorem mw_330 : (Cond.classLink RX11 71 RX0) ∈ gx_G := gx_mem 330 (by decide +kernel) (by decide +kernel)
theorem mw_331 : (Cond.instantiable RX0 4) ∈ gx_G := gx_mem 331 (by decide +kernel) (by decide +kernel)
theorem mw_333 : (Cond.instanceMethod yX0_init) ∈ gx_G := gx_mem 333 (by decide +kernel) (by decide +kernel)
theorem mw_334 : (Cond.code yX0_init cX0_init 1 none) ∈ gx_G := gx_mem 334 (by decide +kernel) (by decide +kernel)
theorem mw_335 : (Cond.methodLink RX0 3 objectInit) ∈ gx_G := gx_mem 335 (by decide +kernel) (by decide +kernel)
theorem mw_336 : (Cond.fieldLink RX0 9 "DownTheGutter$Corks" "spots" "[I") ∈ gx_G := gx_mem 336 (by decide +kernel) (by decide +kernel)
theorem mw_337 : (Cond.fieldLink RX0 15 "DownTheGutter$Corks" "minutes" "[I") ∈ gx_G := gx_mem 337 (by decide +kernel) (by decide +kernel)
theorem mw_338 : (Cond.fieldLink RX0 18 "DownTheGutter$Corks" "ends" "[I") ∈ gx_G := gx_mem 338 (by decide +kernel) (by decide +kernel)
theorem mw_350 : (Cond.classLink RX11 78 RX4) ∈ gx_G := gx_mem 350 (by decide +kernel) (by decide +kernel)
theorem mw_351 : (Cond.instantiable RX4 2) ∈ gx_G := gx_mem 351 (by decide +kernel) (by decide +kernel)
theorem mw_353 : (Cond.instanceMethod yX4_init) ∈ gx_G := gx_mem 353 (by decide +kernel) (by decide +kernel)
theorem mw_354 : (Cond.code yX4_init cX4_init 1 none) ∈ gx_G := gx_mem 354 (by decide +kernel) (by decide +kernel)
theorem mw_355 : (Cond.methodLink RX4 1 objectInit) ∈ gx_G := gx_mem 355 (by decide +kernel) (by decide +kernel)
theorem mw_356 : (Cond.fieldLink RX4 9 "DownTheGutter$Row" "numbers" "[J") ∈ gx_G := gx_mem 356 (by decide +kernel) (by decide +kernel)
theorem mw_364 : (Cond.arrayClass .long) ∈ gx_G := gx_mem 364 (by decide +kernel) (by decide +kernel)
theorem mw_365 : (Cond.classLink RX11 85 RX1) ∈ gx_G := gx_mem 365 (by decide +kernel) (by decide +kernel)
theorem mw_366 : (Cond.instantiable RX1 10) ∈ gx_G := gx_mem 366 (by decide +kernel) (by decide +kernel)
theorem mw_367 : (Cond.methodLink RX11 87 yX1_init) ∈ gx_G := gx_mem 367 (by decide +kernel) (by decide +kernel)
theorem mw_368 : (Cond.instanceMethod yX1_init) ∈ gx_G := gx_mem 368 (by decide +kernel) (by decide +kernel)
theorem mw_369 : (Cond.code yX1_init cX1_init 4 none) ∈ gx_G := gx_mem 369 (by decide +kernel) (by decide +kernel)
theorem mw_370 : (Cond.methodLink RX1 3 objectInit) ∈ gx_G := gx_mem 370 (by decide +kernel) (by decide +kernel)
theorem mw_371 : (Cond.fieldLink RX1 17 "DownTheGutter$Current" "town" "LDownTheGutter$Town;") ∈ gx_G := gx_mem 371 (by decide +kernel) (by decide +kernel)
theorem mw_372 : (Cond.fieldLink RX1 21 "DownTheGutter$Current" "water" "LDownTheGutter$Water;") ∈ gx_G := gx_mem 372 (by decide +kernel) (by decide +kernel)
theorem mw_373 : (Cond.fieldLink RX1 25 "DownTheGutter$Current" "rule" "LDownTheGutter$Rule;") ∈ gx_G := gx_mem 373 (by decide +kernel) (by decide +kernel)
theorem mw_374 : (Cond.fieldLink RX1 11 "DownTheGutter$Current" "facts" "[I") ∈ gx_G := gx_mem 374 (by decide +kernel) (by decide +kernel)
theorem mw_408 : (Cond.classLink RX11 94 RX9) ∈ gx_G := gx_mem 408 (by decide +kernel) (by decide +kernel)
theorem mw_409 : (Cond.instantiable RX9 9) ∈ gx_G := gx_mem 409 (by decide +kernel) (by decide +kernel)
theorem mw_410 : (Cond.methodLink RX11 96 yX9_init) ∈ gx_G := gx_mem 410 (by decide +kernel) (by decide +kernel)
theorem mw_411 : (Cond.instanceMethod yX9_init) ∈ gx_G := gx_mem 411 (by decide +kernel) (by decide +kernel)
theorem mw_412 : (Cond.code yX9_init cX9_init 3 none) ∈ gx_G := gx_mem 412 (by decide +kernel) (by decide +kernel)
theorem mw_413 : (Cond.methodLink RX9 3 objectInit) ∈ gx_G := gx_mem 413 (by decide +kernel) (by decide +kernel)
theorem mw_414 : (Cond.classLink RX9 22 RX6) ∈ gx_G := gx_mem 414 (by decide +kernel) (by decide +kernel)
theorem mw_416 : (Cond.fieldLink RX9 32 "DownTheGutter$Trials" "town" "LDownTheGutter$Town;") ∈ gx_G := gx_mem 416 (by decide +kernel) (by decide +kernel)
theorem mw_417 : (Cond.fieldLink RX9 36 "DownTheGutter$Trials" "current" "LDownTheGutter$Current;") ∈ gx_G := gx_mem 417 (by decide +kernel) (by decide +kernel)
theorem mw_418 : (Cond.fieldLink RX9 9 "DownTheGutter$Trials" "tells" "[I") ∈ gx_G := gx_mem 418 (by decide +kernel) (by decide +kernel)
theorem mw_419 : (Cond.fieldLink RX9 15 "DownTheGutter$Trials" "fitting" "[Z") ∈ gx_G := gx_mem 419 (by decide +kernel) (by decide +kernel)
theorem mw_420 : (Cond.fieldLink RX9 19 "DownTheGutter$Trials" "tallies" "[I") ∈ gx_G := gx_mem 420 (by decide +kernel) (by decide +kernel)
theorem mw_423 : (Cond.fieldLink RX9 25 "DownTheGutter$Trials" "start" "LDownTheGutter$Scene;") ∈ gx_G := gx_mem 423 (by decide +kernel) (by decide +kernel)
theorem mw_425 : (Cond.fieldLink RX9 29 "DownTheGutter$Trials" "scene" "LDownTheGutter$Scene;") ∈ gx_G := gx_mem 425 (by decide +kernel) (by decide +kernel)
theorem mw_446 : (Cond.arrayClass .boolean) ∈ gx_G := gx_mem 446 (by decide +kernel) (by decide +kernel)
theorem mw_447 : (Cond.fieldLink RX11 12 "DownTheGutter" "text" "LDownTheGutter$Signs;") ∈ gx_G := gx_mem 447 (by decide +kernel) (by decide +kernel)
theorem mw_448 : (Cond.fieldLink RX11 19 "DownTheGutter" "town" "LDownTheGutter$Town;") ∈ gx_G := gx_mem 448 (by decide +kernel) (by decide +kernel)
theorem mw_449 : (Cond.fieldLink RX11 23 "DownTheGutter" "draftTown" "LDownTheGutter$Town;") ∈ gx_G := gx_mem 449 (by decide +kernel) (by decide +kernel)
theorem mw_450 : (Cond.fieldLink RX11 29 "DownTheGutter" "water" "LDownTheGutter$Water;") ∈ gx_G := gx_mem 450 (by decide +kernel) (by decide +kernel)
theorem mw_451 : (Cond.fieldLink RX11 36 "DownTheGutter" "rule" "LDownTheGutter$Rule;") ∈ gx_G := gx_mem 451 (by decide +kernel) (by decide +kernel)
theorem mw_452 : (Cond.fieldLink RX11 40 "DownTheGutter" "draftRule" "LDownTheGutter$Rule;") ∈ gx_G := gx_mem 452 (by decide +kernel) (by decide +kernel)
theorem mw_453 : (Cond.fieldLink RX11 46 "DownTheGutter" "diary" "LDownTheGutter$Diary;") ∈ gx_G := gx_mem 453 (by decide +kernel) (by decide +kernel)
theorem mw_454 : (Cond.fieldLink RX11 53 "DownTheGutter" "present" "LDownTheGutter$Scene;") ∈ gx_G := gx_mem 454 (by decide +kernel) (by decide +kernel)
theorem mw_455 : (Cond.fieldLink RX11 57 "DownTheGutter" "before" "LDownTheGutter$Scene;") ∈ gx_G := gx_mem 455 (by decide +kernel) (by decide +kernel)
theorem mw_456 : (Cond.fieldLink RX11 63 "DownTheGutter" "past" "LDownTheGutter$Past;") ∈ gx_G := gx_mem 456 (by decide +kernel) (by decide +kernel)
theorem mw_457 : (Cond.fieldLink RX11 67 "DownTheGutter" "kept" "[LDownTheGutter$Scene;") ∈ gx_G := gx_mem 457 (by decide +kernel) (by decide +kernel)
theorem mw_459 : (Cond.fieldLink RX11 74 "DownTheGutter" "corks" "LDownTheGutter$Corks;") ∈ gx_G := gx_mem 459 (by decide +kernel) (by decide +kernel)
theorem mw_460 : (Cond.fieldLink RX11 81 "DownTheGutter" "row" "LDownTheGutter$Row;") ∈ gx_G := gx_mem 460 (by decide +kernel) (by decide +kernel)
theorem mw_461 : (Cond.fieldLink RX11 90 "DownTheGutter" "current" "LDownTheGutter$Current;") ∈ gx_G := gx_mem 461 (by decide +kernel) (by decide +kernel)
theorem mw_462 : (Cond.fieldLink RX11 99 "DownTheGutter" "trials" "LDownTheGutter$Trials;") ∈ gx_G := gx_mem 462 (by decide +kernel) (by decide +kernel)
theorem mw_1413 : (Cond.methodLink RX12 3 objectInit) ∈ gx_G := gx_mem 1413 (by decide +kernel) (by decide +kernel)
theorem mw_1416 : (Cond.fieldLink RX12 9 "DownTheGutterModel" "row" "[J") ∈ gx_G := gx_mem 1416 (by decide +kernel) (by decide +kernel)
theorem mw_1419 : (Cond.fieldLink RX12 13 "DownTheGutterModel" "kind" "[I") ∈ gx_G := gx_mem 1419 (by decide +kernel) (by decide +kernel)
theorem mw_1420 : (Cond.fieldLink RX12 17 "DownTheGutterModel" "goes" "[I") ∈ gx_G := gx_mem 1420 (by decide +kernel) (by decide +kernel)
theorem mw_1421 : (Cond.fieldLink RX12 20 "DownTheGutterModel" "second" "[I") ∈ gx_G := gx_mem 1421 (by decide +kernel) (by decide +kernel)
theorem mw_1422 : (Cond.fieldLink RX12 23 "DownTheGutterModel" "number" "[I") ∈ gx_G := gx_mem 1422 (by decide +kernel) (by decide +kernel)
theorem mw_1423 : (Cond.fieldLink RX12 26 "DownTheGutterModel" "waters" "[I") ∈ gx_G := gx_mem 1423 (by decide +kernel) (by decide +kernel)
theorem mw_1424 : (Cond.fieldLink RX12 29 "DownTheGutterModel" "now" "[I") ∈ gx_G := gx_mem 1424 (by decide +kernel) (by decide +kernel)
theorem mw_1425 : (Cond.fieldLink RX12 32 "DownTheGutterModel" "then" "[I") ∈ gx_G := gx_mem 1425 (by decide +kernel) (by decide +kernel)
theorem mw_1426 : (Cond.fieldLink RX12 35 "DownTheGutterModel" "tape" "[I") ∈ gx_G := gx_mem 1426 (by decide +kernel) (by decide +kernel)
theorem mw_1431 : (Cond.fieldLink RX12 38 "DownTheGutterModel" "readKind" "[I") ∈ gx_G := gx_mem 1431 (by decide +kernel) (by decide +kernel)
theorem mw_1432 : (Cond.fieldLink RX12 41 "DownTheGutterModel" "readGoes" "[I") ∈ gx_G := gx_mem 1432 (by decide +kernel) (by decide +kernel)
theorem mw_1433 : (Cond.fieldLink RX12 44 "DownTheGutterModel" "readSecond" "[I") ∈ gx_G := gx_mem 1433 (by decide +kernel) (by decide +kernel)
theorem mw_1434 : (Cond.fieldLink RX12 47 "DownTheGutterModel" "readNumber" "[I") ∈ gx_G := gx_mem 1434 (by decide +kernel) (by decide +kernel)
theorem mw_1436 : (Cond.fieldLink RX12 50 "DownTheGutterModel" "meant" "[I") ∈ gx_G := gx_mem 1436 (by decide +kernel) (by decide +kernel)
theorem mw_1437 : (Cond.fieldLink RX12 53 "DownTheGutterModel" "stood" "[I") ∈ gx_G := gx_mem 1437 (by decide +kernel) (by decide +kernel)
theorem mw_1439 : (Cond.fieldLink RX12 56 "DownTheGutterModel" "readWaters" "[I") ∈ gx_G := gx_mem 1439 (by decide +kernel) (by decide +kernel)
theorem mw_1440 : (Cond.fieldLink RX12 59 "DownTheGutterModel" "code" "[I") ∈ gx_G := gx_mem 1440 (by decide +kernel) (by decide +kernel)
theorem mw_1441 : (Cond.fieldLink RX12 62 "DownTheGutterModel" "readCode" "[I") ∈ gx_G := gx_mem 1441 (by decide +kernel) (by decide +kernel)
theorem mw_1444 : (Cond.fieldLink RX12 65 "DownTheGutterModel" "stack" "[I") ∈ gx_G := gx_mem 1444 (by decide +kernel) (by decide +kernel)
theorem mw_1451 : (Cond.fieldLink RX12 68 "DownTheGutterModel" "undone" "[I") ∈ gx_G := gx_mem 1451 (by decide +kernel) (by decide +kernel)
theorem mw_1452 : (Cond.fieldLink RX12 71 "DownTheGutterModel" "actSign" "[I") ∈ gx_G := gx_mem 1452 (by decide +kernel) (by decide +kernel)
theorem mw_1453 : (Cond.fieldLink RX12 74 "DownTheGutterModel" "actOne" "[I") ∈ gx_G := gx_mem 1453 (by decide +kernel) (by decide +kernel)
theorem mw_1454 : (Cond.fieldLink RX12 77 "DownTheGutterModel" "actTwo" "[I") ∈ gx_G := gx_mem 1454 (by decide +kernel) (by decide +kernel)
theorem mw_1455 : (Cond.fieldLink RX12 80 "DownTheGutterModel" "actThree" "[I") ∈ gx_G := gx_mem 1455 (by decide +kernel) (by decide +kernel)
theorem mw_1458 : (Cond.fieldLink RX12 83 "DownTheGutterModel" "alone" "[I") ∈ gx_G := gx_mem 1458 (by decide +kernel) (by decide +kernel)
theorem mw_1461 : (Cond.fieldLink RX12 86 "DownTheGutterModel" "played" "[I") ∈ gx_G := gx_mem 1461 (by decide +kernel) (by decide +kernel)
theorem mw_1467 : (Cond.fieldLink RX12 89 "DownTheGutterModel" "corkPlace" "[I") ∈ gx_G := gx_mem 1467 (by decide +kernel) (by decide +kernel)
theorem mw_1468 : (Cond.fieldLink RX12 92 "DownTheGutterModel" "corkMinute" "[I") ∈ gx_G := gx_mem 1468 (by decide +kernel) (by decide +kernel)
theorem mw_1469 : (Cond.fieldLink RX12 95 "DownTheGutterModel" "corkHome" "[I") ∈ gx_G := gx_mem 1469 (by decide +kernel) (by decide +kernel)
theorem mw_1470 : (Cond.fieldLink RX12 98 "DownTheGutterModel" "fits" "[Z") ∈ gx_G := gx_mem 1470 (by decide +kernel) (by decide +kernel)
theorem mw_1471 : (Cond.fieldLink RX12 102 "DownTheGutterModel" "parts" "[I") ∈ gx_G := gx_mem 1471 (by decide +kernel) (by decide +kernel)
theorem mw_1472 : (Cond.fieldLink RX12 105 "DownTheGutterModel" "isKept" "[Z") ∈ gx_G := gx_mem 1472 (by decide +kernel) (by decide +kernel)
theorem mw_1473 : (Cond.fieldLink RX12 108 "DownTheGutterModel" "kept" "[I") ∈ gx_G := gx_mem 1473 (by decide +kernel) (by decide +kernel)
theorem mwc_X3_9 : (Cond.classLink RX3 9 RX6) ∈ gx_G := mw_316
theorem cw_X3_15 : gx_Wn RX3 15 yX6_init RX11 cX6_init 1 0 := ⟨⟨by decide +kernel, mw_261, mw_95, mw_262⟩, by decide +kernel⟩
theorem mwc_X9_22 : (Cond.classLink RX9 22 RX6) ∈ gx_G := mw_414
theorem cw_X9_24 : gx_Wn RX9 24 yX6_init RX11 cX6_init 1 0 := ⟨⟨by decide +kernel, mw_261, mw_95, mw_262⟩, by decide +kernel⟩
theorem mwc_X11_9 : (Cond.classLink RX11 9 RX7) ∈ gx_G := mw_123
theorem cw_X11_11 : gx_Wn RX11 11 yX7_init RX11 cX7_init 1 0 := ⟨⟨by decide +kernel, mw_126, mw_90, mw_127⟩, by decide +kernel⟩
theorem mwc_X11_16 : (Cond.classLink RX11 16 RX8) ∈ gx_G := mw_142
theorem cw_X11_18 : gx_Wn RX11 18 yX8_init RX11 cX8_init 1 0 := ⟨⟨by decide +kernel, mw_145, mw_91, mw_146⟩, by decide +kernel⟩
theorem mwc_X11_26 : (Cond.classLink RX11 26 RX10) ∈ gx_G := mw_181
theorem cw_X11_28 : gx_Wn RX11 28 yX10_init RX11 cX10_init 1 0 := ⟨⟨by decide +kernel, mw_184, mw_92, mw_185⟩, by decide +kernel⟩
theorem mwc_X11_33 : (Cond.classLink RX11 33 RX5) ∈ gx_G := mw_194
theorem cw_X11_35 : gx_Wi RX11 35 yX5_init cX5_init 1 0 := ⟨⟨mw_196, mw_197, mw_93, mw_198⟩, by decide +kernel⟩
theorem mwc_X11_43 : (Cond.classLink RX11 43 RX2) ∈ gx_G := mw_236
theorem cw_X11_45 : gx_Wn RX11 45 yX2_init RX11 cX2_init 1 0 := ⟨⟨by decide +kernel, mw_239, mw_94, mw_240⟩, by decide +kernel⟩
theorem mwc_X11_50 : (Cond.classLink RX11 50 RX6) ∈ gx_G := mw_258
theorem cw_X11_52 : gx_Wn RX11 52 yX6_init RX11 cX6_init 1 0 := ⟨⟨by decide +kernel, mw_261, mw_95, mw_262⟩, by decide +kernel⟩
theorem mwc_X11_60 : (Cond.classLink RX11 60 RX3) ∈ gx_G := mw_310
theorem cw_X11_62 : gx_Wi RX11 62 yX3_init cX3_init 2 0 := ⟨⟨mw_312, mw_313, mw_96, mw_314⟩, by decide +kernel⟩
theorem mwc_X11_71 : (Cond.classLink RX11 71 RX0) ∈ gx_G := mw_330
theorem cw_X11_73 : gx_Wn RX11 73 yX0_init RX11 cX0_init 1 0 := ⟨⟨by decide +kernel, mw_333, mw_97, mw_334⟩, by decide +kernel⟩
theorem mwc_X11_78 : (Cond.classLink RX11 78 RX4) ∈ gx_G := mw_350
theorem cw_X11_80 : gx_Wn RX11 80 yX4_init RX11 cX4_init 1 0 := ⟨⟨by decide +kernel, mw_353, mw_98, mw_354⟩, by decide +kernel⟩
theorem mwc_X11_85 : (Cond.classLink RX11 85 RX1) ∈ gx_G := mw_365
theorem cw_X11_87 : gx_Wi RX11 87 yX1_init cX1_init 4 3 := ⟨⟨mw_367, mw_368, mw_99, mw_369⟩, by decide +kernel⟩
theorem mwc_X11_94 : (Cond.classLink RX11 94 RX9) ∈ gx_G := mw_408
theorem cw_X11_96 : gx_Wi RX11 96 yX9_init cX9_init 3 2 := ⟨⟨mw_410, mw_411, mw_100, mw_412⟩, by decide +kernel⟩
theorem dX0_init_0 : decode cX0_init 0 = .ok (.aload_n 0, 1) := by decide +kernel
theorem dX0_init_1 : decode cX0_init 1 = .ok (.invokespecial 3, 3) := by decide +kernel
theorem dX0_init_4 : decode cX0_init 4 = .ok (.aload_n 0, 1) := by decide +kernel
theorem dX0_init_5 : decode cX0_init 5 = .ok (.bipush 10, 2) := by decide +kernel
theorem dX0_init_7 : decode cX0_init 7 = .ok (.newarray .int, 2) := by decide +kernel
theorem dX0_init_9 : decode cX0_init 9 = .ok (.putfield 9, 3) := by decide +kernel
theorem dX0_init_12 : decode cX0_init 12 = .ok (.aload_n 0, 1) := by decide +kernel
theorem dX0_init_13 : decode cX0_init 13 = .ok (.bipush 10, 2) := by decide +kernel
theorem dX0_init_15 : decode cX0_init 15 = .ok (.newarray .int, 2) := by decide +kernel
theorem dX0_init_17 : decode cX0_init 17 = .ok (.putfield 15, 3) := by decide +kernel
theorem dX0_init_20 : decode cX0_init 20 = .ok (.aload_n 0, 1) := by decide +kernel
theorem dX0_init_21 : decode cX0_init 21 = .ok (.bipush 10, 2) := by decide +kernel
theorem dX0_init_23 : decode cX0_init 23 = .ok (.newarray .int, 2) := by decide +kernel
theorem dX0_init_25 : decode cX0_init 25 = .ok (.putfield 18, 3) := by decide +kernel
theorem dX0_init_28 : decode cX0_init 28 = .ok (.return_, 1) := by decide +kernel
theorem dX10_init_0 : decode cX10_init 0 = .ok (.aload_n 0, 1) := by decide +kernel
theorem dX10_init_1 : decode cX10_init 1 = .ok (.invokespecial 3, 3) := by decide +kernel
theorem dX10_init_4 : decode cX10_init 4 = .ok (.aload_n 0, 1) := by decide +kernel
theorem dX10_init_5 : decode cX10_init 5 = .ok (.bipush 40, 2) := by decide +kernel
theorem dX10_init_7 : decode cX10_init 7 = .ok (.newarray .int, 2) := by decide +kernel
theorem dX10_init_9 : decode cX10_init 9 = .ok (.putfield 11, 3) := by decide +kernel
theorem dX10_init_12 : decode cX10_init 12 = .ok (.return_, 1) := by decide +kernel
theorem dX11_init_0 : decode cX11_init 0 = .ok (.aload_n 0, 1) := by decide +kernel
theorem dX11_init_1 : decode cX11_init 1 = .ok (.invokespecial 3, 3) := by decide +kernel
theorem dX11_init_4 : decode cX11_init 4 = .ok (.aload_n 0, 1) := by decide +kernel
theorem dX11_init_5 : decode cX11_init 5 = .ok (.new 9, 3) := by decide +kernel
theorem dX11_init_8 : decode cX11_init 8 = .ok (.dup, 1) := by decide +kernel
theorem dX11_init_9 : decode cX11_init 9 = .ok (.invokespecial 11, 3) := by decide +kernel
theorem dX11_init_12 : decode cX11_init 12 = .ok (.putfield 12, 3) := by decide +kernel
theorem dX11_init_15 : decode cX11_init 15 = .ok (.aload_n 0, 1) := by decide +kernel
theorem dX11_init_16 : decode cX11_init 16 = .ok (.new 16, 3) := by decide +kernel
theorem dX11_init_19 : decode cX11_init 19 = .ok (.dup, 1) := by decide +kernel
theorem dX11_init_20 : decode cX11_init 20 = .ok (.invokespecial 18, 3) := by decide +kernel
theorem dX11_init_23 : decode cX11_init 23 = .ok (.putfield 19, 3) := by decide +kernel
theorem dX11_init_26 : decode cX11_init 26 = .ok (.aload_n 0, 1) := by decide +kernel
theorem dX11_init_27 : decode cX11_init 27 = .ok (.new 16, 3) := by decide +kernel
theorem dX11_init_30 : decode cX11_init 30 = .ok (.dup, 1) := by decide +kernel
theorem dX11_init_31 : decode cX11_init 31 = .ok (.invokespecial 18, 3) := by decide +kernel
theorem dX11_init_34 : decode cX11_init 34 = .ok (.putfield 23, 3) := by decide +kernel
theorem dX11_init_37 : decode cX11_init 37 = .ok (.aload_n 0, 1) := by decide +kernel
theorem dX11_init_38 : decode cX11_init 38 = .ok (.new 26, 3) := by decide +kernel
theorem dX11_init_41 : decode cX11_init 41 = .ok (.dup, 1) := by decide +kernel
theorem dX11_init_42 : decode cX11_init 42 = .ok (.invokespecial 28, 3) := by decide +kernel
theorem dX11_init_45 : decode cX11_init 45 = .ok (.putfield 29, 3) := by decide +kernel
theorem dX11_init_48 : decode cX11_init 48 = .ok (.aload_n 0, 1) := by decide +kernel
theorem dX11_init_49 : decode cX11_init 49 = .ok (.new 33, 3) := by decide +kernel
theorem dX11_init_52 : decode cX11_init 52 = .ok (.dup, 1) := by decide +kernel
theorem dX11_init_53 : decode cX11_init 53 = .ok (.invokespecial 35, 3) := by decide +kernel
theorem dX11_init_56 : decode cX11_init 56 = .ok (.putfield 36, 3) := by decide +kernel
theorem dX11_init_59 : decode cX11_init 59 = .ok (.aload_n 0, 1) := by decide +kernel
theorem dX11_init_60 : decode cX11_init 60 = .ok (.new 33, 3) := by decide +kernel
theorem dX11_init_63 : decode cX11_init 63 = .ok (.dup, 1) := by decide +kernel
theorem dX11_init_64 : decode cX11_init 64 = .ok (.invokespecial 35, 3) := by decide +kernel
theorem dX11_init_67 : decode cX11_init 67 = .ok (.putfield 40, 3) := by decide +kernel
theorem dX11_init_70 : decode cX11_init 70 = .ok (.aload_n 0, 1) := by decide +kernel
theorem dX11_init_71 : decode cX11_init 71 = .ok (.new 43, 3) := by decide +kernel
theorem dX11_init_74 : decode cX11_init 74 = .ok (.dup, 1) := by decide +kernel
theorem dX11_init_75 : decode cX11_init 75 = .ok (.invokespecial 45, 3) := by decide +kernel
theorem dX11_init_78 : decode cX11_init 78 = .ok (.putfield 46, 3) := by decide +kernel
theorem dX11_init_81 : decode cX11_init 81 = .ok (.aload_n 0, 1) := by decide +kernel
theorem dX11_init_82 : decode cX11_init 82 = .ok (.new 50, 3) := by decide +kernel
theorem dX11_init_85 : decode cX11_init 85 = .ok (.dup, 1) := by decide +kernel
theorem dX11_init_86 : decode cX11_init 86 = .ok (.invokespecial 52, 3) := by decide +kernel
theorem dX11_init_89 : decode cX11_init 89 = .ok (.putfield 53, 3) := by decide +kernel
theorem dX11_init_92 : decode cX11_init 92 = .ok (.aload_n 0, 1) := by decide +kernel
theorem dX11_init_93 : decode cX11_init 93 = .ok (.new 50, 3) := by decide +kernel
theorem dX11_init_96 : decode cX11_init 96 = .ok (.dup, 1) := by decide +kernel
theorem dX11_init_97 : decode cX11_init 97 = .ok (.invokespecial 52, 3) := by decide +kernel
theorem dX11_init_100 : decode cX11_init 100 = .ok (.putfield 57, 3) := by decide +kernel
theorem dX11_init_103 : decode cX11_init 103 = .ok (.aload_n 0, 1) := by decide +kernel
theorem dX11_init_104 : decode cX11_init 104 = .ok (.new 60, 3) := by decide +kernel
theorem dX11_init_107 : decode cX11_init 107 = .ok (.dup, 1) := by decide +kernel
theorem dX11_init_108 : decode cX11_init 108 = .ok (.invokespecial 62, 3) := by decide +kernel
theorem dX11_init_111 : decode cX11_init 111 = .ok (.putfield 63, 3) := by decide +kernel
theorem dX11_init_114 : decode cX11_init 114 = .ok (.aload_n 0, 1) := by decide +kernel
theorem dX11_init_115 : decode cX11_init 115 = .ok (.iconst 3, 1) := by decide +kernel
theorem dX11_init_116 : decode cX11_init 116 = .ok (.anewarray 50, 3) := by decide +kernel
theorem dX11_init_119 : decode cX11_init 119 = .ok (.putfield 67, 3) := by decide +kernel
theorem dX11_init_122 : decode cX11_init 122 = .ok (.aload_n 0, 1) := by decide +kernel
theorem dX11_init_123 : decode cX11_init 123 = .ok (.new 71, 3) := by decide +kernel
theorem dX11_init_126 : decode cX11_init 126 = .ok (.dup, 1) := by decide +kernel
theorem dX11_init_127 : decode cX11_init 127 = .ok (.invokespecial 73, 3) := by decide +kernel
theorem dX11_init_130 : decode cX11_init 130 = .ok (.putfield 74, 3) := by decide +kernel
theorem dX11_init_133 : decode cX11_init 133 = .ok (.aload_n 0, 1) := by decide +kernel
theorem dX11_init_134 : decode cX11_init 134 = .ok (.new 78, 3) := by decide +kernel
theorem dX11_init_137 : decode cX11_init 137 = .ok (.dup, 1) := by decide +kernel
theorem dX11_init_138 : decode cX11_init 138 = .ok (.invokespecial 80, 3) := by decide +kernel
theorem dX11_init_141 : decode cX11_init 141 = .ok (.putfield 81, 3) := by decide +kernel
theorem dX11_init_144 : decode cX11_init 144 = .ok (.aload_n 0, 1) := by decide +kernel
theorem dX11_init_145 : decode cX11_init 145 = .ok (.new 85, 3) := by decide +kernel
theorem dX11_init_148 : decode cX11_init 148 = .ok (.dup, 1) := by decide +kernel
theorem dX11_init_149 : decode cX11_init 149 = .ok (.aload_n 0, 1) := by decide +kernel
theorem dX11_init_150 : decode cX11_init 150 = .ok (.getfield 19, 3) := by decide +kernel
theorem dX11_init_153 : decode cX11_init 153 = .ok (.aload_n 0, 1) := by decide +kernel
theorem dX11_init_154 : decode cX11_init 154 = .ok (.getfield 29, 3) := by decide +kernel
theorem dX11_init_157 : decode cX11_init 157 = .ok (.aload_n 0, 1) := by decide +kernel
theorem dX11_init_158 : decode cX11_init 158 = .ok (.getfield 36, 3) := by decide +kernel
theorem dX11_init_161 : decode cX11_init 161 = .ok (.invokespecial 87, 3) := by decide +kernel
theorem dX11_init_164 : decode cX11_init 164 = .ok (.putfield 90, 3) := by decide +kernel
theorem dX11_init_167 : decode cX11_init 167 = .ok (.aload_n 0, 1) := by decide +kernel
theorem dX11_init_168 : decode cX11_init 168 = .ok (.new 94, 3) := by decide +kernel
theorem dX11_init_171 : decode cX11_init 171 = .ok (.dup, 1) := by decide +kernel
theorem dX11_init_172 : decode cX11_init 172 = .ok (.aload_n 0, 1) := by decide +kernel
theorem dX11_init_173 : decode cX11_init 173 = .ok (.getfield 19, 3) := by decide +kernel
theorem dX11_init_176 : decode cX11_init 176 = .ok (.aload_n 0, 1) := by decide +kernel
theorem dX11_init_177 : decode cX11_init 177 = .ok (.getfield 90, 3) := by decide +kernel
theorem dX11_init_180 : decode cX11_init 180 = .ok (.invokespecial 96, 3) := by decide +kernel
theorem dX11_init_183 : decode cX11_init 183 = .ok (.putfield 99, 3) := by decide +kernel
theorem dX11_init_186 : decode cX11_init 186 = .ok (.iconst 0, 1) := by decide +kernel
theorem dX11_init_187 : decode cX11_init 187 = .ok (.istore_n 1, 1) := by decide +kernel
theorem dX11_init_188 : decode cX11_init 188 = .ok (.iload_n 1, 1) := by decide +kernel
theorem dX11_init_189 : decode cX11_init 189 = .ok (.iconst 3, 1) := by decide +kernel
theorem dX11_init_190 : decode cX11_init 190 = .ok (.if_icmp .ge 22, 3) := by decide +kernel
theorem dX11_init_193 : decode cX11_init 193 = .ok (.aload_n 0, 1) := by decide +kernel
theorem dX11_init_194 : decode cX11_init 194 = .ok (.getfield 67, 3) := by decide +kernel
theorem dX11_init_197 : decode cX11_init 197 = .ok (.iload_n 1, 1) := by decide +kernel
theorem dX11_init_198 : decode cX11_init 198 = .ok (.new 50, 3) := by decide +kernel
theorem dX11_init_201 : decode cX11_init 201 = .ok (.dup, 1) := by decide +kernel
theorem dX11_init_202 : decode cX11_init 202 = .ok (.invokespecial 52, 3) := by decide +kernel
theorem dX11_init_205 : decode cX11_init 205 = .ok (.aastore, 1) := by decide +kernel
theorem dX11_init_206 : decode cX11_init 206 = .ok (.iinc 1 1, 3) := by decide +kernel
theorem dX11_init_209 : decode cX11_init 209 = .ok (.goto (-21), 3) := by decide +kernel
theorem dX11_init_212 : decode cX11_init 212 = .ok (.return_, 1) := by decide +kernel
theorem dX12_init_0 : decode cX12_init 0 = .ok (.aload_n 0, 1) := by decide +kernel
theorem dX12_init_1 : decode cX12_init 1 = .ok (.invokespecial 3, 3) := by decide +kernel
theorem dX12_init_4 : decode cX12_init 4 = .ok (.aload_n 0, 1) := by decide +kernel
theorem dX12_init_5 : decode cX12_init 5 = .ok (.bipush 16, 2) := by decide +kernel
theorem dX12_init_7 : decode cX12_init 7 = .ok (.newarray .long, 2) := by decide +kernel
theorem dX12_init_9 : decode cX12_init 9 = .ok (.putfield 9, 3) := by decide +kernel
theorem dX12_init_12 : decode cX12_init 12 = .ok (.aload_n 0, 1) := by decide +kernel
theorem dX12_init_13 : decode cX12_init 13 = .ok (.bipush 12, 2) := by decide +kernel
theorem dX12_init_15 : decode cX12_init 15 = .ok (.newarray .int, 2) := by decide +kernel
theorem dX12_init_17 : decode cX12_init 17 = .ok (.putfield 13, 3) := by decide +kernel
theorem dX12_init_20 : decode cX12_init 20 = .ok (.aload_n 0, 1) := by decide +kernel
theorem dX12_init_21 : decode cX12_init 21 = .ok (.bipush 12, 2) := by decide +kernel
theorem dX12_init_23 : decode cX12_init 23 = .ok (.newarray .int, 2) := by decide +kernel
theorem dX12_init_25 : decode cX12_init 25 = .ok (.putfield 17, 3) := by decide +kernel
theorem dX12_init_28 : decode cX12_init 28 = .ok (.aload_n 0, 1) := by decide +kernel
theorem dX12_init_29 : decode cX12_init 29 = .ok (.bipush 12, 2) := by decide +kernel
theorem dX12_init_31 : decode cX12_init 31 = .ok (.newarray .int, 2) := by decide +kernel
theorem dX12_init_33 : decode cX12_init 33 = .ok (.putfield 20, 3) := by decide +kernel
theorem dX12_init_36 : decode cX12_init 36 = .ok (.aload_n 0, 1) := by decide +kernel
theorem dX12_init_37 : decode cX12_init 37 = .ok (.bipush 12, 2) := by decide +kernel
theorem dX12_init_39 : decode cX12_init 39 = .ok (.newarray .int, 2) := by decide +kernel
theorem dX12_init_41 : decode cX12_init 41 = .ok (.putfield 23, 3) := by decide +kernel
theorem dX12_init_44 : decode cX12_init 44 = .ok (.aload_n 0, 1) := by decide +kernel
theorem dX12_init_45 : decode cX12_init 45 = .ok (.bipush 40, 2) := by decide +kernel
theorem dX12_init_47 : decode cX12_init 47 = .ok (.newarray .int, 2) := by decide +kernel
theorem dX12_init_49 : decode cX12_init 49 = .ok (.putfield 26, 3) := by decide +kernel
theorem dX12_init_52 : decode cX12_init 52 = .ok (.aload_n 0, 1) := by decide +kernel
theorem dX12_init_53 : decode cX12_init 53 = .ok (.bipush 45, 2) := by decide +kernel
theorem dX12_init_55 : decode cX12_init 55 = .ok (.newarray .int, 2) := by decide +kernel
theorem dX12_init_57 : decode cX12_init 57 = .ok (.putfield 29, 3) := by decide +kernel
theorem dX12_init_60 : decode cX12_init 60 = .ok (.aload_n 0, 1) := by decide +kernel
theorem dX12_init_61 : decode cX12_init 61 = .ok (.bipush 45, 2) := by decide +kernel
theorem dX12_init_63 : decode cX12_init 63 = .ok (.newarray .int, 2) := by decide +kernel
theorem dX12_init_65 : decode cX12_init 65 = .ok (.putfield 32, 3) := by decide +kernel
theorem dX12_init_68 : decode cX12_init 68 = .ok (.aload_n 0, 1) := by decide +kernel
theorem dX12_init_69 : decode cX12_init 69 = .ok (.bipush 80, 2) := by decide +kernel
theorem dX12_init_71 : decode cX12_init 71 = .ok (.newarray .int, 2) := by decide +kernel
theorem dX12_init_73 : decode cX12_init 73 = .ok (.putfield 35, 3) := by decide +kernel
theorem dX12_init_76 : decode cX12_init 76 = .ok (.aload_n 0, 1) := by decide +kernel
theorem dX12_init_77 : decode cX12_init 77 = .ok (.bipush 12, 2) := by decide +kernel
theorem dX12_init_79 : decode cX12_init 79 = .ok (.newarray .int, 2) := by decide +kernel
theorem dX12_init_81 : decode cX12_init 81 = .ok (.putfield 38, 3) := by decide +kernel
theorem dX12_init_84 : decode cX12_init 84 = .ok (.aload_n 0, 1) := by decide +kernel
theorem dX12_init_85 : decode cX12_init 85 = .ok (.bipush 12, 2) := by decide +kernel
theorem dX12_init_87 : decode cX12_init 87 = .ok (.newarray .int, 2) := by decide +kernel
theorem dX12_init_89 : decode cX12_init 89 = .ok (.putfield 41, 3) := by decide +kernel
theorem dX12_init_92 : decode cX12_init 92 = .ok (.aload_n 0, 1) := by decide +kernel
theorem dX12_init_93 : decode cX12_init 93 = .ok (.bipush 12, 2) := by decide +kernel
theorem dX12_init_95 : decode cX12_init 95 = .ok (.newarray .int, 2) := by decide +kernel
theorem dX12_init_97 : decode cX12_init 97 = .ok (.putfield 44, 3) := by decide +kernel
theorem dX12_init_100 : decode cX12_init 100 = .ok (.aload_n 0, 1) := by decide +kernel
theorem dX12_init_101 : decode cX12_init 101 = .ok (.bipush 12, 2) := by decide +kernel
theorem dX12_init_103 : decode cX12_init 103 = .ok (.newarray .int, 2) := by decide +kernel
theorem dX12_init_105 : decode cX12_init 105 = .ok (.putfield 47, 3) := by decide +kernel
theorem dX12_init_108 : decode cX12_init 108 = .ok (.aload_n 0, 1) := by decide +kernel
theorem dX12_init_109 : decode cX12_init 109 = .ok (.bipush 80, 2) := by decide +kernel
theorem dX12_init_111 : decode cX12_init 111 = .ok (.newarray .int, 2) := by decide +kernel
theorem dX12_init_113 : decode cX12_init 113 = .ok (.putfield 50, 3) := by decide +kernel
theorem dX12_init_116 : decode cX12_init 116 = .ok (.aload_n 0, 1) := by decide +kernel
theorem dX12_init_117 : decode cX12_init 117 = .ok (.bipush 80, 2) := by decide +kernel
theorem dX12_init_119 : decode cX12_init 119 = .ok (.newarray .int, 2) := by decide +kernel
theorem dX12_init_121 : decode cX12_init 121 = .ok (.putfield 53, 3) := by decide +kernel
theorem dX12_init_124 : decode cX12_init 124 = .ok (.aload_n 0, 1) := by decide +kernel
theorem dX12_init_125 : decode cX12_init 125 = .ok (.bipush 40, 2) := by decide +kernel
theorem dX12_init_127 : decode cX12_init 127 = .ok (.newarray .int, 2) := by decide +kernel
theorem dX12_init_129 : decode cX12_init 129 = .ok (.putfield 56, 3) := by decide +kernel
theorem dX12_init_132 : decode cX12_init 132 = .ok (.aload_n 0, 1) := by decide +kernel
theorem dX12_init_133 : decode cX12_init 133 = .ok (.bipush 80, 2) := by decide +kernel
theorem dX12_init_135 : decode cX12_init 135 = .ok (.newarray .int, 2) := by decide +kernel
theorem dX12_init_137 : decode cX12_init 137 = .ok (.putfield 59, 3) := by decide +kernel
theorem dX12_init_140 : decode cX12_init 140 = .ok (.aload_n 0, 1) := by decide +kernel
theorem dX12_init_141 : decode cX12_init 141 = .ok (.bipush 80, 2) := by decide +kernel
theorem dX12_init_143 : decode cX12_init 143 = .ok (.newarray .int, 2) := by decide +kernel
theorem dX12_init_145 : decode cX12_init 145 = .ok (.putfield 62, 3) := by decide +kernel
theorem dX12_init_148 : decode cX12_init 148 = .ok (.aload_n 0, 1) := by decide +kernel
theorem dX12_init_149 : decode cX12_init 149 = .ok (.bipush 80, 2) := by decide +kernel
theorem dX12_init_151 : decode cX12_init 151 = .ok (.newarray .int, 2) := by decide +kernel
theorem dX12_init_153 : decode cX12_init 153 = .ok (.putfield 65, 3) := by decide +kernel
theorem dX12_init_156 : decode cX12_init 156 = .ok (.aload_n 0, 1) := by decide +kernel
theorem dX12_init_157 : decode cX12_init 157 = .ok (.sipush 720, 3) := by decide +kernel
theorem dX12_init_160 : decode cX12_init 160 = .ok (.newarray .int, 2) := by decide +kernel
theorem dX12_init_162 : decode cX12_init 162 = .ok (.putfield 68, 3) := by decide +kernel
theorem dX12_init_165 : decode cX12_init 165 = .ok (.aload_n 0, 1) := by decide +kernel
theorem dX12_init_166 : decode cX12_init 166 = .ok (.bipush 60, 2) := by decide +kernel
theorem dX12_init_168 : decode cX12_init 168 = .ok (.newarray .int, 2) := by decide +kernel
theorem dX12_init_170 : decode cX12_init 170 = .ok (.putfield 71, 3) := by decide +kernel
theorem dX12_init_173 : decode cX12_init 173 = .ok (.aload_n 0, 1) := by decide +kernel
theorem dX12_init_174 : decode cX12_init 174 = .ok (.bipush 60, 2) := by decide +kernel
theorem dX12_init_176 : decode cX12_init 176 = .ok (.newarray .int, 2) := by decide +kernel
theorem dX12_init_178 : decode cX12_init 178 = .ok (.putfield 74, 3) := by decide +kernel
theorem dX12_init_181 : decode cX12_init 181 = .ok (.aload_n 0, 1) := by decide +kernel
theorem dX12_init_182 : decode cX12_init 182 = .ok (.bipush 60, 2) := by decide +kernel
theorem dX12_init_184 : decode cX12_init 184 = .ok (.newarray .int, 2) := by decide +kernel
theorem dX12_init_186 : decode cX12_init 186 = .ok (.putfield 77, 3) := by decide +kernel
theorem dX12_init_189 : decode cX12_init 189 = .ok (.aload_n 0, 1) := by decide +kernel
theorem dX12_init_190 : decode cX12_init 190 = .ok (.bipush 60, 2) := by decide +kernel
theorem dX12_init_192 : decode cX12_init 192 = .ok (.newarray .int, 2) := by decide +kernel
theorem dX12_init_194 : decode cX12_init 194 = .ok (.putfield 80, 3) := by decide +kernel
theorem dX12_init_197 : decode cX12_init 197 = .ok (.aload_n 0, 1) := by decide +kernel
theorem dX12_init_198 : decode cX12_init 198 = .ok (.bipush 45, 2) := by decide +kernel
theorem dX12_init_200 : decode cX12_init 200 = .ok (.newarray .int, 2) := by decide +kernel
theorem dX12_init_202 : decode cX12_init 202 = .ok (.putfield 83, 3) := by decide +kernel
theorem dX12_init_205 : decode cX12_init 205 = .ok (.aload_n 0, 1) := by decide +kernel
theorem dX12_init_206 : decode cX12_init 206 = .ok (.sipush 4096, 3) := by decide +kernel
theorem dX12_init_209 : decode cX12_init 209 = .ok (.newarray .int, 2) := by decide +kernel
theorem dX12_init_211 : decode cX12_init 211 = .ok (.putfield 86, 3) := by decide +kernel
theorem dX12_init_214 : decode cX12_init 214 = .ok (.aload_n 0, 1) := by decide +kernel
theorem dX12_init_215 : decode cX12_init 215 = .ok (.bipush 10, 2) := by decide +kernel
theorem dX12_init_217 : decode cX12_init 217 = .ok (.newarray .int, 2) := by decide +kernel
theorem dX12_init_219 : decode cX12_init 219 = .ok (.putfield 89, 3) := by decide +kernel
theorem dX12_init_222 : decode cX12_init 222 = .ok (.aload_n 0, 1) := by decide +kernel
theorem dX12_init_223 : decode cX12_init 223 = .ok (.bipush 10, 2) := by decide +kernel
theorem dX12_init_225 : decode cX12_init 225 = .ok (.newarray .int, 2) := by decide +kernel
theorem dX12_init_227 : decode cX12_init 227 = .ok (.putfield 92, 3) := by decide +kernel
theorem dX12_init_230 : decode cX12_init 230 = .ok (.aload_n 0, 1) := by decide +kernel
theorem dX12_init_231 : decode cX12_init 231 = .ok (.bipush 10, 2) := by decide +kernel
theorem dX12_init_233 : decode cX12_init 233 = .ok (.newarray .int, 2) := by decide +kernel
theorem dX12_init_235 : decode cX12_init 235 = .ok (.putfield 95, 3) := by decide +kernel
theorem dX12_init_238 : decode cX12_init 238 = .ok (.aload_n 0, 1) := by decide +kernel
theorem dX12_init_239 : decode cX12_init 239 = .ok (.sipush 4096, 3) := by decide +kernel
theorem dX12_init_242 : decode cX12_init 242 = .ok (.newarray .boolean, 2) := by decide +kernel
theorem dX12_init_244 : decode cX12_init 244 = .ok (.putfield 98, 3) := by decide +kernel
theorem dX12_init_247 : decode cX12_init 247 = .ok (.aload_n 0, 1) := by decide +kernel
theorem dX12_init_248 : decode cX12_init 248 = .ok (.bipush 13, 2) := by decide +kernel
theorem dX12_init_250 : decode cX12_init 250 = .ok (.newarray .int, 2) := by decide +kernel
theorem dX12_init_252 : decode cX12_init 252 = .ok (.putfield 102, 3) := by decide +kernel
theorem dX12_init_255 : decode cX12_init 255 = .ok (.aload_n 0, 1) := by decide +kernel
theorem dX12_init_256 : decode cX12_init 256 = .ok (.iconst 3, 1) := by decide +kernel
theorem dX12_init_257 : decode cX12_init 257 = .ok (.newarray .boolean, 2) := by decide +kernel
theorem dX12_init_259 : decode cX12_init 259 = .ok (.putfield 105, 3) := by decide +kernel
theorem dX12_init_262 : decode cX12_init 262 = .ok (.aload_n 0, 1) := by decide +kernel
theorem dX12_init_263 : decode cX12_init 263 = .ok (.sipush 135, 3) := by decide +kernel
theorem dX12_init_266 : decode cX12_init 266 = .ok (.newarray .int, 2) := by decide +kernel
theorem dX12_init_268 : decode cX12_init 268 = .ok (.putfield 108, 3) := by decide +kernel
theorem dX12_init_271 : decode cX12_init 271 = .ok (.return_, 1) := by decide +kernel
theorem dX1_init_0 : decode cX1_init 0 = .ok (.aload_n 0, 1) := by decide +kernel
theorem dX1_init_1 : decode cX1_init 1 = .ok (.invokespecial 3, 3) := by decide +kernel
theorem dX1_init_4 : decode cX1_init 4 = .ok (.aload_n 0, 1) := by decide +kernel
theorem dX1_init_5 : decode cX1_init 5 = .ok (.bipush 8, 2) := by decide +kernel
theorem dX1_init_7 : decode cX1_init 7 = .ok (.newarray .int, 2) := by decide +kernel
theorem dX1_init_9 : decode cX1_init 9 = .ok (.putfield 11, 3) := by decide +kernel
theorem dX1_init_12 : decode cX1_init 12 = .ok (.aload_n 0, 1) := by decide +kernel
theorem dX1_init_13 : decode cX1_init 13 = .ok (.aload_n 1, 1) := by decide +kernel
theorem dX1_init_14 : decode cX1_init 14 = .ok (.putfield 17, 3) := by decide +kernel
theorem dX1_init_17 : decode cX1_init 17 = .ok (.aload_n 0, 1) := by decide +kernel
theorem dX1_init_18 : decode cX1_init 18 = .ok (.aload_n 2, 1) := by decide +kernel
theorem dX1_init_19 : decode cX1_init 19 = .ok (.putfield 21, 3) := by decide +kernel
theorem dX1_init_22 : decode cX1_init 22 = .ok (.aload_n 0, 1) := by decide +kernel
theorem dX1_init_23 : decode cX1_init 23 = .ok (.aload_n 3, 1) := by decide +kernel
theorem dX1_init_24 : decode cX1_init 24 = .ok (.putfield 25, 3) := by decide +kernel
theorem dX1_init_27 : decode cX1_init 27 = .ok (.return_, 1) := by decide +kernel
theorem dX2_init_0 : decode cX2_init 0 = .ok (.aload_n 0, 1) := by decide +kernel
theorem dX2_init_1 : decode cX2_init 1 = .ok (.invokespecial 1, 3) := by decide +kernel
theorem dX2_init_4 : decode cX2_init 4 = .ok (.aload_n 0, 1) := by decide +kernel
theorem dX2_init_5 : decode cX2_init 5 = .ok (.bipush 20, 2) := by decide +kernel
theorem dX2_init_7 : decode cX2_init 7 = .ok (.newarray .int, 2) := by decide +kernel
theorem dX2_init_9 : decode cX2_init 9 = .ok (.putfield 9, 3) := by decide +kernel
theorem dX2_init_12 : decode cX2_init 12 = .ok (.aload_n 0, 1) := by decide +kernel
theorem dX2_init_13 : decode cX2_init 13 = .ok (.bipush 20, 2) := by decide +kernel
theorem dX2_init_15 : decode cX2_init 15 = .ok (.newarray .int, 2) := by decide +kernel
theorem dX2_init_17 : decode cX2_init 17 = .ok (.putfield 13, 3) := by decide +kernel
theorem dX2_init_20 : decode cX2_init 20 = .ok (.aload_n 0, 1) := by decide +kernel
theorem dX2_init_21 : decode cX2_init 21 = .ok (.bipush 20, 2) := by decide +kernel
theorem dX2_init_23 : decode cX2_init 23 = .ok (.newarray .int, 2) := by decide +kernel
theorem dX2_init_25 : decode cX2_init 25 = .ok (.putfield 16, 3) := by decide +kernel
theorem dX2_init_28 : decode cX2_init 28 = .ok (.aload_n 0, 1) := by decide +kernel
theorem dX2_init_29 : decode cX2_init 29 = .ok (.bipush 20, 2) := by decide +kernel
theorem dX2_init_31 : decode cX2_init 31 = .ok (.newarray .int, 2) := by decide +kernel
theorem dX2_init_33 : decode cX2_init 33 = .ok (.putfield 19, 3) := by decide +kernel
theorem dX2_init_36 : decode cX2_init 36 = .ok (.return_, 1) := by decide +kernel
theorem dX3_init_0 : decode cX3_init 0 = .ok (.aload_n 0, 1) := by decide +kernel
theorem dX3_init_1 : decode cX3_init 1 = .ok (.invokespecial 1, 3) := by decide +kernel
theorem dX3_init_4 : decode cX3_init 4 = .ok (.aload_n 0, 1) := by decide +kernel
theorem dX3_init_5 : decode cX3_init 5 = .ok (.bipush 15, 2) := by decide +kernel
theorem dX3_init_7 : decode cX3_init 7 = .ok (.anewarray 9, 3) := by decide +kernel
theorem dX3_init_10 : decode cX3_init 10 = .ok (.putfield 11, 3) := by decide +kernel
theorem dX3_init_13 : decode cX3_init 13 = .ok (.iconst 0, 1) := by decide +kernel
theorem dX3_init_14 : decode cX3_init 14 = .ok (.istore_n 1, 1) := by decide +kernel
theorem dX3_init_15 : decode cX3_init 15 = .ok (.iload_n 1, 1) := by decide +kernel
theorem dX3_init_16 : decode cX3_init 16 = .ok (.bipush 15, 2) := by decide +kernel
theorem dX3_init_18 : decode cX3_init 18 = .ok (.if_icmp .ge 22, 3) := by decide +kernel
theorem dX3_init_21 : decode cX3_init 21 = .ok (.aload_n 0, 1) := by decide +kernel
theorem dX3_init_22 : decode cX3_init 22 = .ok (.getfield 11, 3) := by decide +kernel
theorem dX3_init_25 : decode cX3_init 25 = .ok (.iload_n 1, 1) := by decide +kernel
theorem dX3_init_26 : decode cX3_init 26 = .ok (.new 9, 3) := by decide +kernel
theorem dX3_init_29 : decode cX3_init 29 = .ok (.dup, 1) := by decide +kernel
theorem dX3_init_30 : decode cX3_init 30 = .ok (.invokespecial 15, 3) := by decide +kernel
theorem dX3_init_33 : decode cX3_init 33 = .ok (.aastore, 1) := by decide +kernel
theorem dX3_init_34 : decode cX3_init 34 = .ok (.iinc 1 1, 3) := by decide +kernel
theorem dX3_init_37 : decode cX3_init 37 = .ok (.goto (-22), 3) := by decide +kernel
theorem dX3_init_40 : decode cX3_init 40 = .ok (.return_, 1) := by decide +kernel
theorem dX4_init_0 : decode cX4_init 0 = .ok (.aload_n 0, 1) := by decide +kernel
theorem dX4_init_1 : decode cX4_init 1 = .ok (.invokespecial 1, 3) := by decide +kernel
theorem dX4_init_4 : decode cX4_init 4 = .ok (.aload_n 0, 1) := by decide +kernel
theorem dX4_init_5 : decode cX4_init 5 = .ok (.iconst 3, 1) := by decide +kernel
theorem dX4_init_6 : decode cX4_init 6 = .ok (.newarray .long, 2) := by decide +kernel
theorem dX4_init_8 : decode cX4_init 8 = .ok (.putfield 9, 3) := by decide +kernel
theorem dX4_init_11 : decode cX4_init 11 = .ok (.return_, 1) := by decide +kernel
theorem dX5_init_0 : decode cX5_init 0 = .ok (.aload_n 0, 1) := by decide +kernel
theorem dX5_init_1 : decode cX5_init 1 = .ok (.invokespecial 1, 3) := by decide +kernel
theorem dX5_init_4 : decode cX5_init 4 = .ok (.aload_n 0, 1) := by decide +kernel
theorem dX5_init_5 : decode cX5_init 5 = .ok (.bipush 40, 2) := by decide +kernel
theorem dX5_init_7 : decode cX5_init 7 = .ok (.newarray .int, 2) := by decide +kernel
theorem dX5_init_9 : decode cX5_init 9 = .ok (.putfield 9, 3) := by decide +kernel
theorem dX5_init_12 : decode cX5_init 12 = .ok (.aload_n 0, 1) := by decide +kernel
theorem dX5_init_13 : decode cX5_init 13 = .ok (.bipush 40, 2) := by decide +kernel
theorem dX5_init_15 : decode cX5_init 15 = .ok (.newarray .int, 2) := by decide +kernel
theorem dX5_init_17 : decode cX5_init 17 = .ok (.putfield 13, 3) := by decide +kernel
theorem dX5_init_20 : decode cX5_init 20 = .ok (.aload_n 0, 1) := by decide +kernel
theorem dX5_init_21 : decode cX5_init 21 = .ok (.bipush 40, 2) := by decide +kernel
theorem dX5_init_23 : decode cX5_init 23 = .ok (.newarray .int, 2) := by decide +kernel
theorem dX5_init_25 : decode cX5_init 25 = .ok (.putfield 16, 3) := by decide +kernel
theorem dX5_init_28 : decode cX5_init 28 = .ok (.aload_n 0, 1) := by decide +kernel
theorem dX5_init_29 : decode cX5_init 29 = .ok (.getfield 9, 3) := by decide +kernel
theorem dX5_init_32 : decode cX5_init 32 = .ok (.iconst 0, 1) := by decide +kernel
theorem dX5_init_33 : decode cX5_init 33 = .ok (.iconst 0, 1) := by decide +kernel
theorem dX5_init_34 : decode cX5_init 34 = .ok (.iastore, 1) := by decide +kernel
theorem dX5_init_35 : decode cX5_init 35 = .ok (.aload_n 0, 1) := by decide +kernel
theorem dX5_init_36 : decode cX5_init 36 = .ok (.iconst 1, 1) := by decide +kernel
theorem dX5_init_37 : decode cX5_init 37 = .ok (.putfield 19, 3) := by decide +kernel
theorem dX5_init_40 : decode cX5_init 40 = .ok (.aload_n 0, 1) := by decide +kernel
theorem dX5_init_41 : decode cX5_init 41 = .ok (.iconst 1, 1) := by decide +kernel
theorem dX5_init_42 : decode cX5_init 42 = .ok (.putfield 23, 3) := by decide +kernel
theorem dX5_init_45 : decode cX5_init 45 = .ok (.return_, 1) := by decide +kernel
theorem dX6_init_0 : decode cX6_init 0 = .ok (.aload_n 0, 1) := by decide +kernel
theorem dX6_init_1 : decode cX6_init 1 = .ok (.invokespecial 3, 3) := by decide +kernel
theorem dX6_init_4 : decode cX6_init 4 = .ok (.aload_n 0, 1) := by decide +kernel
theorem dX6_init_5 : decode cX6_init 5 = .ok (.bipush 6, 2) := by decide +kernel
theorem dX6_init_7 : decode cX6_init 7 = .ok (.newarray .int, 2) := by decide +kernel
theorem dX6_init_9 : decode cX6_init 9 = .ok (.putfield 9, 3) := by decide +kernel
theorem dX6_init_12 : decode cX6_init 12 = .ok (.aload_n 0, 1) := by decide +kernel
theorem dX6_init_13 : decode cX6_init 13 = .ok (.bipush 6, 2) := by decide +kernel
theorem dX6_init_15 : decode cX6_init 15 = .ok (.newarray .int, 2) := by decide +kernel
theorem dX6_init_17 : decode cX6_init 17 = .ok (.putfield 15, 3) := by decide +kernel
theorem dX6_init_20 : decode cX6_init 20 = .ok (.aload_n 0, 1) := by decide +kernel
theorem dX6_init_21 : decode cX6_init 21 = .ok (.bipush 6, 2) := by decide +kernel
theorem dX6_init_23 : decode cX6_init 23 = .ok (.newarray .int, 2) := by decide +kernel
theorem dX6_init_25 : decode cX6_init 25 = .ok (.putfield 18, 3) := by decide +kernel
theorem dX6_init_28 : decode cX6_init 28 = .ok (.aload_n 0, 1) := by decide +kernel
theorem dX6_init_29 : decode cX6_init 29 = .ok (.bipush 6, 2) := by decide +kernel
theorem dX6_init_31 : decode cX6_init 31 = .ok (.newarray .int, 2) := by decide +kernel
theorem dX6_init_33 : decode cX6_init 33 = .ok (.putfield 21, 3) := by decide +kernel
theorem dX6_init_36 : decode cX6_init 36 = .ok (.aload_n 0, 1) := by decide +kernel
theorem dX6_init_37 : decode cX6_init 37 = .ok (.bipush 6, 2) := by decide +kernel
theorem dX6_init_39 : decode cX6_init 39 = .ok (.newarray .int, 2) := by decide +kernel
theorem dX6_init_41 : decode cX6_init 41 = .ok (.putfield 24, 3) := by decide +kernel
theorem dX6_init_44 : decode cX6_init 44 = .ok (.aload_n 0, 1) := by decide +kernel
theorem dX6_init_45 : decode cX6_init 45 = .ok (.bipush 6, 2) := by decide +kernel
theorem dX6_init_47 : decode cX6_init 47 = .ok (.newarray .int, 2) := by decide +kernel
theorem dX6_init_49 : decode cX6_init 49 = .ok (.putfield 27, 3) := by decide +kernel
theorem dX6_init_52 : decode cX6_init 52 = .ok (.return_, 1) := by decide +kernel
theorem dX7_init_0 : decode cX7_init 0 = .ok (.aload_n 0, 1) := by decide +kernel
theorem dX7_init_1 : decode cX7_init 1 = .ok (.invokespecial 3, 3) := by decide +kernel
theorem dX7_init_4 : decode cX7_init 4 = .ok (.aload_n 0, 1) := by decide +kernel
theorem dX7_init_5 : decode cX7_init 5 = .ok (.bipush 80, 2) := by decide +kernel
theorem dX7_init_7 : decode cX7_init 7 = .ok (.newarray .int, 2) := by decide +kernel
theorem dX7_init_9 : decode cX7_init 9 = .ok (.putfield 11, 3) := by decide +kernel
theorem dX7_init_12 : decode cX7_init 12 = .ok (.return_, 1) := by decide +kernel
theorem dX8_init_0 : decode cX8_init 0 = .ok (.aload_n 0, 1) := by decide +kernel
theorem dX8_init_1 : decode cX8_init 1 = .ok (.invokespecial 3, 3) := by decide +kernel
theorem dX8_init_4 : decode cX8_init 4 = .ok (.aload_n 0, 1) := by decide +kernel
theorem dX8_init_5 : decode cX8_init 5 = .ok (.bipush 12, 2) := by decide +kernel
theorem dX8_init_7 : decode cX8_init 7 = .ok (.newarray .int, 2) := by decide +kernel
theorem dX8_init_9 : decode cX8_init 9 = .ok (.putfield 9, 3) := by decide +kernel
theorem dX8_init_12 : decode cX8_init 12 = .ok (.aload_n 0, 1) := by decide +kernel
theorem dX8_init_13 : decode cX8_init 13 = .ok (.bipush 12, 2) := by decide +kernel
theorem dX8_init_15 : decode cX8_init 15 = .ok (.newarray .int, 2) := by decide +kernel
theorem dX8_init_17 : decode cX8_init 17 = .ok (.putfield 15, 3) := by decide +kernel
theorem dX8_init_20 : decode cX8_init 20 = .ok (.aload_n 0, 1) := by decide +kernel
theorem dX8_init_21 : decode cX8_init 21 = .ok (.bipush 12, 2) := by decide +kernel
theorem dX8_init_23 : decode cX8_init 23 = .ok (.newarray .int, 2) := by decide +kernel
theorem dX8_init_25 : decode cX8_init 25 = .ok (.putfield 18, 3) := by decide +kernel
theorem dX8_init_28 : decode cX8_init 28 = .ok (.aload_n 0, 1) := by decide +kernel
theorem dX8_init_29 : decode cX8_init 29 = .ok (.bipush 12, 2) := by decide +kernel
theorem dX8_init_31 : decode cX8_init 31 = .ok (.newarray .int, 2) := by decide +kernel
theorem dX8_init_33 : decode cX8_init 33 = .ok (.putfield 21, 3) := by decide +kernel
theorem dX8_init_36 : decode cX8_init 36 = .ok (.aload_n 0, 1) := by decide +kernel
theorem dX8_init_37 : decode cX8_init 37 = .ok (.bipush 12, 2) := by decide +kernel
theorem dX8_init_39 : decode cX8_init 39 = .ok (.newarray .int, 2) := by decide +kernel
theorem dX8_init_41 : decode cX8_init 41 = .ok (.putfield 24, 3) := by decide +kernel
theorem dX8_init_44 : decode cX8_init 44 = .ok (.aload_n 0, 1) := by decide +kernel
theorem dX8_init_45 : decode cX8_init 45 = .ok (.iconst 1, 1) := by decide +kernel
theorem dX8_init_46 : decode cX8_init 46 = .ok (.putfield 27, 3) := by decide +kernel
theorem dX8_init_49 : decode cX8_init 49 = .ok (.return_, 1) := by decide +kernel
theorem dX9_init_0 : decode cX9_init 0 = .ok (.aload_n 0, 1) := by decide +kernel
theorem dX9_init_1 : decode cX9_init 1 = .ok (.invokespecial 3, 3) := by decide +kernel
theorem dX9_init_4 : decode cX9_init 4 = .ok (.aload_n 0, 1) := by decide +kernel
theorem dX9_init_5 : decode cX9_init 5 = .ok (.sipush 4096, 3) := by decide +kernel
theorem dX9_init_8 : decode cX9_init 8 = .ok (.newarray .int, 2) := by decide +kernel
theorem dX9_init_10 : decode cX9_init 10 = .ok (.putfield 9, 3) := by decide +kernel
theorem dX9_init_13 : decode cX9_init 13 = .ok (.aload_n 0, 1) := by decide +kernel
theorem dX9_init_14 : decode cX9_init 14 = .ok (.sipush 4096, 3) := by decide +kernel
theorem dX9_init_17 : decode cX9_init 17 = .ok (.newarray .boolean, 2) := by decide +kernel
theorem dX9_init_19 : decode cX9_init 19 = .ok (.putfield 15, 3) := by decide +kernel
theorem dX9_init_22 : decode cX9_init 22 = .ok (.aload_n 0, 1) := by decide +kernel
theorem dX9_init_23 : decode cX9_init 23 = .ok (.bipush 13, 2) := by decide +kernel
theorem dX9_init_25 : decode cX9_init 25 = .ok (.newarray .int, 2) := by decide +kernel
theorem dX9_init_27 : decode cX9_init 27 = .ok (.putfield 19, 3) := by decide +kernel
theorem dX9_init_30 : decode cX9_init 30 = .ok (.aload_n 0, 1) := by decide +kernel
theorem dX9_init_31 : decode cX9_init 31 = .ok (.new 22, 3) := by decide +kernel
theorem dX9_init_34 : decode cX9_init 34 = .ok (.dup, 1) := by decide +kernel
theorem dX9_init_35 : decode cX9_init 35 = .ok (.invokespecial 24, 3) := by decide +kernel
theorem dX9_init_38 : decode cX9_init 38 = .ok (.putfield 25, 3) := by decide +kernel
theorem dX9_init_41 : decode cX9_init 41 = .ok (.aload_n 0, 1) := by decide +kernel
theorem dX9_init_42 : decode cX9_init 42 = .ok (.new 22, 3) := by decide +kernel
theorem dX9_init_45 : decode cX9_init 45 = .ok (.dup, 1) := by decide +kernel
theorem dX9_init_46 : decode cX9_init 46 = .ok (.invokespecial 24, 3) := by decide +kernel
theorem dX9_init_49 : decode cX9_init 49 = .ok (.putfield 29, 3) := by decide +kernel
theorem dX9_init_52 : decode cX9_init 52 = .ok (.aload_n 0, 1) := by decide +kernel
theorem dX9_init_53 : decode cX9_init 53 = .ok (.aload_n 1, 1) := by decide +kernel
theorem dX9_init_54 : decode cX9_init 54 = .ok (.putfield 32, 3) := by decide +kernel
theorem dX9_init_57 : decode cX9_init 57 = .ok (.aload_n 0, 1) := by decide +kernel
theorem dX9_init_58 : decode cX9_init 58 = .ok (.aload_n 2, 1) := by decide +kernel
theorem dX9_init_59 : decode cX9_init 59 = .ok (.putfield 36, 3) := by decide +kernel
theorem dX9_init_62 : decode cX9_init 62 = .ok (.return_, 1) := by decide +kernel
end
section
def b_Signs (n : Nat) : List gD := [.inl (8, [some (some (n + 1)), none, none])] ++ [.inr (0, 80, [])]
set_option maxHeartbeats 4000000 in
set_option maxRecDepth 100000 in
theorem k_Signs (l : Launch) {E : gE} (tb : List gD) (n : Nat) (hn : tb.length = n) (σ : gI) (τ : gJ) (h0 : ∀ c k : Nat, n ≤ c → σ c k = 0) (t0 : ∀ c k : Nat, n ≤ c → τ c k = 0) : gx_Mc l yX7_init cX7_init 1 1 1 80 (tb ++ [.inl (8, [some none, none, none])]) (tb ++ b_Signs n) E σ (σ) τ [.ref (E.2.2 + (n + 0))] := by
  refine y_b (by decide +kernel) (Nat.le_of_ble_eq_true rfl) ?_
  intro P9 e9 s m9 below meth C9 S hr hlk hnm hK hN hA hY ls hl
  have S : CallFix P9 m9 C9 cX7_init 1 s _ gx_G RX7 := S
  have hx := S.1
  have hb := S.2.1
  have hl : lv_has ls 1 [(0, .ref (E.2.2 + (n + 0)))] := hl
  refine lv_aload_n hx hb dX7_init_0 rfl (lv_at hl 0 rfl) ?_
  refine gx_obj S mw_128 mw_121 mw_122 hl.1 dX7_init_1 ⟨Nat.le_of_ble_eq_true rfl, Nat.le_of_ble_eq_true rfl⟩ ?_
  refine lv_aload_n hx hb dX7_init_4 rfl (lv_at hl 0 rfl) ?_
  refine lv_bipush (v := 80) hx hb dX7_init_5 (by decide) ?_
  refine y_newI S hK hY hn 1 rfl (N := 80) (by decide) (by decide) (by decide) (fun c9 k9 h9 => h0 c9 k9 (by omega)) mw_141 ⟨Nat.le_of_ble_eq_true rfl, Nat.le_of_ble_eq_true rfl⟩ dX7_init_7 (fun H hY => ?_)
  refine y_putF S hK hA hY hn 0 rfl cl_8 0 (Nat.le_of_ble_eq_true rfl) (Nat.le_of_ble_eq_true rfl) mw_129 rfl ⟨rfl, hnm, rfl⟩ (ty := .array .int) (j := (n + 1)) (by decide +kernel) rfl rfl dX7_init_9 (fun H locs hY => ?_)
  have hY : gx_Y tb ([.inl (8, [some (some (n + 1)), none, none])] ++ [.inr (0, 80, [])]) _ E s (σ) τ H _ := hY
  have hY : gx_Y tb (b_Signs n) _ E s (σ) τ H _ := hY
  exact y_r S hr hlk hY dX7_init_12
def b_Town (n : Nat) : List gD := [.inl (9, [some (some (n + 1)), some (some (n + 2)), some (some (n + 3)), some (some (n + 4)), some (some (n + 5)), none, none, none, none])] ++ [.inr (0, 12, [])] ++ [.inr (0, 12, [])] ++ [.inr (0, 12, [])] ++ [.inr (0, 12, [])] ++ [.inr (0, 12, [])]
set_option maxHeartbeats 4000000 in
set_option maxRecDepth 100000 in
theorem k_Town (l : Launch) {E : gE} (tb : List gD) (n : Nat) (hn : tb.length = n) (σ : gI) (τ : gJ) (h0 : ∀ c k : Nat, n ≤ c → σ c k = 0) (t0 : ∀ c k : Nat, n ≤ c → τ c k = 0) : gx_Mc l yX8_init cX8_init 1 1 5 60 (tb ++ [.inl (9, [some none, some none, some none, some none, some none, none, none, none, none])]) (tb ++ b_Town n) E σ (up2 (σ) (n + 0) 8 1) τ [.ref (E.2.2 + (n + 0))] := by
  refine y_b (by decide +kernel) (Nat.le_of_ble_eq_true rfl) ?_
  intro P9 e9 s m9 below meth C9 S hr hlk hnm hK hN hA hY ls hl
  have S : CallFix P9 m9 C9 cX8_init 1 s _ gx_G RX8 := S
  have hx := S.1
  have hb := S.2.1
  have hl : lv_has ls 1 [(0, .ref (E.2.2 + (n + 0)))] := hl
  refine lv_aload_n hx hb dX8_init_0 rfl (lv_at hl 0 rfl) ?_
  refine gx_obj S mw_147 mw_121 mw_122 hl.1 dX8_init_1 ⟨Nat.le_of_ble_eq_true rfl, Nat.le_of_ble_eq_true rfl⟩ ?_
  refine lv_aload_n hx hb dX8_init_4 rfl (lv_at hl 0 rfl) ?_
  refine lv_bipush (v := 12) hx hb dX8_init_5 (by decide) ?_
  refine y_newI S hK hY hn 1 rfl (N := 12) (by decide) (by decide) (by decide) (fun c9 k9 h9 => h0 c9 k9 (by omega)) mw_141 ⟨Nat.le_of_ble_eq_true rfl, Nat.le_of_ble_eq_true rfl⟩ dX8_init_7 (fun H hY => ?_)
  refine y_putF S hK hA hY hn 0 rfl cl_9 0 (Nat.le_of_ble_eq_true rfl) (Nat.le_of_ble_eq_true rfl) mw_148 rfl ⟨rfl, hnm, rfl⟩ (ty := .array .int) (j := (n + 1)) (by decide +kernel) rfl rfl dX8_init_9 (fun H locs hY => ?_)
  have hY : gx_Y tb ([.inl (9, [some (some (n + 1)), some none, some none, some none, some none, none, none, none, none])] ++ [.inr (0, 12, [])]) _ E s (σ) τ H _ := hY
  refine lv_aload_n hx hb dX8_init_12 rfl (lv_at hl 0 rfl) ?_
  refine lv_bipush (v := 12) hx hb dX8_init_13 (by decide) ?_
  refine y_newI S hK hY hn 2 rfl (N := 12) (by decide) (by decide) (by decide) (fun c9 k9 h9 => h0 c9 k9 (by omega)) mw_141 ⟨Nat.le_of_ble_eq_true rfl, Nat.le_of_ble_eq_true rfl⟩ dX8_init_15 (fun H hY => ?_)
  refine y_putF S hK hA hY hn 0 rfl cl_9 1 (Nat.le_of_ble_eq_true rfl) (Nat.le_of_ble_eq_true rfl) mw_149 rfl ⟨rfl, hnm, rfl⟩ (ty := .array .int) (j := (n + 2)) (by decide +kernel) rfl rfl dX8_init_17 (fun H locs hY => ?_)
  have hY : gx_Y tb ([.inl (9, [some (some (n + 1)), some (some (n + 2)), some none, some none, some none, none, none, none, none])] ++ [.inr (0, 12, [])] ++ [.inr (0, 12, [])]) _ E s (σ) τ H _ := hY
  refine lv_aload_n hx hb dX8_init_20 rfl (lv_at hl 0 rfl) ?_
  refine lv_bipush (v := 12) hx hb dX8_init_21 (by decide) ?_
  refine y_newI S hK hY hn 3 rfl (N := 12) (by decide) (by decide) (by decide) (fun c9 k9 h9 => h0 c9 k9 (by omega)) mw_141 ⟨Nat.le_of_ble_eq_true rfl, Nat.le_of_ble_eq_true rfl⟩ dX8_init_23 (fun H hY => ?_)
  refine y_putF S hK hA hY hn 0 rfl cl_9 2 (Nat.le_of_ble_eq_true rfl) (Nat.le_of_ble_eq_true rfl) mw_150 rfl ⟨rfl, hnm, rfl⟩ (ty := .array .int) (j := (n + 3)) (by decide +kernel) rfl rfl dX8_init_25 (fun H locs hY => ?_)
  have hY : gx_Y tb ([.inl (9, [some (some (n + 1)), some (some (n + 2)), some (some (n + 3)), some none, some none, none, none, none, none])] ++ [.inr (0, 12, [])] ++ [.inr (0, 12, [])] ++ [.inr (0, 12, [])]) _ E s (σ) τ H _ := hY
  refine lv_aload_n hx hb dX8_init_28 rfl (lv_at hl 0 rfl) ?_
  refine lv_bipush (v := 12) hx hb dX8_init_29 (by decide) ?_
  refine y_newI S hK hY hn 4 rfl (N := 12) (by decide) (by decide) (by decide) (fun c9 k9 h9 => h0 c9 k9 (by omega)) mw_141 ⟨Nat.le_of_ble_eq_true rfl, Nat.le_of_ble_eq_true rfl⟩ dX8_init_31 (fun H hY => ?_)
  refine y_putF S hK hA hY hn 0 rfl cl_9 3 (Nat.le_of_ble_eq_true rfl) (Nat.le_of_ble_eq_true rfl) mw_151 rfl ⟨rfl, hnm, rfl⟩ (ty := .array .int) (j := (n + 4)) (by decide +kernel) rfl rfl dX8_init_33 (fun H locs hY => ?_)
  have hY : gx_Y tb ([.inl (9, [some (some (n + 1)), some (some (n + 2)), some (some (n + 3)), some (some (n + 4)), some none, none, none, none, none])] ++ [.inr (0, 12, [])] ++ [.inr (0, 12, [])] ++ [.inr (0, 12, [])] ++ [.inr (0, 12, [])]) _ E s (σ) τ H _ := hY
  refine lv_aload_n hx hb dX8_init_36 rfl (lv_at hl 0 rfl) ?_
  refine lv_bipush (v := 12) hx hb dX8_init_37 (by decide) ?_
  refine y_newI S hK hY hn 5 rfl (N := 12) (by decide) (by decide) (by decide) (fun c9 k9 h9 => h0 c9 k9 (by omega)) mw_141 ⟨Nat.le_of_ble_eq_true rfl, Nat.le_of_ble_eq_true rfl⟩ dX8_init_39 (fun H hY => ?_)
  refine y_putF S hK hA hY hn 0 rfl cl_9 4 (Nat.le_of_ble_eq_true rfl) (Nat.le_of_ble_eq_true rfl) mw_152 rfl ⟨rfl, hnm, rfl⟩ (ty := .array .int) (j := (n + 5)) (by decide +kernel) rfl rfl dX8_init_41 (fun H locs hY => ?_)
  have hY : gx_Y tb ([.inl (9, [some (some (n + 1)), some (some (n + 2)), some (some (n + 3)), some (some (n + 4)), some (some (n + 5)), none, none, none, none])] ++ [.inr (0, 12, [])] ++ [.inr (0, 12, [])] ++ [.inr (0, 12, [])] ++ [.inr (0, 12, [])] ++ [.inr (0, 12, [])]) _ E s (σ) τ H _ := hY
  refine lv_aload_n hx hb dX8_init_44 rfl (lv_at hl 0 rfl) ?_
  refine lv_iconst (v := 1) hx hb dX8_init_45 (by decide) ?_
  refine y_putI S hK hA hY hn 0 rfl cl_9 8 (by decide) rfl mw_159 rfl rfl (ty := .int) (v := 1) (by decide +kernel) rfl rfl dX8_init_46 (fun H locs hY => ?_)
  have hY : gx_Y tb ([.inl (9, [some (some (n + 1)), some (some (n + 2)), some (some (n + 3)), some (some (n + 4)), some (some (n + 5)), none, none, none, none])] ++ [.inr (0, 12, [])] ++ [.inr (0, 12, [])] ++ [.inr (0, 12, [])] ++ [.inr (0, 12, [])] ++ [.inr (0, 12, [])]) _ E s (up2 (σ) (n + 0) 8 1) τ H _ := hY
  have hY : gx_Y tb (b_Town n) _ E s (up2 (σ) (n + 0) 8 1) τ H _ := hY
  exact y_r S hr hlk hY dX8_init_49
def b_Water (n : Nat) : List gD := [.inl (11, [some (some (n + 1)), none])] ++ [.inr (0, 40, [])]
set_option maxHeartbeats 4000000 in
set_option maxRecDepth 100000 in
theorem k_Water (l : Launch) {E : gE} (tb : List gD) (n : Nat) (hn : tb.length = n) (σ : gI) (τ : gJ) (h0 : ∀ c k : Nat, n ≤ c → σ c k = 0) (t0 : ∀ c k : Nat, n ≤ c → τ c k = 0) : gx_Mc l yX10_init cX10_init 1 1 1 40 (tb ++ [.inl (11, [some none, none])]) (tb ++ b_Water n) E σ (σ) τ [.ref (E.2.2 + (n + 0))] := by
  refine y_b (by decide +kernel) (Nat.le_of_ble_eq_true rfl) ?_
  intro P9 e9 s m9 below meth C9 S hr hlk hnm hK hN hA hY ls hl
  have S : CallFix P9 m9 C9 cX10_init 1 s _ gx_G RX10 := S
  have hx := S.1
  have hb := S.2.1
  have hl : lv_has ls 1 [(0, .ref (E.2.2 + (n + 0)))] := hl
  refine lv_aload_n hx hb dX10_init_0 rfl (lv_at hl 0 rfl) ?_
  refine gx_obj S mw_186 mw_121 mw_122 hl.1 dX10_init_1 ⟨Nat.le_of_ble_eq_true rfl, Nat.le_of_ble_eq_true rfl⟩ ?_
  refine lv_aload_n hx hb dX10_init_4 rfl (lv_at hl 0 rfl) ?_
  refine lv_bipush (v := 40) hx hb dX10_init_5 (by decide) ?_
  refine y_newI S hK hY hn 1 rfl (N := 40) (by decide) (by decide) (by decide) (fun c9 k9 h9 => h0 c9 k9 (by omega)) mw_141 ⟨Nat.le_of_ble_eq_true rfl, Nat.le_of_ble_eq_true rfl⟩ dX10_init_7 (fun H hY => ?_)
  refine y_putF S hK hA hY hn 0 rfl cl_11 0 (Nat.le_of_ble_eq_true rfl) (Nat.le_of_ble_eq_true rfl) mw_187 rfl ⟨rfl, hnm, rfl⟩ (ty := .array .int) (j := (n + 1)) (by decide +kernel) rfl rfl dX10_init_9 (fun H locs hY => ?_)
  have hY : gx_Y tb ([.inl (11, [some (some (n + 1)), none])] ++ [.inr (0, 40, [])]) _ E s (σ) τ H _ := hY
  have hY : gx_Y tb (b_Water n) _ E s (σ) τ H _ := hY
  exact y_r S hr hlk hY dX10_init_12
def b_Rule (n : Nat) : List gD := [.inl (6, [some (some (n + 1)), some (some (n + 2)), some (some (n + 3)), none, none, none, none, none, none, none, none])] ++ [.inr (0, 40, [])] ++ [.inr (0, 40, [])] ++ [.inr (0, 40, [])]
set_option maxHeartbeats 4000000 in
set_option maxRecDepth 100000 in
theorem k_Rule (l : Launch) {E : gE} (tb : List gD) (n : Nat) (hn : tb.length = n) (σ : gI) (τ : gJ) (h0 : ∀ c k : Nat, n ≤ c → σ c k = 0) (t0 : ∀ c k : Nat, n ≤ c → τ c k = 0) : gx_Mc l yX5_init cX5_init 1 1 3 120 (tb ++ [.inl (6, [some none, some none, some none, none, none, none, none, none, none, none, none])]) (tb ++ b_Rule n) E σ (up2 (up2 (σ) (n + 0) 3 1) (n + 0) 9 1) τ [.ref (E.2.2 + (n + 0))] := by
  refine y_b (by decide +kernel) (Nat.le_of_ble_eq_true rfl) ?_
  intro P9 e9 s m9 below meth C9 S hr hlk hnm hK hN hA hY ls hl
  have S : CallFix P9 m9 C9 cX5_init 1 s _ gx_G RX5 := S
  have hx := S.1
  have hb := S.2.1
  have hl : lv_has ls 1 [(0, .ref (E.2.2 + (n + 0)))] := hl
  refine lv_aload_n hx hb dX5_init_0 rfl (lv_at hl 0 rfl) ?_
  refine gx_obj S mw_199 mw_121 mw_122 hl.1 dX5_init_1 ⟨Nat.le_of_ble_eq_true rfl, Nat.le_of_ble_eq_true rfl⟩ ?_
  refine lv_aload_n hx hb dX5_init_4 rfl (lv_at hl 0 rfl) ?_
  refine lv_bipush (v := 40) hx hb dX5_init_5 (by decide) ?_
  refine y_newI S hK hY hn 1 rfl (N := 40) (by decide) (by decide) (by decide) (fun c9 k9 h9 => h0 c9 k9 (by omega)) mw_141 ⟨Nat.le_of_ble_eq_true rfl, Nat.le_of_ble_eq_true rfl⟩ dX5_init_7 (fun H hY => ?_)
  refine y_putF S hK hA hY hn 0 rfl cl_6 0 (Nat.le_of_ble_eq_true rfl) (Nat.le_of_ble_eq_true rfl) mw_200 rfl ⟨rfl, hnm, rfl⟩ (ty := .array .int) (j := (n + 1)) (by decide +kernel) rfl rfl dX5_init_9 (fun H locs hY => ?_)
  have hY : gx_Y tb ([.inl (6, [some (some (n + 1)), some none, some none, none, none, none, none, none, none, none, none])] ++ [.inr (0, 40, [])]) _ E s (σ) τ H _ := hY
  refine lv_aload_n hx hb dX5_init_12 rfl (lv_at hl 0 rfl) ?_
  refine lv_bipush (v := 40) hx hb dX5_init_13 (by decide) ?_
  refine y_newI S hK hY hn 2 rfl (N := 40) (by decide) (by decide) (by decide) (fun c9 k9 h9 => h0 c9 k9 (by omega)) mw_141 ⟨Nat.le_of_ble_eq_true rfl, Nat.le_of_ble_eq_true rfl⟩ dX5_init_15 (fun H hY => ?_)
  refine y_putF S hK hA hY hn 0 rfl cl_6 1 (Nat.le_of_ble_eq_true rfl) (Nat.le_of_ble_eq_true rfl) mw_201 rfl ⟨rfl, hnm, rfl⟩ (ty := .array .int) (j := (n + 2)) (by decide +kernel) rfl rfl dX5_init_17 (fun H locs hY => ?_)
  have hY : gx_Y tb ([.inl (6, [some (some (n + 1)), some (some (n + 2)), some none, none, none, none, none, none, none, none, none])] ++ [.inr (0, 40, [])] ++ [.inr (0, 40, [])]) _ E s (σ) τ H _ := hY
  refine lv_aload_n hx hb dX5_init_20 rfl (lv_at hl 0 rfl) ?_
  refine lv_bipush (v := 40) hx hb dX5_init_21 (by decide) ?_
  refine y_newI S hK hY hn 3 rfl (N := 40) (by decide) (by decide) (by decide) (fun c9 k9 h9 => h0 c9 k9 (by omega)) mw_141 ⟨Nat.le_of_ble_eq_true rfl, Nat.le_of_ble_eq_true rfl⟩ dX5_init_23 (fun H hY => ?_)
  refine y_putF S hK hA hY hn 0 rfl cl_6 2 (Nat.le_of_ble_eq_true rfl) (Nat.le_of_ble_eq_true rfl) mw_202 rfl ⟨rfl, hnm, rfl⟩ (ty := .array .int) (j := (n + 3)) (by decide +kernel) rfl rfl dX5_init_25 (fun H locs hY => ?_)
  have hY : gx_Y tb ([.inl (6, [some (some (n + 1)), some (some (n + 2)), some (some (n + 3)), none, none, none, none, none, none, none, none])] ++ [.inr (0, 40, [])] ++ [.inr (0, 40, [])] ++ [.inr (0, 40, [])]) _ E s (σ) τ H _ := hY
  refine lv_aload_n hx hb dX5_init_28 rfl (lv_at hl 0 rfl) ?_
  refine y_getr (j := (n + 1)) S hK hY hn 0 rfl cl_6 0 (by decide) rfl mw_200 rfl dX5_init_29 ?_
  refine lv_iconst (v := 0) hx hb dX5_init_32 (by decide) ?_
  refine lv_iconst (v := 0) hx hb dX5_init_33 (by decide) ?_
  refine y_iast S hK hA hY hn 1 rfl 0 rfl (gx_in rfl (by decide) (by decide)) dX5_init_34 (fun H locs hY => ?_)
  rw [up2_id (show (σ) (n + 1) 0 = 0 from h0 _ _ (by omega))] at hY
  have hY : gx_Y tb ([.inl (6, [some (some (n + 1)), some (some (n + 2)), some (some (n + 3)), none, none, none, none, none, none, none, none])] ++ [.inr (0, 40, [])] ++ [.inr (0, 40, [])] ++ [.inr (0, 40, [])]) _ E s (σ) τ H _ := hY
  refine lv_aload_n hx hb dX5_init_35 rfl (lv_at hl 0 rfl) ?_
  refine lv_iconst (v := 1) hx hb dX5_init_36 (by decide) ?_
  refine y_putI S hK hA hY hn 0 rfl cl_6 3 (by decide) rfl mw_203 rfl rfl (ty := .int) (v := 1) (by decide +kernel) rfl rfl dX5_init_37 (fun H locs hY => ?_)
  have hY : gx_Y tb ([.inl (6, [some (some (n + 1)), some (some (n + 2)), some (some (n + 3)), none, none, none, none, none, none, none, none])] ++ [.inr (0, 40, [])] ++ [.inr (0, 40, [])] ++ [.inr (0, 40, [])]) _ E s (up2 (σ) (n + 0) 3 1) τ H _ := hY
  refine lv_aload_n hx hb dX5_init_40 rfl (lv_at hl 0 rfl) ?_
  refine lv_iconst (v := 1) hx hb dX5_init_41 (by decide) ?_
  refine y_putI S hK hA hY hn 0 rfl cl_6 9 (by decide) rfl mw_209 rfl rfl (ty := .boolean) (v := 1) (by decide +kernel) rfl rfl dX5_init_42 (fun H locs hY => ?_)
  have hY : gx_Y tb ([.inl (6, [some (some (n + 1)), some (some (n + 2)), some (some (n + 3)), none, none, none, none, none, none, none, none])] ++ [.inr (0, 40, [])] ++ [.inr (0, 40, [])] ++ [.inr (0, 40, [])]) _ E s (up2 (up2 (σ) (n + 0) 3 1) (n + 0) 9 1) τ H _ := hY
  have hY : gx_Y tb (b_Rule n) _ E s (up2 (up2 (σ) (n + 0) 3 1) (n + 0) 9 1) τ H _ := hY
  exact y_r S hr hlk hY dX5_init_45
def b_Diary (n : Nat) : List gD := [.inl (3, [some (some (n + 1)), some (some (n + 2)), some (some (n + 3)), some (some (n + 4)), none])] ++ [.inr (0, 20, [])] ++ [.inr (0, 20, [])] ++ [.inr (0, 20, [])] ++ [.inr (0, 20, [])]
set_option maxHeartbeats 4000000 in
set_option maxRecDepth 100000 in
theorem k_Diary (l : Launch) {E : gE} (tb : List gD) (n : Nat) (hn : tb.length = n) (σ : gI) (τ : gJ) (h0 : ∀ c k : Nat, n ≤ c → σ c k = 0) (t0 : ∀ c k : Nat, n ≤ c → τ c k = 0) : gx_Mc l yX2_init cX2_init 1 1 4 80 (tb ++ [.inl (3, [some none, some none, some none, some none, none])]) (tb ++ b_Diary n) E σ (σ) τ [.ref (E.2.2 + (n + 0))] := by
  refine y_b (by decide +kernel) (Nat.le_of_ble_eq_true rfl) ?_
  intro P9 e9 s m9 below meth C9 S hr hlk hnm hK hN hA hY ls hl
  have S : CallFix P9 m9 C9 cX2_init 1 s _ gx_G RX2 := S
  have hx := S.1
  have hb := S.2.1
  have hl : lv_has ls 1 [(0, .ref (E.2.2 + (n + 0)))] := hl
  refine lv_aload_n hx hb dX2_init_0 rfl (lv_at hl 0 rfl) ?_
  refine gx_obj S mw_241 mw_121 mw_122 hl.1 dX2_init_1 ⟨Nat.le_of_ble_eq_true rfl, Nat.le_of_ble_eq_true rfl⟩ ?_
  refine lv_aload_n hx hb dX2_init_4 rfl (lv_at hl 0 rfl) ?_
  refine lv_bipush (v := 20) hx hb dX2_init_5 (by decide) ?_
  refine y_newI S hK hY hn 1 rfl (N := 20) (by decide) (by decide) (by decide) (fun c9 k9 h9 => h0 c9 k9 (by omega)) mw_141 ⟨Nat.le_of_ble_eq_true rfl, Nat.le_of_ble_eq_true rfl⟩ dX2_init_7 (fun H hY => ?_)
  refine y_putF S hK hA hY hn 0 rfl cl_3 0 (Nat.le_of_ble_eq_true rfl) (Nat.le_of_ble_eq_true rfl) mw_242 rfl ⟨rfl, hnm, rfl⟩ (ty := .array .int) (j := (n + 1)) (by decide +kernel) rfl rfl dX2_init_9 (fun H locs hY => ?_)
  have hY : gx_Y tb ([.inl (3, [some (some (n + 1)), some none, some none, some none, none])] ++ [.inr (0, 20, [])]) _ E s (σ) τ H _ := hY
  refine lv_aload_n hx hb dX2_init_12 rfl (lv_at hl 0 rfl) ?_
  refine lv_bipush (v := 20) hx hb dX2_init_13 (by decide) ?_
  refine y_newI S hK hY hn 2 rfl (N := 20) (by decide) (by decide) (by decide) (fun c9 k9 h9 => h0 c9 k9 (by omega)) mw_141 ⟨Nat.le_of_ble_eq_true rfl, Nat.le_of_ble_eq_true rfl⟩ dX2_init_15 (fun H hY => ?_)
  refine y_putF S hK hA hY hn 0 rfl cl_3 1 (Nat.le_of_ble_eq_true rfl) (Nat.le_of_ble_eq_true rfl) mw_243 rfl ⟨rfl, hnm, rfl⟩ (ty := .array .int) (j := (n + 2)) (by decide +kernel) rfl rfl dX2_init_17 (fun H locs hY => ?_)
  have hY : gx_Y tb ([.inl (3, [some (some (n + 1)), some (some (n + 2)), some none, some none, none])] ++ [.inr (0, 20, [])] ++ [.inr (0, 20, [])]) _ E s (σ) τ H _ := hY
  refine lv_aload_n hx hb dX2_init_20 rfl (lv_at hl 0 rfl) ?_
  refine lv_bipush (v := 20) hx hb dX2_init_21 (by decide) ?_
  refine y_newI S hK hY hn 3 rfl (N := 20) (by decide) (by decide) (by decide) (fun c9 k9 h9 => h0 c9 k9 (by omega)) mw_141 ⟨Nat.le_of_ble_eq_true rfl, Nat.le_of_ble_eq_true rfl⟩ dX2_init_23 (fun H hY => ?_)
  refine y_putF S hK hA hY hn 0 rfl cl_3 2 (Nat.le_of_ble_eq_true rfl) (Nat.le_of_ble_eq_true rfl) mw_244 rfl ⟨rfl, hnm, rfl⟩ (ty := .array .int) (j := (n + 3)) (by decide +kernel) rfl rfl dX2_init_25 (fun H locs hY => ?_)
  have hY : gx_Y tb ([.inl (3, [some (some (n + 1)), some (some (n + 2)), some (some (n + 3)), some none, none])] ++ [.inr (0, 20, [])] ++ [.inr (0, 20, [])] ++ [.inr (0, 20, [])]) _ E s (σ) τ H _ := hY
  refine lv_aload_n hx hb dX2_init_28 rfl (lv_at hl 0 rfl) ?_
  refine lv_bipush (v := 20) hx hb dX2_init_29 (by decide) ?_
  refine y_newI S hK hY hn 4 rfl (N := 20) (by decide) (by decide) (by decide) (fun c9 k9 h9 => h0 c9 k9 (by omega)) mw_141 ⟨Nat.le_of_ble_eq_true rfl, Nat.le_of_ble_eq_true rfl⟩ dX2_init_31 (fun H hY => ?_)
  refine y_putF S hK hA hY hn 0 rfl cl_3 3 (Nat.le_of_ble_eq_true rfl) (Nat.le_of_ble_eq_true rfl) mw_245 rfl ⟨rfl, hnm, rfl⟩ (ty := .array .int) (j := (n + 4)) (by decide +kernel) rfl rfl dX2_init_33 (fun H locs hY => ?_)
  have hY : gx_Y tb ([.inl (3, [some (some (n + 1)), some (some (n + 2)), some (some (n + 3)), some (some (n + 4)), none])] ++ [.inr (0, 20, [])] ++ [.inr (0, 20, [])] ++ [.inr (0, 20, [])] ++ [.inr (0, 20, [])]) _ E s (σ) τ H _ := hY
  have hY : gx_Y tb (b_Diary n) _ E s (σ) τ H _ := hY
  exact y_r S hr hlk hY dX2_init_36
def b_Scene (n : Nat) : List gD := [.inl (7, [some (some (n + 1)), some (some (n + 2)), some (some (n + 3)), some (some (n + 4)), some (some (n + 5)), some (some (n + 6)), none, none, none, none, none])] ++ [.inr (0, 6, [])] ++ [.inr (0, 6, [])] ++ [.inr (0, 6, [])] ++ [.inr (0, 6, [])] ++ [.inr (0, 6, [])] ++ [.inr (0, 6, [])]
set_option maxHeartbeats 4000000 in
set_option maxRecDepth 100000 in
theorem k_Scene (l : Launch) {E : gE} (tb : List gD) (n : Nat) (hn : tb.length = n) (σ : gI) (τ : gJ) (h0 : ∀ c k : Nat, n ≤ c → σ c k = 0) (t0 : ∀ c k : Nat, n ≤ c → τ c k = 0) : gx_Mc l yX6_init cX6_init 1 1 6 36 (tb ++ [.inl (7, [some none, some none, some none, some none, some none, some none, none, none, none, none, none])]) (tb ++ b_Scene n) E σ (σ) τ [.ref (E.2.2 + (n + 0))] := by
  refine y_b (by decide +kernel) (Nat.le_of_ble_eq_true rfl) ?_
  intro P9 e9 s m9 below meth C9 S hr hlk hnm hK hN hA hY ls hl
  have S : CallFix P9 m9 C9 cX6_init 1 s _ gx_G RX6 := S
  have hx := S.1
  have hb := S.2.1
  have hl : lv_has ls 1 [(0, .ref (E.2.2 + (n + 0)))] := hl
  refine lv_aload_n hx hb dX6_init_0 rfl (lv_at hl 0 rfl) ?_
  refine gx_obj S mw_263 mw_121 mw_122 hl.1 dX6_init_1 ⟨Nat.le_of_ble_eq_true rfl, Nat.le_of_ble_eq_true rfl⟩ ?_
  refine lv_aload_n hx hb dX6_init_4 rfl (lv_at hl 0 rfl) ?_
  refine lv_bipush (v := 6) hx hb dX6_init_5 (by decide) ?_
  refine y_newI S hK hY hn 1 rfl (N := 6) (by decide) (by decide) (by decide) (fun c9 k9 h9 => h0 c9 k9 (by omega)) mw_141 ⟨Nat.le_of_ble_eq_true rfl, Nat.le_of_ble_eq_true rfl⟩ dX6_init_7 (fun H hY => ?_)
  refine y_putF S hK hA hY hn 0 rfl cl_7 0 (Nat.le_of_ble_eq_true rfl) (Nat.le_of_ble_eq_true rfl) mw_264 rfl ⟨rfl, hnm, rfl⟩ (ty := .array .int) (j := (n + 1)) (by decide +kernel) rfl rfl dX6_init_9 (fun H locs hY => ?_)
  have hY : gx_Y tb ([.inl (7, [some (some (n + 1)), some none, some none, some none, some none, some none, none, none, none, none, none])] ++ [.inr (0, 6, [])]) _ E s (σ) τ H _ := hY
  refine lv_aload_n hx hb dX6_init_12 rfl (lv_at hl 0 rfl) ?_
  refine lv_bipush (v := 6) hx hb dX6_init_13 (by decide) ?_
  refine y_newI S hK hY hn 2 rfl (N := 6) (by decide) (by decide) (by decide) (fun c9 k9 h9 => h0 c9 k9 (by omega)) mw_141 ⟨Nat.le_of_ble_eq_true rfl, Nat.le_of_ble_eq_true rfl⟩ dX6_init_15 (fun H hY => ?_)
  refine y_putF S hK hA hY hn 0 rfl cl_7 1 (Nat.le_of_ble_eq_true rfl) (Nat.le_of_ble_eq_true rfl) mw_265 rfl ⟨rfl, hnm, rfl⟩ (ty := .array .int) (j := (n + 2)) (by decide +kernel) rfl rfl dX6_init_17 (fun H locs hY => ?_)
  have hY : gx_Y tb ([.inl (7, [some (some (n + 1)), some (some (n + 2)), some none, some none, some none, some none, none, none, none, none, none])] ++ [.inr (0, 6, [])] ++ [.inr (0, 6, [])]) _ E s (σ) τ H _ := hY
  refine lv_aload_n hx hb dX6_init_20 rfl (lv_at hl 0 rfl) ?_
  refine lv_bipush (v := 6) hx hb dX6_init_21 (by decide) ?_
  refine y_newI S hK hY hn 3 rfl (N := 6) (by decide) (by decide) (by decide) (fun c9 k9 h9 => h0 c9 k9 (by omega)) mw_141 ⟨Nat.le_of_ble_eq_true rfl, Nat.le_of_ble_eq_true rfl⟩ dX6_init_23 (fun H hY => ?_)
  refine y_putF S hK hA hY hn 0 rfl cl_7 2 (Nat.le_of_ble_eq_true rfl) (Nat.le_of_ble_eq_true rfl) mw_266 rfl ⟨rfl, hnm, rfl⟩ (ty := .array .int) (j := (n + 3)) (by decide +kernel) rfl rfl dX6_init_25 (fun H locs hY => ?_)
  have hY : gx_Y tb ([.inl (7, [some (some (n + 1)), some (some (n + 2)), some (some (n + 3)), some none, some none, some none, none, none, none, none, none])] ++ [.inr (0, 6, [])] ++ [.inr (0, 6, [])] ++ [.inr (0, 6, [])]) _ E s (σ) τ H _ := hY
  refine lv_aload_n hx hb dX6_init_28 rfl (lv_at hl 0 rfl) ?_
  refine lv_bipush (v := 6) hx hb dX6_init_29 (by decide) ?_
  refine y_newI S hK hY hn 4 rfl (N := 6) (by decide) (by decide) (by decide) (fun c9 k9 h9 => h0 c9 k9 (by omega)) mw_141 ⟨Nat.le_of_ble_eq_true rfl, Nat.le_of_ble_eq_true rfl⟩ dX6_init_31 (fun H hY => ?_)
  refine y_putF S hK hA hY hn 0 rfl cl_7 3 (Nat.le_of_ble_eq_true rfl) (Nat.le_of_ble_eq_true rfl) mw_267 rfl ⟨rfl, hnm, rfl⟩ (ty := .array .int) (j := (n + 4)) (by decide +kernel) rfl rfl dX6_init_33 (fun H locs hY => ?_)
  have hY : gx_Y tb ([.inl (7, [some (some (n + 1)), some (some (n + 2)), some (some (n + 3)), some (some (n + 4)), some none, some none, none, none, none, none, none])] ++ [.inr (0, 6, [])] ++ [.inr (0, 6, [])] ++ [.inr (0, 6, [])] ++ [.inr (0, 6, [])]) _ E s (σ) τ H _ := hY
  refine lv_aload_n hx hb dX6_init_36 rfl (lv_at hl 0 rfl) ?_
  refine lv_bipush (v := 6) hx hb dX6_init_37 (by decide) ?_
  refine y_newI S hK hY hn 5 rfl (N := 6) (by decide) (by decide) (by decide) (fun c9 k9 h9 => h0 c9 k9 (by omega)) mw_141 ⟨Nat.le_of_ble_eq_true rfl, Nat.le_of_ble_eq_true rfl⟩ dX6_init_39 (fun H hY => ?_)
  refine y_putF S hK hA hY hn 0 rfl cl_7 4 (Nat.le_of_ble_eq_true rfl) (Nat.le_of_ble_eq_true rfl) mw_268 rfl ⟨rfl, hnm, rfl⟩ (ty := .array .int) (j := (n + 5)) (by decide +kernel) rfl rfl dX6_init_41 (fun H locs hY => ?_)
  have hY : gx_Y tb ([.inl (7, [some (some (n + 1)), some (some (n + 2)), some (some (n + 3)), some (some (n + 4)), some (some (n + 5)), some none, none, none, none, none, none])] ++ [.inr (0, 6, [])] ++ [.inr (0, 6, [])] ++ [.inr (0, 6, [])] ++ [.inr (0, 6, [])] ++ [.inr (0, 6, [])]) _ E s (σ) τ H _ := hY
  refine lv_aload_n hx hb dX6_init_44 rfl (lv_at hl 0 rfl) ?_
  refine lv_bipush (v := 6) hx hb dX6_init_45 (by decide) ?_
  refine y_newI S hK hY hn 6 rfl (N := 6) (by decide) (by decide) (by decide) (fun c9 k9 h9 => h0 c9 k9 (by omega)) mw_141 ⟨Nat.le_of_ble_eq_true rfl, Nat.le_of_ble_eq_true rfl⟩ dX6_init_47 (fun H hY => ?_)
  refine y_putF S hK hA hY hn 0 rfl cl_7 5 (Nat.le_of_ble_eq_true rfl) (Nat.le_of_ble_eq_true rfl) mw_269 rfl ⟨rfl, hnm, rfl⟩ (ty := .array .int) (j := (n + 6)) (by decide +kernel) rfl rfl dX6_init_49 (fun H locs hY => ?_)
  have hY : gx_Y tb ([.inl (7, [some (some (n + 1)), some (some (n + 2)), some (some (n + 3)), some (some (n + 4)), some (some (n + 5)), some (some (n + 6)), none, none, none, none, none])] ++ [.inr (0, 6, [])] ++ [.inr (0, 6, [])] ++ [.inr (0, 6, [])] ++ [.inr (0, 6, [])] ++ [.inr (0, 6, [])] ++ [.inr (0, 6, [])]) _ E s (σ) τ H _ := hY
  have hY : gx_Y tb (b_Scene n) _ E s (σ) τ H _ := hY
  exact y_r S hr hlk hY dX6_init_52
def b_Corks (n : Nat) : List gD := [.inl (1, [some (some (n + 1)), some (some (n + 2)), some (some (n + 3)), none])] ++ [.inr (0, 10, [])] ++ [.inr (0, 10, [])] ++ [.inr (0, 10, [])]
set_option maxHeartbeats 4000000 in
set_option maxRecDepth 100000 in
theorem k_Corks (l : Launch) {E : gE} (tb : List gD) (n : Nat) (hn : tb.length = n) (σ : gI) (τ : gJ) (h0 : ∀ c k : Nat, n ≤ c → σ c k = 0) (t0 : ∀ c k : Nat, n ≤ c → τ c k = 0) : gx_Mc l yX0_init cX0_init 1 1 3 30 (tb ++ [.inl (1, [some none, some none, some none, none])]) (tb ++ b_Corks n) E σ (σ) τ [.ref (E.2.2 + (n + 0))] := by
  refine y_b (by decide +kernel) (Nat.le_of_ble_eq_true rfl) ?_
  intro P9 e9 s m9 below meth C9 S hr hlk hnm hK hN hA hY ls hl
  have S : CallFix P9 m9 C9 cX0_init 1 s _ gx_G RX0 := S
  have hx := S.1
  have hb := S.2.1
  have hl : lv_has ls 1 [(0, .ref (E.2.2 + (n + 0)))] := hl
  refine lv_aload_n hx hb dX0_init_0 rfl (lv_at hl 0 rfl) ?_
  refine gx_obj S mw_335 mw_121 mw_122 hl.1 dX0_init_1 ⟨Nat.le_of_ble_eq_true rfl, Nat.le_of_ble_eq_true rfl⟩ ?_
  refine lv_aload_n hx hb dX0_init_4 rfl (lv_at hl 0 rfl) ?_
  refine lv_bipush (v := 10) hx hb dX0_init_5 (by decide) ?_
  refine y_newI S hK hY hn 1 rfl (N := 10) (by decide) (by decide) (by decide) (fun c9 k9 h9 => h0 c9 k9 (by omega)) mw_141 ⟨Nat.le_of_ble_eq_true rfl, Nat.le_of_ble_eq_true rfl⟩ dX0_init_7 (fun H hY => ?_)
  refine y_putF S hK hA hY hn 0 rfl cl_1 0 (Nat.le_of_ble_eq_true rfl) (Nat.le_of_ble_eq_true rfl) mw_336 rfl ⟨rfl, hnm, rfl⟩ (ty := .array .int) (j := (n + 1)) (by decide +kernel) rfl rfl dX0_init_9 (fun H locs hY => ?_)
  have hY : gx_Y tb ([.inl (1, [some (some (n + 1)), some none, some none, none])] ++ [.inr (0, 10, [])]) _ E s (σ) τ H _ := hY
  refine lv_aload_n hx hb dX0_init_12 rfl (lv_at hl 0 rfl) ?_
  refine lv_bipush (v := 10) hx hb dX0_init_13 (by decide) ?_
  refine y_newI S hK hY hn 2 rfl (N := 10) (by decide) (by decide) (by decide) (fun c9 k9 h9 => h0 c9 k9 (by omega)) mw_141 ⟨Nat.le_of_ble_eq_true rfl, Nat.le_of_ble_eq_true rfl⟩ dX0_init_15 (fun H hY => ?_)
  refine y_putF S hK hA hY hn 0 rfl cl_1 1 (Nat.le_of_ble_eq_true rfl) (Nat.le_of_ble_eq_true rfl) mw_337 rfl ⟨rfl, hnm, rfl⟩ (ty := .array .int) (j := (n + 2)) (by decide +kernel) rfl rfl dX0_init_17 (fun H locs hY => ?_)
  have hY : gx_Y tb ([.inl (1, [some (some (n + 1)), some (some (n + 2)), some none, none])] ++ [.inr (0, 10, [])] ++ [.inr (0, 10, [])]) _ E s (σ) τ H _ := hY
  refine lv_aload_n hx hb dX0_init_20 rfl (lv_at hl 0 rfl) ?_
  refine lv_bipush (v := 10) hx hb dX0_init_21 (by decide) ?_
  refine y_newI S hK hY hn 3 rfl (N := 10) (by decide) (by decide) (by decide) (fun c9 k9 h9 => h0 c9 k9 (by omega)) mw_141 ⟨Nat.le_of_ble_eq_true rfl, Nat.le_of_ble_eq_true rfl⟩ dX0_init_23 (fun H hY => ?_)
  refine y_putF S hK hA hY hn 0 rfl cl_1 2 (Nat.le_of_ble_eq_true rfl) (Nat.le_of_ble_eq_true rfl) mw_338 rfl ⟨rfl, hnm, rfl⟩ (ty := .array .int) (j := (n + 3)) (by decide +kernel) rfl rfl dX0_init_25 (fun H locs hY => ?_)
  have hY : gx_Y tb ([.inl (1, [some (some (n + 1)), some (some (n + 2)), some (some (n + 3)), none])] ++ [.inr (0, 10, [])] ++ [.inr (0, 10, [])] ++ [.inr (0, 10, [])]) _ E s (σ) τ H _ := hY
  have hY : gx_Y tb (b_Corks n) _ E s (σ) τ H _ := hY
  exact y_r S hr hlk hY dX0_init_28
def b_Row (n : Nat) : List gD := [.inl (5, [some (some (n + 1)), none])] ++ [.inr (1, 3, [])]
set_option maxHeartbeats 4000000 in
set_option maxRecDepth 100000 in
theorem k_Row (l : Launch) {E : gE} (tb : List gD) (n : Nat) (hn : tb.length = n) (σ : gI) (τ : gJ) (h0 : ∀ c k : Nat, n ≤ c → σ c k = 0) (t0 : ∀ c k : Nat, n ≤ c → τ c k = 0) : gx_Mc l yX4_init cX4_init 1 1 1 3 (tb ++ [.inl (5, [some none, none])]) (tb ++ b_Row n) E σ (σ) τ [.ref (E.2.2 + (n + 0))] := by
  refine y_b (by decide +kernel) (Nat.le_of_ble_eq_true rfl) ?_
  intro P9 e9 s m9 below meth C9 S hr hlk hnm hK hN hA hY ls hl
  have S : CallFix P9 m9 C9 cX4_init 1 s _ gx_G RX4 := S
  have hx := S.1
  have hb := S.2.1
  have hl : lv_has ls 1 [(0, .ref (E.2.2 + (n + 0)))] := hl
  refine lv_aload_n hx hb dX4_init_0 rfl (lv_at hl 0 rfl) ?_
  refine gx_obj S mw_355 mw_121 mw_122 hl.1 dX4_init_1 ⟨Nat.le_of_ble_eq_true rfl, Nat.le_of_ble_eq_true rfl⟩ ?_
  refine lv_aload_n hx hb dX4_init_4 rfl (lv_at hl 0 rfl) ?_
  refine lv_iconst (v := 3) hx hb dX4_init_5 (by decide) ?_
  refine y_newJ S hK hY hn 1 rfl (N := 3) (by decide) (by decide) (by decide) (fun c9 k9 h9 => t0 c9 k9 (by omega)) mw_364 ⟨Nat.le_of_ble_eq_true rfl, Nat.le_of_ble_eq_true rfl⟩ dX4_init_6 (fun H hY => ?_)
  refine y_putF S hK hA hY hn 0 rfl cl_5 0 (Nat.le_of_ble_eq_true rfl) (Nat.le_of_ble_eq_true rfl) mw_356 rfl ⟨rfl, hnm, rfl⟩ (ty := .array .long) (j := (n + 1)) (by decide +kernel) rfl rfl dX4_init_8 (fun H locs hY => ?_)
  have hY : gx_Y tb ([.inl (5, [some (some (n + 1)), none])] ++ [.inr (1, 3, [])]) _ E s (σ) τ H _ := hY
  have hY : gx_Y tb (b_Row n) _ E s (σ) τ H _ := hY
  exact y_r S hr hlk hY dX4_init_11
def b_Current (n : Nat) (a1 : Nat) (a2 : Nat) (a3 : Nat) : List gD := [.inl (2, [some (some a1), some (some a2), some (some a3), some (some (n + 1)), none, none, none, none, none, none])] ++ [.inr (0, 8, [])]
set_option maxHeartbeats 4000000 in
set_option maxRecDepth 100000 in
theorem k_Current (l : Launch) {E : gE} (tb : List gD) (n : Nat) (hn : tb.length = n) (σ : gI) (τ : gJ) (a1 : Nat) (a2 : Nat) (a3 : Nat) (h0 : ∀ c k : Nat, n ≤ c → σ c k = 0) (t0 : ∀ c k : Nat, n ≤ c → τ c k = 0) : gx_Mc l yX1_init cX1_init 4 1 1 8 (tb ++ [.inl (2, [some none, some none, some none, some none, none, none, none, none, none, none])]) (tb ++ b_Current n a1 a2 a3) E σ (σ) τ [.ref (E.2.2 + (n + 0)), .ref (E.2.2 + a1), .ref (E.2.2 + a2), .ref (E.2.2 + a3)] := by
  refine y_b (by decide +kernel) (Nat.le_of_ble_eq_true rfl) ?_
  intro P9 e9 s m9 below meth C9 S hr hlk hnm hK hN hA hY ls hl
  have S : CallFix P9 m9 C9 cX1_init 4 s _ gx_G RX1 := S
  have hx := S.1
  have hb := S.2.1
  have hl : lv_has ls 4 [(0, .ref (E.2.2 + (n + 0))), (1, .ref (E.2.2 + a1)), (2, .ref (E.2.2 + a2)), (3, .ref (E.2.2 + a3))] := hl
  refine lv_aload_n hx hb dX1_init_0 rfl (lv_at hl 0 rfl) ?_
  refine gx_obj S mw_370 mw_121 mw_122 hl.1 dX1_init_1 ⟨Nat.le_of_ble_eq_true rfl, Nat.le_of_ble_eq_true rfl⟩ ?_
  refine lv_aload_n hx hb dX1_init_4 rfl (lv_at hl 0 rfl) ?_
  refine lv_bipush (v := 8) hx hb dX1_init_5 (by decide) ?_
  refine y_newI S hK hY hn 1 rfl (N := 8) (by decide) (by decide) (by decide) (fun c9 k9 h9 => h0 c9 k9 (by omega)) mw_141 ⟨Nat.le_of_ble_eq_true rfl, Nat.le_of_ble_eq_true rfl⟩ dX1_init_7 (fun H hY => ?_)
  refine y_putF S hK hA hY hn 0 rfl cl_2 3 (Nat.le_of_ble_eq_true rfl) (Nat.le_of_ble_eq_true rfl) mw_374 rfl ⟨rfl, hnm, rfl⟩ (ty := .array .int) (j := (n + 1)) (by decide +kernel) rfl rfl dX1_init_9 (fun H locs hY => ?_)
  have hY : gx_Y tb ([.inl (2, [some none, some none, some none, some (some (n + 1)), none, none, none, none, none, none])] ++ [.inr (0, 8, [])]) _ E s (σ) τ H _ := hY
  refine lv_aload_n hx hb dX1_init_12 rfl (lv_at hl 0 rfl) ?_
  refine lv_aload_n hx hb dX1_init_13 rfl (lv_at hl 1 rfl) ?_
  refine y_putF S hK hA hY hn 0 rfl cl_2 0 (Nat.le_of_ble_eq_true rfl) (Nat.le_of_ble_eq_true rfl) mw_371 rfl ⟨rfl, hnm, rfl⟩ (ty := .object "DownTheGutter$Town") (j := a1) (by decide +kernel) rfl rfl dX1_init_14 (fun H locs hY => ?_)
  have hY : gx_Y tb ([.inl (2, [some (some a1), some none, some none, some (some (n + 1)), none, none, none, none, none, none])] ++ [.inr (0, 8, [])]) _ E s (σ) τ H _ := hY
  refine lv_aload_n hx hb dX1_init_17 rfl (lv_at hl 0 rfl) ?_
  refine lv_aload_n hx hb dX1_init_18 rfl (lv_at hl 2 rfl) ?_
  refine y_putF S hK hA hY hn 0 rfl cl_2 1 (Nat.le_of_ble_eq_true rfl) (Nat.le_of_ble_eq_true rfl) mw_372 rfl ⟨rfl, hnm, rfl⟩ (ty := .object "DownTheGutter$Water") (j := a2) (by decide +kernel) rfl rfl dX1_init_19 (fun H locs hY => ?_)
  have hY : gx_Y tb ([.inl (2, [some (some a1), some (some a2), some none, some (some (n + 1)), none, none, none, none, none, none])] ++ [.inr (0, 8, [])]) _ E s (σ) τ H _ := hY
  refine lv_aload_n hx hb dX1_init_22 rfl (lv_at hl 0 rfl) ?_
  refine lv_aload_n hx hb dX1_init_23 rfl (lv_at hl 3 rfl) ?_
  refine y_putF S hK hA hY hn 0 rfl cl_2 2 (Nat.le_of_ble_eq_true rfl) (Nat.le_of_ble_eq_true rfl) mw_373 rfl ⟨rfl, hnm, rfl⟩ (ty := .object "DownTheGutter$Rule") (j := a3) (by decide +kernel) rfl rfl dX1_init_24 (fun H locs hY => ?_)
  have hY : gx_Y tb ([.inl (2, [some (some a1), some (some a2), some (some a3), some (some (n + 1)), none, none, none, none, none, none])] ++ [.inr (0, 8, [])]) _ E s (σ) τ H _ := hY
  have hY : gx_Y tb (b_Current n a1 a2 a3) _ E s (σ) τ H _ := hY
  exact y_r S hr hlk hY dX1_init_27
def b_Past (n : Nat) : List gD := [.inl (4, [some (some (n + 1)), none, none])] ++ [.inr (3, 15, [some (n + 2), some (n + 9), some (n + 16), some (n + 23), some (n + 30), some (n + 37), some (n + 44), some (n + 51), some (n + 58), some (n + 65), some (n + 72), some (n + 79), some (n + 86), some (n + 93), some (n + 100)])] ++ b_Scene (n + 2) ++ b_Scene (n + 9) ++ b_Scene (n + 16) ++ b_Scene (n + 23) ++ b_Scene (n + 30) ++ b_Scene (n + 37) ++ b_Scene (n + 44) ++ b_Scene (n + 51) ++ b_Scene (n + 58) ++ b_Scene (n + 65) ++ b_Scene (n + 72) ++ b_Scene (n + 79) ++ b_Scene (n + 86) ++ b_Scene (n + 93) ++ b_Scene (n + 100)
set_option maxHeartbeats 4000000 in
set_option maxRecDepth 100000 in
theorem k_Past (l : Launch) {E : gE} (tb : List gD) (n : Nat) (hn : tb.length = n) (σ : gI) (τ : gJ) (h0 : ∀ c k : Nat, n ≤ c → σ c k = 0) (t0 : ∀ c k : Nat, n ≤ c → τ c k = 0) : gx_Mc l yX3_init cX3_init 2 2 106 720 (tb ++ [.inl (4, [some none, none, none])]) (tb ++ b_Past n) E σ (σ) τ [.ref (E.2.2 + (n + 0))] := by
  refine y_b (by decide +kernel) (Nat.le_of_ble_eq_true rfl) ?_
  intro P9 e9 s m9 below meth C9 S hr hlk hnm hK hN hA hY ls hl
  have S : CallFix P9 m9 C9 cX3_init 2 s _ gx_G RX3 := S
  have hx := S.1
  have hb := S.2.1
  have hl : lv_has ls 2 [(0, .ref (E.2.2 + (n + 0)))] := hl
  refine lv_aload_n hx hb dX3_init_0 rfl (lv_at hl 0 rfl) ?_
  refine gx_obj S mw_315 mw_121 mw_122 hl.1 dX3_init_1 ⟨Nat.le_of_ble_eq_true rfl, Nat.le_of_ble_eq_true rfl⟩ ?_
  refine lv_aload_n hx hb dX3_init_4 rfl (lv_at hl 0 rfl) ?_
  refine lv_bipush (v := 15) hx hb dX3_init_5 (by decide) ?_
  refine y_newS S hK hN hY hn 1 rfl (N := 15) (by decide) (by decide) (by decide) mw_316 ⟨Nat.le_of_ble_eq_true rfl, Nat.le_of_ble_eq_true rfl⟩ dX3_init_7 (fun H hY => ?_)
  have hY : gx_Y tb ([.inl (4, [some none, none, none])] ++ [.inr (3, 15, [none, none, none, none, none, none, none, none, none, none, none, none, none, none, none])]) _ E s (σ) τ H _ := hY
  refine y_putF S hK hA hY hn 0 rfl cl_4 0 (Nat.le_of_ble_eq_true rfl) (Nat.le_of_ble_eq_true rfl) mw_319 rfl ⟨rfl, hnm, rfl⟩ (ty := .array (.object "DownTheGutter$Scene")) (j := (n + 1)) (by decide +kernel) rfl rfl dX3_init_10 (fun H locs hY => ?_)
  have hY : gx_Y tb ([.inl (4, [some (some (n + 1)), none, none])] ++ [.inr (3, 15, [none, none, none, none, none, none, none, none, none, none, none, none, none, none, none])]) _ E s (σ) τ H _ := hY
  refine lv_iconst (v := 0) hx hb dX3_init_13 (by decide) ?_
  refine lv_istore_n (lv' := [(1, .int 0), (0, .ref (E.2.2 + (n + 0)))]) hx hb dX3_init_14 rfl hl (by decide) rfl (fun ls hl => ?_)
  refine lv_iload_n hx hb dX3_init_15 rfl (lv_at hl 0 rfl) ?_
  refine lv_bipush (v := 15) hx hb dX3_init_16 (by decide) ?_
  refine lv_icmp_ge (tgt := 40) hx hb dX3_init_18 (by decide) (fun h => absurd h (by decide)) (fun _ => ?_)
  refine lv_aload_n hx hb dX3_init_21 rfl (lv_at hl 1 rfl) ?_
  refine y_getr (j := (n + 1)) S hK hY hn 0 rfl cl_4 0 (by decide) rfl mw_319 rfl dX3_init_22 ?_
  refine lv_iload_n hx hb dX3_init_25 rfl (lv_at hl 0 rfl) ?_
  refine y_new S hK hY hn 2 rfl cl_7 tyX6 tyX6_ok [some none, some none, some none, some none, some none, some none, none, none, none, none, none] (fun j hj => by rcases (show j = 0 ∨ j = 1 ∨ j = 2 ∨ j = 3 ∨ j = 4 ∨ j = 5 ∨ j = 6 ∨ j = 7 ∨ j = 8 ∨ j = 9 ∨ j = 10 by omega) with rfl | rfl | rfl | rfl | rfl | rfl | rfl | rfl | rfl | rfl | rfl <;> rfl) (fun c9 k9 h9 => h0 c9 k9 (by omega)) mwc_X3_9 mw_259 mw_95 ⟨Nat.le_of_ble_eq_true rfl, Nat.le_of_ble_eq_true rfl⟩ dX3_init_26 (fun H hY => ?_)
  refine lv_dup hx hb dX3_init_29 rfl ?_
  refine y_cN (K := 2) (As := []) (rest := [.ref (E.2.2 + (n + 2)), .int 0, .ref (E.2.2 + (n + 1))]) S hK hN hA hY hn rfl (k_Scene l (E := E) _ (n + 2) (y_ln hn rfl) (σ) τ  (fun c9 k9 h9 => h0 c9 k9 (by omega)) (fun c9 k9 h9 => t0 c9 k9 (by omega))) cw_X3_15 ⟨Nat.le_of_ble_eq_true rfl, Nat.le_of_ble_eq_true rfl⟩ rfl hl.1 rfl (Nat.le_of_ble_eq_true rfl) ⟨Nat.le_of_ble_eq_true rfl, Nat.le_of_ble_eq_true rfl⟩ dX3_init_30 (fun H locs hY => ?_)
  refine y_aast S hK hA hY hn 1 2 rfl rfl 0 rfl (gx_in rfl (by decide) (by decide)) (Nat.le_of_ble_eq_true rfl) dX3_init_33 (fun H locs hY => ?_)
  have hY : gx_Y tb ([.inl (4, [some (some (n + 1)), none, none])] ++ [.inr (3, 15, [some (n + 2), none, none, none, none, none, none, none, none, none, none, none, none, none, none])] ++ b_Scene (n + 2)) _ E s (σ) τ H _ := hY
  refine lv_iinc (v := 1) (lv' := [(1, .int 1), (0, .ref (E.2.2 + (n + 0)))]) hx hb dX3_init_34 hl (k := 0) rfl (by decide) (by decide) rfl (fun ls hl => ?_)
  refine lv_goto (tgt := 15) hx hb dX3_init_37 (by decide) ?_
  refine lv_iload_n hx hb dX3_init_15 rfl (lv_at hl 0 rfl) ?_
  refine lv_bipush (v := 15) hx hb dX3_init_16 (by decide) ?_
  refine lv_icmp_ge (tgt := 40) hx hb dX3_init_18 (by decide) (fun h => absurd h (by decide)) (fun _ => ?_)
  refine lv_aload_n hx hb dX3_init_21 rfl (lv_at hl 1 rfl) ?_
  refine y_getr (j := (n + 1)) S hK hY hn 0 rfl cl_4 0 (by decide) rfl mw_319 rfl dX3_init_22 ?_
  refine lv_iload_n hx hb dX3_init_25 rfl (lv_at hl 0 rfl) ?_
  refine y_new S hK hY hn 9 rfl cl_7 tyX6 tyX6_ok [some none, some none, some none, some none, some none, some none, none, none, none, none, none] (fun j hj => by rcases (show j = 0 ∨ j = 1 ∨ j = 2 ∨ j = 3 ∨ j = 4 ∨ j = 5 ∨ j = 6 ∨ j = 7 ∨ j = 8 ∨ j = 9 ∨ j = 10 by omega) with rfl | rfl | rfl | rfl | rfl | rfl | rfl | rfl | rfl | rfl | rfl <;> rfl) (fun c9 k9 h9 => h0 c9 k9 (by omega)) mwc_X3_9 mw_259 mw_95 ⟨Nat.le_of_ble_eq_true rfl, Nat.le_of_ble_eq_true rfl⟩ dX3_init_26 (fun H hY => ?_)
  refine lv_dup hx hb dX3_init_29 rfl ?_
  refine y_cN (K := 9) (As := []) (rest := [.ref (E.2.2 + (n + 9)), .int 1, .ref (E.2.2 + (n + 1))]) S hK hN hA hY hn rfl (k_Scene l (E := E) _ (n + 9) (y_ln hn rfl) (σ) τ  (fun c9 k9 h9 => h0 c9 k9 (by omega)) (fun c9 k9 h9 => t0 c9 k9 (by omega))) cw_X3_15 ⟨Nat.le_of_ble_eq_true rfl, Nat.le_of_ble_eq_true rfl⟩ rfl hl.1 rfl (Nat.le_of_ble_eq_true rfl) ⟨Nat.le_of_ble_eq_true rfl, Nat.le_of_ble_eq_true rfl⟩ dX3_init_30 (fun H locs hY => ?_)
  refine y_aast S hK hA hY hn 1 9 rfl rfl 1 rfl (gx_in rfl (by decide) (by decide)) (Nat.le_of_ble_eq_true rfl) dX3_init_33 (fun H locs hY => ?_)
  have hY : gx_Y tb ([.inl (4, [some (some (n + 1)), none, none])] ++ [.inr (3, 15, [some (n + 2), some (n + 9), none, none, none, none, none, none, none, none, none, none, none, none, none])] ++ b_Scene (n + 2) ++ b_Scene (n + 9)) _ E s (σ) τ H _ := hY
  refine lv_iinc (v := 2) (lv' := [(1, .int 2), (0, .ref (E.2.2 + (n + 0)))]) hx hb dX3_init_34 hl (k := 0) rfl (by decide) (by decide) rfl (fun ls hl => ?_)
  refine lv_goto (tgt := 15) hx hb dX3_init_37 (by decide) ?_
  refine lv_iload_n hx hb dX3_init_15 rfl (lv_at hl 0 rfl) ?_
  refine lv_bipush (v := 15) hx hb dX3_init_16 (by decide) ?_
  refine lv_icmp_ge (tgt := 40) hx hb dX3_init_18 (by decide) (fun h => absurd h (by decide)) (fun _ => ?_)
  refine lv_aload_n hx hb dX3_init_21 rfl (lv_at hl 1 rfl) ?_
  refine y_getr (j := (n + 1)) S hK hY hn 0 rfl cl_4 0 (by decide) rfl mw_319 rfl dX3_init_22 ?_
  refine lv_iload_n hx hb dX3_init_25 rfl (lv_at hl 0 rfl) ?_
  refine y_new S hK hY hn 16 rfl cl_7 tyX6 tyX6_ok [some none, some none, some none, some none, some none, some none, none, none, none, none, none] (fun j hj => by rcases (show j = 0 ∨ j = 1 ∨ j = 2 ∨ j = 3 ∨ j = 4 ∨ j = 5 ∨ j = 6 ∨ j = 7 ∨ j = 8 ∨ j = 9 ∨ j = 10 by omega) with rfl | rfl | rfl | rfl | rfl | rfl | rfl | rfl | rfl | rfl | rfl <;> rfl) (fun c9 k9 h9 => h0 c9 k9 (by omega)) mwc_X3_9 mw_259 mw_95 ⟨Nat.le_of_ble_eq_true rfl, Nat.le_of_ble_eq_true rfl⟩ dX3_init_26 (fun H hY => ?_)
  refine lv_dup hx hb dX3_init_29 rfl ?_
  refine y_cN (K := 16) (As := []) (rest := [.ref (E.2.2 + (n + 16)), .int 2, .ref (E.2.2 + (n + 1))]) S hK hN hA hY hn rfl (k_Scene l (E := E) _ (n + 16) (y_ln hn rfl) (σ) τ  (fun c9 k9 h9 => h0 c9 k9 (by omega)) (fun c9 k9 h9 => t0 c9 k9 (by omega))) cw_X3_15 ⟨Nat.le_of_ble_eq_true rfl, Nat.le_of_ble_eq_true rfl⟩ rfl hl.1 rfl (Nat.le_of_ble_eq_true rfl) ⟨Nat.le_of_ble_eq_true rfl, Nat.le_of_ble_eq_true rfl⟩ dX3_init_30 (fun H locs hY => ?_)
  refine y_aast S hK hA hY hn 1 16 rfl rfl 2 rfl (gx_in rfl (by decide) (by decide)) (Nat.le_of_ble_eq_true rfl) dX3_init_33 (fun H locs hY => ?_)
  have hY : gx_Y tb ([.inl (4, [some (some (n + 1)), none, none])] ++ [.inr (3, 15, [some (n + 2), some (n + 9), some (n + 16), none, none, none, none, none, none, none, none, none, none, none, none])] ++ b_Scene (n + 2) ++ b_Scene (n + 9) ++ b_Scene (n + 16)) _ E s (σ) τ H _ := hY
  refine lv_iinc (v := 3) (lv' := [(1, .int 3), (0, .ref (E.2.2 + (n + 0)))]) hx hb dX3_init_34 hl (k := 0) rfl (by decide) (by decide) rfl (fun ls hl => ?_)
  refine lv_goto (tgt := 15) hx hb dX3_init_37 (by decide) ?_
  refine lv_iload_n hx hb dX3_init_15 rfl (lv_at hl 0 rfl) ?_
  refine lv_bipush (v := 15) hx hb dX3_init_16 (by decide) ?_
  refine lv_icmp_ge (tgt := 40) hx hb dX3_init_18 (by decide) (fun h => absurd h (by decide)) (fun _ => ?_)
  refine lv_aload_n hx hb dX3_init_21 rfl (lv_at hl 1 rfl) ?_
  refine y_getr (j := (n + 1)) S hK hY hn 0 rfl cl_4 0 (by decide) rfl mw_319 rfl dX3_init_22 ?_
  refine lv_iload_n hx hb dX3_init_25 rfl (lv_at hl 0 rfl) ?_
  refine y_new S hK hY hn 23 rfl cl_7 tyX6 tyX6_ok [some none, some none, some none, some none, some none, some none, none, none, none, none, none] (fun j hj => by rcases (show j = 0 ∨ j = 1 ∨ j = 2 ∨ j = 3 ∨ j = 4 ∨ j = 5 ∨ j = 6 ∨ j = 7 ∨ j = 8 ∨ j = 9 ∨ j = 10 by omega) with rfl | rfl | rfl | rfl | rfl | rfl | rfl | rfl | rfl | rfl | rfl <;> rfl) (fun c9 k9 h9 => h0 c9 k9 (by omega)) mwc_X3_9 mw_259 mw_95 ⟨Nat.le_of_ble_eq_true rfl, Nat.le_of_ble_eq_true rfl⟩ dX3_init_26 (fun H hY => ?_)
  refine lv_dup hx hb dX3_init_29 rfl ?_
  refine y_cN (K := 23) (As := []) (rest := [.ref (E.2.2 + (n + 23)), .int 3, .ref (E.2.2 + (n + 1))]) S hK hN hA hY hn rfl (k_Scene l (E := E) _ (n + 23) (y_ln hn rfl) (σ) τ  (fun c9 k9 h9 => h0 c9 k9 (by omega)) (fun c9 k9 h9 => t0 c9 k9 (by omega))) cw_X3_15 ⟨Nat.le_of_ble_eq_true rfl, Nat.le_of_ble_eq_true rfl⟩ rfl hl.1 rfl (Nat.le_of_ble_eq_true rfl) ⟨Nat.le_of_ble_eq_true rfl, Nat.le_of_ble_eq_true rfl⟩ dX3_init_30 (fun H locs hY => ?_)
  refine y_aast S hK hA hY hn 1 23 rfl rfl 3 rfl (gx_in rfl (by decide) (by decide)) (Nat.le_of_ble_eq_true rfl) dX3_init_33 (fun H locs hY => ?_)
  have hY : gx_Y tb ([.inl (4, [some (some (n + 1)), none, none])] ++ [.inr (3, 15, [some (n + 2), some (n + 9), some (n + 16), some (n + 23), none, none, none, none, none, none, none, none, none, none, none])] ++ b_Scene (n + 2) ++ b_Scene (n + 9) ++ b_Scene (n + 16) ++ b_Scene (n + 23)) _ E s (σ) τ H _ := hY
  refine lv_iinc (v := 4) (lv' := [(1, .int 4), (0, .ref (E.2.2 + (n + 0)))]) hx hb dX3_init_34 hl (k := 0) rfl (by decide) (by decide) rfl (fun ls hl => ?_)
  refine lv_goto (tgt := 15) hx hb dX3_init_37 (by decide) ?_
  refine lv_iload_n hx hb dX3_init_15 rfl (lv_at hl 0 rfl) ?_
  refine lv_bipush (v := 15) hx hb dX3_init_16 (by decide) ?_
  refine lv_icmp_ge (tgt := 40) hx hb dX3_init_18 (by decide) (fun h => absurd h (by decide)) (fun _ => ?_)
  refine lv_aload_n hx hb dX3_init_21 rfl (lv_at hl 1 rfl) ?_
  refine y_getr (j := (n + 1)) S hK hY hn 0 rfl cl_4 0 (by decide) rfl mw_319 rfl dX3_init_22 ?_
  refine lv_iload_n hx hb dX3_init_25 rfl (lv_at hl 0 rfl) ?_
  refine y_new S hK hY hn 30 rfl cl_7 tyX6 tyX6_ok [some none, some none, some none, some none, some none, some none, none, none, none, none, none] (fun j hj => by rcases (show j = 0 ∨ j = 1 ∨ j = 2 ∨ j = 3 ∨ j = 4 ∨ j = 5 ∨ j = 6 ∨ j = 7 ∨ j = 8 ∨ j = 9 ∨ j = 10 by omega) with rfl | rfl | rfl | rfl | rfl | rfl | rfl | rfl | rfl | rfl | rfl <;> rfl) (fun c9 k9 h9 => h0 c9 k9 (by omega)) mwc_X3_9 mw_259 mw_95 ⟨Nat.le_of_ble_eq_true rfl, Nat.le_of_ble_eq_true rfl⟩ dX3_init_26 (fun H hY => ?_)
  refine lv_dup hx hb dX3_init_29 rfl ?_
  refine y_cN (K := 30) (As := []) (rest := [.ref (E.2.2 + (n + 30)), .int 4, .ref (E.2.2 + (n + 1))]) S hK hN hA hY hn rfl (k_Scene l (E := E) _ (n + 30) (y_ln hn rfl) (σ) τ  (fun c9 k9 h9 => h0 c9 k9 (by omega)) (fun c9 k9 h9 => t0 c9 k9 (by omega))) cw_X3_15 ⟨Nat.le_of_ble_eq_true rfl, Nat.le_of_ble_eq_true rfl⟩ rfl hl.1 rfl (Nat.le_of_ble_eq_true rfl) ⟨Nat.le_of_ble_eq_true rfl, Nat.le_of_ble_eq_true rfl⟩ dX3_init_30 (fun H locs hY => ?_)
  refine y_aast S hK hA hY hn 1 30 rfl rfl 4 rfl (gx_in rfl (by decide) (by decide)) (Nat.le_of_ble_eq_true rfl) dX3_init_33 (fun H locs hY => ?_)
  have hY : gx_Y tb ([.inl (4, [some (some (n + 1)), none, none])] ++ [.inr (3, 15, [some (n + 2), some (n + 9), some (n + 16), some (n + 23), some (n + 30), none, none, none, none, none, none, none, none, none, none])] ++ b_Scene (n + 2) ++ b_Scene (n + 9) ++ b_Scene (n + 16) ++ b_Scene (n + 23) ++ b_Scene (n + 30)) _ E s (σ) τ H _ := hY
  refine lv_iinc (v := 5) (lv' := [(1, .int 5), (0, .ref (E.2.2 + (n + 0)))]) hx hb dX3_init_34 hl (k := 0) rfl (by decide) (by decide) rfl (fun ls hl => ?_)
  refine lv_goto (tgt := 15) hx hb dX3_init_37 (by decide) ?_
  refine lv_iload_n hx hb dX3_init_15 rfl (lv_at hl 0 rfl) ?_
  refine lv_bipush (v := 15) hx hb dX3_init_16 (by decide) ?_
  refine lv_icmp_ge (tgt := 40) hx hb dX3_init_18 (by decide) (fun h => absurd h (by decide)) (fun _ => ?_)
  refine lv_aload_n hx hb dX3_init_21 rfl (lv_at hl 1 rfl) ?_
  refine y_getr (j := (n + 1)) S hK hY hn 0 rfl cl_4 0 (by decide) rfl mw_319 rfl dX3_init_22 ?_
  refine lv_iload_n hx hb dX3_init_25 rfl (lv_at hl 0 rfl) ?_
  refine y_new S hK hY hn 37 rfl cl_7 tyX6 tyX6_ok [some none, some none, some none, some none, some none, some none, none, none, none, none, none] (fun j hj => by rcases (show j = 0 ∨ j = 1 ∨ j = 2 ∨ j = 3 ∨ j = 4 ∨ j = 5 ∨ j = 6 ∨ j = 7 ∨ j = 8 ∨ j = 9 ∨ j = 10 by omega) with rfl | rfl | rfl | rfl | rfl | rfl | rfl | rfl | rfl | rfl | rfl <;> rfl) (fun c9 k9 h9 => h0 c9 k9 (by omega)) mwc_X3_9 mw_259 mw_95 ⟨Nat.le_of_ble_eq_true rfl, Nat.le_of_ble_eq_true rfl⟩ dX3_init_26 (fun H hY => ?_)
  refine lv_dup hx hb dX3_init_29 rfl ?_
  refine y_cN (K := 37) (As := []) (rest := [.ref (E.2.2 + (n + 37)), .int 5, .ref (E.2.2 + (n + 1))]) S hK hN hA hY hn rfl (k_Scene l (E := E) _ (n + 37) (y_ln hn rfl) (σ) τ  (fun c9 k9 h9 => h0 c9 k9 (by omega)) (fun c9 k9 h9 => t0 c9 k9 (by omega))) cw_X3_15 ⟨Nat.le_of_ble_eq_true rfl, Nat.le_of_ble_eq_true rfl⟩ rfl hl.1 rfl (Nat.le_of_ble_eq_true rfl) ⟨Nat.le_of_ble_eq_true rfl, Nat.le_of_ble_eq_true rfl⟩ dX3_init_30 (fun H locs hY => ?_)
  refine y_aast S hK hA hY hn 1 37 rfl rfl 5 rfl (gx_in rfl (by decide) (by decide)) (Nat.le_of_ble_eq_true rfl) dX3_init_33 (fun H locs hY => ?_)
  have hY : gx_Y tb ([.inl (4, [some (some (n + 1)), none, none])] ++ [.inr (3, 15, [some (n + 2), some (n + 9), some (n + 16), some (n + 23), some (n + 30), some (n + 37), none, none, none, none, none, none, none, none, none])] ++ b_Scene (n + 2) ++ b_Scene (n + 9) ++ b_Scene (n + 16) ++ b_Scene (n + 23) ++ b_Scene (n + 30) ++ b_Scene (n + 37)) _ E s (σ) τ H _ := hY
  refine lv_iinc (v := 6) (lv' := [(1, .int 6), (0, .ref (E.2.2 + (n + 0)))]) hx hb dX3_init_34 hl (k := 0) rfl (by decide) (by decide) rfl (fun ls hl => ?_)
  refine lv_goto (tgt := 15) hx hb dX3_init_37 (by decide) ?_
  refine lv_iload_n hx hb dX3_init_15 rfl (lv_at hl 0 rfl) ?_
  refine lv_bipush (v := 15) hx hb dX3_init_16 (by decide) ?_
  refine lv_icmp_ge (tgt := 40) hx hb dX3_init_18 (by decide) (fun h => absurd h (by decide)) (fun _ => ?_)
  refine lv_aload_n hx hb dX3_init_21 rfl (lv_at hl 1 rfl) ?_
  refine y_getr (j := (n + 1)) S hK hY hn 0 rfl cl_4 0 (by decide) rfl mw_319 rfl dX3_init_22 ?_
  refine lv_iload_n hx hb dX3_init_25 rfl (lv_at hl 0 rfl) ?_
  refine y_new S hK hY hn 44 rfl cl_7 tyX6 tyX6_ok [some none, some none, some none, some none, some none, some none, none, none, none, none, none] (fun j hj => by rcases (show j = 0 ∨ j = 1 ∨ j = 2 ∨ j = 3 ∨ j = 4 ∨ j = 5 ∨ j = 6 ∨ j = 7 ∨ j = 8 ∨ j = 9 ∨ j = 10 by omega) with rfl | rfl | rfl | rfl | rfl | rfl | rfl | rfl | rfl | rfl | rfl <;> rfl) (fun c9 k9 h9 => h0 c9 k9 (by omega)) mwc_X3_9 mw_259 mw_95 ⟨Nat.le_of_ble_eq_true rfl, Nat.le_of_ble_eq_true rfl⟩ dX3_init_26 (fun H hY => ?_)
  refine lv_dup hx hb dX3_init_29 rfl ?_
  refine y_cN (K := 44) (As := []) (rest := [.ref (E.2.2 + (n + 44)), .int 6, .ref (E.2.2 + (n + 1))]) S hK hN hA hY hn rfl (k_Scene l (E := E) _ (n + 44) (y_ln hn rfl) (σ) τ  (fun c9 k9 h9 => h0 c9 k9 (by omega)) (fun c9 k9 h9 => t0 c9 k9 (by omega))) cw_X3_15 ⟨Nat.le_of_ble_eq_true rfl, Nat.le_of_ble_eq_true rfl⟩ rfl hl.1 rfl (Nat.le_of_ble_eq_true rfl) ⟨Nat.le_of_ble_eq_true rfl, Nat.le_of_ble_eq_true rfl⟩ dX3_init_30 (fun H locs hY => ?_)
  refine y_aast S hK hA hY hn 1 44 rfl rfl 6 rfl (gx_in rfl (by decide) (by decide)) (Nat.le_of_ble_eq_true rfl) dX3_init_33 (fun H locs hY => ?_)
  have hY : gx_Y tb ([.inl (4, [some (some (n + 1)), none, none])] ++ [.inr (3, 15, [some (n + 2), some (n + 9), some (n + 16), some (n + 23), some (n + 30), some (n + 37), some (n + 44), none, none, none, none, none, none, none, none])] ++ b_Scene (n + 2) ++ b_Scene (n + 9) ++ b_Scene (n + 16) ++ b_Scene (n + 23) ++ b_Scene (n + 30) ++ b_Scene (n + 37) ++ b_Scene (n + 44)) _ E s (σ) τ H _ := hY
  refine lv_iinc (v := 7) (lv' := [(1, .int 7), (0, .ref (E.2.2 + (n + 0)))]) hx hb dX3_init_34 hl (k := 0) rfl (by decide) (by decide) rfl (fun ls hl => ?_)
  refine lv_goto (tgt := 15) hx hb dX3_init_37 (by decide) ?_
  refine lv_iload_n hx hb dX3_init_15 rfl (lv_at hl 0 rfl) ?_
  refine lv_bipush (v := 15) hx hb dX3_init_16 (by decide) ?_
  refine lv_icmp_ge (tgt := 40) hx hb dX3_init_18 (by decide) (fun h => absurd h (by decide)) (fun _ => ?_)
  refine lv_aload_n hx hb dX3_init_21 rfl (lv_at hl 1 rfl) ?_
  refine y_getr (j := (n + 1)) S hK hY hn 0 rfl cl_4 0 (by decide) rfl mw_319 rfl dX3_init_22 ?_
  refine lv_iload_n hx hb dX3_init_25 rfl (lv_at hl 0 rfl) ?_
  refine y_new S hK hY hn 51 rfl cl_7 tyX6 tyX6_ok [some none, some none, some none, some none, some none, some none, none, none, none, none, none] (fun j hj => by rcases (show j = 0 ∨ j = 1 ∨ j = 2 ∨ j = 3 ∨ j = 4 ∨ j = 5 ∨ j = 6 ∨ j = 7 ∨ j = 8 ∨ j = 9 ∨ j = 10 by omega) with rfl | rfl | rfl | rfl | rfl | rfl | rfl | rfl | rfl | rfl | rfl <;> rfl) (fun c9 k9 h9 => h0 c9 k9 (by omega)) mwc_X3_9 mw_259 mw_95 ⟨Nat.le_of_ble_eq_true rfl, Nat.le_of_ble_eq_true rfl⟩ dX3_init_26 (fun H hY => ?_)
  refine lv_dup hx hb dX3_init_29 rfl ?_
  refine y_cN (K := 51) (As := []) (rest := [.ref (E.2.2 + (n + 51)), .int 7, .ref (E.2.2 + (n + 1))]) S hK hN hA hY hn rfl (k_Scene l (E := E) _ (n + 51) (y_ln hn rfl) (σ) τ  (fun c9 k9 h9 => h0 c9 k9 (by omega)) (fun c9 k9 h9 => t0 c9 k9 (by omega))) cw_X3_15 ⟨Nat.le_of_ble_eq_true rfl, Nat.le_of_ble_eq_true rfl⟩ rfl hl.1 rfl (Nat.le_of_ble_eq_true rfl) ⟨Nat.le_of_ble_eq_true rfl, Nat.le_of_ble_eq_true rfl⟩ dX3_init_30 (fun H locs hY => ?_)
  refine y_aast S hK hA hY hn 1 51 rfl rfl 7 rfl (gx_in rfl (by decide) (by decide)) (Nat.le_of_ble_eq_true rfl) dX3_init_33 (fun H locs hY => ?_)
  have hY : gx_Y tb ([.inl (4, [some (some (n + 1)), none, none])] ++ [.inr (3, 15, [some (n + 2), some (n + 9), some (n + 16), some (n + 23), some (n + 30), some (n + 37), some (n + 44), some (n + 51), none, none, none, none, none, none, none])] ++ b_Scene (n + 2) ++ b_Scene (n + 9) ++ b_Scene (n + 16) ++ b_Scene (n + 23) ++ b_Scene (n + 30) ++ b_Scene (n + 37) ++ b_Scene (n + 44) ++ b_Scene (n + 51)) _ E s (σ) τ H _ := hY
  refine lv_iinc (v := 8) (lv' := [(1, .int 8), (0, .ref (E.2.2 + (n + 0)))]) hx hb dX3_init_34 hl (k := 0) rfl (by decide) (by decide) rfl (fun ls hl => ?_)
  refine lv_goto (tgt := 15) hx hb dX3_init_37 (by decide) ?_
  refine lv_iload_n hx hb dX3_init_15 rfl (lv_at hl 0 rfl) ?_
  refine lv_bipush (v := 15) hx hb dX3_init_16 (by decide) ?_
  refine lv_icmp_ge (tgt := 40) hx hb dX3_init_18 (by decide) (fun h => absurd h (by decide)) (fun _ => ?_)
  refine lv_aload_n hx hb dX3_init_21 rfl (lv_at hl 1 rfl) ?_
  refine y_getr (j := (n + 1)) S hK hY hn 0 rfl cl_4 0 (by decide) rfl mw_319 rfl dX3_init_22 ?_
  refine lv_iload_n hx hb dX3_init_25 rfl (lv_at hl 0 rfl) ?_
  refine y_new S hK hY hn 58 rfl cl_7 tyX6 tyX6_ok [some none, some none, some none, some none, some none, some none, none, none, none, none, none] (fun j hj => by rcases (show j = 0 ∨ j = 1 ∨ j = 2 ∨ j = 3 ∨ j = 4 ∨ j = 5 ∨ j = 6 ∨ j = 7 ∨ j = 8 ∨ j = 9 ∨ j = 10 by omega) with rfl | rfl | rfl | rfl | rfl | rfl | rfl | rfl | rfl | rfl | rfl <;> rfl) (fun c9 k9 h9 => h0 c9 k9 (by omega)) mwc_X3_9 mw_259 mw_95 ⟨Nat.le_of_ble_eq_true rfl, Nat.le_of_ble_eq_true rfl⟩ dX3_init_26 (fun H hY => ?_)
  refine lv_dup hx hb dX3_init_29 rfl ?_
  refine y_cN (K := 58) (As := []) (rest := [.ref (E.2.2 + (n + 58)), .int 8, .ref (E.2.2 + (n + 1))]) S hK hN hA hY hn rfl (k_Scene l (E := E) _ (n + 58) (y_ln hn rfl) (σ) τ  (fun c9 k9 h9 => h0 c9 k9 (by omega)) (fun c9 k9 h9 => t0 c9 k9 (by omega))) cw_X3_15 ⟨Nat.le_of_ble_eq_true rfl, Nat.le_of_ble_eq_true rfl⟩ rfl hl.1 rfl (Nat.le_of_ble_eq_true rfl) ⟨Nat.le_of_ble_eq_true rfl, Nat.le_of_ble_eq_true rfl⟩ dX3_init_30 (fun H locs hY => ?_)
  refine y_aast S hK hA hY hn 1 58 rfl rfl 8 rfl (gx_in rfl (by decide) (by decide)) (Nat.le_of_ble_eq_true rfl) dX3_init_33 (fun H locs hY => ?_)
  have hY : gx_Y tb ([.inl (4, [some (some (n + 1)), none, none])] ++ [.inr (3, 15, [some (n + 2), some (n + 9), some (n + 16), some (n + 23), some (n + 30), some (n + 37), some (n + 44), some (n + 51), some (n + 58), none, none, none, none, none, none])] ++ b_Scene (n + 2) ++ b_Scene (n + 9) ++ b_Scene (n + 16) ++ b_Scene (n + 23) ++ b_Scene (n + 30) ++ b_Scene (n + 37) ++ b_Scene (n + 44) ++ b_Scene (n + 51) ++ b_Scene (n + 58)) _ E s (σ) τ H _ := hY
  refine lv_iinc (v := 9) (lv' := [(1, .int 9), (0, .ref (E.2.2 + (n + 0)))]) hx hb dX3_init_34 hl (k := 0) rfl (by decide) (by decide) rfl (fun ls hl => ?_)
  refine lv_goto (tgt := 15) hx hb dX3_init_37 (by decide) ?_
  refine lv_iload_n hx hb dX3_init_15 rfl (lv_at hl 0 rfl) ?_
  refine lv_bipush (v := 15) hx hb dX3_init_16 (by decide) ?_
  refine lv_icmp_ge (tgt := 40) hx hb dX3_init_18 (by decide) (fun h => absurd h (by decide)) (fun _ => ?_)
  refine lv_aload_n hx hb dX3_init_21 rfl (lv_at hl 1 rfl) ?_
  refine y_getr (j := (n + 1)) S hK hY hn 0 rfl cl_4 0 (by decide) rfl mw_319 rfl dX3_init_22 ?_
  refine lv_iload_n hx hb dX3_init_25 rfl (lv_at hl 0 rfl) ?_
  refine y_new S hK hY hn 65 rfl cl_7 tyX6 tyX6_ok [some none, some none, some none, some none, some none, some none, none, none, none, none, none] (fun j hj => by rcases (show j = 0 ∨ j = 1 ∨ j = 2 ∨ j = 3 ∨ j = 4 ∨ j = 5 ∨ j = 6 ∨ j = 7 ∨ j = 8 ∨ j = 9 ∨ j = 10 by omega) with rfl | rfl | rfl | rfl | rfl | rfl | rfl | rfl | rfl | rfl | rfl <;> rfl) (fun c9 k9 h9 => h0 c9 k9 (by omega)) mwc_X3_9 mw_259 mw_95 ⟨Nat.le_of_ble_eq_true rfl, Nat.le_of_ble_eq_true rfl⟩ dX3_init_26 (fun H hY => ?_)
  refine lv_dup hx hb dX3_init_29 rfl ?_
  refine y_cN (K := 65) (As := []) (rest := [.ref (E.2.2 + (n + 65)), .int 9, .ref (E.2.2 + (n + 1))]) S hK hN hA hY hn rfl (k_Scene l (E := E) _ (n + 65) (y_ln hn rfl) (σ) τ  (fun c9 k9 h9 => h0 c9 k9 (by omega)) (fun c9 k9 h9 => t0 c9 k9 (by omega))) cw_X3_15 ⟨Nat.le_of_ble_eq_true rfl, Nat.le_of_ble_eq_true rfl⟩ rfl hl.1 rfl (Nat.le_of_ble_eq_true rfl) ⟨Nat.le_of_ble_eq_true rfl, Nat.le_of_ble_eq_true rfl⟩ dX3_init_30 (fun H locs hY => ?_)
  refine y_aast S hK hA hY hn 1 65 rfl rfl 9 rfl (gx_in rfl (by decide) (by decide)) (Nat.le_of_ble_eq_true rfl) dX3_init_33 (fun H locs hY => ?_)
  have hY : gx_Y tb ([.inl (4, [some (some (n + 1)), none, none])] ++ [.inr (3, 15, [some (n + 2), some (n + 9), some (n + 16), some (n + 23), some (n + 30), some (n + 37), some (n + 44), some (n + 51), some (n + 58), some (n + 65), none, none, none, none, none])] ++ b_Scene (n + 2) ++ b_Scene (n + 9) ++ b_Scene (n + 16) ++ b_Scene (n + 23) ++ b_Scene (n + 30) ++ b_Scene (n + 37) ++ b_Scene (n + 44) ++ b_Scene (n + 51) ++ b_Scene (n + 58) ++ b_Scene (n + 65)) _ E s (σ) τ H _ := hY
  refine lv_iinc (v := 10) (lv' := [(1, .int 10), (0, .ref (E.2.2 + (n + 0)))]) hx hb dX3_init_34 hl (k := 0) rfl (by decide) (by decide) rfl (fun ls hl => ?_)
  refine lv_goto (tgt := 15) hx hb dX3_init_37 (by decide) ?_
  refine lv_iload_n hx hb dX3_init_15 rfl (lv_at hl 0 rfl) ?_
  refine lv_bipush (v := 15) hx hb dX3_init_16 (by decide) ?_
  refine lv_icmp_ge (tgt := 40) hx hb dX3_init_18 (by decide) (fun h => absurd h (by decide)) (fun _ => ?_)
  refine lv_aload_n hx hb dX3_init_21 rfl (lv_at hl 1 rfl) ?_
  refine y_getr (j := (n + 1)) S hK hY hn 0 rfl cl_4 0 (by decide) rfl mw_319 rfl dX3_init_22 ?_
  refine lv_iload_n hx hb dX3_init_25 rfl (lv_at hl 0 rfl) ?_
  refine y_new S hK hY hn 72 rfl cl_7 tyX6 tyX6_ok [some none, some none, some none, some none, some none, some none, none, none, none, none, none] (fun j hj => by rcases (show j = 0 ∨ j = 1 ∨ j = 2 ∨ j = 3 ∨ j = 4 ∨ j = 5 ∨ j = 6 ∨ j = 7 ∨ j = 8 ∨ j = 9 ∨ j = 10 by omega) with rfl | rfl | rfl | rfl | rfl | rfl | rfl | rfl | rfl | rfl | rfl <;> rfl) (fun c9 k9 h9 => h0 c9 k9 (by omega)) mwc_X3_9 mw_259 mw_95 ⟨Nat.le_of_ble_eq_true rfl, Nat.le_of_ble_eq_true rfl⟩ dX3_init_26 (fun H hY => ?_)
  refine lv_dup hx hb dX3_init_29 rfl ?_
  refine y_cN (K := 72) (As := []) (rest := [.ref (E.2.2 + (n + 72)), .int 10, .ref (E.2.2 + (n + 1))]) S hK hN hA hY hn rfl (k_Scene l (E := E) _ (n + 72) (y_ln hn rfl) (σ) τ  (fun c9 k9 h9 => h0 c9 k9 (by omega)) (fun c9 k9 h9 => t0 c9 k9 (by omega))) cw_X3_15 ⟨Nat.le_of_ble_eq_true rfl, Nat.le_of_ble_eq_true rfl⟩ rfl hl.1 rfl (Nat.le_of_ble_eq_true rfl) ⟨Nat.le_of_ble_eq_true rfl, Nat.le_of_ble_eq_true rfl⟩ dX3_init_30 (fun H locs hY => ?_)
  refine y_aast S hK hA hY hn 1 72 rfl rfl 10 rfl (gx_in rfl (by decide) (by decide)) (Nat.le_of_ble_eq_true rfl) dX3_init_33 (fun H locs hY => ?_)
  have hY : gx_Y tb ([.inl (4, [some (some (n + 1)), none, none])] ++ [.inr (3, 15, [some (n + 2), some (n + 9), some (n + 16), some (n + 23), some (n + 30), some (n + 37), some (n + 44), some (n + 51), some (n + 58), some (n + 65), some (n + 72), none, none, none, none])] ++ b_Scene (n + 2) ++ b_Scene (n + 9) ++ b_Scene (n + 16) ++ b_Scene (n + 23) ++ b_Scene (n + 30) ++ b_Scene (n + 37) ++ b_Scene (n + 44) ++ b_Scene (n + 51) ++ b_Scene (n + 58) ++ b_Scene (n + 65) ++ b_Scene (n + 72)) _ E s (σ) τ H _ := hY
  refine lv_iinc (v := 11) (lv' := [(1, .int 11), (0, .ref (E.2.2 + (n + 0)))]) hx hb dX3_init_34 hl (k := 0) rfl (by decide) (by decide) rfl (fun ls hl => ?_)
  refine lv_goto (tgt := 15) hx hb dX3_init_37 (by decide) ?_
  refine lv_iload_n hx hb dX3_init_15 rfl (lv_at hl 0 rfl) ?_
  refine lv_bipush (v := 15) hx hb dX3_init_16 (by decide) ?_
  refine lv_icmp_ge (tgt := 40) hx hb dX3_init_18 (by decide) (fun h => absurd h (by decide)) (fun _ => ?_)
  refine lv_aload_n hx hb dX3_init_21 rfl (lv_at hl 1 rfl) ?_
  refine y_getr (j := (n + 1)) S hK hY hn 0 rfl cl_4 0 (by decide) rfl mw_319 rfl dX3_init_22 ?_
  refine lv_iload_n hx hb dX3_init_25 rfl (lv_at hl 0 rfl) ?_
  refine y_new S hK hY hn 79 rfl cl_7 tyX6 tyX6_ok [some none, some none, some none, some none, some none, some none, none, none, none, none, none] (fun j hj => by rcases (show j = 0 ∨ j = 1 ∨ j = 2 ∨ j = 3 ∨ j = 4 ∨ j = 5 ∨ j = 6 ∨ j = 7 ∨ j = 8 ∨ j = 9 ∨ j = 10 by omega) with rfl | rfl | rfl | rfl | rfl | rfl | rfl | rfl | rfl | rfl | rfl <;> rfl) (fun c9 k9 h9 => h0 c9 k9 (by omega)) mwc_X3_9 mw_259 mw_95 ⟨Nat.le_of_ble_eq_true rfl, Nat.le_of_ble_eq_true rfl⟩ dX3_init_26 (fun H hY => ?_)
  refine lv_dup hx hb dX3_init_29 rfl ?_
  refine y_cN (K := 79) (As := []) (rest := [.ref (E.2.2 + (n + 79)), .int 11, .ref (E.2.2 + (n + 1))]) S hK hN hA hY hn rfl (k_Scene l (E := E) _ (n + 79) (y_ln hn rfl) (σ) τ  (fun c9 k9 h9 => h0 c9 k9 (by omega)) (fun c9 k9 h9 => t0 c9 k9 (by omega))) cw_X3_15 ⟨Nat.le_of_ble_eq_true rfl, Nat.le_of_ble_eq_true rfl⟩ rfl hl.1 rfl (Nat.le_of_ble_eq_true rfl) ⟨Nat.le_of_ble_eq_true rfl, Nat.le_of_ble_eq_true rfl⟩ dX3_init_30 (fun H locs hY => ?_)
  refine y_aast S hK hA hY hn 1 79 rfl rfl 11 rfl (gx_in rfl (by decide) (by decide)) (Nat.le_of_ble_eq_true rfl) dX3_init_33 (fun H locs hY => ?_)
  have hY : gx_Y tb ([.inl (4, [some (some (n + 1)), none, none])] ++ [.inr (3, 15, [some (n + 2), some (n + 9), some (n + 16), some (n + 23), some (n + 30), some (n + 37), some (n + 44), some (n + 51), some (n + 58), some (n + 65), some (n + 72), some (n + 79), none, none, none])] ++ b_Scene (n + 2) ++ b_Scene (n + 9) ++ b_Scene (n + 16) ++ b_Scene (n + 23) ++ b_Scene (n + 30) ++ b_Scene (n + 37) ++ b_Scene (n + 44) ++ b_Scene (n + 51) ++ b_Scene (n + 58) ++ b_Scene (n + 65) ++ b_Scene (n + 72) ++ b_Scene (n + 79)) _ E s (σ) τ H _ := hY
  refine lv_iinc (v := 12) (lv' := [(1, .int 12), (0, .ref (E.2.2 + (n + 0)))]) hx hb dX3_init_34 hl (k := 0) rfl (by decide) (by decide) rfl (fun ls hl => ?_)
  refine lv_goto (tgt := 15) hx hb dX3_init_37 (by decide) ?_
  refine lv_iload_n hx hb dX3_init_15 rfl (lv_at hl 0 rfl) ?_
  refine lv_bipush (v := 15) hx hb dX3_init_16 (by decide) ?_
  refine lv_icmp_ge (tgt := 40) hx hb dX3_init_18 (by decide) (fun h => absurd h (by decide)) (fun _ => ?_)
  refine lv_aload_n hx hb dX3_init_21 rfl (lv_at hl 1 rfl) ?_
  refine y_getr (j := (n + 1)) S hK hY hn 0 rfl cl_4 0 (by decide) rfl mw_319 rfl dX3_init_22 ?_
  refine lv_iload_n hx hb dX3_init_25 rfl (lv_at hl 0 rfl) ?_
  refine y_new S hK hY hn 86 rfl cl_7 tyX6 tyX6_ok [some none, some none, some none, some none, some none, some none, none, none, none, none, none] (fun j hj => by rcases (show j = 0 ∨ j = 1 ∨ j = 2 ∨ j = 3 ∨ j = 4 ∨ j = 5 ∨ j = 6 ∨ j = 7 ∨ j = 8 ∨ j = 9 ∨ j = 10 by omega) with rfl | rfl | rfl | rfl | rfl | rfl | rfl | rfl | rfl | rfl | rfl <;> rfl) (fun c9 k9 h9 => h0 c9 k9 (by omega)) mwc_X3_9 mw_259 mw_95 ⟨Nat.le_of_ble_eq_true rfl, Nat.le_of_ble_eq_true rfl⟩ dX3_init_26 (fun H hY => ?_)
  refine lv_dup hx hb dX3_init_29 rfl ?_
  refine y_cN (K := 86) (As := []) (rest := [.ref (E.2.2 + (n + 86)), .int 12, .ref (E.2.2 + (n + 1))]) S hK hN hA hY hn rfl (k_Scene l (E := E) _ (n + 86) (y_ln hn rfl) (σ) τ  (fun c9 k9 h9 => h0 c9 k9 (by omega)) (fun c9 k9 h9 => t0 c9 k9 (by omega))) cw_X3_15 ⟨Nat.le_of_ble_eq_true rfl, Nat.le_of_ble_eq_true rfl⟩ rfl hl.1 rfl (Nat.le_of_ble_eq_true rfl) ⟨Nat.le_of_ble_eq_true rfl, Nat.le_of_ble_eq_true rfl⟩ dX3_init_30 (fun H locs hY => ?_)
  refine y_aast S hK hA hY hn 1 86 rfl rfl 12 rfl (gx_in rfl (by decide) (by decide)) (Nat.le_of_ble_eq_true rfl) dX3_init_33 (fun H locs hY => ?_)
  have hY : gx_Y tb ([.inl (4, [some (some (n + 1)), none, none])] ++ [.inr (3, 15, [some (n + 2), some (n + 9), some (n + 16), some (n + 23), some (n + 30), some (n + 37), some (n + 44), some (n + 51), some (n + 58), some (n + 65), some (n + 72), some (n + 79), some (n + 86), none, none])] ++ b_Scene (n + 2) ++ b_Scene (n + 9) ++ b_Scene (n + 16) ++ b_Scene (n + 23) ++ b_Scene (n + 30) ++ b_Scene (n + 37) ++ b_Scene (n + 44) ++ b_Scene (n + 51) ++ b_Scene (n + 58) ++ b_Scene (n + 65) ++ b_Scene (n + 72) ++ b_Scene (n + 79) ++ b_Scene (n + 86)) _ E s (σ) τ H _ := hY
  refine lv_iinc (v := 13) (lv' := [(1, .int 13), (0, .ref (E.2.2 + (n + 0)))]) hx hb dX3_init_34 hl (k := 0) rfl (by decide) (by decide) rfl (fun ls hl => ?_)
  refine lv_goto (tgt := 15) hx hb dX3_init_37 (by decide) ?_
  refine lv_iload_n hx hb dX3_init_15 rfl (lv_at hl 0 rfl) ?_
  refine lv_bipush (v := 15) hx hb dX3_init_16 (by decide) ?_
  refine lv_icmp_ge (tgt := 40) hx hb dX3_init_18 (by decide) (fun h => absurd h (by decide)) (fun _ => ?_)
  refine lv_aload_n hx hb dX3_init_21 rfl (lv_at hl 1 rfl) ?_
  refine y_getr (j := (n + 1)) S hK hY hn 0 rfl cl_4 0 (by decide) rfl mw_319 rfl dX3_init_22 ?_
  refine lv_iload_n hx hb dX3_init_25 rfl (lv_at hl 0 rfl) ?_
  refine y_new S hK hY hn 93 rfl cl_7 tyX6 tyX6_ok [some none, some none, some none, some none, some none, some none, none, none, none, none, none] (fun j hj => by rcases (show j = 0 ∨ j = 1 ∨ j = 2 ∨ j = 3 ∨ j = 4 ∨ j = 5 ∨ j = 6 ∨ j = 7 ∨ j = 8 ∨ j = 9 ∨ j = 10 by omega) with rfl | rfl | rfl | rfl | rfl | rfl | rfl | rfl | rfl | rfl | rfl <;> rfl) (fun c9 k9 h9 => h0 c9 k9 (by omega)) mwc_X3_9 mw_259 mw_95 ⟨Nat.le_of_ble_eq_true rfl, Nat.le_of_ble_eq_true rfl⟩ dX3_init_26 (fun H hY => ?_)
  refine lv_dup hx hb dX3_init_29 rfl ?_
  refine y_cN (K := 93) (As := []) (rest := [.ref (E.2.2 + (n + 93)), .int 13, .ref (E.2.2 + (n + 1))]) S hK hN hA hY hn rfl (k_Scene l (E := E) _ (n + 93) (y_ln hn rfl) (σ) τ  (fun c9 k9 h9 => h0 c9 k9 (by omega)) (fun c9 k9 h9 => t0 c9 k9 (by omega))) cw_X3_15 ⟨Nat.le_of_ble_eq_true rfl, Nat.le_of_ble_eq_true rfl⟩ rfl hl.1 rfl (Nat.le_of_ble_eq_true rfl) ⟨Nat.le_of_ble_eq_true rfl, Nat.le_of_ble_eq_true rfl⟩ dX3_init_30 (fun H locs hY => ?_)
  refine y_aast S hK hA hY hn 1 93 rfl rfl 13 rfl (gx_in rfl (by decide) (by decide)) (Nat.le_of_ble_eq_true rfl) dX3_init_33 (fun H locs hY => ?_)
  have hY : gx_Y tb ([.inl (4, [some (some (n + 1)), none, none])] ++ [.inr (3, 15, [some (n + 2), some (n + 9), some (n + 16), some (n + 23), some (n + 30), some (n + 37), some (n + 44), some (n + 51), some (n + 58), some (n + 65), some (n + 72), some (n + 79), some (n + 86), some (n + 93), none])] ++ b_Scene (n + 2) ++ b_Scene (n + 9) ++ b_Scene (n + 16) ++ b_Scene (n + 23) ++ b_Scene (n + 30) ++ b_Scene (n + 37) ++ b_Scene (n + 44) ++ b_Scene (n + 51) ++ b_Scene (n + 58) ++ b_Scene (n + 65) ++ b_Scene (n + 72) ++ b_Scene (n + 79) ++ b_Scene (n + 86) ++ b_Scene (n + 93)) _ E s (σ) τ H _ := hY
  refine lv_iinc (v := 14) (lv' := [(1, .int 14), (0, .ref (E.2.2 + (n + 0)))]) hx hb dX3_init_34 hl (k := 0) rfl (by decide) (by decide) rfl (fun ls hl => ?_)
  refine lv_goto (tgt := 15) hx hb dX3_init_37 (by decide) ?_
  refine lv_iload_n hx hb dX3_init_15 rfl (lv_at hl 0 rfl) ?_
  refine lv_bipush (v := 15) hx hb dX3_init_16 (by decide) ?_
  refine lv_icmp_ge (tgt := 40) hx hb dX3_init_18 (by decide) (fun h => absurd h (by decide)) (fun _ => ?_)
  refine lv_aload_n hx hb dX3_init_21 rfl (lv_at hl 1 rfl) ?_
  refine y_getr (j := (n + 1)) S hK hY hn 0 rfl cl_4 0 (by decide) rfl mw_319 rfl dX3_init_22 ?_
  refine lv_iload_n hx hb dX3_init_25 rfl (lv_at hl 0 rfl) ?_
  refine y_new S hK hY hn 100 rfl cl_7 tyX6 tyX6_ok [some none, some none, some none, some none, some none, some none, none, none, none, none, none] (fun j hj => by rcases (show j = 0 ∨ j = 1 ∨ j = 2 ∨ j = 3 ∨ j = 4 ∨ j = 5 ∨ j = 6 ∨ j = 7 ∨ j = 8 ∨ j = 9 ∨ j = 10 by omega) with rfl | rfl | rfl | rfl | rfl | rfl | rfl | rfl | rfl | rfl | rfl <;> rfl) (fun c9 k9 h9 => h0 c9 k9 (by omega)) mwc_X3_9 mw_259 mw_95 ⟨Nat.le_of_ble_eq_true rfl, Nat.le_of_ble_eq_true rfl⟩ dX3_init_26 (fun H hY => ?_)
  refine lv_dup hx hb dX3_init_29 rfl ?_
  refine y_cN (K := 100) (As := []) (rest := [.ref (E.2.2 + (n + 100)), .int 14, .ref (E.2.2 + (n + 1))]) S hK hN hA hY hn rfl (k_Scene l (E := E) _ (n + 100) (y_ln hn rfl) (σ) τ  (fun c9 k9 h9 => h0 c9 k9 (by omega)) (fun c9 k9 h9 => t0 c9 k9 (by omega))) cw_X3_15 ⟨Nat.le_of_ble_eq_true rfl, Nat.le_of_ble_eq_true rfl⟩ rfl hl.1 rfl (Nat.le_of_ble_eq_true rfl) ⟨Nat.le_of_ble_eq_true rfl, Nat.le_of_ble_eq_true rfl⟩ dX3_init_30 (fun H locs hY => ?_)
  refine y_aast S hK hA hY hn 1 100 rfl rfl 14 rfl (gx_in rfl (by decide) (by decide)) (Nat.le_of_ble_eq_true rfl) dX3_init_33 (fun H locs hY => ?_)
  have hY : gx_Y tb ([.inl (4, [some (some (n + 1)), none, none])] ++ [.inr (3, 15, [some (n + 2), some (n + 9), some (n + 16), some (n + 23), some (n + 30), some (n + 37), some (n + 44), some (n + 51), some (n + 58), some (n + 65), some (n + 72), some (n + 79), some (n + 86), some (n + 93), some (n + 100)])] ++ b_Scene (n + 2) ++ b_Scene (n + 9) ++ b_Scene (n + 16) ++ b_Scene (n + 23) ++ b_Scene (n + 30) ++ b_Scene (n + 37) ++ b_Scene (n + 44) ++ b_Scene (n + 51) ++ b_Scene (n + 58) ++ b_Scene (n + 65) ++ b_Scene (n + 72) ++ b_Scene (n + 79) ++ b_Scene (n + 86) ++ b_Scene (n + 93) ++ b_Scene (n + 100)) _ E s (σ) τ H _ := hY
  refine lv_iinc (v := 15) (lv' := [(1, .int 15), (0, .ref (E.2.2 + (n + 0)))]) hx hb dX3_init_34 hl (k := 0) rfl (by decide) (by decide) rfl (fun ls hl => ?_)
  refine lv_goto (tgt := 15) hx hb dX3_init_37 (by decide) ?_
  refine lv_iload_n hx hb dX3_init_15 rfl (lv_at hl 0 rfl) ?_
  refine lv_bipush (v := 15) hx hb dX3_init_16 (by decide) ?_
  refine lv_icmp_ge (tgt := 40) hx hb dX3_init_18 (by decide) (fun _ => ?_) (fun h => absurd (by decide) h)
  have hY : gx_Y tb (b_Past n) _ E s (σ) τ H _ := hY
  exact y_r S hr hlk hY dX3_init_40
def b_Trials (n : Nat) (a1 : Nat) (a2 : Nat) : List gD := [.inl (10, [some (some a1), some (some a2), some (some (n + 1)), some (some (n + 2)), some (some (n + 3)), none, none, some (some (n + 4)), some (some (n + 11))])] ++ [.inr (0, 4096, [])] ++ [.inr (2, 4096, [])] ++ [.inr (0, 13, [])] ++ b_Scene (n + 4) ++ b_Scene (n + 11)
set_option maxHeartbeats 4000000 in
set_option maxRecDepth 100000 in
theorem k_Trials (l : Launch) {E : gE} (tb : List gD) (n : Nat) (hn : tb.length = n) (σ : gI) (τ : gJ) (a1 : Nat) (a2 : Nat) (h0 : ∀ c k : Nat, n ≤ c → σ c k = 0) (t0 : ∀ c k : Nat, n ≤ c → τ c k = 0) : gx_Mc l yX9_init cX9_init 3 2 17 8299 (tb ++ [.inl (10, [some none, some none, some none, some none, some none, none, none, some none, some none])]) (tb ++ b_Trials n a1 a2) E σ (σ) τ [.ref (E.2.2 + (n + 0)), .ref (E.2.2 + a1), .ref (E.2.2 + a2)] := by
  refine y_b (by decide +kernel) (Nat.le_of_ble_eq_true rfl) ?_
  intro P9 e9 s m9 below meth C9 S hr hlk hnm hK hN hA hY ls hl
  have S : CallFix P9 m9 C9 cX9_init 3 s _ gx_G RX9 := S
  have hx := S.1
  have hb := S.2.1
  have hl : lv_has ls 3 [(0, .ref (E.2.2 + (n + 0))), (1, .ref (E.2.2 + a1)), (2, .ref (E.2.2 + a2))] := hl
  refine lv_aload_n hx hb dX9_init_0 rfl (lv_at hl 0 rfl) ?_
  refine gx_obj S mw_413 mw_121 mw_122 hl.1 dX9_init_1 ⟨Nat.le_of_ble_eq_true rfl, Nat.le_of_ble_eq_true rfl⟩ ?_
  refine lv_aload_n hx hb dX9_init_4 rfl (lv_at hl 0 rfl) ?_
  refine lv_sipush (v := 4096) hx hb dX9_init_5 (by decide) ?_
  refine y_newI S hK hY hn 1 rfl (N := 4096) (by decide) (by decide) (by decide) (fun c9 k9 h9 => h0 c9 k9 (by omega)) mw_141 ⟨Nat.le_of_ble_eq_true rfl, Nat.le_of_ble_eq_true rfl⟩ dX9_init_8 (fun H hY => ?_)
  refine y_putF S hK hA hY hn 0 rfl cl_10 2 (Nat.le_of_ble_eq_true rfl) (Nat.le_of_ble_eq_true rfl) mw_418 rfl ⟨rfl, hnm, rfl⟩ (ty := .array .int) (j := (n + 1)) (by decide +kernel) rfl rfl dX9_init_10 (fun H locs hY => ?_)
  have hY : gx_Y tb ([.inl (10, [some none, some none, some (some (n + 1)), some none, some none, none, none, some none, some none])] ++ [.inr (0, 4096, [])]) _ E s (σ) τ H _ := hY
  refine lv_aload_n hx hb dX9_init_13 rfl (lv_at hl 0 rfl) ?_
  refine lv_sipush (v := 4096) hx hb dX9_init_14 (by decide) ?_
  refine y_newZ S hK hY hn 2 rfl (N := 4096) (by decide) (by decide) (by decide) (fun c9 k9 h9 => h0 c9 k9 (by omega)) mw_446 ⟨Nat.le_of_ble_eq_true rfl, Nat.le_of_ble_eq_true rfl⟩ dX9_init_17 (fun H hY => ?_)
  refine y_putF S hK hA hY hn 0 rfl cl_10 3 (Nat.le_of_ble_eq_true rfl) (Nat.le_of_ble_eq_true rfl) mw_419 rfl ⟨rfl, hnm, rfl⟩ (ty := .array .boolean) (j := (n + 2)) (by decide +kernel) rfl rfl dX9_init_19 (fun H locs hY => ?_)
  have hY : gx_Y tb ([.inl (10, [some none, some none, some (some (n + 1)), some (some (n + 2)), some none, none, none, some none, some none])] ++ [.inr (0, 4096, [])] ++ [.inr (2, 4096, [])]) _ E s (σ) τ H _ := hY
  refine lv_aload_n hx hb dX9_init_22 rfl (lv_at hl 0 rfl) ?_
  refine lv_bipush (v := 13) hx hb dX9_init_23 (by decide) ?_
  refine y_newI S hK hY hn 3 rfl (N := 13) (by decide) (by decide) (by decide) (fun c9 k9 h9 => h0 c9 k9 (by omega)) mw_141 ⟨Nat.le_of_ble_eq_true rfl, Nat.le_of_ble_eq_true rfl⟩ dX9_init_25 (fun H hY => ?_)
  refine y_putF S hK hA hY hn 0 rfl cl_10 4 (Nat.le_of_ble_eq_true rfl) (Nat.le_of_ble_eq_true rfl) mw_420 rfl ⟨rfl, hnm, rfl⟩ (ty := .array .int) (j := (n + 3)) (by decide +kernel) rfl rfl dX9_init_27 (fun H locs hY => ?_)
  have hY : gx_Y tb ([.inl (10, [some none, some none, some (some (n + 1)), some (some (n + 2)), some (some (n + 3)), none, none, some none, some none])] ++ [.inr (0, 4096, [])] ++ [.inr (2, 4096, [])] ++ [.inr (0, 13, [])]) _ E s (σ) τ H _ := hY
  refine lv_aload_n hx hb dX9_init_30 rfl (lv_at hl 0 rfl) ?_
  refine y_new S hK hY hn 4 rfl cl_7 tyX6 tyX6_ok [some none, some none, some none, some none, some none, some none, none, none, none, none, none] (fun j hj => by rcases (show j = 0 ∨ j = 1 ∨ j = 2 ∨ j = 3 ∨ j = 4 ∨ j = 5 ∨ j = 6 ∨ j = 7 ∨ j = 8 ∨ j = 9 ∨ j = 10 by omega) with rfl | rfl | rfl | rfl | rfl | rfl | rfl | rfl | rfl | rfl | rfl <;> rfl) (fun c9 k9 h9 => h0 c9 k9 (by omega)) mwc_X9_22 mw_259 mw_95 ⟨Nat.le_of_ble_eq_true rfl, Nat.le_of_ble_eq_true rfl⟩ dX9_init_31 (fun H hY => ?_)
  refine lv_dup hx hb dX9_init_34 rfl ?_
  refine y_cN (K := 4) (As := []) (rest := [.ref (E.2.2 + (n + 4)), .ref (E.2.2 + (n + 0))]) S hK hN hA hY hn rfl (k_Scene l (E := E) _ (n + 4) (y_ln hn rfl) (σ) τ  (fun c9 k9 h9 => h0 c9 k9 (by omega)) (fun c9 k9 h9 => t0 c9 k9 (by omega))) cw_X9_24 ⟨Nat.le_of_ble_eq_true rfl, Nat.le_of_ble_eq_true rfl⟩ rfl hl.1 rfl (Nat.le_of_ble_eq_true rfl) ⟨Nat.le_of_ble_eq_true rfl, Nat.le_of_ble_eq_true rfl⟩ dX9_init_35 (fun H locs hY => ?_)
  refine y_putF S hK hA hY hn 0 rfl cl_10 7 (Nat.le_of_ble_eq_true rfl) (Nat.le_of_ble_eq_true rfl) mw_423 rfl ⟨rfl, hnm, rfl⟩ (ty := .object "DownTheGutter$Scene") (j := (n + 4)) (by decide +kernel) rfl rfl dX9_init_38 (fun H locs hY => ?_)
  have hY : gx_Y tb ([.inl (10, [some none, some none, some (some (n + 1)), some (some (n + 2)), some (some (n + 3)), none, none, some (some (n + 4)), some none])] ++ [.inr (0, 4096, [])] ++ [.inr (2, 4096, [])] ++ [.inr (0, 13, [])] ++ b_Scene (n + 4)) _ E s (σ) τ H _ := hY
  refine lv_aload_n hx hb dX9_init_41 rfl (lv_at hl 0 rfl) ?_
  refine y_new S hK hY hn 11 rfl cl_7 tyX6 tyX6_ok [some none, some none, some none, some none, some none, some none, none, none, none, none, none] (fun j hj => by rcases (show j = 0 ∨ j = 1 ∨ j = 2 ∨ j = 3 ∨ j = 4 ∨ j = 5 ∨ j = 6 ∨ j = 7 ∨ j = 8 ∨ j = 9 ∨ j = 10 by omega) with rfl | rfl | rfl | rfl | rfl | rfl | rfl | rfl | rfl | rfl | rfl <;> rfl) (fun c9 k9 h9 => h0 c9 k9 (by omega)) mwc_X9_22 mw_259 mw_95 ⟨Nat.le_of_ble_eq_true rfl, Nat.le_of_ble_eq_true rfl⟩ dX9_init_42 (fun H hY => ?_)
  refine lv_dup hx hb dX9_init_45 rfl ?_
  refine y_cN (K := 11) (As := []) (rest := [.ref (E.2.2 + (n + 11)), .ref (E.2.2 + (n + 0))]) S hK hN hA hY hn rfl (k_Scene l (E := E) _ (n + 11) (y_ln hn rfl) (σ) τ  (fun c9 k9 h9 => h0 c9 k9 (by omega)) (fun c9 k9 h9 => t0 c9 k9 (by omega))) cw_X9_24 ⟨Nat.le_of_ble_eq_true rfl, Nat.le_of_ble_eq_true rfl⟩ rfl hl.1 rfl (Nat.le_of_ble_eq_true rfl) ⟨Nat.le_of_ble_eq_true rfl, Nat.le_of_ble_eq_true rfl⟩ dX9_init_46 (fun H locs hY => ?_)
  refine y_putF S hK hA hY hn 0 rfl cl_10 8 (Nat.le_of_ble_eq_true rfl) (Nat.le_of_ble_eq_true rfl) mw_425 rfl ⟨rfl, hnm, rfl⟩ (ty := .object "DownTheGutter$Scene") (j := (n + 11)) (by decide +kernel) rfl rfl dX9_init_49 (fun H locs hY => ?_)
  have hY : gx_Y tb ([.inl (10, [some none, some none, some (some (n + 1)), some (some (n + 2)), some (some (n + 3)), none, none, some (some (n + 4)), some (some (n + 11))])] ++ [.inr (0, 4096, [])] ++ [.inr (2, 4096, [])] ++ [.inr (0, 13, [])] ++ b_Scene (n + 4) ++ b_Scene (n + 11)) _ E s (σ) τ H _ := hY
  refine lv_aload_n hx hb dX9_init_52 rfl (lv_at hl 0 rfl) ?_
  refine lv_aload_n hx hb dX9_init_53 rfl (lv_at hl 1 rfl) ?_
  refine y_putF S hK hA hY hn 0 rfl cl_10 0 (Nat.le_of_ble_eq_true rfl) (Nat.le_of_ble_eq_true rfl) mw_416 rfl ⟨rfl, hnm, rfl⟩ (ty := .object "DownTheGutter$Town") (j := a1) (by decide +kernel) rfl rfl dX9_init_54 (fun H locs hY => ?_)
  have hY : gx_Y tb ([.inl (10, [some (some a1), some none, some (some (n + 1)), some (some (n + 2)), some (some (n + 3)), none, none, some (some (n + 4)), some (some (n + 11))])] ++ [.inr (0, 4096, [])] ++ [.inr (2, 4096, [])] ++ [.inr (0, 13, [])] ++ b_Scene (n + 4) ++ b_Scene (n + 11)) _ E s (σ) τ H _ := hY
  refine lv_aload_n hx hb dX9_init_57 rfl (lv_at hl 0 rfl) ?_
  refine lv_aload_n hx hb dX9_init_58 rfl (lv_at hl 2 rfl) ?_
  refine y_putF S hK hA hY hn 0 rfl cl_10 1 (Nat.le_of_ble_eq_true rfl) (Nat.le_of_ble_eq_true rfl) mw_417 rfl ⟨rfl, hnm, rfl⟩ (ty := .object "DownTheGutter$Current") (j := a2) (by decide +kernel) rfl rfl dX9_init_59 (fun H locs hY => ?_)
  have hY : gx_Y tb ([.inl (10, [some (some a1), some (some a2), some (some (n + 1)), some (some (n + 2)), some (some (n + 3)), none, none, some (some (n + 4)), some (some (n + 11))])] ++ [.inr (0, 4096, [])] ++ [.inr (2, 4096, [])] ++ [.inr (0, 13, [])] ++ b_Scene (n + 4) ++ b_Scene (n + 11)) _ E s (σ) τ H _ := hY
  have hY : gx_Y tb (b_Trials n a1 a2) _ E s (σ) τ H _ := hY
  exact y_r S hr hlk hY dX9_init_62
def b_X (n : Nat) : List gD := [.inl (12, [some (some (n + 1)), some (some (n + 3)), some (some (n + 9)), some (some (n + 15)), some (some (n + 17)), some (some (n + 21)), some (some (n + 25)), some (some (n + 30)), some (some (n + 37)), some (some (n + 44)), some (some (n + 151)), none, some (some (n + 152)), some (some (n + 156)), some (some (n + 158)), some (some (n + 160))])] ++ b_Signs (n + 1) ++ b_Town (n + 3) ++ b_Town (n + 9) ++ b_Water (n + 15) ++ b_Rule (n + 17) ++ b_Rule (n + 21) ++ b_Diary (n + 25) ++ b_Scene (n + 30) ++ b_Scene (n + 37) ++ b_Past (n + 44) ++ [.inr (3, 3, [some (n + 178), some (n + 185), some (n + 192)])] ++ b_Corks (n + 152) ++ b_Row (n + 156) ++ b_Current (n + 158) (n + 3) (n + 15) (n + 17) ++ b_Trials (n + 160) (n + 3) (n + 158) ++ b_Scene (n + 178) ++ b_Scene (n + 185) ++ b_Scene (n + 192)
set_option maxHeartbeats 4000000 in
set_option maxRecDepth 100000 in
theorem k_X (l : Launch) {E : gE} (tb : List gD) (n : Nat) (hn : tb.length = n) (σ : gI) (τ : gJ) (h0 : ∀ c k : Nat, n ≤ c → σ c k = 0) (t0 : ∀ c k : Nat, n ≤ c → τ c k = 0) : gx_Mc l yX11_init cX11_init 2 3 198 9936 (tb ++ [.inl (12, [some none, some none, some none, some none, some none, some none, some none, some none, some none, some none, some none, none, some none, some none, some none, some none])]) (tb ++ b_X n) E σ (up2 (up2 (up2 (up2 (up2 (up2 (σ) (n + 3) 8 1) (n + 9) 8 1) (n + 17) 3 1) (n + 17) 9 1) (n + 21) 3 1) (n + 21) 9 1) τ [.ref (E.2.2 + (n + 0))] := by
  refine y_b (by decide +kernel) (Nat.le_of_ble_eq_true rfl) ?_
  intro P9 e9 s m9 below meth C9 S hr hlk hnm hK hN hA hY ls hl
  have S : CallFix P9 m9 C9 cX11_init 2 s _ gx_G RX11 := S
  have hx := S.1
  have hb := S.2.1
  have hl : lv_has ls 2 [(0, .ref (E.2.2 + (n + 0)))] := hl
  refine lv_aload_n hx hb dX11_init_0 rfl (lv_at hl 0 rfl) ?_
  refine gx_obj S mw_120 mw_121 mw_122 hl.1 dX11_init_1 ⟨Nat.le_of_ble_eq_true rfl, Nat.le_of_ble_eq_true rfl⟩ ?_
  refine lv_aload_n hx hb dX11_init_4 rfl (lv_at hl 0 rfl) ?_
  refine y_new S hK hY hn 1 rfl cl_8 tyX7 tyX7_ok [some none, none, none] (fun j hj => by rcases (show j = 0 ∨ j = 1 ∨ j = 2 by omega) with rfl | rfl | rfl <;> rfl) (fun c9 k9 h9 => h0 c9 k9 (by omega)) mwc_X11_9 mw_124 mw_90 ⟨Nat.le_of_ble_eq_true rfl, Nat.le_of_ble_eq_true rfl⟩ dX11_init_5 (fun H hY => ?_)
  refine lv_dup hx hb dX11_init_8 rfl ?_
  refine y_cN (K := 1) (As := []) (rest := [.ref (E.2.2 + (n + 1)), .ref (E.2.2 + (n + 0))]) S hK hN hA hY hn rfl (k_Signs l (E := E) _ (n + 1) (y_ln hn rfl) (σ) τ  (fun c9 k9 h9 => h0 c9 k9 (by omega)) (fun c9 k9 h9 => t0 c9 k9 (by omega))) cw_X11_11 ⟨Nat.le_of_ble_eq_true rfl, Nat.le_of_ble_eq_true rfl⟩ rfl hl.1 rfl (Nat.le_of_ble_eq_true rfl) ⟨Nat.le_of_ble_eq_true rfl, Nat.le_of_ble_eq_true rfl⟩ dX11_init_9 (fun H locs hY => ?_)
  refine y_putF S hK hA hY hn 0 rfl cl_12 0 (Nat.le_of_ble_eq_true rfl) (Nat.le_of_ble_eq_true rfl) mw_447 rfl ⟨rfl, hnm, rfl⟩ (ty := .object "DownTheGutter$Signs") (j := (n + 1)) (by decide +kernel) rfl rfl dX11_init_12 (fun H locs hY => ?_)
  have hY : gx_Y tb ([.inl (12, [some (some (n + 1)), some none, some none, some none, some none, some none, some none, some none, some none, some none, some none, none, some none, some none, some none, some none])] ++ b_Signs (n + 1)) _ E s (σ) τ H _ := hY
  refine lv_aload_n hx hb dX11_init_15 rfl (lv_at hl 0 rfl) ?_
  refine y_new S hK hY hn 3 rfl cl_9 tyX8 tyX8_ok [some none, some none, some none, some none, some none, none, none, none, none] (fun j hj => by rcases (show j = 0 ∨ j = 1 ∨ j = 2 ∨ j = 3 ∨ j = 4 ∨ j = 5 ∨ j = 6 ∨ j = 7 ∨ j = 8 by omega) with rfl | rfl | rfl | rfl | rfl | rfl | rfl | rfl | rfl <;> rfl) (fun c9 k9 h9 => h0 c9 k9 (by omega)) mwc_X11_16 mw_143 mw_91 ⟨Nat.le_of_ble_eq_true rfl, Nat.le_of_ble_eq_true rfl⟩ dX11_init_16 (fun H hY => ?_)
  refine lv_dup hx hb dX11_init_19 rfl ?_
  refine y_cN (K := 3) (As := []) (rest := [.ref (E.2.2 + (n + 3)), .ref (E.2.2 + (n + 0))]) S hK hN hA hY hn rfl (k_Town l (E := E) _ (n + 3) (y_ln hn rfl) (σ) τ  (fun c9 k9 h9 => h0 c9 k9 (by omega)) (fun c9 k9 h9 => t0 c9 k9 (by omega))) cw_X11_18 ⟨Nat.le_of_ble_eq_true rfl, Nat.le_of_ble_eq_true rfl⟩ rfl hl.1 rfl (Nat.le_of_ble_eq_true rfl) ⟨Nat.le_of_ble_eq_true rfl, Nat.le_of_ble_eq_true rfl⟩ dX11_init_20 (fun H locs hY => ?_)
  refine y_putF S hK hA hY hn 0 rfl cl_12 1 (Nat.le_of_ble_eq_true rfl) (Nat.le_of_ble_eq_true rfl) mw_448 rfl ⟨rfl, hnm, rfl⟩ (ty := .object "DownTheGutter$Town") (j := (n + 3)) (by decide +kernel) rfl rfl dX11_init_23 (fun H locs hY => ?_)
  have hY : gx_Y tb ([.inl (12, [some (some (n + 1)), some (some (n + 3)), some none, some none, some none, some none, some none, some none, some none, some none, some none, none, some none, some none, some none, some none])] ++ b_Signs (n + 1) ++ b_Town (n + 3)) _ E s (up2 (σ) (n + 3) 8 1) τ H _ := hY
  refine lv_aload_n hx hb dX11_init_26 rfl (lv_at hl 0 rfl) ?_
  refine y_new S hK hY hn 9 rfl cl_9 tyX8 tyX8_ok [some none, some none, some none, some none, some none, none, none, none, none] (fun j hj => by rcases (show j = 0 ∨ j = 1 ∨ j = 2 ∨ j = 3 ∨ j = 4 ∨ j = 5 ∨ j = 6 ∨ j = 7 ∨ j = 8 by omega) with rfl | rfl | rfl | rfl | rfl | rfl | rfl | rfl | rfl <;> rfl) (fun c9 k9 h9 => (up2_hi (Nat.lt_succ_self _) (by omega)).trans (h0 c9 k9 (by omega))) mwc_X11_16 mw_143 mw_91 ⟨Nat.le_of_ble_eq_true rfl, Nat.le_of_ble_eq_true rfl⟩ dX11_init_27 (fun H hY => ?_)
  refine lv_dup hx hb dX11_init_30 rfl ?_
  refine y_cN (K := 9) (As := []) (rest := [.ref (E.2.2 + (n + 9)), .ref (E.2.2 + (n + 0))]) S hK hN hA hY hn rfl (k_Town l (E := E) _ (n + 9) (y_ln hn rfl) (up2 (σ) (n + 3) 8 1) τ  (fun c9 k9 h9 => (up2_hi (Nat.lt_succ_self _) (by omega)).trans (h0 c9 k9 (by omega))) (fun c9 k9 h9 => t0 c9 k9 (by omega))) cw_X11_18 ⟨Nat.le_of_ble_eq_true rfl, Nat.le_of_ble_eq_true rfl⟩ rfl hl.1 rfl (Nat.le_of_ble_eq_true rfl) ⟨Nat.le_of_ble_eq_true rfl, Nat.le_of_ble_eq_true rfl⟩ dX11_init_31 (fun H locs hY => ?_)
  refine y_putF S hK hA hY hn 0 rfl cl_12 2 (Nat.le_of_ble_eq_true rfl) (Nat.le_of_ble_eq_true rfl) mw_449 rfl ⟨rfl, hnm, rfl⟩ (ty := .object "DownTheGutter$Town") (j := (n + 9)) (by decide +kernel) rfl rfl dX11_init_34 (fun H locs hY => ?_)
  have hY : gx_Y tb ([.inl (12, [some (some (n + 1)), some (some (n + 3)), some (some (n + 9)), some none, some none, some none, some none, some none, some none, some none, some none, none, some none, some none, some none, some none])] ++ b_Signs (n + 1) ++ b_Town (n + 3) ++ b_Town (n + 9)) _ E s (up2 (up2 (σ) (n + 3) 8 1) (n + 9) 8 1) τ H _ := hY
  refine lv_aload_n hx hb dX11_init_37 rfl (lv_at hl 0 rfl) ?_
  refine y_new S hK hY hn 15 rfl cl_11 tyX10 tyX10_ok [some none, none] (fun j hj => by rcases (show j = 0 ∨ j = 1 by omega) with rfl | rfl <;> rfl) (fun c9 k9 h9 => (up2_hi (Nat.lt_succ_self _) (by omega)).trans ((up2_hi (Nat.lt_succ_self _) (by omega)).trans (h0 c9 k9 (by omega)))) mwc_X11_26 mw_182 mw_92 ⟨Nat.le_of_ble_eq_true rfl, Nat.le_of_ble_eq_true rfl⟩ dX11_init_38 (fun H hY => ?_)
  refine lv_dup hx hb dX11_init_41 rfl ?_
  refine y_cN (K := 15) (As := []) (rest := [.ref (E.2.2 + (n + 15)), .ref (E.2.2 + (n + 0))]) S hK hN hA hY hn rfl (k_Water l (E := E) _ (n + 15) (y_ln hn rfl) (up2 (up2 (σ) (n + 3) 8 1) (n + 9) 8 1) τ  (fun c9 k9 h9 => (up2_hi (Nat.lt_succ_self _) (by omega)).trans ((up2_hi (Nat.lt_succ_self _) (by omega)).trans (h0 c9 k9 (by omega)))) (fun c9 k9 h9 => t0 c9 k9 (by omega))) cw_X11_28 ⟨Nat.le_of_ble_eq_true rfl, Nat.le_of_ble_eq_true rfl⟩ rfl hl.1 rfl (Nat.le_of_ble_eq_true rfl) ⟨Nat.le_of_ble_eq_true rfl, Nat.le_of_ble_eq_true rfl⟩ dX11_init_42 (fun H locs hY => ?_)
  refine y_putF S hK hA hY hn 0 rfl cl_12 3 (Nat.le_of_ble_eq_true rfl) (Nat.le_of_ble_eq_true rfl) mw_450 rfl ⟨rfl, hnm, rfl⟩ (ty := .object "DownTheGutter$Water") (j := (n + 15)) (by decide +kernel) rfl rfl dX11_init_45 (fun H locs hY => ?_)
  have hY : gx_Y tb ([.inl (12, [some (some (n + 1)), some (some (n + 3)), some (some (n + 9)), some (some (n + 15)), some none, some none, some none, some none, some none, some none, some none, none, some none, some none, some none, some none])] ++ b_Signs (n + 1) ++ b_Town (n + 3) ++ b_Town (n + 9) ++ b_Water (n + 15)) _ E s (up2 (up2 (σ) (n + 3) 8 1) (n + 9) 8 1) τ H _ := hY
  refine lv_aload_n hx hb dX11_init_48 rfl (lv_at hl 0 rfl) ?_
  refine y_new S hK hY hn 17 rfl cl_6 tyX5 tyX5_ok [some none, some none, some none, none, none, none, none, none, none, none, none] (fun j hj => by rcases (show j = 0 ∨ j = 1 ∨ j = 2 ∨ j = 3 ∨ j = 4 ∨ j = 5 ∨ j = 6 ∨ j = 7 ∨ j = 8 ∨ j = 9 ∨ j = 10 by omega) with rfl | rfl | rfl | rfl | rfl | rfl | rfl | rfl | rfl | rfl | rfl <;> rfl) (fun c9 k9 h9 => (up2_hi (Nat.lt_succ_self _) (by omega)).trans ((up2_hi (Nat.lt_succ_self _) (by omega)).trans (h0 c9 k9 (by omega)))) mwc_X11_33 mw_195 mw_93 ⟨Nat.le_of_ble_eq_true rfl, Nat.le_of_ble_eq_true rfl⟩ dX11_init_49 (fun H hY => ?_)
  refine lv_dup hx hb dX11_init_52 rfl ?_
  refine y_cI (K := 17) (As := []) (rest := [.ref (E.2.2 + (n + 17)), .ref (E.2.2 + (n + 0))]) S hK hN hA hY hn rfl (k_Rule l (E := E) _ (n + 17) (y_ln hn rfl) (up2 (up2 (σ) (n + 3) 8 1) (n + 9) 8 1) τ  (fun c9 k9 h9 => (up2_hi (Nat.lt_succ_self _) (by omega)).trans ((up2_hi (Nat.lt_succ_self _) (by omega)).trans (h0 c9 k9 (by omega)))) (fun c9 k9 h9 => t0 c9 k9 (by omega))) cw_X11_35 ⟨Nat.le_of_ble_eq_true rfl, Nat.le_of_ble_eq_true rfl⟩ rfl hl.1 rfl (Nat.le_of_ble_eq_true rfl) ⟨Nat.le_of_ble_eq_true rfl, Nat.le_of_ble_eq_true rfl⟩ dX11_init_53 (fun H locs hY => ?_)
  refine y_putF S hK hA hY hn 0 rfl cl_12 4 (Nat.le_of_ble_eq_true rfl) (Nat.le_of_ble_eq_true rfl) mw_451 rfl ⟨rfl, hnm, rfl⟩ (ty := .object "DownTheGutter$Rule") (j := (n + 17)) (by decide +kernel) rfl rfl dX11_init_56 (fun H locs hY => ?_)
  have hY : gx_Y tb ([.inl (12, [some (some (n + 1)), some (some (n + 3)), some (some (n + 9)), some (some (n + 15)), some (some (n + 17)), some none, some none, some none, some none, some none, some none, none, some none, some none, some none, some none])] ++ b_Signs (n + 1) ++ b_Town (n + 3) ++ b_Town (n + 9) ++ b_Water (n + 15) ++ b_Rule (n + 17)) _ E s (up2 (up2 (up2 (up2 (σ) (n + 3) 8 1) (n + 9) 8 1) (n + 17) 3 1) (n + 17) 9 1) τ H _ := hY
  refine lv_aload_n hx hb dX11_init_59 rfl (lv_at hl 0 rfl) ?_
  refine y_new S hK hY hn 21 rfl cl_6 tyX5 tyX5_ok [some none, some none, some none, none, none, none, none, none, none, none, none] (fun j hj => by rcases (show j = 0 ∨ j = 1 ∨ j = 2 ∨ j = 3 ∨ j = 4 ∨ j = 5 ∨ j = 6 ∨ j = 7 ∨ j = 8 ∨ j = 9 ∨ j = 10 by omega) with rfl | rfl | rfl | rfl | rfl | rfl | rfl | rfl | rfl | rfl | rfl <;> rfl) (fun c9 k9 h9 => (up2_hi (Nat.lt_succ_self _) (by omega)).trans ((up2_hi (Nat.lt_succ_self _) (by omega)).trans ((up2_hi (Nat.lt_succ_self _) (by omega)).trans ((up2_hi (Nat.lt_succ_self _) (by omega)).trans (h0 c9 k9 (by omega)))))) mwc_X11_33 mw_195 mw_93 ⟨Nat.le_of_ble_eq_true rfl, Nat.le_of_ble_eq_true rfl⟩ dX11_init_60 (fun H hY => ?_)
  refine lv_dup hx hb dX11_init_63 rfl ?_
  refine y_cI (K := 21) (As := []) (rest := [.ref (E.2.2 + (n + 21)), .ref (E.2.2 + (n + 0))]) S hK hN hA hY hn rfl (k_Rule l (E := E) _ (n + 21) (y_ln hn rfl) (up2 (up2 (up2 (up2 (σ) (n + 3) 8 1) (n + 9) 8 1) (n + 17) 3 1) (n + 17) 9 1) τ  (fun c9 k9 h9 => (up2_hi (Nat.lt_succ_self _) (by omega)).trans ((up2_hi (Nat.lt_succ_self _) (by omega)).trans ((up2_hi (Nat.lt_succ_self _) (by omega)).trans ((up2_hi (Nat.lt_succ_self _) (by omega)).trans (h0 c9 k9 (by omega)))))) (fun c9 k9 h9 => t0 c9 k9 (by omega))) cw_X11_35 ⟨Nat.le_of_ble_eq_true rfl, Nat.le_of_ble_eq_true rfl⟩ rfl hl.1 rfl (Nat.le_of_ble_eq_true rfl) ⟨Nat.le_of_ble_eq_true rfl, Nat.le_of_ble_eq_true rfl⟩ dX11_init_64 (fun H locs hY => ?_)
  refine y_putF S hK hA hY hn 0 rfl cl_12 5 (Nat.le_of_ble_eq_true rfl) (Nat.le_of_ble_eq_true rfl) mw_452 rfl ⟨rfl, hnm, rfl⟩ (ty := .object "DownTheGutter$Rule") (j := (n + 21)) (by decide +kernel) rfl rfl dX11_init_67 (fun H locs hY => ?_)
  have hY : gx_Y tb ([.inl (12, [some (some (n + 1)), some (some (n + 3)), some (some (n + 9)), some (some (n + 15)), some (some (n + 17)), some (some (n + 21)), some none, some none, some none, some none, some none, none, some none, some none, some none, some none])] ++ b_Signs (n + 1) ++ b_Town (n + 3) ++ b_Town (n + 9) ++ b_Water (n + 15) ++ b_Rule (n + 17) ++ b_Rule (n + 21)) _ E s (up2 (up2 (up2 (up2 (up2 (up2 (σ) (n + 3) 8 1) (n + 9) 8 1) (n + 17) 3 1) (n + 17) 9 1) (n + 21) 3 1) (n + 21) 9 1) τ H _ := hY
  refine lv_aload_n hx hb dX11_init_70 rfl (lv_at hl 0 rfl) ?_
  refine y_new S hK hY hn 25 rfl cl_3 tyX2 tyX2_ok [some none, some none, some none, some none, none] (fun j hj => by rcases (show j = 0 ∨ j = 1 ∨ j = 2 ∨ j = 3 ∨ j = 4 by omega) with rfl | rfl | rfl | rfl | rfl <;> rfl) (fun c9 k9 h9 => (up2_hi (Nat.lt_succ_self _) (by omega)).trans ((up2_hi (Nat.lt_succ_self _) (by omega)).trans ((up2_hi (Nat.lt_succ_self _) (by omega)).trans ((up2_hi (Nat.lt_succ_self _) (by omega)).trans ((up2_hi (Nat.lt_succ_self _) (by omega)).trans ((up2_hi (Nat.lt_succ_self _) (by omega)).trans (h0 c9 k9 (by omega)))))))) mwc_X11_43 mw_237 mw_94 ⟨Nat.le_of_ble_eq_true rfl, Nat.le_of_ble_eq_true rfl⟩ dX11_init_71 (fun H hY => ?_)
  refine lv_dup hx hb dX11_init_74 rfl ?_
  refine y_cN (K := 25) (As := []) (rest := [.ref (E.2.2 + (n + 25)), .ref (E.2.2 + (n + 0))]) S hK hN hA hY hn rfl (k_Diary l (E := E) _ (n + 25) (y_ln hn rfl) (up2 (up2 (up2 (up2 (up2 (up2 (σ) (n + 3) 8 1) (n + 9) 8 1) (n + 17) 3 1) (n + 17) 9 1) (n + 21) 3 1) (n + 21) 9 1) τ  (fun c9 k9 h9 => (up2_hi (Nat.lt_succ_self _) (by omega)).trans ((up2_hi (Nat.lt_succ_self _) (by omega)).trans ((up2_hi (Nat.lt_succ_self _) (by omega)).trans ((up2_hi (Nat.lt_succ_self _) (by omega)).trans ((up2_hi (Nat.lt_succ_self _) (by omega)).trans ((up2_hi (Nat.lt_succ_self _) (by omega)).trans (h0 c9 k9 (by omega)))))))) (fun c9 k9 h9 => t0 c9 k9 (by omega))) cw_X11_45 ⟨Nat.le_of_ble_eq_true rfl, Nat.le_of_ble_eq_true rfl⟩ rfl hl.1 rfl (Nat.le_of_ble_eq_true rfl) ⟨Nat.le_of_ble_eq_true rfl, Nat.le_of_ble_eq_true rfl⟩ dX11_init_75 (fun H locs hY => ?_)
  refine y_putF S hK hA hY hn 0 rfl cl_12 6 (Nat.le_of_ble_eq_true rfl) (Nat.le_of_ble_eq_true rfl) mw_453 rfl ⟨rfl, hnm, rfl⟩ (ty := .object "DownTheGutter$Diary") (j := (n + 25)) (by decide +kernel) rfl rfl dX11_init_78 (fun H locs hY => ?_)
  have hY : gx_Y tb ([.inl (12, [some (some (n + 1)), some (some (n + 3)), some (some (n + 9)), some (some (n + 15)), some (some (n + 17)), some (some (n + 21)), some (some (n + 25)), some none, some none, some none, some none, none, some none, some none, some none, some none])] ++ b_Signs (n + 1) ++ b_Town (n + 3) ++ b_Town (n + 9) ++ b_Water (n + 15) ++ b_Rule (n + 17) ++ b_Rule (n + 21) ++ b_Diary (n + 25)) _ E s (up2 (up2 (up2 (up2 (up2 (up2 (σ) (n + 3) 8 1) (n + 9) 8 1) (n + 17) 3 1) (n + 17) 9 1) (n + 21) 3 1) (n + 21) 9 1) τ H _ := hY
  refine lv_aload_n hx hb dX11_init_81 rfl (lv_at hl 0 rfl) ?_
  refine y_new S hK hY hn 30 rfl cl_7 tyX6 tyX6_ok [some none, some none, some none, some none, some none, some none, none, none, none, none, none] (fun j hj => by rcases (show j = 0 ∨ j = 1 ∨ j = 2 ∨ j = 3 ∨ j = 4 ∨ j = 5 ∨ j = 6 ∨ j = 7 ∨ j = 8 ∨ j = 9 ∨ j = 10 by omega) with rfl | rfl | rfl | rfl | rfl | rfl | rfl | rfl | rfl | rfl | rfl <;> rfl) (fun c9 k9 h9 => (up2_hi (Nat.lt_succ_self _) (by omega)).trans ((up2_hi (Nat.lt_succ_self _) (by omega)).trans ((up2_hi (Nat.lt_succ_self _) (by omega)).trans ((up2_hi (Nat.lt_succ_self _) (by omega)).trans ((up2_hi (Nat.lt_succ_self _) (by omega)).trans ((up2_hi (Nat.lt_succ_self _) (by omega)).trans (h0 c9 k9 (by omega)))))))) mwc_X11_50 mw_259 mw_95 ⟨Nat.le_of_ble_eq_true rfl, Nat.le_of_ble_eq_true rfl⟩ dX11_init_82 (fun H hY => ?_)
  refine lv_dup hx hb dX11_init_85 rfl ?_
  refine y_cN (K := 30) (As := []) (rest := [.ref (E.2.2 + (n + 30)), .ref (E.2.2 + (n + 0))]) S hK hN hA hY hn rfl (k_Scene l (E := E) _ (n + 30) (y_ln hn rfl) (up2 (up2 (up2 (up2 (up2 (up2 (σ) (n + 3) 8 1) (n + 9) 8 1) (n + 17) 3 1) (n + 17) 9 1) (n + 21) 3 1) (n + 21) 9 1) τ  (fun c9 k9 h9 => (up2_hi (Nat.lt_succ_self _) (by omega)).trans ((up2_hi (Nat.lt_succ_self _) (by omega)).trans ((up2_hi (Nat.lt_succ_self _) (by omega)).trans ((up2_hi (Nat.lt_succ_self _) (by omega)).trans ((up2_hi (Nat.lt_succ_self _) (by omega)).trans ((up2_hi (Nat.lt_succ_self _) (by omega)).trans (h0 c9 k9 (by omega)))))))) (fun c9 k9 h9 => t0 c9 k9 (by omega))) cw_X11_52 ⟨Nat.le_of_ble_eq_true rfl, Nat.le_of_ble_eq_true rfl⟩ rfl hl.1 rfl (Nat.le_of_ble_eq_true rfl) ⟨Nat.le_of_ble_eq_true rfl, Nat.le_of_ble_eq_true rfl⟩ dX11_init_86 (fun H locs hY => ?_)
  refine y_putF S hK hA hY hn 0 rfl cl_12 7 (Nat.le_of_ble_eq_true rfl) (Nat.le_of_ble_eq_true rfl) mw_454 rfl ⟨rfl, hnm, rfl⟩ (ty := .object "DownTheGutter$Scene") (j := (n + 30)) (by decide +kernel) rfl rfl dX11_init_89 (fun H locs hY => ?_)
  have hY : gx_Y tb ([.inl (12, [some (some (n + 1)), some (some (n + 3)), some (some (n + 9)), some (some (n + 15)), some (some (n + 17)), some (some (n + 21)), some (some (n + 25)), some (some (n + 30)), some none, some none, some none, none, some none, some none, some none, some none])] ++ b_Signs (n + 1) ++ b_Town (n + 3) ++ b_Town (n + 9) ++ b_Water (n + 15) ++ b_Rule (n + 17) ++ b_Rule (n + 21) ++ b_Diary (n + 25) ++ b_Scene (n + 30)) _ E s (up2 (up2 (up2 (up2 (up2 (up2 (σ) (n + 3) 8 1) (n + 9) 8 1) (n + 17) 3 1) (n + 17) 9 1) (n + 21) 3 1) (n + 21) 9 1) τ H _ := hY
  refine lv_aload_n hx hb dX11_init_92 rfl (lv_at hl 0 rfl) ?_
  refine y_new S hK hY hn 37 rfl cl_7 tyX6 tyX6_ok [some none, some none, some none, some none, some none, some none, none, none, none, none, none] (fun j hj => by rcases (show j = 0 ∨ j = 1 ∨ j = 2 ∨ j = 3 ∨ j = 4 ∨ j = 5 ∨ j = 6 ∨ j = 7 ∨ j = 8 ∨ j = 9 ∨ j = 10 by omega) with rfl | rfl | rfl | rfl | rfl | rfl | rfl | rfl | rfl | rfl | rfl <;> rfl) (fun c9 k9 h9 => (up2_hi (Nat.lt_succ_self _) (by omega)).trans ((up2_hi (Nat.lt_succ_self _) (by omega)).trans ((up2_hi (Nat.lt_succ_self _) (by omega)).trans ((up2_hi (Nat.lt_succ_self _) (by omega)).trans ((up2_hi (Nat.lt_succ_self _) (by omega)).trans ((up2_hi (Nat.lt_succ_self _) (by omega)).trans (h0 c9 k9 (by omega)))))))) mwc_X11_50 mw_259 mw_95 ⟨Nat.le_of_ble_eq_true rfl, Nat.le_of_ble_eq_true rfl⟩ dX11_init_93 (fun H hY => ?_)
  refine lv_dup hx hb dX11_init_96 rfl ?_
  refine y_cN (K := 37) (As := []) (rest := [.ref (E.2.2 + (n + 37)), .ref (E.2.2 + (n + 0))]) S hK hN hA hY hn rfl (k_Scene l (E := E) _ (n + 37) (y_ln hn rfl) (up2 (up2 (up2 (up2 (up2 (up2 (σ) (n + 3) 8 1) (n + 9) 8 1) (n + 17) 3 1) (n + 17) 9 1) (n + 21) 3 1) (n + 21) 9 1) τ  (fun c9 k9 h9 => (up2_hi (Nat.lt_succ_self _) (by omega)).trans ((up2_hi (Nat.lt_succ_self _) (by omega)).trans ((up2_hi (Nat.lt_succ_self _) (by omega)).trans ((up2_hi (Nat.lt_succ_self _) (by omega)).trans ((up2_hi (Nat.lt_succ_self _) (by omega)).trans ((up2_hi (Nat.lt_succ_self _) (by omega)).trans (h0 c9 k9 (by omega)))))))) (fun c9 k9 h9 => t0 c9 k9 (by omega))) cw_X11_52 ⟨Nat.le_of_ble_eq_true rfl, Nat.le_of_ble_eq_true rfl⟩ rfl hl.1 rfl (Nat.le_of_ble_eq_true rfl) ⟨Nat.le_of_ble_eq_true rfl, Nat.le_of_ble_eq_true rfl⟩ dX11_init_97 (fun H locs hY => ?_)
  refine y_putF S hK hA hY hn 0 rfl cl_12 8 (Nat.le_of_ble_eq_true rfl) (Nat.le_of_ble_eq_true rfl) mw_455 rfl ⟨rfl, hnm, rfl⟩ (ty := .object "DownTheGutter$Scene") (j := (n + 37)) (by decide +kernel) rfl rfl dX11_init_100 (fun H locs hY => ?_)
  have hY : gx_Y tb ([.inl (12, [some (some (n + 1)), some (some (n + 3)), some (some (n + 9)), some (some (n + 15)), some (some (n + 17)), some (some (n + 21)), some (some (n + 25)), some (some (n + 30)), some (some (n + 37)), some none, some none, none, some none, some none, some none, some none])] ++ b_Signs (n + 1) ++ b_Town (n + 3) ++ b_Town (n + 9) ++ b_Water (n + 15) ++ b_Rule (n + 17) ++ b_Rule (n + 21) ++ b_Diary (n + 25) ++ b_Scene (n + 30) ++ b_Scene (n + 37)) _ E s (up2 (up2 (up2 (up2 (up2 (up2 (σ) (n + 3) 8 1) (n + 9) 8 1) (n + 17) 3 1) (n + 17) 9 1) (n + 21) 3 1) (n + 21) 9 1) τ H _ := hY
  refine lv_aload_n hx hb dX11_init_103 rfl (lv_at hl 0 rfl) ?_
  refine y_new S hK hY hn 44 rfl cl_4 tyX3 tyX3_ok [some none, none, none] (fun j hj => by rcases (show j = 0 ∨ j = 1 ∨ j = 2 by omega) with rfl | rfl | rfl <;> rfl) (fun c9 k9 h9 => (up2_hi (Nat.lt_succ_self _) (by omega)).trans ((up2_hi (Nat.lt_succ_self _) (by omega)).trans ((up2_hi (Nat.lt_succ_self _) (by omega)).trans ((up2_hi (Nat.lt_succ_self _) (by omega)).trans ((up2_hi (Nat.lt_succ_self _) (by omega)).trans ((up2_hi (Nat.lt_succ_self _) (by omega)).trans (h0 c9 k9 (by omega)))))))) mwc_X11_60 mw_311 mw_96 ⟨Nat.le_of_ble_eq_true rfl, Nat.le_of_ble_eq_true rfl⟩ dX11_init_104 (fun H hY => ?_)
  refine lv_dup hx hb dX11_init_107 rfl ?_
  refine y_cI (K := 44) (As := []) (rest := [.ref (E.2.2 + (n + 44)), .ref (E.2.2 + (n + 0))]) S hK hN hA hY hn rfl (k_Past l (E := E) _ (n + 44) (y_ln hn rfl) (up2 (up2 (up2 (up2 (up2 (up2 (σ) (n + 3) 8 1) (n + 9) 8 1) (n + 17) 3 1) (n + 17) 9 1) (n + 21) 3 1) (n + 21) 9 1) τ  (fun c9 k9 h9 => (up2_hi (Nat.lt_succ_self _) (by omega)).trans ((up2_hi (Nat.lt_succ_self _) (by omega)).trans ((up2_hi (Nat.lt_succ_self _) (by omega)).trans ((up2_hi (Nat.lt_succ_self _) (by omega)).trans ((up2_hi (Nat.lt_succ_self _) (by omega)).trans ((up2_hi (Nat.lt_succ_self _) (by omega)).trans (h0 c9 k9 (by omega)))))))) (fun c9 k9 h9 => t0 c9 k9 (by omega))) cw_X11_62 ⟨Nat.le_of_ble_eq_true rfl, Nat.le_of_ble_eq_true rfl⟩ rfl hl.1 rfl (Nat.le_of_ble_eq_true rfl) ⟨Nat.le_of_ble_eq_true rfl, Nat.le_of_ble_eq_true rfl⟩ dX11_init_108 (fun H locs hY => ?_)
  refine y_putF S hK hA hY hn 0 rfl cl_12 9 (Nat.le_of_ble_eq_true rfl) (Nat.le_of_ble_eq_true rfl) mw_456 rfl ⟨rfl, hnm, rfl⟩ (ty := .object "DownTheGutter$Past") (j := (n + 44)) (by decide +kernel) rfl rfl dX11_init_111 (fun H locs hY => ?_)
  have hY : gx_Y tb ([.inl (12, [some (some (n + 1)), some (some (n + 3)), some (some (n + 9)), some (some (n + 15)), some (some (n + 17)), some (some (n + 21)), some (some (n + 25)), some (some (n + 30)), some (some (n + 37)), some (some (n + 44)), some none, none, some none, some none, some none, some none])] ++ b_Signs (n + 1) ++ b_Town (n + 3) ++ b_Town (n + 9) ++ b_Water (n + 15) ++ b_Rule (n + 17) ++ b_Rule (n + 21) ++ b_Diary (n + 25) ++ b_Scene (n + 30) ++ b_Scene (n + 37) ++ b_Past (n + 44)) _ E s (up2 (up2 (up2 (up2 (up2 (up2 (σ) (n + 3) 8 1) (n + 9) 8 1) (n + 17) 3 1) (n + 17) 9 1) (n + 21) 3 1) (n + 21) 9 1) τ H _ := hY
  refine lv_aload_n hx hb dX11_init_114 rfl (lv_at hl 0 rfl) ?_
  refine lv_iconst (v := 3) hx hb dX11_init_115 (by decide) ?_
  refine y_newS S hK hN hY hn 151 rfl (N := 3) (by decide) (by decide) (by decide) mw_258 ⟨Nat.le_of_ble_eq_true rfl, Nat.le_of_ble_eq_true rfl⟩ dX11_init_116 (fun H hY => ?_)
  have hY : gx_Y tb ([.inl (12, [some (some (n + 1)), some (some (n + 3)), some (some (n + 9)), some (some (n + 15)), some (some (n + 17)), some (some (n + 21)), some (some (n + 25)), some (some (n + 30)), some (some (n + 37)), some (some (n + 44)), some none, none, some none, some none, some none, some none])] ++ b_Signs (n + 1) ++ b_Town (n + 3) ++ b_Town (n + 9) ++ b_Water (n + 15) ++ b_Rule (n + 17) ++ b_Rule (n + 21) ++ b_Diary (n + 25) ++ b_Scene (n + 30) ++ b_Scene (n + 37) ++ b_Past (n + 44) ++ [.inr (3, 3, [none, none, none])]) _ E s (up2 (up2 (up2 (up2 (up2 (up2 (σ) (n + 3) 8 1) (n + 9) 8 1) (n + 17) 3 1) (n + 17) 9 1) (n + 21) 3 1) (n + 21) 9 1) τ H _ := hY
  refine y_putF S hK hA hY hn 0 rfl cl_12 10 (Nat.le_of_ble_eq_true rfl) (Nat.le_of_ble_eq_true rfl) mw_457 rfl ⟨rfl, hnm, rfl⟩ (ty := .array (.object "DownTheGutter$Scene")) (j := (n + 151)) (by decide +kernel) rfl rfl dX11_init_119 (fun H locs hY => ?_)
  have hY : gx_Y tb ([.inl (12, [some (some (n + 1)), some (some (n + 3)), some (some (n + 9)), some (some (n + 15)), some (some (n + 17)), some (some (n + 21)), some (some (n + 25)), some (some (n + 30)), some (some (n + 37)), some (some (n + 44)), some (some (n + 151)), none, some none, some none, some none, some none])] ++ b_Signs (n + 1) ++ b_Town (n + 3) ++ b_Town (n + 9) ++ b_Water (n + 15) ++ b_Rule (n + 17) ++ b_Rule (n + 21) ++ b_Diary (n + 25) ++ b_Scene (n + 30) ++ b_Scene (n + 37) ++ b_Past (n + 44) ++ [.inr (3, 3, [none, none, none])]) _ E s (up2 (up2 (up2 (up2 (up2 (up2 (σ) (n + 3) 8 1) (n + 9) 8 1) (n + 17) 3 1) (n + 17) 9 1) (n + 21) 3 1) (n + 21) 9 1) τ H _ := hY
  refine lv_aload_n hx hb dX11_init_122 rfl (lv_at hl 0 rfl) ?_
  refine y_new S hK hY hn 152 rfl cl_1 tyX0 tyX0_ok [some none, some none, some none, none] (fun j hj => by rcases (show j = 0 ∨ j = 1 ∨ j = 2 ∨ j = 3 by omega) with rfl | rfl | rfl | rfl <;> rfl) (fun c9 k9 h9 => (up2_hi (Nat.lt_succ_self _) (by omega)).trans ((up2_hi (Nat.lt_succ_self _) (by omega)).trans ((up2_hi (Nat.lt_succ_self _) (by omega)).trans ((up2_hi (Nat.lt_succ_self _) (by omega)).trans ((up2_hi (Nat.lt_succ_self _) (by omega)).trans ((up2_hi (Nat.lt_succ_self _) (by omega)).trans (h0 c9 k9 (by omega)))))))) mwc_X11_71 mw_331 mw_97 ⟨Nat.le_of_ble_eq_true rfl, Nat.le_of_ble_eq_true rfl⟩ dX11_init_123 (fun H hY => ?_)
  refine lv_dup hx hb dX11_init_126 rfl ?_
  refine y_cN (K := 152) (As := []) (rest := [.ref (E.2.2 + (n + 152)), .ref (E.2.2 + (n + 0))]) S hK hN hA hY hn rfl (k_Corks l (E := E) _ (n + 152) (y_ln hn rfl) (up2 (up2 (up2 (up2 (up2 (up2 (σ) (n + 3) 8 1) (n + 9) 8 1) (n + 17) 3 1) (n + 17) 9 1) (n + 21) 3 1) (n + 21) 9 1) τ  (fun c9 k9 h9 => (up2_hi (Nat.lt_succ_self _) (by omega)).trans ((up2_hi (Nat.lt_succ_self _) (by omega)).trans ((up2_hi (Nat.lt_succ_self _) (by omega)).trans ((up2_hi (Nat.lt_succ_self _) (by omega)).trans ((up2_hi (Nat.lt_succ_self _) (by omega)).trans ((up2_hi (Nat.lt_succ_self _) (by omega)).trans (h0 c9 k9 (by omega)))))))) (fun c9 k9 h9 => t0 c9 k9 (by omega))) cw_X11_73 ⟨Nat.le_of_ble_eq_true rfl, Nat.le_of_ble_eq_true rfl⟩ rfl hl.1 rfl (Nat.le_of_ble_eq_true rfl) ⟨Nat.le_of_ble_eq_true rfl, Nat.le_of_ble_eq_true rfl⟩ dX11_init_127 (fun H locs hY => ?_)
  refine y_putF S hK hA hY hn 0 rfl cl_12 12 (Nat.le_of_ble_eq_true rfl) (Nat.le_of_ble_eq_true rfl) mw_459 rfl ⟨rfl, hnm, rfl⟩ (ty := .object "DownTheGutter$Corks") (j := (n + 152)) (by decide +kernel) rfl rfl dX11_init_130 (fun H locs hY => ?_)
  have hY : gx_Y tb ([.inl (12, [some (some (n + 1)), some (some (n + 3)), some (some (n + 9)), some (some (n + 15)), some (some (n + 17)), some (some (n + 21)), some (some (n + 25)), some (some (n + 30)), some (some (n + 37)), some (some (n + 44)), some (some (n + 151)), none, some (some (n + 152)), some none, some none, some none])] ++ b_Signs (n + 1) ++ b_Town (n + 3) ++ b_Town (n + 9) ++ b_Water (n + 15) ++ b_Rule (n + 17) ++ b_Rule (n + 21) ++ b_Diary (n + 25) ++ b_Scene (n + 30) ++ b_Scene (n + 37) ++ b_Past (n + 44) ++ [.inr (3, 3, [none, none, none])] ++ b_Corks (n + 152)) _ E s (up2 (up2 (up2 (up2 (up2 (up2 (σ) (n + 3) 8 1) (n + 9) 8 1) (n + 17) 3 1) (n + 17) 9 1) (n + 21) 3 1) (n + 21) 9 1) τ H _ := hY
  refine lv_aload_n hx hb dX11_init_133 rfl (lv_at hl 0 rfl) ?_
  refine y_new S hK hY hn 156 rfl cl_5 tyX4 tyX4_ok [some none, none] (fun j hj => by rcases (show j = 0 ∨ j = 1 by omega) with rfl | rfl <;> rfl) (fun c9 k9 h9 => (up2_hi (Nat.lt_succ_self _) (by omega)).trans ((up2_hi (Nat.lt_succ_self _) (by omega)).trans ((up2_hi (Nat.lt_succ_self _) (by omega)).trans ((up2_hi (Nat.lt_succ_self _) (by omega)).trans ((up2_hi (Nat.lt_succ_self _) (by omega)).trans ((up2_hi (Nat.lt_succ_self _) (by omega)).trans (h0 c9 k9 (by omega)))))))) mwc_X11_78 mw_351 mw_98 ⟨Nat.le_of_ble_eq_true rfl, Nat.le_of_ble_eq_true rfl⟩ dX11_init_134 (fun H hY => ?_)
  refine lv_dup hx hb dX11_init_137 rfl ?_
  refine y_cN (K := 156) (As := []) (rest := [.ref (E.2.2 + (n + 156)), .ref (E.2.2 + (n + 0))]) S hK hN hA hY hn rfl (k_Row l (E := E) _ (n + 156) (y_ln hn rfl) (up2 (up2 (up2 (up2 (up2 (up2 (σ) (n + 3) 8 1) (n + 9) 8 1) (n + 17) 3 1) (n + 17) 9 1) (n + 21) 3 1) (n + 21) 9 1) τ  (fun c9 k9 h9 => (up2_hi (Nat.lt_succ_self _) (by omega)).trans ((up2_hi (Nat.lt_succ_self _) (by omega)).trans ((up2_hi (Nat.lt_succ_self _) (by omega)).trans ((up2_hi (Nat.lt_succ_self _) (by omega)).trans ((up2_hi (Nat.lt_succ_self _) (by omega)).trans ((up2_hi (Nat.lt_succ_self _) (by omega)).trans (h0 c9 k9 (by omega)))))))) (fun c9 k9 h9 => t0 c9 k9 (by omega))) cw_X11_80 ⟨Nat.le_of_ble_eq_true rfl, Nat.le_of_ble_eq_true rfl⟩ rfl hl.1 rfl (Nat.le_of_ble_eq_true rfl) ⟨Nat.le_of_ble_eq_true rfl, Nat.le_of_ble_eq_true rfl⟩ dX11_init_138 (fun H locs hY => ?_)
  refine y_putF S hK hA hY hn 0 rfl cl_12 13 (Nat.le_of_ble_eq_true rfl) (Nat.le_of_ble_eq_true rfl) mw_460 rfl ⟨rfl, hnm, rfl⟩ (ty := .object "DownTheGutter$Row") (j := (n + 156)) (by decide +kernel) rfl rfl dX11_init_141 (fun H locs hY => ?_)
  have hY : gx_Y tb ([.inl (12, [some (some (n + 1)), some (some (n + 3)), some (some (n + 9)), some (some (n + 15)), some (some (n + 17)), some (some (n + 21)), some (some (n + 25)), some (some (n + 30)), some (some (n + 37)), some (some (n + 44)), some (some (n + 151)), none, some (some (n + 152)), some (some (n + 156)), some none, some none])] ++ b_Signs (n + 1) ++ b_Town (n + 3) ++ b_Town (n + 9) ++ b_Water (n + 15) ++ b_Rule (n + 17) ++ b_Rule (n + 21) ++ b_Diary (n + 25) ++ b_Scene (n + 30) ++ b_Scene (n + 37) ++ b_Past (n + 44) ++ [.inr (3, 3, [none, none, none])] ++ b_Corks (n + 152) ++ b_Row (n + 156)) _ E s (up2 (up2 (up2 (up2 (up2 (up2 (σ) (n + 3) 8 1) (n + 9) 8 1) (n + 17) 3 1) (n + 17) 9 1) (n + 21) 3 1) (n + 21) 9 1) τ H _ := hY
  refine lv_aload_n hx hb dX11_init_144 rfl (lv_at hl 0 rfl) ?_
  refine y_new S hK hY hn 158 rfl cl_2 tyX1 tyX1_ok [some none, some none, some none, some none, none, none, none, none, none, none] (fun j hj => by rcases (show j = 0 ∨ j = 1 ∨ j = 2 ∨ j = 3 ∨ j = 4 ∨ j = 5 ∨ j = 6 ∨ j = 7 ∨ j = 8 ∨ j = 9 by omega) with rfl | rfl | rfl | rfl | rfl | rfl | rfl | rfl | rfl | rfl <;> rfl) (fun c9 k9 h9 => (up2_hi (Nat.lt_succ_self _) (by omega)).trans ((up2_hi (Nat.lt_succ_self _) (by omega)).trans ((up2_hi (Nat.lt_succ_self _) (by omega)).trans ((up2_hi (Nat.lt_succ_self _) (by omega)).trans ((up2_hi (Nat.lt_succ_self _) (by omega)).trans ((up2_hi (Nat.lt_succ_self _) (by omega)).trans (h0 c9 k9 (by omega)))))))) mwc_X11_85 mw_366 mw_99 ⟨Nat.le_of_ble_eq_true rfl, Nat.le_of_ble_eq_true rfl⟩ dX11_init_145 (fun H hY => ?_)
  refine lv_dup hx hb dX11_init_148 rfl ?_
  refine lv_aload_n hx hb dX11_init_149 rfl (lv_at hl 0 rfl) ?_
  refine y_getr (j := (n + 3)) S hK hY hn 0 rfl cl_12 1 (by decide) rfl mw_448 rfl dX11_init_150 ?_
  refine lv_aload_n hx hb dX11_init_153 rfl (lv_at hl 0 rfl) ?_
  refine y_getr (j := (n + 15)) S hK hY hn 0 rfl cl_12 3 (by decide) rfl mw_450 rfl dX11_init_154 ?_
  refine lv_aload_n hx hb dX11_init_157 rfl (lv_at hl 0 rfl) ?_
  refine y_getr (j := (n + 17)) S hK hY hn 0 rfl cl_12 4 (by decide) rfl mw_451 rfl dX11_init_158 ?_
  refine y_cI (K := 158) (As := [.ref (E.2.2 + (n + 3)), .ref (E.2.2 + (n + 15)), .ref (E.2.2 + (n + 17))]) (rest := [.ref (E.2.2 + (n + 158)), .ref (E.2.2 + (n + 0))]) S hK hN hA hY hn rfl (k_Current l (E := E) _ (n + 158) (y_ln hn rfl) (up2 (up2 (up2 (up2 (up2 (up2 (σ) (n + 3) 8 1) (n + 9) 8 1) (n + 17) 3 1) (n + 17) 9 1) (n + 21) 3 1) (n + 21) 9 1) τ (n + 3) (n + 15) (n + 17) (fun c9 k9 h9 => (up2_hi (Nat.lt_succ_self _) (by omega)).trans ((up2_hi (Nat.lt_succ_self _) (by omega)).trans ((up2_hi (Nat.lt_succ_self _) (by omega)).trans ((up2_hi (Nat.lt_succ_self _) (by omega)).trans ((up2_hi (Nat.lt_succ_self _) (by omega)).trans ((up2_hi (Nat.lt_succ_self _) (by omega)).trans (h0 c9 k9 (by omega)))))))) (fun c9 k9 h9 => t0 c9 k9 (by omega))) cw_X11_87 ⟨Nat.le_of_ble_eq_true rfl, Nat.le_of_ble_eq_true rfl⟩ rfl hl.1 rfl (Nat.le_of_ble_eq_true rfl) ⟨Nat.le_of_ble_eq_true rfl, Nat.le_of_ble_eq_true rfl⟩ dX11_init_161 (fun H locs hY => ?_)
  refine y_putF S hK hA hY hn 0 rfl cl_12 14 (Nat.le_of_ble_eq_true rfl) (Nat.le_of_ble_eq_true rfl) mw_461 rfl ⟨rfl, hnm, rfl⟩ (ty := .object "DownTheGutter$Current") (j := (n + 158)) (by decide +kernel) rfl rfl dX11_init_164 (fun H locs hY => ?_)
  have hY : gx_Y tb ([.inl (12, [some (some (n + 1)), some (some (n + 3)), some (some (n + 9)), some (some (n + 15)), some (some (n + 17)), some (some (n + 21)), some (some (n + 25)), some (some (n + 30)), some (some (n + 37)), some (some (n + 44)), some (some (n + 151)), none, some (some (n + 152)), some (some (n + 156)), some (some (n + 158)), some none])] ++ b_Signs (n + 1) ++ b_Town (n + 3) ++ b_Town (n + 9) ++ b_Water (n + 15) ++ b_Rule (n + 17) ++ b_Rule (n + 21) ++ b_Diary (n + 25) ++ b_Scene (n + 30) ++ b_Scene (n + 37) ++ b_Past (n + 44) ++ [.inr (3, 3, [none, none, none])] ++ b_Corks (n + 152) ++ b_Row (n + 156) ++ b_Current (n + 158) (n + 3) (n + 15) (n + 17)) _ E s (up2 (up2 (up2 (up2 (up2 (up2 (σ) (n + 3) 8 1) (n + 9) 8 1) (n + 17) 3 1) (n + 17) 9 1) (n + 21) 3 1) (n + 21) 9 1) τ H _ := hY
  refine lv_aload_n hx hb dX11_init_167 rfl (lv_at hl 0 rfl) ?_
  refine y_new S hK hY hn 160 rfl cl_10 tyX9 tyX9_ok [some none, some none, some none, some none, some none, none, none, some none, some none] (fun j hj => by rcases (show j = 0 ∨ j = 1 ∨ j = 2 ∨ j = 3 ∨ j = 4 ∨ j = 5 ∨ j = 6 ∨ j = 7 ∨ j = 8 by omega) with rfl | rfl | rfl | rfl | rfl | rfl | rfl | rfl | rfl <;> rfl) (fun c9 k9 h9 => (up2_hi (Nat.lt_succ_self _) (by omega)).trans ((up2_hi (Nat.lt_succ_self _) (by omega)).trans ((up2_hi (Nat.lt_succ_self _) (by omega)).trans ((up2_hi (Nat.lt_succ_self _) (by omega)).trans ((up2_hi (Nat.lt_succ_self _) (by omega)).trans ((up2_hi (Nat.lt_succ_self _) (by omega)).trans (h0 c9 k9 (by omega)))))))) mwc_X11_94 mw_409 mw_100 ⟨Nat.le_of_ble_eq_true rfl, Nat.le_of_ble_eq_true rfl⟩ dX11_init_168 (fun H hY => ?_)
  refine lv_dup hx hb dX11_init_171 rfl ?_
  refine lv_aload_n hx hb dX11_init_172 rfl (lv_at hl 0 rfl) ?_
  refine y_getr (j := (n + 3)) S hK hY hn 0 rfl cl_12 1 (by decide) rfl mw_448 rfl dX11_init_173 ?_
  refine lv_aload_n hx hb dX11_init_176 rfl (lv_at hl 0 rfl) ?_
  refine y_getr (j := (n + 158)) S hK hY hn 0 rfl cl_12 14 (by decide) rfl mw_461 rfl dX11_init_177 ?_
  refine y_cI (K := 160) (As := [.ref (E.2.2 + (n + 3)), .ref (E.2.2 + (n + 158))]) (rest := [.ref (E.2.2 + (n + 160)), .ref (E.2.2 + (n + 0))]) S hK hN hA hY hn rfl (k_Trials l (E := E) _ (n + 160) (y_ln hn rfl) (up2 (up2 (up2 (up2 (up2 (up2 (σ) (n + 3) 8 1) (n + 9) 8 1) (n + 17) 3 1) (n + 17) 9 1) (n + 21) 3 1) (n + 21) 9 1) τ (n + 3) (n + 158) (fun c9 k9 h9 => (up2_hi (Nat.lt_succ_self _) (by omega)).trans ((up2_hi (Nat.lt_succ_self _) (by omega)).trans ((up2_hi (Nat.lt_succ_self _) (by omega)).trans ((up2_hi (Nat.lt_succ_self _) (by omega)).trans ((up2_hi (Nat.lt_succ_self _) (by omega)).trans ((up2_hi (Nat.lt_succ_self _) (by omega)).trans (h0 c9 k9 (by omega)))))))) (fun c9 k9 h9 => t0 c9 k9 (by omega))) cw_X11_96 ⟨Nat.le_of_ble_eq_true rfl, Nat.le_of_ble_eq_true rfl⟩ rfl hl.1 rfl (Nat.le_of_ble_eq_true rfl) ⟨Nat.le_of_ble_eq_true rfl, Nat.le_of_ble_eq_true rfl⟩ dX11_init_180 (fun H locs hY => ?_)
  refine y_putF S hK hA hY hn 0 rfl cl_12 15 (Nat.le_of_ble_eq_true rfl) (Nat.le_of_ble_eq_true rfl) mw_462 rfl ⟨rfl, hnm, rfl⟩ (ty := .object "DownTheGutter$Trials") (j := (n + 160)) (by decide +kernel) rfl rfl dX11_init_183 (fun H locs hY => ?_)
  have hY : gx_Y tb ([.inl (12, [some (some (n + 1)), some (some (n + 3)), some (some (n + 9)), some (some (n + 15)), some (some (n + 17)), some (some (n + 21)), some (some (n + 25)), some (some (n + 30)), some (some (n + 37)), some (some (n + 44)), some (some (n + 151)), none, some (some (n + 152)), some (some (n + 156)), some (some (n + 158)), some (some (n + 160))])] ++ b_Signs (n + 1) ++ b_Town (n + 3) ++ b_Town (n + 9) ++ b_Water (n + 15) ++ b_Rule (n + 17) ++ b_Rule (n + 21) ++ b_Diary (n + 25) ++ b_Scene (n + 30) ++ b_Scene (n + 37) ++ b_Past (n + 44) ++ [.inr (3, 3, [none, none, none])] ++ b_Corks (n + 152) ++ b_Row (n + 156) ++ b_Current (n + 158) (n + 3) (n + 15) (n + 17) ++ b_Trials (n + 160) (n + 3) (n + 158)) _ E s (up2 (up2 (up2 (up2 (up2 (up2 (σ) (n + 3) 8 1) (n + 9) 8 1) (n + 17) 3 1) (n + 17) 9 1) (n + 21) 3 1) (n + 21) 9 1) τ H _ := hY
  refine lv_iconst (v := 0) hx hb dX11_init_186 (by decide) ?_
  refine lv_istore_n (lv' := [(1, .int 0), (0, .ref (E.2.2 + (n + 0)))]) hx hb dX11_init_187 rfl hl (by decide) rfl (fun ls hl => ?_)
  refine lv_iload_n hx hb dX11_init_188 rfl (lv_at hl 0 rfl) ?_
  refine lv_iconst (v := 3) hx hb dX11_init_189 (by decide) ?_
  refine lv_icmp_ge (tgt := 212) hx hb dX11_init_190 (by decide) (fun h => absurd h (by decide)) (fun _ => ?_)
  refine lv_aload_n hx hb dX11_init_193 rfl (lv_at hl 1 rfl) ?_
  refine y_getr (j := (n + 151)) S hK hY hn 0 rfl cl_12 10 (by decide) rfl mw_457 rfl dX11_init_194 ?_
  refine lv_iload_n hx hb dX11_init_197 rfl (lv_at hl 0 rfl) ?_
  refine y_new S hK hY hn 178 rfl cl_7 tyX6 tyX6_ok [some none, some none, some none, some none, some none, some none, none, none, none, none, none] (fun j hj => by rcases (show j = 0 ∨ j = 1 ∨ j = 2 ∨ j = 3 ∨ j = 4 ∨ j = 5 ∨ j = 6 ∨ j = 7 ∨ j = 8 ∨ j = 9 ∨ j = 10 by omega) with rfl | rfl | rfl | rfl | rfl | rfl | rfl | rfl | rfl | rfl | rfl <;> rfl) (fun c9 k9 h9 => (up2_hi (Nat.lt_succ_self _) (by omega)).trans ((up2_hi (Nat.lt_succ_self _) (by omega)).trans ((up2_hi (Nat.lt_succ_self _) (by omega)).trans ((up2_hi (Nat.lt_succ_self _) (by omega)).trans ((up2_hi (Nat.lt_succ_self _) (by omega)).trans ((up2_hi (Nat.lt_succ_self _) (by omega)).trans (h0 c9 k9 (by omega)))))))) mwc_X11_50 mw_259 mw_95 ⟨Nat.le_of_ble_eq_true rfl, Nat.le_of_ble_eq_true rfl⟩ dX11_init_198 (fun H hY => ?_)
  refine lv_dup hx hb dX11_init_201 rfl ?_
  refine y_cN (K := 178) (As := []) (rest := [.ref (E.2.2 + (n + 178)), .int 0, .ref (E.2.2 + (n + 151))]) S hK hN hA hY hn rfl (k_Scene l (E := E) _ (n + 178) (y_ln hn rfl) (up2 (up2 (up2 (up2 (up2 (up2 (σ) (n + 3) 8 1) (n + 9) 8 1) (n + 17) 3 1) (n + 17) 9 1) (n + 21) 3 1) (n + 21) 9 1) τ  (fun c9 k9 h9 => (up2_hi (Nat.lt_succ_self _) (by omega)).trans ((up2_hi (Nat.lt_succ_self _) (by omega)).trans ((up2_hi (Nat.lt_succ_self _) (by omega)).trans ((up2_hi (Nat.lt_succ_self _) (by omega)).trans ((up2_hi (Nat.lt_succ_self _) (by omega)).trans ((up2_hi (Nat.lt_succ_self _) (by omega)).trans (h0 c9 k9 (by omega)))))))) (fun c9 k9 h9 => t0 c9 k9 (by omega))) cw_X11_52 ⟨Nat.le_of_ble_eq_true rfl, Nat.le_of_ble_eq_true rfl⟩ rfl hl.1 rfl (Nat.le_of_ble_eq_true rfl) ⟨Nat.le_of_ble_eq_true rfl, Nat.le_of_ble_eq_true rfl⟩ dX11_init_202 (fun H locs hY => ?_)
  refine y_aast S hK hA hY hn 151 178 rfl rfl 0 rfl (gx_in rfl (by decide) (by decide)) (Nat.le_of_ble_eq_true rfl) dX11_init_205 (fun H locs hY => ?_)
  have hY : gx_Y tb ([.inl (12, [some (some (n + 1)), some (some (n + 3)), some (some (n + 9)), some (some (n + 15)), some (some (n + 17)), some (some (n + 21)), some (some (n + 25)), some (some (n + 30)), some (some (n + 37)), some (some (n + 44)), some (some (n + 151)), none, some (some (n + 152)), some (some (n + 156)), some (some (n + 158)), some (some (n + 160))])] ++ b_Signs (n + 1) ++ b_Town (n + 3) ++ b_Town (n + 9) ++ b_Water (n + 15) ++ b_Rule (n + 17) ++ b_Rule (n + 21) ++ b_Diary (n + 25) ++ b_Scene (n + 30) ++ b_Scene (n + 37) ++ b_Past (n + 44) ++ [.inr (3, 3, [some (n + 178), none, none])] ++ b_Corks (n + 152) ++ b_Row (n + 156) ++ b_Current (n + 158) (n + 3) (n + 15) (n + 17) ++ b_Trials (n + 160) (n + 3) (n + 158) ++ b_Scene (n + 178)) _ E s (up2 (up2 (up2 (up2 (up2 (up2 (σ) (n + 3) 8 1) (n + 9) 8 1) (n + 17) 3 1) (n + 17) 9 1) (n + 21) 3 1) (n + 21) 9 1) τ H _ := hY
  refine lv_iinc (v := 1) (lv' := [(1, .int 1), (0, .ref (E.2.2 + (n + 0)))]) hx hb dX11_init_206 hl (k := 0) rfl (by decide) (by decide) rfl (fun ls hl => ?_)
  refine lv_goto (tgt := 188) hx hb dX11_init_209 (by decide) ?_
  refine lv_iload_n hx hb dX11_init_188 rfl (lv_at hl 0 rfl) ?_
  refine lv_iconst (v := 3) hx hb dX11_init_189 (by decide) ?_
  refine lv_icmp_ge (tgt := 212) hx hb dX11_init_190 (by decide) (fun h => absurd h (by decide)) (fun _ => ?_)
  refine lv_aload_n hx hb dX11_init_193 rfl (lv_at hl 1 rfl) ?_
  refine y_getr (j := (n + 151)) S hK hY hn 0 rfl cl_12 10 (by decide) rfl mw_457 rfl dX11_init_194 ?_
  refine lv_iload_n hx hb dX11_init_197 rfl (lv_at hl 0 rfl) ?_
  refine y_new S hK hY hn 185 rfl cl_7 tyX6 tyX6_ok [some none, some none, some none, some none, some none, some none, none, none, none, none, none] (fun j hj => by rcases (show j = 0 ∨ j = 1 ∨ j = 2 ∨ j = 3 ∨ j = 4 ∨ j = 5 ∨ j = 6 ∨ j = 7 ∨ j = 8 ∨ j = 9 ∨ j = 10 by omega) with rfl | rfl | rfl | rfl | rfl | rfl | rfl | rfl | rfl | rfl | rfl <;> rfl) (fun c9 k9 h9 => (up2_hi (Nat.lt_succ_self _) (by omega)).trans ((up2_hi (Nat.lt_succ_self _) (by omega)).trans ((up2_hi (Nat.lt_succ_self _) (by omega)).trans ((up2_hi (Nat.lt_succ_self _) (by omega)).trans ((up2_hi (Nat.lt_succ_self _) (by omega)).trans ((up2_hi (Nat.lt_succ_self _) (by omega)).trans (h0 c9 k9 (by omega)))))))) mwc_X11_50 mw_259 mw_95 ⟨Nat.le_of_ble_eq_true rfl, Nat.le_of_ble_eq_true rfl⟩ dX11_init_198 (fun H hY => ?_)
  refine lv_dup hx hb dX11_init_201 rfl ?_
  refine y_cN (K := 185) (As := []) (rest := [.ref (E.2.2 + (n + 185)), .int 1, .ref (E.2.2 + (n + 151))]) S hK hN hA hY hn rfl (k_Scene l (E := E) _ (n + 185) (y_ln hn rfl) (up2 (up2 (up2 (up2 (up2 (up2 (σ) (n + 3) 8 1) (n + 9) 8 1) (n + 17) 3 1) (n + 17) 9 1) (n + 21) 3 1) (n + 21) 9 1) τ  (fun c9 k9 h9 => (up2_hi (Nat.lt_succ_self _) (by omega)).trans ((up2_hi (Nat.lt_succ_self _) (by omega)).trans ((up2_hi (Nat.lt_succ_self _) (by omega)).trans ((up2_hi (Nat.lt_succ_self _) (by omega)).trans ((up2_hi (Nat.lt_succ_self _) (by omega)).trans ((up2_hi (Nat.lt_succ_self _) (by omega)).trans (h0 c9 k9 (by omega)))))))) (fun c9 k9 h9 => t0 c9 k9 (by omega))) cw_X11_52 ⟨Nat.le_of_ble_eq_true rfl, Nat.le_of_ble_eq_true rfl⟩ rfl hl.1 rfl (Nat.le_of_ble_eq_true rfl) ⟨Nat.le_of_ble_eq_true rfl, Nat.le_of_ble_eq_true rfl⟩ dX11_init_202 (fun H locs hY => ?_)
  refine y_aast S hK hA hY hn 151 185 rfl rfl 1 rfl (gx_in rfl (by decide) (by decide)) (Nat.le_of_ble_eq_true rfl) dX11_init_205 (fun H locs hY => ?_)
  have hY : gx_Y tb ([.inl (12, [some (some (n + 1)), some (some (n + 3)), some (some (n + 9)), some (some (n + 15)), some (some (n + 17)), some (some (n + 21)), some (some (n + 25)), some (some (n + 30)), some (some (n + 37)), some (some (n + 44)), some (some (n + 151)), none, some (some (n + 152)), some (some (n + 156)), some (some (n + 158)), some (some (n + 160))])] ++ b_Signs (n + 1) ++ b_Town (n + 3) ++ b_Town (n + 9) ++ b_Water (n + 15) ++ b_Rule (n + 17) ++ b_Rule (n + 21) ++ b_Diary (n + 25) ++ b_Scene (n + 30) ++ b_Scene (n + 37) ++ b_Past (n + 44) ++ [.inr (3, 3, [some (n + 178), some (n + 185), none])] ++ b_Corks (n + 152) ++ b_Row (n + 156) ++ b_Current (n + 158) (n + 3) (n + 15) (n + 17) ++ b_Trials (n + 160) (n + 3) (n + 158) ++ b_Scene (n + 178) ++ b_Scene (n + 185)) _ E s (up2 (up2 (up2 (up2 (up2 (up2 (σ) (n + 3) 8 1) (n + 9) 8 1) (n + 17) 3 1) (n + 17) 9 1) (n + 21) 3 1) (n + 21) 9 1) τ H _ := hY
  refine lv_iinc (v := 2) (lv' := [(1, .int 2), (0, .ref (E.2.2 + (n + 0)))]) hx hb dX11_init_206 hl (k := 0) rfl (by decide) (by decide) rfl (fun ls hl => ?_)
  refine lv_goto (tgt := 188) hx hb dX11_init_209 (by decide) ?_
  refine lv_iload_n hx hb dX11_init_188 rfl (lv_at hl 0 rfl) ?_
  refine lv_iconst (v := 3) hx hb dX11_init_189 (by decide) ?_
  refine lv_icmp_ge (tgt := 212) hx hb dX11_init_190 (by decide) (fun h => absurd h (by decide)) (fun _ => ?_)
  refine lv_aload_n hx hb dX11_init_193 rfl (lv_at hl 1 rfl) ?_
  refine y_getr (j := (n + 151)) S hK hY hn 0 rfl cl_12 10 (by decide) rfl mw_457 rfl dX11_init_194 ?_
  refine lv_iload_n hx hb dX11_init_197 rfl (lv_at hl 0 rfl) ?_
  refine y_new S hK hY hn 192 rfl cl_7 tyX6 tyX6_ok [some none, some none, some none, some none, some none, some none, none, none, none, none, none] (fun j hj => by rcases (show j = 0 ∨ j = 1 ∨ j = 2 ∨ j = 3 ∨ j = 4 ∨ j = 5 ∨ j = 6 ∨ j = 7 ∨ j = 8 ∨ j = 9 ∨ j = 10 by omega) with rfl | rfl | rfl | rfl | rfl | rfl | rfl | rfl | rfl | rfl | rfl <;> rfl) (fun c9 k9 h9 => (up2_hi (Nat.lt_succ_self _) (by omega)).trans ((up2_hi (Nat.lt_succ_self _) (by omega)).trans ((up2_hi (Nat.lt_succ_self _) (by omega)).trans ((up2_hi (Nat.lt_succ_self _) (by omega)).trans ((up2_hi (Nat.lt_succ_self _) (by omega)).trans ((up2_hi (Nat.lt_succ_self _) (by omega)).trans (h0 c9 k9 (by omega)))))))) mwc_X11_50 mw_259 mw_95 ⟨Nat.le_of_ble_eq_true rfl, Nat.le_of_ble_eq_true rfl⟩ dX11_init_198 (fun H hY => ?_)
  refine lv_dup hx hb dX11_init_201 rfl ?_
  refine y_cN (K := 192) (As := []) (rest := [.ref (E.2.2 + (n + 192)), .int 2, .ref (E.2.2 + (n + 151))]) S hK hN hA hY hn rfl (k_Scene l (E := E) _ (n + 192) (y_ln hn rfl) (up2 (up2 (up2 (up2 (up2 (up2 (σ) (n + 3) 8 1) (n + 9) 8 1) (n + 17) 3 1) (n + 17) 9 1) (n + 21) 3 1) (n + 21) 9 1) τ  (fun c9 k9 h9 => (up2_hi (Nat.lt_succ_self _) (by omega)).trans ((up2_hi (Nat.lt_succ_self _) (by omega)).trans ((up2_hi (Nat.lt_succ_self _) (by omega)).trans ((up2_hi (Nat.lt_succ_self _) (by omega)).trans ((up2_hi (Nat.lt_succ_self _) (by omega)).trans ((up2_hi (Nat.lt_succ_self _) (by omega)).trans (h0 c9 k9 (by omega)))))))) (fun c9 k9 h9 => t0 c9 k9 (by omega))) cw_X11_52 ⟨Nat.le_of_ble_eq_true rfl, Nat.le_of_ble_eq_true rfl⟩ rfl hl.1 rfl (Nat.le_of_ble_eq_true rfl) ⟨Nat.le_of_ble_eq_true rfl, Nat.le_of_ble_eq_true rfl⟩ dX11_init_202 (fun H locs hY => ?_)
  refine y_aast S hK hA hY hn 151 192 rfl rfl 2 rfl (gx_in rfl (by decide) (by decide)) (Nat.le_of_ble_eq_true rfl) dX11_init_205 (fun H locs hY => ?_)
  have hY : gx_Y tb ([.inl (12, [some (some (n + 1)), some (some (n + 3)), some (some (n + 9)), some (some (n + 15)), some (some (n + 17)), some (some (n + 21)), some (some (n + 25)), some (some (n + 30)), some (some (n + 37)), some (some (n + 44)), some (some (n + 151)), none, some (some (n + 152)), some (some (n + 156)), some (some (n + 158)), some (some (n + 160))])] ++ b_Signs (n + 1) ++ b_Town (n + 3) ++ b_Town (n + 9) ++ b_Water (n + 15) ++ b_Rule (n + 17) ++ b_Rule (n + 21) ++ b_Diary (n + 25) ++ b_Scene (n + 30) ++ b_Scene (n + 37) ++ b_Past (n + 44) ++ [.inr (3, 3, [some (n + 178), some (n + 185), some (n + 192)])] ++ b_Corks (n + 152) ++ b_Row (n + 156) ++ b_Current (n + 158) (n + 3) (n + 15) (n + 17) ++ b_Trials (n + 160) (n + 3) (n + 158) ++ b_Scene (n + 178) ++ b_Scene (n + 185) ++ b_Scene (n + 192)) _ E s (up2 (up2 (up2 (up2 (up2 (up2 (σ) (n + 3) 8 1) (n + 9) 8 1) (n + 17) 3 1) (n + 17) 9 1) (n + 21) 3 1) (n + 21) 9 1) τ H _ := hY
  refine lv_iinc (v := 3) (lv' := [(1, .int 3), (0, .ref (E.2.2 + (n + 0)))]) hx hb dX11_init_206 hl (k := 0) rfl (by decide) (by decide) rfl (fun ls hl => ?_)
  refine lv_goto (tgt := 188) hx hb dX11_init_209 (by decide) ?_
  refine lv_iload_n hx hb dX11_init_188 rfl (lv_at hl 0 rfl) ?_
  refine lv_iconst (v := 3) hx hb dX11_init_189 (by decide) ?_
  refine lv_icmp_ge (tgt := 212) hx hb dX11_init_190 (by decide) (fun _ => ?_) (fun h => absurd (by decide) h)
  have hY : gx_Y tb (b_X n) _ E s (up2 (up2 (up2 (up2 (up2 (up2 (σ) (n + 3) 8 1) (n + 9) 8 1) (n + 17) 3 1) (n + 17) 9 1) (n + 21) 3 1) (n + 21) 9 1) τ H _ := hY
  exact y_r S hr hlk hY dX11_init_212
def b_M (n : Nat) : List gD := [.inl (13, [none, none, some (some (n + 1)), none, none, some (some (n + 2)), some (some (n + 3)), some (some (n + 4)), some (some (n + 5)), some (some (n + 6)), some (some (n + 7)), some (some (n + 8)), some (some (n + 9)), none, none, none, none, some (some (n + 10)), some (some (n + 11)), some (some (n + 12)), some (some (n + 13)), none, some (some (n + 14)), some (some (n + 15)), none, some (some (n + 16)), some (some (n + 17)), some (some (n + 18)), none, none, some (some (n + 19)), none, none, none, none, none, none, some (some (n + 20)), some (some (n + 21)), some (some (n + 22)), some (some (n + 23)), some (some (n + 24)), none, none, some (some (n + 25)), none, none, some (some (n + 26)), none, none, none, none, none, some (some (n + 27)), some (some (n + 28)), some (some (n + 29)), some (some (n + 30)), some (some (n + 31)), some (some (n + 32)), some (some (n + 33))])] ++ [.inr (1, 16, [])] ++ [.inr (0, 12, [])] ++ [.inr (0, 12, [])] ++ [.inr (0, 12, [])] ++ [.inr (0, 12, [])] ++ [.inr (0, 40, [])] ++ [.inr (0, 45, [])] ++ [.inr (0, 45, [])] ++ [.inr (0, 80, [])] ++ [.inr (0, 12, [])] ++ [.inr (0, 12, [])] ++ [.inr (0, 12, [])] ++ [.inr (0, 12, [])] ++ [.inr (0, 80, [])] ++ [.inr (0, 80, [])] ++ [.inr (0, 40, [])] ++ [.inr (0, 80, [])] ++ [.inr (0, 80, [])] ++ [.inr (0, 80, [])] ++ [.inr (0, 720, [])] ++ [.inr (0, 60, [])] ++ [.inr (0, 60, [])] ++ [.inr (0, 60, [])] ++ [.inr (0, 60, [])] ++ [.inr (0, 45, [])] ++ [.inr (0, 4096, [])] ++ [.inr (0, 10, [])] ++ [.inr (0, 10, [])] ++ [.inr (0, 10, [])] ++ [.inr (2, 4096, [])] ++ [.inr (0, 13, [])] ++ [.inr (2, 3, [])] ++ [.inr (0, 135, [])]
set_option maxHeartbeats 4000000 in
set_option maxRecDepth 100000 in
theorem k_M (l : Launch) {E : gE} (tb : List gD) (n : Nat) (hn : tb.length = n) (σ : gI) (τ : gJ) (h0 : ∀ c k : Nat, n ≤ c → σ c k = 0) (t0 : ∀ c k : Nat, n ≤ c → τ c k = 0) : gx_Mc l yX12_init cX12_init 1 1 33 10140 (tb ++ [.inl (13, [none, none, some none, none, none, some none, some none, some none, some none, some none, some none, some none, some none, none, none, none, none, some none, some none, some none, some none, none, some none, some none, none, some none, some none, some none, none, none, some none, none, none, none, none, none, none, some none, some none, some none, some none, some none, none, none, some none, none, none, some none, none, none, none, none, none, some none, some none, some none, some none, some none, some none, some none])]) (tb ++ b_M n) E σ (σ) τ [.ref (E.2.2 + (n + 0))] := by
  refine y_b (by decide +kernel) (Nat.le_of_ble_eq_true rfl) ?_
  intro P9 e9 s m9 below meth C9 S hr hlk hnm hK hN hA hY ls hl
  have S : CallFix P9 m9 C9 cX12_init 1 s _ gx_G RX12 := S
  have hx := S.1
  have hb := S.2.1
  have hl : lv_has ls 1 [(0, .ref (E.2.2 + (n + 0)))] := hl
  refine lv_aload_n hx hb dX12_init_0 rfl (lv_at hl 0 rfl) ?_
  refine gx_obj S mw_1413 mw_121 mw_122 hl.1 dX12_init_1 ⟨Nat.le_of_ble_eq_true rfl, Nat.le_of_ble_eq_true rfl⟩ ?_
  refine lv_aload_n hx hb dX12_init_4 rfl (lv_at hl 0 rfl) ?_
  refine lv_bipush (v := 16) hx hb dX12_init_5 (by decide) ?_
  refine y_newJ S hK hY hn 1 rfl (N := 16) (by decide) (by decide) (by decide) (fun c9 k9 h9 => t0 c9 k9 (by omega)) mw_364 ⟨Nat.le_of_ble_eq_true rfl, Nat.le_of_ble_eq_true rfl⟩ dX12_init_7 (fun H hY => ?_)
  refine y_putF S hK hA hY hn 0 rfl cl_13 2 (Nat.le_of_ble_eq_true rfl) (Nat.le_of_ble_eq_true rfl) mw_1416 rfl ⟨rfl, hnm, rfl⟩ (ty := .array .long) (j := (n + 1)) (by decide +kernel) rfl rfl dX12_init_9 (fun H locs hY => ?_)
  have hY : gx_Y tb ([.inl (13, [none, none, some (some (n + 1)), none, none, some none, some none, some none, some none, some none, some none, some none, some none, none, none, none, none, some none, some none, some none, some none, none, some none, some none, none, some none, some none, some none, none, none, some none, none, none, none, none, none, none, some none, some none, some none, some none, some none, none, none, some none, none, none, some none, none, none, none, none, none, some none, some none, some none, some none, some none, some none, some none])] ++ [.inr (1, 16, [])]) _ E s (σ) τ H _ := hY
  refine lv_aload_n hx hb dX12_init_12 rfl (lv_at hl 0 rfl) ?_
  refine lv_bipush (v := 12) hx hb dX12_init_13 (by decide) ?_
  refine y_newI S hK hY hn 2 rfl (N := 12) (by decide) (by decide) (by decide) (fun c9 k9 h9 => h0 c9 k9 (by omega)) mw_141 ⟨Nat.le_of_ble_eq_true rfl, Nat.le_of_ble_eq_true rfl⟩ dX12_init_15 (fun H hY => ?_)
  refine y_putF S hK hA hY hn 0 rfl cl_13 5 (Nat.le_of_ble_eq_true rfl) (Nat.le_of_ble_eq_true rfl) mw_1419 rfl ⟨rfl, hnm, rfl⟩ (ty := .array .int) (j := (n + 2)) (by decide +kernel) rfl rfl dX12_init_17 (fun H locs hY => ?_)
  have hY : gx_Y tb ([.inl (13, [none, none, some (some (n + 1)), none, none, some (some (n + 2)), some none, some none, some none, some none, some none, some none, some none, none, none, none, none, some none, some none, some none, some none, none, some none, some none, none, some none, some none, some none, none, none, some none, none, none, none, none, none, none, some none, some none, some none, some none, some none, none, none, some none, none, none, some none, none, none, none, none, none, some none, some none, some none, some none, some none, some none, some none])] ++ [.inr (1, 16, [])] ++ [.inr (0, 12, [])]) _ E s (σ) τ H _ := hY
  refine lv_aload_n hx hb dX12_init_20 rfl (lv_at hl 0 rfl) ?_
  refine lv_bipush (v := 12) hx hb dX12_init_21 (by decide) ?_
  refine y_newI S hK hY hn 3 rfl (N := 12) (by decide) (by decide) (by decide) (fun c9 k9 h9 => h0 c9 k9 (by omega)) mw_141 ⟨Nat.le_of_ble_eq_true rfl, Nat.le_of_ble_eq_true rfl⟩ dX12_init_23 (fun H hY => ?_)
  refine y_putF S hK hA hY hn 0 rfl cl_13 6 (Nat.le_of_ble_eq_true rfl) (Nat.le_of_ble_eq_true rfl) mw_1420 rfl ⟨rfl, hnm, rfl⟩ (ty := .array .int) (j := (n + 3)) (by decide +kernel) rfl rfl dX12_init_25 (fun H locs hY => ?_)
  have hY : gx_Y tb ([.inl (13, [none, none, some (some (n + 1)), none, none, some (some (n + 2)), some (some (n + 3)), some none, some none, some none, some none, some none, some none, none, none, none, none, some none, some none, some none, some none, none, some none, some none, none, some none, some none, some none, none, none, some none, none, none, none, none, none, none, some none, some none, some none, some none, some none, none, none, some none, none, none, some none, none, none, none, none, none, some none, some none, some none, some none, some none, some none, some none])] ++ [.inr (1, 16, [])] ++ [.inr (0, 12, [])] ++ [.inr (0, 12, [])]) _ E s (σ) τ H _ := hY
  refine lv_aload_n hx hb dX12_init_28 rfl (lv_at hl 0 rfl) ?_
  refine lv_bipush (v := 12) hx hb dX12_init_29 (by decide) ?_
  refine y_newI S hK hY hn 4 rfl (N := 12) (by decide) (by decide) (by decide) (fun c9 k9 h9 => h0 c9 k9 (by omega)) mw_141 ⟨Nat.le_of_ble_eq_true rfl, Nat.le_of_ble_eq_true rfl⟩ dX12_init_31 (fun H hY => ?_)
  refine y_putF S hK hA hY hn 0 rfl cl_13 7 (Nat.le_of_ble_eq_true rfl) (Nat.le_of_ble_eq_true rfl) mw_1421 rfl ⟨rfl, hnm, rfl⟩ (ty := .array .int) (j := (n + 4)) (by decide +kernel) rfl rfl dX12_init_33 (fun H locs hY => ?_)
  have hY : gx_Y tb ([.inl (13, [none, none, some (some (n + 1)), none, none, some (some (n + 2)), some (some (n + 3)), some (some (n + 4)), some none, some none, some none, some none, some none, none, none, none, none, some none, some none, some none, some none, none, some none, some none, none, some none, some none, some none, none, none, some none, none, none, none, none, none, none, some none, some none, some none, some none, some none, none, none, some none, none, none, some none, none, none, none, none, none, some none, some none, some none, some none, some none, some none, some none])] ++ [.inr (1, 16, [])] ++ [.inr (0, 12, [])] ++ [.inr (0, 12, [])] ++ [.inr (0, 12, [])]) _ E s (σ) τ H _ := hY
  refine lv_aload_n hx hb dX12_init_36 rfl (lv_at hl 0 rfl) ?_
  refine lv_bipush (v := 12) hx hb dX12_init_37 (by decide) ?_
  refine y_newI S hK hY hn 5 rfl (N := 12) (by decide) (by decide) (by decide) (fun c9 k9 h9 => h0 c9 k9 (by omega)) mw_141 ⟨Nat.le_of_ble_eq_true rfl, Nat.le_of_ble_eq_true rfl⟩ dX12_init_39 (fun H hY => ?_)
  refine y_putF S hK hA hY hn 0 rfl cl_13 8 (Nat.le_of_ble_eq_true rfl) (Nat.le_of_ble_eq_true rfl) mw_1422 rfl ⟨rfl, hnm, rfl⟩ (ty := .array .int) (j := (n + 5)) (by decide +kernel) rfl rfl dX12_init_41 (fun H locs hY => ?_)
  have hY : gx_Y tb ([.inl (13, [none, none, some (some (n + 1)), none, none, some (some (n + 2)), some (some (n + 3)), some (some (n + 4)), some (some (n + 5)), some none, some none, some none, some none, none, none, none, none, some none, some none, some none, some none, none, some none, some none, none, some none, some none, some none, none, none, some none, none, none, none, none, none, none, some none, some none, some none, some none, some none, none, none, some none, none, none, some none, none, none, none, none, none, some none, some none, some none, some none, some none, some none, some none])] ++ [.inr (1, 16, [])] ++ [.inr (0, 12, [])] ++ [.inr (0, 12, [])] ++ [.inr (0, 12, [])] ++ [.inr (0, 12, [])]) _ E s (σ) τ H _ := hY
  refine lv_aload_n hx hb dX12_init_44 rfl (lv_at hl 0 rfl) ?_
  refine lv_bipush (v := 40) hx hb dX12_init_45 (by decide) ?_
  refine y_newI S hK hY hn 6 rfl (N := 40) (by decide) (by decide) (by decide) (fun c9 k9 h9 => h0 c9 k9 (by omega)) mw_141 ⟨Nat.le_of_ble_eq_true rfl, Nat.le_of_ble_eq_true rfl⟩ dX12_init_47 (fun H hY => ?_)
  refine y_putF S hK hA hY hn 0 rfl cl_13 9 (Nat.le_of_ble_eq_true rfl) (Nat.le_of_ble_eq_true rfl) mw_1423 rfl ⟨rfl, hnm, rfl⟩ (ty := .array .int) (j := (n + 6)) (by decide +kernel) rfl rfl dX12_init_49 (fun H locs hY => ?_)
  have hY : gx_Y tb ([.inl (13, [none, none, some (some (n + 1)), none, none, some (some (n + 2)), some (some (n + 3)), some (some (n + 4)), some (some (n + 5)), some (some (n + 6)), some none, some none, some none, none, none, none, none, some none, some none, some none, some none, none, some none, some none, none, some none, some none, some none, none, none, some none, none, none, none, none, none, none, some none, some none, some none, some none, some none, none, none, some none, none, none, some none, none, none, none, none, none, some none, some none, some none, some none, some none, some none, some none])] ++ [.inr (1, 16, [])] ++ [.inr (0, 12, [])] ++ [.inr (0, 12, [])] ++ [.inr (0, 12, [])] ++ [.inr (0, 12, [])] ++ [.inr (0, 40, [])]) _ E s (σ) τ H _ := hY
  refine lv_aload_n hx hb dX12_init_52 rfl (lv_at hl 0 rfl) ?_
  refine lv_bipush (v := 45) hx hb dX12_init_53 (by decide) ?_
  refine y_newI S hK hY hn 7 rfl (N := 45) (by decide) (by decide) (by decide) (fun c9 k9 h9 => h0 c9 k9 (by omega)) mw_141 ⟨Nat.le_of_ble_eq_true rfl, Nat.le_of_ble_eq_true rfl⟩ dX12_init_55 (fun H hY => ?_)
  refine y_putF S hK hA hY hn 0 rfl cl_13 10 (Nat.le_of_ble_eq_true rfl) (Nat.le_of_ble_eq_true rfl) mw_1424 rfl ⟨rfl, hnm, rfl⟩ (ty := .array .int) (j := (n + 7)) (by decide +kernel) rfl rfl dX12_init_57 (fun H locs hY => ?_)
  have hY : gx_Y tb ([.inl (13, [none, none, some (some (n + 1)), none, none, some (some (n + 2)), some (some (n + 3)), some (some (n + 4)), some (some (n + 5)), some (some (n + 6)), some (some (n + 7)), some none, some none, none, none, none, none, some none, some none, some none, some none, none, some none, some none, none, some none, some none, some none, none, none, some none, none, none, none, none, none, none, some none, some none, some none, some none, some none, none, none, some none, none, none, some none, none, none, none, none, none, some none, some none, some none, some none, some none, some none, some none])] ++ [.inr (1, 16, [])] ++ [.inr (0, 12, [])] ++ [.inr (0, 12, [])] ++ [.inr (0, 12, [])] ++ [.inr (0, 12, [])] ++ [.inr (0, 40, [])] ++ [.inr (0, 45, [])]) _ E s (σ) τ H _ := hY
  refine lv_aload_n hx hb dX12_init_60 rfl (lv_at hl 0 rfl) ?_
  refine lv_bipush (v := 45) hx hb dX12_init_61 (by decide) ?_
  refine y_newI S hK hY hn 8 rfl (N := 45) (by decide) (by decide) (by decide) (fun c9 k9 h9 => h0 c9 k9 (by omega)) mw_141 ⟨Nat.le_of_ble_eq_true rfl, Nat.le_of_ble_eq_true rfl⟩ dX12_init_63 (fun H hY => ?_)
  refine y_putF S hK hA hY hn 0 rfl cl_13 11 (Nat.le_of_ble_eq_true rfl) (Nat.le_of_ble_eq_true rfl) mw_1425 rfl ⟨rfl, hnm, rfl⟩ (ty := .array .int) (j := (n + 8)) (by decide +kernel) rfl rfl dX12_init_65 (fun H locs hY => ?_)
  have hY : gx_Y tb ([.inl (13, [none, none, some (some (n + 1)), none, none, some (some (n + 2)), some (some (n + 3)), some (some (n + 4)), some (some (n + 5)), some (some (n + 6)), some (some (n + 7)), some (some (n + 8)), some none, none, none, none, none, some none, some none, some none, some none, none, some none, some none, none, some none, some none, some none, none, none, some none, none, none, none, none, none, none, some none, some none, some none, some none, some none, none, none, some none, none, none, some none, none, none, none, none, none, some none, some none, some none, some none, some none, some none, some none])] ++ [.inr (1, 16, [])] ++ [.inr (0, 12, [])] ++ [.inr (0, 12, [])] ++ [.inr (0, 12, [])] ++ [.inr (0, 12, [])] ++ [.inr (0, 40, [])] ++ [.inr (0, 45, [])] ++ [.inr (0, 45, [])]) _ E s (σ) τ H _ := hY
  refine lv_aload_n hx hb dX12_init_68 rfl (lv_at hl 0 rfl) ?_
  refine lv_bipush (v := 80) hx hb dX12_init_69 (by decide) ?_
  refine y_newI S hK hY hn 9 rfl (N := 80) (by decide) (by decide) (by decide) (fun c9 k9 h9 => h0 c9 k9 (by omega)) mw_141 ⟨Nat.le_of_ble_eq_true rfl, Nat.le_of_ble_eq_true rfl⟩ dX12_init_71 (fun H hY => ?_)
  refine y_putF S hK hA hY hn 0 rfl cl_13 12 (Nat.le_of_ble_eq_true rfl) (Nat.le_of_ble_eq_true rfl) mw_1426 rfl ⟨rfl, hnm, rfl⟩ (ty := .array .int) (j := (n + 9)) (by decide +kernel) rfl rfl dX12_init_73 (fun H locs hY => ?_)
  have hY : gx_Y tb ([.inl (13, [none, none, some (some (n + 1)), none, none, some (some (n + 2)), some (some (n + 3)), some (some (n + 4)), some (some (n + 5)), some (some (n + 6)), some (some (n + 7)), some (some (n + 8)), some (some (n + 9)), none, none, none, none, some none, some none, some none, some none, none, some none, some none, none, some none, some none, some none, none, none, some none, none, none, none, none, none, none, some none, some none, some none, some none, some none, none, none, some none, none, none, some none, none, none, none, none, none, some none, some none, some none, some none, some none, some none, some none])] ++ [.inr (1, 16, [])] ++ [.inr (0, 12, [])] ++ [.inr (0, 12, [])] ++ [.inr (0, 12, [])] ++ [.inr (0, 12, [])] ++ [.inr (0, 40, [])] ++ [.inr (0, 45, [])] ++ [.inr (0, 45, [])] ++ [.inr (0, 80, [])]) _ E s (σ) τ H _ := hY
  refine lv_aload_n hx hb dX12_init_76 rfl (lv_at hl 0 rfl) ?_
  refine lv_bipush (v := 12) hx hb dX12_init_77 (by decide) ?_
  refine y_newI S hK hY hn 10 rfl (N := 12) (by decide) (by decide) (by decide) (fun c9 k9 h9 => h0 c9 k9 (by omega)) mw_141 ⟨Nat.le_of_ble_eq_true rfl, Nat.le_of_ble_eq_true rfl⟩ dX12_init_79 (fun H hY => ?_)
  refine y_putF S hK hA hY hn 0 rfl cl_13 17 (Nat.le_of_ble_eq_true rfl) (Nat.le_of_ble_eq_true rfl) mw_1431 rfl ⟨rfl, hnm, rfl⟩ (ty := .array .int) (j := (n + 10)) (by decide +kernel) rfl rfl dX12_init_81 (fun H locs hY => ?_)
  have hY : gx_Y tb ([.inl (13, [none, none, some (some (n + 1)), none, none, some (some (n + 2)), some (some (n + 3)), some (some (n + 4)), some (some (n + 5)), some (some (n + 6)), some (some (n + 7)), some (some (n + 8)), some (some (n + 9)), none, none, none, none, some (some (n + 10)), some none, some none, some none, none, some none, some none, none, some none, some none, some none, none, none, some none, none, none, none, none, none, none, some none, some none, some none, some none, some none, none, none, some none, none, none, some none, none, none, none, none, none, some none, some none, some none, some none, some none, some none, some none])] ++ [.inr (1, 16, [])] ++ [.inr (0, 12, [])] ++ [.inr (0, 12, [])] ++ [.inr (0, 12, [])] ++ [.inr (0, 12, [])] ++ [.inr (0, 40, [])] ++ [.inr (0, 45, [])] ++ [.inr (0, 45, [])] ++ [.inr (0, 80, [])] ++ [.inr (0, 12, [])]) _ E s (σ) τ H _ := hY
  refine lv_aload_n hx hb dX12_init_84 rfl (lv_at hl 0 rfl) ?_
  refine lv_bipush (v := 12) hx hb dX12_init_85 (by decide) ?_
  refine y_newI S hK hY hn 11 rfl (N := 12) (by decide) (by decide) (by decide) (fun c9 k9 h9 => h0 c9 k9 (by omega)) mw_141 ⟨Nat.le_of_ble_eq_true rfl, Nat.le_of_ble_eq_true rfl⟩ dX12_init_87 (fun H hY => ?_)
  refine y_putF S hK hA hY hn 0 rfl cl_13 18 (Nat.le_of_ble_eq_true rfl) (Nat.le_of_ble_eq_true rfl) mw_1432 rfl ⟨rfl, hnm, rfl⟩ (ty := .array .int) (j := (n + 11)) (by decide +kernel) rfl rfl dX12_init_89 (fun H locs hY => ?_)
  have hY : gx_Y tb ([.inl (13, [none, none, some (some (n + 1)), none, none, some (some (n + 2)), some (some (n + 3)), some (some (n + 4)), some (some (n + 5)), some (some (n + 6)), some (some (n + 7)), some (some (n + 8)), some (some (n + 9)), none, none, none, none, some (some (n + 10)), some (some (n + 11)), some none, some none, none, some none, some none, none, some none, some none, some none, none, none, some none, none, none, none, none, none, none, some none, some none, some none, some none, some none, none, none, some none, none, none, some none, none, none, none, none, none, some none, some none, some none, some none, some none, some none, some none])] ++ [.inr (1, 16, [])] ++ [.inr (0, 12, [])] ++ [.inr (0, 12, [])] ++ [.inr (0, 12, [])] ++ [.inr (0, 12, [])] ++ [.inr (0, 40, [])] ++ [.inr (0, 45, [])] ++ [.inr (0, 45, [])] ++ [.inr (0, 80, [])] ++ [.inr (0, 12, [])] ++ [.inr (0, 12, [])]) _ E s (σ) τ H _ := hY
  refine lv_aload_n hx hb dX12_init_92 rfl (lv_at hl 0 rfl) ?_
  refine lv_bipush (v := 12) hx hb dX12_init_93 (by decide) ?_
  refine y_newI S hK hY hn 12 rfl (N := 12) (by decide) (by decide) (by decide) (fun c9 k9 h9 => h0 c9 k9 (by omega)) mw_141 ⟨Nat.le_of_ble_eq_true rfl, Nat.le_of_ble_eq_true rfl⟩ dX12_init_95 (fun H hY => ?_)
  refine y_putF S hK hA hY hn 0 rfl cl_13 19 (Nat.le_of_ble_eq_true rfl) (Nat.le_of_ble_eq_true rfl) mw_1433 rfl ⟨rfl, hnm, rfl⟩ (ty := .array .int) (j := (n + 12)) (by decide +kernel) rfl rfl dX12_init_97 (fun H locs hY => ?_)
  have hY : gx_Y tb ([.inl (13, [none, none, some (some (n + 1)), none, none, some (some (n + 2)), some (some (n + 3)), some (some (n + 4)), some (some (n + 5)), some (some (n + 6)), some (some (n + 7)), some (some (n + 8)), some (some (n + 9)), none, none, none, none, some (some (n + 10)), some (some (n + 11)), some (some (n + 12)), some none, none, some none, some none, none, some none, some none, some none, none, none, some none, none, none, none, none, none, none, some none, some none, some none, some none, some none, none, none, some none, none, none, some none, none, none, none, none, none, some none, some none, some none, some none, some none, some none, some none])] ++ [.inr (1, 16, [])] ++ [.inr (0, 12, [])] ++ [.inr (0, 12, [])] ++ [.inr (0, 12, [])] ++ [.inr (0, 12, [])] ++ [.inr (0, 40, [])] ++ [.inr (0, 45, [])] ++ [.inr (0, 45, [])] ++ [.inr (0, 80, [])] ++ [.inr (0, 12, [])] ++ [.inr (0, 12, [])] ++ [.inr (0, 12, [])]) _ E s (σ) τ H _ := hY
  refine lv_aload_n hx hb dX12_init_100 rfl (lv_at hl 0 rfl) ?_
  refine lv_bipush (v := 12) hx hb dX12_init_101 (by decide) ?_
  refine y_newI S hK hY hn 13 rfl (N := 12) (by decide) (by decide) (by decide) (fun c9 k9 h9 => h0 c9 k9 (by omega)) mw_141 ⟨Nat.le_of_ble_eq_true rfl, Nat.le_of_ble_eq_true rfl⟩ dX12_init_103 (fun H hY => ?_)
  refine y_putF S hK hA hY hn 0 rfl cl_13 20 (Nat.le_of_ble_eq_true rfl) (Nat.le_of_ble_eq_true rfl) mw_1434 rfl ⟨rfl, hnm, rfl⟩ (ty := .array .int) (j := (n + 13)) (by decide +kernel) rfl rfl dX12_init_105 (fun H locs hY => ?_)
  have hY : gx_Y tb ([.inl (13, [none, none, some (some (n + 1)), none, none, some (some (n + 2)), some (some (n + 3)), some (some (n + 4)), some (some (n + 5)), some (some (n + 6)), some (some (n + 7)), some (some (n + 8)), some (some (n + 9)), none, none, none, none, some (some (n + 10)), some (some (n + 11)), some (some (n + 12)), some (some (n + 13)), none, some none, some none, none, some none, some none, some none, none, none, some none, none, none, none, none, none, none, some none, some none, some none, some none, some none, none, none, some none, none, none, some none, none, none, none, none, none, some none, some none, some none, some none, some none, some none, some none])] ++ [.inr (1, 16, [])] ++ [.inr (0, 12, [])] ++ [.inr (0, 12, [])] ++ [.inr (0, 12, [])] ++ [.inr (0, 12, [])] ++ [.inr (0, 40, [])] ++ [.inr (0, 45, [])] ++ [.inr (0, 45, [])] ++ [.inr (0, 80, [])] ++ [.inr (0, 12, [])] ++ [.inr (0, 12, [])] ++ [.inr (0, 12, [])] ++ [.inr (0, 12, [])]) _ E s (σ) τ H _ := hY
  refine lv_aload_n hx hb dX12_init_108 rfl (lv_at hl 0 rfl) ?_
  refine lv_bipush (v := 80) hx hb dX12_init_109 (by decide) ?_
  refine y_newI S hK hY hn 14 rfl (N := 80) (by decide) (by decide) (by decide) (fun c9 k9 h9 => h0 c9 k9 (by omega)) mw_141 ⟨Nat.le_of_ble_eq_true rfl, Nat.le_of_ble_eq_true rfl⟩ dX12_init_111 (fun H hY => ?_)
  refine y_putF S hK hA hY hn 0 rfl cl_13 22 (Nat.le_of_ble_eq_true rfl) (Nat.le_of_ble_eq_true rfl) mw_1436 rfl ⟨rfl, hnm, rfl⟩ (ty := .array .int) (j := (n + 14)) (by decide +kernel) rfl rfl dX12_init_113 (fun H locs hY => ?_)
  have hY : gx_Y tb ([.inl (13, [none, none, some (some (n + 1)), none, none, some (some (n + 2)), some (some (n + 3)), some (some (n + 4)), some (some (n + 5)), some (some (n + 6)), some (some (n + 7)), some (some (n + 8)), some (some (n + 9)), none, none, none, none, some (some (n + 10)), some (some (n + 11)), some (some (n + 12)), some (some (n + 13)), none, some (some (n + 14)), some none, none, some none, some none, some none, none, none, some none, none, none, none, none, none, none, some none, some none, some none, some none, some none, none, none, some none, none, none, some none, none, none, none, none, none, some none, some none, some none, some none, some none, some none, some none])] ++ [.inr (1, 16, [])] ++ [.inr (0, 12, [])] ++ [.inr (0, 12, [])] ++ [.inr (0, 12, [])] ++ [.inr (0, 12, [])] ++ [.inr (0, 40, [])] ++ [.inr (0, 45, [])] ++ [.inr (0, 45, [])] ++ [.inr (0, 80, [])] ++ [.inr (0, 12, [])] ++ [.inr (0, 12, [])] ++ [.inr (0, 12, [])] ++ [.inr (0, 12, [])] ++ [.inr (0, 80, [])]) _ E s (σ) τ H _ := hY
  refine lv_aload_n hx hb dX12_init_116 rfl (lv_at hl 0 rfl) ?_
  refine lv_bipush (v := 80) hx hb dX12_init_117 (by decide) ?_
  refine y_newI S hK hY hn 15 rfl (N := 80) (by decide) (by decide) (by decide) (fun c9 k9 h9 => h0 c9 k9 (by omega)) mw_141 ⟨Nat.le_of_ble_eq_true rfl, Nat.le_of_ble_eq_true rfl⟩ dX12_init_119 (fun H hY => ?_)
  refine y_putF S hK hA hY hn 0 rfl cl_13 23 (Nat.le_of_ble_eq_true rfl) (Nat.le_of_ble_eq_true rfl) mw_1437 rfl ⟨rfl, hnm, rfl⟩ (ty := .array .int) (j := (n + 15)) (by decide +kernel) rfl rfl dX12_init_121 (fun H locs hY => ?_)
  have hY : gx_Y tb ([.inl (13, [none, none, some (some (n + 1)), none, none, some (some (n + 2)), some (some (n + 3)), some (some (n + 4)), some (some (n + 5)), some (some (n + 6)), some (some (n + 7)), some (some (n + 8)), some (some (n + 9)), none, none, none, none, some (some (n + 10)), some (some (n + 11)), some (some (n + 12)), some (some (n + 13)), none, some (some (n + 14)), some (some (n + 15)), none, some none, some none, some none, none, none, some none, none, none, none, none, none, none, some none, some none, some none, some none, some none, none, none, some none, none, none, some none, none, none, none, none, none, some none, some none, some none, some none, some none, some none, some none])] ++ [.inr (1, 16, [])] ++ [.inr (0, 12, [])] ++ [.inr (0, 12, [])] ++ [.inr (0, 12, [])] ++ [.inr (0, 12, [])] ++ [.inr (0, 40, [])] ++ [.inr (0, 45, [])] ++ [.inr (0, 45, [])] ++ [.inr (0, 80, [])] ++ [.inr (0, 12, [])] ++ [.inr (0, 12, [])] ++ [.inr (0, 12, [])] ++ [.inr (0, 12, [])] ++ [.inr (0, 80, [])] ++ [.inr (0, 80, [])]) _ E s (σ) τ H _ := hY
  refine lv_aload_n hx hb dX12_init_124 rfl (lv_at hl 0 rfl) ?_
  refine lv_bipush (v := 40) hx hb dX12_init_125 (by decide) ?_
  refine y_newI S hK hY hn 16 rfl (N := 40) (by decide) (by decide) (by decide) (fun c9 k9 h9 => h0 c9 k9 (by omega)) mw_141 ⟨Nat.le_of_ble_eq_true rfl, Nat.le_of_ble_eq_true rfl⟩ dX12_init_127 (fun H hY => ?_)
  refine y_putF S hK hA hY hn 0 rfl cl_13 25 (Nat.le_of_ble_eq_true rfl) (Nat.le_of_ble_eq_true rfl) mw_1439 rfl ⟨rfl, hnm, rfl⟩ (ty := .array .int) (j := (n + 16)) (by decide +kernel) rfl rfl dX12_init_129 (fun H locs hY => ?_)
  have hY : gx_Y tb ([.inl (13, [none, none, some (some (n + 1)), none, none, some (some (n + 2)), some (some (n + 3)), some (some (n + 4)), some (some (n + 5)), some (some (n + 6)), some (some (n + 7)), some (some (n + 8)), some (some (n + 9)), none, none, none, none, some (some (n + 10)), some (some (n + 11)), some (some (n + 12)), some (some (n + 13)), none, some (some (n + 14)), some (some (n + 15)), none, some (some (n + 16)), some none, some none, none, none, some none, none, none, none, none, none, none, some none, some none, some none, some none, some none, none, none, some none, none, none, some none, none, none, none, none, none, some none, some none, some none, some none, some none, some none, some none])] ++ [.inr (1, 16, [])] ++ [.inr (0, 12, [])] ++ [.inr (0, 12, [])] ++ [.inr (0, 12, [])] ++ [.inr (0, 12, [])] ++ [.inr (0, 40, [])] ++ [.inr (0, 45, [])] ++ [.inr (0, 45, [])] ++ [.inr (0, 80, [])] ++ [.inr (0, 12, [])] ++ [.inr (0, 12, [])] ++ [.inr (0, 12, [])] ++ [.inr (0, 12, [])] ++ [.inr (0, 80, [])] ++ [.inr (0, 80, [])] ++ [.inr (0, 40, [])]) _ E s (σ) τ H _ := hY
  refine lv_aload_n hx hb dX12_init_132 rfl (lv_at hl 0 rfl) ?_
  refine lv_bipush (v := 80) hx hb dX12_init_133 (by decide) ?_
  refine y_newI S hK hY hn 17 rfl (N := 80) (by decide) (by decide) (by decide) (fun c9 k9 h9 => h0 c9 k9 (by omega)) mw_141 ⟨Nat.le_of_ble_eq_true rfl, Nat.le_of_ble_eq_true rfl⟩ dX12_init_135 (fun H hY => ?_)
  refine y_putF S hK hA hY hn 0 rfl cl_13 26 (Nat.le_of_ble_eq_true rfl) (Nat.le_of_ble_eq_true rfl) mw_1440 rfl ⟨rfl, hnm, rfl⟩ (ty := .array .int) (j := (n + 17)) (by decide +kernel) rfl rfl dX12_init_137 (fun H locs hY => ?_)
  have hY : gx_Y tb ([.inl (13, [none, none, some (some (n + 1)), none, none, some (some (n + 2)), some (some (n + 3)), some (some (n + 4)), some (some (n + 5)), some (some (n + 6)), some (some (n + 7)), some (some (n + 8)), some (some (n + 9)), none, none, none, none, some (some (n + 10)), some (some (n + 11)), some (some (n + 12)), some (some (n + 13)), none, some (some (n + 14)), some (some (n + 15)), none, some (some (n + 16)), some (some (n + 17)), some none, none, none, some none, none, none, none, none, none, none, some none, some none, some none, some none, some none, none, none, some none, none, none, some none, none, none, none, none, none, some none, some none, some none, some none, some none, some none, some none])] ++ [.inr (1, 16, [])] ++ [.inr (0, 12, [])] ++ [.inr (0, 12, [])] ++ [.inr (0, 12, [])] ++ [.inr (0, 12, [])] ++ [.inr (0, 40, [])] ++ [.inr (0, 45, [])] ++ [.inr (0, 45, [])] ++ [.inr (0, 80, [])] ++ [.inr (0, 12, [])] ++ [.inr (0, 12, [])] ++ [.inr (0, 12, [])] ++ [.inr (0, 12, [])] ++ [.inr (0, 80, [])] ++ [.inr (0, 80, [])] ++ [.inr (0, 40, [])] ++ [.inr (0, 80, [])]) _ E s (σ) τ H _ := hY
  refine lv_aload_n hx hb dX12_init_140 rfl (lv_at hl 0 rfl) ?_
  refine lv_bipush (v := 80) hx hb dX12_init_141 (by decide) ?_
  refine y_newI S hK hY hn 18 rfl (N := 80) (by decide) (by decide) (by decide) (fun c9 k9 h9 => h0 c9 k9 (by omega)) mw_141 ⟨Nat.le_of_ble_eq_true rfl, Nat.le_of_ble_eq_true rfl⟩ dX12_init_143 (fun H hY => ?_)
  refine y_putF S hK hA hY hn 0 rfl cl_13 27 (Nat.le_of_ble_eq_true rfl) (Nat.le_of_ble_eq_true rfl) mw_1441 rfl ⟨rfl, hnm, rfl⟩ (ty := .array .int) (j := (n + 18)) (by decide +kernel) rfl rfl dX12_init_145 (fun H locs hY => ?_)
  have hY : gx_Y tb ([.inl (13, [none, none, some (some (n + 1)), none, none, some (some (n + 2)), some (some (n + 3)), some (some (n + 4)), some (some (n + 5)), some (some (n + 6)), some (some (n + 7)), some (some (n + 8)), some (some (n + 9)), none, none, none, none, some (some (n + 10)), some (some (n + 11)), some (some (n + 12)), some (some (n + 13)), none, some (some (n + 14)), some (some (n + 15)), none, some (some (n + 16)), some (some (n + 17)), some (some (n + 18)), none, none, some none, none, none, none, none, none, none, some none, some none, some none, some none, some none, none, none, some none, none, none, some none, none, none, none, none, none, some none, some none, some none, some none, some none, some none, some none])] ++ [.inr (1, 16, [])] ++ [.inr (0, 12, [])] ++ [.inr (0, 12, [])] ++ [.inr (0, 12, [])] ++ [.inr (0, 12, [])] ++ [.inr (0, 40, [])] ++ [.inr (0, 45, [])] ++ [.inr (0, 45, [])] ++ [.inr (0, 80, [])] ++ [.inr (0, 12, [])] ++ [.inr (0, 12, [])] ++ [.inr (0, 12, [])] ++ [.inr (0, 12, [])] ++ [.inr (0, 80, [])] ++ [.inr (0, 80, [])] ++ [.inr (0, 40, [])] ++ [.inr (0, 80, [])] ++ [.inr (0, 80, [])]) _ E s (σ) τ H _ := hY
  refine lv_aload_n hx hb dX12_init_148 rfl (lv_at hl 0 rfl) ?_
  refine lv_bipush (v := 80) hx hb dX12_init_149 (by decide) ?_
  refine y_newI S hK hY hn 19 rfl (N := 80) (by decide) (by decide) (by decide) (fun c9 k9 h9 => h0 c9 k9 (by omega)) mw_141 ⟨Nat.le_of_ble_eq_true rfl, Nat.le_of_ble_eq_true rfl⟩ dX12_init_151 (fun H hY => ?_)
  refine y_putF S hK hA hY hn 0 rfl cl_13 30 (Nat.le_of_ble_eq_true rfl) (Nat.le_of_ble_eq_true rfl) mw_1444 rfl ⟨rfl, hnm, rfl⟩ (ty := .array .int) (j := (n + 19)) (by decide +kernel) rfl rfl dX12_init_153 (fun H locs hY => ?_)
  have hY : gx_Y tb ([.inl (13, [none, none, some (some (n + 1)), none, none, some (some (n + 2)), some (some (n + 3)), some (some (n + 4)), some (some (n + 5)), some (some (n + 6)), some (some (n + 7)), some (some (n + 8)), some (some (n + 9)), none, none, none, none, some (some (n + 10)), some (some (n + 11)), some (some (n + 12)), some (some (n + 13)), none, some (some (n + 14)), some (some (n + 15)), none, some (some (n + 16)), some (some (n + 17)), some (some (n + 18)), none, none, some (some (n + 19)), none, none, none, none, none, none, some none, some none, some none, some none, some none, none, none, some none, none, none, some none, none, none, none, none, none, some none, some none, some none, some none, some none, some none, some none])] ++ [.inr (1, 16, [])] ++ [.inr (0, 12, [])] ++ [.inr (0, 12, [])] ++ [.inr (0, 12, [])] ++ [.inr (0, 12, [])] ++ [.inr (0, 40, [])] ++ [.inr (0, 45, [])] ++ [.inr (0, 45, [])] ++ [.inr (0, 80, [])] ++ [.inr (0, 12, [])] ++ [.inr (0, 12, [])] ++ [.inr (0, 12, [])] ++ [.inr (0, 12, [])] ++ [.inr (0, 80, [])] ++ [.inr (0, 80, [])] ++ [.inr (0, 40, [])] ++ [.inr (0, 80, [])] ++ [.inr (0, 80, [])] ++ [.inr (0, 80, [])]) _ E s (σ) τ H _ := hY
  refine lv_aload_n hx hb dX12_init_156 rfl (lv_at hl 0 rfl) ?_
  refine lv_sipush (v := 720) hx hb dX12_init_157 (by decide) ?_
  refine y_newI S hK hY hn 20 rfl (N := 720) (by decide) (by decide) (by decide) (fun c9 k9 h9 => h0 c9 k9 (by omega)) mw_141 ⟨Nat.le_of_ble_eq_true rfl, Nat.le_of_ble_eq_true rfl⟩ dX12_init_160 (fun H hY => ?_)
  refine y_putF S hK hA hY hn 0 rfl cl_13 37 (Nat.le_of_ble_eq_true rfl) (Nat.le_of_ble_eq_true rfl) mw_1451 rfl ⟨rfl, hnm, rfl⟩ (ty := .array .int) (j := (n + 20)) (by decide +kernel) rfl rfl dX12_init_162 (fun H locs hY => ?_)
  have hY : gx_Y tb ([.inl (13, [none, none, some (some (n + 1)), none, none, some (some (n + 2)), some (some (n + 3)), some (some (n + 4)), some (some (n + 5)), some (some (n + 6)), some (some (n + 7)), some (some (n + 8)), some (some (n + 9)), none, none, none, none, some (some (n + 10)), some (some (n + 11)), some (some (n + 12)), some (some (n + 13)), none, some (some (n + 14)), some (some (n + 15)), none, some (some (n + 16)), some (some (n + 17)), some (some (n + 18)), none, none, some (some (n + 19)), none, none, none, none, none, none, some (some (n + 20)), some none, some none, some none, some none, none, none, some none, none, none, some none, none, none, none, none, none, some none, some none, some none, some none, some none, some none, some none])] ++ [.inr (1, 16, [])] ++ [.inr (0, 12, [])] ++ [.inr (0, 12, [])] ++ [.inr (0, 12, [])] ++ [.inr (0, 12, [])] ++ [.inr (0, 40, [])] ++ [.inr (0, 45, [])] ++ [.inr (0, 45, [])] ++ [.inr (0, 80, [])] ++ [.inr (0, 12, [])] ++ [.inr (0, 12, [])] ++ [.inr (0, 12, [])] ++ [.inr (0, 12, [])] ++ [.inr (0, 80, [])] ++ [.inr (0, 80, [])] ++ [.inr (0, 40, [])] ++ [.inr (0, 80, [])] ++ [.inr (0, 80, [])] ++ [.inr (0, 80, [])] ++ [.inr (0, 720, [])]) _ E s (σ) τ H _ := hY
  refine lv_aload_n hx hb dX12_init_165 rfl (lv_at hl 0 rfl) ?_
  refine lv_bipush (v := 60) hx hb dX12_init_166 (by decide) ?_
  refine y_newI S hK hY hn 21 rfl (N := 60) (by decide) (by decide) (by decide) (fun c9 k9 h9 => h0 c9 k9 (by omega)) mw_141 ⟨Nat.le_of_ble_eq_true rfl, Nat.le_of_ble_eq_true rfl⟩ dX12_init_168 (fun H hY => ?_)
  refine y_putF S hK hA hY hn 0 rfl cl_13 38 (Nat.le_of_ble_eq_true rfl) (Nat.le_of_ble_eq_true rfl) mw_1452 rfl ⟨rfl, hnm, rfl⟩ (ty := .array .int) (j := (n + 21)) (by decide +kernel) rfl rfl dX12_init_170 (fun H locs hY => ?_)
  have hY : gx_Y tb ([.inl (13, [none, none, some (some (n + 1)), none, none, some (some (n + 2)), some (some (n + 3)), some (some (n + 4)), some (some (n + 5)), some (some (n + 6)), some (some (n + 7)), some (some (n + 8)), some (some (n + 9)), none, none, none, none, some (some (n + 10)), some (some (n + 11)), some (some (n + 12)), some (some (n + 13)), none, some (some (n + 14)), some (some (n + 15)), none, some (some (n + 16)), some (some (n + 17)), some (some (n + 18)), none, none, some (some (n + 19)), none, none, none, none, none, none, some (some (n + 20)), some (some (n + 21)), some none, some none, some none, none, none, some none, none, none, some none, none, none, none, none, none, some none, some none, some none, some none, some none, some none, some none])] ++ [.inr (1, 16, [])] ++ [.inr (0, 12, [])] ++ [.inr (0, 12, [])] ++ [.inr (0, 12, [])] ++ [.inr (0, 12, [])] ++ [.inr (0, 40, [])] ++ [.inr (0, 45, [])] ++ [.inr (0, 45, [])] ++ [.inr (0, 80, [])] ++ [.inr (0, 12, [])] ++ [.inr (0, 12, [])] ++ [.inr (0, 12, [])] ++ [.inr (0, 12, [])] ++ [.inr (0, 80, [])] ++ [.inr (0, 80, [])] ++ [.inr (0, 40, [])] ++ [.inr (0, 80, [])] ++ [.inr (0, 80, [])] ++ [.inr (0, 80, [])] ++ [.inr (0, 720, [])] ++ [.inr (0, 60, [])]) _ E s (σ) τ H _ := hY
  refine lv_aload_n hx hb dX12_init_173 rfl (lv_at hl 0 rfl) ?_
  refine lv_bipush (v := 60) hx hb dX12_init_174 (by decide) ?_
  refine y_newI S hK hY hn 22 rfl (N := 60) (by decide) (by decide) (by decide) (fun c9 k9 h9 => h0 c9 k9 (by omega)) mw_141 ⟨Nat.le_of_ble_eq_true rfl, Nat.le_of_ble_eq_true rfl⟩ dX12_init_176 (fun H hY => ?_)
  refine y_putF S hK hA hY hn 0 rfl cl_13 39 (Nat.le_of_ble_eq_true rfl) (Nat.le_of_ble_eq_true rfl) mw_1453 rfl ⟨rfl, hnm, rfl⟩ (ty := .array .int) (j := (n + 22)) (by decide +kernel) rfl rfl dX12_init_178 (fun H locs hY => ?_)
  have hY : gx_Y tb ([.inl (13, [none, none, some (some (n + 1)), none, none, some (some (n + 2)), some (some (n + 3)), some (some (n + 4)), some (some (n + 5)), some (some (n + 6)), some (some (n + 7)), some (some (n + 8)), some (some (n + 9)), none, none, none, none, some (some (n + 10)), some (some (n + 11)), some (some (n + 12)), some (some (n + 13)), none, some (some (n + 14)), some (some (n + 15)), none, some (some (n + 16)), some (some (n + 17)), some (some (n + 18)), none, none, some (some (n + 19)), none, none, none, none, none, none, some (some (n + 20)), some (some (n + 21)), some (some (n + 22)), some none, some none, none, none, some none, none, none, some none, none, none, none, none, none, some none, some none, some none, some none, some none, some none, some none])] ++ [.inr (1, 16, [])] ++ [.inr (0, 12, [])] ++ [.inr (0, 12, [])] ++ [.inr (0, 12, [])] ++ [.inr (0, 12, [])] ++ [.inr (0, 40, [])] ++ [.inr (0, 45, [])] ++ [.inr (0, 45, [])] ++ [.inr (0, 80, [])] ++ [.inr (0, 12, [])] ++ [.inr (0, 12, [])] ++ [.inr (0, 12, [])] ++ [.inr (0, 12, [])] ++ [.inr (0, 80, [])] ++ [.inr (0, 80, [])] ++ [.inr (0, 40, [])] ++ [.inr (0, 80, [])] ++ [.inr (0, 80, [])] ++ [.inr (0, 80, [])] ++ [.inr (0, 720, [])] ++ [.inr (0, 60, [])] ++ [.inr (0, 60, [])]) _ E s (σ) τ H _ := hY
  refine lv_aload_n hx hb dX12_init_181 rfl (lv_at hl 0 rfl) ?_
  refine lv_bipush (v := 60) hx hb dX12_init_182 (by decide) ?_
  refine y_newI S hK hY hn 23 rfl (N := 60) (by decide) (by decide) (by decide) (fun c9 k9 h9 => h0 c9 k9 (by omega)) mw_141 ⟨Nat.le_of_ble_eq_true rfl, Nat.le_of_ble_eq_true rfl⟩ dX12_init_184 (fun H hY => ?_)
  refine y_putF S hK hA hY hn 0 rfl cl_13 40 (Nat.le_of_ble_eq_true rfl) (Nat.le_of_ble_eq_true rfl) mw_1454 rfl ⟨rfl, hnm, rfl⟩ (ty := .array .int) (j := (n + 23)) (by decide +kernel) rfl rfl dX12_init_186 (fun H locs hY => ?_)
  have hY : gx_Y tb ([.inl (13, [none, none, some (some (n + 1)), none, none, some (some (n + 2)), some (some (n + 3)), some (some (n + 4)), some (some (n + 5)), some (some (n + 6)), some (some (n + 7)), some (some (n + 8)), some (some (n + 9)), none, none, none, none, some (some (n + 10)), some (some (n + 11)), some (some (n + 12)), some (some (n + 13)), none, some (some (n + 14)), some (some (n + 15)), none, some (some (n + 16)), some (some (n + 17)), some (some (n + 18)), none, none, some (some (n + 19)), none, none, none, none, none, none, some (some (n + 20)), some (some (n + 21)), some (some (n + 22)), some (some (n + 23)), some none, none, none, some none, none, none, some none, none, none, none, none, none, some none, some none, some none, some none, some none, some none, some none])] ++ [.inr (1, 16, [])] ++ [.inr (0, 12, [])] ++ [.inr (0, 12, [])] ++ [.inr (0, 12, [])] ++ [.inr (0, 12, [])] ++ [.inr (0, 40, [])] ++ [.inr (0, 45, [])] ++ [.inr (0, 45, [])] ++ [.inr (0, 80, [])] ++ [.inr (0, 12, [])] ++ [.inr (0, 12, [])] ++ [.inr (0, 12, [])] ++ [.inr (0, 12, [])] ++ [.inr (0, 80, [])] ++ [.inr (0, 80, [])] ++ [.inr (0, 40, [])] ++ [.inr (0, 80, [])] ++ [.inr (0, 80, [])] ++ [.inr (0, 80, [])] ++ [.inr (0, 720, [])] ++ [.inr (0, 60, [])] ++ [.inr (0, 60, [])] ++ [.inr (0, 60, [])]) _ E s (σ) τ H _ := hY
  refine lv_aload_n hx hb dX12_init_189 rfl (lv_at hl 0 rfl) ?_
  refine lv_bipush (v := 60) hx hb dX12_init_190 (by decide) ?_
  refine y_newI S hK hY hn 24 rfl (N := 60) (by decide) (by decide) (by decide) (fun c9 k9 h9 => h0 c9 k9 (by omega)) mw_141 ⟨Nat.le_of_ble_eq_true rfl, Nat.le_of_ble_eq_true rfl⟩ dX12_init_192 (fun H hY => ?_)
  refine y_putF S hK hA hY hn 0 rfl cl_13 41 (Nat.le_of_ble_eq_true rfl) (Nat.le_of_ble_eq_true rfl) mw_1455 rfl ⟨rfl, hnm, rfl⟩ (ty := .array .int) (j := (n + 24)) (by decide +kernel) rfl rfl dX12_init_194 (fun H locs hY => ?_)
  have hY : gx_Y tb ([.inl (13, [none, none, some (some (n + 1)), none, none, some (some (n + 2)), some (some (n + 3)), some (some (n + 4)), some (some (n + 5)), some (some (n + 6)), some (some (n + 7)), some (some (n + 8)), some (some (n + 9)), none, none, none, none, some (some (n + 10)), some (some (n + 11)), some (some (n + 12)), some (some (n + 13)), none, some (some (n + 14)), some (some (n + 15)), none, some (some (n + 16)), some (some (n + 17)), some (some (n + 18)), none, none, some (some (n + 19)), none, none, none, none, none, none, some (some (n + 20)), some (some (n + 21)), some (some (n + 22)), some (some (n + 23)), some (some (n + 24)), none, none, some none, none, none, some none, none, none, none, none, none, some none, some none, some none, some none, some none, some none, some none])] ++ [.inr (1, 16, [])] ++ [.inr (0, 12, [])] ++ [.inr (0, 12, [])] ++ [.inr (0, 12, [])] ++ [.inr (0, 12, [])] ++ [.inr (0, 40, [])] ++ [.inr (0, 45, [])] ++ [.inr (0, 45, [])] ++ [.inr (0, 80, [])] ++ [.inr (0, 12, [])] ++ [.inr (0, 12, [])] ++ [.inr (0, 12, [])] ++ [.inr (0, 12, [])] ++ [.inr (0, 80, [])] ++ [.inr (0, 80, [])] ++ [.inr (0, 40, [])] ++ [.inr (0, 80, [])] ++ [.inr (0, 80, [])] ++ [.inr (0, 80, [])] ++ [.inr (0, 720, [])] ++ [.inr (0, 60, [])] ++ [.inr (0, 60, [])] ++ [.inr (0, 60, [])] ++ [.inr (0, 60, [])]) _ E s (σ) τ H _ := hY
  refine lv_aload_n hx hb dX12_init_197 rfl (lv_at hl 0 rfl) ?_
  refine lv_bipush (v := 45) hx hb dX12_init_198 (by decide) ?_
  refine y_newI S hK hY hn 25 rfl (N := 45) (by decide) (by decide) (by decide) (fun c9 k9 h9 => h0 c9 k9 (by omega)) mw_141 ⟨Nat.le_of_ble_eq_true rfl, Nat.le_of_ble_eq_true rfl⟩ dX12_init_200 (fun H hY => ?_)
  refine y_putF S hK hA hY hn 0 rfl cl_13 44 (Nat.le_of_ble_eq_true rfl) (Nat.le_of_ble_eq_true rfl) mw_1458 rfl ⟨rfl, hnm, rfl⟩ (ty := .array .int) (j := (n + 25)) (by decide +kernel) rfl rfl dX12_init_202 (fun H locs hY => ?_)
  have hY : gx_Y tb ([.inl (13, [none, none, some (some (n + 1)), none, none, some (some (n + 2)), some (some (n + 3)), some (some (n + 4)), some (some (n + 5)), some (some (n + 6)), some (some (n + 7)), some (some (n + 8)), some (some (n + 9)), none, none, none, none, some (some (n + 10)), some (some (n + 11)), some (some (n + 12)), some (some (n + 13)), none, some (some (n + 14)), some (some (n + 15)), none, some (some (n + 16)), some (some (n + 17)), some (some (n + 18)), none, none, some (some (n + 19)), none, none, none, none, none, none, some (some (n + 20)), some (some (n + 21)), some (some (n + 22)), some (some (n + 23)), some (some (n + 24)), none, none, some (some (n + 25)), none, none, some none, none, none, none, none, none, some none, some none, some none, some none, some none, some none, some none])] ++ [.inr (1, 16, [])] ++ [.inr (0, 12, [])] ++ [.inr (0, 12, [])] ++ [.inr (0, 12, [])] ++ [.inr (0, 12, [])] ++ [.inr (0, 40, [])] ++ [.inr (0, 45, [])] ++ [.inr (0, 45, [])] ++ [.inr (0, 80, [])] ++ [.inr (0, 12, [])] ++ [.inr (0, 12, [])] ++ [.inr (0, 12, [])] ++ [.inr (0, 12, [])] ++ [.inr (0, 80, [])] ++ [.inr (0, 80, [])] ++ [.inr (0, 40, [])] ++ [.inr (0, 80, [])] ++ [.inr (0, 80, [])] ++ [.inr (0, 80, [])] ++ [.inr (0, 720, [])] ++ [.inr (0, 60, [])] ++ [.inr (0, 60, [])] ++ [.inr (0, 60, [])] ++ [.inr (0, 60, [])] ++ [.inr (0, 45, [])]) _ E s (σ) τ H _ := hY
  refine lv_aload_n hx hb dX12_init_205 rfl (lv_at hl 0 rfl) ?_
  refine lv_sipush (v := 4096) hx hb dX12_init_206 (by decide) ?_
  refine y_newI S hK hY hn 26 rfl (N := 4096) (by decide) (by decide) (by decide) (fun c9 k9 h9 => h0 c9 k9 (by omega)) mw_141 ⟨Nat.le_of_ble_eq_true rfl, Nat.le_of_ble_eq_true rfl⟩ dX12_init_209 (fun H hY => ?_)
  refine y_putF S hK hA hY hn 0 rfl cl_13 47 (Nat.le_of_ble_eq_true rfl) (Nat.le_of_ble_eq_true rfl) mw_1461 rfl ⟨rfl, hnm, rfl⟩ (ty := .array .int) (j := (n + 26)) (by decide +kernel) rfl rfl dX12_init_211 (fun H locs hY => ?_)
  have hY : gx_Y tb ([.inl (13, [none, none, some (some (n + 1)), none, none, some (some (n + 2)), some (some (n + 3)), some (some (n + 4)), some (some (n + 5)), some (some (n + 6)), some (some (n + 7)), some (some (n + 8)), some (some (n + 9)), none, none, none, none, some (some (n + 10)), some (some (n + 11)), some (some (n + 12)), some (some (n + 13)), none, some (some (n + 14)), some (some (n + 15)), none, some (some (n + 16)), some (some (n + 17)), some (some (n + 18)), none, none, some (some (n + 19)), none, none, none, none, none, none, some (some (n + 20)), some (some (n + 21)), some (some (n + 22)), some (some (n + 23)), some (some (n + 24)), none, none, some (some (n + 25)), none, none, some (some (n + 26)), none, none, none, none, none, some none, some none, some none, some none, some none, some none, some none])] ++ [.inr (1, 16, [])] ++ [.inr (0, 12, [])] ++ [.inr (0, 12, [])] ++ [.inr (0, 12, [])] ++ [.inr (0, 12, [])] ++ [.inr (0, 40, [])] ++ [.inr (0, 45, [])] ++ [.inr (0, 45, [])] ++ [.inr (0, 80, [])] ++ [.inr (0, 12, [])] ++ [.inr (0, 12, [])] ++ [.inr (0, 12, [])] ++ [.inr (0, 12, [])] ++ [.inr (0, 80, [])] ++ [.inr (0, 80, [])] ++ [.inr (0, 40, [])] ++ [.inr (0, 80, [])] ++ [.inr (0, 80, [])] ++ [.inr (0, 80, [])] ++ [.inr (0, 720, [])] ++ [.inr (0, 60, [])] ++ [.inr (0, 60, [])] ++ [.inr (0, 60, [])] ++ [.inr (0, 60, [])] ++ [.inr (0, 45, [])] ++ [.inr (0, 4096, [])]) _ E s (σ) τ H _ := hY
  refine lv_aload_n hx hb dX12_init_214 rfl (lv_at hl 0 rfl) ?_
  refine lv_bipush (v := 10) hx hb dX12_init_215 (by decide) ?_
  refine y_newI S hK hY hn 27 rfl (N := 10) (by decide) (by decide) (by decide) (fun c9 k9 h9 => h0 c9 k9 (by omega)) mw_141 ⟨Nat.le_of_ble_eq_true rfl, Nat.le_of_ble_eq_true rfl⟩ dX12_init_217 (fun H hY => ?_)
  refine y_putF S hK hA hY hn 0 rfl cl_13 53 (Nat.le_of_ble_eq_true rfl) (Nat.le_of_ble_eq_true rfl) mw_1467 rfl ⟨rfl, hnm, rfl⟩ (ty := .array .int) (j := (n + 27)) (by decide +kernel) rfl rfl dX12_init_219 (fun H locs hY => ?_)
  have hY : gx_Y tb ([.inl (13, [none, none, some (some (n + 1)), none, none, some (some (n + 2)), some (some (n + 3)), some (some (n + 4)), some (some (n + 5)), some (some (n + 6)), some (some (n + 7)), some (some (n + 8)), some (some (n + 9)), none, none, none, none, some (some (n + 10)), some (some (n + 11)), some (some (n + 12)), some (some (n + 13)), none, some (some (n + 14)), some (some (n + 15)), none, some (some (n + 16)), some (some (n + 17)), some (some (n + 18)), none, none, some (some (n + 19)), none, none, none, none, none, none, some (some (n + 20)), some (some (n + 21)), some (some (n + 22)), some (some (n + 23)), some (some (n + 24)), none, none, some (some (n + 25)), none, none, some (some (n + 26)), none, none, none, none, none, some (some (n + 27)), some none, some none, some none, some none, some none, some none])] ++ [.inr (1, 16, [])] ++ [.inr (0, 12, [])] ++ [.inr (0, 12, [])] ++ [.inr (0, 12, [])] ++ [.inr (0, 12, [])] ++ [.inr (0, 40, [])] ++ [.inr (0, 45, [])] ++ [.inr (0, 45, [])] ++ [.inr (0, 80, [])] ++ [.inr (0, 12, [])] ++ [.inr (0, 12, [])] ++ [.inr (0, 12, [])] ++ [.inr (0, 12, [])] ++ [.inr (0, 80, [])] ++ [.inr (0, 80, [])] ++ [.inr (0, 40, [])] ++ [.inr (0, 80, [])] ++ [.inr (0, 80, [])] ++ [.inr (0, 80, [])] ++ [.inr (0, 720, [])] ++ [.inr (0, 60, [])] ++ [.inr (0, 60, [])] ++ [.inr (0, 60, [])] ++ [.inr (0, 60, [])] ++ [.inr (0, 45, [])] ++ [.inr (0, 4096, [])] ++ [.inr (0, 10, [])]) _ E s (σ) τ H _ := hY
  refine lv_aload_n hx hb dX12_init_222 rfl (lv_at hl 0 rfl) ?_
  refine lv_bipush (v := 10) hx hb dX12_init_223 (by decide) ?_
  refine y_newI S hK hY hn 28 rfl (N := 10) (by decide) (by decide) (by decide) (fun c9 k9 h9 => h0 c9 k9 (by omega)) mw_141 ⟨Nat.le_of_ble_eq_true rfl, Nat.le_of_ble_eq_true rfl⟩ dX12_init_225 (fun H hY => ?_)
  refine y_putF S hK hA hY hn 0 rfl cl_13 54 (Nat.le_of_ble_eq_true rfl) (Nat.le_of_ble_eq_true rfl) mw_1468 rfl ⟨rfl, hnm, rfl⟩ (ty := .array .int) (j := (n + 28)) (by decide +kernel) rfl rfl dX12_init_227 (fun H locs hY => ?_)
  have hY : gx_Y tb ([.inl (13, [none, none, some (some (n + 1)), none, none, some (some (n + 2)), some (some (n + 3)), some (some (n + 4)), some (some (n + 5)), some (some (n + 6)), some (some (n + 7)), some (some (n + 8)), some (some (n + 9)), none, none, none, none, some (some (n + 10)), some (some (n + 11)), some (some (n + 12)), some (some (n + 13)), none, some (some (n + 14)), some (some (n + 15)), none, some (some (n + 16)), some (some (n + 17)), some (some (n + 18)), none, none, some (some (n + 19)), none, none, none, none, none, none, some (some (n + 20)), some (some (n + 21)), some (some (n + 22)), some (some (n + 23)), some (some (n + 24)), none, none, some (some (n + 25)), none, none, some (some (n + 26)), none, none, none, none, none, some (some (n + 27)), some (some (n + 28)), some none, some none, some none, some none, some none])] ++ [.inr (1, 16, [])] ++ [.inr (0, 12, [])] ++ [.inr (0, 12, [])] ++ [.inr (0, 12, [])] ++ [.inr (0, 12, [])] ++ [.inr (0, 40, [])] ++ [.inr (0, 45, [])] ++ [.inr (0, 45, [])] ++ [.inr (0, 80, [])] ++ [.inr (0, 12, [])] ++ [.inr (0, 12, [])] ++ [.inr (0, 12, [])] ++ [.inr (0, 12, [])] ++ [.inr (0, 80, [])] ++ [.inr (0, 80, [])] ++ [.inr (0, 40, [])] ++ [.inr (0, 80, [])] ++ [.inr (0, 80, [])] ++ [.inr (0, 80, [])] ++ [.inr (0, 720, [])] ++ [.inr (0, 60, [])] ++ [.inr (0, 60, [])] ++ [.inr (0, 60, [])] ++ [.inr (0, 60, [])] ++ [.inr (0, 45, [])] ++ [.inr (0, 4096, [])] ++ [.inr (0, 10, [])] ++ [.inr (0, 10, [])]) _ E s (σ) τ H _ := hY
  refine lv_aload_n hx hb dX12_init_230 rfl (lv_at hl 0 rfl) ?_
  refine lv_bipush (v := 10) hx hb dX12_init_231 (by decide) ?_
  refine y_newI S hK hY hn 29 rfl (N := 10) (by decide) (by decide) (by decide) (fun c9 k9 h9 => h0 c9 k9 (by omega)) mw_141 ⟨Nat.le_of_ble_eq_true rfl, Nat.le_of_ble_eq_true rfl⟩ dX12_init_233 (fun H hY => ?_)
  refine y_putF S hK hA hY hn 0 rfl cl_13 55 (Nat.le_of_ble_eq_true rfl) (Nat.le_of_ble_eq_true rfl) mw_1469 rfl ⟨rfl, hnm, rfl⟩ (ty := .array .int) (j := (n + 29)) (by decide +kernel) rfl rfl dX12_init_235 (fun H locs hY => ?_)
  have hY : gx_Y tb ([.inl (13, [none, none, some (some (n + 1)), none, none, some (some (n + 2)), some (some (n + 3)), some (some (n + 4)), some (some (n + 5)), some (some (n + 6)), some (some (n + 7)), some (some (n + 8)), some (some (n + 9)), none, none, none, none, some (some (n + 10)), some (some (n + 11)), some (some (n + 12)), some (some (n + 13)), none, some (some (n + 14)), some (some (n + 15)), none, some (some (n + 16)), some (some (n + 17)), some (some (n + 18)), none, none, some (some (n + 19)), none, none, none, none, none, none, some (some (n + 20)), some (some (n + 21)), some (some (n + 22)), some (some (n + 23)), some (some (n + 24)), none, none, some (some (n + 25)), none, none, some (some (n + 26)), none, none, none, none, none, some (some (n + 27)), some (some (n + 28)), some (some (n + 29)), some none, some none, some none, some none])] ++ [.inr (1, 16, [])] ++ [.inr (0, 12, [])] ++ [.inr (0, 12, [])] ++ [.inr (0, 12, [])] ++ [.inr (0, 12, [])] ++ [.inr (0, 40, [])] ++ [.inr (0, 45, [])] ++ [.inr (0, 45, [])] ++ [.inr (0, 80, [])] ++ [.inr (0, 12, [])] ++ [.inr (0, 12, [])] ++ [.inr (0, 12, [])] ++ [.inr (0, 12, [])] ++ [.inr (0, 80, [])] ++ [.inr (0, 80, [])] ++ [.inr (0, 40, [])] ++ [.inr (0, 80, [])] ++ [.inr (0, 80, [])] ++ [.inr (0, 80, [])] ++ [.inr (0, 720, [])] ++ [.inr (0, 60, [])] ++ [.inr (0, 60, [])] ++ [.inr (0, 60, [])] ++ [.inr (0, 60, [])] ++ [.inr (0, 45, [])] ++ [.inr (0, 4096, [])] ++ [.inr (0, 10, [])] ++ [.inr (0, 10, [])] ++ [.inr (0, 10, [])]) _ E s (σ) τ H _ := hY
  refine lv_aload_n hx hb dX12_init_238 rfl (lv_at hl 0 rfl) ?_
  refine lv_sipush (v := 4096) hx hb dX12_init_239 (by decide) ?_
  refine y_newZ S hK hY hn 30 rfl (N := 4096) (by decide) (by decide) (by decide) (fun c9 k9 h9 => h0 c9 k9 (by omega)) mw_446 ⟨Nat.le_of_ble_eq_true rfl, Nat.le_of_ble_eq_true rfl⟩ dX12_init_242 (fun H hY => ?_)
  refine y_putF S hK hA hY hn 0 rfl cl_13 56 (Nat.le_of_ble_eq_true rfl) (Nat.le_of_ble_eq_true rfl) mw_1470 rfl ⟨rfl, hnm, rfl⟩ (ty := .array .boolean) (j := (n + 30)) (by decide +kernel) rfl rfl dX12_init_244 (fun H locs hY => ?_)
  have hY : gx_Y tb ([.inl (13, [none, none, some (some (n + 1)), none, none, some (some (n + 2)), some (some (n + 3)), some (some (n + 4)), some (some (n + 5)), some (some (n + 6)), some (some (n + 7)), some (some (n + 8)), some (some (n + 9)), none, none, none, none, some (some (n + 10)), some (some (n + 11)), some (some (n + 12)), some (some (n + 13)), none, some (some (n + 14)), some (some (n + 15)), none, some (some (n + 16)), some (some (n + 17)), some (some (n + 18)), none, none, some (some (n + 19)), none, none, none, none, none, none, some (some (n + 20)), some (some (n + 21)), some (some (n + 22)), some (some (n + 23)), some (some (n + 24)), none, none, some (some (n + 25)), none, none, some (some (n + 26)), none, none, none, none, none, some (some (n + 27)), some (some (n + 28)), some (some (n + 29)), some (some (n + 30)), some none, some none, some none])] ++ [.inr (1, 16, [])] ++ [.inr (0, 12, [])] ++ [.inr (0, 12, [])] ++ [.inr (0, 12, [])] ++ [.inr (0, 12, [])] ++ [.inr (0, 40, [])] ++ [.inr (0, 45, [])] ++ [.inr (0, 45, [])] ++ [.inr (0, 80, [])] ++ [.inr (0, 12, [])] ++ [.inr (0, 12, [])] ++ [.inr (0, 12, [])] ++ [.inr (0, 12, [])] ++ [.inr (0, 80, [])] ++ [.inr (0, 80, [])] ++ [.inr (0, 40, [])] ++ [.inr (0, 80, [])] ++ [.inr (0, 80, [])] ++ [.inr (0, 80, [])] ++ [.inr (0, 720, [])] ++ [.inr (0, 60, [])] ++ [.inr (0, 60, [])] ++ [.inr (0, 60, [])] ++ [.inr (0, 60, [])] ++ [.inr (0, 45, [])] ++ [.inr (0, 4096, [])] ++ [.inr (0, 10, [])] ++ [.inr (0, 10, [])] ++ [.inr (0, 10, [])] ++ [.inr (2, 4096, [])]) _ E s (σ) τ H _ := hY
  refine lv_aload_n hx hb dX12_init_247 rfl (lv_at hl 0 rfl) ?_
  refine lv_bipush (v := 13) hx hb dX12_init_248 (by decide) ?_
  refine y_newI S hK hY hn 31 rfl (N := 13) (by decide) (by decide) (by decide) (fun c9 k9 h9 => h0 c9 k9 (by omega)) mw_141 ⟨Nat.le_of_ble_eq_true rfl, Nat.le_of_ble_eq_true rfl⟩ dX12_init_250 (fun H hY => ?_)
  refine y_putF S hK hA hY hn 0 rfl cl_13 57 (Nat.le_of_ble_eq_true rfl) (Nat.le_of_ble_eq_true rfl) mw_1471 rfl ⟨rfl, hnm, rfl⟩ (ty := .array .int) (j := (n + 31)) (by decide +kernel) rfl rfl dX12_init_252 (fun H locs hY => ?_)
  have hY : gx_Y tb ([.inl (13, [none, none, some (some (n + 1)), none, none, some (some (n + 2)), some (some (n + 3)), some (some (n + 4)), some (some (n + 5)), some (some (n + 6)), some (some (n + 7)), some (some (n + 8)), some (some (n + 9)), none, none, none, none, some (some (n + 10)), some (some (n + 11)), some (some (n + 12)), some (some (n + 13)), none, some (some (n + 14)), some (some (n + 15)), none, some (some (n + 16)), some (some (n + 17)), some (some (n + 18)), none, none, some (some (n + 19)), none, none, none, none, none, none, some (some (n + 20)), some (some (n + 21)), some (some (n + 22)), some (some (n + 23)), some (some (n + 24)), none, none, some (some (n + 25)), none, none, some (some (n + 26)), none, none, none, none, none, some (some (n + 27)), some (some (n + 28)), some (some (n + 29)), some (some (n + 30)), some (some (n + 31)), some none, some none])] ++ [.inr (1, 16, [])] ++ [.inr (0, 12, [])] ++ [.inr (0, 12, [])] ++ [.inr (0, 12, [])] ++ [.inr (0, 12, [])] ++ [.inr (0, 40, [])] ++ [.inr (0, 45, [])] ++ [.inr (0, 45, [])] ++ [.inr (0, 80, [])] ++ [.inr (0, 12, [])] ++ [.inr (0, 12, [])] ++ [.inr (0, 12, [])] ++ [.inr (0, 12, [])] ++ [.inr (0, 80, [])] ++ [.inr (0, 80, [])] ++ [.inr (0, 40, [])] ++ [.inr (0, 80, [])] ++ [.inr (0, 80, [])] ++ [.inr (0, 80, [])] ++ [.inr (0, 720, [])] ++ [.inr (0, 60, [])] ++ [.inr (0, 60, [])] ++ [.inr (0, 60, [])] ++ [.inr (0, 60, [])] ++ [.inr (0, 45, [])] ++ [.inr (0, 4096, [])] ++ [.inr (0, 10, [])] ++ [.inr (0, 10, [])] ++ [.inr (0, 10, [])] ++ [.inr (2, 4096, [])] ++ [.inr (0, 13, [])]) _ E s (σ) τ H _ := hY
  refine lv_aload_n hx hb dX12_init_255 rfl (lv_at hl 0 rfl) ?_
  refine lv_iconst (v := 3) hx hb dX12_init_256 (by decide) ?_
  refine y_newZ S hK hY hn 32 rfl (N := 3) (by decide) (by decide) (by decide) (fun c9 k9 h9 => h0 c9 k9 (by omega)) mw_446 ⟨Nat.le_of_ble_eq_true rfl, Nat.le_of_ble_eq_true rfl⟩ dX12_init_257 (fun H hY => ?_)
  refine y_putF S hK hA hY hn 0 rfl cl_13 58 (Nat.le_of_ble_eq_true rfl) (Nat.le_of_ble_eq_true rfl) mw_1472 rfl ⟨rfl, hnm, rfl⟩ (ty := .array .boolean) (j := (n + 32)) (by decide +kernel) rfl rfl dX12_init_259 (fun H locs hY => ?_)
  have hY : gx_Y tb ([.inl (13, [none, none, some (some (n + 1)), none, none, some (some (n + 2)), some (some (n + 3)), some (some (n + 4)), some (some (n + 5)), some (some (n + 6)), some (some (n + 7)), some (some (n + 8)), some (some (n + 9)), none, none, none, none, some (some (n + 10)), some (some (n + 11)), some (some (n + 12)), some (some (n + 13)), none, some (some (n + 14)), some (some (n + 15)), none, some (some (n + 16)), some (some (n + 17)), some (some (n + 18)), none, none, some (some (n + 19)), none, none, none, none, none, none, some (some (n + 20)), some (some (n + 21)), some (some (n + 22)), some (some (n + 23)), some (some (n + 24)), none, none, some (some (n + 25)), none, none, some (some (n + 26)), none, none, none, none, none, some (some (n + 27)), some (some (n + 28)), some (some (n + 29)), some (some (n + 30)), some (some (n + 31)), some (some (n + 32)), some none])] ++ [.inr (1, 16, [])] ++ [.inr (0, 12, [])] ++ [.inr (0, 12, [])] ++ [.inr (0, 12, [])] ++ [.inr (0, 12, [])] ++ [.inr (0, 40, [])] ++ [.inr (0, 45, [])] ++ [.inr (0, 45, [])] ++ [.inr (0, 80, [])] ++ [.inr (0, 12, [])] ++ [.inr (0, 12, [])] ++ [.inr (0, 12, [])] ++ [.inr (0, 12, [])] ++ [.inr (0, 80, [])] ++ [.inr (0, 80, [])] ++ [.inr (0, 40, [])] ++ [.inr (0, 80, [])] ++ [.inr (0, 80, [])] ++ [.inr (0, 80, [])] ++ [.inr (0, 720, [])] ++ [.inr (0, 60, [])] ++ [.inr (0, 60, [])] ++ [.inr (0, 60, [])] ++ [.inr (0, 60, [])] ++ [.inr (0, 45, [])] ++ [.inr (0, 4096, [])] ++ [.inr (0, 10, [])] ++ [.inr (0, 10, [])] ++ [.inr (0, 10, [])] ++ [.inr (2, 4096, [])] ++ [.inr (0, 13, [])] ++ [.inr (2, 3, [])]) _ E s (σ) τ H _ := hY
  refine lv_aload_n hx hb dX12_init_262 rfl (lv_at hl 0 rfl) ?_
  refine lv_sipush (v := 135) hx hb dX12_init_263 (by decide) ?_
  refine y_newI S hK hY hn 33 rfl (N := 135) (by decide) (by decide) (by decide) (fun c9 k9 h9 => h0 c9 k9 (by omega)) mw_141 ⟨Nat.le_of_ble_eq_true rfl, Nat.le_of_ble_eq_true rfl⟩ dX12_init_266 (fun H hY => ?_)
  refine y_putF S hK hA hY hn 0 rfl cl_13 59 (Nat.le_of_ble_eq_true rfl) (Nat.le_of_ble_eq_true rfl) mw_1473 rfl ⟨rfl, hnm, rfl⟩ (ty := .array .int) (j := (n + 33)) (by decide +kernel) rfl rfl dX12_init_268 (fun H locs hY => ?_)
  have hY : gx_Y tb ([.inl (13, [none, none, some (some (n + 1)), none, none, some (some (n + 2)), some (some (n + 3)), some (some (n + 4)), some (some (n + 5)), some (some (n + 6)), some (some (n + 7)), some (some (n + 8)), some (some (n + 9)), none, none, none, none, some (some (n + 10)), some (some (n + 11)), some (some (n + 12)), some (some (n + 13)), none, some (some (n + 14)), some (some (n + 15)), none, some (some (n + 16)), some (some (n + 17)), some (some (n + 18)), none, none, some (some (n + 19)), none, none, none, none, none, none, some (some (n + 20)), some (some (n + 21)), some (some (n + 22)), some (some (n + 23)), some (some (n + 24)), none, none, some (some (n + 25)), none, none, some (some (n + 26)), none, none, none, none, none, some (some (n + 27)), some (some (n + 28)), some (some (n + 29)), some (some (n + 30)), some (some (n + 31)), some (some (n + 32)), some (some (n + 33))])] ++ [.inr (1, 16, [])] ++ [.inr (0, 12, [])] ++ [.inr (0, 12, [])] ++ [.inr (0, 12, [])] ++ [.inr (0, 12, [])] ++ [.inr (0, 40, [])] ++ [.inr (0, 45, [])] ++ [.inr (0, 45, [])] ++ [.inr (0, 80, [])] ++ [.inr (0, 12, [])] ++ [.inr (0, 12, [])] ++ [.inr (0, 12, [])] ++ [.inr (0, 12, [])] ++ [.inr (0, 80, [])] ++ [.inr (0, 80, [])] ++ [.inr (0, 40, [])] ++ [.inr (0, 80, [])] ++ [.inr (0, 80, [])] ++ [.inr (0, 80, [])] ++ [.inr (0, 720, [])] ++ [.inr (0, 60, [])] ++ [.inr (0, 60, [])] ++ [.inr (0, 60, [])] ++ [.inr (0, 60, [])] ++ [.inr (0, 45, [])] ++ [.inr (0, 4096, [])] ++ [.inr (0, 10, [])] ++ [.inr (0, 10, [])] ++ [.inr (0, 10, [])] ++ [.inr (2, 4096, [])] ++ [.inr (0, 13, [])] ++ [.inr (2, 3, [])] ++ [.inr (0, 135, [])]) _ E s (σ) τ H _ := hY
  have hY : gx_Y tb (b_M n) _ E s (σ) τ H _ := hY
  exact y_r S hr hlk hY dX12_init_271
end
