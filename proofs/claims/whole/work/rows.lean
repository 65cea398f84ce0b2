section
-- ===== PART A: goes FIRST, ahead of the names: the tables' words, and 'selects' of the private methods out of them =====
/-- a private method of a class that the tables say can be made, by its rows of tables_1 -/
def lw_okq (q : MethodName × Nat) : Prop := (q.1.cls ≠ "java/lang/invoke/MethodHandle" ∧ q.1.cls ≠ "java/lang/invoke/VarHandle") ∧ Cond.instantiable q.1.cls q.2 ∈ tables_1 ∧ Cond.privateMethod q.1 ∈ tables_1 ∧ Cond.instanceMethod q.1 ∈ tables_1
theorem lw_p0 : lw_okq (⟨"KeySieves$TextReader", "nextToken", "()V"⟩, 10) := ⟨⟨by decide +kernel, by decide +kernel⟩, List.mem_of_getElem? (i := 144) (by decide +kernel), List.mem_of_getElem? (i := 246) (by decide +kernel), List.mem_of_getElem? (i := 247) (by decide +kernel)⟩
theorem lw_p1 : lw_okq (⟨"KeySieves$TextReader", "takeName", "()V"⟩, 10) := ⟨⟨by decide +kernel, by decide +kernel⟩, List.mem_of_getElem? (i := 144) (by decide +kernel), List.mem_of_getElem? (i := 253) (by decide +kernel), List.mem_of_getElem? (i := 254) (by decide +kernel)⟩
theorem lw_p2 : lw_okq (⟨"KeySieves$TextReader", "takeNumber", "()V"⟩, 10) := ⟨⟨by decide +kernel, by decide +kernel⟩, List.mem_of_getElem? (i := 144) (by decide +kernel), List.mem_of_getElem? (i := 260) (by decide +kernel), List.mem_of_getElem? (i := 261) (by decide +kernel)⟩
theorem lw_p3 : lw_okq (⟨"KeySieves$TextReader", "fail", "(II)V"⟩, 10) := ⟨⟨by decide +kernel, by decide +kernel⟩, List.mem_of_getElem? (i := 144) (by decide +kernel), List.mem_of_getElem? (i := 264) (by decide +kernel), List.mem_of_getElem? (i := 265) (by decide +kernel)⟩
theorem lw_p4 : lw_okq (⟨"KeySieves$TextReader", "readLine", "()V"⟩, 10) := ⟨⟨by decide +kernel, by decide +kernel⟩, List.mem_of_getElem? (i := 144) (by decide +kernel), List.mem_of_getElem? (i := 268) (by decide +kernel), List.mem_of_getElem? (i := 269) (by decide +kernel)⟩
theorem lw_p5 : lw_okq (⟨"KeySieves$TextReader", "lineNamed", "()I"⟩, 10) := ⟨⟨by decide +kernel, by decide +kernel⟩, List.mem_of_getElem? (i := 144) (by decide +kernel), List.mem_of_getElem? (i := 272) (by decide +kernel), List.mem_of_getElem? (i := 273) (by decide +kernel)⟩
theorem lw_p6 : lw_okq (⟨"KeySieves$TextReader", "nameIs", "(Ljava/lang/String;)Z"⟩, 10) := ⟨⟨by decide +kernel, by decide +kernel⟩, List.mem_of_getElem? (i := 144) (by decide +kernel), List.mem_of_getElem? (i := 285) (by decide +kernel), List.mem_of_getElem? (i := 286) (by decide +kernel)⟩
theorem lw_p7 : lw_okq (⟨"KeySieves$TextReader", "readEvery", "()V"⟩, 10) := ⟨⟨by decide +kernel, by decide +kernel⟩, List.mem_of_getElem? (i := 144) (by decide +kernel), List.mem_of_getElem? (i := 337) (by decide +kernel), List.mem_of_getElem? (i := 338) (by decide +kernel)⟩
theorem lw_p8 : lw_okq (⟨"KeySieves$TextReader", "readNumber", "(II)I"⟩, 10) := ⟨⟨by decide +kernel, by decide +kernel⟩, List.mem_of_getElem? (i := 144) (by decide +kernel), List.mem_of_getElem? (i := 341) (by decide +kernel), List.mem_of_getElem? (i := 342) (by decide +kernel)⟩
theorem lw_p9 : lw_okq (⟨"KeySieves$TextReader", "readPress", "()V"⟩, 10) := ⟨⟨by decide +kernel, by decide +kernel⟩, List.mem_of_getElem? (i := 144) (by decide +kernel), List.mem_of_getElem? (i := 346) (by decide +kernel), List.mem_of_getElem? (i := 347) (by decide +kernel)⟩
theorem lw_p10 : lw_okq (⟨"KeySieves$TextReader", "readKey", "(I)V"⟩, 10) := ⟨⟨by decide +kernel, by decide +kernel⟩, List.mem_of_getElem? (i := 144) (by decide +kernel), List.mem_of_getElem? (i := 354) (by decide +kernel), List.mem_of_getElem? (i := 355) (by decide +kernel)⟩
theorem lw_p11 : lw_okq (⟨"KeySieves$TextReader", "readSemicolon", "()V"⟩, 10) := ⟨⟨by decide +kernel, by decide +kernel⟩, List.mem_of_getElem? (i := 144) (by decide +kernel), List.mem_of_getElem? (i := 370) (by decide +kernel), List.mem_of_getElem? (i := 371) (by decide +kernel)⟩
theorem lw_p12 : lw_okq (⟨"KeySieves$Board", "latestPress", "(II)I"⟩, 12) := ⟨⟨by decide +kernel, by decide +kernel⟩, List.mem_of_getElem? (i := 22) (by decide +kernel), List.mem_of_getElem? (i := 415) (by decide +kernel), List.mem_of_getElem? (i := 416) (by decide +kernel)⟩
theorem lw_p13 : lw_okq (⟨"KeySieves", "putPress", "(III)I"⟩, 12) := ⟨⟨by decide +kernel, by decide +kernel⟩, List.mem_of_getElem? (i := 14) (by decide +kernel), List.mem_of_getElem? (i := 462) (by decide +kernel), List.mem_of_getElem? (i := 463) (by decide +kernel)⟩
theorem lw_p14 : lw_okq (⟨"KeySieves$Key", "weigh", "(I)I"⟩, 9) := ⟨⟨by decide +kernel, by decide +kernel⟩, List.mem_of_getElem? (i := 29) (by decide +kernel), List.mem_of_getElem? (i := 493) (by decide +kernel), List.mem_of_getElem? (i := 494) (by decide +kernel)⟩
theorem lw_p15 : lw_okq (⟨"KeySieves$Key", "compare", "(I)I"⟩, 9) := ⟨⟨by decide +kernel, by decide +kernel⟩, List.mem_of_getElem? (i := 29) (by decide +kernel), List.mem_of_getElem? (i := 500) (by decide +kernel), List.mem_of_getElem? (i := 501) (by decide +kernel)⟩
def lw_privs_1 : List (MethodName × Nat) := [(⟨"KeySieves$TextReader", "nextToken", "()V"⟩, 10), (⟨"KeySieves$TextReader", "takeName", "()V"⟩, 10), (⟨"KeySieves$TextReader", "takeNumber", "()V"⟩, 10), (⟨"KeySieves$TextReader", "fail", "(II)V"⟩, 10), (⟨"KeySieves$TextReader", "readLine", "()V"⟩, 10), (⟨"KeySieves$TextReader", "lineNamed", "()I"⟩, 10), (⟨"KeySieves$TextReader", "nameIs", "(Ljava/lang/String;)Z"⟩, 10), (⟨"KeySieves$TextReader", "readEvery", "()V"⟩, 10), (⟨"KeySieves$TextReader", "readNumber", "(II)I"⟩, 10), (⟨"KeySieves$TextReader", "readPress", "()V"⟩, 10), (⟨"KeySieves$TextReader", "readKey", "(I)V"⟩, 10), (⟨"KeySieves$TextReader", "readSemicolon", "()V"⟩, 10), (⟨"KeySieves$Board", "latestPress", "(II)I"⟩, 12), (⟨"KeySieves", "putPress", "(III)I"⟩, 12), (⟨"KeySieves$Key", "weigh", "(I)I"⟩, 9), (⟨"KeySieves$Key", "compare", "(I)I"⟩, 9)]
theorem lw_r1 : ∀ q ∈ lw_privs_1, lw_okq q := List.forall_mem_cons.mpr ⟨lw_p0, List.forall_mem_cons.mpr ⟨lw_p1, List.forall_mem_cons.mpr ⟨lw_p2, List.forall_mem_cons.mpr ⟨lw_p3, List.forall_mem_cons.mpr ⟨lw_p4, List.forall_mem_cons.mpr ⟨lw_p5, List.forall_mem_cons.mpr ⟨lw_p6, List.forall_mem_cons.mpr ⟨lw_p7, List.forall_mem_cons.mpr ⟨lw_p8, List.forall_mem_cons.mpr ⟨lw_p9, List.forall_mem_cons.mpr ⟨lw_p10, List.forall_mem_cons.mpr ⟨lw_p11, List.forall_mem_cons.mpr ⟨lw_p12, List.forall_mem_cons.mpr ⟨lw_p13, List.forall_mem_cons.mpr ⟨lw_p14, List.forall_mem_cons.mpr ⟨lw_p15, fun _ h => absurd h List.not_mem_nil⟩⟩⟩⟩⟩⟩⟩⟩⟩⟩⟩⟩⟩⟩⟩⟩
theorem lw_p16 : lw_okq (⟨"KeySieves$Key", "say", "(I)V"⟩, 9) := ⟨⟨by decide +kernel, by decide +kernel⟩, List.mem_of_getElem? (i := 29) (by decide +kernel), List.mem_of_getElem? (i := 504) (by decide +kernel), List.mem_of_getElem? (i := 505) (by decide +kernel)⟩
theorem lw_p17 : lw_okq (⟨"KeySieves", "copyToTry", "()LKeySieves$Board;"⟩, 12) := ⟨⟨by decide +kernel, by decide +kernel⟩, List.mem_of_getElem? (i := 14) (by decide +kernel), List.mem_of_getElem? (i := 519) (by decide +kernel), List.mem_of_getElem? (i := 520) (by decide +kernel)⟩
theorem lw_p18 : lw_okq (⟨"KeySieves", "strokesOfOne", "(IIII)I"⟩, 12) := ⟨⟨by decide +kernel, by decide +kernel⟩, List.mem_of_getElem? (i := 14) (by decide +kernel), List.mem_of_getElem? (i := 552) (by decide +kernel), List.mem_of_getElem? (i := 553) (by decide +kernel)⟩
theorem lw_p19 : lw_okq (⟨"KeySieves", "copyAltered", "(III)LKeySieves$Board;"⟩, 12) := ⟨⟨by decide +kernel, by decide +kernel⟩, List.mem_of_getElem? (i := 14) (by decide +kernel), List.mem_of_getElem? (i := 556) (by decide +kernel), List.mem_of_getElem? (i := 557) (by decide +kernel)⟩
theorem lw_p20 : lw_okq (⟨"KeySieves", "listenQuietly", "(I)V"⟩, 12) := ⟨⟨by decide +kernel, by decide +kernel⟩, List.mem_of_getElem? (i := 14) (by decide +kernel), List.mem_of_getElem? (i := 598) (by decide +kernel), List.mem_of_getElem? (i := 599) (by decide +kernel)⟩
theorem lw_p21 : lw_okq (⟨"KeySieves", "runNoisily", "(II)LKeySieves$Board;"⟩, 12) := ⟨⟨by decide +kernel, by decide +kernel⟩, List.mem_of_getElem? (i := 14) (by decide +kernel), List.mem_of_getElem? (i := 614) (by decide +kernel), List.mem_of_getElem? (i := 615) (by decide +kernel)⟩
theorem lw_p22 : lw_okq (⟨"KeySieves", "fitting", "(II)I"⟩, 12) := ⟨⟨by decide +kernel, by decide +kernel⟩, List.mem_of_getElem? (i := 14) (by decide +kernel), List.mem_of_getElem? (i := 646) (by decide +kernel), List.mem_of_getElem? (i := 647) (by decide +kernel)⟩
theorem lw_p23 : lw_okq (⟨"KeySieves$Board", "lastSeenTicks", "()I"⟩, 12) := ⟨⟨by decide +kernel, by decide +kernel⟩, List.mem_of_getElem? (i := 22) (by decide +kernel), List.mem_of_getElem? (i := 654) (by decide +kernel), List.mem_of_getElem? (i := 655) (by decide +kernel)⟩
theorem lw_p24 : lw_okq (⟨"KeySieves$Board", "saysAsSeenBehind", "(I)Z"⟩, 12) := ⟨⟨by decide +kernel, by decide +kernel⟩, List.mem_of_getElem? (i := 22) (by decide +kernel), List.mem_of_getElem? (i := 659) (by decide +kernel), List.mem_of_getElem? (i := 660) (by decide +kernel)⟩
theorem lw_p25 : lw_okq (⟨"KeySieves", "countSayers", "(II)V"⟩, 12) := ⟨⟨by decide +kernel, by decide +kernel⟩, List.mem_of_getElem? (i := 14) (by decide +kernel), List.mem_of_getElem? (i := 676) (by decide +kernel), List.mem_of_getElem? (i := 677) (by decide +kernel)⟩
theorem lw_p26 : lw_okq (⟨"KeySieves", "addSayings", "(LKeySieves$Board;I)V"⟩, 12) := ⟨⟨by decide +kernel, by decide +kernel⟩, List.mem_of_getElem? (i := 14) (by decide +kernel), List.mem_of_getElem? (i := 680) (by decide +kernel), List.mem_of_getElem? (i := 681) (by decide +kernel)⟩
theorem lw_p27 : lw_okq (⟨"KeySieves$Sheet", "faultAs", "(I)I"⟩, 3) := ⟨⟨by decide +kernel, by decide +kernel⟩, List.mem_of_getElem? (i := 126) (by decide +kernel), List.mem_of_getElem? (i := 739) (by decide +kernel), List.mem_of_getElem? (i := 740) (by decide +kernel)⟩
theorem lw_p28 : lw_okq (⟨"KeySievesModel", "firstDraft", "()V"⟩, 29) := ⟨⟨by decide +kernel, by decide +kernel⟩, List.mem_of_getElem? (i := 761) (by decide +kernel), List.mem_of_getElem? (i := 767) (by decide +kernel), List.mem_of_getElem? (i := 768) (by decide +kernel)⟩
theorem lw_p29 : lw_okq (⟨"KeySievesModel", "keepDraft", "()V"⟩, 29) := ⟨⟨by decide +kernel, by decide +kernel⟩, List.mem_of_getElem? (i := 761) (by decide +kernel), List.mem_of_getElem? (i := 771) (by decide +kernel), List.mem_of_getElem? (i := 772) (by decide +kernel)⟩
theorem lw_p30 : lw_okq (⟨"KeySievesModel", "reads", "()V"⟩, 29) := ⟨⟨by decide +kernel, by decide +kernel⟩, List.mem_of_getElem? (i := 761) (by decide +kernel), List.mem_of_getElem? (i := 879) (by decide +kernel), List.mem_of_getElem? (i := 880) (by decide +kernel)⟩
theorem lw_p31 : lw_okq (⟨"KeySievesModel", "byteAt", "(I)I"⟩, 29) := ⟨⟨by decide +kernel, by decide +kernel⟩, List.mem_of_getElem? (i := 761) (by decide +kernel), List.mem_of_getElem? (i := 883) (by decide +kernel), List.mem_of_getElem? (i := 884) (by decide +kernel)⟩
def lw_privs_2 : List (MethodName × Nat) := [(⟨"KeySieves$Key", "say", "(I)V"⟩, 9), (⟨"KeySieves", "copyToTry", "()LKeySieves$Board;"⟩, 12), (⟨"KeySieves", "strokesOfOne", "(IIII)I"⟩, 12), (⟨"KeySieves", "copyAltered", "(III)LKeySieves$Board;"⟩, 12), (⟨"KeySieves", "listenQuietly", "(I)V"⟩, 12), (⟨"KeySieves", "runNoisily", "(II)LKeySieves$Board;"⟩, 12), (⟨"KeySieves", "fitting", "(II)I"⟩, 12), (⟨"KeySieves$Board", "lastSeenTicks", "()I"⟩, 12), (⟨"KeySieves$Board", "saysAsSeenBehind", "(I)Z"⟩, 12), (⟨"KeySieves", "countSayers", "(II)V"⟩, 12), (⟨"KeySieves", "addSayings", "(LKeySieves$Board;I)V"⟩, 12), (⟨"KeySieves$Sheet", "faultAs", "(I)I"⟩, 3), (⟨"KeySievesModel", "firstDraft", "()V"⟩, 29), (⟨"KeySievesModel", "keepDraft", "()V"⟩, 29), (⟨"KeySievesModel", "reads", "()V"⟩, 29), (⟨"KeySievesModel", "byteAt", "(I)I"⟩, 29)]
theorem lw_r2 : ∀ q ∈ lw_privs_2, lw_okq q := List.forall_mem_cons.mpr ⟨lw_p16, List.forall_mem_cons.mpr ⟨lw_p17, List.forall_mem_cons.mpr ⟨lw_p18, List.forall_mem_cons.mpr ⟨lw_p19, List.forall_mem_cons.mpr ⟨lw_p20, List.forall_mem_cons.mpr ⟨lw_p21, List.forall_mem_cons.mpr ⟨lw_p22, List.forall_mem_cons.mpr ⟨lw_p23, List.forall_mem_cons.mpr ⟨lw_p24, List.forall_mem_cons.mpr ⟨lw_p25, List.forall_mem_cons.mpr ⟨lw_p26, List.forall_mem_cons.mpr ⟨lw_p27, List.forall_mem_cons.mpr ⟨lw_p28, List.forall_mem_cons.mpr ⟨lw_p29, List.forall_mem_cons.mpr ⟨lw_p30, List.forall_mem_cons.mpr ⟨lw_p31, fun _ h => absurd h List.not_mem_nil⟩⟩⟩⟩⟩⟩⟩⟩⟩⟩⟩⟩⟩⟩⟩⟩
theorem lw_p32 : lw_okq (⟨"KeySievesModel", "requires", "(ZI)V"⟩, 29) := ⟨⟨by decide +kernel, by decide +kernel⟩, List.mem_of_getElem? (i := 761) (by decide +kernel), List.mem_of_getElem? (i := 891) (by decide +kernel), List.mem_of_getElem? (i := 892) (by decide +kernel)⟩
theorem lw_p33 : lw_okq (⟨"KeySievesModel", "readLine", "()V"⟩, 29) := ⟨⟨by decide +kernel, by decide +kernel⟩, List.mem_of_getElem? (i := 761) (by decide +kernel), List.mem_of_getElem? (i := 895) (by decide +kernel), List.mem_of_getElem? (i := 896) (by decide +kernel)⟩
theorem lw_p34 : lw_okq (⟨"KeySievesModel", "lineNow", "()I"⟩, 29) := ⟨⟨by decide +kernel, by decide +kernel⟩, List.mem_of_getElem? (i := 761) (by decide +kernel), List.mem_of_getElem? (i := 899) (by decide +kernel), List.mem_of_getElem? (i := 900) (by decide +kernel)⟩
theorem lw_p35 : lw_okq (⟨"KeySievesModel", "is", "(IIII)Z"⟩, 29) := ⟨⟨by decide +kernel, by decide +kernel⟩, List.mem_of_getElem? (i := 761) (by decide +kernel), List.mem_of_getElem? (i := 903) (by decide +kernel), List.mem_of_getElem? (i := 904) (by decide +kernel)⟩
theorem lw_p36 : lw_okq (⟨"KeySievesModel", "endsIn", "(II)Z"⟩, 29) := ⟨⟨by decide +kernel, by decide +kernel⟩, List.mem_of_getElem? (i := 761) (by decide +kernel), List.mem_of_getElem? (i := 907) (by decide +kernel), List.mem_of_getElem? (i := 908) (by decide +kernel)⟩
theorem lw_p37 : lw_okq (⟨"KeySievesModel", "readLineOf", "(I)V"⟩, 29) := ⟨⟨by decide +kernel, by decide +kernel⟩, List.mem_of_getElem? (i := 761) (by decide +kernel), List.mem_of_getElem? (i := 911) (by decide +kernel), List.mem_of_getElem? (i := 912) (by decide +kernel)⟩
theorem lw_p38 : lw_okq (⟨"KeySievesModel", "readPress", "()V"⟩, 29) := ⟨⟨by decide +kernel, by decide +kernel⟩, List.mem_of_getElem? (i := 761) (by decide +kernel), List.mem_of_getElem? (i := 915) (by decide +kernel), List.mem_of_getElem? (i := 916) (by decide +kernel)⟩
theorem lw_p39 : lw_okq (⟨"KeySievesModel", "readNumber", "(II)I"⟩, 29) := ⟨⟨by decide +kernel, by decide +kernel⟩, List.mem_of_getElem? (i := 761) (by decide +kernel), List.mem_of_getElem? (i := 919) (by decide +kernel), List.mem_of_getElem? (i := 920) (by decide +kernel)⟩
theorem lw_p40 : lw_okq (⟨"KeySievesModel", "starts", "()V"⟩, 29) := ⟨⟨by decide +kernel, by decide +kernel⟩, List.mem_of_getElem? (i := 761) (by decide +kernel), List.mem_of_getElem? (i := 931) (by decide +kernel), List.mem_of_getElem? (i := 932) (by decide +kernel)⟩
theorem lw_p41 : lw_okq (⟨"KeySievesModel", "says", "()I"⟩, 29) := ⟨⟨by decide +kernel, by decide +kernel⟩, List.mem_of_getElem? (i := 761) (by decide +kernel), List.mem_of_getElem? (i := 935) (by decide +kernel), List.mem_of_getElem? (i := 936) (by decide +kernel)⟩
theorem lw_p42 : lw_okq (⟨"KeySievesModel", "of", "(II)I"⟩, 29) := ⟨⟨by decide +kernel, by decide +kernel⟩, List.mem_of_getElem? (i := 761) (by decide +kernel), List.mem_of_getElem? (i := 939) (by decide +kernel), List.mem_of_getElem? (i := 940) (by decide +kernel)⟩
theorem lw_p43 : lw_okq (⟨"KeySievesModel", "contactsNow", "()I"⟩, 29) := ⟨⟨by decide +kernel, by decide +kernel⟩, List.mem_of_getElem? (i := 761) (by decide +kernel), List.mem_of_getElem? (i := 943) (by decide +kernel), List.mem_of_getElem? (i := 944) (by decide +kernel)⟩
theorem lw_p44 : lw_okq (⟨"KeySievesModel", "contactOf", "(II)I"⟩, 29) := ⟨⟨by decide +kernel, by decide +kernel⟩, List.mem_of_getElem? (i := 761) (by decide +kernel), List.mem_of_getElem? (i := 947) (by decide +kernel), List.mem_of_getElem? (i := 948) (by decide +kernel)⟩
theorem lw_p45 : lw_okq (⟨"KeySievesModel", "latestPress", "(II)I"⟩, 29) := ⟨⟨by decide +kernel, by decide +kernel⟩, List.mem_of_getElem? (i := 761) (by decide +kernel), List.mem_of_getElem? (i := 951) (by decide +kernel), List.mem_of_getElem? (i := 952) (by decide +kernel)⟩
theorem lw_p46 : lw_okq (⟨"KeySievesModel", "ofPress", "(II)I"⟩, 29) := ⟨⟨by decide +kernel, by decide +kernel⟩, List.mem_of_getElem? (i := 761) (by decide +kernel), List.mem_of_getElem? (i := 955) (by decide +kernel), List.mem_of_getElem? (i := 956) (by decide +kernel)⟩
theorem lw_p47 : lw_okq (⟨"KeySievesModel", "sumOf", "(I)I"⟩, 29) := ⟨⟨by decide +kernel, by decide +kernel⟩, List.mem_of_getElem? (i := 761) (by decide +kernel), List.mem_of_getElem? (i := 959) (by decide +kernel), List.mem_of_getElem? (i := 960) (by decide +kernel)⟩
def lw_privs_3 : List (MethodName × Nat) := [(⟨"KeySievesModel", "requires", "(ZI)V"⟩, 29), (⟨"KeySievesModel", "readLine", "()V"⟩, 29), (⟨"KeySievesModel", "lineNow", "()I"⟩, 29), (⟨"KeySievesModel", "is", "(IIII)Z"⟩, 29), (⟨"KeySievesModel", "endsIn", "(II)Z"⟩, 29), (⟨"KeySievesModel", "readLineOf", "(I)V"⟩, 29), (⟨"KeySievesModel", "readPress", "()V"⟩, 29), (⟨"KeySievesModel", "readNumber", "(II)I"⟩, 29), (⟨"KeySievesModel", "starts", "()V"⟩, 29), (⟨"KeySievesModel", "says", "()I"⟩, 29), (⟨"KeySievesModel", "of", "(II)I"⟩, 29), (⟨"KeySievesModel", "contactsNow", "()I"⟩, 29), (⟨"KeySievesModel", "contactOf", "(II)I"⟩, 29), (⟨"KeySievesModel", "latestPress", "(II)I"⟩, 29), (⟨"KeySievesModel", "ofPress", "(II)I"⟩, 29), (⟨"KeySievesModel", "sumOf", "(I)I"⟩, 29)]
theorem lw_r3 : ∀ q ∈ lw_privs_3, lw_okq q := List.forall_mem_cons.mpr ⟨lw_p32, List.forall_mem_cons.mpr ⟨lw_p33, List.forall_mem_cons.mpr ⟨lw_p34, List.forall_mem_cons.mpr ⟨lw_p35, List.forall_mem_cons.mpr ⟨lw_p36, List.forall_mem_cons.mpr ⟨lw_p37, List.forall_mem_cons.mpr ⟨lw_p38, List.forall_mem_cons.mpr ⟨lw_p39, List.forall_mem_cons.mpr ⟨lw_p40, List.forall_mem_cons.mpr ⟨lw_p41, List.forall_mem_cons.mpr ⟨lw_p42, List.forall_mem_cons.mpr ⟨lw_p43, List.forall_mem_cons.mpr ⟨lw_p44, List.forall_mem_cons.mpr ⟨lw_p45, List.forall_mem_cons.mpr ⟨lw_p46, List.forall_mem_cons.mpr ⟨lw_p47, fun _ h => absurd h List.not_mem_nil⟩⟩⟩⟩⟩⟩⟩⟩⟩⟩⟩⟩⟩⟩⟩⟩
theorem lw_p48 : lw_okq (⟨"KeySievesModel", "isKey", "(I)Z"⟩, 29) := ⟨⟨by decide +kernel, by decide +kernel⟩, List.mem_of_getElem? (i := 761) (by decide +kernel), List.mem_of_getElem? (i := 967) (by decide +kernel), List.mem_of_getElem? (i := 968) (by decide +kernel)⟩
theorem lw_p49 : lw_okq (⟨"KeySievesModel", "becomes", "(II)I"⟩, 29) := ⟨⟨by decide +kernel, by decide +kernel⟩, List.mem_of_getElem? (i := 761) (by decide +kernel), List.mem_of_getElem? (i := 992) (by decide +kernel), List.mem_of_getElem? (i := 993) (by decide +kernel)⟩
theorem lw_p50 : lw_okq (⟨"KeySievesModel", "cutsSum", "(I)V"⟩, 29) := ⟨⟨by decide +kernel, by decide +kernel⟩, List.mem_of_getElem? (i := 761) (by decide +kernel), List.mem_of_getElem? (i := 996) (by decide +kernel), List.mem_of_getElem? (i := 997) (by decide +kernel)⟩
theorem lw_p51 : lw_okq (⟨"KeySievesModel", "becomesOf", "(III)V"⟩, 29) := ⟨⟨by decide +kernel, by decide +kernel⟩, List.mem_of_getElem? (i := 761) (by decide +kernel), List.mem_of_getElem? (i := 1003) (by decide +kernel), List.mem_of_getElem? (i := 1004) (by decide +kernel)⟩
theorem lw_p52 : lw_okq (⟨"KeySievesModel", "settles", "()V"⟩, 29) := ⟨⟨by decide +kernel, by decide +kernel⟩, List.mem_of_getElem? (i := 761) (by decide +kernel), List.mem_of_getElem? (i := 1007) (by decide +kernel), List.mem_of_getElem? (i := 1008) (by decide +kernel)⟩
theorem lw_p53 : lw_okq (⟨"KeySievesModel", "ticksGo", "(I)V"⟩, 29) := ⟨⟨by decide +kernel, by decide +kernel⟩, List.mem_of_getElem? (i := 761) (by decide +kernel), List.mem_of_getElem? (i := 1030) (by decide +kernel), List.mem_of_getElem? (i := 1031) (by decide +kernel)⟩
theorem lw_p54 : lw_okq (⟨"KeySievesModel", "tickGoesBy", "(I)V"⟩, 29) := ⟨⟨by decide +kernel, by decide +kernel⟩, List.mem_of_getElem? (i := 761) (by decide +kernel), List.mem_of_getElem? (i := 1034) (by decide +kernel), List.mem_of_getElem? (i := 1035) (by decide +kernel)⟩
theorem lw_p55 : lw_okq (⟨"KeySievesModel", "looks", "(II)V"⟩, 29) := ⟨⟨by decide +kernel, by decide +kernel⟩, List.mem_of_getElem? (i := 761) (by decide +kernel), List.mem_of_getElem? (i := 1038) (by decide +kernel), List.mem_of_getElem? (i := 1039) (by decide +kernel)⟩
theorem lw_p56 : lw_okq (⟨"KeySievesModel", "weighs", "(II)V"⟩, 29) := ⟨⟨by decide +kernel, by decide +kernel⟩, List.mem_of_getElem? (i := 761) (by decide +kernel), List.mem_of_getElem? (i := 1042) (by decide +kernel), List.mem_of_getElem? (i := 1043) (by decide +kernel)⟩
theorem lw_p57 : lw_okq (⟨"KeySievesModel", "comesToSay", "(II)V"⟩, 29) := ⟨⟨by decide +kernel, by decide +kernel⟩, List.mem_of_getElem? (i := 761) (by decide +kernel), List.mem_of_getElem? (i := 1046) (by decide +kernel), List.mem_of_getElem? (i := 1047) (by decide +kernel)⟩
theorem lw_p58 : lw_okq (⟨"KeySievesModel", "countsUp", "(II)V"⟩, 29) := ⟨⟨by decide +kernel, by decide +kernel⟩, List.mem_of_getElem? (i := 761) (by decide +kernel), List.mem_of_getElem? (i := 1050) (by decide +kernel), List.mem_of_getElem? (i := 1051) (by decide +kernel)⟩
theorem lw_p59 : lw_okq (⟨"KeySievesModel", "wants", "(I)I"⟩, 29) := ⟨⟨by decide +kernel, by decide +kernel⟩, List.mem_of_getElem? (i := 761) (by decide +kernel), List.mem_of_getElem? (i := 1054) (by decide +kernel), List.mem_of_getElem? (i := 1055) (by decide +kernel)⟩
theorem lw_p60 : lw_okq (⟨"KeySievesModel", "shuts", "(I)I"⟩, 29) := ⟨⟨by decide +kernel, by decide +kernel⟩, List.mem_of_getElem? (i := 761) (by decide +kernel), List.mem_of_getElem? (i := 1058) (by decide +kernel), List.mem_of_getElem? (i := 1059) (by decide +kernel)⟩
theorem lw_p61 : lw_okq (⟨"KeySievesModel", "struckByAll", "()I"⟩, 29) := ⟨⟨by decide +kernel, by decide +kernel⟩, List.mem_of_getElem? (i := 761) (by decide +kernel), List.mem_of_getElem? (i := 1062) (by decide +kernel), List.mem_of_getElem? (i := 1063) (by decide +kernel)⟩
theorem lw_p62 : lw_okq (⟨"KeySievesModel", "dueIn", "(I)I"⟩, 29) := ⟨⟨by decide +kernel, by decide +kernel⟩, List.mem_of_getElem? (i := 761) (by decide +kernel), List.mem_of_getElem? (i := 1093) (by decide +kernel), List.mem_of_getElem? (i := 1094) (by decide +kernel)⟩
theorem lw_p63 : lw_okq (⟨"KeySievesModel", "strikesJust", "(IIIII)Z"⟩, 29) := ⟨⟨by decide +kernel, by decide +kernel⟩, List.mem_of_getElem? (i := 761) (by decide +kernel), List.mem_of_getElem? (i := 1102) (by decide +kernel), List.mem_of_getElem? (i := 1103) (by decide +kernel)⟩
def lw_privs_4 : List (MethodName × Nat) := [(⟨"KeySievesModel", "isKey", "(I)Z"⟩, 29), (⟨"KeySievesModel", "becomes", "(II)I"⟩, 29), (⟨"KeySievesModel", "cutsSum", "(I)V"⟩, 29), (⟨"KeySievesModel", "becomesOf", "(III)V"⟩, 29), (⟨"KeySievesModel", "settles", "()V"⟩, 29), (⟨"KeySievesModel", "ticksGo", "(I)V"⟩, 29), (⟨"KeySievesModel", "tickGoesBy", "(I)V"⟩, 29), (⟨"KeySievesModel", "looks", "(II)V"⟩, 29), (⟨"KeySievesModel", "weighs", "(II)V"⟩, 29), (⟨"KeySievesModel", "comesToSay", "(II)V"⟩, 29), (⟨"KeySievesModel", "countsUp", "(II)V"⟩, 29), (⟨"KeySievesModel", "wants", "(I)I"⟩, 29), (⟨"KeySievesModel", "shuts", "(I)I"⟩, 29), (⟨"KeySievesModel", "struckByAll", "()I"⟩, 29), (⟨"KeySievesModel", "dueIn", "(I)I"⟩, 29), (⟨"KeySievesModel", "strikesJust", "(IIIII)Z"⟩, 29)]
theorem lw_r4 : ∀ q ∈ lw_privs_4, lw_okq q := List.forall_mem_cons.mpr ⟨lw_p48, List.forall_mem_cons.mpr ⟨lw_p49, List.forall_mem_cons.mpr ⟨lw_p50, List.forall_mem_cons.mpr ⟨lw_p51, List.forall_mem_cons.mpr ⟨lw_p52, List.forall_mem_cons.mpr ⟨lw_p53, List.forall_mem_cons.mpr ⟨lw_p54, List.forall_mem_cons.mpr ⟨lw_p55, List.forall_mem_cons.mpr ⟨lw_p56, List.forall_mem_cons.mpr ⟨lw_p57, List.forall_mem_cons.mpr ⟨lw_p58, List.forall_mem_cons.mpr ⟨lw_p59, List.forall_mem_cons.mpr ⟨lw_p60, List.forall_mem_cons.mpr ⟨lw_p61, List.forall_mem_cons.mpr ⟨lw_p62, List.forall_mem_cons.mpr ⟨lw_p63, fun _ h => absurd h List.not_mem_nil⟩⟩⟩⟩⟩⟩⟩⟩⟩⟩⟩⟩⟩⟩⟩⟩
theorem lw_p64 : lw_okq (⟨"KeySievesModel", "startsWith", "(III)V"⟩, 29) := ⟨⟨by decide +kernel, by decide +kernel⟩, List.mem_of_getElem? (i := 761) (by decide +kernel), List.mem_of_getElem? (i := 1106) (by decide +kernel), List.mem_of_getElem? (i := 1107) (by decide +kernel)⟩
theorem lw_p65 : lw_okq (⟨"KeySievesModel", "startsJudging", "(I)V"⟩, 29) := ⟨⟨by decide +kernel, by decide +kernel⟩, List.mem_of_getElem? (i := 761) (by decide +kernel), List.mem_of_getElem? (i := 1119) (by decide +kernel), List.mem_of_getElem? (i := 1120) (by decide +kernel)⟩
theorem lw_p66 : lw_okq (⟨"KeySievesModel", "offIn", "(I)I"⟩, 29) := ⟨⟨by decide +kernel, by decide +kernel⟩, List.mem_of_getElem? (i := 761) (by decide +kernel), List.mem_of_getElem? (i := 1123) (by decide +kernel), List.mem_of_getElem? (i := 1124) (by decide +kernel)⟩
theorem lw_p67 : lw_okq (⟨"KeySievesModel", "judges", "(II)V"⟩, 29) := ⟨⟨by decide +kernel, by decide +kernel⟩, List.mem_of_getElem? (i := 761) (by decide +kernel), List.mem_of_getElem? (i := 1127) (by decide +kernel), List.mem_of_getElem? (i := 1128) (by decide +kernel)⟩
theorem lw_p68 : lw_okq (⟨"KeySievesModel", "findOdds", "(III)V"⟩, 29) := ⟨⟨by decide +kernel, by decide +kernel⟩, List.mem_of_getElem? (i := 761) (by decide +kernel), List.mem_of_getElem? (i := 1146) (by decide +kernel), List.mem_of_getElem? (i := 1147) (by decide +kernel)⟩
theorem lw_p69 : lw_okq (⟨"KeySievesModel", "which", "(II)I"⟩, 29) := ⟨⟨by decide +kernel, by decide +kernel⟩, List.mem_of_getElem? (i := 761) (by decide +kernel), List.mem_of_getElem? (i := 1173) (by decide +kernel), List.mem_of_getElem? (i := 1174) (by decide +kernel)⟩
theorem lw_p70 : lw_okq (⟨"KeySievesModel", "isSoWith", "(III)Z"⟩, 29) := ⟨⟨by decide +kernel, by decide +kernel⟩, List.mem_of_getElem? (i := 761) (by decide +kernel), List.mem_of_getElem? (i := 1177) (by decide +kernel), List.mem_of_getElem? (i := 1178) (by decide +kernel)⟩
theorem lw_p71 : lw_okq (⟨"KeySievesModel", "copies", "(II)V"⟩, 29) := ⟨⟨by decide +kernel, by decide +kernel⟩, List.mem_of_getElem? (i := 761) (by decide +kernel), List.mem_of_getElem? (i := 1202) (by decide +kernel), List.mem_of_getElem? (i := 1203) (by decide +kernel)⟩
def lw_privs_5 : List (MethodName × Nat) := [(⟨"KeySievesModel", "startsWith", "(III)V"⟩, 29), (⟨"KeySievesModel", "startsJudging", "(I)V"⟩, 29), (⟨"KeySievesModel", "offIn", "(I)I"⟩, 29), (⟨"KeySievesModel", "judges", "(II)V"⟩, 29), (⟨"KeySievesModel", "findOdds", "(III)V"⟩, 29), (⟨"KeySievesModel", "which", "(II)I"⟩, 29), (⟨"KeySievesModel", "isSoWith", "(III)Z"⟩, 29), (⟨"KeySievesModel", "copies", "(II)V"⟩, 29)]
theorem lw_r5 : ∀ q ∈ lw_privs_5, lw_okq q := List.forall_mem_cons.mpr ⟨lw_p64, List.forall_mem_cons.mpr ⟨lw_p65, List.forall_mem_cons.mpr ⟨lw_p66, List.forall_mem_cons.mpr ⟨lw_p67, List.forall_mem_cons.mpr ⟨lw_p68, List.forall_mem_cons.mpr ⟨lw_p69, List.forall_mem_cons.mpr ⟨lw_p70, List.forall_mem_cons.mpr ⟨lw_p71, fun _ h => absurd h List.not_mem_nil⟩⟩⟩⟩⟩⟩⟩⟩
def lw_privs : List (MethodName × Nat) := lw_privs_1 ++ (lw_privs_2 ++ (lw_privs_3 ++ (lw_privs_4 ++ (lw_privs_5))))
def lw_tbl : List Cond := k2_sels lw_privs ++ tables_1
theorem lw_privs_ok : ∀ q ∈ lw_privs, lw_okq q := by
  show ∀ q ∈ lw_privs_1 ++ (lw_privs_2 ++ (lw_privs_3 ++ (lw_privs_4 ++ (lw_privs_5)))), lw_okq q
  exact List.forall_mem_append.mpr ⟨lw_r1, List.forall_mem_append.mpr ⟨lw_r2, List.forall_mem_append.mpr ⟨lw_r3, List.forall_mem_append.mpr ⟨lw_r4, lw_r5⟩⟩⟩⟩
end
section
def RX0 : String := "KeySieves$Board"
def TX0 : u_T := fun k => match k with
  | 0 => ("KeySieves$Board", "keys", "[LKeySieves$Key;", true)
  | 1 => ("KeySieves$Board", "keyCount", "I", false)
  | 2 => ("KeySieves$Board", "pressTick", "[I", true)
  | 3 => ("KeySieves$Board", "pressKey", "[I", true)
  | 4 => ("KeySieves$Board", "pressState", "[I", true)
  | 5 => ("KeySieves$Board", "pressCount", "I", false)
  | 6 => ("KeySieves$Board", "every", "I", false)
  | 7 => ("KeySieves$Board", "tick", "I", false)
  | 8 => ("KeySieves$Board", "seenTicks", "[I", true)
  | 9 => ("KeySieves$Board", "seenKey", "[I", true)
  | 10 => ("KeySieves$Board", "seenSays", "[I", true)
  | _ => ("KeySieves$Board", "seenCount", "I", false)
def tyX0 : Nat → FieldType := fun k => match k with
  | 0 => .array (.object "KeySieves$Key")
  | 1 => .int
  | 2 => .array .int
  | 3 => .array .int
  | 4 => .array .int
  | 5 => .int
  | 6 => .int
  | 7 => .int
  | 8 => .array .int
  | 9 => .array .int
  | 10 => .array .int
  | _ => .int
theorem nmX0 : ∀ a, a < 12 → ∀ b, b < 12 → a ≠ b → (TX0 a).2.1 ≠ (TX0 b).2.1 := by decide +kernel
theorem tyX0_ok : ∀ k, k < 12 → parseFieldDescriptor (TX0 k).2.2.1 = some (tyX0 k) := by decide +kernel
abbrev cX0_init : ByteArray := prog_2_method_1_code
def yX0_init : MethodName := ⟨RX0, "<init>", "()V"⟩
abbrev cX0_clear : ByteArray := prog_2_method_2_code
def yX0_clear : MethodName := ⟨RX0, "clear", "()V"⟩
abbrev cX0_copyFrom : ByteArray := prog_2_method_3_code
def yX0_copyFrom : MethodName := ⟨RX0, "copyFrom", "(LKeySieves$Board;)V"⟩
abbrev cX0_copySievesFrom : ByteArray := prog_2_method_4_code
def yX0_copySievesFrom : MethodName := ⟨RX0, "copySievesFrom", "(LKeySieves$Board;)V"⟩
abbrev cX0_hasKey : ByteArray := prog_2_method_5_code
def yX0_hasKey : MethodName := ⟨RX0, "hasKey", "(I)Z"⟩
abbrev cX0_addKey : ByteArray := prog_2_method_6_code
def yX0_addKey : MethodName := ⟨RX0, "addKey", "(III)V"⟩
abbrev cX0_addPress : ByteArray := prog_2_method_7_code
def yX0_addPress : MethodName := ⟨RX0, "addPress", "(III)V"⟩
abbrev cX0_removePress : ByteArray := prog_2_method_8_code
def yX0_removePress : MethodName := ⟨RX0, "removePress", "(I)V"⟩
abbrev cX0_addSeen : ByteArray := prog_2_method_9_code
def yX0_addSeen : MethodName := ⟨RX0, "addSeen", "(III)V"⟩
abbrev cX0_contactAt : ByteArray := prog_2_method_10_code
def yX0_contactAt : MethodName := ⟨RX0, "contactAt", "(II)I"⟩
abbrev cX0_latestPress : ByteArray := prog_2_method_11_code
def yX0_latestPress : MethodName := ⟨RX0, "latestPress", "(II)I"⟩
abbrev cX0_contactBits : ByteArray := prog_2_method_12_code
def yX0_contactBits : MethodName := ⟨RX0, "contactBits", "()I"⟩
abbrev cX0_saysBits : ByteArray := prog_2_method_13_code
def yX0_saysBits : MethodName := ⟨RX0, "saysBits", "()I"⟩
abbrev cX0_strokesOfAll : ByteArray := prog_2_method_14_code
def yX0_strokesOfAll : MethodName := ⟨RX0, "strokesOfAll", "()I"⟩
abbrev cX0_sumOfPart : ByteArray := prog_2_method_15_code
def yX0_sumOfPart : MethodName := ⟨RX0, "sumOfPart", "(I)I"⟩
abbrev cX0_startRun : ByteArray := prog_2_method_16_code
def yX0_startRun : MethodName := ⟨RX0, "startRun", "()V"⟩
abbrev cX0_struckInRun : ByteArray := prog_2_method_17_code
def yX0_struckInRun : MethodName := ⟨RX0, "struckInRun", "()I"⟩
abbrev cX0_changedInRun : ByteArray := prog_2_method_18_code
def yX0_changedInRun : MethodName := ⟨RX0, "changedInRun", "()I"⟩
abbrev cX0_tickWith : ByteArray := prog_2_method_19_code
def yX0_tickWith : MethodName := ⟨RX0, "tickWith", "(I)V"⟩
abbrev cX0_advance : ByteArray := prog_2_method_20_code
def yX0_advance : MethodName := ⟨RX0, "advance", "(I)V"⟩
abbrev cX0_advanceCountingWrong : ByteArray := prog_2_method_21_code
def yX0_advanceCountingWrong : MethodName := ⟨RX0, "advanceCountingWrong", "(I)I"⟩
abbrev cX0_dueIn : ByteArray := prog_2_method_22_code
def yX0_dueIn : MethodName := ⟨RX0, "dueIn", "(I)I"⟩
abbrev cX0_isAsSeen : ByteArray := prog_2_method_23_code
def yX0_isAsSeen : MethodName := ⟨RX0, "isAsSeen", "()Z"⟩
abbrev cX0_lastSeenTicks : ByteArray := prog_2_method_24_code
def yX0_lastSeenTicks : MethodName := ⟨RX0, "lastSeenTicks", "()I"⟩
abbrev cX0_saysAsSeenBehind : ByteArray := prog_2_method_25_code
def yX0_saysAsSeenBehind : MethodName := ⟨RX0, "saysAsSeenBehind", "(I)Z"⟩
abbrev cX0_hasPressOfNoKey : ByteArray := prog_2_method_26_code
def yX0_hasPressOfNoKey : MethodName := ⟨RX0, "hasPressOfNoKey", "()Z"⟩
def RX1 : String := "KeySieves$Key"
def TX1 : u_T := fun k => match k with
  | 0 => ("KeySieves$Key", "bounce", "I", false)
  | 1 => ("KeySieves$Key", "kind", "I", false)
  | 2 => ("KeySieves$Key", "number", "I", false)
  | 3 => ("KeySieves$Key", "says", "I", false)
  | 4 => ("KeySieves$Key", "sum", "I", false)
  | 5 => ("KeySieves$Key", "rest", "I", false)
  | 6 => ("KeySieves$Key", "strokes", "I", false)
  | 7 => ("KeySieves$Key", "struck", "I", false)
  | _ => ("KeySieves$Key", "changed", "I", false)
def tyX1 : Nat → FieldType := fun k => match k with
  | 0 => .int
  | 1 => .int
  | 2 => .int
  | 3 => .int
  | 4 => .int
  | 5 => .int
  | 6 => .int
  | 7 => .int
  | _ => .int
theorem nmX1 : ∀ a, a < 9 → ∀ b, b < 9 → a ≠ b → (TX1 a).2.1 ≠ (TX1 b).2.1 := by decide +kernel
theorem tyX1_ok : ∀ k, k < 9 → parseFieldDescriptor (TX1 k).2.2.1 = some (tyX1 k) := by decide +kernel
abbrev cX1_init : ByteArray := prog_3_method_1_code
def yX1_init : MethodName := ⟨RX1, "<init>", "()V"⟩
abbrev cX1_begin : ByteArray := prog_3_method_2_code
def yX1_begin : MethodName := ⟨RX1, "begin", "(III)V"⟩
abbrev cX1_startRun : ByteArray := prog_3_method_3_code
def yX1_startRun : MethodName := ⟨RX1, "startRun", "()V"⟩
abbrev cX1_copyFrom : ByteArray := prog_3_method_4_code
def yX1_copyFrom : MethodName := ⟨RX1, "copyFrom", "(LKeySieves$Key;)V"⟩
abbrev cX1_mayBe : ByteArray := prog_3_method_5_code
def yX1_mayBe : MethodName := ⟨RX1, "mayBe", "(II)Z"⟩
abbrev cX1_part : ByteArray := prog_3_method_6_code
def yX1_part : MethodName := ⟨RX1, "part", "(I)I"⟩
abbrev cX1_become : ByteArray := prog_3_method_7_code
def yX1_become : MethodName := ⟨RX1, "become", "(II)V"⟩
abbrev cX1_look : ByteArray := prog_3_method_8_code
def yX1_look : MethodName := ⟨RX1, "look", "(I)V"⟩
abbrev cX1_weigh : ByteArray := prog_3_method_9_code
def yX1_weigh : MethodName := ⟨RX1, "weigh", "(I)I"⟩
abbrev cX1_compare : ByteArray := prog_3_method_10_code
def yX1_compare : MethodName := ⟨RX1, "compare", "(I)I"⟩
abbrev cX1_say : ByteArray := prog_3_method_11_code
def yX1_say : MethodName := ⟨RX1, "say", "(I)V"⟩
def RX2 : String := "KeySieves$Sheet"
def TX2 : u_T := fun k => match k with
  | 0 => ("KeySieves$Sheet", "cells", "[I", true)
  | 1 => ("KeySieves$Sheet", "lane", "I", false)
  | _ => ("KeySieves$Sheet", "size", "I", false)
def tyX2 : Nat → FieldType := fun k => match k with
  | 0 => .array .int
  | 1 => .int
  | _ => .int
theorem nmX2 : ∀ a, a < 3 → ∀ b, b < 3 → a ≠ b → (TX2 a).2.1 ≠ (TX2 b).2.1 := by decide +kernel
theorem tyX2_ok : ∀ k, k < 3 → parseFieldDescriptor (TX2 k).2.2.1 = some (tyX2 k) := by decide +kernel
abbrev cX2_init : ByteArray := prog_4_method_1_code
def yX2_init : MethodName := ⟨RX2, "<init>", "()V"⟩
abbrev cX2_isLane : ByteArray := prog_4_method_2_code
def yX2_isLane : MethodName := ⟨RX2, "isLane", "(I)Z"⟩
abbrev cX2_isNothing : ByteArray := prog_4_method_3_code
def yX2_isNothing : MethodName := ⟨RX2, "isNothing", "()Z"⟩
abbrev cX2_renew : ByteArray := prog_4_method_4_code
def yX2_renew : MethodName := ⟨RX2, "renew", "(II)V"⟩
abbrev cX2_faultAt : ByteArray := prog_4_method_5_code
def yX2_faultAt : MethodName := ⟨RX2, "faultAt", "(I)I"⟩
abbrev cX2_faultOfThree : ByteArray := prog_4_method_6_code
def yX2_faultOfThree : MethodName := ⟨RX2, "faultOfThree", "(II)I"⟩
abbrev cX2_faultAs : ByteArray := prog_4_method_7_code
def yX2_faultAs : MethodName := ⟨RX2, "faultAs", "(I)I"⟩
abbrev cX2_get : ByteArray := prog_4_method_8_code
def yX2_get : MethodName := ⟨RX2, "get", "(I)I"⟩
abbrev cX2_put : ByteArray := prog_4_method_9_code
def yX2_put : MethodName := ⟨RX2, "put", "(II)V"⟩
def RX3 : String := "KeySieves$TextReader"
def TX3 : u_T := fun k => match k with
  | 0 => ("KeySieves$TextReader", "bytes", "[B", true)
  | 1 => ("KeySieves$TextReader", "board", "LKeySieves$Board;", true)
  | 2 => ("KeySieves$TextReader", "length", "I", false)
  | 3 => ("KeySieves$TextReader", "place", "I", false)
  | 4 => ("KeySieves$TextReader", "token", "I", false)
  | 5 => ("KeySieves$TextReader", "tokenPlace", "I", false)
  | 6 => ("KeySieves$TextReader", "value", "I", false)
  | 7 => ("KeySieves$TextReader", "everyTold", "Z", false)
  | 8 => ("KeySieves$TextReader", "fault", "I", false)
  | _ => ("KeySieves$TextReader", "faultPlace", "I", false)
def tyX3 : Nat → FieldType := fun k => match k with
  | 0 => .array .byte
  | 1 => .object "KeySieves$Board"
  | 2 => .int
  | 3 => .int
  | 4 => .int
  | 5 => .int
  | 6 => .int
  | 7 => .boolean
  | 8 => .int
  | _ => .int
theorem nmX3 : ∀ a, a < 10 → ∀ b, b < 10 → a ≠ b → (TX3 a).2.1 ≠ (TX3 b).2.1 := by decide +kernel
theorem tyX3_ok : ∀ k, k < 10 → parseFieldDescriptor (TX3 k).2.2.1 = some (tyX3 k) := by decide +kernel
abbrev cX3_init : ByteArray := prog_5_method_1_code
def yX3_init : MethodName := ⟨RX3, "<init>", "([BLKeySieves$Board;)V"⟩
abbrev cX3_readLines : ByteArray := prog_5_method_2_code
def yX3_readLines : MethodName := ⟨RX3, "readLines", "(I)I"⟩
abbrev cX3_fail : ByteArray := prog_5_method_3_code
def yX3_fail : MethodName := ⟨RX3, "fail", "(II)V"⟩
abbrev cX3_readLine : ByteArray := prog_5_method_4_code
def yX3_readLine : MethodName := ⟨RX3, "readLine", "()V"⟩
abbrev cX3_readKey : ByteArray := prog_5_method_5_code
def yX3_readKey : MethodName := ⟨RX3, "readKey", "(I)V"⟩
abbrev cX3_readPress : ByteArray := prog_5_method_6_code
def yX3_readPress : MethodName := ⟨RX3, "readPress", "()V"⟩
abbrev cX3_readEvery : ByteArray := prog_5_method_7_code
def yX3_readEvery : MethodName := ⟨RX3, "readEvery", "()V"⟩
abbrev cX3_readNumber : ByteArray := prog_5_method_8_code
def yX3_readNumber : MethodName := ⟨RX3, "readNumber", "(II)I"⟩
abbrev cX3_readSemicolon : ByteArray := prog_5_method_9_code
def yX3_readSemicolon : MethodName := ⟨RX3, "readSemicolon", "()V"⟩
abbrev cX3_nextToken : ByteArray := prog_5_method_10_code
def yX3_nextToken : MethodName := ⟨RX3, "nextToken", "()V"⟩
abbrev cX3_takeName : ByteArray := prog_5_method_11_code
def yX3_takeName : MethodName := ⟨RX3, "takeName", "()V"⟩
abbrev cX3_takeNumber : ByteArray := prog_5_method_12_code
def yX3_takeNumber : MethodName := ⟨RX3, "takeNumber", "()V"⟩
abbrev cX3_isLetter : ByteArray := prog_5_method_13_code
def yX3_isLetter : MethodName := ⟨RX3, "isLetter", "(I)Z"⟩
abbrev cX3_isFigure : ByteArray := prog_5_method_14_code
def yX3_isFigure : MethodName := ⟨RX3, "isFigure", "(I)Z"⟩
abbrev cX3_lineNamed : ByteArray := prog_5_method_15_code
def yX3_lineNamed : MethodName := ⟨RX3, "lineNamed", "()I"⟩
abbrev cX3_nameIs : ByteArray := prog_5_method_16_code
def yX3_nameIs : MethodName := ⟨RX3, "nameIs", "(Ljava/lang/String;)Z"⟩
abbrev cX3_lineName : ByteArray := prog_5_method_17_code
def yX3_lineName : MethodName := ⟨RX3, "lineName", "(I)Ljava/lang/String;"⟩
def RX4 : String := "KeySieves"
def TX4 : u_T := fun k => match k with
  | 0 => ("KeySieves", "tape", "[B", true)
  | 1 => ("KeySieves", "tapeLength", "I", false)
  | 2 => ("KeySieves", "now", "LKeySieves$Board;", true)
  | 3 => ("KeySieves", "trial", "LKeySieves$Board;", true)
  | 4 => ("KeySieves", "images", "[LKeySieves$Board;", true)
  | 5 => ("KeySieves", "kept", "[Z", true)
  | 6 => ("KeySieves", "sheets", "[LKeySieves$Sheet;", true)
  | 7 => ("KeySieves", "reader", "LKeySieves$TextReader;", true)
  | 8 => ("KeySieves", "textFault", "I", false)
  | 9 => ("KeySieves", "readFault", "I", false)
  | 10 => ("KeySieves", "quietContacts", "[I", true)
  | _ => ("KeySieves", "saidOne", "[I", true)
def tyX4 : Nat → FieldType := fun k => match k with
  | 0 => .array .byte
  | 1 => .int
  | 2 => .object "KeySieves$Board"
  | 3 => .object "KeySieves$Board"
  | 4 => .array (.object "KeySieves$Board")
  | 5 => .array .boolean
  | 6 => .array (.object "KeySieves$Sheet")
  | 7 => .object "KeySieves$TextReader"
  | 8 => .int
  | 9 => .int
  | 10 => .array .int
  | _ => .array .int
theorem nmX4 : ∀ a, a < 12 → ∀ b, b < 12 → a ≠ b → (TX4 a).2.1 ≠ (TX4 b).2.1 := by decide +kernel
theorem tyX4_ok : ∀ k, k < 12 → parseFieldDescriptor (TX4 k).2.2.1 = some (tyX4 k) := by decide +kernel
abbrev cX4_init : ByteArray := prog_1_method_1_code
def yX4_init : MethodName := ⟨RX4, "<init>", "()V"⟩
abbrev cX4_feed : ByteArray := prog_1_method_2_code
def yX4_feed : MethodName := ⟨RX4, "feed", "(I)I"⟩
abbrev cX4_end : ByteArray := prog_1_method_3_code
def yX4_end : MethodName := ⟨RX4, "end", "(I)I"⟩
abbrev cX4_text : ByteArray := prog_1_method_4_code
def yX4_text : MethodName := ⟨RX4, "text", "()I"⟩
abbrev cX4_fault : ByteArray := prog_1_method_5_code
def yX4_fault : MethodName := ⟨RX4, "fault", "()I"⟩
abbrev cX4_rule : ByteArray := prog_1_method_6_code
def yX4_rule : MethodName := ⟨RX4, "rule", "(I)I"⟩
abbrev cX4_key : ByteArray := prog_1_method_7_code
def yX4_key : MethodName := ⟨RX4, "key", "(II)I"⟩
abbrev cX4_press : ByteArray := prog_1_method_8_code
def yX4_press : MethodName := ⟨RX4, "press", "(II)I"⟩
abbrev cX4_contact : ByteArray := prog_1_method_9_code
def yX4_contact : MethodName := ⟨RX4, "contact", "(II)I"⟩
abbrev cX4_alter : ByteArray := prog_1_method_10_code
def yX4_alter : MethodName := ⟨RX4, "alter", "(III)I"⟩
abbrev cX4_every : ByteArray := prog_1_method_11_code
def yX4_every : MethodName := ⟨RX4, "every", "(I)I"⟩
abbrev cX4_strike : ByteArray := prog_1_method_12_code
def yX4_strike : MethodName := ⟨RX4, "strike", "(III)I"⟩
abbrev cX4_drop : ByteArray := prog_1_method_13_code
def yX4_drop : MethodName := ⟨RX4, "drop", "(I)I"⟩
abbrev cX4_putPress : ByteArray := prog_1_method_14_code
def yX4_putPress : MethodName := ⟨RX4, "putPress", "(III)I"⟩
abbrev cX4_ticks : ByteArray := prog_1_method_15_code
def yX4_ticks : MethodName := ⟨RX4, "ticks", "(I)I"⟩
abbrev cX4_runs : ByteArray := prog_1_method_16_code
def yX4_runs : MethodName := ⟨RX4, "runs", "(II)I"⟩
abbrev cX4_ahead : ByteArray := prog_1_method_17_code
def yX4_ahead : MethodName := ⟨RX4, "ahead", "(III)I"⟩
abbrev cX4_when : ByteArray := prog_1_method_18_code
def yX4_when : MethodName := ⟨RX4, "when", "(II)I"⟩
abbrev cX4_due : ByteArray := prog_1_method_19_code
def yX4_due : MethodName := ⟨RX4, "due", "(I)I"⟩
abbrev cX4_need : ByteArray := prog_1_method_20_code
def yX4_need : MethodName := ⟨RX4, "need", "(III)I"⟩
abbrev cX4_bear : ByteArray := prog_1_method_21_code
def yX4_bear : MethodName := ⟨RX4, "bear", "(III)I"⟩
abbrev cX4_kind : ByteArray := prog_1_method_22_code
def yX4_kind : MethodName := ⟨RX4, "kind", "(III)I"⟩
abbrev cX4_slow : ByteArray := prog_1_method_23_code
def yX4_slow : MethodName := ⟨RX4, "slow", "(II)I"⟩
abbrev cX4_lose : ByteArray := prog_1_method_24_code
def yX4_lose : MethodName := ⟨RX4, "lose", "(II)I"⟩
abbrev cX4_missOf : ByteArray := prog_1_method_25_code
def yX4_missOf : MethodName := ⟨RX4, "missOf", "(LKeySieves$Board;I)I"⟩
abbrev cX4_strokesIn : ByteArray := prog_1_method_26_code
def yX4_strokesIn : MethodName := ⟨RX4, "strokesIn", "(LKeySieves$Board;I)I"⟩
abbrev cX4_strokesOfOne : ByteArray := prog_1_method_27_code
def yX4_strokesOfOne : MethodName := ⟨RX4, "strokesOfOne", "(IIII)I"⟩
abbrev cX4_luck : ByteArray := prog_1_method_28_code
def yX4_luck : MethodName := ⟨RX4, "luck", "(IIII)J"⟩
abbrev cX4_mean : ByteArray := prog_1_method_29_code
def yX4_mean : MethodName := ⟨RX4, "mean", "(III)J"⟩
abbrev cX4_isNoise : ByteArray := prog_1_method_30_code
def yX4_isNoise : MethodName := ⟨RX4, "isNoise", "(II)Z"⟩
abbrev cX4_listenQuietly : ByteArray := prog_1_method_31_code
def yX4_listenQuietly : MethodName := ⟨RX4, "listenQuietly", "(I)V"⟩
abbrev cX4_runNoisily : ByteArray := prog_1_method_32_code
def yX4_runNoisily : MethodName := ⟨RX4, "runNoisily", "(II)LKeySieves$Board;"⟩
abbrev cX4_weightOf : ByteArray := prog_1_method_33_code
def yX4_weightOf : MethodName := ⟨RX4, "weightOf", "(III)J"⟩
abbrev cX4_power : ByteArray := prog_1_method_34_code
def yX4_power : MethodName := ⟨RX4, "power", "(II)J"⟩
abbrev cX4_partOfFraction : ByteArray := prog_1_method_35_code
def yX4_partOfFraction : MethodName := ⟨RX4, "partOfFraction", "(JJI)J"⟩
abbrev cX4_commonDivisor : ByteArray := prog_1_method_36_code
def yX4_commonDivisor : MethodName := ⟨RX4, "commonDivisor", "(JJ)J"⟩
abbrev cX4_see : ByteArray := prog_1_method_37_code
def yX4_see : MethodName := ⟨RX4, "see", "(III)I"⟩
abbrev cX4_forget : ByteArray := prog_1_method_38_code
def yX4_forget : MethodName := ⟨RX4, "forget", "(I)I"⟩
abbrev cX4_kinds : ByteArray := prog_1_method_39_code
def yX4_kinds : MethodName := ⟨RX4, "kinds", "(I)I"⟩
abbrev cX4_numbers : ByteArray := prog_1_method_40_code
def yX4_numbers : MethodName := ⟨RX4, "numbers", "(I)I"⟩
abbrev cX4_bounces : ByteArray := prog_1_method_41_code
def yX4_bounces : MethodName := ⟨RX4, "bounces", "(I)I"⟩
abbrev cX4_ask : ByteArray := prog_1_method_42_code
def yX4_ask : MethodName := ⟨RX4, "ask", "(II)I"⟩
abbrev cX4_fitting : ByteArray := prog_1_method_43_code
def yX4_fitting : MethodName := ⟨RX4, "fitting", "(II)I"⟩
abbrev cX4_countSayers : ByteArray := prog_1_method_44_code
def yX4_countSayers : MethodName := ⟨RX4, "countSayers", "(II)V"⟩
abbrev cX4_addSayings : ByteArray := prog_1_method_45_code
def yX4_addSayings : MethodName := ⟨RX4, "addSayings", "(LKeySieves$Board;I)V"⟩
abbrev cX4_drift : ByteArray := prog_1_method_46_code
def yX4_drift : MethodName := ⟨RX4, "drift", "(III)I"⟩
abbrev cX4_keep : ByteArray := prog_1_method_47_code
def yX4_keep : MethodName := ⟨RX4, "keep", "(I)I"⟩
abbrev cX4_back : ByteArray := prog_1_method_48_code
def yX4_back : MethodName := ⟨RX4, "back", "(I)I"⟩
abbrev cX4_sheet : ByteArray := prog_1_method_49_code
def yX4_sheet : MethodName := ⟨RX4, "sheet", "(III)I"⟩
abbrev cX4_lay : ByteArray := prog_1_method_50_code
def yX4_lay : MethodName := ⟨RX4, "lay", "(III)I"⟩
abbrev cX4_read : ByteArray := prog_1_method_51_code
def yX4_read : MethodName := ⟨RX4, "read", "(IIII)I"⟩
abbrev cX4_torn : ByteArray := prog_1_method_52_code
def yX4_torn : MethodName := ⟨RX4, "torn", "()I"⟩
abbrev cX4_count : ByteArray := prog_1_method_53_code
def yX4_count : MethodName := ⟨RX4, "count", "(I)I"⟩
abbrev cX4_isSheet : ByteArray := prog_1_method_54_code
def yX4_isSheet : MethodName := ⟨RX4, "isSheet", "(I)Z"⟩
abbrev cX4_within : ByteArray := prog_1_method_55_code
def yX4_within : MethodName := ⟨RX4, "within", "(III)Z"⟩
abbrev cX4_isRun : ByteArray := prog_1_method_56_code
def yX4_isRun : MethodName := ⟨RX4, "isRun", "(I)Z"⟩
abbrev cX4_copyToTry : ByteArray := prog_1_method_57_code
def yX4_copyToTry : MethodName := ⟨RX4, "copyToTry", "()LKeySieves$Board;"⟩
abbrev cX4_copyAltered : ByteArray := prog_1_method_58_code
def yX4_copyAltered : MethodName := ⟨RX4, "copyAltered", "(III)LKeySieves$Board;"⟩
def RX5 : String := "KeySievesModel"
def TX5 : u_T := fun k => match k with
  | 0 => ("KeySievesModel", "st", "[I", true)
  | 1 => ("KeySievesModel", "now", "[I", true)
  | 2 => ("KeySievesModel", "isKept", "[Z", true)
  | 3 => ("KeySievesModel", "draft", "[I", true)
  | 4 => ("KeySievesModel", "hasEvery", "Z", false)
  | 5 => ("KeySievesModel", "highest", "I", false)
  | 6 => ("KeySievesModel", "tape", "[I", true)
  | 7 => ("KeySievesModel", "taped", "I", false)
  | 8 => ("KeySievesModel", "pos", "I", false)
  | 9 => ("KeySievesModel", "begun", "I", false)
  | 10 => ("KeySievesModel", "sort", "I", false)
  | 11 => ("KeySievesModel", "value", "I", false)
  | 12 => ("KeySievesModel", "fault", "I", false)
  | 13 => ("KeySievesModel", "wrongAt", "I", false)
  | 14 => ("KeySievesModel", "struck", "[I", true)
  | 15 => ("KeySievesModel", "changes", "I", false)
  | 16 => ("KeySievesModel", "lost", "I", false)
  | 17 => ("KeySievesModel", "bestCode", "I", false)
  | 18 => ("KeySievesModel", "bestMuch", "I", false)
  | 19 => ("KeySievesModel", "saySum", "J", false)
  | 20 => ("KeySievesModel", "strokeSum", "J", false)
  | 21 => ("KeySievesModel", "allWays", "J", false)
  | 22 => ("KeySievesModel", "saidBy", "[I", true)
  | 23 => ("KeySievesModel", "sayBy", "[I", true)
  | 24 => ("KeySievesModel", "lanes", "[I", true)
  | 25 => ("KeySievesModel", "sizes", "[I", true)
  | 26 => ("KeySievesModel", "cells", "[I", true)
  | 27 => ("KeySievesModel", "torn", "I", false)
  | _ => ("KeySievesModel", "before", "[I", true)
def tyX5 : Nat → FieldType := fun k => match k with
  | 0 => .array .int
  | 1 => .array .int
  | 2 => .array .boolean
  | 3 => .array .int
  | 4 => .boolean
  | 5 => .int
  | 6 => .array .int
  | 7 => .int
  | 8 => .int
  | 9 => .int
  | 10 => .int
  | 11 => .int
  | 12 => .int
  | 13 => .int
  | 14 => .array .int
  | 15 => .int
  | 16 => .int
  | 17 => .int
  | 18 => .int
  | 19 => .long
  | 20 => .long
  | 21 => .long
  | 22 => .array .int
  | 23 => .array .int
  | 24 => .array .int
  | 25 => .array .int
  | 26 => .array .int
  | 27 => .int
  | _ => .array .int
theorem nmX5 : ∀ a, a < 29 → ∀ b, b < 29 → a ≠ b → (TX5 a).2.1 ≠ (TX5 b).2.1 := by decide +kernel
theorem tyX5_ok : ∀ k, k < 29 → parseFieldDescriptor (TX5 k).2.2.1 = some (tyX5 k) := by decide +kernel
abbrev cX5_init : ByteArray := prog_7_method_1_code
def yX5_init : MethodName := ⟨RX5, "<init>", "()V"⟩
abbrev cX5_in : ByteArray := prog_7_method_3_code
def yX5_in : MethodName := ⟨RX5, "in", "(JJJ)Z"⟩
abbrev cX5_flag : ByteArray := prog_7_method_4_code
def yX5_flag : MethodName := ⟨RX5, "flag", "(Z)I"⟩
abbrev cX5_within : ByteArray := prog_7_method_5_code
def yX5_within : MethodName := ⟨RX5, "within", "(II)I"⟩
abbrev cX5_firstDraft : ByteArray := prog_7_method_6_code
def yX5_firstDraft : MethodName := ⟨RX5, "firstDraft", "()V"⟩
abbrev cX5_keepDraft : ByteArray := prog_7_method_7_code
def yX5_keepDraft : MethodName := ⟨RX5, "keepDraft", "()V"⟩
abbrev cX5_feed : ByteArray := prog_7_method_8_code
def yX5_feed : MethodName := ⟨RX5, "feed", "(I)I"⟩
abbrev cX5_end : ByteArray := prog_7_method_9_code
def yX5_end : MethodName := ⟨RX5, "end", "(I)I"⟩
abbrev cX5_requires : ByteArray := prog_7_method_10_code
def yX5_requires : MethodName := ⟨RX5, "requires", "(ZI)V"⟩
abbrev cX5_byteAt : ByteArray := prog_7_method_11_code
def yX5_byteAt : MethodName := ⟨RX5, "byteAt", "(I)I"⟩
abbrev cX5_is : ByteArray := prog_7_method_12_code
def yX5_is : MethodName := ⟨RX5, "is", "(IIII)Z"⟩
abbrev cX5_endsIn : ByteArray := prog_7_method_13_code
def yX5_endsIn : MethodName := ⟨RX5, "endsIn", "(II)Z"⟩
abbrev cX5_lineNow : ByteArray := prog_7_method_14_code
def yX5_lineNow : MethodName := ⟨RX5, "lineNow", "()I"⟩
abbrev cX5_reads : ByteArray := prog_7_method_15_code
def yX5_reads : MethodName := ⟨RX5, "reads", "()V"⟩
abbrev cX5_readNumber : ByteArray := prog_7_method_16_code
def yX5_readNumber : MethodName := ⟨RX5, "readNumber", "(II)I"⟩
abbrev cX5_readPress : ByteArray := prog_7_method_17_code
def yX5_readPress : MethodName := ⟨RX5, "readPress", "()V"⟩
abbrev cX5_readLineOf : ByteArray := prog_7_method_18_code
def yX5_readLineOf : MethodName := ⟨RX5, "readLineOf", "(I)V"⟩
abbrev cX5_readLine : ByteArray := prog_7_method_19_code
def yX5_readLine : MethodName := ⟨RX5, "readLine", "()V"⟩
abbrev cX5_text : ByteArray := prog_7_method_20_code
def yX5_text : MethodName := ⟨RX5, "text", "()I"⟩
abbrev cX5_fault : ByteArray := prog_7_method_21_code
def yX5_fault : MethodName := ⟨RX5, "fault", "()I"⟩
abbrev cX5_isKey : ByteArray := prog_7_method_22_code
def yX5_isKey : MethodName := ⟨RX5, "isKey", "(I)Z"⟩
abbrev cX5_isPart : ByteArray := prog_7_method_23_code
def yX5_isPart : MethodName := ⟨RX5, "isPart", "(I)Z"⟩
abbrev cX5_starts : ByteArray := prog_7_method_24_code
def yX5_starts : MethodName := ⟨RX5, "starts", "()V"⟩
abbrev cX5_settles : ByteArray := prog_7_method_25_code
def yX5_settles : MethodName := ⟨RX5, "settles", "()V"⟩
abbrev cX5_of : ByteArray := prog_7_method_26_code
def yX5_of : MethodName := ⟨RX5, "of", "(II)I"⟩
abbrev cX5_becomesOf : ByteArray := prog_7_method_27_code
def yX5_becomesOf : MethodName := ⟨RX5, "becomesOf", "(III)V"⟩
abbrev cX5_ofPress : ByteArray := prog_7_method_28_code
def yX5_ofPress : MethodName := ⟨RX5, "ofPress", "(II)I"⟩
abbrev cX5_latestPress : ByteArray := prog_7_method_29_code
def yX5_latestPress : MethodName := ⟨RX5, "latestPress", "(II)I"⟩
abbrev cX5_contactOf : ByteArray := prog_7_method_30_code
def yX5_contactOf : MethodName := ⟨RX5, "contactOf", "(II)I"⟩
abbrev cX5_wants : ByteArray := prog_7_method_31_code
def yX5_wants : MethodName := ⟨RX5, "wants", "(I)I"⟩
abbrev cX5_shuts : ByteArray := prog_7_method_32_code
def yX5_shuts : MethodName := ⟨RX5, "shuts", "(I)I"⟩
abbrev cX5_comesToSay : ByteArray := prog_7_method_33_code
def yX5_comesToSay : MethodName := ⟨RX5, "comesToSay", "(II)V"⟩
abbrev cX5_weighs : ByteArray := prog_7_method_34_code
def yX5_weighs : MethodName := ⟨RX5, "weighs", "(II)V"⟩
abbrev cX5_countsUp : ByteArray := prog_7_method_35_code
def yX5_countsUp : MethodName := ⟨RX5, "countsUp", "(II)V"⟩
abbrev cX5_looks : ByteArray := prog_7_method_36_code
def yX5_looks : MethodName := ⟨RX5, "looks", "(II)V"⟩
abbrev cX5_contactsNow : ByteArray := prog_7_method_37_code
def yX5_contactsNow : MethodName := ⟨RX5, "contactsNow", "()I"⟩
abbrev cX5_says : ByteArray := prog_7_method_38_code
def yX5_says : MethodName := ⟨RX5, "says", "()I"⟩
abbrev cX5_tickGoesBy : ByteArray := prog_7_method_39_code
def yX5_tickGoesBy : MethodName := ⟨RX5, "tickGoesBy", "(I)V"⟩
abbrev cX5_ticksGo : ByteArray := prog_7_method_40_code
def yX5_ticksGo : MethodName := ⟨RX5, "ticksGo", "(I)V"⟩
abbrev cX5_struckByAll : ByteArray := prog_7_method_41_code
def yX5_struckByAll : MethodName := ⟨RX5, "struckByAll", "()I"⟩
abbrev cX5_cutsSum : ByteArray := prog_7_method_42_code
def yX5_cutsSum : MethodName := ⟨RX5, "cutsSum", "(I)V"⟩
abbrev cX5_sumOf : ByteArray := prog_7_method_43_code
def yX5_sumOf : MethodName := ⟨RX5, "sumOf", "(I)I"⟩
abbrev cX5_rule : ByteArray := prog_7_method_44_code
def yX5_rule : MethodName := ⟨RX5, "rule", "(I)I"⟩
abbrev cX5_key : ByteArray := prog_7_method_45_code
def yX5_key : MethodName := ⟨RX5, "key", "(II)I"⟩
abbrev cX5_press : ByteArray := prog_7_method_46_code
def yX5_press : MethodName := ⟨RX5, "press", "(II)I"⟩
abbrev cX5_contact : ByteArray := prog_7_method_47_code
def yX5_contact : MethodName := ⟨RX5, "contact", "(II)I"⟩
abbrev cX5_becomes : ByteArray := prog_7_method_48_code
def yX5_becomes : MethodName := ⟨RX5, "becomes", "(II)I"⟩
abbrev cX5_lowOf : ByteArray := prog_7_method_49_code
def yX5_lowOf : MethodName := ⟨RX5, "lowOf", "(I)I"⟩
abbrev cX5_mostOf : ByteArray := prog_7_method_50_code
def yX5_mostOf : MethodName := ⟨RX5, "mostOf", "(I)I"⟩
abbrev cX5_alter : ByteArray := prog_7_method_51_code
def yX5_alter : MethodName := ⟨RX5, "alter", "(III)I"⟩
abbrev cX5_every : ByteArray := prog_7_method_52_code
def yX5_every : MethodName := ⟨RX5, "every", "(I)I"⟩
abbrev cX5_strike : ByteArray := prog_7_method_53_code
def yX5_strike : MethodName := ⟨RX5, "strike", "(III)I"⟩
abbrev cX5_drop : ByteArray := prog_7_method_54_code
def yX5_drop : MethodName := ⟨RX5, "drop", "(I)I"⟩
abbrev cX5_ticks : ByteArray := prog_7_method_55_code
def yX5_ticks : MethodName := ⟨RX5, "ticks", "(I)I"⟩
abbrev cX5_isFar : ByteArray := prog_7_method_56_code
def yX5_isFar : MethodName := ⟨RX5, "isFar", "(I)Z"⟩
abbrev cX5_runs : ByteArray := prog_7_method_57_code
def yX5_runs : MethodName := ⟨RX5, "runs", "(II)I"⟩
abbrev cX5_ahead : ByteArray := prog_7_method_58_code
def yX5_ahead : MethodName := ⟨RX5, "ahead", "(III)I"⟩
abbrev cX5_when : ByteArray := prog_7_method_59_code
def yX5_when : MethodName := ⟨RX5, "when", "(II)I"⟩
abbrev cX5_dueIn : ByteArray := prog_7_method_60_code
def yX5_dueIn : MethodName := ⟨RX5, "dueIn", "(I)I"⟩
abbrev cX5_due : ByteArray := prog_7_method_61_code
def yX5_due : MethodName := ⟨RX5, "due", "(I)I"⟩
abbrev cX5_startsJudging : ByteArray := prog_7_method_62_code
def yX5_startsJudging : MethodName := ⟨RX5, "startsJudging", "(I)V"⟩
abbrev cX5_judges : ByteArray := prog_7_method_63_code
def yX5_judges : MethodName := ⟨RX5, "judges", "(II)V"⟩
abbrev cX5_startsWith : ByteArray := prog_7_method_64_code
def yX5_startsWith : MethodName := ⟨RX5, "startsWith", "(III)V"⟩
abbrev cX5_strikesJust : ByteArray := prog_7_method_65_code
def yX5_strikesJust : MethodName := ⟨RX5, "strikesJust", "(IIIII)Z"⟩
abbrev cX5_need : ByteArray := prog_7_method_66_code
def yX5_need : MethodName := ⟨RX5, "need", "(III)I"⟩
abbrev cX5_bear : ByteArray := prog_7_method_67_code
def yX5_bear : MethodName := ⟨RX5, "bear", "(III)I"⟩
abbrev cX5_offIn : ByteArray := prog_7_method_68_code
def yX5_offIn : MethodName := ⟨RX5, "offIn", "(I)I"⟩
abbrev cX5_kind : ByteArray := prog_7_method_69_code
def yX5_kind : MethodName := ⟨RX5, "kind", "(III)I"⟩
abbrev cX5_slow : ByteArray := prog_7_method_70_code
def yX5_slow : MethodName := ⟨RX5, "slow", "(II)I"⟩
abbrev cX5_lose : ByteArray := prog_7_method_71_code
def yX5_lose : MethodName := ⟨RX5, "lose", "(II)I"⟩
abbrev cX5_common : ByteArray := prog_7_method_72_code
def yX5_common : MethodName := ⟨RX5, "common", "(JJ)J"⟩
abbrev cX5_lowest : ByteArray := prog_7_method_73_code
def yX5_lowest : MethodName := ⟨RX5, "lowest", "(JJI)J"⟩
abbrev cX5_findOdds : ByteArray := prog_7_method_74_code
def yX5_findOdds : MethodName := ⟨RX5, "findOdds", "(III)V"⟩
abbrev cX5_luck : ByteArray := prog_7_method_75_code
def yX5_luck : MethodName := ⟨RX5, "luck", "(IIII)J"⟩
abbrev cX5_mean : ByteArray := prog_7_method_76_code
def yX5_mean : MethodName := ⟨RX5, "mean", "(III)J"⟩
abbrev cX5_see : ByteArray := prog_7_method_77_code
def yX5_see : MethodName := ⟨RX5, "see", "(III)I"⟩
abbrev cX5_forget : ByteArray := prog_7_method_78_code
def yX5_forget : MethodName := ⟨RX5, "forget", "(I)I"⟩
abbrev cX5_isSoWith : ByteArray := prog_7_method_79_code
def yX5_isSoWith : MethodName := ⟨RX5, "isSoWith", "(III)Z"⟩
abbrev cX5_which : ByteArray := prog_7_method_80_code
def yX5_which : MethodName := ⟨RX5, "which", "(II)I"⟩
abbrev cX5_kinds : ByteArray := prog_7_method_81_code
def yX5_kinds : MethodName := ⟨RX5, "kinds", "(I)I"⟩
abbrev cX5_numbers : ByteArray := prog_7_method_82_code
def yX5_numbers : MethodName := ⟨RX5, "numbers", "(I)I"⟩
abbrev cX5_bounces : ByteArray := prog_7_method_83_code
def yX5_bounces : MethodName := ⟨RX5, "bounces", "(I)I"⟩
abbrev cX5_ask : ByteArray := prog_7_method_84_code
def yX5_ask : MethodName := ⟨RX5, "ask", "(II)I"⟩
abbrev cX5_drift : ByteArray := prog_7_method_85_code
def yX5_drift : MethodName := ⟨RX5, "drift", "(III)I"⟩
abbrev cX5_copies : ByteArray := prog_7_method_86_code
def yX5_copies : MethodName := ⟨RX5, "copies", "(II)V"⟩
abbrev cX5_keep : ByteArray := prog_7_method_87_code
def yX5_keep : MethodName := ⟨RX5, "keep", "(I)I"⟩
abbrev cX5_back : ByteArray := prog_7_method_88_code
def yX5_back : MethodName := ⟨RX5, "back", "(I)I"⟩
abbrev cX5_isSheet : ByteArray := prog_7_method_89_code
def yX5_isSheet : MethodName := ⟨RX5, "isSheet", "(II)Z"⟩
abbrev cX5_sheet : ByteArray := prog_7_method_90_code
def yX5_sheet : MethodName := ⟨RX5, "sheet", "(III)I"⟩
abbrev cX5_lay : ByteArray := prog_7_method_91_code
def yX5_lay : MethodName := ⟨RX5, "lay", "(III)I"⟩
abbrev cX5_read : ByteArray := prog_7_method_92_code
def yX5_read : MethodName := ⟨RX5, "read", "(IIII)I"⟩
abbrev cX5_torn : ByteArray := prog_7_method_93_code
def yX5_torn : MethodName := ⟨RX5, "torn", "()I"⟩
abbrev cX5_count : ByteArray := prog_7_method_94_code
def yX5_count : MethodName := ⟨RX5, "count", "(I)I"⟩
def RJ6 : String := "java/lang/Integer"
def TJ6 : u_T := fun k => match k with
  | _ => ("", "", "", false)
def tyJ6 : Nat → FieldType := fun k => match k with
  | _ => .int
theorem nmJ6 : ∀ a, a < 0 → ∀ b, b < 0 → a ≠ b → (TJ6 a).2.1 ≠ (TJ6 b).2.1 := by decide +kernel
theorem tyJ6_ok : ∀ k, k < 0 → parseFieldDescriptor (TJ6 k).2.2.1 = some (tyJ6 k) := by decide +kernel
abbrev cJ6_bitCount_0f7a4 : ByteArray := prog_8_method_49_code
def yJ6_bitCount_0f7a4 : MethodName := ⟨RJ6, "bitCount", "(I)I"⟩
def RJ9 : String := "java/lang/Math"
def TJ9 : u_T := fun k => match k with
  | _ => ("", "", "", false)
def tyJ9 : Nat → FieldType := fun k => match k with
  | _ => .int
theorem nmJ9 : ∀ a, a < 0 → ∀ b, b < 0 → a ≠ b → (TJ9 a).2.1 ≠ (TJ9 b).2.1 := by decide +kernel
theorem tyJ9_ok : ∀ k, k < 0 → parseFieldDescriptor (TJ9 k).2.2.1 = some (tyJ9 k) := by decide +kernel
abbrev cJ9_abs_0f7a4 : ByteArray := prog_9_method_59_code
def yJ9_abs_0f7a4 : MethodName := ⟨RJ9, "abs", "(I)I"⟩
abbrev cJ9_max_7cf53 : ByteArray := prog_9_method_65_code
def yJ9_max_7cf53 : MethodName := ⟨RJ9, "max", "(II)I"⟩
abbrev cJ9_min_7cf53 : ByteArray := prog_9_method_69_code
def yJ9_min_7cf53 : MethodName := ⟨RJ9, "min", "(II)I"⟩
def RJ0 : String := "java/lang/String"
def TJ0 : u_T := fun k => match k with
  | _ => ("", "", "", false)
def tyJ0 : Nat → FieldType := fun k => match k with
  | _ => .int
theorem nmJ0 : ∀ a, a < 0 → ∀ b, b < 0 → a ≠ b → (TJ0 a).2.1 ≠ (TJ0 b).2.1 := by decide +kernel
theorem tyJ0_ok : ∀ k, k < 0 → parseFieldDescriptor (TJ0 k).2.2.1 = some (tyJ0 k) := by decide +kernel
abbrev cJ0_length_8abf5 : ByteArray := prog_10_method_54_code
def yJ0_length_8abf5 : MethodName := ⟨RJ0, "length", "()I"⟩
abbrev cJ0_charAt_5068e : ByteArray := prog_10_method_56_code
def yJ0_charAt_5068e : MethodName := ⟨RJ0, "charAt", "(I)C"⟩
abbrev cJ0_coder_7d493 : ByteArray := prog_10_method_152_code
def yJ0_coder_7d493 : MethodName := ⟨RJ0, "coder", "()B"⟩
abbrev cJ0_isLatin1_aae02 : ByteArray := prog_10_method_154_code
def yJ0_isLatin1_aae02 : MethodName := ⟨RJ0, "isLatin1", "()Z"⟩
abbrev cJ0_checkIndex_df160 : ByteArray := prog_10_method_155_code
def yJ0_checkIndex_df160 : MethodName := ⟨RJ0, "checkIndex", "(II)V"⟩
def RJ1 : String := "java/lang/StringLatin1"
def TJ1 : u_T := fun k => match k with
  | _ => ("", "", "", false)
def tyJ1 : Nat → FieldType := fun k => match k with
  | _ => .int
theorem nmJ1 : ∀ a, a < 0 → ∀ b, b < 0 → a ≠ b → (TJ1 a).2.1 ≠ (TJ1 b).2.1 := by decide +kernel
theorem tyJ1_ok : ∀ k, k < 0 → parseFieldDescriptor (TJ1 k).2.2.1 = some (tyJ1 k) := by decide +kernel
abbrev cJ1_charAt_3b067 : ByteArray := prog_11_method_2_code
def yJ1_charAt_3b067 : MethodName := ⟨RJ1, "charAt", "([BI)C"⟩
def RJ2 : String := "java/lang/StringUTF16"
def TJ2 : u_T := fun k => match k with
  | _ => ("", "", "", false)
def tyJ2 : Nat → FieldType := fun k => match k with
  | _ => .int
theorem nmJ2 : ∀ a, a < 0 → ∀ b, b < 0 → a ≠ b → (TJ2 a).2.1 ≠ (TJ2 b).2.1 := by decide +kernel
theorem tyJ2_ok : ∀ k, k < 0 → parseFieldDescriptor (TJ2 k).2.2.1 = some (tyJ2 k) := by decide +kernel
abbrev cJ2_getChar_3b067 : ByteArray := prog_12_method_5_code
def yJ2_getChar_3b067 : MethodName := ⟨RJ2, "getChar", "([BI)C"⟩
abbrev cJ2_length_9d52b : ByteArray := prog_12_method_6_code
def yJ2_length_9d52b : MethodName := ⟨RJ2, "length", "([B)I"⟩
abbrev cJ2_charAt_3b067 : ByteArray := prog_12_method_83_code
def yJ2_charAt_3b067 : MethodName := ⟨RJ2, "charAt", "([BI)C"⟩
abbrev cJ2_checkIndex_2214a : ByteArray := prog_12_method_91_code
def yJ2_checkIndex_2214a : MethodName := ⟨RJ2, "checkIndex", "(I[B)V"⟩
def RJ3 : String := "jdk/internal/util/Preconditions"
def TJ3 : u_T := fun k => match k with
  | _ => ("", "", "", false)
def tyJ3 : Nat → FieldType := fun k => match k with
  | _ => .int
theorem nmJ3 : ∀ a, a < 0 → ∀ b, b < 0 → a ≠ b → (TJ3 a).2.1 ≠ (TJ3 b).2.1 := by decide +kernel
theorem tyJ3_ok : ∀ k, k < 0 → parseFieldDescriptor (TJ3 k).2.2.1 = some (tyJ3 k) := by decide +kernel
abbrev cJ3_checkIndex_8e157 : ByteArray := prog_13_method_11_code
def yJ3_checkIndex_8e157 : MethodName := ⟨RJ3, "checkIndex", "(IILjava/util/function/BiFunction;)I"⟩
def RL : String := "KeySievesLaw"
abbrev am_cl : List vw_C := [(RX0, TX0, 12), (RX1, TX1, 9), (RX2, TX2, 3), (RX3, TX3, 10), (RX4, TX4, 12), (RX5, TX5, 29)]
def am_T : List Cond := lw_tbl.filter goodWord
theorem am_in {w : Cond} (i : Nat) (h : lw_tbl[i]? = some w) (g : goodWord w = true) : w ∈ am_T := List.mem_filter.mpr ⟨List.mem_of_getElem? h, g⟩
abbrev am_M : Type := MethodName × ByteArray × Nat × Option FieldType
/-- what the tables say of a method that is called virtually, and of its code -/
def am_okC (M : am_M) : Prop := Cond.code M.1 M.2.1 M.2.2.1 M.2.2.2 ∈ am_T ∧ Cond.initialized M.1.cls ∈ am_T ∧ M.1.cls ≠ "java/lang/invoke/MethodHandle" ∧ M.1.cls ≠ "java/lang/invoke/VarHandle" ∧ plainName M.1.cls = true ∧ M.2.2.1 ≤ 21
def am_okV (M : am_M) : Prop := am_okC M ∧ Cond.instanceMethod M.1 ∈ am_T ∧ Cond.selects M.1.cls M.1 M.1 ∈ am_T
def am_okI (M : am_M) : Prop := am_okC M ∧ Cond.instanceMethod M.1 ∈ am_T ∧ M.1.name = "<init>"
def am_okS (M : am_M) : Prop := am_okC M ∧ Cond.static M.1 ∈ am_T
def MX0_addKey : am_M := (yX0_addKey, cX0_addKey, 4, none)
theorem oX0_addKey : am_okV MX0_addKey := ⟨⟨(am_in 432 (by decide +kernel) (by decide +kernel)), (am_in 74 (by decide +kernel) (by decide +kernel)), by decide +kernel, by decide +kernel, by decide +kernel, by decide⟩, (am_in 430 (by decide +kernel) (by decide +kernel)), (am_in 431 (by decide +kernel) (by decide +kernel))⟩
def MX0_addPress : am_M := (yX0_addPress, cX0_addPress, 4, none)
theorem oX0_addPress : am_okV MX0_addPress := ⟨⟨(am_in 424 (by decide +kernel) (by decide +kernel)), (am_in 74 (by decide +kernel) (by decide +kernel)), by decide +kernel, by decide +kernel, by decide +kernel, by decide⟩, (am_in 422 (by decide +kernel) (by decide +kernel)), (am_in 423 (by decide +kernel) (by decide +kernel))⟩
def MX0_addSeen : am_M := (yX0_addSeen, cX0_addSeen, 4, none)
theorem oX0_addSeen : am_okV MX0_addSeen := ⟨⟨(am_in 708 (by decide +kernel) (by decide +kernel)), (am_in 74 (by decide +kernel) (by decide +kernel)), by decide +kernel, by decide +kernel, by decide +kernel, by decide⟩, (am_in 706 (by decide +kernel) (by decide +kernel)), (am_in 707 (by decide +kernel) (by decide +kernel))⟩
def MX0_advance : am_M := (yX0_advance, cX0_advance, 3, none)
theorem oX0_advance : am_okV MX0_advance := ⟨⟨(am_in 554 (by decide +kernel) (by decide +kernel)), (am_in 74 (by decide +kernel) (by decide +kernel)), by decide +kernel, by decide +kernel, by decide +kernel, by decide⟩, (am_in 552 (by decide +kernel) (by decide +kernel)), (am_in 553 (by decide +kernel) (by decide +kernel))⟩
def MX0_advanceCountingWrong : am_M := (yX0_advanceCountingWrong, cX0_advanceCountingWrong, 5, (some .int))
theorem oX0_advanceCountingWrong : am_okV MX0_advanceCountingWrong := ⟨⟨(am_in 597 (by decide +kernel) (by decide +kernel)), (am_in 74 (by decide +kernel) (by decide +kernel)), by decide +kernel, by decide +kernel, by decide +kernel, by decide⟩, (am_in 595 (by decide +kernel) (by decide +kernel)), (am_in 596 (by decide +kernel) (by decide +kernel))⟩
def MX0_changedInRun : am_M := (yX0_changedInRun, cX0_changedInRun, 3, (some .int))
theorem oX0_changedInRun : am_okV MX0_changedInRun := ⟨⟨(am_in 602 (by decide +kernel) (by decide +kernel)), (am_in 74 (by decide +kernel) (by decide +kernel)), by decide +kernel, by decide +kernel, by decide +kernel, by decide⟩, (am_in 600 (by decide +kernel) (by decide +kernel)), (am_in 601 (by decide +kernel) (by decide +kernel))⟩
def MX0_clear : am_M := (yX0_clear, cX0_clear, 1, none)
theorem oX0_clear : am_okV MX0_clear := ⟨⟨(am_in 313 (by decide +kernel) (by decide +kernel)), (am_in 74 (by decide +kernel) (by decide +kernel)), by decide +kernel, by decide +kernel, by decide +kernel, by decide⟩, (am_in 311 (by decide +kernel) (by decide +kernel)), (am_in 312 (by decide +kernel) (by decide +kernel))⟩
def MX0_contactAt : am_M := (yX0_contactAt, cX0_contactAt, 6, (some .int))
theorem oX0_contactAt : am_okV MX0_contactAt := ⟨⟨(am_in 485 (by decide +kernel) (by decide +kernel)), (am_in 74 (by decide +kernel) (by decide +kernel)), by decide +kernel, by decide +kernel, by decide +kernel, by decide⟩, (am_in 483 (by decide +kernel) (by decide +kernel)), (am_in 484 (by decide +kernel) (by decide +kernel))⟩
def MX0_contactBits : am_M := (yX0_contactBits, cX0_contactBits, 3, (some .int))
theorem oX0_contactBits : am_okV MX0_contactBits := ⟨⟨(am_in 481 (by decide +kernel) (by decide +kernel)), (am_in 74 (by decide +kernel) (by decide +kernel)), by decide +kernel, by decide +kernel, by decide +kernel, by decide⟩, (am_in 479 (by decide +kernel) (by decide +kernel)), (am_in 480 (by decide +kernel) (by decide +kernel))⟩
def MX0_copyFrom : am_M := (yX0_copyFrom, cX0_copyFrom, 3, none)
theorem oX0_copyFrom : am_okV MX0_copyFrom := ⟨⟨(am_in 457 (by decide +kernel) (by decide +kernel)), (am_in 74 (by decide +kernel) (by decide +kernel)), by decide +kernel, by decide +kernel, by decide +kernel, by decide⟩, (am_in 455 (by decide +kernel) (by decide +kernel)), (am_in 456 (by decide +kernel) (by decide +kernel))⟩
def MX0_copySievesFrom : am_M := (yX0_copySievesFrom, cX0_copySievesFrom, 3, none)
theorem oX0_copySievesFrom : am_okV MX0_copySievesFrom := ⟨⟨(am_in 461 (by decide +kernel) (by decide +kernel)), (am_in 74 (by decide +kernel) (by decide +kernel)), by decide +kernel, by decide +kernel, by decide +kernel, by decide⟩, (am_in 459 (by decide +kernel) (by decide +kernel)), (am_in 460 (by decide +kernel) (by decide +kernel))⟩
def MX0_dueIn : am_M := (yX0_dueIn, cX0_dueIn, 4, (some .int))
theorem oX0_dueIn : am_okV MX0_dueIn := ⟨⟨(am_in 618 (by decide +kernel) (by decide +kernel)), (am_in 74 (by decide +kernel) (by decide +kernel)), by decide +kernel, by decide +kernel, by decide +kernel, by decide⟩, (am_in 616 (by decide +kernel) (by decide +kernel)), (am_in 617 (by decide +kernel) (by decide +kernel))⟩
def MX0_hasKey : am_M := (yX0_hasKey, cX0_hasKey, 2, (some .boolean))
theorem oX0_hasKey : am_okV MX0_hasKey := ⟨⟨(am_in 452 (by decide +kernel) (by decide +kernel)), (am_in 74 (by decide +kernel) (by decide +kernel)), by decide +kernel, by decide +kernel, by decide +kernel, by decide⟩, (am_in 450 (by decide +kernel) (by decide +kernel)), (am_in 451 (by decide +kernel) (by decide +kernel))⟩
def MX0_hasPressOfNoKey : am_M := (yX0_hasPressOfNoKey, cX0_hasPressOfNoKey, 2, (some .boolean))
theorem oX0_hasPressOfNoKey : am_okV MX0_hasPressOfNoKey := ⟨⟨(am_in 448 (by decide +kernel) (by decide +kernel)), (am_in 74 (by decide +kernel) (by decide +kernel)), by decide +kernel, by decide +kernel, by decide +kernel, by decide⟩, (am_in 446 (by decide +kernel) (by decide +kernel)), (am_in 447 (by decide +kernel) (by decide +kernel))⟩
def MX0_init : am_M := (yX0_init, cX0_init, 2, none)
theorem oX0_init : am_okI MX0_init := ⟨⟨(am_in 97 (by decide +kernel) (by decide +kernel)), (am_in 74 (by decide +kernel) (by decide +kernel)), by decide +kernel, by decide +kernel, by decide +kernel, by decide⟩, (am_in 96 (by decide +kernel) (by decide +kernel)), rfl⟩
def MX0_isAsSeen : am_M := (yX0_isAsSeen, cX0_isAsSeen, 3, (some .boolean))
theorem oX0_isAsSeen : am_okV MX0_isAsSeen := ⟨⟨(am_in 724 (by decide +kernel) (by decide +kernel)), (am_in 74 (by decide +kernel) (by decide +kernel)), by decide +kernel, by decide +kernel, by decide +kernel, by decide⟩, (am_in 722 (by decide +kernel) (by decide +kernel)), (am_in 723 (by decide +kernel) (by decide +kernel))⟩
def MX0_lastSeenTicks : am_M := (yX0_lastSeenTicks, cX0_lastSeenTicks, 3, (some .int))
theorem oX0_lastSeenTicks : am_okV MX0_lastSeenTicks := ⟨⟨(am_in 728 (by decide +kernel) (by decide +kernel)), (am_in 74 (by decide +kernel) (by decide +kernel)), by decide +kernel, by decide +kernel, by decide +kernel, by decide⟩, (am_in 727 (by decide +kernel) (by decide +kernel)), (am_in 23 (by decide +kernel) (by decide +kernel))⟩
def MX0_latestPress : am_M := (yX0_latestPress, cX0_latestPress, 6, (some .int))
theorem oX0_latestPress : am_okV MX0_latestPress := ⟨⟨(am_in 489 (by decide +kernel) (by decide +kernel)), (am_in 74 (by decide +kernel) (by decide +kernel)), by decide +kernel, by decide +kernel, by decide +kernel, by decide⟩, (am_in 488 (by decide +kernel) (by decide +kernel)), (am_in 12 (by decide +kernel) (by decide +kernel))⟩
def MX0_removePress : am_M := (yX0_removePress, cX0_removePress, 3, none)
theorem oX0_removePress : am_okV MX0_removePress := ⟨⟨(am_in 660 (by decide +kernel) (by decide +kernel)), (am_in 74 (by decide +kernel) (by decide +kernel)), by decide +kernel, by decide +kernel, by decide +kernel, by decide⟩, (am_in 658 (by decide +kernel) (by decide +kernel)), (am_in 659 (by decide +kernel) (by decide +kernel))⟩
def MX0_saysAsSeenBehind : am_M := (yX0_saysAsSeenBehind, cX0_saysAsSeenBehind, 4, (some .boolean))
theorem oX0_saysAsSeenBehind : am_okV MX0_saysAsSeenBehind := ⟨⟨(am_in 733 (by decide +kernel) (by decide +kernel)), (am_in 74 (by decide +kernel) (by decide +kernel)), by decide +kernel, by decide +kernel, by decide +kernel, by decide⟩, (am_in 732 (by decide +kernel) (by decide +kernel)), (am_in 24 (by decide +kernel) (by decide +kernel))⟩
def MX0_saysBits : am_M := (yX0_saysBits, cX0_saysBits, 3, (some .int))
theorem oX0_saysBits : am_okV MX0_saysBits := ⟨⟨(am_in 477 (by decide +kernel) (by decide +kernel)), (am_in 74 (by decide +kernel) (by decide +kernel)), by decide +kernel, by decide +kernel, by decide +kernel, by decide⟩, (am_in 475 (by decide +kernel) (by decide +kernel)), (am_in 476 (by decide +kernel) (by decide +kernel))⟩
def MX0_startRun : am_M := (yX0_startRun, cX0_startRun, 2, none)
theorem oX0_startRun : am_okV MX0_startRun := ⟨⟨(am_in 549 (by decide +kernel) (by decide +kernel)), (am_in 74 (by decide +kernel) (by decide +kernel)), by decide +kernel, by decide +kernel, by decide +kernel, by decide⟩, (am_in 547 (by decide +kernel) (by decide +kernel)), (am_in 548 (by decide +kernel) (by decide +kernel))⟩
def MX0_strokesOfAll : am_M := (yX0_strokesOfAll, cX0_strokesOfAll, 3, (some .int))
theorem oX0_strokesOfAll : am_okV MX0_strokesOfAll := ⟨⟨(am_in 493 (by decide +kernel) (by decide +kernel)), (am_in 74 (by decide +kernel) (by decide +kernel)), by decide +kernel, by decide +kernel, by decide +kernel, by decide⟩, (am_in 491 (by decide +kernel) (by decide +kernel)), (am_in 492 (by decide +kernel) (by decide +kernel))⟩
def MX0_struckInRun : am_M := (yX0_struckInRun, cX0_struckInRun, 3, (some .int))
theorem oX0_struckInRun : am_okV MX0_struckInRun := ⟨⟨(am_in 582 (by decide +kernel) (by decide +kernel)), (am_in 74 (by decide +kernel) (by decide +kernel)), by decide +kernel, by decide +kernel, by decide +kernel, by decide⟩, (am_in 580 (by decide +kernel) (by decide +kernel)), (am_in 581 (by decide +kernel) (by decide +kernel))⟩
def MX0_sumOfPart : am_M := (yX0_sumOfPart, cX0_sumOfPart, 4, (some .int))
theorem oX0_sumOfPart : am_okV MX0_sumOfPart := ⟨⟨(am_in 830 (by decide +kernel) (by decide +kernel)), (am_in 74 (by decide +kernel) (by decide +kernel)), by decide +kernel, by decide +kernel, by decide +kernel, by decide⟩, (am_in 828 (by decide +kernel) (by decide +kernel)), (am_in 829 (by decide +kernel) (by decide +kernel))⟩
def MX0_tickWith : am_M := (yX0_tickWith, cX0_tickWith, 3, none)
theorem oX0_tickWith : am_okV MX0_tickWith := ⟨⟨(am_in 559 (by decide +kernel) (by decide +kernel)), (am_in 74 (by decide +kernel) (by decide +kernel)), by decide +kernel, by decide +kernel, by decide +kernel, by decide⟩, (am_in 557 (by decide +kernel) (by decide +kernel)), (am_in 558 (by decide +kernel) (by decide +kernel))⟩
def MX1_become : am_M := (yX1_become, cX1_become, 3, none)
theorem oX1_become : am_okV MX1_become := ⟨⟨(am_in 523 (by decide +kernel) (by decide +kernel)), (am_in 75 (by decide +kernel) (by decide +kernel)), by decide +kernel, by decide +kernel, by decide +kernel, by decide⟩, (am_in 521 (by decide +kernel) (by decide +kernel)), (am_in 522 (by decide +kernel) (by decide +kernel))⟩
def MX1_begin : am_M := (yX1_begin, cX1_begin, 4, none)
theorem oX1_begin : am_okV MX1_begin := ⟨⟨(am_in 436 (by decide +kernel) (by decide +kernel)), (am_in 75 (by decide +kernel) (by decide +kernel)), by decide +kernel, by decide +kernel, by decide +kernel, by decide⟩, (am_in 434 (by decide +kernel) (by decide +kernel)), (am_in 435 (by decide +kernel) (by decide +kernel))⟩
def MX1_compare : am_M := (yX1_compare, cX1_compare, 3, (some .int))
theorem oX1_compare : am_okV MX1_compare := ⟨⟨(am_in 574 (by decide +kernel) (by decide +kernel)), (am_in 75 (by decide +kernel) (by decide +kernel)), by decide +kernel, by decide +kernel, by decide +kernel, by decide⟩, (am_in 573 (by decide +kernel) (by decide +kernel)), (am_in 15 (by decide +kernel) (by decide +kernel))⟩
def MX1_copyFrom : am_M := (yX1_copyFrom, cX1_copyFrom, 2, none)
theorem oX1_copyFrom : am_okV MX1_copyFrom := ⟨⟨(am_in 465 (by decide +kernel) (by decide +kernel)), (am_in 75 (by decide +kernel) (by decide +kernel)), by decide +kernel, by decide +kernel, by decide +kernel, by decide⟩, (am_in 463 (by decide +kernel) (by decide +kernel)), (am_in 464 (by decide +kernel) (by decide +kernel))⟩
def MX1_init : am_M := (yX1_init, cX1_init, 1, none)
theorem oX1_init : am_okI MX1_init := ⟨⟨(am_in 104 (by decide +kernel) (by decide +kernel)), (am_in 75 (by decide +kernel) (by decide +kernel)), by decide +kernel, by decide +kernel, by decide +kernel, by decide⟩, (am_in 103 (by decide +kernel) (by decide +kernel)), rfl⟩
def MX1_look : am_M := (yX1_look, cX1_look, 2, none)
theorem oX1_look : am_okV MX1_look := ⟨⟨(am_in 563 (by decide +kernel) (by decide +kernel)), (am_in 75 (by decide +kernel) (by decide +kernel)), by decide +kernel, by decide +kernel, by decide +kernel, by decide⟩, (am_in 561 (by decide +kernel) (by decide +kernel)), (am_in 562 (by decide +kernel) (by decide +kernel))⟩
def MX1_mayBe : am_M := (yX1_mayBe, cX1_mayBe, 2, (some .boolean))
theorem oX1_mayBe : am_okS MX1_mayBe := ⟨⟨(am_in 518 (by decide +kernel) (by decide +kernel)), (am_in 75 (by decide +kernel) (by decide +kernel)), by decide +kernel, by decide +kernel, by decide +kernel, by decide⟩, (am_in 517 (by decide +kernel) (by decide +kernel))⟩
def MX1_part : am_M := (yX1_part, cX1_part, 2, (some .int))
theorem oX1_part : am_okV MX1_part := ⟨⟨(am_in 502 (by decide +kernel) (by decide +kernel)), (am_in 75 (by decide +kernel) (by decide +kernel)), by decide +kernel, by decide +kernel, by decide +kernel, by decide⟩, (am_in 500 (by decide +kernel) (by decide +kernel)), (am_in 501 (by decide +kernel) (by decide +kernel))⟩
def MX1_say : am_M := (yX1_say, cX1_say, 2, none)
theorem oX1_say : am_okV MX1_say := ⟨⟨(am_in 578 (by decide +kernel) (by decide +kernel)), (am_in 75 (by decide +kernel) (by decide +kernel)), by decide +kernel, by decide +kernel, by decide +kernel, by decide⟩, (am_in 577 (by decide +kernel) (by decide +kernel)), (am_in 16 (by decide +kernel) (by decide +kernel))⟩
def MX1_startRun : am_M := (yX1_startRun, cX1_startRun, 1, none)
theorem oX1_startRun : am_okV MX1_startRun := ⟨⟨(am_in 440 (by decide +kernel) (by decide +kernel)), (am_in 75 (by decide +kernel) (by decide +kernel)), by decide +kernel, by decide +kernel, by decide +kernel, by decide⟩, (am_in 438 (by decide +kernel) (by decide +kernel)), (am_in 439 (by decide +kernel) (by decide +kernel))⟩
def MX1_weigh : am_M := (yX1_weigh, cX1_weigh, 2, (some .int))
theorem oX1_weigh : am_okV MX1_weigh := ⟨⟨(am_in 567 (by decide +kernel) (by decide +kernel)), (am_in 75 (by decide +kernel) (by decide +kernel)), by decide +kernel, by decide +kernel, by decide +kernel, by decide⟩, (am_in 566 (by decide +kernel) (by decide +kernel)), (am_in 14 (by decide +kernel) (by decide +kernel))⟩
def MX2_faultAs : am_M := (yX2_faultAs, cX2_faultAs, 2, (some .int))
theorem oX2_faultAs : am_okV MX2_faultAs := ⟨⟨(am_in 813 (by decide +kernel) (by decide +kernel)), (am_in 76 (by decide +kernel) (by decide +kernel)), by decide +kernel, by decide +kernel, by decide +kernel, by decide⟩, (am_in 812 (by decide +kernel) (by decide +kernel)), (am_in 27 (by decide +kernel) (by decide +kernel))⟩
def MX2_faultAt : am_M := (yX2_faultAt, cX2_faultAt, 2, (some .int))
theorem oX2_faultAt : am_okV MX2_faultAt := ⟨⟨(am_in 792 (by decide +kernel) (by decide +kernel)), (am_in 76 (by decide +kernel) (by decide +kernel)), by decide +kernel, by decide +kernel, by decide +kernel, by decide⟩, (am_in 790 (by decide +kernel) (by decide +kernel)), (am_in 791 (by decide +kernel) (by decide +kernel))⟩
def MX2_faultOfThree : am_M := (yX2_faultOfThree, cX2_faultOfThree, 5, (some .int))
theorem oX2_faultOfThree : am_okV MX2_faultOfThree := ⟨⟨(am_in 809 (by decide +kernel) (by decide +kernel)), (am_in 76 (by decide +kernel) (by decide +kernel)), by decide +kernel, by decide +kernel, by decide +kernel, by decide⟩, (am_in 807 (by decide +kernel) (by decide +kernel)), (am_in 808 (by decide +kernel) (by decide +kernel))⟩
def MX2_get : am_M := (yX2_get, cX2_get, 2, (some .int))
theorem oX2_get : am_okV MX2_get := ⟨⟨(am_in 817 (by decide +kernel) (by decide +kernel)), (am_in 76 (by decide +kernel) (by decide +kernel)), by decide +kernel, by decide +kernel, by decide +kernel, by decide⟩, (am_in 815 (by decide +kernel) (by decide +kernel)), (am_in 816 (by decide +kernel) (by decide +kernel))⟩
def MX2_init : am_M := (yX2_init, cX2_init, 1, none)
theorem oX2_init : am_okI MX2_init := ⟨⟨(am_in 201 (by decide +kernel) (by decide +kernel)), (am_in 76 (by decide +kernel) (by decide +kernel)), by decide +kernel, by decide +kernel, by decide +kernel, by decide⟩, (am_in 200 (by decide +kernel) (by decide +kernel)), rfl⟩
def MX2_isLane : am_M := (yX2_isLane, cX2_isLane, 1, (some .boolean))
theorem oX2_isLane : am_okS MX2_isLane := ⟨⟨(am_in 778 (by decide +kernel) (by decide +kernel)), (am_in 76 (by decide +kernel) (by decide +kernel)), by decide +kernel, by decide +kernel, by decide +kernel, by decide⟩, (am_in 777 (by decide +kernel) (by decide +kernel))⟩
def MX2_isNothing : am_M := (yX2_isNothing, cX2_isNothing, 1, (some .boolean))
theorem oX2_isNothing : am_okV MX2_isNothing := ⟨⟨(am_in 796 (by decide +kernel) (by decide +kernel)), (am_in 76 (by decide +kernel) (by decide +kernel)), by decide +kernel, by decide +kernel, by decide +kernel, by decide⟩, (am_in 794 (by decide +kernel) (by decide +kernel)), (am_in 795 (by decide +kernel) (by decide +kernel))⟩
def MX2_put : am_M := (yX2_put, cX2_put, 3, none)
theorem oX2_put : am_okV MX2_put := ⟨⟨(am_in 800 (by decide +kernel) (by decide +kernel)), (am_in 76 (by decide +kernel) (by decide +kernel)), by decide +kernel, by decide +kernel, by decide +kernel, by decide⟩, (am_in 798 (by decide +kernel) (by decide +kernel)), (am_in 799 (by decide +kernel) (by decide +kernel))⟩
def MX2_renew : am_M := (yX2_renew, cX2_renew, 4, none)
theorem oX2_renew : am_okV MX2_renew := ⟨⟨(am_in 783 (by decide +kernel) (by decide +kernel)), (am_in 76 (by decide +kernel) (by decide +kernel)), by decide +kernel, by decide +kernel, by decide +kernel, by decide⟩, (am_in 781 (by decide +kernel) (by decide +kernel)), (am_in 782 (by decide +kernel) (by decide +kernel))⟩
def MX3_fail : am_M := (yX3_fail, cX3_fail, 3, none)
theorem oX3_fail : am_okV MX3_fail := ⟨⟨(am_in 338 (by decide +kernel) (by decide +kernel)), (am_in 77 (by decide +kernel) (by decide +kernel)), by decide +kernel, by decide +kernel, by decide +kernel, by decide⟩, (am_in 337 (by decide +kernel) (by decide +kernel)), (am_in 3 (by decide +kernel) (by decide +kernel))⟩
def MX3_init : am_M := (yX3_init, cX3_init, 3, none)
theorem oX3_init : am_okI MX3_init := ⟨⟨(am_in 219 (by decide +kernel) (by decide +kernel)), (am_in 77 (by decide +kernel) (by decide +kernel)), by decide +kernel, by decide +kernel, by decide +kernel, by decide⟩, (am_in 218 (by decide +kernel) (by decide +kernel)), rfl⟩
def MX3_isFigure : am_M := (yX3_isFigure, cX3_isFigure, 1, (some .boolean))
theorem oX3_isFigure : am_okS MX3_isFigure := ⟨⟨(am_in 330 (by decide +kernel) (by decide +kernel)), (am_in 77 (by decide +kernel) (by decide +kernel)), by decide +kernel, by decide +kernel, by decide +kernel, by decide⟩, (am_in 329 (by decide +kernel) (by decide +kernel))⟩
def MX3_isLetter : am_M := (yX3_isLetter, cX3_isLetter, 1, (some .boolean))
theorem oX3_isLetter : am_okS MX3_isLetter := ⟨⟨(am_in 323 (by decide +kernel) (by decide +kernel)), (am_in 77 (by decide +kernel) (by decide +kernel)), by decide +kernel, by decide +kernel, by decide +kernel, by decide⟩, (am_in 322 (by decide +kernel) (by decide +kernel))⟩
def MX3_lineName : am_M := (yX3_lineName, cX3_lineName, 1, (some (.object "java/lang/String")))
theorem oX3_lineName : am_okS MX3_lineName := ⟨⟨(am_in 349 (by decide +kernel) (by decide +kernel)), (am_in 77 (by decide +kernel) (by decide +kernel)), by decide +kernel, by decide +kernel, by decide +kernel, by decide⟩, (am_in 348 (by decide +kernel) (by decide +kernel))⟩
def MX3_lineNamed : am_M := (yX3_lineNamed, cX3_lineNamed, 2, (some .int))
theorem oX3_lineNamed : am_okV MX3_lineNamed := ⟨⟨(am_in 346 (by decide +kernel) (by decide +kernel)), (am_in 77 (by decide +kernel) (by decide +kernel)), by decide +kernel, by decide +kernel, by decide +kernel, by decide⟩, (am_in 345 (by decide +kernel) (by decide +kernel)), (am_in 5 (by decide +kernel) (by decide +kernel))⟩
def MX3_nameIs : am_M := (yX3_nameIs, cX3_nameIs, 3, (some .boolean))
theorem oX3_nameIs : am_okV MX3_nameIs := ⟨⟨(am_in 359 (by decide +kernel) (by decide +kernel)), (am_in 77 (by decide +kernel) (by decide +kernel)), by decide +kernel, by decide +kernel, by decide +kernel, by decide⟩, (am_in 358 (by decide +kernel) (by decide +kernel)), (am_in 6 (by decide +kernel) (by decide +kernel))⟩
def MX3_nextToken : am_M := (yX3_nextToken, cX3_nextToken, 1, none)
theorem oX3_nextToken : am_okV MX3_nextToken := ⟨⟨(am_in 320 (by decide +kernel) (by decide +kernel)), (am_in 77 (by decide +kernel) (by decide +kernel)), by decide +kernel, by decide +kernel, by decide +kernel, by decide⟩, (am_in 319 (by decide +kernel) (by decide +kernel)), (am_in 0 (by decide +kernel) (by decide +kernel))⟩
def MX3_readEvery : am_M := (yX3_readEvery, cX3_readEvery, 2, none)
theorem oX3_readEvery : am_okV MX3_readEvery := ⟨⟨(am_in 411 (by decide +kernel) (by decide +kernel)), (am_in 77 (by decide +kernel) (by decide +kernel)), by decide +kernel, by decide +kernel, by decide +kernel, by decide⟩, (am_in 410 (by decide +kernel) (by decide +kernel)), (am_in 7 (by decide +kernel) (by decide +kernel))⟩
def MX3_readKey : am_M := (yX3_readKey, cX3_readKey, 4, none)
theorem oX3_readKey : am_okV MX3_readKey := ⟨⟨(am_in 428 (by decide +kernel) (by decide +kernel)), (am_in 77 (by decide +kernel) (by decide +kernel)), by decide +kernel, by decide +kernel, by decide +kernel, by decide⟩, (am_in 427 (by decide +kernel) (by decide +kernel)), (am_in 10 (by decide +kernel) (by decide +kernel))⟩
def MX3_readLine : am_M := (yX3_readLine, cX3_readLine, 2, none)
theorem oX3_readLine : am_okV MX3_readLine := ⟨⟨(am_in 342 (by decide +kernel) (by decide +kernel)), (am_in 77 (by decide +kernel) (by decide +kernel)), by decide +kernel, by decide +kernel, by decide +kernel, by decide⟩, (am_in 341 (by decide +kernel) (by decide +kernel)), (am_in 4 (by decide +kernel) (by decide +kernel))⟩
def MX3_readLines : am_M := (yX3_readLines, cX3_readLines, 3, (some .int))
theorem oX3_readLines : am_okV MX3_readLines := ⟨⟨(am_in 309 (by decide +kernel) (by decide +kernel)), (am_in 77 (by decide +kernel) (by decide +kernel)), by decide +kernel, by decide +kernel, by decide +kernel, by decide⟩, (am_in 307 (by decide +kernel) (by decide +kernel)), (am_in 308 (by decide +kernel) (by decide +kernel))⟩
def MX3_readNumber : am_M := (yX3_readNumber, cX3_readNumber, 3, (some .int))
theorem oX3_readNumber : am_okV MX3_readNumber := ⟨⟨(am_in 415 (by decide +kernel) (by decide +kernel)), (am_in 77 (by decide +kernel) (by decide +kernel)), by decide +kernel, by decide +kernel, by decide +kernel, by decide⟩, (am_in 414 (by decide +kernel) (by decide +kernel)), (am_in 8 (by decide +kernel) (by decide +kernel))⟩
def MX3_readPress : am_M := (yX3_readPress, cX3_readPress, 4, none)
theorem oX3_readPress : am_okV MX3_readPress := ⟨⟨(am_in 420 (by decide +kernel) (by decide +kernel)), (am_in 77 (by decide +kernel) (by decide +kernel)), by decide +kernel, by decide +kernel, by decide +kernel, by decide⟩, (am_in 419 (by decide +kernel) (by decide +kernel)), (am_in 9 (by decide +kernel) (by decide +kernel))⟩
def MX3_readSemicolon : am_M := (yX3_readSemicolon, cX3_readSemicolon, 1, none)
theorem oX3_readSemicolon : am_okV MX3_readSemicolon := ⟨⟨(am_in 444 (by decide +kernel) (by decide +kernel)), (am_in 77 (by decide +kernel) (by decide +kernel)), by decide +kernel, by decide +kernel, by decide +kernel, by decide⟩, (am_in 443 (by decide +kernel) (by decide +kernel)), (am_in 11 (by decide +kernel) (by decide +kernel))⟩
def MX3_takeName : am_M := (yX3_takeName, cX3_takeName, 1, none)
theorem oX3_takeName : am_okV MX3_takeName := ⟨⟨(am_in 327 (by decide +kernel) (by decide +kernel)), (am_in 77 (by decide +kernel) (by decide +kernel)), by decide +kernel, by decide +kernel, by decide +kernel, by decide⟩, (am_in 326 (by decide +kernel) (by decide +kernel)), (am_in 1 (by decide +kernel) (by decide +kernel))⟩
def MX3_takeNumber : am_M := (yX3_takeNumber, cX3_takeNumber, 1, none)
theorem oX3_takeNumber : am_okV MX3_takeNumber := ⟨⟨(am_in 334 (by decide +kernel) (by decide +kernel)), (am_in 77 (by decide +kernel) (by decide +kernel)), by decide +kernel, by decide +kernel, by decide +kernel, by decide⟩, (am_in 333 (by decide +kernel) (by decide +kernel)), (am_in 2 (by decide +kernel) (by decide +kernel))⟩
def MX4_addSayings : am_M := (yX4_addSayings, cX4_addSayings, 4, none)
theorem oX4_addSayings : am_okV MX4_addSayings := ⟨⟨(am_in 754 (by decide +kernel) (by decide +kernel)), (am_in 73 (by decide +kernel) (by decide +kernel)), by decide +kernel, by decide +kernel, by decide +kernel, by decide⟩, (am_in 753 (by decide +kernel) (by decide +kernel)), (am_in 26 (by decide +kernel) (by decide +kernel))⟩
def MX4_ahead : am_M := (yX4_ahead, cX4_ahead, 5, (some .int))
theorem oX4_ahead : am_okV MX4_ahead := ⟨⟨(am_in 606 (by decide +kernel) (by decide +kernel)), (am_in 73 (by decide +kernel) (by decide +kernel)), by decide +kernel, by decide +kernel, by decide +kernel, by decide⟩, (am_in 604 (by decide +kernel) (by decide +kernel)), (am_in 605 (by decide +kernel) (by decide +kernel))⟩
def MX4_alter : am_M := (yX4_alter, cX4_alter, 5, (some .int))
theorem oX4_alter : am_okV MX4_alter := ⟨⟨(am_in 515 (by decide +kernel) (by decide +kernel)), (am_in 73 (by decide +kernel) (by decide +kernel)), by decide +kernel, by decide +kernel, by decide +kernel, by decide⟩, (am_in 513 (by decide +kernel) (by decide +kernel)), (am_in 514 (by decide +kernel) (by decide +kernel))⟩
def MX4_ask : am_M := (yX4_ask, cX4_ask, 9, (some .int))
theorem oX4_ask : am_okV MX4_ask := ⟨⟨(am_in 746 (by decide +kernel) (by decide +kernel)), (am_in 73 (by decide +kernel) (by decide +kernel)), by decide +kernel, by decide +kernel, by decide +kernel, by decide⟩, (am_in 744 (by decide +kernel) (by decide +kernel)), (am_in 745 (by decide +kernel) (by decide +kernel))⟩
def MX4_back : am_M := (yX4_back, cX4_back, 2, (some .int))
theorem oX4_back : am_okV MX4_back := ⟨⟨(am_in 768 (by decide +kernel) (by decide +kernel)), (am_in 73 (by decide +kernel) (by decide +kernel)), by decide +kernel, by decide +kernel, by decide +kernel, by decide⟩, (am_in 766 (by decide +kernel) (by decide +kernel)), (am_in 767 (by decide +kernel) (by decide +kernel))⟩
def MX4_bear : am_M := (yX4_bear, cX4_bear, 5, (some .int))
theorem oX4_bear : am_okV MX4_bear := ⟨⟨(am_in 634 (by decide +kernel) (by decide +kernel)), (am_in 73 (by decide +kernel) (by decide +kernel)), by decide +kernel, by decide +kernel, by decide +kernel, by decide⟩, (am_in 632 (by decide +kernel) (by decide +kernel)), (am_in 633 (by decide +kernel) (by decide +kernel))⟩
def MX4_bounces : am_M := (yX4_bounces, cX4_bounces, 2, (some .int))
theorem oX4_bounces : am_okV MX4_bounces := ⟨⟨(am_in 742 (by decide +kernel) (by decide +kernel)), (am_in 73 (by decide +kernel) (by decide +kernel)), by decide +kernel, by decide +kernel, by decide +kernel, by decide⟩, (am_in 740 (by decide +kernel) (by decide +kernel)), (am_in 741 (by decide +kernel) (by decide +kernel))⟩
def MX4_commonDivisor : am_M := (yX4_commonDivisor, cX4_commonDivisor, 11, (some .long))
theorem oX4_commonDivisor : am_okS MX4_commonDivisor := ⟨⟨(am_in 696 (by decide +kernel) (by decide +kernel)), (am_in 73 (by decide +kernel) (by decide +kernel)), by decide +kernel, by decide +kernel, by decide +kernel, by decide⟩, (am_in 695 (by decide +kernel) (by decide +kernel))⟩
def MX4_contact : am_M := (yX4_contact, cX4_contact, 3, (some .int))
theorem oX4_contact : am_okV MX4_contact := ⟨⟨(am_in 510 (by decide +kernel) (by decide +kernel)), (am_in 73 (by decide +kernel) (by decide +kernel)), by decide +kernel, by decide +kernel, by decide +kernel, by decide⟩, (am_in 508 (by decide +kernel) (by decide +kernel)), (am_in 509 (by decide +kernel) (by decide +kernel))⟩
def MX4_copyAltered : am_M := (yX4_copyAltered, cX4_copyAltered, 5, (some (.object "KeySieves$Board")))
theorem oX4_copyAltered : am_okV MX4_copyAltered := ⟨⟨(am_in 630 (by decide +kernel) (by decide +kernel)), (am_in 73 (by decide +kernel) (by decide +kernel)), by decide +kernel, by decide +kernel, by decide +kernel, by decide⟩, (am_in 629 (by decide +kernel) (by decide +kernel)), (am_in 19 (by decide +kernel) (by decide +kernel))⟩
def MX4_copyToTry : am_M := (yX4_copyToTry, cX4_copyToTry, 1, (some (.object "KeySieves$Board")))
theorem oX4_copyToTry : am_okV MX4_copyToTry := ⟨⟨(am_in 593 (by decide +kernel) (by decide +kernel)), (am_in 73 (by decide +kernel) (by decide +kernel)), by decide +kernel, by decide +kernel, by decide +kernel, by decide⟩, (am_in 592 (by decide +kernel) (by decide +kernel)), (am_in 17 (by decide +kernel) (by decide +kernel))⟩
def MX4_count : am_M := (yX4_count, cX4_count, 2, (some .int))
theorem oX4_count : am_okV MX4_count := ⟨⟨(am_in 825 (by decide +kernel) (by decide +kernel)), (am_in 73 (by decide +kernel) (by decide +kernel)), by decide +kernel, by decide +kernel, by decide +kernel, by decide⟩, (am_in 823 (by decide +kernel) (by decide +kernel)), (am_in 824 (by decide +kernel) (by decide +kernel))⟩
def MX4_countSayers : am_M := (yX4_countSayers, cX4_countSayers, 4, none)
theorem oX4_countSayers : am_okV MX4_countSayers := ⟨⟨(am_in 750 (by decide +kernel) (by decide +kernel)), (am_in 73 (by decide +kernel) (by decide +kernel)), by decide +kernel, by decide +kernel, by decide +kernel, by decide⟩, (am_in 749 (by decide +kernel) (by decide +kernel)), (am_in 25 (by decide +kernel) (by decide +kernel))⟩
def MX4_drift : am_M := (yX4_drift, cX4_drift, 7, (some .int))
theorem oX4_drift : am_okV MX4_drift := ⟨⟨(am_in 759 (by decide +kernel) (by decide +kernel)), (am_in 73 (by decide +kernel) (by decide +kernel)), by decide +kernel, by decide +kernel, by decide +kernel, by decide⟩, (am_in 757 (by decide +kernel) (by decide +kernel)), (am_in 758 (by decide +kernel) (by decide +kernel))⟩
def MX4_drop : am_M := (yX4_drop, cX4_drop, 3, (some .int))
theorem oX4_drop : am_okV MX4_drop := ⟨⟨(am_in 541 (by decide +kernel) (by decide +kernel)), (am_in 73 (by decide +kernel) (by decide +kernel)), by decide +kernel, by decide +kernel, by decide +kernel, by decide⟩, (am_in 539 (by decide +kernel) (by decide +kernel)), (am_in 540 (by decide +kernel) (by decide +kernel))⟩
def MX4_due : am_M := (yX4_due, cX4_due, 2, (some .int))
theorem oX4_due : am_okV MX4_due := ⟨⟨(am_in 614 (by decide +kernel) (by decide +kernel)), (am_in 73 (by decide +kernel) (by decide +kernel)), by decide +kernel, by decide +kernel, by decide +kernel, by decide⟩, (am_in 612 (by decide +kernel) (by decide +kernel)), (am_in 613 (by decide +kernel) (by decide +kernel))⟩
def MX4_end : am_M := (yX4_end, cX4_end, 3, (some .int))
theorem oX4_end : am_okV MX4_end := ⟨⟨(am_in 301 (by decide +kernel) (by decide +kernel)), (am_in 73 (by decide +kernel) (by decide +kernel)), by decide +kernel, by decide +kernel, by decide +kernel, by decide⟩, (am_in 299 (by decide +kernel) (by decide +kernel)), (am_in 300 (by decide +kernel) (by decide +kernel))⟩
def MX4_every : am_M := (yX4_every, cX4_every, 3, (some .int))
theorem oX4_every : am_okV MX4_every := ⟨⟨(am_in 528 (by decide +kernel) (by decide +kernel)), (am_in 73 (by decide +kernel) (by decide +kernel)), by decide +kernel, by decide +kernel, by decide +kernel, by decide⟩, (am_in 526 (by decide +kernel) (by decide +kernel)), (am_in 527 (by decide +kernel) (by decide +kernel))⟩
def MX4_fault : am_M := (yX4_fault, cX4_fault, 1, (some .int))
theorem oX4_fault : am_okV MX4_fault := ⟨⟨(am_in 469 (by decide +kernel) (by decide +kernel)), (am_in 73 (by decide +kernel) (by decide +kernel)), by decide +kernel, by decide +kernel, by decide +kernel, by decide⟩, (am_in 467 (by decide +kernel) (by decide +kernel)), (am_in 468 (by decide +kernel) (by decide +kernel))⟩
def MX4_feed : am_M := (yX4_feed, cX4_feed, 2, (some .int))
theorem oX4_feed : am_okV MX4_feed := ⟨⟨(am_in 294 (by decide +kernel) (by decide +kernel)), (am_in 73 (by decide +kernel) (by decide +kernel)), by decide +kernel, by decide +kernel, by decide +kernel, by decide⟩, (am_in 292 (by decide +kernel) (by decide +kernel)), (am_in 293 (by decide +kernel) (by decide +kernel))⟩
def MX4_fitting : am_M := (yX4_fitting, cX4_fitting, 5, (some .int))
theorem oX4_fitting : am_okV MX4_fitting := ⟨⟨(am_in 720 (by decide +kernel) (by decide +kernel)), (am_in 73 (by decide +kernel) (by decide +kernel)), by decide +kernel, by decide +kernel, by decide +kernel, by decide⟩, (am_in 719 (by decide +kernel) (by decide +kernel)), (am_in 22 (by decide +kernel) (by decide +kernel))⟩
def MX4_forget : am_M := (yX4_forget, cX4_forget, 3, (some .int))
theorem oX4_forget : am_okV MX4_forget := ⟨⟨(am_in 712 (by decide +kernel) (by decide +kernel)), (am_in 73 (by decide +kernel) (by decide +kernel)), by decide +kernel, by decide +kernel, by decide +kernel, by decide⟩, (am_in 710 (by decide +kernel) (by decide +kernel)), (am_in 711 (by decide +kernel) (by decide +kernel))⟩
def MX4_init : am_M := (yX4_init, cX4_init, 2, none)
theorem oX4_init : am_okI MX4_init := ⟨⟨(am_in 89 (by decide +kernel) (by decide +kernel)), (am_in 73 (by decide +kernel) (by decide +kernel)), by decide +kernel, by decide +kernel, by decide +kernel, by decide⟩, (am_in 88 (by decide +kernel) (by decide +kernel)), rfl⟩
def MX4_isNoise : am_M := (yX4_isNoise, cX4_isNoise, 2, (some .boolean))
theorem oX4_isNoise : am_okS MX4_isNoise := ⟨⟨(am_in 667 (by decide +kernel) (by decide +kernel)), (am_in 73 (by decide +kernel) (by decide +kernel)), by decide +kernel, by decide +kernel, by decide +kernel, by decide⟩, (am_in 666 (by decide +kernel) (by decide +kernel))⟩
def MX4_isRun : am_M := (yX4_isRun, cX4_isRun, 1, (some .boolean))
theorem oX4_isRun : am_okS MX4_isRun := ⟨⟨(am_in 589 (by decide +kernel) (by decide +kernel)), (am_in 73 (by decide +kernel) (by decide +kernel)), by decide +kernel, by decide +kernel, by decide +kernel, by decide⟩, (am_in 588 (by decide +kernel) (by decide +kernel))⟩
def MX4_isSheet : am_M := (yX4_isSheet, cX4_isSheet, 1, (some .boolean))
theorem oX4_isSheet : am_okS MX4_isSheet := ⟨⟨(am_in 775 (by decide +kernel) (by decide +kernel)), (am_in 73 (by decide +kernel) (by decide +kernel)), by decide +kernel, by decide +kernel, by decide +kernel, by decide⟩, (am_in 774 (by decide +kernel) (by decide +kernel))⟩
def MX4_keep : am_M := (yX4_keep, cX4_keep, 3, (some .int))
theorem oX4_keep : am_okV MX4_keep := ⟨⟨(am_in 764 (by decide +kernel) (by decide +kernel)), (am_in 73 (by decide +kernel) (by decide +kernel)), by decide +kernel, by decide +kernel, by decide +kernel, by decide⟩, (am_in 762 (by decide +kernel) (by decide +kernel)), (am_in 763 (by decide +kernel) (by decide +kernel))⟩
def MX4_key : am_M := (yX4_key, cX4_key, 4, (some .int))
theorem oX4_key : am_okV MX4_key := ⟨⟨(am_in 497 (by decide +kernel) (by decide +kernel)), (am_in 73 (by decide +kernel) (by decide +kernel)), by decide +kernel, by decide +kernel, by decide +kernel, by decide⟩, (am_in 495 (by decide +kernel) (by decide +kernel)), (am_in 496 (by decide +kernel) (by decide +kernel))⟩
def MX4_kind : am_M := (yX4_kind, cX4_kind, 8, (some .int))
theorem oX4_kind : am_okV MX4_kind := ⟨⟨(am_in 638 (by decide +kernel) (by decide +kernel)), (am_in 73 (by decide +kernel) (by decide +kernel)), by decide +kernel, by decide +kernel, by decide +kernel, by decide⟩, (am_in 636 (by decide +kernel) (by decide +kernel)), (am_in 637 (by decide +kernel) (by decide +kernel))⟩
def MX4_kinds : am_M := (yX4_kinds, cX4_kinds, 2, (some .int))
theorem oX4_kinds : am_okV MX4_kinds := ⟨⟨(am_in 716 (by decide +kernel) (by decide +kernel)), (am_in 73 (by decide +kernel) (by decide +kernel)), by decide +kernel, by decide +kernel, by decide +kernel, by decide⟩, (am_in 714 (by decide +kernel) (by decide +kernel)), (am_in 715 (by decide +kernel) (by decide +kernel))⟩
def MX4_lay : am_M := (yX4_lay, cX4_lay, 5, (some .int))
theorem oX4_lay : am_okV MX4_lay := ⟨⟨(am_in 788 (by decide +kernel) (by decide +kernel)), (am_in 73 (by decide +kernel) (by decide +kernel)), by decide +kernel, by decide +kernel, by decide +kernel, by decide⟩, (am_in 786 (by decide +kernel) (by decide +kernel)), (am_in 787 (by decide +kernel) (by decide +kernel))⟩
def MX4_listenQuietly : am_M := (yX4_listenQuietly, cX4_listenQuietly, 4, none)
theorem oX4_listenQuietly : am_okV MX4_listenQuietly := ⟨⟨(am_in 672 (by decide +kernel) (by decide +kernel)), (am_in 73 (by decide +kernel) (by decide +kernel)), by decide +kernel, by decide +kernel, by decide +kernel, by decide⟩, (am_in 671 (by decide +kernel) (by decide +kernel)), (am_in 20 (by decide +kernel) (by decide +kernel))⟩
def MX4_lose : am_M := (yX4_lose, cX4_lose, 8, (some .int))
theorem oX4_lose : am_okV MX4_lose := ⟨⟨(am_in 656 (by decide +kernel) (by decide +kernel)), (am_in 73 (by decide +kernel) (by decide +kernel)), by decide +kernel, by decide +kernel, by decide +kernel, by decide⟩, (am_in 654 (by decide +kernel) (by decide +kernel)), (am_in 655 (by decide +kernel) (by decide +kernel))⟩
def MX4_luck : am_M := (yX4_luck, cX4_luck, 10, (some .long))
theorem oX4_luck : am_okV MX4_luck := ⟨⟨(am_in 664 (by decide +kernel) (by decide +kernel)), (am_in 73 (by decide +kernel) (by decide +kernel)), by decide +kernel, by decide +kernel, by decide +kernel, by decide⟩, (am_in 662 (by decide +kernel) (by decide +kernel)), (am_in 663 (by decide +kernel) (by decide +kernel))⟩
def MX4_mean : am_M := (yX4_mean, cX4_mean, 9, (some .long))
theorem oX4_mean : am_okV MX4_mean := ⟨⟨(am_in 700 (by decide +kernel) (by decide +kernel)), (am_in 73 (by decide +kernel) (by decide +kernel)), by decide +kernel, by decide +kernel, by decide +kernel, by decide⟩, (am_in 698 (by decide +kernel) (by decide +kernel)), (am_in 699 (by decide +kernel) (by decide +kernel))⟩
def MX4_missOf : am_M := (yX4_missOf, cX4_missOf, 3, (some .int))
theorem oX4_missOf : am_okS MX4_missOf := ⟨⟨(am_in 642 (by decide +kernel) (by decide +kernel)), (am_in 73 (by decide +kernel) (by decide +kernel)), by decide +kernel, by decide +kernel, by decide +kernel, by decide⟩, (am_in 641 (by decide +kernel) (by decide +kernel))⟩
def MX4_need : am_M := (yX4_need, cX4_need, 5, (some .int))
theorem oX4_need : am_okV MX4_need := ⟨⟨(am_in 622 (by decide +kernel) (by decide +kernel)), (am_in 73 (by decide +kernel) (by decide +kernel)), by decide +kernel, by decide +kernel, by decide +kernel, by decide⟩, (am_in 620 (by decide +kernel) (by decide +kernel)), (am_in 621 (by decide +kernel) (by decide +kernel))⟩
def MX4_numbers : am_M := (yX4_numbers, cX4_numbers, 2, (some .int))
theorem oX4_numbers : am_okV MX4_numbers := ⟨⟨(am_in 738 (by decide +kernel) (by decide +kernel)), (am_in 73 (by decide +kernel) (by decide +kernel)), by decide +kernel, by decide +kernel, by decide +kernel, by decide⟩, (am_in 736 (by decide +kernel) (by decide +kernel)), (am_in 737 (by decide +kernel) (by decide +kernel))⟩
def MX4_partOfFraction : am_M := (yX4_partOfFraction, cX4_partOfFraction, 9, (some .long))
theorem oX4_partOfFraction : am_okS MX4_partOfFraction := ⟨⟨(am_in 693 (by decide +kernel) (by decide +kernel)), (am_in 73 (by decide +kernel) (by decide +kernel)), by decide +kernel, by decide +kernel, by decide +kernel, by decide⟩, (am_in 692 (by decide +kernel) (by decide +kernel))⟩
def MX4_power : am_M := (yX4_power, cX4_power, 5, (some .long))
theorem oX4_power : am_okS MX4_power := ⟨⟨(am_in 684 (by decide +kernel) (by decide +kernel)), (am_in 73 (by decide +kernel) (by decide +kernel)), by decide +kernel, by decide +kernel, by decide +kernel, by decide⟩, (am_in 683 (by decide +kernel) (by decide +kernel))⟩
def MX4_press : am_M := (yX4_press, cX4_press, 3, (some .int))
theorem oX4_press : am_okV MX4_press := ⟨⟨(am_in 506 (by decide +kernel) (by decide +kernel)), (am_in 73 (by decide +kernel) (by decide +kernel)), by decide +kernel, by decide +kernel, by decide +kernel, by decide⟩, (am_in 504 (by decide +kernel) (by decide +kernel)), (am_in 505 (by decide +kernel) (by decide +kernel))⟩
def MX4_putPress : am_M := (yX4_putPress, cX4_putPress, 4, (some .int))
theorem oX4_putPress : am_okV MX4_putPress := ⟨⟨(am_in 536 (by decide +kernel) (by decide +kernel)), (am_in 73 (by decide +kernel) (by decide +kernel)), by decide +kernel, by decide +kernel, by decide +kernel, by decide⟩, (am_in 535 (by decide +kernel) (by decide +kernel)), (am_in 13 (by decide +kernel) (by decide +kernel))⟩
def MX4_read : am_M := (yX4_read, cX4_read, 11, (some .int))
theorem oX4_read : am_okV MX4_read := ⟨⟨(am_in 805 (by decide +kernel) (by decide +kernel)), (am_in 73 (by decide +kernel) (by decide +kernel)), by decide +kernel, by decide +kernel, by decide +kernel, by decide⟩, (am_in 803 (by decide +kernel) (by decide +kernel)), (am_in 804 (by decide +kernel) (by decide +kernel))⟩
def MX4_rule : am_M := (yX4_rule, cX4_rule, 2, (some .int))
theorem oX4_rule : am_okV MX4_rule := ⟨⟨(am_in 473 (by decide +kernel) (by decide +kernel)), (am_in 73 (by decide +kernel) (by decide +kernel)), by decide +kernel, by decide +kernel, by decide +kernel, by decide⟩, (am_in 471 (by decide +kernel) (by decide +kernel)), (am_in 472 (by decide +kernel) (by decide +kernel))⟩
def MX4_runNoisily : am_M := (yX4_runNoisily, cX4_runNoisily, 5, (some (.object "KeySieves$Board")))
theorem oX4_runNoisily : am_okV MX4_runNoisily := ⟨⟨(am_in 688 (by decide +kernel) (by decide +kernel)), (am_in 73 (by decide +kernel) (by decide +kernel)), by decide +kernel, by decide +kernel, by decide +kernel, by decide⟩, (am_in 687 (by decide +kernel) (by decide +kernel)), (am_in 21 (by decide +kernel) (by decide +kernel))⟩
def MX4_runs : am_M := (yX4_runs, cX4_runs, 4, (some .int))
theorem oX4_runs : am_okV MX4_runs := ⟨⟨(am_in 586 (by decide +kernel) (by decide +kernel)), (am_in 73 (by decide +kernel) (by decide +kernel)), by decide +kernel, by decide +kernel, by decide +kernel, by decide⟩, (am_in 584 (by decide +kernel) (by decide +kernel)), (am_in 585 (by decide +kernel) (by decide +kernel))⟩
def MX4_see : am_M := (yX4_see, cX4_see, 4, (some .int))
theorem oX4_see : am_okV MX4_see := ⟨⟨(am_in 704 (by decide +kernel) (by decide +kernel)), (am_in 73 (by decide +kernel) (by decide +kernel)), by decide +kernel, by decide +kernel, by decide +kernel, by decide⟩, (am_in 702 (by decide +kernel) (by decide +kernel)), (am_in 703 (by decide +kernel) (by decide +kernel))⟩
def MX4_sheet : am_M := (yX4_sheet, cX4_sheet, 4, (some .int))
theorem oX4_sheet : am_okV MX4_sheet := ⟨⟨(am_in 772 (by decide +kernel) (by decide +kernel)), (am_in 73 (by decide +kernel) (by decide +kernel)), by decide +kernel, by decide +kernel, by decide +kernel, by decide⟩, (am_in 770 (by decide +kernel) (by decide +kernel)), (am_in 771 (by decide +kernel) (by decide +kernel))⟩
def MX4_slow : am_M := (yX4_slow, cX4_slow, 8, (some .int))
theorem oX4_slow : am_okV MX4_slow := ⟨⟨(am_in 652 (by decide +kernel) (by decide +kernel)), (am_in 73 (by decide +kernel) (by decide +kernel)), by decide +kernel, by decide +kernel, by decide +kernel, by decide⟩, (am_in 650 (by decide +kernel) (by decide +kernel)), (am_in 651 (by decide +kernel) (by decide +kernel))⟩
def MX4_strike : am_M := (yX4_strike, cX4_strike, 4, (some .int))
theorem oX4_strike : am_okV MX4_strike := ⟨⟨(am_in 532 (by decide +kernel) (by decide +kernel)), (am_in 73 (by decide +kernel) (by decide +kernel)), by decide +kernel, by decide +kernel, by decide +kernel, by decide⟩, (am_in 530 (by decide +kernel) (by decide +kernel)), (am_in 531 (by decide +kernel) (by decide +kernel))⟩
def MX4_strokesIn : am_M := (yX4_strokesIn, cX4_strokesIn, 2, (some .int))
theorem oX4_strokesIn : am_okS MX4_strokesIn := ⟨⟨(am_in 645 (by decide +kernel) (by decide +kernel)), (am_in 73 (by decide +kernel) (by decide +kernel)), by decide +kernel, by decide +kernel, by decide +kernel, by decide⟩, (am_in 644 (by decide +kernel) (by decide +kernel))⟩
def MX4_strokesOfOne : am_M := (yX4_strokesOfOne, cX4_strokesOfOne, 6, (some .int))
theorem oX4_strokesOfOne : am_okV MX4_strokesOfOne := ⟨⟨(am_in 626 (by decide +kernel) (by decide +kernel)), (am_in 73 (by decide +kernel) (by decide +kernel)), by decide +kernel, by decide +kernel, by decide +kernel, by decide⟩, (am_in 625 (by decide +kernel) (by decide +kernel)), (am_in 18 (by decide +kernel) (by decide +kernel))⟩
def MX4_text : am_M := (yX4_text, cX4_text, 3, (some .int))
theorem oX4_text : am_okV MX4_text := ⟨⟨(am_in 305 (by decide +kernel) (by decide +kernel)), (am_in 73 (by decide +kernel) (by decide +kernel)), by decide +kernel, by decide +kernel, by decide +kernel, by decide⟩, (am_in 303 (by decide +kernel) (by decide +kernel)), (am_in 304 (by decide +kernel) (by decide +kernel))⟩
def MX4_ticks : am_M := (yX4_ticks, cX4_ticks, 2, (some .int))
theorem oX4_ticks : am_okV MX4_ticks := ⟨⟨(am_in 545 (by decide +kernel) (by decide +kernel)), (am_in 73 (by decide +kernel) (by decide +kernel)), by decide +kernel, by decide +kernel, by decide +kernel, by decide⟩, (am_in 543 (by decide +kernel) (by decide +kernel)), (am_in 544 (by decide +kernel) (by decide +kernel))⟩
def MX4_torn : am_M := (yX4_torn, cX4_torn, 1, (some .int))
theorem oX4_torn : am_okV MX4_torn := ⟨⟨(am_in 821 (by decide +kernel) (by decide +kernel)), (am_in 73 (by decide +kernel) (by decide +kernel)), by decide +kernel, by decide +kernel, by decide +kernel, by decide⟩, (am_in 819 (by decide +kernel) (by decide +kernel)), (am_in 820 (by decide +kernel) (by decide +kernel))⟩
def MX4_weightOf : am_M := (yX4_weightOf, cX4_weightOf, 4, (some .long))
theorem oX4_weightOf : am_okS MX4_weightOf := ⟨⟨(am_in 675 (by decide +kernel) (by decide +kernel)), (am_in 73 (by decide +kernel) (by decide +kernel)), by decide +kernel, by decide +kernel, by decide +kernel, by decide⟩, (am_in 674 (by decide +kernel) (by decide +kernel))⟩
def MX4_when : am_M := (yX4_when, cX4_when, 5, (some .int))
theorem oX4_when : am_okV MX4_when := ⟨⟨(am_in 610 (by decide +kernel) (by decide +kernel)), (am_in 73 (by decide +kernel) (by decide +kernel)), by decide +kernel, by decide +kernel, by decide +kernel, by decide⟩, (am_in 608 (by decide +kernel) (by decide +kernel)), (am_in 609 (by decide +kernel) (by decide +kernel))⟩
def MX4_within : am_M := (yX4_within, cX4_within, 3, (some .boolean))
theorem oX4_within : am_okS MX4_within := ⟨⟨(am_in 297 (by decide +kernel) (by decide +kernel)), (am_in 73 (by decide +kernel) (by decide +kernel)), by decide +kernel, by decide +kernel, by decide +kernel, by decide⟩, (am_in 296 (by decide +kernel) (by decide +kernel))⟩
def MX5_ahead : am_M := (yX5_ahead, cX5_ahead, 4, (some .int))
theorem oX5_ahead : am_okV MX5_ahead := ⟨⟨(am_in 1152 (by decide +kernel) (by decide +kernel)), (am_in 78 (by decide +kernel) (by decide +kernel)), by decide +kernel, by decide +kernel, by decide +kernel, by decide⟩, (am_in 1150 (by decide +kernel) (by decide +kernel)), (am_in 1151 (by decide +kernel) (by decide +kernel))⟩
def MX5_alter : am_M := (yX5_alter, cX5_alter, 5, (some .int))
theorem oX5_alter : am_okV MX5_alter := ⟨⟨(am_in 1056 (by decide +kernel) (by decide +kernel)), (am_in 78 (by decide +kernel) (by decide +kernel)), by decide +kernel, by decide +kernel, by decide +kernel, by decide⟩, (am_in 1054 (by decide +kernel) (by decide +kernel)), (am_in 1055 (by decide +kernel) (by decide +kernel))⟩
def MX5_ask : am_M := (yX5_ask, cX5_ask, 6, (some .int))
theorem oX5_ask : am_okV MX5_ask := ⟨⟨(am_in 1263 (by decide +kernel) (by decide +kernel)), (am_in 78 (by decide +kernel) (by decide +kernel)), by decide +kernel, by decide +kernel, by decide +kernel, by decide⟩, (am_in 1261 (by decide +kernel) (by decide +kernel)), (am_in 1262 (by decide +kernel) (by decide +kernel))⟩
def MX5_back : am_M := (yX5_back, cX5_back, 2, (some .int))
theorem oX5_back : am_okV MX5_back := ⟨⟨(am_in 1280 (by decide +kernel) (by decide +kernel)), (am_in 78 (by decide +kernel) (by decide +kernel)), by decide +kernel, by decide +kernel, by decide +kernel, by decide⟩, (am_in 1278 (by decide +kernel) (by decide +kernel)), (am_in 1279 (by decide +kernel) (by decide +kernel))⟩
def MX5_bear : am_M := (yX5_bear, cX5_bear, 5, (some .int))
theorem oX5_bear : am_okV MX5_bear := ⟨⟨(am_in 1184 (by decide +kernel) (by decide +kernel)), (am_in 78 (by decide +kernel) (by decide +kernel)), by decide +kernel, by decide +kernel, by decide +kernel, by decide⟩, (am_in 1182 (by decide +kernel) (by decide +kernel)), (am_in 1183 (by decide +kernel) (by decide +kernel))⟩
def MX5_becomes : am_M := (yX5_becomes, cX5_becomes, 4, (some .int))
theorem oX5_becomes : am_okV MX5_becomes := ⟨⟨(am_in 1066 (by decide +kernel) (by decide +kernel)), (am_in 78 (by decide +kernel) (by decide +kernel)), by decide +kernel, by decide +kernel, by decide +kernel, by decide⟩, (am_in 1065 (by decide +kernel) (by decide +kernel)), (am_in 49 (by decide +kernel) (by decide +kernel))⟩
def MX5_becomesOf : am_M := (yX5_becomesOf, cX5_becomesOf, 4, none)
theorem oX5_becomesOf : am_okV MX5_becomesOf := ⟨⟨(am_in 1077 (by decide +kernel) (by decide +kernel)), (am_in 78 (by decide +kernel) (by decide +kernel)), by decide +kernel, by decide +kernel, by decide +kernel, by decide⟩, (am_in 1076 (by decide +kernel) (by decide +kernel)), (am_in 51 (by decide +kernel) (by decide +kernel))⟩
def MX5_bounces : am_M := (yX5_bounces, cX5_bounces, 2, (some .int))
theorem oX5_bounces : am_okV MX5_bounces := ⟨⟨(am_in 1259 (by decide +kernel) (by decide +kernel)), (am_in 78 (by decide +kernel) (by decide +kernel)), by decide +kernel, by decide +kernel, by decide +kernel, by decide⟩, (am_in 1257 (by decide +kernel) (by decide +kernel)), (am_in 1258 (by decide +kernel) (by decide +kernel))⟩
def MX5_byteAt : am_M := (yX5_byteAt, cX5_byteAt, 2, (some .int))
theorem oX5_byteAt : am_okV MX5_byteAt := ⟨⟨(am_in 957 (by decide +kernel) (by decide +kernel)), (am_in 78 (by decide +kernel) (by decide +kernel)), by decide +kernel, by decide +kernel, by decide +kernel, by decide⟩, (am_in 956 (by decide +kernel) (by decide +kernel)), (am_in 31 (by decide +kernel) (by decide +kernel))⟩
def MX5_comesToSay : am_M := (yX5_comesToSay, cX5_comesToSay, 3, none)
theorem oX5_comesToSay : am_okV MX5_comesToSay := ⟨⟨(am_in 1120 (by decide +kernel) (by decide +kernel)), (am_in 78 (by decide +kernel) (by decide +kernel)), by decide +kernel, by decide +kernel, by decide +kernel, by decide⟩, (am_in 1119 (by decide +kernel) (by decide +kernel)), (am_in 57 (by decide +kernel) (by decide +kernel))⟩
def MX5_common : am_M := (yX5_common, cX5_common, 10, (some .long))
theorem oX5_common : am_okS MX5_common := ⟨⟨(am_in 1226 (by decide +kernel) (by decide +kernel)), (am_in 78 (by decide +kernel) (by decide +kernel)), by decide +kernel, by decide +kernel, by decide +kernel, by decide⟩, (am_in 1225 (by decide +kernel) (by decide +kernel))⟩
def MX5_contact : am_M := (yX5_contact, cX5_contact, 3, (some .int))
theorem oX5_contact : am_okV MX5_contact := ⟨⟨(am_in 1051 (by decide +kernel) (by decide +kernel)), (am_in 78 (by decide +kernel) (by decide +kernel)), by decide +kernel, by decide +kernel, by decide +kernel, by decide⟩, (am_in 1049 (by decide +kernel) (by decide +kernel)), (am_in 1050 (by decide +kernel) (by decide +kernel))⟩
def MX5_contactOf : am_M := (yX5_contactOf, cX5_contactOf, 5, (some .int))
theorem oX5_contactOf : am_okV MX5_contactOf := ⟨⟨(am_in 1021 (by decide +kernel) (by decide +kernel)), (am_in 78 (by decide +kernel) (by decide +kernel)), by decide +kernel, by decide +kernel, by decide +kernel, by decide⟩, (am_in 1020 (by decide +kernel) (by decide +kernel)), (am_in 44 (by decide +kernel) (by decide +kernel))⟩
def MX5_contactsNow : am_M := (yX5_contactsNow, cX5_contactsNow, 3, (some .int))
theorem oX5_contactsNow : am_okV MX5_contactsNow := ⟨⟨(am_in 1017 (by decide +kernel) (by decide +kernel)), (am_in 78 (by decide +kernel) (by decide +kernel)), by decide +kernel, by decide +kernel, by decide +kernel, by decide⟩, (am_in 1016 (by decide +kernel) (by decide +kernel)), (am_in 43 (by decide +kernel) (by decide +kernel))⟩
def MX5_copies : am_M := (yX5_copies, cX5_copies, 4, none)
theorem oX5_copies : am_okV MX5_copies := ⟨⟨(am_in 1276 (by decide +kernel) (by decide +kernel)), (am_in 78 (by decide +kernel) (by decide +kernel)), by decide +kernel, by decide +kernel, by decide +kernel, by decide⟩, (am_in 1275 (by decide +kernel) (by decide +kernel)), (am_in 71 (by decide +kernel) (by decide +kernel))⟩
def MX5_count : am_M := (yX5_count, cX5_count, 2, (some .int))
theorem oX5_count : am_okV MX5_count := ⟨⟨(am_in 1305 (by decide +kernel) (by decide +kernel)), (am_in 78 (by decide +kernel) (by decide +kernel)), by decide +kernel, by decide +kernel, by decide +kernel, by decide⟩, (am_in 1303 (by decide +kernel) (by decide +kernel)), (am_in 1304 (by decide +kernel) (by decide +kernel))⟩
def MX5_countsUp : am_M := (yX5_countsUp, cX5_countsUp, 3, none)
theorem oX5_countsUp : am_okV MX5_countsUp := ⟨⟨(am_in 1124 (by decide +kernel) (by decide +kernel)), (am_in 78 (by decide +kernel) (by decide +kernel)), by decide +kernel, by decide +kernel, by decide +kernel, by decide⟩, (am_in 1123 (by decide +kernel) (by decide +kernel)), (am_in 58 (by decide +kernel) (by decide +kernel))⟩
def MX5_cutsSum : am_M := (yX5_cutsSum, cX5_cutsSum, 2, none)
theorem oX5_cutsSum : am_okV MX5_cutsSum := ⟨⟨(am_in 1070 (by decide +kernel) (by decide +kernel)), (am_in 78 (by decide +kernel) (by decide +kernel)), by decide +kernel, by decide +kernel, by decide +kernel, by decide⟩, (am_in 1069 (by decide +kernel) (by decide +kernel)), (am_in 50 (by decide +kernel) (by decide +kernel))⟩
def MX5_drift : am_M := (yX5_drift, cX5_drift, 6, (some .int))
theorem oX5_drift : am_okV MX5_drift := ⟨⟨(am_in 1267 (by decide +kernel) (by decide +kernel)), (am_in 78 (by decide +kernel) (by decide +kernel)), by decide +kernel, by decide +kernel, by decide +kernel, by decide⟩, (am_in 1265 (by decide +kernel) (by decide +kernel)), (am_in 1266 (by decide +kernel) (by decide +kernel))⟩
def MX5_drop : am_M := (yX5_drop, cX5_drop, 2, (some .int))
theorem oX5_drop : am_okV MX5_drop := ⟨⟨(am_in 1095 (by decide +kernel) (by decide +kernel)), (am_in 78 (by decide +kernel) (by decide +kernel)), by decide +kernel, by decide +kernel, by decide +kernel, by decide⟩, (am_in 1093 (by decide +kernel) (by decide +kernel)), (am_in 1094 (by decide +kernel) (by decide +kernel))⟩
def MX5_due : am_M := (yX5_due, cX5_due, 2, (some .int))
theorem oX5_due : am_okV MX5_due := ⟨⟨(am_in 1163 (by decide +kernel) (by decide +kernel)), (am_in 78 (by decide +kernel) (by decide +kernel)), by decide +kernel, by decide +kernel, by decide +kernel, by decide⟩, (am_in 1161 (by decide +kernel) (by decide +kernel)), (am_in 1162 (by decide +kernel) (by decide +kernel))⟩
def MX5_dueIn : am_M := (yX5_dueIn, cX5_dueIn, 5, (some .int))
theorem oX5_dueIn : am_okV MX5_dueIn := ⟨⟨(am_in 1167 (by decide +kernel) (by decide +kernel)), (am_in 78 (by decide +kernel) (by decide +kernel)), by decide +kernel, by decide +kernel, by decide +kernel, by decide⟩, (am_in 1166 (by decide +kernel) (by decide +kernel)), (am_in 62 (by decide +kernel) (by decide +kernel))⟩
def MX5_end : am_M := (yX5_end, cX5_end, 3, (some .int))
theorem oX5_end : am_okV MX5_end := ⟨⟨(am_in 945 (by decide +kernel) (by decide +kernel)), (am_in 78 (by decide +kernel) (by decide +kernel)), by decide +kernel, by decide +kernel, by decide +kernel, by decide⟩, (am_in 943 (by decide +kernel) (by decide +kernel)), (am_in 944 (by decide +kernel) (by decide +kernel))⟩
def MX5_endsIn : am_M := (yX5_endsIn, cX5_endsIn, 3, (some .boolean))
theorem oX5_endsIn : am_okV MX5_endsIn := ⟨⟨(am_in 981 (by decide +kernel) (by decide +kernel)), (am_in 78 (by decide +kernel) (by decide +kernel)), by decide +kernel, by decide +kernel, by decide +kernel, by decide⟩, (am_in 980 (by decide +kernel) (by decide +kernel)), (am_in 36 (by decide +kernel) (by decide +kernel))⟩
def MX5_every : am_M := (yX5_every, cX5_every, 2, (some .int))
theorem oX5_every : am_okV MX5_every := ⟨⟨(am_in 1085 (by decide +kernel) (by decide +kernel)), (am_in 78 (by decide +kernel) (by decide +kernel)), by decide +kernel, by decide +kernel, by decide +kernel, by decide⟩, (am_in 1083 (by decide +kernel) (by decide +kernel)), (am_in 1084 (by decide +kernel) (by decide +kernel))⟩
def MX5_fault : am_M := (yX5_fault, cX5_fault, 1, (some .int))
theorem oX5_fault : am_okV MX5_fault := ⟨⟨(am_in 997 (by decide +kernel) (by decide +kernel)), (am_in 78 (by decide +kernel) (by decide +kernel)), by decide +kernel, by decide +kernel, by decide +kernel, by decide⟩, (am_in 995 (by decide +kernel) (by decide +kernel)), (am_in 996 (by decide +kernel) (by decide +kernel))⟩
def MX5_feed : am_M := (yX5_feed, cX5_feed, 2, (some .int))
theorem oX5_feed : am_okV MX5_feed := ⟨⟨(am_in 937 (by decide +kernel) (by decide +kernel)), (am_in 78 (by decide +kernel) (by decide +kernel)), by decide +kernel, by decide +kernel, by decide +kernel, by decide⟩, (am_in 935 (by decide +kernel) (by decide +kernel)), (am_in 936 (by decide +kernel) (by decide +kernel))⟩
def MX5_findOdds : am_M := (yX5_findOdds, cX5_findOdds, 9, none)
theorem oX5_findOdds : am_okV MX5_findOdds := ⟨⟨(am_in 1220 (by decide +kernel) (by decide +kernel)), (am_in 78 (by decide +kernel) (by decide +kernel)), by decide +kernel, by decide +kernel, by decide +kernel, by decide⟩, (am_in 1219 (by decide +kernel) (by decide +kernel)), (am_in 68 (by decide +kernel) (by decide +kernel))⟩
def MX5_firstDraft : am_M := (yX5_firstDraft, cX5_firstDraft, 2, none)
theorem oX5_firstDraft : am_okV MX5_firstDraft := ⟨⟨(am_in 841 (by decide +kernel) (by decide +kernel)), (am_in 78 (by decide +kernel) (by decide +kernel)), by decide +kernel, by decide +kernel, by decide +kernel, by decide⟩, (am_in 840 (by decide +kernel) (by decide +kernel)), (am_in 28 (by decide +kernel) (by decide +kernel))⟩
def MX5_flag : am_M := (yX5_flag, cX5_flag, 1, (some .int))
theorem oX5_flag : am_okS MX5_flag := ⟨⟨(am_in 1148 (by decide +kernel) (by decide +kernel)), (am_in 78 (by decide +kernel) (by decide +kernel)), by decide +kernel, by decide +kernel, by decide +kernel, by decide⟩, (am_in 1147 (by decide +kernel) (by decide +kernel))⟩
def MX5_forget : am_M := (yX5_forget, cX5_forget, 2, (some .int))
theorem oX5_forget : am_okV MX5_forget := ⟨⟨(am_in 1239 (by decide +kernel) (by decide +kernel)), (am_in 78 (by decide +kernel) (by decide +kernel)), by decide +kernel, by decide +kernel, by decide +kernel, by decide⟩, (am_in 1237 (by decide +kernel) (by decide +kernel)), (am_in 1238 (by decide +kernel) (by decide +kernel))⟩
def MX5_in : am_M := (yX5_in, cX5_in, 6, (some .boolean))
theorem oX5_in : am_okS MX5_in := ⟨⟨(am_in 941 (by decide +kernel) (by decide +kernel)), (am_in 78 (by decide +kernel) (by decide +kernel)), by decide +kernel, by decide +kernel, by decide +kernel, by decide⟩, (am_in 940 (by decide +kernel) (by decide +kernel))⟩
def MX5_init : am_M := (yX5_init, cX5_init, 2, none)
theorem oX5_init : am_okI MX5_init := ⟨⟨(am_in 836 (by decide +kernel) (by decide +kernel)), (am_in 78 (by decide +kernel) (by decide +kernel)), by decide +kernel, by decide +kernel, by decide +kernel, by decide⟩, (am_in 835 (by decide +kernel) (by decide +kernel)), rfl⟩
def MX5_is : am_M := (yX5_is, cX5_is, 5, (some .boolean))
theorem oX5_is : am_okV MX5_is := ⟨⟨(am_in 977 (by decide +kernel) (by decide +kernel)), (am_in 78 (by decide +kernel) (by decide +kernel)), by decide +kernel, by decide +kernel, by decide +kernel, by decide⟩, (am_in 976 (by decide +kernel) (by decide +kernel)), (am_in 35 (by decide +kernel) (by decide +kernel))⟩
def MX5_isFar : am_M := (yX5_isFar, cX5_isFar, 1, (some .boolean))
theorem oX5_isFar : am_okS MX5_isFar := ⟨⟨(am_in 1143 (by decide +kernel) (by decide +kernel)), (am_in 78 (by decide +kernel) (by decide +kernel)), by decide +kernel, by decide +kernel, by decide +kernel, by decide⟩, (am_in 1142 (by decide +kernel) (by decide +kernel))⟩
def MX5_isKey : am_M := (yX5_isKey, cX5_isKey, 2, (some .boolean))
theorem oX5_isKey : am_okV MX5_isKey := ⟨⟨(am_in 1041 (by decide +kernel) (by decide +kernel)), (am_in 78 (by decide +kernel) (by decide +kernel)), by decide +kernel, by decide +kernel, by decide +kernel, by decide⟩, (am_in 1040 (by decide +kernel) (by decide +kernel)), (am_in 48 (by decide +kernel) (by decide +kernel))⟩
def MX5_isPart : am_M := (yX5_isPart, cX5_isPart, 1, (some .boolean))
theorem oX5_isPart : am_okS MX5_isPart := ⟨⟨(am_in 1155 (by decide +kernel) (by decide +kernel)), (am_in 78 (by decide +kernel) (by decide +kernel)), by decide +kernel, by decide +kernel, by decide +kernel, by decide⟩, (am_in 1154 (by decide +kernel) (by decide +kernel))⟩
def MX5_isSheet : am_M := (yX5_isSheet, cX5_isSheet, 2, (some .boolean))
theorem oX5_isSheet : am_okS MX5_isSheet := ⟨⟨(am_in 1287 (by decide +kernel) (by decide +kernel)), (am_in 78 (by decide +kernel) (by decide +kernel)), by decide +kernel, by decide +kernel, by decide +kernel, by decide⟩, (am_in 1286 (by decide +kernel) (by decide +kernel))⟩
def MX5_isSoWith : am_M := (yX5_isSoWith, cX5_isSoWith, 7, (some .boolean))
theorem oX5_isSoWith : am_okV MX5_isSoWith := ⟨⟨(am_in 1251 (by decide +kernel) (by decide +kernel)), (am_in 78 (by decide +kernel) (by decide +kernel)), by decide +kernel, by decide +kernel, by decide +kernel, by decide⟩, (am_in 1250 (by decide +kernel) (by decide +kernel)), (am_in 70 (by decide +kernel) (by decide +kernel))⟩
def MX5_judges : am_M := (yX5_judges, cX5_judges, 3, none)
theorem oX5_judges : am_okV MX5_judges := ⟨⟨(am_in 1201 (by decide +kernel) (by decide +kernel)), (am_in 78 (by decide +kernel) (by decide +kernel)), by decide +kernel, by decide +kernel, by decide +kernel, by decide⟩, (am_in 1200 (by decide +kernel) (by decide +kernel)), (am_in 67 (by decide +kernel) (by decide +kernel))⟩
def MX5_keep : am_M := (yX5_keep, cX5_keep, 3, (some .int))
theorem oX5_keep : am_okV MX5_keep := ⟨⟨(am_in 1272 (by decide +kernel) (by decide +kernel)), (am_in 78 (by decide +kernel) (by decide +kernel)), by decide +kernel, by decide +kernel, by decide +kernel, by decide⟩, (am_in 1270 (by decide +kernel) (by decide +kernel)), (am_in 1271 (by decide +kernel) (by decide +kernel))⟩
def MX5_keepDraft : am_M := (yX5_keepDraft, cX5_keepDraft, 2, none)
theorem oX5_keepDraft : am_okV MX5_keepDraft := ⟨⟨(am_in 845 (by decide +kernel) (by decide +kernel)), (am_in 78 (by decide +kernel) (by decide +kernel)), by decide +kernel, by decide +kernel, by decide +kernel, by decide⟩, (am_in 844 (by decide +kernel) (by decide +kernel)), (am_in 29 (by decide +kernel) (by decide +kernel))⟩
def MX5_key : am_M := (yX5_key, cX5_key, 3, (some .int))
theorem oX5_key : am_okV MX5_key := ⟨⟨(am_in 1037 (by decide +kernel) (by decide +kernel)), (am_in 78 (by decide +kernel) (by decide +kernel)), by decide +kernel, by decide +kernel, by decide +kernel, by decide⟩, (am_in 1035 (by decide +kernel) (by decide +kernel)), (am_in 1036 (by decide +kernel) (by decide +kernel))⟩
def MX5_kind : am_M := (yX5_kind, cX5_kind, 5, (some .int))
theorem oX5_kind : am_okV MX5_kind := ⟨⟨(am_in 1188 (by decide +kernel) (by decide +kernel)), (am_in 78 (by decide +kernel) (by decide +kernel)), by decide +kernel, by decide +kernel, by decide +kernel, by decide⟩, (am_in 1186 (by decide +kernel) (by decide +kernel)), (am_in 1187 (by decide +kernel) (by decide +kernel))⟩
def MX5_kinds : am_M := (yX5_kinds, cX5_kinds, 2, (some .int))
theorem oX5_kinds : am_okV MX5_kinds := ⟨⟨(am_in 1243 (by decide +kernel) (by decide +kernel)), (am_in 78 (by decide +kernel) (by decide +kernel)), by decide +kernel, by decide +kernel, by decide +kernel, by decide⟩, (am_in 1241 (by decide +kernel) (by decide +kernel)), (am_in 1242 (by decide +kernel) (by decide +kernel))⟩
def MX5_latestPress : am_M := (yX5_latestPress, cX5_latestPress, 6, (some .int))
theorem oX5_latestPress : am_okV MX5_latestPress := ⟨⟨(am_in 1025 (by decide +kernel) (by decide +kernel)), (am_in 78 (by decide +kernel) (by decide +kernel)), by decide +kernel, by decide +kernel, by decide +kernel, by decide⟩, (am_in 1024 (by decide +kernel) (by decide +kernel)), (am_in 45 (by decide +kernel) (by decide +kernel))⟩
def MX5_lay : am_M := (yX5_lay, cX5_lay, 4, (some .int))
theorem oX5_lay : am_okV MX5_lay := ⟨⟨(am_in 1291 (by decide +kernel) (by decide +kernel)), (am_in 78 (by decide +kernel) (by decide +kernel)), by decide +kernel, by decide +kernel, by decide +kernel, by decide⟩, (am_in 1289 (by decide +kernel) (by decide +kernel)), (am_in 1290 (by decide +kernel) (by decide +kernel))⟩
def MX5_lineNow : am_M := (yX5_lineNow, cX5_lineNow, 1, (some .int))
theorem oX5_lineNow : am_okV MX5_lineNow := ⟨⟨(am_in 973 (by decide +kernel) (by decide +kernel)), (am_in 78 (by decide +kernel) (by decide +kernel)), by decide +kernel, by decide +kernel, by decide +kernel, by decide⟩, (am_in 972 (by decide +kernel) (by decide +kernel)), (am_in 34 (by decide +kernel) (by decide +kernel))⟩
def MX5_looks : am_M := (yX5_looks, cX5_looks, 3, none)
theorem oX5_looks : am_okV MX5_looks := ⟨⟨(am_in 1112 (by decide +kernel) (by decide +kernel)), (am_in 78 (by decide +kernel) (by decide +kernel)), by decide +kernel, by decide +kernel, by decide +kernel, by decide⟩, (am_in 1111 (by decide +kernel) (by decide +kernel)), (am_in 55 (by decide +kernel) (by decide +kernel))⟩
def MX5_lose : am_M := (yX5_lose, cX5_lose, 4, (some .int))
theorem oX5_lose : am_okV MX5_lose := ⟨⟨(am_in 1209 (by decide +kernel) (by decide +kernel)), (am_in 78 (by decide +kernel) (by decide +kernel)), by decide +kernel, by decide +kernel, by decide +kernel, by decide⟩, (am_in 1207 (by decide +kernel) (by decide +kernel)), (am_in 1208 (by decide +kernel) (by decide +kernel))⟩
def MX5_lowOf : am_M := (yX5_lowOf, cX5_lowOf, 1, (some .int))
theorem oX5_lowOf : am_okS MX5_lowOf := ⟨⟨(am_in 1059 (by decide +kernel) (by decide +kernel)), (am_in 78 (by decide +kernel) (by decide +kernel)), by decide +kernel, by decide +kernel, by decide +kernel, by decide⟩, (am_in 1058 (by decide +kernel) (by decide +kernel))⟩
def MX5_lowest : am_M := (yX5_lowest, cX5_lowest, 7, (some .long))
theorem oX5_lowest : am_okS MX5_lowest := ⟨⟨(am_in 1223 (by decide +kernel) (by decide +kernel)), (am_in 78 (by decide +kernel) (by decide +kernel)), by decide +kernel, by decide +kernel, by decide +kernel, by decide⟩, (am_in 1222 (by decide +kernel) (by decide +kernel))⟩
def MX5_luck : am_M := (yX5_luck, cX5_luck, 5, (some .long))
theorem oX5_luck : am_okV MX5_luck := ⟨⟨(am_in 1213 (by decide +kernel) (by decide +kernel)), (am_in 78 (by decide +kernel) (by decide +kernel)), by decide +kernel, by decide +kernel, by decide +kernel, by decide⟩, (am_in 1211 (by decide +kernel) (by decide +kernel)), (am_in 1212 (by decide +kernel) (by decide +kernel))⟩
def MX5_mean : am_M := (yX5_mean, cX5_mean, 4, (some .long))
theorem oX5_mean : am_okV MX5_mean := ⟨⟨(am_in 1230 (by decide +kernel) (by decide +kernel)), (am_in 78 (by decide +kernel) (by decide +kernel)), by decide +kernel, by decide +kernel, by decide +kernel, by decide⟩, (am_in 1228 (by decide +kernel) (by decide +kernel)), (am_in 1229 (by decide +kernel) (by decide +kernel))⟩
def MX5_mostOf : am_M := (yX5_mostOf, cX5_mostOf, 1, (some .int))
theorem oX5_mostOf : am_okS MX5_mostOf := ⟨⟨(am_in 1062 (by decide +kernel) (by decide +kernel)), (am_in 78 (by decide +kernel) (by decide +kernel)), by decide +kernel, by decide +kernel, by decide +kernel, by decide⟩, (am_in 1061 (by decide +kernel) (by decide +kernel))⟩
def MX5_need : am_M := (yX5_need, cX5_need, 5, (some .int))
theorem oX5_need : am_okV MX5_need := ⟨⟨(am_in 1171 (by decide +kernel) (by decide +kernel)), (am_in 78 (by decide +kernel) (by decide +kernel)), by decide +kernel, by decide +kernel, by decide +kernel, by decide⟩, (am_in 1169 (by decide +kernel) (by decide +kernel)), (am_in 1170 (by decide +kernel) (by decide +kernel))⟩
def MX5_numbers : am_M := (yX5_numbers, cX5_numbers, 2, (some .int))
theorem oX5_numbers : am_okV MX5_numbers := ⟨⟨(am_in 1255 (by decide +kernel) (by decide +kernel)), (am_in 78 (by decide +kernel) (by decide +kernel)), by decide +kernel, by decide +kernel, by decide +kernel, by decide⟩, (am_in 1253 (by decide +kernel) (by decide +kernel)), (am_in 1254 (by decide +kernel) (by decide +kernel))⟩
def MX5_of : am_M := (yX5_of, cX5_of, 3, (some .int))
theorem oX5_of : am_okV MX5_of := ⟨⟨(am_in 1013 (by decide +kernel) (by decide +kernel)), (am_in 78 (by decide +kernel) (by decide +kernel)), by decide +kernel, by decide +kernel, by decide +kernel, by decide⟩, (am_in 1012 (by decide +kernel) (by decide +kernel)), (am_in 42 (by decide +kernel) (by decide +kernel))⟩
def MX5_ofPress : am_M := (yX5_ofPress, cX5_ofPress, 3, (some .int))
theorem oX5_ofPress : am_okV MX5_ofPress := ⟨⟨(am_in 1029 (by decide +kernel) (by decide +kernel)), (am_in 78 (by decide +kernel) (by decide +kernel)), by decide +kernel, by decide +kernel, by decide +kernel, by decide⟩, (am_in 1028 (by decide +kernel) (by decide +kernel)), (am_in 46 (by decide +kernel) (by decide +kernel))⟩
def MX5_offIn : am_M := (yX5_offIn, cX5_offIn, 3, (some .int))
theorem oX5_offIn : am_okV MX5_offIn := ⟨⟨(am_in 1197 (by decide +kernel) (by decide +kernel)), (am_in 78 (by decide +kernel) (by decide +kernel)), by decide +kernel, by decide +kernel, by decide +kernel, by decide⟩, (am_in 1196 (by decide +kernel) (by decide +kernel)), (am_in 66 (by decide +kernel) (by decide +kernel))⟩
def MX5_press : am_M := (yX5_press, cX5_press, 3, (some .int))
theorem oX5_press : am_okV MX5_press := ⟨⟨(am_in 1046 (by decide +kernel) (by decide +kernel)), (am_in 78 (by decide +kernel) (by decide +kernel)), by decide +kernel, by decide +kernel, by decide +kernel, by decide⟩, (am_in 1044 (by decide +kernel) (by decide +kernel)), (am_in 1045 (by decide +kernel) (by decide +kernel))⟩
def MX5_read : am_M := (yX5_read, cX5_read, 11, (some .int))
theorem oX5_read : am_okV MX5_read := ⟨⟨(am_in 1295 (by decide +kernel) (by decide +kernel)), (am_in 78 (by decide +kernel) (by decide +kernel)), by decide +kernel, by decide +kernel, by decide +kernel, by decide⟩, (am_in 1293 (by decide +kernel) (by decide +kernel)), (am_in 1294 (by decide +kernel) (by decide +kernel))⟩
def MX5_readLine : am_M := (yX5_readLine, cX5_readLine, 2, none)
theorem oX5_readLine : am_okV MX5_readLine := ⟨⟨(am_in 969 (by decide +kernel) (by decide +kernel)), (am_in 78 (by decide +kernel) (by decide +kernel)), by decide +kernel, by decide +kernel, by decide +kernel, by decide⟩, (am_in 968 (by decide +kernel) (by decide +kernel)), (am_in 33 (by decide +kernel) (by decide +kernel))⟩
def MX5_readLineOf : am_M := (yX5_readLineOf, cX5_readLineOf, 2, none)
theorem oX5_readLineOf : am_okV MX5_readLineOf := ⟨⟨(am_in 985 (by decide +kernel) (by decide +kernel)), (am_in 78 (by decide +kernel) (by decide +kernel)), by decide +kernel, by decide +kernel, by decide +kernel, by decide⟩, (am_in 984 (by decide +kernel) (by decide +kernel)), (am_in 37 (by decide +kernel) (by decide +kernel))⟩
def MX5_readNumber : am_M := (yX5_readNumber, cX5_readNumber, 4, (some .int))
theorem oX5_readNumber : am_okV MX5_readNumber := ⟨⟨(am_in 993 (by decide +kernel) (by decide +kernel)), (am_in 78 (by decide +kernel) (by decide +kernel)), by decide +kernel, by decide +kernel, by decide +kernel, by decide⟩, (am_in 992 (by decide +kernel) (by decide +kernel)), (am_in 39 (by decide +kernel) (by decide +kernel))⟩
def MX5_readPress : am_M := (yX5_readPress, cX5_readPress, 2, none)
theorem oX5_readPress : am_okV MX5_readPress := ⟨⟨(am_in 989 (by decide +kernel) (by decide +kernel)), (am_in 78 (by decide +kernel) (by decide +kernel)), by decide +kernel, by decide +kernel, by decide +kernel, by decide⟩, (am_in 988 (by decide +kernel) (by decide +kernel)), (am_in 38 (by decide +kernel) (by decide +kernel))⟩
def MX5_reads : am_M := (yX5_reads, cX5_reads, 2, none)
theorem oX5_reads : am_okV MX5_reads := ⟨⟨(am_in 953 (by decide +kernel) (by decide +kernel)), (am_in 78 (by decide +kernel) (by decide +kernel)), by decide +kernel, by decide +kernel, by decide +kernel, by decide⟩, (am_in 952 (by decide +kernel) (by decide +kernel)), (am_in 30 (by decide +kernel) (by decide +kernel))⟩
def MX5_requires : am_M := (yX5_requires, cX5_requires, 3, none)
theorem oX5_requires : am_okV MX5_requires := ⟨⟨(am_in 965 (by decide +kernel) (by decide +kernel)), (am_in 78 (by decide +kernel) (by decide +kernel)), by decide +kernel, by decide +kernel, by decide +kernel, by decide⟩, (am_in 964 (by decide +kernel) (by decide +kernel)), (am_in 32 (by decide +kernel) (by decide +kernel))⟩
def MX5_rule : am_M := (yX5_rule, cX5_rule, 2, (some .int))
theorem oX5_rule : am_okV MX5_rule := ⟨⟨(am_in 1001 (by decide +kernel) (by decide +kernel)), (am_in 78 (by decide +kernel) (by decide +kernel)), by decide +kernel, by decide +kernel, by decide +kernel, by decide⟩, (am_in 999 (by decide +kernel) (by decide +kernel)), (am_in 1000 (by decide +kernel) (by decide +kernel))⟩
def MX5_runs : am_M := (yX5_runs, cX5_runs, 6, (some .int))
theorem oX5_runs : am_okV MX5_runs := ⟨⟨(am_in 1140 (by decide +kernel) (by decide +kernel)), (am_in 78 (by decide +kernel) (by decide +kernel)), by decide +kernel, by decide +kernel, by decide +kernel, by decide⟩, (am_in 1138 (by decide +kernel) (by decide +kernel)), (am_in 1139 (by decide +kernel) (by decide +kernel))⟩
def MX5_says : am_M := (yX5_says, cX5_says, 3, (some .int))
theorem oX5_says : am_okV MX5_says := ⟨⟨(am_in 1009 (by decide +kernel) (by decide +kernel)), (am_in 78 (by decide +kernel) (by decide +kernel)), by decide +kernel, by decide +kernel, by decide +kernel, by decide⟩, (am_in 1008 (by decide +kernel) (by decide +kernel)), (am_in 41 (by decide +kernel) (by decide +kernel))⟩
def MX5_see : am_M := (yX5_see, cX5_see, 5, (some .int))
theorem oX5_see : am_okV MX5_see := ⟨⟨(am_in 1234 (by decide +kernel) (by decide +kernel)), (am_in 78 (by decide +kernel) (by decide +kernel)), by decide +kernel, by decide +kernel, by decide +kernel, by decide⟩, (am_in 1232 (by decide +kernel) (by decide +kernel)), (am_in 1233 (by decide +kernel) (by decide +kernel))⟩
def MX5_settles : am_M := (yX5_settles, cX5_settles, 2, none)
theorem oX5_settles : am_okV MX5_settles := ⟨⟨(am_in 1081 (by decide +kernel) (by decide +kernel)), (am_in 78 (by decide +kernel) (by decide +kernel)), by decide +kernel, by decide +kernel, by decide +kernel, by decide⟩, (am_in 1080 (by decide +kernel) (by decide +kernel)), (am_in 52 (by decide +kernel) (by decide +kernel))⟩
def MX5_sheet : am_M := (yX5_sheet, cX5_sheet, 5, (some .int))
theorem oX5_sheet : am_okV MX5_sheet := ⟨⟨(am_in 1284 (by decide +kernel) (by decide +kernel)), (am_in 78 (by decide +kernel) (by decide +kernel)), by decide +kernel, by decide +kernel, by decide +kernel, by decide⟩, (am_in 1282 (by decide +kernel) (by decide +kernel)), (am_in 1283 (by decide +kernel) (by decide +kernel))⟩
def MX5_shuts : am_M := (yX5_shuts, cX5_shuts, 2, (some .int))
theorem oX5_shuts : am_okV MX5_shuts := ⟨⟨(am_in 1132 (by decide +kernel) (by decide +kernel)), (am_in 78 (by decide +kernel) (by decide +kernel)), by decide +kernel, by decide +kernel, by decide +kernel, by decide⟩, (am_in 1131 (by decide +kernel) (by decide +kernel)), (am_in 60 (by decide +kernel) (by decide +kernel))⟩
def MX5_slow : am_M := (yX5_slow, cX5_slow, 4, (some .int))
theorem oX5_slow : am_okV MX5_slow := ⟨⟨(am_in 1205 (by decide +kernel) (by decide +kernel)), (am_in 78 (by decide +kernel) (by decide +kernel)), by decide +kernel, by decide +kernel, by decide +kernel, by decide⟩, (am_in 1203 (by decide +kernel) (by decide +kernel)), (am_in 1204 (by decide +kernel) (by decide +kernel))⟩
def MX5_starts : am_M := (yX5_starts, cX5_starts, 2, none)
theorem oX5_starts : am_okV MX5_starts := ⟨⟨(am_in 1005 (by decide +kernel) (by decide +kernel)), (am_in 78 (by decide +kernel) (by decide +kernel)), by decide +kernel, by decide +kernel, by decide +kernel, by decide⟩, (am_in 1004 (by decide +kernel) (by decide +kernel)), (am_in 40 (by decide +kernel) (by decide +kernel))⟩
def MX5_startsJudging : am_M := (yX5_startsJudging, cX5_startsJudging, 2, none)
theorem oX5_startsJudging : am_okV MX5_startsJudging := ⟨⟨(am_in 1193 (by decide +kernel) (by decide +kernel)), (am_in 78 (by decide +kernel) (by decide +kernel)), by decide +kernel, by decide +kernel, by decide +kernel, by decide⟩, (am_in 1192 (by decide +kernel) (by decide +kernel)), (am_in 65 (by decide +kernel) (by decide +kernel))⟩
def MX5_startsWith : am_M := (yX5_startsWith, cX5_startsWith, 4, none)
theorem oX5_startsWith : am_okV MX5_startsWith := ⟨⟨(am_in 1180 (by decide +kernel) (by decide +kernel)), (am_in 78 (by decide +kernel) (by decide +kernel)), by decide +kernel, by decide +kernel, by decide +kernel, by decide⟩, (am_in 1179 (by decide +kernel) (by decide +kernel)), (am_in 64 (by decide +kernel) (by decide +kernel))⟩
def MX5_strike : am_M := (yX5_strike, cX5_strike, 5, (some .int))
theorem oX5_strike : am_okV MX5_strike := ⟨⟨(am_in 1090 (by decide +kernel) (by decide +kernel)), (am_in 78 (by decide +kernel) (by decide +kernel)), by decide +kernel, by decide +kernel, by decide +kernel, by decide⟩, (am_in 1088 (by decide +kernel) (by decide +kernel)), (am_in 1089 (by decide +kernel) (by decide +kernel))⟩
def MX5_strikesJust : am_M := (yX5_strikesJust, cX5_strikesJust, 6, (some .boolean))
theorem oX5_strikesJust : am_okV MX5_strikesJust := ⟨⟨(am_in 1176 (by decide +kernel) (by decide +kernel)), (am_in 78 (by decide +kernel) (by decide +kernel)), by decide +kernel, by decide +kernel, by decide +kernel, by decide⟩, (am_in 1175 (by decide +kernel) (by decide +kernel)), (am_in 63 (by decide +kernel) (by decide +kernel))⟩
def MX5_struckByAll : am_M := (yX5_struckByAll, cX5_struckByAll, 3, (some .int))
theorem oX5_struckByAll : am_okV MX5_struckByAll := ⟨⟨(am_in 1136 (by decide +kernel) (by decide +kernel)), (am_in 78 (by decide +kernel) (by decide +kernel)), by decide +kernel, by decide +kernel, by decide +kernel, by decide⟩, (am_in 1135 (by decide +kernel) (by decide +kernel)), (am_in 61 (by decide +kernel) (by decide +kernel))⟩
def MX5_sumOf : am_M := (yX5_sumOf, cX5_sumOf, 4, (some .int))
theorem oX5_sumOf : am_okV MX5_sumOf := ⟨⟨(am_in 1033 (by decide +kernel) (by decide +kernel)), (am_in 78 (by decide +kernel) (by decide +kernel)), by decide +kernel, by decide +kernel, by decide +kernel, by decide⟩, (am_in 1032 (by decide +kernel) (by decide +kernel)), (am_in 47 (by decide +kernel) (by decide +kernel))⟩
def MX5_text : am_M := (yX5_text, cX5_text, 2, (some .int))
theorem oX5_text : am_okV MX5_text := ⟨⟨(am_in 949 (by decide +kernel) (by decide +kernel)), (am_in 78 (by decide +kernel) (by decide +kernel)), by decide +kernel, by decide +kernel, by decide +kernel, by decide⟩, (am_in 947 (by decide +kernel) (by decide +kernel)), (am_in 948 (by decide +kernel) (by decide +kernel))⟩
def MX5_tickGoesBy : am_M := (yX5_tickGoesBy, cX5_tickGoesBy, 3, none)
theorem oX5_tickGoesBy : am_okV MX5_tickGoesBy := ⟨⟨(am_in 1108 (by decide +kernel) (by decide +kernel)), (am_in 78 (by decide +kernel) (by decide +kernel)), by decide +kernel, by decide +kernel, by decide +kernel, by decide⟩, (am_in 1107 (by decide +kernel) (by decide +kernel)), (am_in 54 (by decide +kernel) (by decide +kernel))⟩
def MX5_ticks : am_M := (yX5_ticks, cX5_ticks, 2, (some .int))
theorem oX5_ticks : am_okV MX5_ticks := ⟨⟨(am_in 1099 (by decide +kernel) (by decide +kernel)), (am_in 78 (by decide +kernel) (by decide +kernel)), by decide +kernel, by decide +kernel, by decide +kernel, by decide⟩, (am_in 1097 (by decide +kernel) (by decide +kernel)), (am_in 1098 (by decide +kernel) (by decide +kernel))⟩
def MX5_ticksGo : am_M := (yX5_ticksGo, cX5_ticksGo, 3, none)
theorem oX5_ticksGo : am_okV MX5_ticksGo := ⟨⟨(am_in 1104 (by decide +kernel) (by decide +kernel)), (am_in 78 (by decide +kernel) (by decide +kernel)), by decide +kernel, by decide +kernel, by decide +kernel, by decide⟩, (am_in 1103 (by decide +kernel) (by decide +kernel)), (am_in 53 (by decide +kernel) (by decide +kernel))⟩
def MX5_torn : am_M := (yX5_torn, cX5_torn, 1, (some .int))
theorem oX5_torn : am_okV MX5_torn := ⟨⟨(am_in 1301 (by decide +kernel) (by decide +kernel)), (am_in 78 (by decide +kernel) (by decide +kernel)), by decide +kernel, by decide +kernel, by decide +kernel, by decide⟩, (am_in 1299 (by decide +kernel) (by decide +kernel)), (am_in 1300 (by decide +kernel) (by decide +kernel))⟩
def MX5_wants : am_M := (yX5_wants, cX5_wants, 2, (some .int))
theorem oX5_wants : am_okV MX5_wants := ⟨⟨(am_in 1128 (by decide +kernel) (by decide +kernel)), (am_in 78 (by decide +kernel) (by decide +kernel)), by decide +kernel, by decide +kernel, by decide +kernel, by decide⟩, (am_in 1127 (by decide +kernel) (by decide +kernel)), (am_in 59 (by decide +kernel) (by decide +kernel))⟩
def MX5_weighs : am_M := (yX5_weighs, cX5_weighs, 4, none)
theorem oX5_weighs : am_okV MX5_weighs := ⟨⟨(am_in 1116 (by decide +kernel) (by decide +kernel)), (am_in 78 (by decide +kernel) (by decide +kernel)), by decide +kernel, by decide +kernel, by decide +kernel, by decide⟩, (am_in 1115 (by decide +kernel) (by decide +kernel)), (am_in 56 (by decide +kernel) (by decide +kernel))⟩
def MX5_when : am_M := (yX5_when, cX5_when, 4, (some .int))
theorem oX5_when : am_okV MX5_when := ⟨⟨(am_in 1159 (by decide +kernel) (by decide +kernel)), (am_in 78 (by decide +kernel) (by decide +kernel)), by decide +kernel, by decide +kernel, by decide +kernel, by decide⟩, (am_in 1157 (by decide +kernel) (by decide +kernel)), (am_in 1158 (by decide +kernel) (by decide +kernel))⟩
def MX5_which : am_M := (yX5_which, cX5_which, 5, (some .int))
theorem oX5_which : am_okV MX5_which := ⟨⟨(am_in 1247 (by decide +kernel) (by decide +kernel)), (am_in 78 (by decide +kernel) (by decide +kernel)), by decide +kernel, by decide +kernel, by decide +kernel, by decide⟩, (am_in 1246 (by decide +kernel) (by decide +kernel)), (am_in 69 (by decide +kernel) (by decide +kernel))⟩
def MX5_within : am_M := (yX5_within, cX5_within, 2, (some .int))
theorem oX5_within : am_okS MX5_within := ⟨⟨(am_in 1073 (by decide +kernel) (by decide +kernel)), (am_in 78 (by decide +kernel) (by decide +kernel)), by decide +kernel, by decide +kernel, by decide +kernel, by decide⟩, (am_in 1072 (by decide +kernel) (by decide +kernel))⟩
theorem lmL_9 : Cond.methodLink RL 9 yX4_init ∈ am_T := (am_in 87 (by decide +kernel) (by decide +kernel))
-- methodLink RX4 1 ('java/lang/Object', '<init>', '()V')
theorem lmX4_15 : Cond.methodLink RX4 15 yX0_init ∈ am_T := (am_in 95 (by decide +kernel) (by decide +kernel))
-- methodLink RX0 3 ('java/lang/Object', '<init>', '()V')
-- methodLink RX1 3 ('java/lang/Object', '<init>', '()V')
theorem lfX1_9 : Cond.fieldLink RX1 9 "KeySieves$Key" "bounce" "I" ∈ am_T := (am_in 106 (by decide +kernel) (by decide +kernel))
theorem lfX0_73 : Cond.fieldLink RX0 73 "KeySieves$Key" "bounce" "I" ∈ am_T := (am_in 107 (by decide +kernel) (by decide +kernel))
theorem lfX1_15 : Cond.fieldLink RX1 15 "KeySieves$Key" "kind" "I" ∈ am_T := (am_in 108 (by decide +kernel) (by decide +kernel))
theorem lfX1_18 : Cond.fieldLink RX1 18 "KeySieves$Key" "number" "I" ∈ am_T := (am_in 109 (by decide +kernel) (by decide +kernel))
theorem lfX1_21 : Cond.fieldLink RX1 21 "KeySieves$Key" "says" "I" ∈ am_T := (am_in 110 (by decide +kernel) (by decide +kernel))
theorem lfX4_114 : Cond.fieldLink RX4 114 "KeySieves$Key" "says" "I" ∈ am_T := (am_in 111 (by decide +kernel) (by decide +kernel))
theorem lfX0_79 : Cond.fieldLink RX0 79 "KeySieves$Key" "says" "I" ∈ am_T := (am_in 112 (by decide +kernel) (by decide +kernel))
theorem lfX1_24 : Cond.fieldLink RX1 24 "KeySieves$Key" "sum" "I" ∈ am_T := (am_in 113 (by decide +kernel) (by decide +kernel))
theorem lfX4_117 : Cond.fieldLink RX4 117 "KeySieves$Key" "sum" "I" ∈ am_T := (am_in 114 (by decide +kernel) (by decide +kernel))
theorem lfX1_27 : Cond.fieldLink RX1 27 "KeySieves$Key" "rest" "I" ∈ am_T := (am_in 115 (by decide +kernel) (by decide +kernel))
theorem lfX4_120 : Cond.fieldLink RX4 120 "KeySieves$Key" "rest" "I" ∈ am_T := (am_in 116 (by decide +kernel) (by decide +kernel))
theorem lfX1_30 : Cond.fieldLink RX1 30 "KeySieves$Key" "strokes" "I" ∈ am_T := (am_in 117 (by decide +kernel) (by decide +kernel))
theorem lfX4_123 : Cond.fieldLink RX4 123 "KeySieves$Key" "strokes" "I" ∈ am_T := (am_in 118 (by decide +kernel) (by decide +kernel))
theorem lfX0_82 : Cond.fieldLink RX0 82 "KeySieves$Key" "strokes" "I" ∈ am_T := (am_in 119 (by decide +kernel) (by decide +kernel))
theorem lfX1_36 : Cond.fieldLink RX1 36 "KeySieves$Key" "struck" "I" ∈ am_T := (am_in 120 (by decide +kernel) (by decide +kernel))
theorem lfX0_92 : Cond.fieldLink RX0 92 "KeySieves$Key" "struck" "I" ∈ am_T := (am_in 121 (by decide +kernel) (by decide +kernel))
theorem lfX4_178 : Cond.fieldLink RX4 178 "KeySieves$Key" "struck" "I" ∈ am_T := (am_in 122 (by decide +kernel) (by decide +kernel))
theorem lfX1_39 : Cond.fieldLink RX1 39 "KeySieves$Key" "changed" "I" ∈ am_T := (am_in 123 (by decide +kernel) (by decide +kernel))
theorem lfX0_95 : Cond.fieldLink RX0 95 "KeySieves$Key" "changed" "I" ∈ am_T := (am_in 124 (by decide +kernel) (by decide +kernel))
theorem lfX0_11 : Cond.fieldLink RX0 11 "KeySieves$Board" "keys" "[LKeySieves$Key;" ∈ am_T := (am_in 145 (by decide +kernel) (by decide +kernel))
theorem lfX4_105 : Cond.fieldLink RX4 105 "KeySieves$Board" "keys" "[LKeySieves$Key;" ∈ am_T := (am_in 146 (by decide +kernel) (by decide +kernel))
theorem lfX0_41 : Cond.fieldLink RX0 41 "KeySieves$Board" "keyCount" "I" ∈ am_T := (am_in 147 (by decide +kernel) (by decide +kernel))
theorem lfX3_84 : Cond.fieldLink RX3 84 "KeySieves$Board" "keyCount" "I" ∈ am_T := (am_in 148 (by decide +kernel) (by decide +kernel))
theorem lfX4_79 : Cond.fieldLink RX4 79 "KeySieves$Board" "keyCount" "I" ∈ am_T := (am_in 149 (by decide +kernel) (by decide +kernel))
theorem lfX0_18 : Cond.fieldLink RX0 18 "KeySieves$Board" "pressTick" "[I" ∈ am_T := (am_in 150 (by decide +kernel) (by decide +kernel))
theorem lfX4_126 : Cond.fieldLink RX4 126 "KeySieves$Board" "pressTick" "[I" ∈ am_T := (am_in 151 (by decide +kernel) (by decide +kernel))
theorem lfX0_22 : Cond.fieldLink RX0 22 "KeySieves$Board" "pressKey" "[I" ∈ am_T := (am_in 152 (by decide +kernel) (by decide +kernel))
theorem lfX4_129 : Cond.fieldLink RX4 129 "KeySieves$Board" "pressKey" "[I" ∈ am_T := (am_in 153 (by decide +kernel) (by decide +kernel))
theorem lfX0_25 : Cond.fieldLink RX0 25 "KeySieves$Board" "pressState" "[I" ∈ am_T := (am_in 154 (by decide +kernel) (by decide +kernel))
theorem lfX4_132 : Cond.fieldLink RX4 132 "KeySieves$Board" "pressState" "[I" ∈ am_T := (am_in 155 (by decide +kernel) (by decide +kernel))
theorem lfX0_44 : Cond.fieldLink RX0 44 "KeySieves$Board" "pressCount" "I" ∈ am_T := (am_in 156 (by decide +kernel) (by decide +kernel))
theorem lfX3_94 : Cond.fieldLink RX3 94 "KeySieves$Board" "pressCount" "I" ∈ am_T := (am_in 157 (by decide +kernel) (by decide +kernel))
theorem lfX4_82 : Cond.fieldLink RX4 82 "KeySieves$Board" "pressCount" "I" ∈ am_T := (am_in 158 (by decide +kernel) (by decide +kernel))
theorem lfX0_37 : Cond.fieldLink RX0 37 "KeySieves$Board" "every" "I" ∈ am_T := (am_in 159 (by decide +kernel) (by decide +kernel))
theorem lfX4_88 : Cond.fieldLink RX4 88 "KeySieves$Board" "every" "I" ∈ am_T := (am_in 160 (by decide +kernel) (by decide +kernel))
theorem lfX3_100 : Cond.fieldLink RX3 100 "KeySieves$Board" "every" "I" ∈ am_T := (am_in 161 (by decide +kernel) (by decide +kernel))
theorem lfX0_47 : Cond.fieldLink RX0 47 "KeySieves$Board" "tick" "I" ∈ am_T := (am_in 162 (by decide +kernel) (by decide +kernel))
theorem lfX4_85 : Cond.fieldLink RX4 85 "KeySieves$Board" "tick" "I" ∈ am_T := (am_in 163 (by decide +kernel) (by decide +kernel))
theorem lfX0_28 : Cond.fieldLink RX0 28 "KeySieves$Board" "seenTicks" "[I" ∈ am_T := (am_in 164 (by decide +kernel) (by decide +kernel))
theorem lfX0_31 : Cond.fieldLink RX0 31 "KeySieves$Board" "seenKey" "[I" ∈ am_T := (am_in 165 (by decide +kernel) (by decide +kernel))
theorem lfX0_34 : Cond.fieldLink RX0 34 "KeySieves$Board" "seenSays" "[I" ∈ am_T := (am_in 166 (by decide +kernel) (by decide +kernel))
theorem lfX0_50 : Cond.fieldLink RX0 50 "KeySieves$Board" "seenCount" "I" ∈ am_T := (am_in 167 (by decide +kernel) (by decide +kernel))
theorem lfX4_247 : Cond.fieldLink RX4 247 "KeySieves$Board" "seenCount" "I" ∈ am_T := (am_in 168 (by decide +kernel) (by decide +kernel))
theorem lmX4_37 : Cond.methodLink RX4 37 yX2_init ∈ am_T := (am_in 199 (by decide +kernel) (by decide +kernel))
-- methodLink RX2 3 ('java/lang/Object', '<init>', '()V')
theorem lfX2_9 : Cond.fieldLink RX2 9 "KeySieves$Sheet" "cells" "[I" ∈ am_T := (am_in 203 (by decide +kernel) (by decide +kernel))
theorem lfX2_15 : Cond.fieldLink RX2 15 "KeySieves$Sheet" "lane" "I" ∈ am_T := (am_in 204 (by decide +kernel) (by decide +kernel))
theorem lfX2_29 : Cond.fieldLink RX2 29 "KeySieves$Sheet" "size" "I" ∈ am_T := (am_in 205 (by decide +kernel) (by decide +kernel))
theorem lfX4_298 : Cond.fieldLink RX4 298 "KeySieves$Sheet" "size" "I" ∈ am_T := (am_in 206 (by decide +kernel) (by decide +kernel))
theorem lmX4_40 : Cond.methodLink RX4 40 yX3_init ∈ am_T := (am_in 217 (by decide +kernel) (by decide +kernel))
-- methodLink RX3 3 ('java/lang/Object', '<init>', '()V')
theorem lfX3_9 : Cond.fieldLink RX3 9 "KeySieves$TextReader" "bytes" "[B" ∈ am_T := (am_in 221 (by decide +kernel) (by decide +kernel))
theorem lfX3_15 : Cond.fieldLink RX3 15 "KeySieves$TextReader" "board" "LKeySieves$Board;" ∈ am_T := (am_in 222 (by decide +kernel) (by decide +kernel))
theorem lfX3_30 : Cond.fieldLink RX3 30 "KeySieves$TextReader" "length" "I" ∈ am_T := (am_in 223 (by decide +kernel) (by decide +kernel))
theorem lfX3_34 : Cond.fieldLink RX3 34 "KeySieves$TextReader" "place" "I" ∈ am_T := (am_in 224 (by decide +kernel) (by decide +kernel))
theorem lfX3_50 : Cond.fieldLink RX3 50 "KeySieves$TextReader" "token" "I" ∈ am_T := (am_in 225 (by decide +kernel) (by decide +kernel))
theorem lfX3_68 : Cond.fieldLink RX3 68 "KeySieves$TextReader" "tokenPlace" "I" ∈ am_T := (am_in 226 (by decide +kernel) (by decide +kernel))
theorem lfX3_103 : Cond.fieldLink RX3 103 "KeySieves$TextReader" "value" "I" ∈ am_T := (am_in 227 (by decide +kernel) (by decide +kernel))
theorem lfX3_37 : Cond.fieldLink RX3 37 "KeySieves$TextReader" "everyTold" "Z" ∈ am_T := (am_in 228 (by decide +kernel) (by decide +kernel))
theorem lfX3_41 : Cond.fieldLink RX3 41 "KeySieves$TextReader" "fault" "I" ∈ am_T := (am_in 229 (by decide +kernel) (by decide +kernel))
theorem lfX4_66 : Cond.fieldLink RX4 66 "KeySieves$TextReader" "fault" "I" ∈ am_T := (am_in 230 (by decide +kernel) (by decide +kernel))
theorem lfX3_44 : Cond.fieldLink RX3 44 "KeySieves$TextReader" "faultPlace" "I" ∈ am_T := (am_in 231 (by decide +kernel) (by decide +kernel))
theorem lfX4_72 : Cond.fieldLink RX4 72 "KeySieves$TextReader" "faultPlace" "I" ∈ am_T := (am_in 232 (by decide +kernel) (by decide +kernel))
theorem lfX4_9 : Cond.fieldLink RX4 9 "KeySieves" "tape" "[B" ∈ am_T := (am_in 254 (by decide +kernel) (by decide +kernel))
theorem lfX4_58 : Cond.fieldLink RX4 58 "KeySieves" "tapeLength" "I" ∈ am_T := (am_in 255 (by decide +kernel) (by decide +kernel))
theorem lfX4_16 : Cond.fieldLink RX4 16 "KeySieves" "now" "LKeySieves$Board;" ∈ am_T := (am_in 256 (by decide +kernel) (by decide +kernel))
theorem lfX4_20 : Cond.fieldLink RX4 20 "KeySieves" "trial" "LKeySieves$Board;" ∈ am_T := (am_in 257 (by decide +kernel) (by decide +kernel))
theorem lfX4_23 : Cond.fieldLink RX4 23 "KeySieves" "images" "[LKeySieves$Board;" ∈ am_T := (am_in 258 (by decide +kernel) (by decide +kernel))
theorem lfX4_27 : Cond.fieldLink RX4 27 "KeySieves" "kept" "[Z" ∈ am_T := (am_in 259 (by decide +kernel) (by decide +kernel))
theorem lfX4_33 : Cond.fieldLink RX4 33 "KeySieves" "sheets" "[LKeySieves$Sheet;" ∈ am_T := (am_in 260 (by decide +kernel) (by decide +kernel))
theorem lfX4_43 : Cond.fieldLink RX4 43 "KeySieves" "reader" "LKeySieves$TextReader;" ∈ am_T := (am_in 261 (by decide +kernel) (by decide +kernel))
theorem lfX4_69 : Cond.fieldLink RX4 69 "KeySieves" "textFault" "I" ∈ am_T := (am_in 262 (by decide +kernel) (by decide +kernel))
theorem lfX4_292 : Cond.fieldLink RX4 292 "KeySieves" "readFault" "I" ∈ am_T := (am_in 263 (by decide +kernel) (by decide +kernel))
theorem lfX4_47 : Cond.fieldLink RX4 47 "KeySieves" "quietContacts" "[I" ∈ am_T := (am_in 264 (by decide +kernel) (by decide +kernel))
theorem lfX4_51 : Cond.fieldLink RX4 51 "KeySieves" "saidOne" "[I" ∈ am_T := (am_in 265 (by decide +kernel) (by decide +kernel))
theorem lmL_13 : Cond.methodLink RL 13 yX4_feed ∈ am_T := (am_in 291 (by decide +kernel) (by decide +kernel))
theorem lmX4_54 : Cond.methodLink RX4 54 yX4_within ∈ am_T := (am_in 295 (by decide +kernel) (by decide +kernel))
theorem lmL_18 : Cond.methodLink RL 18 yX4_end ∈ am_T := (am_in 298 (by decide +kernel) (by decide +kernel))
theorem lmL_22 : Cond.methodLink RL 22 yX4_text ∈ am_T := (am_in 302 (by decide +kernel) (by decide +kernel))
theorem lmX4_62 : Cond.methodLink RX4 62 yX3_readLines ∈ am_T := (am_in 306 (by decide +kernel) (by decide +kernel))
theorem lmX3_19 : Cond.methodLink RX3 19 yX0_clear ∈ am_T := (am_in 310 (by decide +kernel) (by decide +kernel))
theorem lmX3_24 : Cond.methodLink RX3 24 yJ9_min_7cf53 ∈ am_T := (am_in 314 (by decide +kernel) (by decide +kernel))
theorem lmX3_47 : Cond.methodLink RX3 47 yX3_nextToken ∈ am_T := (am_in 317 (by decide +kernel) (by decide +kernel))
theorem lmX3_110 : Cond.methodLink RX3 110 yX3_isLetter ∈ am_T := (am_in 321 (by decide +kernel) (by decide +kernel))
theorem lmX3_114 : Cond.methodLink RX3 114 yX3_takeName ∈ am_T := (am_in 324 (by decide +kernel) (by decide +kernel))
theorem lmX3_117 : Cond.methodLink RX3 117 yX3_isFigure ∈ am_T := (am_in 328 (by decide +kernel) (by decide +kernel))
theorem lmX3_120 : Cond.methodLink RX3 120 yX3_takeNumber ∈ am_T := (am_in 331 (by decide +kernel) (by decide +kernel))
theorem lmX3_60 : Cond.methodLink RX3 60 yX3_fail ∈ am_T := (am_in 335 (by decide +kernel) (by decide +kernel))
theorem lmX3_53 : Cond.methodLink RX3 53 yX3_readLine ∈ am_T := (am_in 339 (by decide +kernel) (by decide +kernel))
theorem lmX3_64 : Cond.methodLink RX3 64 yX3_lineNamed ∈ am_T := (am_in 343 (by decide +kernel) (by decide +kernel))
theorem lmX3_123 : Cond.methodLink RX3 123 yX3_lineName ∈ am_T := (am_in 347 (by decide +kernel) (by decide +kernel))
theorem lmX3_127 : Cond.methodLink RX3 127 yX3_nameIs ∈ am_T := (am_in 356 (by decide +kernel) (by decide +kernel))
theorem lmX3_131 : Cond.methodLink RX3 131 yJ0_length_8abf5 ∈ am_T := (am_in 360 (by decide +kernel) (by decide +kernel))
theorem lmX3_135 : Cond.methodLink RX3 135 yJ0_charAt_5068e ∈ am_T := (am_in 370 (by decide +kernel) (by decide +kernel))
theorem lmX3_71 : Cond.methodLink RX3 71 yX3_readEvery ∈ am_T := (am_in 408 (by decide +kernel) (by decide +kernel))
theorem lmX3_87 : Cond.methodLink RX3 87 yX3_readNumber ∈ am_T := (am_in 412 (by decide +kernel) (by decide +kernel))
theorem lmX3_74 : Cond.methodLink RX3 74 yX3_readPress ∈ am_T := (am_in 417 (by decide +kernel) (by decide +kernel))
theorem lmX3_97 : Cond.methodLink RX3 97 yX0_addPress ∈ am_T := (am_in 421 (by decide +kernel) (by decide +kernel))
theorem lmX3_77 : Cond.methodLink RX3 77 yX3_readKey ∈ am_T := (am_in 425 (by decide +kernel) (by decide +kernel))
theorem lmX3_90 : Cond.methodLink RX3 90 yX0_addKey ∈ am_T := (am_in 429 (by decide +kernel) (by decide +kernel))
theorem lmX0_65 : Cond.methodLink RX0 65 yX1_begin ∈ am_T := (am_in 433 (by decide +kernel) (by decide +kernel))
theorem lmX1_33 : Cond.methodLink RX1 33 yX1_startRun ∈ am_T := (am_in 437 (by decide +kernel) (by decide +kernel))
theorem lmX3_81 : Cond.methodLink RX3 81 yX3_readSemicolon ∈ am_T := (am_in 441 (by decide +kernel) (by decide +kernel))
theorem lmX3_56 : Cond.methodLink RX3 56 yX0_hasPressOfNoKey ∈ am_T := (am_in 445 (by decide +kernel) (by decide +kernel))
theorem lmX0_127 : Cond.methodLink RX0 127 yX0_hasKey ∈ am_T := (am_in 449 (by decide +kernel) (by decide +kernel))
theorem lmX4_75 : Cond.methodLink RX4 75 yX0_copyFrom ∈ am_T := (am_in 454 (by decide +kernel) (by decide +kernel))
theorem lmX0_53 : Cond.methodLink RX0 53 yX0_copySievesFrom ∈ am_T := (am_in 458 (by decide +kernel) (by decide +kernel))
theorem lmX0_57 : Cond.methodLink RX0 57 yX1_copyFrom ∈ am_T := (am_in 462 (by decide +kernel) (by decide +kernel))
theorem lmL_27 : Cond.methodLink RL 27 yX4_fault ∈ am_T := (am_in 466 (by decide +kernel) (by decide +kernel))
theorem lmL_31 : Cond.methodLink RL 31 yX4_rule ∈ am_T := (am_in 470 (by decide +kernel) (by decide +kernel))
theorem lmX4_91 : Cond.methodLink RX4 91 yX0_saysBits ∈ am_T := (am_in 474 (by decide +kernel) (by decide +kernel))
theorem lmX4_95 : Cond.methodLink RX4 95 yX0_contactBits ∈ am_T := (am_in 478 (by decide +kernel) (by decide +kernel))
theorem lmX0_76 : Cond.methodLink RX0 76 yX0_contactAt ∈ am_T := (am_in 482 (by decide +kernel) (by decide +kernel))
theorem lmX0_69 : Cond.methodLink RX0 69 yX0_latestPress ∈ am_T := (am_in 486 (by decide +kernel) (by decide +kernel))
theorem lmX4_98 : Cond.methodLink RX4 98 yX0_strokesOfAll ∈ am_T := (am_in 490 (by decide +kernel) (by decide +kernel))
theorem lmL_35 : Cond.methodLink RL 35 yX4_key ∈ am_T := (am_in 494 (by decide +kernel) (by decide +kernel))
theorem lmX4_101 : Cond.methodLink RX4 101 yX0_hasKey ∈ am_T := (am_in 498 (by decide +kernel) (by decide +kernel))
theorem lmX4_109 : Cond.methodLink RX4 109 yX1_part ∈ am_T := (am_in 499 (by decide +kernel) (by decide +kernel))
theorem lmL_40 : Cond.methodLink RL 40 yX4_press ∈ am_T := (am_in 503 (by decide +kernel) (by decide +kernel))
theorem lmL_44 : Cond.methodLink RL 44 yX4_contact ∈ am_T := (am_in 507 (by decide +kernel) (by decide +kernel))
theorem lmX4_135 : Cond.methodLink RX4 135 yX0_contactAt ∈ am_T := (am_in 511 (by decide +kernel) (by decide +kernel))
theorem lmL_48 : Cond.methodLink RL 48 yX4_alter ∈ am_T := (am_in 512 (by decide +kernel) (by decide +kernel))
theorem lmX4_139 : Cond.methodLink RX4 139 yX1_mayBe ∈ am_T := (am_in 516 (by decide +kernel) (by decide +kernel))
theorem lmX4_143 : Cond.methodLink RX4 143 yX1_become ∈ am_T := (am_in 520 (by decide +kernel) (by decide +kernel))
theorem lmX1_46 : Cond.methodLink RX1 46 yJ9_min_7cf53 ∈ am_T := (am_in 524 (by decide +kernel) (by decide +kernel))
theorem lmL_53 : Cond.methodLink RL 53 yX4_every ∈ am_T := (am_in 525 (by decide +kernel) (by decide +kernel))
theorem lmL_57 : Cond.methodLink RL 57 yX4_strike ∈ am_T := (am_in 529 (by decide +kernel) (by decide +kernel))
theorem lmX4_147 : Cond.methodLink RX4 147 yX4_putPress ∈ am_T := (am_in 533 (by decide +kernel) (by decide +kernel))
theorem lmX4_151 : Cond.methodLink RX4 151 yX0_addPress ∈ am_T := (am_in 537 (by decide +kernel) (by decide +kernel))
theorem lmL_61 : Cond.methodLink RL 61 yX4_drop ∈ am_T := (am_in 538 (by decide +kernel) (by decide +kernel))
theorem lmL_65 : Cond.methodLink RL 65 yX4_ticks ∈ am_T := (am_in 542 (by decide +kernel) (by decide +kernel))
theorem lmX4_155 : Cond.methodLink RX4 155 yX0_startRun ∈ am_T := (am_in 546 (by decide +kernel) (by decide +kernel))
theorem lmX0_89 : Cond.methodLink RX0 89 yX1_startRun ∈ am_T := (am_in 550 (by decide +kernel) (by decide +kernel))
theorem lmX4_158 : Cond.methodLink RX4 158 yX0_advance ∈ am_T := (am_in 551 (by decide +kernel) (by decide +kernel))
theorem lmX0_102 : Cond.methodLink RX0 102 yX0_contactBits ∈ am_T := (am_in 555 (by decide +kernel) (by decide +kernel))
theorem lmX0_106 : Cond.methodLink RX0 106 yX0_tickWith ∈ am_T := (am_in 556 (by decide +kernel) (by decide +kernel))
theorem lmX0_98 : Cond.methodLink RX0 98 yX1_look ∈ am_T := (am_in 560 (by decide +kernel) (by decide +kernel))
theorem lmX1_52 : Cond.methodLink RX1 52 yX1_weigh ∈ am_T := (am_in 564 (by decide +kernel) (by decide +kernel))
theorem lmX1_63 : Cond.methodLink RX1 63 yJ9_max_7cf53 ∈ am_T := (am_in 568 (by decide +kernel) (by decide +kernel))
theorem lmX1_56 : Cond.methodLink RX1 56 yX1_compare ∈ am_T := (am_in 571 (by decide +kernel) (by decide +kernel))
theorem lmX1_59 : Cond.methodLink RX1 59 yX1_say ∈ am_T := (am_in 575 (by decide +kernel) (by decide +kernel))
theorem lmX4_162 : Cond.methodLink RX4 162 yX0_struckInRun ∈ am_T := (am_in 579 (by decide +kernel) (by decide +kernel))
theorem lmL_69 : Cond.methodLink RL 69 yX4_runs ∈ am_T := (am_in 583 (by decide +kernel) (by decide +kernel))
theorem lmX4_165 : Cond.methodLink RX4 165 yX4_isRun ∈ am_T := (am_in 587 (by decide +kernel) (by decide +kernel))
theorem lmX4_168 : Cond.methodLink RX4 168 yX4_copyToTry ∈ am_T := (am_in 590 (by decide +kernel) (by decide +kernel))
theorem lmX4_172 : Cond.methodLink RX4 172 yX0_advanceCountingWrong ∈ am_T := (am_in 594 (by decide +kernel) (by decide +kernel))
theorem lmX0_109 : Cond.methodLink RX0 109 yX0_saysBits ∈ am_T := (am_in 598 (by decide +kernel) (by decide +kernel))
theorem lmX4_175 : Cond.methodLink RX4 175 yX0_changedInRun ∈ am_T := (am_in 599 (by decide +kernel) (by decide +kernel))
theorem lmL_73 : Cond.methodLink RL 73 yX4_ahead ∈ am_T := (am_in 603 (by decide +kernel) (by decide +kernel))
theorem lmL_77 : Cond.methodLink RL 77 yX4_when ∈ am_T := (am_in 607 (by decide +kernel) (by decide +kernel))
theorem lmL_81 : Cond.methodLink RL 81 yX4_due ∈ am_T := (am_in 611 (by decide +kernel) (by decide +kernel))
theorem lmX4_181 : Cond.methodLink RX4 181 yX0_dueIn ∈ am_T := (am_in 615 (by decide +kernel) (by decide +kernel))
theorem lmL_85 : Cond.methodLink RL 85 yX4_need ∈ am_T := (am_in 619 (by decide +kernel) (by decide +kernel))
theorem lmX4_184 : Cond.methodLink RX4 184 yX4_strokesOfOne ∈ am_T := (am_in 623 (by decide +kernel) (by decide +kernel))
theorem lmX4_189 : Cond.methodLink RX4 189 yX4_copyAltered ∈ am_T := (am_in 627 (by decide +kernel) (by decide +kernel))
theorem lmL_89 : Cond.methodLink RL 89 yX4_bear ∈ am_T := (am_in 631 (by decide +kernel) (by decide +kernel))
theorem lmL_93 : Cond.methodLink RL 93 yX4_kind ∈ am_T := (am_in 635 (by decide +kernel) (by decide +kernel))
theorem lkX4_188 : Cond.constant RX4 188 (1000000) ∈ am_T := (am_in 639 (by decide +kernel) (by decide +kernel))
theorem lmX4_193 : Cond.methodLink RX4 193 yX4_missOf ∈ am_T := (am_in 640 (by decide +kernel) (by decide +kernel))
theorem lmX4_197 : Cond.methodLink RX4 197 yX4_strokesIn ∈ am_T := (am_in 643 (by decide +kernel) (by decide +kernel))
theorem lmX4_203 : Cond.methodLink RX4 203 yJ9_abs_0f7a4 ∈ am_T := (am_in 646 (by decide +kernel) (by decide +kernel))
theorem lmL_97 : Cond.methodLink RL 97 yX4_slow ∈ am_T := (am_in 649 (by decide +kernel) (by decide +kernel))
theorem lmL_101 : Cond.methodLink RL 101 yX4_lose ∈ am_T := (am_in 653 (by decide +kernel) (by decide +kernel))
theorem lmX4_200 : Cond.methodLink RX4 200 yX0_removePress ∈ am_T := (am_in 657 (by decide +kernel) (by decide +kernel))
theorem lmL_105 : Cond.methodLink RL 105 yX4_luck ∈ am_T := (am_in 661 (by decide +kernel) (by decide +kernel))
theorem lmX4_208 : Cond.methodLink RX4 208 yX4_isNoise ∈ am_T := (am_in 665 (by decide +kernel) (by decide +kernel))
theorem lkX4_211 : Cond.constantLong RX4 211 (-1) ∈ am_T := (am_in 668 (by decide +kernel) (by decide +kernel))
theorem lmX4_213 : Cond.methodLink RX4 213 yX4_listenQuietly ∈ am_T := (am_in 669 (by decide +kernel) (by decide +kernel))
theorem lmX4_216 : Cond.methodLink RX4 216 yX4_weightOf ∈ am_T := (am_in 673 (by decide +kernel) (by decide +kernel))
theorem lmX4_238 : Cond.methodLink RX4 238 yJ6_bitCount_0f7a4 ∈ am_T := (am_in 676 (by decide +kernel) (by decide +kernel))
theorem lmX4_224 : Cond.methodLink RX4 224 yX4_power ∈ am_T := (am_in 682 (by decide +kernel) (by decide +kernel))
theorem lmX4_220 : Cond.methodLink RX4 220 yX4_runNoisily ∈ am_T := (am_in 685 (by decide +kernel) (by decide +kernel))
theorem lmX4_232 : Cond.methodLink RX4 232 yX0_copySievesFrom ∈ am_T := (am_in 689 (by decide +kernel) (by decide +kernel))
theorem lmX4_235 : Cond.methodLink RX4 235 yX0_tickWith ∈ am_T := (am_in 690 (by decide +kernel) (by decide +kernel))
theorem lmX4_228 : Cond.methodLink RX4 228 yX4_partOfFraction ∈ am_T := (am_in 691 (by decide +kernel) (by decide +kernel))
theorem lmX4_243 : Cond.methodLink RX4 243 yX4_commonDivisor ∈ am_T := (am_in 694 (by decide +kernel) (by decide +kernel))
theorem lmL_110 : Cond.methodLink RL 110 yX4_mean ∈ am_T := (am_in 697 (by decide +kernel) (by decide +kernel))
theorem lmL_115 : Cond.methodLink RL 115 yX4_see ∈ am_T := (am_in 701 (by decide +kernel) (by decide +kernel))
theorem lmX4_250 : Cond.methodLink RX4 250 yX0_addSeen ∈ am_T := (am_in 705 (by decide +kernel) (by decide +kernel))
theorem lmL_119 : Cond.methodLink RL 119 yX4_forget ∈ am_T := (am_in 709 (by decide +kernel) (by decide +kernel))
theorem lmL_123 : Cond.methodLink RL 123 yX4_kinds ∈ am_T := (am_in 713 (by decide +kernel) (by decide +kernel))
theorem lmX4_253 : Cond.methodLink RX4 253 yX4_fitting ∈ am_T := (am_in 717 (by decide +kernel) (by decide +kernel))
theorem lmX4_262 : Cond.methodLink RX4 262 yX0_isAsSeen ∈ am_T := (am_in 721 (by decide +kernel) (by decide +kernel))
theorem lmX0_112 : Cond.methodLink RX0 112 yX0_lastSeenTicks ∈ am_T := (am_in 725 (by decide +kernel) (by decide +kernel))
theorem lmX0_122 : Cond.methodLink RX0 122 yJ9_max_7cf53 ∈ am_T := (am_in 729 (by decide +kernel) (by decide +kernel))
theorem lmX0_115 : Cond.methodLink RX0 115 yX0_saysAsSeenBehind ∈ am_T := (am_in 730 (by decide +kernel) (by decide +kernel))
theorem lmX0_119 : Cond.methodLink RX0 119 yX0_advance ∈ am_T := (am_in 734 (by decide +kernel) (by decide +kernel))
theorem lmL_127 : Cond.methodLink RL 127 yX4_numbers ∈ am_T := (am_in 735 (by decide +kernel) (by decide +kernel))
theorem lmL_131 : Cond.methodLink RL 131 yX4_bounces ∈ am_T := (am_in 739 (by decide +kernel) (by decide +kernel))
theorem lmL_135 : Cond.methodLink RL 135 yX4_ask ∈ am_T := (am_in 743 (by decide +kernel) (by decide +kernel))
theorem lmX4_256 : Cond.methodLink RX4 256 yX4_countSayers ∈ am_T := (am_in 747 (by decide +kernel) (by decide +kernel))
theorem lmX4_266 : Cond.methodLink RX4 266 yX4_addSayings ∈ am_T := (am_in 751 (by decide +kernel) (by decide +kernel))
theorem lmX4_259 : Cond.methodLink RX4 259 yJ9_max_7cf53 ∈ am_T := (am_in 755 (by decide +kernel) (by decide +kernel))
theorem lmL_139 : Cond.methodLink RL 139 yX4_drift ∈ am_T := (am_in 756 (by decide +kernel) (by decide +kernel))
theorem lkX4_270 : Cond.constant RX4 270 (1103515245) ∈ am_T := (am_in 760 (by decide +kernel) (by decide +kernel))
theorem lmL_143 : Cond.methodLink RL 143 yX4_keep ∈ am_T := (am_in 761 (by decide +kernel) (by decide +kernel))
theorem lmL_147 : Cond.methodLink RL 147 yX4_back ∈ am_T := (am_in 765 (by decide +kernel) (by decide +kernel))
theorem lmL_151 : Cond.methodLink RL 151 yX4_sheet ∈ am_T := (am_in 769 (by decide +kernel) (by decide +kernel))
theorem lmX4_271 : Cond.methodLink RX4 271 yX4_isSheet ∈ am_T := (am_in 773 (by decide +kernel) (by decide +kernel))
theorem lmX4_274 : Cond.methodLink RX4 274 yX2_isLane ∈ am_T := (am_in 776 (by decide +kernel) (by decide +kernel))
theorem lmX4_277 : Cond.methodLink RX4 277 yX2_renew ∈ am_T := (am_in 780 (by decide +kernel) (by decide +kernel))
theorem lmX2_23 : Cond.methodLink RX2 23 yJ9_min_7cf53 ∈ am_T := (am_in 784 (by decide +kernel) (by decide +kernel))
theorem lmL_155 : Cond.methodLink RL 155 yX4_lay ∈ am_T := (am_in 785 (by decide +kernel) (by decide +kernel))
theorem lmX4_280 : Cond.methodLink RX4 280 yX2_faultAt ∈ am_T := (am_in 789 (by decide +kernel) (by decide +kernel))
theorem lmX2_32 : Cond.methodLink RX2 32 yX2_isNothing ∈ am_T := (am_in 793 (by decide +kernel) (by decide +kernel))
theorem lmX4_283 : Cond.methodLink RX4 283 yX2_put ∈ am_T := (am_in 797 (by decide +kernel) (by decide +kernel))
theorem lmX2_40 : Cond.methodLink RX2 40 yX2_faultAt ∈ am_T := (am_in 801 (by decide +kernel) (by decide +kernel))
theorem lmL_159 : Cond.methodLink RL 159 yX4_read ∈ am_T := (am_in 802 (by decide +kernel) (by decide +kernel))
theorem lmX4_286 : Cond.methodLink RX4 286 yX2_faultOfThree ∈ am_T := (am_in 806 (by decide +kernel) (by decide +kernel))
theorem lmX2_36 : Cond.methodLink RX2 36 yX2_faultAs ∈ am_T := (am_in 810 (by decide +kernel) (by decide +kernel))
theorem lmX4_289 : Cond.methodLink RX4 289 yX2_get ∈ am_T := (am_in 814 (by decide +kernel) (by decide +kernel))
theorem lmL_164 : Cond.methodLink RL 164 yX4_torn ∈ am_T := (am_in 818 (by decide +kernel) (by decide +kernel))
theorem lmL_168 : Cond.methodLink RL 168 yX4_count ∈ am_T := (am_in 822 (by decide +kernel) (by decide +kernel))
theorem lmX4_295 : Cond.methodLink RX4 295 yX2_isNothing ∈ am_T := (am_in 826 (by decide +kernel) (by decide +kernel))
theorem lmX4_301 : Cond.methodLink RX4 301 yX0_sumOfPart ∈ am_T := (am_in 827 (by decide +kernel) (by decide +kernel))
theorem lmX0_85 : Cond.methodLink RX0 85 yX1_part ∈ am_T := (am_in 831 (by decide +kernel) (by decide +kernel))
theorem lmL_12 : Cond.methodLink RL 12 yX5_init ∈ am_T := (am_in 834 (by decide +kernel) (by decide +kernel))
-- methodLink RX5 1 ('java/lang/Object', '<init>', '()V')
theorem lmX5_47 : Cond.methodLink RX5 47 yX5_firstDraft ∈ am_T := (am_in 838 (by decide +kernel) (by decide +kernel))
theorem lmX5_50 : Cond.methodLink RX5 50 yX5_keepDraft ∈ am_T := (am_in 842 (by decide +kernel) (by decide +kernel))
theorem lfX5_7 : Cond.fieldLink RX5 7 "KeySievesModel" "st" "[I" ∈ am_T := (am_in 846 (by decide +kernel) (by decide +kernel))
theorem lfX5_13 : Cond.fieldLink RX5 13 "KeySievesModel" "now" "[I" ∈ am_T := (am_in 847 (by decide +kernel) (by decide +kernel))
theorem lfX5_16 : Cond.fieldLink RX5 16 "KeySievesModel" "isKept" "[Z" ∈ am_T := (am_in 848 (by decide +kernel) (by decide +kernel))
theorem lfX5_20 : Cond.fieldLink RX5 20 "KeySievesModel" "draft" "[I" ∈ am_T := (am_in 849 (by decide +kernel) (by decide +kernel))
theorem lfX5_53 : Cond.fieldLink RX5 53 "KeySievesModel" "hasEvery" "Z" ∈ am_T := (am_in 850 (by decide +kernel) (by decide +kernel))
theorem lfX5_57 : Cond.fieldLink RX5 57 "KeySievesModel" "highest" "I" ∈ am_T := (am_in 851 (by decide +kernel) (by decide +kernel))
theorem lfX5_23 : Cond.fieldLink RX5 23 "KeySievesModel" "tape" "[I" ∈ am_T := (am_in 852 (by decide +kernel) (by decide +kernel))
theorem lfX5_67 : Cond.fieldLink RX5 67 "KeySievesModel" "taped" "I" ∈ am_T := (am_in 853 (by decide +kernel) (by decide +kernel))
theorem lfX5_79 : Cond.fieldLink RX5 79 "KeySievesModel" "pos" "I" ∈ am_T := (am_in 854 (by decide +kernel) (by decide +kernel))
theorem lfX5_73 : Cond.fieldLink RX5 73 "KeySievesModel" "begun" "I" ∈ am_T := (am_in 855 (by decide +kernel) (by decide +kernel))
theorem lfX5_94 : Cond.fieldLink RX5 94 "KeySievesModel" "sort" "I" ∈ am_T := (am_in 856 (by decide +kernel) (by decide +kernel))
theorem lfX5_105 : Cond.fieldLink RX5 105 "KeySievesModel" "value" "I" ∈ am_T := (am_in 857 (by decide +kernel) (by decide +kernel))
theorem lfX5_70 : Cond.fieldLink RX5 70 "KeySievesModel" "fault" "I" ∈ am_T := (am_in 858 (by decide +kernel) (by decide +kernel))
theorem lfX5_76 : Cond.fieldLink RX5 76 "KeySievesModel" "wrongAt" "I" ∈ am_T := (am_in 859 (by decide +kernel) (by decide +kernel))
theorem lfX5_26 : Cond.fieldLink RX5 26 "KeySievesModel" "struck" "[I" ∈ am_T := (am_in 860 (by decide +kernel) (by decide +kernel))
theorem lfX5_133 : Cond.fieldLink RX5 133 "KeySievesModel" "changes" "I" ∈ am_T := (am_in 861 (by decide +kernel) (by decide +kernel))
theorem lfX5_136 : Cond.fieldLink RX5 136 "KeySievesModel" "lost" "I" ∈ am_T := (am_in 862 (by decide +kernel) (by decide +kernel))
theorem lfX5_246 : Cond.fieldLink RX5 246 "KeySievesModel" "bestCode" "I" ∈ am_T := (am_in 863 (by decide +kernel) (by decide +kernel))
theorem lfX5_249 : Cond.fieldLink RX5 249 "KeySievesModel" "bestMuch" "I" ∈ am_T := (am_in 864 (by decide +kernel) (by decide +kernel))
theorem lfX5_275 : Cond.fieldLink RX5 275 "KeySievesModel" "saySum" "J" ∈ am_T := (am_in 865 (by decide +kernel) (by decide +kernel))
theorem lfX5_279 : Cond.fieldLink RX5 279 "KeySievesModel" "strokeSum" "J" ∈ am_T := (am_in 866 (by decide +kernel) (by decide +kernel))
theorem lfX5_282 : Cond.fieldLink RX5 282 "KeySievesModel" "allWays" "J" ∈ am_T := (am_in 867 (by decide +kernel) (by decide +kernel))
theorem lfX5_29 : Cond.fieldLink RX5 29 "KeySievesModel" "saidBy" "[I" ∈ am_T := (am_in 868 (by decide +kernel) (by decide +kernel))
theorem lfX5_32 : Cond.fieldLink RX5 32 "KeySievesModel" "sayBy" "[I" ∈ am_T := (am_in 869 (by decide +kernel) (by decide +kernel))
theorem lfX5_35 : Cond.fieldLink RX5 35 "KeySievesModel" "lanes" "[I" ∈ am_T := (am_in 870 (by decide +kernel) (by decide +kernel))
theorem lfX5_38 : Cond.fieldLink RX5 38 "KeySievesModel" "sizes" "[I" ∈ am_T := (am_in 871 (by decide +kernel) (by decide +kernel))
theorem lfX5_41 : Cond.fieldLink RX5 41 "KeySievesModel" "cells" "[I" ∈ am_T := (am_in 872 (by decide +kernel) (by decide +kernel))
theorem lfX5_320 : Cond.fieldLink RX5 320 "KeySievesModel" "torn" "I" ∈ am_T := (am_in 873 (by decide +kernel) (by decide +kernel))
theorem lfX5_44 : Cond.fieldLink RX5 44 "KeySievesModel" "before" "[I" ∈ am_T := (am_in 874 (by decide +kernel) (by decide +kernel))
theorem lmL_17 : Cond.methodLink RL 17 yX5_feed ∈ am_T := (am_in 934 (by decide +kernel) (by decide +kernel))
theorem lkX5_61 : Cond.constantLong RX5 61 (127) ∈ am_T := (am_in 938 (by decide +kernel) (by decide +kernel))
theorem lmX5_63 : Cond.methodLink RX5 63 yX5_in ∈ am_T := (am_in 939 (by decide +kernel) (by decide +kernel))
theorem lmL_21 : Cond.methodLink RL 21 yX5_end ∈ am_T := (am_in 942 (by decide +kernel) (by decide +kernel))
theorem lmL_26 : Cond.methodLink RL 26 yX5_text ∈ am_T := (am_in 946 (by decide +kernel) (by decide +kernel))
theorem lmX5_112 : Cond.methodLink RX5 112 yX5_reads ∈ am_T := (am_in 950 (by decide +kernel) (by decide +kernel))
theorem lmX5_82 : Cond.methodLink RX5 82 yX5_byteAt ∈ am_T := (am_in 954 (by decide +kernel) (by decide +kernel))
theorem lkX5_97 : Cond.constantLong RX5 97 (97) ∈ am_T := (am_in 958 (by decide +kernel) (by decide +kernel))
theorem lkX5_99 : Cond.constantLong RX5 99 (122) ∈ am_T := (am_in 959 (by decide +kernel) (by decide +kernel))
theorem lkX5_101 : Cond.constantLong RX5 101 (48) ∈ am_T := (am_in 960 (by decide +kernel) (by decide +kernel))
theorem lkX5_103 : Cond.constantLong RX5 103 (57) ∈ am_T := (am_in 961 (by decide +kernel) (by decide +kernel))
theorem lmX5_108 : Cond.methodLink RX5 108 yX5_requires ∈ am_T := (am_in 962 (by decide +kernel) (by decide +kernel))
theorem lmX5_130 : Cond.methodLink RX5 130 yX5_readLine ∈ am_T := (am_in 966 (by decide +kernel) (by decide +kernel))
theorem lmX5_122 : Cond.methodLink RX5 122 yX5_lineNow ∈ am_T := (am_in 970 (by decide +kernel) (by decide +kernel))
theorem lmX5_86 : Cond.methodLink RX5 86 yX5_is ∈ am_T := (am_in 974 (by decide +kernel) (by decide +kernel))
theorem lmX5_90 : Cond.methodLink RX5 90 yX5_endsIn ∈ am_T := (am_in 978 (by decide +kernel) (by decide +kernel))
theorem lmX5_126 : Cond.methodLink RX5 126 yX5_readLineOf ∈ am_T := (am_in 982 (by decide +kernel) (by decide +kernel))
theorem lmX5_119 : Cond.methodLink RX5 119 yX5_readPress ∈ am_T := (am_in 986 (by decide +kernel) (by decide +kernel))
theorem lmX5_115 : Cond.methodLink RX5 115 yX5_readNumber ∈ am_T := (am_in 990 (by decide +kernel) (by decide +kernel))
theorem lmL_30 : Cond.methodLink RL 30 yX5_fault ∈ am_T := (am_in 994 (by decide +kernel) (by decide +kernel))
theorem lmL_34 : Cond.methodLink RL 34 yX5_rule ∈ am_T := (am_in 998 (by decide +kernel) (by decide +kernel))
theorem lmX5_183 : Cond.methodLink RX5 183 yX5_starts ∈ am_T := (am_in 1002 (by decide +kernel) (by decide +kernel))
theorem lmX5_186 : Cond.methodLink RX5 186 yX5_says ∈ am_T := (am_in 1006 (by decide +kernel) (by decide +kernel))
theorem lmX5_145 : Cond.methodLink RX5 145 yX5_of ∈ am_T := (am_in 1010 (by decide +kernel) (by decide +kernel))
theorem lmX5_177 : Cond.methodLink RX5 177 yX5_contactsNow ∈ am_T := (am_in 1014 (by decide +kernel) (by decide +kernel))
theorem lmX5_171 : Cond.methodLink RX5 171 yX5_contactOf ∈ am_T := (am_in 1018 (by decide +kernel) (by decide +kernel))
theorem lmX5_142 : Cond.methodLink RX5 142 yX5_latestPress ∈ am_T := (am_in 1022 (by decide +kernel) (by decide +kernel))
theorem lmX5_139 : Cond.methodLink RX5 139 yX5_ofPress ∈ am_T := (am_in 1026 (by decide +kernel) (by decide +kernel))
theorem lmX5_189 : Cond.methodLink RX5 189 yX5_sumOf ∈ am_T := (am_in 1030 (by decide +kernel) (by decide +kernel))
theorem lmL_39 : Cond.methodLink RL 39 yX5_key ∈ am_T := (am_in 1034 (by decide +kernel) (by decide +kernel))
theorem lmX5_192 : Cond.methodLink RX5 192 yX5_isKey ∈ am_T := (am_in 1038 (by decide +kernel) (by decide +kernel))
theorem lkX5_196 : Cond.constantLong RX5 196 (6) ∈ am_T := (am_in 1042 (by decide +kernel) (by decide +kernel))
theorem lmL_43 : Cond.methodLink RL 43 yX5_press ∈ am_T := (am_in 1043 (by decide +kernel) (by decide +kernel))
theorem lkX5_198 : Cond.constantLong RX5 198 (2) ∈ am_T := (am_in 1047 (by decide +kernel) (by decide +kernel))
theorem lmL_47 : Cond.methodLink RL 47 yX5_contact ∈ am_T := (am_in 1048 (by decide +kernel) (by decide +kernel))
theorem lkX5_200 : Cond.constantLong RX5 200 (999) ∈ am_T := (am_in 1052 (by decide +kernel) (by decide +kernel))
theorem lmL_52 : Cond.methodLink RL 52 yX5_alter ∈ am_T := (am_in 1053 (by decide +kernel) (by decide +kernel))
theorem lmX5_202 : Cond.methodLink RX5 202 yX5_lowOf ∈ am_T := (am_in 1057 (by decide +kernel) (by decide +kernel))
theorem lmX5_205 : Cond.methodLink RX5 205 yX5_mostOf ∈ am_T := (am_in 1060 (by decide +kernel) (by decide +kernel))
theorem lmX5_208 : Cond.methodLink RX5 208 yX5_becomes ∈ am_T := (am_in 1063 (by decide +kernel) (by decide +kernel))
theorem lmX5_211 : Cond.methodLink RX5 211 yX5_cutsSum ∈ am_T := (am_in 1067 (by decide +kernel) (by decide +kernel))
theorem lmX5_152 : Cond.methodLink RX5 152 yX5_within ∈ am_T := (am_in 1071 (by decide +kernel) (by decide +kernel))
theorem lmX5_148 : Cond.methodLink RX5 148 yX5_becomesOf ∈ am_T := (am_in 1074 (by decide +kernel) (by decide +kernel))
theorem lmX5_214 : Cond.methodLink RX5 214 yX5_settles ∈ am_T := (am_in 1078 (by decide +kernel) (by decide +kernel))
theorem lmL_56 : Cond.methodLink RL 56 yX5_every ∈ am_T := (am_in 1082 (by decide +kernel) (by decide +kernel))
theorem lkX5_217 : Cond.constantLong RX5 217 (4) ∈ am_T := (am_in 1086 (by decide +kernel) (by decide +kernel))
theorem lmL_60 : Cond.methodLink RL 60 yX5_strike ∈ am_T := (am_in 1087 (by decide +kernel) (by decide +kernel))
theorem lkX5_219 : Cond.constantLong RX5 219 (99) ∈ am_T := (am_in 1091 (by decide +kernel) (by decide +kernel))
theorem lmL_64 : Cond.methodLink RL 64 yX5_drop ∈ am_T := (am_in 1092 (by decide +kernel) (by decide +kernel))
theorem lmL_68 : Cond.methodLink RL 68 yX5_ticks ∈ am_T := (am_in 1096 (by decide +kernel) (by decide +kernel))
theorem lkX5_221 : Cond.constantLong RX5 221 (100) ∈ am_T := (am_in 1100 (by decide +kernel) (by decide +kernel))
theorem lmX5_223 : Cond.methodLink RX5 223 yX5_ticksGo ∈ am_T := (am_in 1101 (by decide +kernel) (by decide +kernel))
theorem lmX5_180 : Cond.methodLink RX5 180 yX5_tickGoesBy ∈ am_T := (am_in 1105 (by decide +kernel) (by decide +kernel))
theorem lmX5_174 : Cond.methodLink RX5 174 yX5_looks ∈ am_T := (am_in 1109 (by decide +kernel) (by decide +kernel))
theorem lmX5_165 : Cond.methodLink RX5 165 yX5_weighs ∈ am_T := (am_in 1113 (by decide +kernel) (by decide +kernel))
theorem lmX5_155 : Cond.methodLink RX5 155 yX5_comesToSay ∈ am_T := (am_in 1117 (by decide +kernel) (by decide +kernel))
theorem lmX5_168 : Cond.methodLink RX5 168 yX5_countsUp ∈ am_T := (am_in 1121 (by decide +kernel) (by decide +kernel))
theorem lmX5_159 : Cond.methodLink RX5 159 yX5_wants ∈ am_T := (am_in 1125 (by decide +kernel) (by decide +kernel))
theorem lmX5_162 : Cond.methodLink RX5 162 yX5_shuts ∈ am_T := (am_in 1129 (by decide +kernel) (by decide +kernel))
theorem lmX5_226 : Cond.methodLink RX5 226 yX5_struckByAll ∈ am_T := (am_in 1133 (by decide +kernel) (by decide +kernel))
theorem lmL_72 : Cond.methodLink RL 72 yX5_runs ∈ am_T := (am_in 1137 (by decide +kernel) (by decide +kernel))
theorem lmX5_231 : Cond.methodLink RX5 231 yX5_isFar ∈ am_T := (am_in 1141 (by decide +kernel) (by decide +kernel))
theorem lkX5_229 : Cond.constantLong RX5 229 (200) ∈ am_T := (am_in 1144 (by decide +kernel) (by decide +kernel))
theorem lkX5_234 : Cond.constantLong RX5 234 (3) ∈ am_T := (am_in 1145 (by decide +kernel) (by decide +kernel))
theorem lmX5_236 : Cond.methodLink RX5 236 yX5_flag ∈ am_T := (am_in 1146 (by decide +kernel) (by decide +kernel))
theorem lmL_76 : Cond.methodLink RL 76 yX5_ahead ∈ am_T := (am_in 1149 (by decide +kernel) (by decide +kernel))
theorem lmX5_240 : Cond.methodLink RX5 240 yX5_isPart ∈ am_T := (am_in 1153 (by decide +kernel) (by decide +kernel))
theorem lmL_80 : Cond.methodLink RL 80 yX5_when ∈ am_T := (am_in 1156 (by decide +kernel) (by decide +kernel))
theorem lmL_84 : Cond.methodLink RL 84 yX5_due ∈ am_T := (am_in 1160 (by decide +kernel) (by decide +kernel))
theorem lmX5_243 : Cond.methodLink RX5 243 yX5_dueIn ∈ am_T := (am_in 1164 (by decide +kernel) (by decide +kernel))
theorem lmL_88 : Cond.methodLink RL 88 yX5_need ∈ am_T := (am_in 1168 (by decide +kernel) (by decide +kernel))
theorem lkX5_255 : Cond.constantLong RX5 255 (20) ∈ am_T := (am_in 1172 (by decide +kernel) (by decide +kernel))
theorem lmX5_257 : Cond.methodLink RX5 257 yX5_strikesJust ∈ am_T := (am_in 1173 (by decide +kernel) (by decide +kernel))
theorem lmX5_252 : Cond.methodLink RX5 252 yX5_startsWith ∈ am_T := (am_in 1177 (by decide +kernel) (by decide +kernel))
theorem lmL_92 : Cond.methodLink RL 92 yX5_bear ∈ am_T := (am_in 1181 (by decide +kernel) (by decide +kernel))
theorem lmL_96 : Cond.methodLink RL 96 yX5_kind ∈ am_T := (am_in 1185 (by decide +kernel) (by decide +kernel))
theorem lkX5_261 : Cond.constant RX5 261 (1000000) ∈ am_T := (am_in 1189 (by decide +kernel) (by decide +kernel))
theorem lmX5_262 : Cond.methodLink RX5 262 yX5_startsJudging ∈ am_T := (am_in 1190 (by decide +kernel) (by decide +kernel))
theorem lmX5_265 : Cond.methodLink RX5 265 yX5_offIn ∈ am_T := (am_in 1194 (by decide +kernel) (by decide +kernel))
theorem lmX5_268 : Cond.methodLink RX5 268 yX5_judges ∈ am_T := (am_in 1198 (by decide +kernel) (by decide +kernel))
theorem lmL_100 : Cond.methodLink RL 100 yX5_slow ∈ am_T := (am_in 1202 (by decide +kernel) (by decide +kernel))
theorem lmL_104 : Cond.methodLink RL 104 yX5_lose ∈ am_T := (am_in 1206 (by decide +kernel) (by decide +kernel))
theorem lmL_109 : Cond.methodLink RL 109 yX5_luck ∈ am_T := (am_in 1210 (by decide +kernel) (by decide +kernel))
theorem lkX5_285 : Cond.constantLong RX5 285 (10) ∈ am_T := (am_in 1214 (by decide +kernel) (by decide +kernel))
theorem lkX5_287 : Cond.constantLong RX5 287 (8) ∈ am_T := (am_in 1215 (by decide +kernel) (by decide +kernel))
theorem lkX5_289 : Cond.constantLong RX5 289 (-1) ∈ am_T := (am_in 1216 (by decide +kernel) (by decide +kernel))
theorem lmX5_291 : Cond.methodLink RX5 291 yX5_findOdds ∈ am_T := (am_in 1217 (by decide +kernel) (by decide +kernel))
theorem lmX5_294 : Cond.methodLink RX5 294 yX5_lowest ∈ am_T := (am_in 1221 (by decide +kernel) (by decide +kernel))
theorem lmX5_271 : Cond.methodLink RX5 271 yX5_common ∈ am_T := (am_in 1224 (by decide +kernel) (by decide +kernel))
theorem lmL_114 : Cond.methodLink RL 114 yX5_mean ∈ am_T := (am_in 1227 (by decide +kernel) (by decide +kernel))
theorem lmL_118 : Cond.methodLink RL 118 yX5_see ∈ am_T := (am_in 1231 (by decide +kernel) (by decide +kernel))
theorem lkX5_298 : Cond.constantLong RX5 298 (40) ∈ am_T := (am_in 1235 (by decide +kernel) (by decide +kernel))
theorem lmL_122 : Cond.methodLink RL 122 yX5_forget ∈ am_T := (am_in 1236 (by decide +kernel) (by decide +kernel))
theorem lmL_126 : Cond.methodLink RL 126 yX5_kinds ∈ am_T := (am_in 1240 (by decide +kernel) (by decide +kernel))
theorem lmX5_304 : Cond.methodLink RX5 304 yX5_which ∈ am_T := (am_in 1244 (by decide +kernel) (by decide +kernel))
theorem lmX5_300 : Cond.methodLink RX5 300 yX5_isSoWith ∈ am_T := (am_in 1248 (by decide +kernel) (by decide +kernel))
theorem lmL_130 : Cond.methodLink RL 130 yX5_numbers ∈ am_T := (am_in 1252 (by decide +kernel) (by decide +kernel))
theorem lmL_134 : Cond.methodLink RL 134 yX5_bounces ∈ am_T := (am_in 1256 (by decide +kernel) (by decide +kernel))
theorem lmL_138 : Cond.methodLink RL 138 yX5_ask ∈ am_T := (am_in 1260 (by decide +kernel) (by decide +kernel))
theorem lmL_142 : Cond.methodLink RL 142 yX5_drift ∈ am_T := (am_in 1264 (by decide +kernel) (by decide +kernel))
theorem lkX5_307 : Cond.constant RX5 307 (1103515245) ∈ am_T := (am_in 1268 (by decide +kernel) (by decide +kernel))
theorem lmL_146 : Cond.methodLink RL 146 yX5_keep ∈ am_T := (am_in 1269 (by decide +kernel) (by decide +kernel))
theorem lmX5_308 : Cond.methodLink RX5 308 yX5_copies ∈ am_T := (am_in 1273 (by decide +kernel) (by decide +kernel))
theorem lmL_150 : Cond.methodLink RL 150 yX5_back ∈ am_T := (am_in 1277 (by decide +kernel) (by decide +kernel))
theorem lmL_154 : Cond.methodLink RL 154 yX5_sheet ∈ am_T := (am_in 1281 (by decide +kernel) (by decide +kernel))
theorem lmX5_311 : Cond.methodLink RX5 311 yX5_isSheet ∈ am_T := (am_in 1285 (by decide +kernel) (by decide +kernel))
theorem lmL_158 : Cond.methodLink RL 158 yX5_lay ∈ am_T := (am_in 1288 (by decide +kernel) (by decide +kernel))
theorem lmL_163 : Cond.methodLink RL 163 yX5_read ∈ am_T := (am_in 1292 (by decide +kernel) (by decide +kernel))
theorem lkX5_314 : Cond.constantLong RX5 314 (13) ∈ am_T := (am_in 1296 (by decide +kernel) (by decide +kernel))
theorem lmX5_316 : Cond.methodLink RX5 316 yX5_strike ∈ am_T := (am_in 1297 (by decide +kernel) (by decide +kernel))
theorem lmL_167 : Cond.methodLink RL 167 yX5_torn ∈ am_T := (am_in 1298 (by decide +kernel) (by decide +kernel))
theorem lmL_171 : Cond.methodLink RL 171 yX5_count ∈ am_T := (am_in 1302 (by decide +kernel) (by decide +kernel))
theorem am_lay0 : ∀ w ∈ u_ws RX0 TX0 12, w ∈ am_T := by
  have h : u_ws RX0 TX0 12 = [169, 171, 173, 175, 177, 179, 181, 183, 185, 187, 189, 191].filterMap (fun i => lw_tbl[i]?) := by decide +kernel
  have g : (u_ws RX0 TX0 12).all goodWord = true := by decide +kernel
  intro w hw
  refine List.mem_filter.mpr ⟨?_, List.all_eq_true.mp g w hw⟩
  rw [h] at hw
  obtain ⟨i, -, hi⟩ := List.mem_filterMap.mp hw
  exact List.mem_of_getElem? hi
theorem am_lay1 : ∀ w ∈ u_ws RX1 TX1 9, w ∈ am_T := by
  have h : u_ws RX1 TX1 9 = [125, 127, 129, 131, 133, 135, 137, 139, 141].filterMap (fun i => lw_tbl[i]?) := by decide +kernel
  have g : (u_ws RX1 TX1 9).all goodWord = true := by decide +kernel
  intro w hw
  refine List.mem_filter.mpr ⟨?_, List.all_eq_true.mp g w hw⟩
  rw [h] at hw
  obtain ⟨i, -, hi⟩ := List.mem_filterMap.mp hw
  exact List.mem_of_getElem? hi
theorem am_lay2 : ∀ w ∈ u_ws RX2 TX2 3, w ∈ am_T := by
  have h : u_ws RX2 TX2 3 = [207, 209, 211].filterMap (fun i => lw_tbl[i]?) := by decide +kernel
  have g : (u_ws RX2 TX2 3).all goodWord = true := by decide +kernel
  intro w hw
  refine List.mem_filter.mpr ⟨?_, List.all_eq_true.mp g w hw⟩
  rw [h] at hw
  obtain ⟨i, -, hi⟩ := List.mem_filterMap.mp hw
  exact List.mem_of_getElem? hi
theorem am_lay3 : ∀ w ∈ u_ws RX3 TX3 10, w ∈ am_T := by
  have h : u_ws RX3 TX3 10 = [233, 235, 237, 239, 241, 243, 245, 247, 249, 251].filterMap (fun i => lw_tbl[i]?) := by decide +kernel
  have g : (u_ws RX3 TX3 10).all goodWord = true := by decide +kernel
  intro w hw
  refine List.mem_filter.mpr ⟨?_, List.all_eq_true.mp g w hw⟩
  rw [h] at hw
  obtain ⟨i, -, hi⟩ := List.mem_filterMap.mp hw
  exact List.mem_of_getElem? hi
theorem am_lay4 : ∀ w ∈ u_ws RX4 TX4 12, w ∈ am_T := by
  have h : u_ws RX4 TX4 12 = [266, 268, 270, 272, 274, 276, 278, 280, 282, 284, 286, 288].filterMap (fun i => lw_tbl[i]?) := by decide +kernel
  have g : (u_ws RX4 TX4 12).all goodWord = true := by decide +kernel
  intro w hw
  refine List.mem_filter.mpr ⟨?_, List.all_eq_true.mp g w hw⟩
  rw [h] at hw
  obtain ⟨i, -, hi⟩ := List.mem_filterMap.mp hw
  exact List.mem_of_getElem? hi
theorem am_lay5 : ∀ w ∈ u_ws RX5 TX5 29, w ∈ am_T := by
  have h : u_ws RX5 TX5 29 = [875, 877, 879, 881, 883, 885, 887, 889, 891, 893, 895, 897, 899, 901, 903, 905, 907, 909, 911, 913, 915, 917, 919, 921, 923, 925, 927, 929, 931].filterMap (fun i => lw_tbl[i]?) := by decide +kernel
  have g : (u_ws RX5 TX5 29).all goodWord = true := by decide +kernel
  intro w hw
  refine List.mem_filter.mpr ⟨?_, List.all_eq_true.mp g w hw⟩
  rw [h] at hw
  obtain ⟨i, -, hi⟩ := List.mem_filterMap.mp hw
  exact List.mem_of_getElem? hi
end
section
/-! THE JUDGEMENTS. A value, a heap, a frame have their own addresses 0, 1, 2 ..; the machine's are s0 + these.
V = (launch, class ids and slots, ids of array classes by kind, s0, addresses of texts). -/
abbrev am_V : Type := Launch × va_G × (Nat → ClassId) × Nat × (Nat → Nat)
def am_ad (V : am_V) (a : Nat) : Nat := if a < 1000000 then V.2.2.2.1 + a else V.2.2.2.2 (a - 1000000)
def am_cv (V : am_V) (v : Value) : Value := match v with
  | .ref a => .ref (am_ad V a)
  | v => v
def am_ca (V : am_V) (x : vp_A) : vp_A := match x with
  | (n, .inr (.inr (.inr (.inr g)))) => (n, .inr (.inr (.inr (.inr (fun j => (g j).map (am_ad V))))))
  | x => x
def am_ce (V : am_V) (e : va_E) : va_E := match e with
  | .inl (k, x) => .inl (V.2.2.1 k, am_ca V x)
  | .inr (ci, fs) => .inr (ci, fs.map (am_cv V))
def am_tys (V : am_V) : List (ClassId × FieldType) := [(V.2.2.1 0, .int), (V.2.2.1 1, .byte), (V.2.2.1 2, .boolean), (V.2.2.1 3, .object "KeySieves$Key"), (V.2.2.1 4, .object "KeySieves$Board"), (V.2.2.1 5, .object "KeySieves$Sheet")]
def am_S (V : am_V) (h : List va_E) (H : Heap) : Prop := h.length ≤ 1000000 ∧ H.size = V.2.2.2.1 + h.length ∧ ∀ (a : Nat) (e : va_E), h[a]? = some e → va_at V.2.1 am_cl (V.2.2.2.1 + a, am_ce V e) H
def am_A (V : am_V) : Nat → Prop := fun q => V.2.2.2.1 ≤ q
def am_nest : List Cond := [.methodLinkNest "KeySieves$Board" 17 yX1_init "KeySieves", .methodLinkNest "KeySieves$TextReader" 106 yX4_within "KeySieves", .methodLinkNest "KeySieves$Board" 61 yX4_within "KeySieves", .methodLinkNest "KeySieves$Key" 42 yX4_within "KeySieves", .methodLinkNest "KeySieves$Sheet" 19 yX4_within "KeySieves"]
def am_N (U : State) : Prop := (∀ w ∈ am_nest, va_Nw w U) ∧ va_AO "KeySieves$Key" U ∧ va_AO "KeySieves$Board" U ∧ va_AO "KeySieves$Sheet" U
def am_al (V : am_V) : Nat → List (Option Value) → List (Nat × Value)
  | _, [] => []
  | i, none :: L => am_al V (i + 1) L
  | i, some v :: L => (i, am_cv V v) :: am_al V (i + 1) L
def am_L (V : am_V) (ls : Array Slot) (nL : Nat) (L : List (Option Value)) : Prop := L.length = nL ∧ lv_has ls nL (am_al V 0 L)
def am_rm (d mc ms : Nat) : Room := { frames := d, cells := mc, slots := ms, locals := 40 * d }
def am_P (V : am_V) (h : List va_E) (U : State) : Prop := am_N U ∧ va_K V.2.1 am_cl (am_tys V) U ∧ am_S V h U.heap
def am_Q (V : am_V) (R : Option Value → List va_E → Prop) : Array Value → State → Outcome → State → Prop := fun _ st oc t => (∃ (r : Option Value) (h' : List va_E), oc = .returned (r.map (am_cv V)) ∧ R r h' ∧ am_S V h' t.heap) ∧ va_F (am_A V) st t
def am_ws (M : am_M) : List Cond := .code M.1 M.2.1 M.2.2.1 M.2.2.2 :: am_T
/-- a contract: method M with these arguments, over this heap, returns, and R holds of its answer and the heap behind it; d frames, kc new cells of ks slots at most -/
def AM (V : am_V) (M : am_M) (d kc ks : Nat) (args : List Value) (h : List va_E) (R : Option Value → List va_E → Prop) : Prop :=
  Met V.1 M.1 (am_ws M) (am_rm d kc ks) (va_Pc (args.map (am_cv V)) (am_P V h)) (am_Q V R) kc ks (am_A V)
def am_C (V : am_V) (M : am_M) (p : Program) (s : State) (m : MethodId) (args : Array Value) (meth : Method) (c : Code) : Prop :=
  p.tables.exec = Jvm.exec ∧ c.code = M.2.1 ∧ c.maxLocals = M.2.2.1 ∧ meth.sig.returnType = M.2.2.2 ∧ s.vm.findClass M.1.cls = some m.cls ∧ (∀ w ∈ am_T, w.before args s = true) ∧ am_N s ∧ va_K V.2.1 am_cl (am_tys V) s ∧ meth.locks = false ∧ meth.name = M.1.name ∧ V.2.2.2.1 ≤ s.heap.size
/-- a walk: the machine, at pc of method M, with these locals, this stack and heap, comes to M's return with R -/
def AW (V : am_V) (M : am_M) (d kc ks pc : Nat) (L : List (Option Value)) (st : List Value) (h : List va_E) (R : Option Value → List va_E → Prop) : Prop :=
  ∀ (p : Program) (e : Env) (s : State) (m : MethodId) (args : Array Value) (below : List Frame) (meth : Method) (c : Code), am_C V M p s m args meth c →
    ∀ (H : Heap) (locs : List Loc) (ls : Array Slot) (cells slots mc ms : Nat), cells + kc = mc → slots + ks = ms → am_S V h H → va_S (am_A V) s.heap H locs → am_L V ls M.2.2.1 L →
      W p V.1 e (am_rm d mc ms) s m args below meth c H locs cells slots (MQ below (am_Q V R) args s mc ms (am_A V)) (F0 m pc ls (st.map (am_cv V)))
theorem am_cat (V : am_V) (v : Value) : (am_cv V v).category = v.category := by cases v <;> rfl
theorem am_ad_lt {V : am_V} {a : Nat} (h : a < 1000000) : am_ad V a = V.2.2.2.1 + a := by unfold am_ad; rw [if_pos h]
theorem am_al_mem {V : am_V} : ∀ (L : List (Option Value)) (i j : Nat) (x : Value), (j, x) ∈ am_al V i L ↔ ∃ (k : Nat) (v : Value), j = i + k ∧ L[k]? = some (some v) ∧ x = am_cv V v := by
  intro L
  induction L with
  | nil => intro i j x; simp [am_al]
  | cons o L ih =>
    intro i j x
    cases o with
    | none =>
      simp only [am_al]
      rw [ih]
      constructor
      · rintro ⟨k, v, h1, h2, h3⟩
        exact ⟨k + 1, v, by omega, by simpa using h2, h3⟩
      · rintro ⟨k, v, h1, h2, h3⟩
        cases k with
        | zero => simp at h2
        | succ k => exact ⟨k, v, by omega, by simpa using h2, h3⟩
    | some u =>
      simp only [am_al, List.mem_cons, Prod.mk.injEq]
      rw [ih]
      constructor
      · rintro (⟨rfl, rfl⟩ | ⟨k, v, h1, h2, h3⟩)
        · exact ⟨0, u, rfl, rfl, rfl⟩
        · exact ⟨k + 1, v, by omega, by simpa using h2, h3⟩
      · rintro ⟨k, v, h1, h2, h3⟩
        cases k with
        | zero =>
          simp at h2
          subst h2
          exact Or.inl ⟨h1, h3⟩
        | succ k => exact Or.inr ⟨k, v, by omega, by simpa using h2, h3⟩
theorem am_L.at {V : am_V} {ls : Array Slot} {nL : Nat} {L : List (Option Value)} (h : am_L V ls nL L) {i : Nat} {v : Value} (hi : L[i]? = some (some v)) : ls[i]? = some (.val (am_cv V v)) :=
  h.2.2.2 (i, am_cv V v) ((am_al_mem L 0 i _).mpr ⟨i, v, by omega, hi, rfl⟩)
/-- may a value be stored at place i: what stands ahead of it is no long -/
def am_ok1 (L : List (Option Value)) (i : Nat) : Bool := match i with
  | 0 => true
  | j + 1 => match L[j]? with
    | some (some v) => v.category != 2
    | _ => true
theorem am_ok1_ne {L : List (Option Value)} {i j : Nat} {v : Value} (h : am_ok1 L i = true) (hj : j + 1 = i) (hv : L[j]? = some (some v)) : ¬ v.category = 2 := by
  subst hj
  simp [am_ok1, hv] at h
  exact h
theorem am_L.st1 {V : am_V} {ls : Array Slot} {nL : Nat} {L : List (Option Value)} (h : am_L V ls nL L) {i : Nat} {v : Value} (hi : i < nL) (hc : v.category = 1) (hk : am_ok1 L i = true) {ls' : Array Slot}
    (h' : lv_has ls' nL ((i, am_cv V v) :: (am_al V 0 L).filter (fun q => !(q.1 == i) && !(q.1 + 1 == i && q.2.category == 2)))) : am_L V ls' nL (L.set i (some v)) := by
  refine ⟨by rw [List.length_set]; exact h.1, h'.1, h'.2.1, ?_⟩
  rintro ⟨j, x⟩ hq
  obtain ⟨k, u, h1, h2, h3⟩ := (am_al_mem _ _ _ _).mp hq
  have hjk : j = k := by omega
  subst hjk
  by_cases hji : j = i
  · subst hji
    rw [List.getElem?_set_self (by rw [h.1]; exact hi)] at h2
    cases h2
    rw [h3]
    exact h'.2.2 _ List.mem_cons_self
  · rw [List.getElem?_set_ne (Ne.symm hji)] at h2
    refine h'.2.2 (j, x) (List.mem_cons_of_mem _ (List.mem_filter.mpr ⟨(am_al_mem _ _ _ _).mpr ⟨j, u, by omega, h2, h3⟩, ?_⟩))
    have : ¬ (j + 1 = i ∧ x.category = 2) := by
      rintro ⟨e1, e2⟩
      rw [h3, am_cat] at e2
      exact am_ok1_ne hk e1 h2 e2
    simp [hji]
    by_cases e1 : j + 1 = i
    · exact Or.inr (fun e2 => this ⟨e1, e2⟩)
    · exact Or.inl e1
theorem am_L.st2 {V : am_V} {ls : Array Slot} {nL : Nat} {L : List (Option Value)} (h : am_L V ls nL L) {i : Nat} {v : Value} (hi : i + 1 < nL) (hc : v.category = 2) (hk : am_ok1 L i = true) {ls' : Array Slot}
    (h' : lv_has ls' nL ((i, am_cv V v) :: (am_al V 0 L).filter (fun q => !(q.1 == i) && (!(q.1 == i + 1) && !(q.1 + 1 == i && q.2.category == 2))))) : am_L V ls' nL ((L.set i (some v)).set (i + 1) none) := by
  refine ⟨by rw [List.length_set, List.length_set]; exact h.1, h'.1, h'.2.1, ?_⟩
  rintro ⟨j, x⟩ hq
  obtain ⟨k, u, h1, h2, h3⟩ := (am_al_mem _ _ _ _).mp hq
  have hjk : j = k := by omega
  subst hjk
  by_cases hj1 : j = i + 1
  · subst hj1
    rw [List.getElem?_set_self (by rw [List.length_set, h.1]; exact hi)] at h2
    cases h2
  rw [List.getElem?_set_ne (Ne.symm hj1)] at h2
  by_cases hji : j = i
  · subst hji
    rw [List.getElem?_set_self (by rw [h.1]; omega)] at h2
    cases h2
    rw [h3]
    exact h'.2.2 _ List.mem_cons_self
  · rw [List.getElem?_set_ne (Ne.symm hji)] at h2
    refine h'.2.2 (j, x) (List.mem_cons_of_mem _ (List.mem_filter.mpr ⟨(am_al_mem _ _ _ _).mpr ⟨j, u, by omega, h2, h3⟩, ?_⟩))
    have : ¬ (j + 1 = i ∧ x.category = 2) := by
      rintro ⟨e1, e2⟩
      rw [h3, am_cat] at e2
      exact am_ok1_ne hk e1 h2 e2
    simp [hji, hj1]
    by_cases e1 : j + 1 = i
    · exact Or.inr (fun e2 => this ⟨e1, e2⟩)
    · exact Or.inl e1
/-- the locals at a method's entry -/
def am_exp (vs : List Value) : List (Option Value) := vs.flatMap fun v => if v.category = 2 then [some v, none] else [some v]
def am_ent (vs : List Value) (n : Nat) : List (Option Value) := am_exp vs ++ List.replicate (n - (am_exp vs).length) none
theorem am_exp_len (V : am_V) (vs : List Value) : (am_exp vs).length = (lg_sl (vs.map (am_cv V))).length := by
  induction vs with
  | nil => rfl
  | cons v vs ih =>
    simp only [am_exp, lg_sl, List.flatMap_cons, List.map_cons, List.length_append, am_cat] at ih ⊢
    rw [ih]
    by_cases hc : v.category = 2 <;> simp [hc]
theorem am_ent_mem (V : am_V) : ∀ (vs : List Value) (n i j : Nat) (x : Value), (j, x) ∈ am_al V i (am_exp vs ++ List.replicate n none) → (j, x) ∈ lv_args i (vs.map (am_cv V)) := by
  intro vs
  induction vs with
  | nil =>
    intro n i j x hm
    exfalso
    obtain ⟨k, v, -, h2, -⟩ := (am_al_mem _ _ _ _).mp hm
    simp only [am_exp, List.flatMap_nil, List.nil_append, List.getElem?_replicate] at h2
    split at h2 <;> cases h2
  | cons v vs ih =>
    intro n i j x hm
    by_cases hc : v.category = 2
    · have e : am_exp (v :: vs) ++ List.replicate n none = some v :: none :: (am_exp vs ++ List.replicate n none) := by simp [am_exp, hc]
      rw [e] at hm
      simp only [am_al, List.mem_cons] at hm
      simp only [List.map_cons, lv_args, am_cat, hc, List.mem_cons]
      rcases hm with hm | hm
      · exact Or.inl hm
      · exact Or.inr (ih n _ j x hm)
    · have e : am_exp (v :: vs) ++ List.replicate n none = some v :: (am_exp vs ++ List.replicate n none) := by simp [am_exp, hc]
      rw [e] at hm
      simp only [am_al, List.mem_cons] at hm
      simp only [List.map_cons, lv_args, am_cat, hc, List.mem_cons]
      rcases hm with hm | hm
      · exact Or.inl hm
      · exact Or.inr (ih n _ j x hm)
theorem am_L.entry (V : am_V) (vs : List Value) {n : Nat} (h : (am_exp vs).length ≤ n) : am_L V ((lg_sl (vs.map (am_cv V)) ++ List.replicate (n - (lg_sl (vs.map (am_cv V))).length) Slot.unset).toArray) n (am_ent vs n) := by
  have e := lv_entry (vs.map (am_cv V)) (n := n) (by rw [← am_exp_len]; exact h)
  refine ⟨by simp [am_ent]; omega, e.1, e.2.1, ?_⟩
  rintro ⟨j, x⟩ hq
  exact e.2.2 (j, x) (am_ent_mem V vs _ 0 j x hq)
theorem am_P.blind {V : am_V} {h : List va_E} {av : List Value} : FrameBlind (va_Pc av (am_P V h)) := by
  intro a U g mk q
  obtain ⟨q0, ⟨q1, q2, q3, q4⟩, qK, qS⟩ := q
  exact ⟨q0, ⟨fun w hw => va_Nw.same (u := U) (U := U.calling g mk a) (by revert w; decide +kernel) rfl (q1 w hw), va_AO.moved (u := U) (U := U.calling g mk a) (Vm.Alike.refl U.vm) q2, va_AO.moved (u := U) (U := U.calling g mk a) (Vm.Alike.refl U.vm) q3, va_AO.moved (u := U) (U := U.calling g mk a) (Vm.Alike.refl U.vm) q4⟩, va_K.moved (u := U) (U := U.calling g mk a) (Vm.Alike.refl U.vm) qK, qS⟩
theorem am_N.warm {s U : State} (hW : s.WarmedH U.vm) (h : am_N s) : am_N U := by
  obtain ⟨q1, q2, q3, q4⟩ := h
  refine ⟨?_, va_AO.moved hW.alike q2, va_AO.moved hW.alike q3, va_AO.moved hW.alike q4⟩
  intro w hw
  have hZ := q1 w hw
  simp only [am_nest, List.mem_cons, List.not_mem_nil, or_false] at hw
  rcases hw with rfl | rfl | rfl | rfl | rfl <;> exact va_Nw.warmM hW hZ
/-- a contract out of a walk from the method's first instruction -/
theorem AM.of {V : am_V} {M : am_M} {d kc ks : Nat} {args : List Value} {h : List va_E} {R : Option Value → List va_E → Prop} (hy : plainName M.1.cls = true) (hn : (am_exp args).length ≤ M.2.2.1) {L : List (Option Value)} (hL : am_ent args M.2.2.1 = L) (k : AW V M d kc ks 0 L [] h R) : AM V M d kc ks args h R := by
  subst hL
  refine Met.ofW (cc := M.2.1) (maxL := M.2.2.1) (ret := M.2.2.2) hy rfl ?_
  intro p e s m args' below meth c s₁ B hml hv
  obtain ⟨rfl, hN, hK, hS⟩ := hv
  have hts := atoms_spec (ws := am_ws M) B.pre
  have hown : s.vm.findClass M.1.cls = some m.cls := findClass_of_methodNamed B.named
  rw [lg_entry_eq]
  exact k p e s m _ below meth c ⟨B.exec, B.bytes, hml, B.returns, hown, fun w hw => hts w (List.mem_cons_of_mem _ hw), hN, hK, B.notSynchronized, (name_of_methodNamed B.named B.method).1, by rw [hS.2.1]; exact Nat.le_add_right _ _⟩
    s.heap [] _ 0 0 kc ks (Nat.zero_add _) (Nat.zero_add _) hS va_S.rf (am_L.entry V args hn)
theorem AM.weaken {V : am_V} {M : am_M} {d kc ks : Nat} {args : List Value} {h : List va_E} {R R' : Option Value → List va_E → Prop} (hR : ∀ r h', R r h' → R' r h') (k : AM V M d kc ks args h R) : AM V M d kc ks args h R' := by
  intro p e ha hc hk s m args' below hf hfit hP hC
  obtain ⟨t, o, h1, h2, h3, ⟨⟨r, h', e1, e2, e3⟩, e4⟩, h5⟩ := k p e ha hc hk s m args' below hf hfit hP hC
  exact ⟨t, o, h1, h2, h3, ⟨⟨r, h', e1, hR r h' e2, e3⟩, e4⟩, h5⟩
theorem AW.weaken {V : am_V} {M : am_M} {d kc ks pc : Nat} {L : List (Option Value)} {st : List Value} {h : List va_E} {R R' : Option Value → List va_E → Prop} (hR : ∀ r h', R r h' → R' r h') (k : AW V M d kc ks pc L st h R) : AW V M d kc ks pc L st h R' := by
  intro p e s m args below meth c C H locs ls cells slots mc ms hc hs hS hF hL T hT X
  obtain ⟨t, a, o, b1, b2, ⟨⟨r, h', e1, e2, e3⟩, e4⟩, b4⟩ := k p e s m args below meth c C H locs ls cells slots mc ms hc hs hS hF hL T hT X
  exact ⟨t, a, o, b1, b2, ⟨⟨r, h', e1, hR r h' e2, e3⟩, e4⟩, b4⟩
end
section
section AMR
variable {V : am_V} {M : am_M} {d kc ks pc : Nat} {L : List (Option Value)} {st : List Value} {h : List va_E} {R : Option Value → List va_E → Prop}
theorem aw_iconst {n : Int} {v : Int32} (hd : decode M.2.1 pc = .ok (.iconst n, 1)) (hv : Int32.ofInt n = v) (k : AW V M d kc ks (pc + 1) L (.int v :: st) h R) : AW V M d kc ks pc L (st) h R := by
  intro p e s m args below meth c C H locs ls cells slots mc ms hc hs hS hF hL
  exact lv_iconst C.1 C.2.1 hd hv (k p e s m args below meth c C H locs ls cells slots mc ms hc hs hS hF hL)
theorem aw_bipush {n : Int} {v : Int32} (hd : decode M.2.1 pc = .ok (.bipush n, 2)) (hv : (Int8.ofInt n).toInt32 = v) (k : AW V M d kc ks (pc + 2) L (.int v :: st) h R) : AW V M d kc ks pc L (st) h R := by
  intro p e s m args below meth c C H locs ls cells slots mc ms hc hs hS hF hL
  exact lv_bipush C.1 C.2.1 hd hv (k p e s m args below meth c C H locs ls cells slots mc ms hc hs hS hF hL)
theorem aw_sipush {n : Int} {v : Int32} (hd : decode M.2.1 pc = .ok (.sipush n, 3)) (hv : (Int16.ofInt n).toInt32 = v) (k : AW V M d kc ks (pc + 3) L (.int v :: st) h R) : AW V M d kc ks pc L (st) h R := by
  intro p e s m args below meth c C H locs ls cells slots mc ms hc hs hS hF hL
  exact lv_sipush C.1 C.2.1 hd hv (k p e s m args below meth c C H locs ls cells slots mc ms hc hs hS hF hL)
theorem aw_lconst {n : Fin 2} {v : Int64} (hd : decode M.2.1 pc = .ok (.lconst n, 1)) (hv : Int64.ofNat (n : Nat) = v) (k : AW V M d kc ks (pc + 1) L (.long v :: st) h R) : AW V M d kc ks pc L (st) h R := by
  intro p e s m args below meth c C H locs ls cells slots mc ms hc hs hS hF hL
  exact lv_lconst C.1 C.2.1 hd hv (k p e s m args below meth c C H locs ls cells slots mc ms hc hs hS hF hL)
theorem aw_ldc {idx : Nat} {v : Int32} (hd : decode M.2.1 pc = .ok (.ldc idx, 2)) (hk : Cond.constant M.1.cls idx v ∈ am_T) (k : AW V M d kc ks (pc + 2) L (.int v :: st) h R) : AW V M d kc ks pc L st h R := by
  intro p e s m args below meth c C H locs ls cells slots mc ms hc hs hS hF hL
  exact lv_ldc C.1 C.2.1 C.2.2.2.2.1 (C.2.2.2.2.2.1 _ hk) hd (k p e s m args below meth c C H locs ls cells slots mc ms hc hs hS hF hL)
theorem aw_ldcw {idx : Nat} {v : Int32} (hd : decode M.2.1 pc = .ok (.ldc_w idx, 3)) (hk : Cond.constant M.1.cls idx v ∈ am_T) (k : AW V M d kc ks (pc + 3) L (.int v :: st) h R) : AW V M d kc ks pc L st h R := by
  intro p e s m args below meth c C H locs ls cells slots mc ms hc hs hS hF hL
  exact lv_ldcw C.1 C.2.1 C.2.2.2.2.1 (C.2.2.2.2.2.1 _ hk) hd (k p e s m args below meth c C H locs ls cells slots mc ms hc hs hS hF hL)
theorem aw_ldc2 {idx : Nat} {v : Int64} (hd : decode M.2.1 pc = .ok (.ldc2_w idx, 3)) (hk : Cond.constantLong M.1.cls idx v ∈ am_T) (k : AW V M d kc ks (pc + 3) L (.long v :: st) h R) : AW V M d kc ks pc L st h R := by
  intro p e s m args below meth c C H locs ls cells slots mc ms hc hs hS hF hL
  exact lv_ldc2 C.1 C.2.1 C.2.2.2.2.1 (C.2.2.2.2.2.1 _ hk) hd (k p e s m args below meth c C H locs ls cells slots mc ms hc hs hS hF hL)
theorem aw_iload_n {n : Fin 4} {i : Nat} {x : Int32} (hd : decode M.2.1 pc = .ok (.iload_n n, 1)) (hi : (n : Nat) = i) (hl : L[i]? = some (some (.int x))) (k : AW V M d kc ks (pc + 1) L (.int x :: st) h R) : AW V M d kc ks pc L st h R := by
  intro p e s m args below meth c C H locs ls cells slots mc ms hc hs hS hF hL
  exact lv_iload_n C.1 C.2.1 hd hi (hL.at hl) (k p e s m args below meth c C H locs ls cells slots mc ms hc hs hS hF hL)
theorem aw_iload {i : Nat} {x : Int32} (hd : decode M.2.1 pc = .ok (.iload i, 2)) (hl : L[i]? = some (some (.int x))) (k : AW V M d kc ks (pc + 2) L (.int x :: st) h R) : AW V M d kc ks pc L st h R := by
  intro p e s m args below meth c C H locs ls cells slots mc ms hc hs hS hF hL
  exact lv_iload C.1 C.2.1 hd (hL.at hl) (k p e s m args below meth c C H locs ls cells slots mc ms hc hs hS hF hL)
theorem aw_lload_n {n : Fin 4} {i : Nat} {x : Int64} (hd : decode M.2.1 pc = .ok (.lload_n n, 1)) (hi : (n : Nat) = i) (hl : L[i]? = some (some (.long x))) (k : AW V M d kc ks (pc + 1) L (.long x :: st) h R) : AW V M d kc ks pc L st h R := by
  intro p e s m args below meth c C H locs ls cells slots mc ms hc hs hS hF hL
  exact lv_lload_n C.1 C.2.1 hd hi (hL.at hl) (k p e s m args below meth c C H locs ls cells slots mc ms hc hs hS hF hL)
theorem aw_lload {i : Nat} {x : Int64} (hd : decode M.2.1 pc = .ok (.lload i, 2)) (hl : L[i]? = some (some (.long x))) (k : AW V M d kc ks (pc + 2) L (.long x :: st) h R) : AW V M d kc ks pc L st h R := by
  intro p e s m args below meth c C H locs ls cells slots mc ms hc hs hS hF hL
  exact lv_lload C.1 C.2.1 hd (hL.at hl) (k p e s m args below meth c C H locs ls cells slots mc ms hc hs hS hF hL)
theorem aw_aload_n {n : Fin 4} {i : Nat} {x : Nat} (hd : decode M.2.1 pc = .ok (.aload_n n, 1)) (hi : (n : Nat) = i) (hl : L[i]? = some (some (.ref x))) (k : AW V M d kc ks (pc + 1) L (.ref x :: st) h R) : AW V M d kc ks pc L st h R := by
  intro p e s m args below meth c C H locs ls cells slots mc ms hc hs hS hF hL
  exact lv_aload_n C.1 C.2.1 hd hi (hL.at hl) (k p e s m args below meth c C H locs ls cells slots mc ms hc hs hS hF hL)
theorem aw_aload {i : Nat} {x : Nat} (hd : decode M.2.1 pc = .ok (.aload i, 2)) (hl : L[i]? = some (some (.ref x))) (k : AW V M d kc ks (pc + 2) L (.ref x :: st) h R) : AW V M d kc ks pc L st h R := by
  intro p e s m args below meth c C H locs ls cells slots mc ms hc hs hS hF hL
  exact lv_aload C.1 C.2.1 hd (hL.at hl) (k p e s m args below meth c C H locs ls cells slots mc ms hc hs hS hF hL)
theorem aw_istore_n {n : Fin 4} {i : Nat} {x : Int32} {L' : List (Option Value)} (hd : decode M.2.1 pc = .ok (.istore_n n, 1)) (hi : (n : Nat) = i) (hn : i < M.2.2.1) (ho : am_ok1 L i = true) (hl : L.set i (some (.int x)) = L') (k : AW V M d kc ks (pc + 1) L' st h R) : AW V M d kc ks pc L (.int x :: st) h R := by
  subst hl
  intro p e s m args below meth c C H locs ls cells slots mc ms hc hs hS hF hL
  exact lv_istore_n C.1 C.2.1 hd hi hL.2 hn rfl (fun ls' h' => k p e s m args below meth c C H locs ls' cells slots mc ms hc hs hS hF (hL.st1 (v := .int x) hn rfl ho h'))
theorem aw_lstore_n {n : Fin 4} {i : Nat} {x : Int64} {L' : List (Option Value)} (hd : decode M.2.1 pc = .ok (.lstore_n n, 1)) (hi : (n : Nat) = i) (hn : i + 1 < M.2.2.1) (ho : am_ok1 L i = true) (hl : (L.set i (some (.long x))).set (i + 1) none = L') (k : AW V M d kc ks (pc + 1) L' st h R) : AW V M d kc ks pc L (.long x :: st) h R := by
  subst hl
  intro p e s m args below meth c C H locs ls cells slots mc ms hc hs hS hF hL
  exact lv_lstore_n C.1 C.2.1 hd hi hL.2 hn rfl (fun ls' h' => k p e s m args below meth c C H locs ls' cells slots mc ms hc hs hS hF (hL.st2 (v := .long x) hn rfl ho h'))
theorem aw_astore_n {n : Fin 4} {i : Nat} {x : Nat} {L' : List (Option Value)} (hd : decode M.2.1 pc = .ok (.astore_n n, 1)) (hi : (n : Nat) = i) (hn : i < M.2.2.1) (ho : am_ok1 L i = true) (hl : L.set i (some (.ref x)) = L') (k : AW V M d kc ks (pc + 1) L' st h R) : AW V M d kc ks pc L (.ref x :: st) h R := by
  subst hl
  intro p e s m args below meth c C H locs ls cells slots mc ms hc hs hS hF hL
  exact lv_astore_n C.1 C.2.1 hd hi hL.2 hn rfl (fun ls' h' => k p e s m args below meth c C H locs ls' cells slots mc ms hc hs hS hF (hL.st1 (v := .ref x) hn rfl ho h'))
theorem aw_istore {i : Nat} {x : Int32} {L' : List (Option Value)} (hd : decode M.2.1 pc = .ok (.istore i, 2)) (hn : i < M.2.2.1) (ho : am_ok1 L i = true) (hl : L.set i (some (.int x)) = L') (k : AW V M d kc ks (pc + 2) L' st h R) : AW V M d kc ks pc L (.int x :: st) h R := by
  subst hl
  intro p e s m args below meth c C H locs ls cells slots mc ms hc hs hS hF hL
  exact lv_istore C.1 C.2.1 hd hL.2 hn rfl (fun ls' h' => k p e s m args below meth c C H locs ls' cells slots mc ms hc hs hS hF (hL.st1 (v := .int x) hn rfl ho h'))
theorem aw_lstore {i : Nat} {x : Int64} {L' : List (Option Value)} (hd : decode M.2.1 pc = .ok (.lstore i, 2)) (hn : i + 1 < M.2.2.1) (ho : am_ok1 L i = true) (hl : (L.set i (some (.long x))).set (i + 1) none = L') (k : AW V M d kc ks (pc + 2) L' st h R) : AW V M d kc ks pc L (.long x :: st) h R := by
  subst hl
  intro p e s m args below meth c C H locs ls cells slots mc ms hc hs hS hF hL
  exact lv_lstore C.1 C.2.1 hd hL.2 hn rfl (fun ls' h' => k p e s m args below meth c C H locs ls' cells slots mc ms hc hs hS hF (hL.st2 (v := .long x) hn rfl ho h'))
theorem aw_astore {i : Nat} {x : Nat} {L' : List (Option Value)} (hd : decode M.2.1 pc = .ok (.astore i, 2)) (hn : i < M.2.2.1) (ho : am_ok1 L i = true) (hl : L.set i (some (.ref x)) = L') (k : AW V M d kc ks (pc + 2) L' st h R) : AW V M d kc ks pc L (.ref x :: st) h R := by
  subst hl
  intro p e s m args below meth c C H locs ls cells slots mc ms hc hs hS hF hL
  exact lv_astore C.1 C.2.1 hd hL.2 hn rfl (fun ls' h' => k p e s m args below meth c C H locs ls' cells slots mc ms hc hs hS hF (hL.st1 (v := .ref x) hn rfl ho h'))
theorem aw_iinc {i : Nat} {n : Int} {x v : Int32} {L' : List (Option Value)} (hd : decode M.2.1 pc = .ok (.iinc i n, 3)) (hx : L[i]? = some (some (.int x))) (hv : x + Int32.ofInt n = v) (hn : i < M.2.2.1) (ho : am_ok1 L i = true) (hl : L.set i (some (.int v)) = L') (k : AW V M d kc ks (pc + 3) L' st h R) : AW V M d kc ks pc L st h R := by
  subst hl
  intro p e s m args below meth c C H locs ls cells slots mc ms hc hs hS hF hL
  obtain ⟨q, hq⟩ := List.getElem?_of_mem ((am_al_mem (V := V) L 0 i _).mpr ⟨i, .int x, by omega, hx, rfl⟩)
  exact lv_iinc C.1 C.2.1 hd hL.2 hq hv hn rfl (fun ls' h' => k p e s m args below meth c C H locs ls' cells slots mc ms hc hs hS hF (hL.st1 (v := .int v) hn rfl ho h'))
theorem aw_iadd {x y : Int32} (hd : decode M.2.1 pc = .ok (.iadd, 1)) (k : AW V M d kc ks (pc + 1) L (.int (x + y) :: st) h R) : AW V M d kc ks pc L (.int y :: .int x :: st) h R := by
  intro p e s m args below meth c C H locs ls cells slots mc ms hc hs hS hF hL
  exact lv_iadd C.1 C.2.1 hd (k p e s m args below meth c C H locs ls cells slots mc ms hc hs hS hF hL)
theorem aw_isub {x y : Int32} (hd : decode M.2.1 pc = .ok (.isub, 1)) (k : AW V M d kc ks (pc + 1) L (.int (x - y) :: st) h R) : AW V M d kc ks pc L (.int y :: .int x :: st) h R := by
  intro p e s m args below meth c C H locs ls cells slots mc ms hc hs hS hF hL
  exact lv_isub C.1 C.2.1 hd (k p e s m args below meth c C H locs ls cells slots mc ms hc hs hS hF hL)
theorem aw_imul {x y : Int32} (hd : decode M.2.1 pc = .ok (.imul, 1)) (k : AW V M d kc ks (pc + 1) L (.int (x * y) :: st) h R) : AW V M d kc ks pc L (.int y :: .int x :: st) h R := by
  intro p e s m args below meth c C H locs ls cells slots mc ms hc hs hS hF hL
  exact lv_imul C.1 C.2.1 hd (k p e s m args below meth c C H locs ls cells slots mc ms hc hs hS hF hL)
theorem aw_iand {x y : Int32} (hd : decode M.2.1 pc = .ok (.iand, 1)) (k : AW V M d kc ks (pc + 1) L (.int (x &&& y) :: st) h R) : AW V M d kc ks pc L (.int y :: .int x :: st) h R := by
  intro p e s m args below meth c C H locs ls cells slots mc ms hc hs hS hF hL
  exact lv_iand C.1 C.2.1 hd (k p e s m args below meth c C H locs ls cells slots mc ms hc hs hS hF hL)
theorem aw_ior {x y : Int32} (hd : decode M.2.1 pc = .ok (.ior, 1)) (k : AW V M d kc ks (pc + 1) L (.int (x ||| y) :: st) h R) : AW V M d kc ks pc L (.int y :: .int x :: st) h R := by
  intro p e s m args below meth c C H locs ls cells slots mc ms hc hs hS hF hL
  exact lv_ior C.1 C.2.1 hd (k p e s m args below meth c C H locs ls cells slots mc ms hc hs hS hF hL)
theorem aw_ixor {x y : Int32} (hd : decode M.2.1 pc = .ok (.ixor, 1)) (k : AW V M d kc ks (pc + 1) L (.int (x ^^^ y) :: st) h R) : AW V M d kc ks pc L (.int y :: .int x :: st) h R := by
  intro p e s m args below meth c C H locs ls cells slots mc ms hc hs hS hF hL
  exact lv_ixor C.1 C.2.1 hd (k p e s m args below meth c C H locs ls cells slots mc ms hc hs hS hF hL)
theorem aw_irem {x y : Int32} (hd : decode M.2.1 pc = .ok (.irem, 1)) (hne : ¬ y = 0) (k : AW V M d kc ks (pc + 1) L (.int (x - x / y * y) :: st) h R) : AW V M d kc ks pc L (.int y :: .int x :: st) h R := by
  intro p e s m args below meth c C H locs ls cells slots mc ms hc hs hS hF hL
  exact lv_irem C.1 C.2.1 hd hne (k p e s m args below meth c C H locs ls cells slots mc ms hc hs hS hF hL)
theorem aw_ineg {x : Int32} (hd : decode M.2.1 pc = .ok (.ineg, 1)) (k : AW V M d kc ks (pc + 1) L (.int (-x) :: st) h R) : AW V M d kc ks pc L (.int x :: st) h R := by
  intro p e s m args below meth c C H locs ls cells slots mc ms hc hs hS hF hL
  exact lv_ineg C.1 C.2.1 hd (k p e s m args below meth c C H locs ls cells slots mc ms hc hs hS hF hL)
theorem aw_ishl {x y : Int32} (hd : decode M.2.1 pc = .ok (.ishl, 1)) (k : AW V M d kc ks (pc + 1) L (.int (x <<< (y &&& 31)) :: st) h R) : AW V M d kc ks pc L (.int y :: .int x :: st) h R := by
  intro p e s m args below meth c C H locs ls cells slots mc ms hc hs hS hF hL
  exact lv_ishl C.1 C.2.1 hd (k p e s m args below meth c C H locs ls cells slots mc ms hc hs hS hF hL)
theorem aw_ishr {x y : Int32} (hd : decode M.2.1 pc = .ok (.ishr, 1)) (k : AW V M d kc ks (pc + 1) L (.int (x >>> (y &&& 31)) :: st) h R) : AW V M d kc ks pc L (.int y :: .int x :: st) h R := by
  intro p e s m args below meth c C H locs ls cells slots mc ms hc hs hS hF hL
  exact lv_ishr C.1 C.2.1 hd (k p e s m args below meth c C H locs ls cells slots mc ms hc hs hS hF hL)
theorem aw_ladd {x y : Int64} (hd : decode M.2.1 pc = .ok (.ladd, 1)) (k : AW V M d kc ks (pc + 1) L (.long (x + y) :: st) h R) : AW V M d kc ks pc L (.long y :: .long x :: st) h R := by
  intro p e s m args below meth c C H locs ls cells slots mc ms hc hs hS hF hL
  exact lv_ladd C.1 C.2.1 hd (k p e s m args below meth c C H locs ls cells slots mc ms hc hs hS hF hL)
theorem aw_lmul {x y : Int64} (hd : decode M.2.1 pc = .ok (.lmul, 1)) (k : AW V M d kc ks (pc + 1) L (.long (x * y) :: st) h R) : AW V M d kc ks pc L (.long y :: .long x :: st) h R := by
  intro p e s m args below meth c C H locs ls cells slots mc ms hc hs hS hF hL
  exact lv_lmul C.1 C.2.1 hd (k p e s m args below meth c C H locs ls cells slots mc ms hc hs hS hF hL)
theorem aw_ldiv {x y : Int64} (hd : decode M.2.1 pc = .ok (.ldiv, 1)) (hne : ¬ y = 0) (k : AW V M d kc ks (pc + 1) L (.long (x / y) :: st) h R) : AW V M d kc ks pc L (.long y :: .long x :: st) h R := by
  intro p e s m args below meth c C H locs ls cells slots mc ms hc hs hS hF hL
  exact lv_ldiv C.1 C.2.1 hd hne (k p e s m args below meth c C H locs ls cells slots mc ms hc hs hS hF hL)
theorem aw_lrem {x y : Int64} (hd : decode M.2.1 pc = .ok (.lrem, 1)) (hne : ¬ y = 0) (k : AW V M d kc ks (pc + 1) L (.long (x - x / y * y) :: st) h R) : AW V M d kc ks pc L (.long y :: .long x :: st) h R := by
  intro p e s m args below meth c C H locs ls cells slots mc ms hc hs hS hF hL
  exact lv_lrem C.1 C.2.1 hd hne (k p e s m args below meth c C H locs ls cells slots mc ms hc hs hS hF hL)
theorem aw_lcmp {x y : Int64} (hd : decode M.2.1 pc = .ok (.lcmp, 1)) (k : AW V M d kc ks (pc + 1) L (.int (lg_cmp x y) :: st) h R) : AW V M d kc ks pc L (.long y :: .long x :: st) h R := by
  intro p e s m args below meth c C H locs ls cells slots mc ms hc hs hS hF hL
  exact W.lcmp C.1 C.2.1 hd (k p e s m args below meth c C H locs ls cells slots mc ms hc hs hS hF hL)
theorem aw_i2l {x : Int32} (hd : decode M.2.1 pc = .ok (.i2l, 1)) (k : AW V M d kc ks (pc + 1) L (.long x.toInt64 :: st) h R) : AW V M d kc ks pc L (.int x :: st) h R := by
  intro p e s m args below meth c C H locs ls cells slots mc ms hc hs hS hF hL
  exact lv_i2l C.1 C.2.1 hd rfl (k p e s m args below meth c C H locs ls cells slots mc ms hc hs hS hF hL)
theorem aw_i2b {x : Int32} (hd : decode M.2.1 pc = .ok (.i2b, 1)) (k : AW V M d kc ks (pc + 1) L (.int x.toInt8.toInt32 :: st) h R) : AW V M d kc ks pc L (.int x :: st) h R := by
  intro p e s m args below meth c C H locs ls cells slots mc ms hc hs hS hF hL
  exact lv_i2b C.1 C.2.1 hd rfl (k p e s m args below meth c C H locs ls cells slots mc ms hc hs hS hF hL)
theorem aw_i2s {x : Int32} (hd : decode M.2.1 pc = .ok (.i2s, 1)) (k : AW V M d kc ks (pc + 1) L (.int x.toInt16.toInt32 :: st) h R) : AW V M d kc ks pc L (.int x :: st) h R := by
  intro p e s m args below meth c C H locs ls cells slots mc ms hc hs hS hF hL
  exact lv_i2s C.1 C.2.1 hd rfl (k p e s m args below meth c C H locs ls cells slots mc ms hc hs hS hF hL)
theorem aw_dup {v : Value} (hd : decode M.2.1 pc = .ok (.dup, 1)) (hv : v.category = 1) (k : AW V M d kc ks (pc + 1) L (v :: v :: st) h R) : AW V M d kc ks pc L (v :: st) h R := by
  intro p e s m args below meth c C H locs ls cells slots mc ms hc hs hS hF hL
  exact lv_dup C.1 C.2.1 hd (by rw [am_cat]; exact hv) (k p e s m args below meth c C H locs ls cells slots mc ms hc hs hS hF hL)
theorem aw_pop {v : Value} (hd : decode M.2.1 pc = .ok (.pop, 1)) (hv : v.category = 1) (k : AW V M d kc ks (pc + 1) L st h R) : AW V M d kc ks pc L (v :: st) h R := by
  intro p e s m args below meth c C H locs ls cells slots mc ms hc hs hS hF hL
  exact lv_pop C.1 C.2.1 hd (va := am_cv V v) (by rw [am_cat]; exact hv) (k p e s m args below meth c C H locs ls cells slots mc ms hc hs hS hF hL)
theorem aw_dup2 {v u : Value} (hd : decode M.2.1 pc = .ok (.dup2, 1)) (hv : v.category = 1) (hu : u.category = 1) (k : AW V M d kc ks (pc + 1) L (v :: u :: v :: u :: st) h R) : AW V M d kc ks pc L (v :: u :: st) h R := by
  intro p e s m args below meth c C H locs ls cells slots mc ms hc hs hS hF hL
  exact lv_dup2_11 C.1 C.2.1 hd (by rw [am_cat]; exact hv) (by rw [am_cat]; exact hu) (k p e s m args below meth c C H locs ls cells slots mc ms hc hs hS hF hL)
theorem aw_if_eq {x : Int32} {off : Int} {tgt : Nat} (hd : decode M.2.1 pc = .ok (.ifCond .eq off, 3)) (ht : (pc : Int) + off = (tgt : Int)) (kt : x = 0 → AW V M d kc ks tgt L st h R) (kf : ¬ x = 0 → AW V M d kc ks (pc + 3) L st h R) : AW V M d kc ks pc L (.int x :: st) h R := by
  intro p e s m args below meth c C H locs ls cells slots mc ms hc hs hS hF hL
  exact lv_if_eq C.1 C.2.1 hd ht (fun z => kt z p e s m args below meth c C H locs ls cells slots mc ms hc hs hS hF hL) (fun z => kf z p e s m args below meth c C H locs ls cells slots mc ms hc hs hS hF hL)
theorem aw_icmp_eq {x y : Int32} {off : Int} {tgt : Nat} (hd : decode M.2.1 pc = .ok (.if_icmp .eq off, 3)) (ht : (pc : Int) + off = (tgt : Int)) (kt : x = y → AW V M d kc ks tgt L st h R) (kf : ¬ x = y → AW V M d kc ks (pc + 3) L st h R) : AW V M d kc ks pc L (.int y :: .int x :: st) h R := by
  intro p e s m args below meth c C H locs ls cells slots mc ms hc hs hS hF hL
  exact lv_icmp_eq C.1 C.2.1 hd ht (fun z => kt z p e s m args below meth c C H locs ls cells slots mc ms hc hs hS hF hL) (fun z => kf z p e s m args below meth c C H locs ls cells slots mc ms hc hs hS hF hL)
theorem aw_if_ne {x : Int32} {off : Int} {tgt : Nat} (hd : decode M.2.1 pc = .ok (.ifCond .ne off, 3)) (ht : (pc : Int) + off = (tgt : Int)) (kt : ¬ x = 0 → AW V M d kc ks tgt L st h R) (kf : x = 0 → AW V M d kc ks (pc + 3) L st h R) : AW V M d kc ks pc L (.int x :: st) h R := by
  intro p e s m args below meth c C H locs ls cells slots mc ms hc hs hS hF hL
  exact lv_if_ne C.1 C.2.1 hd ht (fun z => kt z p e s m args below meth c C H locs ls cells slots mc ms hc hs hS hF hL) (fun z => kf z p e s m args below meth c C H locs ls cells slots mc ms hc hs hS hF hL)
theorem aw_icmp_ne {x y : Int32} {off : Int} {tgt : Nat} (hd : decode M.2.1 pc = .ok (.if_icmp .ne off, 3)) (ht : (pc : Int) + off = (tgt : Int)) (kt : ¬ x = y → AW V M d kc ks tgt L st h R) (kf : x = y → AW V M d kc ks (pc + 3) L st h R) : AW V M d kc ks pc L (.int y :: .int x :: st) h R := by
  intro p e s m args below meth c C H locs ls cells slots mc ms hc hs hS hF hL
  exact lv_icmp_ne C.1 C.2.1 hd ht (fun z => kt z p e s m args below meth c C H locs ls cells slots mc ms hc hs hS hF hL) (fun z => kf z p e s m args below meth c C H locs ls cells slots mc ms hc hs hS hF hL)
theorem aw_if_lt {x : Int32} {off : Int} {tgt : Nat} (hd : decode M.2.1 pc = .ok (.ifCond .lt off, 3)) (ht : (pc : Int) + off = (tgt : Int)) (kt : x < 0 → AW V M d kc ks tgt L st h R) (kf : ¬ x < 0 → AW V M d kc ks (pc + 3) L st h R) : AW V M d kc ks pc L (.int x :: st) h R := by
  intro p e s m args below meth c C H locs ls cells slots mc ms hc hs hS hF hL
  exact lv_if_lt C.1 C.2.1 hd ht (fun z => kt z p e s m args below meth c C H locs ls cells slots mc ms hc hs hS hF hL) (fun z => kf z p e s m args below meth c C H locs ls cells slots mc ms hc hs hS hF hL)
theorem aw_icmp_lt {x y : Int32} {off : Int} {tgt : Nat} (hd : decode M.2.1 pc = .ok (.if_icmp .lt off, 3)) (ht : (pc : Int) + off = (tgt : Int)) (kt : x < y → AW V M d kc ks tgt L st h R) (kf : ¬ x < y → AW V M d kc ks (pc + 3) L st h R) : AW V M d kc ks pc L (.int y :: .int x :: st) h R := by
  intro p e s m args below meth c C H locs ls cells slots mc ms hc hs hS hF hL
  exact lv_icmp_lt C.1 C.2.1 hd ht (fun z => kt z p e s m args below meth c C H locs ls cells slots mc ms hc hs hS hF hL) (fun z => kf z p e s m args below meth c C H locs ls cells slots mc ms hc hs hS hF hL)
theorem aw_if_ge {x : Int32} {off : Int} {tgt : Nat} (hd : decode M.2.1 pc = .ok (.ifCond .ge off, 3)) (ht : (pc : Int) + off = (tgt : Int)) (kt : 0 ≤ x → AW V M d kc ks tgt L st h R) (kf : ¬ 0 ≤ x → AW V M d kc ks (pc + 3) L st h R) : AW V M d kc ks pc L (.int x :: st) h R := by
  intro p e s m args below meth c C H locs ls cells slots mc ms hc hs hS hF hL
  exact lv_if_ge C.1 C.2.1 hd ht (fun z => kt z p e s m args below meth c C H locs ls cells slots mc ms hc hs hS hF hL) (fun z => kf z p e s m args below meth c C H locs ls cells slots mc ms hc hs hS hF hL)
theorem aw_icmp_ge {x y : Int32} {off : Int} {tgt : Nat} (hd : decode M.2.1 pc = .ok (.if_icmp .ge off, 3)) (ht : (pc : Int) + off = (tgt : Int)) (kt : y ≤ x → AW V M d kc ks tgt L st h R) (kf : ¬ y ≤ x → AW V M d kc ks (pc + 3) L st h R) : AW V M d kc ks pc L (.int y :: .int x :: st) h R := by
  intro p e s m args below meth c C H locs ls cells slots mc ms hc hs hS hF hL
  exact lv_icmp_ge C.1 C.2.1 hd ht (fun z => kt z p e s m args below meth c C H locs ls cells slots mc ms hc hs hS hF hL) (fun z => kf z p e s m args below meth c C H locs ls cells slots mc ms hc hs hS hF hL)
theorem aw_if_gt {x : Int32} {off : Int} {tgt : Nat} (hd : decode M.2.1 pc = .ok (.ifCond .gt off, 3)) (ht : (pc : Int) + off = (tgt : Int)) (kt : 0 < x → AW V M d kc ks tgt L st h R) (kf : ¬ 0 < x → AW V M d kc ks (pc + 3) L st h R) : AW V M d kc ks pc L (.int x :: st) h R := by
  intro p e s m args below meth c C H locs ls cells slots mc ms hc hs hS hF hL
  exact lv_if_gt C.1 C.2.1 hd ht (fun z => kt z p e s m args below meth c C H locs ls cells slots mc ms hc hs hS hF hL) (fun z => kf z p e s m args below meth c C H locs ls cells slots mc ms hc hs hS hF hL)
theorem aw_icmp_gt {x y : Int32} {off : Int} {tgt : Nat} (hd : decode M.2.1 pc = .ok (.if_icmp .gt off, 3)) (ht : (pc : Int) + off = (tgt : Int)) (kt : y < x → AW V M d kc ks tgt L st h R) (kf : ¬ y < x → AW V M d kc ks (pc + 3) L st h R) : AW V M d kc ks pc L (.int y :: .int x :: st) h R := by
  intro p e s m args below meth c C H locs ls cells slots mc ms hc hs hS hF hL
  exact lv_icmp_gt C.1 C.2.1 hd ht (fun z => kt z p e s m args below meth c C H locs ls cells slots mc ms hc hs hS hF hL) (fun z => kf z p e s m args below meth c C H locs ls cells slots mc ms hc hs hS hF hL)
theorem aw_if_le {x : Int32} {off : Int} {tgt : Nat} (hd : decode M.2.1 pc = .ok (.ifCond .le off, 3)) (ht : (pc : Int) + off = (tgt : Int)) (kt : x ≤ 0 → AW V M d kc ks tgt L st h R) (kf : ¬ x ≤ 0 → AW V M d kc ks (pc + 3) L st h R) : AW V M d kc ks pc L (.int x :: st) h R := by
  intro p e s m args below meth c C H locs ls cells slots mc ms hc hs hS hF hL
  exact lv_if_le C.1 C.2.1 hd ht (fun z => kt z p e s m args below meth c C H locs ls cells slots mc ms hc hs hS hF hL) (fun z => kf z p e s m args below meth c C H locs ls cells slots mc ms hc hs hS hF hL)
theorem aw_icmp_le {x y : Int32} {off : Int} {tgt : Nat} (hd : decode M.2.1 pc = .ok (.if_icmp .le off, 3)) (ht : (pc : Int) + off = (tgt : Int)) (kt : x ≤ y → AW V M d kc ks tgt L st h R) (kf : ¬ x ≤ y → AW V M d kc ks (pc + 3) L st h R) : AW V M d kc ks pc L (.int y :: .int x :: st) h R := by
  intro p e s m args below meth c C H locs ls cells slots mc ms hc hs hS hF hL
  exact lv_icmp_le C.1 C.2.1 hd ht (fun z => kt z p e s m args below meth c C H locs ls cells slots mc ms hc hs hS hF hL) (fun z => kf z p e s m args below meth c C H locs ls cells slots mc ms hc hs hS hF hL)
theorem aw_goto {off : Int} {tgt : Nat} (hd : decode M.2.1 pc = .ok (.goto off, 3)) (ht : (pc : Int) + off = (tgt : Int)) (k : AW V M d kc ks tgt L st h R) : AW V M d kc ks pc L st h R := by
  intro p e s m args below meth c C H locs ls cells slots mc ms hc hs hS hF hL
  exact lv_goto C.1 C.2.1 hd ht (k p e s m args below meth c C H locs ls cells slots mc ms hc hs hS hF hL)
theorem aw_tableOut {dflt lo hi : Int} {offs : Array Int} {len : Nat} {x : Int32} {tgt : Nat} (hd : decode M.2.1 pc = .ok (.tableswitch dflt lo hi offs, len)) (hx : x.toInt < lo ∨ hi < x.toInt) (ht : (pc : Int) + dflt = (tgt : Int)) (k : AW V M d kc ks tgt L st h R) : AW V M d kc ks pc L (.int x :: st) h R := by
  intro p e s m args below meth c C H locs ls cells slots mc ms hc hs hS hF hL
  exact lv_tableOut C.1 C.2.1 hd hx ht (k p e s m args below meth c C H locs ls cells slots mc ms hc hs hS hF hL)
theorem aw_tableIn {dflt lo hi : Int} {offs : Array Int} {len : Nat} {x : Int32} {off : Int} {tgt : Nat} (hd : decode M.2.1 pc = .ok (.tableswitch dflt lo hi offs, len)) (h1 : ¬ x.toInt < lo) (h2 : ¬ hi < x.toInt) (ho : offs[(x.toInt - lo).toNat]? = some off) (ht : (pc : Int) + off = (tgt : Int)) (k : AW V M d kc ks tgt L st h R) : AW V M d kc ks pc L (.int x :: st) h R := by
  intro p e s m args below meth c C H locs ls cells slots mc ms hc hs hS hF hL
  exact lv_tableIn C.1 C.2.1 hd h1 h2 ho ht (k p e s m args below meth c C H locs ls cells slots mc ms hc hs hS hF hL)
theorem aw_lookup {dflt : Int} {ps : Array (Int × Int)} {len : Nat} {x : Int32} {off : Int} {tgt : Nat} (hd : decode M.2.1 pc = .ok (.lookupswitch dflt ps, len)) (hp : (ps.toList.zip (ps.toList.drop 1)).all (fun (a, next) => a.1 < next.1) = true) (ho : Op.lookupswitch.offset ps.toList dflt x.toInt = off) (ht : (pc : Int) + off = (tgt : Int)) (k : AW V M d kc ks tgt L st h R) : AW V M d kc ks pc L (.int x :: st) h R := by
  intro p e s m args below meth c C H locs ls cells slots mc ms hc hs hS hF hL
  exact lv_lookup C.1 C.2.1 hd hp ho ht (k p e s m args below meth c C H locs ls cells slots mc ms hc hs hS hF hL)
theorem aw_ireturn {v : Int32} {ty : FieldType} (hd : decode M.2.1 pc = .ok (.ireturn, 1)) (hr : M.2.2.2 = some ty) (hn : narrow ty (.int v) = .int v) (hR : R (some (.int v)) h) : AW V M d kc ks pc L [.int v] h R := by
  intro p e s m args below meth c C H locs ls cells slots mc ms hc hs hS hF hL
  refine W.widen (k := mc) (n := ms) (by omega) (by omega) ?_
  exact W.zret (Qc := am_Q V R) (free := am_A V) C.1 C.2.1 (C.2.2.2.1.trans hr) hn (fun t ht _ => ⟨⟨some (.int v), h, rfl, hR, by rw [ht]; exact hS⟩, hF.F ht⟩) hF.2.2 hd (hlocks := C.2.2.2.2.2.2.2.2.1)
theorem aw_lreturn {v : Int64} (hd : decode M.2.1 pc = .ok (.lreturn, 1)) (hr : M.2.2.2 = some .long) (hR : R (some (.long v)) h) : AW V M d kc ks pc L [.long v] h R := by
  intro p e s m args below meth c C H locs ls cells slots mc ms hc hs hS hF hL
  refine W.widen (k := mc) (n := ms) (by omega) (by omega) ?_
  exact W.lret (Qc := am_Q V R) (free := am_A V) C.1 C.2.1 (C.2.2.2.1.trans hr) (fun t ht _ => ⟨⟨some (.long v), h, rfl, hR, by rw [ht]; exact hS⟩, hF.F ht⟩) hF.2.2 hd (hlocks := C.2.2.2.2.2.2.2.2.1)
theorem aw_areturn {a : Nat} {nm : String} (hd : decode M.2.1 pc = .ok (.areturn, 1)) (hr : M.2.2.2 = some (.object nm)) (hR : R (some (.ref a)) h) : AW V M d kc ks pc L [.ref a] h R := by
  intro p e s m args below meth c C H locs ls cells slots mc ms hc hs hS hF hL
  refine W.widen (k := mc) (n := ms) (by omega) (by omega) ?_
  exact W.aret (Qc := am_Q V R) (free := am_A V) (v := .ref (am_ad V a)) C.1 C.2.1 (C.2.2.2.1.trans hr) (Or.inl ⟨nm, rfl⟩) (Or.inr ⟨_, rfl⟩) (fun t ht _ => ⟨⟨some (.ref a), h, rfl, hR, by rw [ht]; exact hS⟩, hF.F ht⟩) hF.2.2 hd (hlocks := C.2.2.2.2.2.2.2.2.1)
theorem aw_return (hd : decode M.2.1 pc = .ok (.return_, 1)) (hr : M.2.2.2 = none) (hR : R none h) : AW V M d kc ks pc L [] h R := by
  intro p e s m args below meth c C H locs ls cells slots mc ms hc hs hS hF hL
  refine W.widen (k := mc) (n := ms) (by omega) (by omega) ?_
  exact W.vret (Qc := am_Q V R) (free := am_A V) C.1 C.2.1 (C.2.2.2.1.trans hr) (fun t ht _ => ⟨⟨none, h, rfl, hR, by rw [ht]; exact hS⟩, hF.F ht⟩) hF.2.2 hd (hlocks := C.2.2.2.2.2.2.2.2.1)
end AMR
end
section
theorem am_math_in : Cond.initialized "java/lang/Math" ∈ am_T := am_in 79 (by decide +kernel) (by decide +kernel)
theorem am_mmin_st : Cond.static Lib.Math.min.name ∈ am_T := am_in 315 (by decide +kernel) (by decide +kernel)
theorem am_mmin_co : Cond.code Lib.Math.min.name Lib.Math.min.code 2 (some .int) ∈ am_T := am_in 316 (by decide +kernel) (by decide +kernel)
theorem am_mmax_st : Cond.static Lib.Math.max.name ∈ am_T := am_in 569 (by decide +kernel) (by decide +kernel)
theorem am_mmax_co : Cond.code Lib.Math.max.name Lib.Math.max.code 2 (some .int) ∈ am_T := am_in 570 (by decide +kernel) (by decide +kernel)
theorem am_mabs_st : Cond.static Lib.Math.abs.name ∈ am_T := am_in 647 (by decide +kernel) (by decide +kernel)
theorem am_mabs_co : Cond.code Lib.Math.abs.name Lib.Math.abs.code 1 (some .int) ∈ am_T := am_in 648 (by decide +kernel) (by decide +kernel)
def am_fty (ci k : Nat) : FieldType := match ci with
  | 0 => tyX0 k
  | 1 => tyX1 k
  | 2 => tyX2 k
  | 3 => tyX3 k
  | 4 => tyX4 k
  | _ => tyX5 k
theorem am_cl_in {ci : Nat} {q : vw_C} (hq : am_cl[ci]? = some q) : ∀ x ∈ u_ws q.1 q.2.1 q.2.2, x ∈ am_T := by
  match ci, hq with
  | 0, hq => cases hq; exact am_lay0
  | 1, hq => cases hq; exact am_lay1
  | 2, hq => cases hq; exact am_lay2
  | 3, hq => cases hq; exact am_lay3
  | 4, hq => cases hq; exact am_lay4
  | 5, hq => cases hq; exact am_lay5
  | k + 6, hq => simp [am_cl] at hq
theorem am_cl_ty {ci : Nat} {q : vw_C} (hq : am_cl[ci]? = some q) : ∀ k, k < q.2.2 → parseFieldDescriptor (q.2.1 k).2.2.1 = some (am_fty ci k) := by
  match ci, hq with
  | 0, hq => cases hq; exact tyX0_ok
  | 1, hq => cases hq; exact tyX1_ok
  | 2, hq => cases hq; exact tyX2_ok
  | 3, hq => cases hq; exact tyX3_ok
  | 4, hq => cases hq; exact tyX4_ok
  | 5, hq => cases hq; exact tyX5_ok
  | k + 6, hq => simp [am_cl] at hq
theorem am_cl_nm {ci : Nat} {q : vw_C} (hq : am_cl[ci]? = some q) : ∀ a, a < q.2.2 → ∀ b, b < q.2.2 → a ≠ b → (q.2.1 a).2.1 ≠ (q.2.1 b).2.1 := by
  match ci, hq with
  | 0, hq => cases hq; exact nmX0
  | 1, hq => cases hq; exact nmX1
  | 2, hq => cases hq; exact nmX2
  | 3, hq => cases hq; exact nmX3
  | 4, hq => cases hq; exact nmX4
  | 5, hq => cases hq; exact nmX5
  | k + 6, hq => simp [am_cl] at hq
theorem am_good {w : Cond} (hw : w ∈ am_T) : w ∈ am_T ∧ ((w.onTables && w.keeps) = true ∨ ∃ ty, w = .arrayClass ty) := ⟨hw, good_of_word (List.mem_filter.mp hw).2⟩
theorem am_ws_good {M : am_M} (h : am_okC M) : GoodIn am_T (am_ws M) := by
  intro w hw
  rcases List.mem_cons.mp hw with rfl | hw
  · exact am_good h.1
  · exact am_good hw
section AMH
variable {V : am_V} {h : List va_E} {H H1 : Heap}
theorem am_S.at (hS : am_S V h H) {a : Nat} {e : va_E} (he : h[a]? = some e) : va_at V.2.1 am_cl (am_ad V a, am_ce V e) H := by
  have hl : a < h.length := (List.getElem?_eq_some_iff.mp he).1
  rw [am_ad_lt (by have := hS.1; omega)]
  exact hS.2.2 a e he
theorem am_S.one (hS : am_S V h H) {a : Nat} {e : va_E} (he : h[a]? = some e) : va_P V.2.1 am_cl [(am_ad V a, am_ce V e)] H := by
  intro k q hk
  cases k with
  | zero => cases hk; exact hS.at he
  | succ k => simp at hk
theorem am_S.in (hS : am_S V h H) {a : Nat} {e : va_E} (he : h[a]? = some e) : am_A V (am_ad V a) := by
  have hl : a < h.length := (List.getElem?_eq_some_iff.mp he).1
  rw [am_ad_lt (by have := hS.1; omega)]
  exact Nat.le_add_right _ _
theorem am_S.set (hS : am_S V h H) {a : Nat} {e0 e : va_E} (he : h[a]? = some e0) (h1 : va_at V.2.1 am_cl (am_ad V a, am_ce V e) H1) (z : H1.size = H.size) (oq : ∀ q : Nat, q ≠ am_ad V a → H1[q]? = H[q]?) : am_S V (h.set a e) H1 := by
  have hl : a < h.length := (List.getElem?_eq_some_iff.mp he).1
  have hm := hS.1
  have ha : am_ad V a = V.2.2.2.1 + a := am_ad_lt (by omega)
  refine ⟨by rw [List.length_set]; exact hS.1, by rw [z, List.length_set]; exact hS.2.1, fun b e' hb => ?_⟩
  by_cases hba : b = a
  · subst hba
    rw [List.getElem?_set_self hl] at hb
    cases hb
    rw [← ha]
    exact h1
  · rw [List.getElem?_set_ne (Ne.symm hba)] at hb
    exact (hS.2.2 b e' hb).kept (oq _ (by rw [ha]; omega))
theorem am_S.push (hS : am_S V h H) {e : va_E} (hm : h.length < 1000000) (h1 : va_at V.2.1 am_cl (H.size, am_ce V e) H1) (z : H1.size = H.size + 1) (oq : ∀ q : Nat, q < H.size → H1[q]? = H[q]?) : am_S V (h ++ [e]) H1 := by
  refine ⟨by simp; omega, by rw [z, hS.2.1]; simp; omega, fun b e' hb => ?_⟩
  by_cases hl : b < h.length
  · rw [List.getElem?_append_left hl] at hb
    exact (hS.2.2 b e' hb).kept (oq _ (by show V.2.2.2.1 + b < H.size; rw [hS.2.1]; omega))
  · rw [List.getElem?_append_right (by omega)] at hb
    have hz : b - h.length < 1 := (List.getElem?_eq_some_iff.mp hb).1
    have hbl : b = h.length := by omega
    subst hbl
    rw [Nat.sub_self] at hb
    cases hb
    rw [← hS.2.1]
    exact h1
end AMH
section AMF
variable {V : am_V} {M : am_M} {d kc ks pc : Nat} {L : List (Option Value)} {st : List Value} {h : List va_E} {R : Option Value → List va_E → Prop}

theorem aw_get {a ci idx : Nat} {q : vw_C} {fs : List Value} {v : Value} (k : Nat) (hd : decode M.2.1 pc = .ok (.getfield idx, 3)) (hq : am_cl[ci]? = some q) (hl : Cond.fieldLink M.1.cls idx (q.2.1 k).1 (q.2.1 k).2.1 (q.2.1 k).2.2.1 ∈ am_T) (hk : k < q.2.2) (he : h[a]? = some (.inr (ci, fs))) (hv : fs[k]? = some v) (kk : AW V M d kc ks (pc + 3) L (v :: st) h R) : AW V M d kc ks pc L (.ref a :: st) h R := by
  intro p e s m args below meth c C H locs ls cells slots mc ms hc hs hS hF hL
  have hts := C.2.2.2.2.2.1
  have hown := C.2.2.2.2.1
  have hK := C.2.2.2.2.2.2.2.1
  exact va_get (D := V.2.1) (cl := am_cl) (tys := am_tys V) (ws := [(am_ad V a, am_ce V (.inr (ci, fs)))]) (ci := ci) (C := q.1) (T := q.2.1) (N := q.2.2) (fs := fs.map (am_cv V)) (v := am_cv V v) C.1 C.2.1 hts (am_cl_in hq) hown hK (hS.one he) 0 rfl hq k hk (hts _ hl) (fun _ z => z) (by rw [List.getElem?_map, hv]; rfl) hd (kk p e s m args below meth c C H locs ls cells slots mc ms hc hs hS hF hL)
theorem aw_put {a ci idx : Nat} {q : vw_C} {fs : List Value} {v : Value} {h' : List va_E} (k : Nat) (hd : decode M.2.1 pc = .ok (.putfield idx, 3)) (hq : am_cl[ci]? = some q) (hl : Cond.fieldLink M.1.cls idx (q.2.1 k).1 (q.2.1 k).2.1 (q.2.1 k).2.2.1 ∈ am_T) (hk : k < q.2.2) (hf : (q.2.1 k).2.2.2 = false) (he : h[a]? = some (.inr (ci, fs))) (hn : narrow (am_fty ci k) (am_cv V v) = am_cv V v) (hfit : fits (am_fty ci k) (am_cv V v) = true) (hlen : k < fs.length) (hh : h.set a (.inr (ci, fs.set k v)) = h') (kk : AW V M d kc ks (pc + 3) L st h' R) : AW V M d kc ks pc L (v :: .ref a :: st) h R := by
  subst hh
  intro p e s m args below meth c C H locs ls cells slots mc ms hc hs hS hF hL
  have hts := C.2.2.2.2.2.1
  have hown := C.2.2.2.2.1
  have hK := C.2.2.2.2.2.2.2.1
  have hap := va_apart (own := M.1.cls) (D := V.2.1) (cl := am_cl) (tys := am_tys V) (ci := ci) (C := q.1) (T := q.2.1) (N := q.2.2) hts (am_cl_in hq) (am_fty ci) (am_cl_ty hq) (am_cl_nm hq) hK hq
  have hat := hS.at he
  obtain ⟨r, h1, cell, q1, q2, q3, q4⟩ := hat
  have hr : r = q := Option.some.inj (h1.symm.trans hq)
  subst hr
  obtain ⟨hSl, hfc, kC, hkC, hkind⟩ := hK.1 ci _ hq
  obtain ⟨cf, kf, fi, f, hi, hsl⟩ := hSl k hk
  have hlay := hts _ (am_cl_in hq _ (u_in_lay hk))
  unfold u_lay at hlay
  rw [if_neg (by rw [hf]; decide)] at hlay
  have hst := (u_facts hfc hkC (u_lays hts (am_cl_in hq) hk) hi).1
  have h6 := u_store hfc hkC hkind hlay hi (am_cl_ty hq k hk) hn hfit
  refine W.putK C.1 C.2.1 (f := f) ⟨hown, hts _ hl, ⟨_, _, _, hi⟩, hst⟩ (by rw [q2]; exact h6) q1 q3 (by rw [hsl]; exact k2_hasslot (q4 k hk)) rfl rfl hd fun H' e1 e2 e3 => ?_
  rw [hsl] at e1 ⊢
  exact kk p e s m args below meth c C H' _ ls cells slots mc ms hc hs (hS.set he ⟨_, hq, t_OB.to (V := updV (vp_V (fs.map (am_cv V))) k (am_cv V v)) ⟨_, e1, q2, q3, t_set q4 hap hk (am_cv V v)⟩ (fun j _ => by rw [List.map_set]; exact vp_updV_set (by rw [List.length_map]; exact hlen) (am_cv V v) j)⟩ e2 e3) (hF.put e2 e3 (hS.in he)) hL
theorem aw_putF {a ci idx : Nat} {q : vw_C} {fs : List Value} {v : Value} {h' : List va_E} (k : Nat) (hd : decode M.2.1 pc = .ok (.putfield idx, 3)) (hq : am_cl[ci]? = some q) (hl : Cond.fieldLink M.1.cls idx (q.2.1 k).1 (q.2.1 k).2.1 (q.2.1 k).2.2.1 ∈ am_T) (hk : k < q.2.2) (hf : (q.2.1 k).2.2.2 = true) (hini : M.1.name = "<init>") (hdecl : (q.2.1 k).1 = M.1.cls) (he : h[a]? = some (.inr (ci, fs))) (hn : narrow (am_fty ci k) (am_cv V v) = am_cv V v) (hfit : fits (am_fty ci k) (am_cv V v) = true) (hlen : k < fs.length) (hh : h.set a (.inr (ci, fs.set k v)) = h') (kk : AW V M d kc ks (pc + 3) L st h' R) : AW V M d kc ks pc L (v :: .ref a :: st) h R := by
  subst hh
  intro p e s m args below meth c C H locs ls cells slots mc ms hc hs hS hF hL
  have hts := C.2.2.2.2.2.1
  have hown := C.2.2.2.2.1
  have hK := C.2.2.2.2.2.2.2.1
  have hap := va_apart (own := M.1.cls) (D := V.2.1) (cl := am_cl) (tys := am_tys V) (ci := ci) (C := q.1) (T := q.2.1) (N := q.2.2) hts (am_cl_in hq) (am_fty ci) (am_cl_ty hq) (am_cl_nm hq) hK hq
  have hat := hS.at he
  obtain ⟨r, h1, cell, q1, q2, q3, q4⟩ := hat
  have hr : r = q := Option.some.inj (h1.symm.trans hq)
  subst hr
  obtain ⟨hSl, hfc, kC, hkC, hkind⟩ := hK.1 ci _ hq
  obtain ⟨cf, kf, fi, f, hi, hsl⟩ := hSl k hk
  have hlay := hts _ (am_cl_in hq _ (u_in_lay hk))
  unfold u_lay at hlay
  rw [if_pos hf] at hlay
  have hst := (u_facts hfc hkC (u_lays hts (am_cl_in hq) hk) hi).1
  have hcf : m.cls = cf := by
    obtain ⟨_, _, c', _, _, _, -, -, hf', -, -, -, hown2, -⟩ := Cond.laysFinal_spec hlay
    have e1 : c' = cf := by have := hi.symm.trans hf'; simp at this; exact this.1.symm
    rw [hdecl] at hown2
    rw [← e1]; exact Option.some.inj (hown.symm.trans hown2)
  have h6 := u_fits hfc hkC hkind (Or.inr hlay) hi (am_cl_ty hq k hk) hn hfit
  refine W.putFinK C.1 C.2.1 hown (hts _ hl) hi hst hcf (C.2.2.2.2.2.2.2.2.2.1.trans hini) (by rw [q2]; exact h6) q1 q3 (by rw [hsl]; exact k2_hasslot (q4 k hk)) rfl rfl hd fun H' e1 e2 e3 => ?_
  rw [hsl] at e1 ⊢
  exact kk p e s m args below meth c C H' _ ls cells slots mc ms hc hs (hS.set he ⟨_, hq, t_OB.to (V := updV (vp_V (fs.map (am_cv V))) k (am_cv V v)) ⟨_, e1, q2, q3, t_set q4 hap hk (am_cv V v)⟩ (fun j _ => by rw [List.map_set]; exact vp_updV_set (by rw [List.length_map]; exact hlen) (am_cv V v) j)⟩ e2 e3) (hF.put e2 e3 (hS.in he)) hL
theorem aw_iald {a n : Nat} {f : Nat → Int32} {i : Int32} (hd : decode M.2.1 pc = .ok (.iaload, 1)) (he : h[a]? = some (.inl (0, n, .inl f))) (hin : vp_in i n) (kk : AW V M d kc ks (pc + 1) L (.int (f i.toNatClampNeg) :: st) h R) : AW V M d kc ks pc L (.int i :: .ref a :: st) h R := by
  intro p e s m args below meth c C H locs ls cells slots mc ms hc hs hS hF hL
  have hts := C.2.2.2.2.2.1
  have hown := C.2.2.2.2.1
  have hK := C.2.2.2.2.2.2.2.1
  exact va_iald (D := V.2.1) (cl := am_cl) (tys := am_tys V) (ws := [(am_ad V a, am_ce V (.inl (0, n, .inl f)))]) C.1 C.2.1 hK (hS.one he) 0 0 rfl rfl hin hd (kk p e s m args below meth c C H locs ls cells slots mc ms hc hs hS hF hL)
theorem aw_bald {a n : Nat} {f : Nat → Int32} {i : Int32} (hd : decode M.2.1 pc = .ok (.baload, 1)) (he : h[a]? = some (.inl (1, n, .inl f))) (hin : vp_in i n) (kk : AW V M d kc ks (pc + 1) L (.int (f i.toNatClampNeg) :: st) h R) : AW V M d kc ks pc L (.int i :: .ref a :: st) h R := by
  intro p e s m args below meth c C H locs ls cells slots mc ms hc hs hS hF hL
  have hts := C.2.2.2.2.2.1
  have hown := C.2.2.2.2.1
  have hK := C.2.2.2.2.2.2.2.1
  exact va_bald (D := V.2.1) (cl := am_cl) (tys := am_tys V) (ws := [(am_ad V a, am_ce V (.inl (1, n, .inl f)))]) C.1 C.2.1 hK (hS.one he) 0 1 rfl rfl hin hd (kk p e s m args below meth c C H locs ls cells slots mc ms hc hs hS hF hL)
theorem aw_zald {a n : Nat} {f : Nat → Int32} {i : Int32} (hd : decode M.2.1 pc = .ok (.baload, 1)) (he : h[a]? = some (.inl (2, n, .inl f))) (hin : vp_in i n) (kk : AW V M d kc ks (pc + 1) L (.int (f i.toNatClampNeg) :: st) h R) : AW V M d kc ks pc L (.int i :: .ref a :: st) h R := by
  intro p e s m args below meth c C H locs ls cells slots mc ms hc hs hS hF hL
  have hts := C.2.2.2.2.2.1
  have hown := C.2.2.2.2.1
  have hK := C.2.2.2.2.2.2.2.1
  exact va_zald (D := V.2.1) (cl := am_cl) (tys := am_tys V) (ws := [(am_ad V a, am_ce V (.inl (2, n, .inl f)))]) C.1 C.2.1 hK (hS.one he) 0 2 rfl rfl hin hd (kk p e s m args below meth c C H locs ls cells slots mc ms hc hs hS hF hL)
theorem aw_aald {a n t b : Nat} {g : Nat → Option Nat} {i : Int32} {cn : String} (hd : decode M.2.1 pc = .ok (.aaload, 1)) (he : h[a]? = some (.inl (t, n, .inr (.inr (.inr (.inr g)))))) (ht : (am_tys V)[t]? = some (V.2.2.1 t, .object cn)) (hin : vp_in i n) (hg : g i.toNatClampNeg = some b) (kk : AW V M d kc ks (pc + 1) L (.ref b :: st) h R) : AW V M d kc ks pc L (.int i :: .ref a :: st) h R := by
  intro p e s m args below meth c C H locs ls cells slots mc ms hc hs hS hF hL
  have hts := C.2.2.2.2.2.1
  have hown := C.2.2.2.2.1
  have hK := C.2.2.2.2.2.2.2.1
  refine va_aldq (D := V.2.1) (cl := am_cl) (tys := am_tys V) (ws := [(am_ad V a, am_ce V (.inl (t, n, .inr (.inr (.inr (.inr g))))))]) (C := cn) C.1 C.2.1 hK (hS.one he) 0 t rfl ht hin hd ?_
  have e1 : va_rf ((fun j => (g j).map (am_ad V)) i.toNatClampNeg) = Value.ref (am_ad V b) := by simp [hg, va_rf]
  rw [e1]
  exact kk p e s m args below meth c C H locs ls cells slots mc ms hc hs hS hF hL
theorem aw_iast {a n : Nat} {f : Nat → Int32} {i x : Int32} {h' : List va_E} (hd : decode M.2.1 pc = .ok (.iastore, 1)) (he : h[a]? = some (.inl (0, n, .inl f))) (hin : vp_in i n) (hh : h.set a (.inl (0, n, .inl (upd f i.toNatClampNeg x))) = h') (kk : AW V M d kc ks (pc + 1) L st h' R) : AW V M d kc ks pc L (.int x :: .int i :: .ref a :: st) h R := by
  subst hh
  intro p e s m args below meth c C H locs ls cells slots mc ms hc hs hS hF hL
  have hts := C.2.2.2.2.2.1
  have hown := C.2.2.2.2.1
  have hK := C.2.2.2.2.2.2.2.1
  have hat : H[am_ad V a]? = some (vp_cell (V.2.2.1 0) (n, .inl f)) := hS.at he
  refine W.iast C.1 C.2.1 hat ((hK.2 0 _ rfl).1 n (fun j => .int (f j))) (fun q => by cases q) (by show ¬ (i < 0 ∨ (arrV _ _ _).slots.size ≤ _); rw [arrV_size]; exact hin) rfl rfl hd fun H1 e1 z oq => ?_
  refine kk p e s m args below meth c C H1 _ ls cells slots mc ms hc hs (hS.set he ?_ z oq) (hF.put z oq (hS.in he)) hL
  show H1[am_ad V a]? = some (vp_cell _ _)
  rw [e1]
  simp only [am_ca]
  rw [vp_cell_i, vp_cell_i, arrV_store]
  congr 2
  funext q
  by_cases hq : q = i.toNatClampNeg
  · subst hq
    simp [updV, upd, vp_nar]
    try rfl
  · simp [updV, upd, hq]
theorem aw_bast {a n : Nat} {f : Nat → Int32} {i x : Int32} {h' : List va_E} (hd : decode M.2.1 pc = .ok (.bastore, 1)) (he : h[a]? = some (.inl (1, n, .inl f))) (hin : vp_in i n) (hh : h.set a (.inl (1, n, .inl (upd f i.toNatClampNeg (vp_nar .byte x)))) = h') (kk : AW V M d kc ks (pc + 1) L st h' R) : AW V M d kc ks pc L (.int x :: .int i :: .ref a :: st) h R := by
  subst hh
  intro p e s m args below meth c C H locs ls cells slots mc ms hc hs hS hF hL
  have hts := C.2.2.2.2.2.1
  have hown := C.2.2.2.2.1
  have hK := C.2.2.2.2.2.2.2.1
  have hat : H[am_ad V a]? = some (vp_cell (V.2.2.1 1) (n, .inl f)) := hS.at he
  refine W.bast C.1 C.2.1 hat ((hK.2 1 _ rfl).1 n (fun j => .int (f j))) (fun q => by cases q) (by show ¬ (i < 0 ∨ (arrV _ _ _).slots.size ≤ _); rw [arrV_size]; exact hin) rfl rfl hd fun H1 e1 z oq => ?_
  refine kk p e s m args below meth c C H1 _ ls cells slots mc ms hc hs (hS.set he ?_ z oq) (hF.put z oq (hS.in he)) hL
  show H1[am_ad V a]? = some (vp_cell _ _)
  rw [e1]
  simp only [am_ca]
  rw [vp_cell_i, vp_cell_i, arrV_store]
  congr 2
  funext q
  by_cases hq : q = i.toNatClampNeg
  · subst hq
    simp [updV, upd, vp_nar]
    try rfl
  · simp [updV, upd, hq]
theorem aw_zast {a n : Nat} {f : Nat → Int32} {i x : Int32} {h' : List va_E} (hd : decode M.2.1 pc = .ok (.bastore, 1)) (he : h[a]? = some (.inl (2, n, .inl f))) (hin : vp_in i n) (hh : h.set a (.inl (2, n, .inl (upd f i.toNatClampNeg (vp_nar .boolean x)))) = h') (kk : AW V M d kc ks (pc + 1) L st h' R) : AW V M d kc ks pc L (.int x :: .int i :: .ref a :: st) h R := by
  subst hh
  intro p e s m args below meth c C H locs ls cells slots mc ms hc hs hS hF hL
  have hts := C.2.2.2.2.2.1
  have hown := C.2.2.2.2.1
  have hK := C.2.2.2.2.2.2.2.1
  have hat : H[am_ad V a]? = some (vp_cell (V.2.2.1 2) (n, .inl f)) := hS.at he
  refine W.zast C.1 C.2.1 hat ((hK.2 2 _ rfl).1 n (fun j => .int (f j))) (fun q => by cases q) (by show ¬ (i < 0 ∨ (arrV _ _ _).slots.size ≤ _); rw [arrV_size]; exact hin) rfl rfl hd fun H1 e1 z oq => ?_
  refine kk p e s m args below meth c C H1 _ ls cells slots mc ms hc hs (hS.set he ?_ z oq) (hF.put z oq (hS.in he)) hL
  show H1[am_ad V a]? = some (vp_cell _ _)
  rw [e1]
  simp only [am_ca]
  rw [vp_cell_i, vp_cell_i, arrV_store]
  congr 2
  funext q
  by_cases hq : q = i.toNatClampNeg
  · subst hq
    simp [updV, upd, vp_nar]
    try rfl
  · simp [updV, upd, hq]
theorem aw_alen {a n t : Nat} {x : (Nat → Int32) ⊕ (Nat → Int64) ⊕ (Nat → UInt32) ⊕ (Nat → UInt64) ⊕ (Nat → Option Nat)} {ty : FieldType} (hd : decode M.2.1 pc = .ok (.arraylength, 1)) (he : h[a]? = some (.inl (t, n, x))) (ht : (am_tys V)[t]? = some (V.2.2.1 t, ty)) (kk : AW V M d kc ks (pc + 1) L (.int (Int32.ofNat n) :: st) h R) : AW V M d kc ks pc L (.ref a :: st) h R := by
  intro p e s m args below meth c C H locs ls cells slots mc ms hc hs hS hF hL
  have hts := C.2.2.2.2.2.1
  have hown := C.2.2.2.2.1
  have hK := C.2.2.2.2.2.2.2.1
  have hn : (am_ca V (n, x)).1 = n := by
    rcases x with x | x | x | x | x <;> rfl
  exact va_alen (D := V.2.1) (cl := am_cl) (tys := am_tys V) (ws := [(am_ad V a, am_ce V (.inl (t, n, x)))]) C.1 C.2.1 hK (hS.one he) 0 t rfl ht (by rw [hn]) hd (kk p e s m args below meth c C H locs ls cells slots mc ms hc hs hS hF hL)
theorem aw_mmin {idx : Nat} {x y : Int32} (hd : decode M.2.1 pc = .ok (.invokestatic idx, 3)) (hl : Cond.methodLink M.1.cls idx Lib.Math.min.name ∈ am_T) (hw : (st.map fun v => v.category).sum ≤ 8) (kk : AW V M (d + 1) kc ks (pc + 3) L (.int (if y < x then y else x) :: st) h R) : AW V M (d + 1) kc ks pc L (.int y :: .int x :: st) h R := by
  intro p e s m args below meth c C H locs ls cells slots mc ms hc hs hS hF hL
  have hts := C.2.2.2.2.2.1
  have hown := C.2.2.2.2.1
  have hK := C.2.2.2.2.2.2.2.1
  have hcat : ((st.map (am_cv V)).map fun v => v.category).sum ≤ 8 := by
    rw [List.map_map, show ((fun v : Value => v.category) ∘ am_cv V) = (fun v => v.category) from funext (am_cat V)]
    exact hw
  exact va_mmin C.1 C.2.1 (C.2.2.1.trans hL.2.1.symm) hown (hts _ hl) (hts _ am_mmin_st) (hts _ am_math_in) (hts _ am_mmin_co) (Nat.succ_le_succ (Nat.zero_le d)) (by show _ + 13 ≤ 40 * (d + 1); omega) (by show cells ≤ mc; omega) (by show slots ≤ ms; omega) hd (kk p e s m args below meth c C H locs ls cells slots mc ms hc hs hS hF hL)
theorem aw_mmax {idx : Nat} {x y : Int32} (hd : decode M.2.1 pc = .ok (.invokestatic idx, 3)) (hl : Cond.methodLink M.1.cls idx Lib.Math.max.name ∈ am_T) (hw : (st.map fun v => v.category).sum ≤ 8) (kk : AW V M (d + 1) kc ks (pc + 3) L (.int (if x < y then y else x) :: st) h R) : AW V M (d + 1) kc ks pc L (.int y :: .int x :: st) h R := by
  intro p e s m args below meth c C H locs ls cells slots mc ms hc hs hS hF hL
  have hts := C.2.2.2.2.2.1
  have hown := C.2.2.2.2.1
  have hK := C.2.2.2.2.2.2.2.1
  have hcat : ((st.map (am_cv V)).map fun v => v.category).sum ≤ 8 := by
    rw [List.map_map, show ((fun v : Value => v.category) ∘ am_cv V) = (fun v => v.category) from funext (am_cat V)]
    exact hw
  exact va_mmax C.1 C.2.1 (C.2.2.1.trans hL.2.1.symm) hown (hts _ hl) (hts _ am_mmax_st) (hts _ am_math_in) (hts _ am_mmax_co) (Nat.succ_le_succ (Nat.zero_le d)) (by show _ + 13 ≤ 40 * (d + 1); omega) (by show cells ≤ mc; omega) (by show slots ≤ ms; omega) hd (kk p e s m args below meth c C H locs ls cells slots mc ms hc hs hS hF hL)
theorem aw_mabs {idx : Nat} {x : Int32} (hd : decode M.2.1 pc = .ok (.invokestatic idx, 3)) (hl : Cond.methodLink M.1.cls idx Lib.Math.abs.name ∈ am_T) (hw : (st.map fun v => v.category).sum ≤ 8) (kk : AW V M (d + 1) kc ks (pc + 3) L (.int (if 0 ≤ x then x else 0 - x) :: st) h R) : AW V M (d + 1) kc ks pc L (.int x :: st) h R := by
  intro p e s m args below meth c C H locs ls cells slots mc ms hc hs hS hF hL
  have hts := C.2.2.2.2.2.1
  have hown := C.2.2.2.2.1
  have hK := C.2.2.2.2.2.2.2.1
  have hcat : ((st.map (am_cv V)).map fun v => v.category).sum ≤ 8 := by
    rw [List.map_map, show ((fun v : Value => v.category) ∘ am_cv V) = (fun v => v.category) from funext (am_cat V)]
    exact hw
  exact va_mabs C.1 C.2.1 (C.2.2.1.trans hL.2.1.symm) hown (hts _ hl) (hts _ am_mabs_st) (hts _ am_math_in) (hts _ am_mabs_co) (Nat.succ_le_succ (Nat.zero_le d)) (by show _ + 13 ≤ 40 * (d + 1); omega) (by show cells ≤ mc; omega) (by show slots ≤ ms; omega) hd (kk p e s m args below meth c C H locs ls cells slots mc ms hc hs hS hF hL)
theorem am_call {p : Program} {l : Launch} {e : Env} {Rm : Room} {s : State} {m : MethodId} {args : Array Value} {below : List Frame} {meth : Method} {c : Code} {H H0 : Heap} {locs : List Loc} {cells slots mc ms : Nat} {Q : State → Prop} {ls : Array Slot} {rest st0 : List Value} {a : Array Value} {R' : Option Value → List va_E → Prop}
    (hr : va_Run p l e Rm s m args below meth c H locs cells slots mc ms (F0 m pc ls st0) rest (am_Q V R' a) (am_A V)) (hS : va_S (am_A V) H0 H locs)
    (kk : ∀ (r : Option Value) (h' : List va_E) (H1 : Heap) (locs1 : List Loc), R' r h' → am_S V h' H1 → va_S (am_A V) H0 H1 locs1 → W p l e Rm s m args below meth c H1 locs1 (cells + mc) (slots + ms) Q (F0 m (pc + 3) ls ((r.map (am_cv V)).toList ++ rest))) : W p l e Rm s m args below meth c H locs cells slots Q (F0 m pc ls st0) := by
  intro T hT X
  obtain ⟨v, st₀, t, T', L', h0, X', hL, e1, e2, ⟨⟨r, h', hv, hp, hb⟩, hz, hk⟩, st⟩ := hr T hT X
  cases hv
  rw [h0] at hz hk
  obtain ⟨t2, a1, b1⟩ := kk r h' T'.heap (locs ++ L') hp (by rw [e1]; exact hb)
    ⟨Nat.le_trans hS.1 (by rw [e1]; exact hz), fun q h1 h2 => by rw [e1, hk q (Nat.lt_of_lt_of_le h1 hS.1) h2]; exact hS.2.1 q h1 h2, fun q hq => by
      rcases List.mem_append.mp hq with h | h
      · exact hS.2.2 q h
      · exact hL q h⟩ T' rfl X'
  exact ⟨t2, st t2 a1, b1⟩
theorem am_restL {r : Option Value} : (r.map (am_cv V)).toList ++ st.map (am_cv V) = (r.toList ++ st).map (am_cv V) := by cases r <;> rfl
theorem am_restC (hw : (st.map fun v => v.category).sum ≤ 8) : ((st.map (am_cv V)).map fun v => v.category).sum ≤ 8 := by
  rw [List.map_map, show ((fun v : Value => v.category) ∘ am_cv V) = (fun v => v.category) from funext (am_cat V)]
  exact hw
theorem aw_callV {M' : am_M} {b ci idx kc' ks' : Nat} {q : vw_C} {fs : List Value} {host : String} {as stk : List Value} (hd : decode M.2.1 pc = .ok (.invokevirtual idx, 3)) (hl : Cond.methodLink M.1.cls idx M'.1 ∈ am_T) (ho : am_okV M') (hn : (parseMethodDescriptor M'.1.desc).map (fun d => d.parameters.length) = some as.length) (he : h[b]? = some (.inr (ci, fs))) (hq : am_cl[ci]? = some q) (hqc : q.1 = M'.1.cls) (hst : as.reverse ++ .ref b :: st = stk) (hw : (st.map fun v => v.category).sum ≤ 8) (kk : AM V M' d kc' ks' (.ref b :: as) h (fun r h' => AW V M (d + 1) kc ks (pc + 3) L (r.toList ++ st) h' R)) : AW V M (d + 1) (kc' + kc) (ks' + ks) pc L stk h R := by
  subst hst
  intro p e s m args below meth c C H locs ls cells slots mc ms hc hs hS hF hL
  have hts := C.2.2.2.2.2.1
  have hown := C.2.2.2.2.1
  have hK := C.2.2.2.2.2.2.2.1
  have hrm : (am_rm d kc' ks').frames + 1 ≤ (am_rm (d + 1) mc ms).frames ∧ 8 + (M'.2.2.1 + 11) + (am_rm d kc' ks').locals ≤ (am_rm (d + 1) mc ms).locals := ⟨Nat.le_refl _, by show 8 + (M'.2.2.1 + 11) + 40 * d ≤ 40 * (d + 1); have := ho.1.2.2.2.2.2; omega⟩
  refine am_call (R' := fun r h' => AW V M (d + 1) kc ks (pc + 3) L (r.toList ++ st) h' R) (va_runV (As := as.map (am_cv V)) (rest := st.map (am_cv V)) (b := am_ad V b) ⟨C.1, C.2.1, C.2.2.1, hown, hts⟩ kk ⟨callB_of as.length hts (am_ws_good ho.1) rfl rfl rfl (hts _ ho.1.2.1) (hts _ hl) ⟨ho.1.2.2.1, ho.1.2.2.2.1, hn⟩ hrm, hts _ ho.2.1, hts _ ho.2.2⟩ ⟨am_P.blind, by rw [← hqc]; exact va_recv hK (hS.one he) hq (q0 := 0) rfl, fun U hU hW => ⟨rfl, C.2.2.2.2.2.2.1.warm hW, va_K.moved hW.alike hK, by rw [hU]; exact hS⟩⟩ rfl (by rw [List.length_map]) hL.2.1 (by simp [am_cv]) (lv_room (am_restC hw)) hd ⟨by show cells + kc' ≤ mc; omega, by show slots + ks' ≤ ms; omega⟩) hF (fun r h' H1 locs1 hR hS1 hF1 => ?_)
  rw [am_restL]
  exact hR p e s m args below meth c C H1 locs1 ls (cells + kc') (slots + ks') mc ms (by omega) (by omega) hS1 hF1 hL
theorem aw_callS {M' : am_M} {b ci idx kc' ks' : Nat} {q : vw_C} {fs : List Value} {host : String} {as stk : List Value} (hd : decode M.2.1 pc = .ok (.invokestatic idx, 3)) (hl : Cond.methodLink M.1.cls idx M'.1 ∈ am_T) (ho : am_okS M') (hn : (parseMethodDescriptor M'.1.desc).map (fun d => d.parameters.length) = some as.length) (hst : as.reverse ++ st = stk) (hw : (st.map fun v => v.category).sum ≤ 8) (kk : AM V M' d kc' ks' as h (fun r h' => AW V M (d + 1) kc ks (pc + 3) L (r.toList ++ st) h' R)) : AW V M (d + 1) (kc' + kc) (ks' + ks) pc L stk h R := by
  subst hst
  intro p e s m args below meth c C H locs ls cells slots mc ms hc hs hS hF hL
  have hts := C.2.2.2.2.2.1
  have hown := C.2.2.2.2.1
  have hK := C.2.2.2.2.2.2.2.1
  have hrm : (am_rm d kc' ks').frames + 1 ≤ (am_rm (d + 1) mc ms).frames ∧ 8 + (M'.2.2.1 + 11) + (am_rm d kc' ks').locals ≤ (am_rm (d + 1) mc ms).locals := ⟨Nat.le_refl _, by show 8 + (M'.2.2.1 + 11) + 40 * d ≤ 40 * (d + 1); have := ho.1.2.2.2.2.2; omega⟩
  refine am_call (R' := fun r h' => AW V M (d + 1) kc ks (pc + 3) L (r.toList ++ st) h' R) (va_runS (As := as.map (am_cv V)) (rest := st.map (am_cv V)) ⟨C.1, C.2.1, C.2.2.1, hown, hts⟩ kk ⟨callB_of as.length hts (am_ws_good ho.1) rfl rfl rfl (hts _ ho.1.2.1) (hts _ hl) ⟨ho.1.2.2.1, ho.1.2.2.2.1, hn⟩ hrm, hts _ ho.2⟩ ⟨am_P.blind, fun U hU hW => ⟨rfl, C.2.2.2.2.2.2.1.warm hW, va_K.moved hW.alike hK, by rw [hU]; exact hS⟩⟩ rfl (by rw [List.length_map]) hL.2.1 (by simp [am_cv]) (lv_room (am_restC hw)) hd ⟨by show cells + kc' ≤ mc; omega, by show slots + ks' ≤ ms; omega⟩) hF (fun r h' H1 locs1 hR hS1 hF1 => ?_)
  rw [am_restL]
  exact hR p e s m args below meth c C H1 locs1 ls (cells + kc') (slots + ks') mc ms (by omega) (by omega) hS1 hF1 hL
theorem aw_callSN {M' : am_M} {b ci idx kc' ks' : Nat} {q : vw_C} {fs : List Value} {host : String} {as stk : List Value} (hd : decode M.2.1 pc = .ok (.invokestatic idx, 3)) (hl : Cond.methodLinkNest M.1.cls idx M'.1 host ∈ am_nest) (ho : am_okS M') (hn : (parseMethodDescriptor M'.1.desc).map (fun d => d.parameters.length) = some as.length) (hst : as.reverse ++ st = stk) (hw : (st.map fun v => v.category).sum ≤ 8) (kk : AM V M' d kc' ks' as h (fun r h' => AW V M (d + 1) kc ks (pc + 3) L (r.toList ++ st) h' R)) : AW V M (d + 1) (kc' + kc) (ks' + ks) pc L stk h R := by
  subst hst
  intro p e s m args below meth c C H locs ls cells slots mc ms hc hs hS hF hL
  have hts := C.2.2.2.2.2.1
  have hown := C.2.2.2.2.1
  have hK := C.2.2.2.2.2.2.2.1
  have hrm : (am_rm d kc' ks').frames + 1 ≤ (am_rm (d + 1) mc ms).frames ∧ 8 + (M'.2.2.1 + 11) + (am_rm d kc' ks').locals ≤ (am_rm (d + 1) mc ms).locals := ⟨Nat.le_refl _, by show 8 + (M'.2.2.1 + 11) + 40 * d ≤ 40 * (d + 1); have := ho.1.2.2.2.2.2; omega⟩
  refine am_call (R' := fun r h' => AW V M (d + 1) kc ks (pc + 3) L (r.toList ++ st) h' R) (va_runSN (As := as.map (am_cv V)) (rest := st.map (am_cv V)) ⟨C.1, C.2.1, C.2.2.1, hown, hts⟩ kk ⟨va_cnB as.length hts (am_ws_good ho.1) rfl rfl rfl (C.2.2.2.2.2.2.1.1 _ hl) (hts _ ho.1.2.1) ⟨ho.1.2.2.1, ho.1.2.2.2.1, hn⟩ hrm, hts _ ho.2, trivial⟩ ⟨am_P.blind, fun U hU hW => ⟨rfl, C.2.2.2.2.2.2.1.warm hW, va_K.moved hW.alike hK, by rw [hU]; exact hS⟩⟩ rfl (by rw [List.length_map]) hL.2.1 (by simp [am_cv]) (lv_room (am_restC hw)) hd ⟨by show cells + kc' ≤ mc; omega, by show slots + ks' ≤ ms; omega⟩) hF (fun r h' H1 locs1 hR hS1 hF1 => ?_)
  rw [am_restL]
  exact hR p e s m args below meth c C H1 locs1 ls (cells + kc') (slots + ks') mc ms (by omega) (by omega) hS1 hF1 hL
theorem aw_callI {M' : am_M} {b ci idx kc' ks' : Nat} {q : vw_C} {fs : List Value} {host : String} {as stk : List Value} (hd : decode M.2.1 pc = .ok (.invokespecial idx, 3)) (hl : Cond.methodLink M.1.cls idx M'.1 ∈ am_T) (hrt : M'.2.2.2 = none) (ho : am_okI M') (hn : (parseMethodDescriptor M'.1.desc).map (fun d => d.parameters.length) = some as.length) (hst : as.reverse ++ .ref b :: st = stk) (hw : (st.map fun v => v.category).sum ≤ 8) (kk : AM V M' d kc' ks' (.ref b :: as) h (fun r h' => AW V M (d + 1) kc ks (pc + 3) L (r.toList ++ st) h' R)) : AW V M (d + 1) (kc' + kc) (ks' + ks) pc L stk h R := by
  subst hst
  intro p e s m args below meth c C H locs ls cells slots mc ms hc hs hS hF hL
  have hts := C.2.2.2.2.2.1
  have hown := C.2.2.2.2.1
  have hK := C.2.2.2.2.2.2.2.1
  have hrm : (am_rm d kc' ks').frames + 1 ≤ (am_rm (d + 1) mc ms).frames ∧ 8 + (M'.2.2.1 + 11) + (am_rm d kc' ks').locals ≤ (am_rm (d + 1) mc ms).locals := ⟨Nat.le_refl _, by show 8 + (M'.2.2.1 + 11) + 40 * d ≤ 40 * (d + 1); have := ho.1.2.2.2.2.2; omega⟩
  refine am_call (R' := fun r h' => AW V M (d + 1) kc ks (pc + 3) L (r.toList ++ st) h' R) (va_runI (As := as.map (am_cv V)) (rest := st.map (am_cv V)) (b := am_ad V b) ⟨C.1, C.2.1, C.2.2.1, hown, hts⟩ kk ⟨callB_of as.length hts (am_ws_good ho.1) (show am_ws M' = Cond.code M'.1 M'.2.1 M'.2.2.1 none :: am_T by rw [am_ws, hrt]) rfl rfl (hts _ ho.1.2.1) (hts _ hl) ⟨ho.1.2.2.1, ho.1.2.2.2.1, hn⟩ hrm, ho.2.2, hts _ ho.2.1⟩ ⟨am_P.blind, fun U hU hW => ⟨rfl, C.2.2.2.2.2.2.1.warm hW, va_K.moved hW.alike hK, by rw [hU]; exact hS⟩⟩ rfl (by rw [List.length_map]) hL.2.1 (by simp [am_cv]) (lv_room (am_restC hw)) hd ⟨by show cells + kc' ≤ mc; omega, by show slots + ks' ≤ ms; omega⟩) hF (fun r h' H1 locs1 hR hS1 hF1 => ?_)
  rw [am_restL]
  exact hR p e s m args below meth c C H1 locs1 ls (cells + kc') (slots + ks') mc ms (by omega) (by omega) hS1 hF1 hL
theorem aw_callIN {M' : am_M} {b ci idx kc' ks' : Nat} {q : vw_C} {fs : List Value} {host : String} {as stk : List Value} (hd : decode M.2.1 pc = .ok (.invokespecial idx, 3)) (hl : Cond.methodLinkNest M.1.cls idx M'.1 host ∈ am_nest) (hrt : M'.2.2.2 = none) (ho : am_okI M') (hn : (parseMethodDescriptor M'.1.desc).map (fun d => d.parameters.length) = some as.length) (hst : as.reverse ++ .ref b :: st = stk) (hw : (st.map fun v => v.category).sum ≤ 8) (kk : AM V M' d kc' ks' (.ref b :: as) h (fun r h' => AW V M (d + 1) kc ks (pc + 3) L (r.toList ++ st) h' R)) : AW V M (d + 1) (kc' + kc) (ks' + ks) pc L stk h R := by
  subst hst
  intro p e s m args below meth c C H locs ls cells slots mc ms hc hs hS hF hL
  have hts := C.2.2.2.2.2.1
  have hown := C.2.2.2.2.1
  have hK := C.2.2.2.2.2.2.2.1
  have hrm : (am_rm d kc' ks').frames + 1 ≤ (am_rm (d + 1) mc ms).frames ∧ 8 + (M'.2.2.1 + 11) + (am_rm d kc' ks').locals ≤ (am_rm (d + 1) mc ms).locals := ⟨Nat.le_refl _, by show 8 + (M'.2.2.1 + 11) + 40 * d ≤ 40 * (d + 1); have := ho.1.2.2.2.2.2; omega⟩
  refine am_call (R' := fun r h' => AW V M (d + 1) kc ks (pc + 3) L (r.toList ++ st) h' R) (va_runIN (As := as.map (am_cv V)) (rest := st.map (am_cv V)) (b := am_ad V b) ⟨C.1, C.2.1, C.2.2.1, hown, hts⟩ kk ⟨va_cnB as.length hts (am_ws_good ho.1) (show am_ws M' = Cond.code M'.1 M'.2.1 M'.2.2.1 none :: am_T by rw [am_ws, hrt]) rfl rfl (C.2.2.2.2.2.2.1.1 _ hl) (hts _ ho.1.2.1) ⟨ho.1.2.2.1, ho.1.2.2.2.1, hn⟩ hrm, ho.2.2, hts _ ho.2.1⟩ ⟨am_P.blind, fun U hU hW => ⟨rfl, C.2.2.2.2.2.2.1.warm hW, va_K.moved hW.alike hK, by rw [hU]; exact hS⟩⟩ rfl (by rw [List.length_map]) hL.2.1 (by simp [am_cv]) (lv_room (am_restC hw)) hd ⟨by show cells + kc' ≤ mc; omega, by show slots + ks' ≤ ms; omega⟩) hF (fun r h' H1 locs1 hR hS1 hF1 => ?_)
  rw [am_restL]
  exact hR p e s m args below meth c C H1 locs1 ls (cells + kc') (slots + ks') mc ms (by omega) (by omega) hS1 hF1 hL
end AMF
end
section
theorem dX0_init_0 : decode cX0_init 0 = .ok (.aload_n 0, 1) := by decide +kernel
theorem dX0_init_1 : decode cX0_init 1 = .ok (.invokespecial 3, 3) := by decide +kernel
theorem dX0_init_4 : decode cX0_init 4 = .ok (.aload_n 0, 1) := by decide +kernel
theorem dX0_init_5 : decode cX0_init 5 = .ok (.iconst 4, 1) := by decide +kernel
theorem dX0_init_6 : decode cX0_init 6 = .ok (.anewarray 9, 3) := by decide +kernel
theorem dX0_init_9 : decode cX0_init 9 = .ok (.putfield 11, 3) := by decide +kernel
theorem dX0_init_12 : decode cX0_init 12 = .ok (.iconst 0, 1) := by decide +kernel
theorem dX0_init_13 : decode cX0_init 13 = .ok (.istore_n 1, 1) := by decide +kernel
theorem dX0_init_14 : decode cX0_init 14 = .ok (.iload_n 1, 1) := by decide +kernel
theorem dX0_init_15 : decode cX0_init 15 = .ok (.iconst 4, 1) := by decide +kernel
theorem dX0_init_16 : decode cX0_init 16 = .ok (.if_icmp .ge 22, 3) := by decide +kernel
theorem dX0_init_19 : decode cX0_init 19 = .ok (.aload_n 0, 1) := by decide +kernel
theorem dX0_init_20 : decode cX0_init 20 = .ok (.getfield 11, 3) := by decide +kernel
theorem dX0_init_23 : decode cX0_init 23 = .ok (.iload_n 1, 1) := by decide +kernel
theorem dX0_init_24 : decode cX0_init 24 = .ok (.new 9, 3) := by decide +kernel
theorem dX0_init_27 : decode cX0_init 27 = .ok (.dup, 1) := by decide +kernel
theorem dX0_init_28 : decode cX0_init 28 = .ok (.invokespecial 17, 3) := by decide +kernel
theorem dX0_init_31 : decode cX0_init 31 = .ok (.aastore, 1) := by decide +kernel
theorem dX0_init_32 : decode cX0_init 32 = .ok (.iinc 1 1, 3) := by decide +kernel
theorem dX0_init_35 : decode cX0_init 35 = .ok (.goto (-21), 3) := by decide +kernel
theorem dX0_init_38 : decode cX0_init 38 = .ok (.aload_n 0, 1) := by decide +kernel
theorem dX0_init_39 : decode cX0_init 39 = .ok (.bipush 8, 2) := by decide +kernel
theorem dX0_init_41 : decode cX0_init 41 = .ok (.newarray .int, 2) := by decide +kernel
theorem dX0_init_43 : decode cX0_init 43 = .ok (.putfield 18, 3) := by decide +kernel
theorem dX0_init_46 : decode cX0_init 46 = .ok (.aload_n 0, 1) := by decide +kernel
theorem dX0_init_47 : decode cX0_init 47 = .ok (.bipush 8, 2) := by decide +kernel
theorem dX0_init_49 : decode cX0_init 49 = .ok (.newarray .int, 2) := by decide +kernel
theorem dX0_init_51 : decode cX0_init 51 = .ok (.putfield 22, 3) := by decide +kernel
theorem dX0_init_54 : decode cX0_init 54 = .ok (.aload_n 0, 1) := by decide +kernel
theorem dX0_init_55 : decode cX0_init 55 = .ok (.bipush 8, 2) := by decide +kernel
theorem dX0_init_57 : decode cX0_init 57 = .ok (.newarray .int, 2) := by decide +kernel
theorem dX0_init_59 : decode cX0_init 59 = .ok (.putfield 25, 3) := by decide +kernel
theorem dX0_init_62 : decode cX0_init 62 = .ok (.aload_n 0, 1) := by decide +kernel
theorem dX0_init_63 : decode cX0_init 63 = .ok (.bipush 6, 2) := by decide +kernel
theorem dX0_init_65 : decode cX0_init 65 = .ok (.newarray .int, 2) := by decide +kernel
theorem dX0_init_67 : decode cX0_init 67 = .ok (.putfield 28, 3) := by decide +kernel
theorem dX0_init_70 : decode cX0_init 70 = .ok (.aload_n 0, 1) := by decide +kernel
theorem dX0_init_71 : decode cX0_init 71 = .ok (.bipush 6, 2) := by decide +kernel
theorem dX0_init_73 : decode cX0_init 73 = .ok (.newarray .int, 2) := by decide +kernel
theorem dX0_init_75 : decode cX0_init 75 = .ok (.putfield 31, 3) := by decide +kernel
theorem dX0_init_78 : decode cX0_init 78 = .ok (.aload_n 0, 1) := by decide +kernel
theorem dX0_init_79 : decode cX0_init 79 = .ok (.bipush 6, 2) := by decide +kernel
theorem dX0_init_81 : decode cX0_init 81 = .ok (.newarray .int, 2) := by decide +kernel
theorem dX0_init_83 : decode cX0_init 83 = .ok (.putfield 34, 3) := by decide +kernel
theorem dX0_init_86 : decode cX0_init 86 = .ok (.aload_n 0, 1) := by decide +kernel
theorem dX0_init_87 : decode cX0_init 87 = .ok (.iconst 1, 1) := by decide +kernel
theorem dX0_init_88 : decode cX0_init 88 = .ok (.putfield 37, 3) := by decide +kernel
theorem dX0_init_91 : decode cX0_init 91 = .ok (.return_, 1) := by decide +kernel
theorem dX0_clear_0 : decode cX0_clear 0 = .ok (.aload_n 0, 1) := by decide +kernel
theorem dX0_clear_1 : decode cX0_clear 1 = .ok (.iconst 0, 1) := by decide +kernel
theorem dX0_clear_2 : decode cX0_clear 2 = .ok (.putfield 41, 3) := by decide +kernel
theorem dX0_clear_5 : decode cX0_clear 5 = .ok (.aload_n 0, 1) := by decide +kernel
theorem dX0_clear_6 : decode cX0_clear 6 = .ok (.iconst 0, 1) := by decide +kernel
theorem dX0_clear_7 : decode cX0_clear 7 = .ok (.putfield 44, 3) := by decide +kernel
theorem dX0_clear_10 : decode cX0_clear 10 = .ok (.aload_n 0, 1) := by decide +kernel
theorem dX0_clear_11 : decode cX0_clear 11 = .ok (.iconst 1, 1) := by decide +kernel
theorem dX0_clear_12 : decode cX0_clear 12 = .ok (.putfield 37, 3) := by decide +kernel
theorem dX0_clear_15 : decode cX0_clear 15 = .ok (.aload_n 0, 1) := by decide +kernel
theorem dX0_clear_16 : decode cX0_clear 16 = .ok (.iconst 0, 1) := by decide +kernel
theorem dX0_clear_17 : decode cX0_clear 17 = .ok (.putfield 47, 3) := by decide +kernel
theorem dX0_clear_20 : decode cX0_clear 20 = .ok (.aload_n 0, 1) := by decide +kernel
theorem dX0_clear_21 : decode cX0_clear 21 = .ok (.iconst 0, 1) := by decide +kernel
theorem dX0_clear_22 : decode cX0_clear 22 = .ok (.putfield 50, 3) := by decide +kernel
theorem dX0_clear_25 : decode cX0_clear 25 = .ok (.return_, 1) := by decide +kernel
theorem dX0_copyFrom_0 : decode cX0_copyFrom 0 = .ok (.aload_n 0, 1) := by decide +kernel
theorem dX0_copyFrom_1 : decode cX0_copyFrom 1 = .ok (.aload_n 1, 1) := by decide +kernel
theorem dX0_copyFrom_2 : decode cX0_copyFrom 2 = .ok (.invokevirtual 53, 3) := by decide +kernel
theorem dX0_copyFrom_5 : decode cX0_copyFrom 5 = .ok (.iconst 0, 1) := by decide +kernel
theorem dX0_copyFrom_6 : decode cX0_copyFrom 6 = .ok (.istore_n 2, 1) := by decide +kernel
theorem dX0_copyFrom_7 : decode cX0_copyFrom 7 = .ok (.iload_n 2, 1) := by decide +kernel
theorem dX0_copyFrom_8 : decode cX0_copyFrom 8 = .ok (.bipush 8, 2) := by decide +kernel
theorem dX0_copyFrom_10 : decode cX0_copyFrom 10 = .ok (.if_icmp .ge 45, 3) := by decide +kernel
theorem dX0_copyFrom_13 : decode cX0_copyFrom 13 = .ok (.aload_n 0, 1) := by decide +kernel
theorem dX0_copyFrom_14 : decode cX0_copyFrom 14 = .ok (.getfield 18, 3) := by decide +kernel
theorem dX0_copyFrom_17 : decode cX0_copyFrom 17 = .ok (.iload_n 2, 1) := by decide +kernel
theorem dX0_copyFrom_18 : decode cX0_copyFrom 18 = .ok (.aload_n 1, 1) := by decide +kernel
theorem dX0_copyFrom_19 : decode cX0_copyFrom 19 = .ok (.getfield 18, 3) := by decide +kernel
theorem dX0_copyFrom_22 : decode cX0_copyFrom 22 = .ok (.iload_n 2, 1) := by decide +kernel
theorem dX0_copyFrom_23 : decode cX0_copyFrom 23 = .ok (.iaload, 1) := by decide +kernel
theorem dX0_copyFrom_24 : decode cX0_copyFrom 24 = .ok (.iastore, 1) := by decide +kernel
theorem dX0_copyFrom_25 : decode cX0_copyFrom 25 = .ok (.aload_n 0, 1) := by decide +kernel
theorem dX0_copyFrom_26 : decode cX0_copyFrom 26 = .ok (.getfield 22, 3) := by decide +kernel
theorem dX0_copyFrom_29 : decode cX0_copyFrom 29 = .ok (.iload_n 2, 1) := by decide +kernel
theorem dX0_copyFrom_30 : decode cX0_copyFrom 30 = .ok (.aload_n 1, 1) := by decide +kernel
theorem dX0_copyFrom_31 : decode cX0_copyFrom 31 = .ok (.getfield 22, 3) := by decide +kernel
theorem dX0_copyFrom_34 : decode cX0_copyFrom 34 = .ok (.iload_n 2, 1) := by decide +kernel
theorem dX0_copyFrom_35 : decode cX0_copyFrom 35 = .ok (.iaload, 1) := by decide +kernel
theorem dX0_copyFrom_36 : decode cX0_copyFrom 36 = .ok (.iastore, 1) := by decide +kernel
theorem dX0_copyFrom_37 : decode cX0_copyFrom 37 = .ok (.aload_n 0, 1) := by decide +kernel
theorem dX0_copyFrom_38 : decode cX0_copyFrom 38 = .ok (.getfield 25, 3) := by decide +kernel
theorem dX0_copyFrom_41 : decode cX0_copyFrom 41 = .ok (.iload_n 2, 1) := by decide +kernel
theorem dX0_copyFrom_42 : decode cX0_copyFrom 42 = .ok (.aload_n 1, 1) := by decide +kernel
theorem dX0_copyFrom_43 : decode cX0_copyFrom 43 = .ok (.getfield 25, 3) := by decide +kernel
theorem dX0_copyFrom_46 : decode cX0_copyFrom 46 = .ok (.iload_n 2, 1) := by decide +kernel
theorem dX0_copyFrom_47 : decode cX0_copyFrom 47 = .ok (.iaload, 1) := by decide +kernel
theorem dX0_copyFrom_48 : decode cX0_copyFrom 48 = .ok (.iastore, 1) := by decide +kernel
theorem dX0_copyFrom_49 : decode cX0_copyFrom 49 = .ok (.iinc 2 1, 3) := by decide +kernel
theorem dX0_copyFrom_52 : decode cX0_copyFrom 52 = .ok (.goto (-45), 3) := by decide +kernel
theorem dX0_copyFrom_55 : decode cX0_copyFrom 55 = .ok (.aload_n 0, 1) := by decide +kernel
theorem dX0_copyFrom_56 : decode cX0_copyFrom 56 = .ok (.aload_n 1, 1) := by decide +kernel
theorem dX0_copyFrom_57 : decode cX0_copyFrom 57 = .ok (.getfield 44, 3) := by decide +kernel
theorem dX0_copyFrom_60 : decode cX0_copyFrom 60 = .ok (.putfield 44, 3) := by decide +kernel
theorem dX0_copyFrom_63 : decode cX0_copyFrom 63 = .ok (.iconst 0, 1) := by decide +kernel
theorem dX0_copyFrom_64 : decode cX0_copyFrom 64 = .ok (.istore_n 2, 1) := by decide +kernel
theorem dX0_copyFrom_65 : decode cX0_copyFrom 65 = .ok (.iload_n 2, 1) := by decide +kernel
theorem dX0_copyFrom_66 : decode cX0_copyFrom 66 = .ok (.bipush 6, 2) := by decide +kernel
theorem dX0_copyFrom_68 : decode cX0_copyFrom 68 = .ok (.if_icmp .ge 45, 3) := by decide +kernel
theorem dX0_copyFrom_71 : decode cX0_copyFrom 71 = .ok (.aload_n 0, 1) := by decide +kernel
theorem dX0_copyFrom_72 : decode cX0_copyFrom 72 = .ok (.getfield 28, 3) := by decide +kernel
theorem dX0_copyFrom_75 : decode cX0_copyFrom 75 = .ok (.iload_n 2, 1) := by decide +kernel
theorem dX0_copyFrom_76 : decode cX0_copyFrom 76 = .ok (.aload_n 1, 1) := by decide +kernel
theorem dX0_copyFrom_77 : decode cX0_copyFrom 77 = .ok (.getfield 28, 3) := by decide +kernel
theorem dX0_copyFrom_80 : decode cX0_copyFrom 80 = .ok (.iload_n 2, 1) := by decide +kernel
theorem dX0_copyFrom_81 : decode cX0_copyFrom 81 = .ok (.iaload, 1) := by decide +kernel
theorem dX0_copyFrom_82 : decode cX0_copyFrom 82 = .ok (.iastore, 1) := by decide +kernel
theorem dX0_copyFrom_83 : decode cX0_copyFrom 83 = .ok (.aload_n 0, 1) := by decide +kernel
theorem dX0_copyFrom_84 : decode cX0_copyFrom 84 = .ok (.getfield 31, 3) := by decide +kernel
theorem dX0_copyFrom_87 : decode cX0_copyFrom 87 = .ok (.iload_n 2, 1) := by decide +kernel
theorem dX0_copyFrom_88 : decode cX0_copyFrom 88 = .ok (.aload_n 1, 1) := by decide +kernel
theorem dX0_copyFrom_89 : decode cX0_copyFrom 89 = .ok (.getfield 31, 3) := by decide +kernel
theorem dX0_copyFrom_92 : decode cX0_copyFrom 92 = .ok (.iload_n 2, 1) := by decide +kernel
theorem dX0_copyFrom_93 : decode cX0_copyFrom 93 = .ok (.iaload, 1) := by decide +kernel
theorem dX0_copyFrom_94 : decode cX0_copyFrom 94 = .ok (.iastore, 1) := by decide +kernel
theorem dX0_copyFrom_95 : decode cX0_copyFrom 95 = .ok (.aload_n 0, 1) := by decide +kernel
theorem dX0_copyFrom_96 : decode cX0_copyFrom 96 = .ok (.getfield 34, 3) := by decide +kernel
theorem dX0_copyFrom_99 : decode cX0_copyFrom 99 = .ok (.iload_n 2, 1) := by decide +kernel
theorem dX0_copyFrom_100 : decode cX0_copyFrom 100 = .ok (.aload_n 1, 1) := by decide +kernel
theorem dX0_copyFrom_101 : decode cX0_copyFrom 101 = .ok (.getfield 34, 3) := by decide +kernel
theorem dX0_copyFrom_104 : decode cX0_copyFrom 104 = .ok (.iload_n 2, 1) := by decide +kernel
theorem dX0_copyFrom_105 : decode cX0_copyFrom 105 = .ok (.iaload, 1) := by decide +kernel
theorem dX0_copyFrom_106 : decode cX0_copyFrom 106 = .ok (.iastore, 1) := by decide +kernel
theorem dX0_copyFrom_107 : decode cX0_copyFrom 107 = .ok (.iinc 2 1, 3) := by decide +kernel
theorem dX0_copyFrom_110 : decode cX0_copyFrom 110 = .ok (.goto (-45), 3) := by decide +kernel
theorem dX0_copyFrom_113 : decode cX0_copyFrom 113 = .ok (.aload_n 0, 1) := by decide +kernel
theorem dX0_copyFrom_114 : decode cX0_copyFrom 114 = .ok (.aload_n 1, 1) := by decide +kernel
theorem dX0_copyFrom_115 : decode cX0_copyFrom 115 = .ok (.getfield 50, 3) := by decide +kernel
theorem dX0_copyFrom_118 : decode cX0_copyFrom 118 = .ok (.putfield 50, 3) := by decide +kernel
theorem dX0_copyFrom_121 : decode cX0_copyFrom 121 = .ok (.return_, 1) := by decide +kernel
theorem dX0_copySievesFrom_0 : decode cX0_copySievesFrom 0 = .ok (.iconst 0, 1) := by decide +kernel
theorem dX0_copySievesFrom_1 : decode cX0_copySievesFrom 1 = .ok (.istore_n 2, 1) := by decide +kernel
theorem dX0_copySievesFrom_2 : decode cX0_copySievesFrom 2 = .ok (.iload_n 2, 1) := by decide +kernel
theorem dX0_copySievesFrom_3 : decode cX0_copySievesFrom 3 = .ok (.iconst 4, 1) := by decide +kernel
theorem dX0_copySievesFrom_4 : decode cX0_copySievesFrom 4 = .ok (.if_icmp .ge 24, 3) := by decide +kernel
theorem dX0_copySievesFrom_7 : decode cX0_copySievesFrom 7 = .ok (.aload_n 0, 1) := by decide +kernel
theorem dX0_copySievesFrom_8 : decode cX0_copySievesFrom 8 = .ok (.getfield 11, 3) := by decide +kernel
theorem dX0_copySievesFrom_11 : decode cX0_copySievesFrom 11 = .ok (.iload_n 2, 1) := by decide +kernel
theorem dX0_copySievesFrom_12 : decode cX0_copySievesFrom 12 = .ok (.aaload, 1) := by decide +kernel
theorem dX0_copySievesFrom_13 : decode cX0_copySievesFrom 13 = .ok (.aload_n 1, 1) := by decide +kernel
theorem dX0_copySievesFrom_14 : decode cX0_copySievesFrom 14 = .ok (.getfield 11, 3) := by decide +kernel
theorem dX0_copySievesFrom_17 : decode cX0_copySievesFrom 17 = .ok (.iload_n 2, 1) := by decide +kernel
theorem dX0_copySievesFrom_18 : decode cX0_copySievesFrom 18 = .ok (.aaload, 1) := by decide +kernel
theorem dX0_copySievesFrom_19 : decode cX0_copySievesFrom 19 = .ok (.invokevirtual 57, 3) := by decide +kernel
theorem dX0_copySievesFrom_22 : decode cX0_copySievesFrom 22 = .ok (.iinc 2 1, 3) := by decide +kernel
theorem dX0_copySievesFrom_25 : decode cX0_copySievesFrom 25 = .ok (.goto (-23), 3) := by decide +kernel
theorem dX0_copySievesFrom_28 : decode cX0_copySievesFrom 28 = .ok (.aload_n 0, 1) := by decide +kernel
theorem dX0_copySievesFrom_29 : decode cX0_copySievesFrom 29 = .ok (.aload_n 1, 1) := by decide +kernel
theorem dX0_copySievesFrom_30 : decode cX0_copySievesFrom 30 = .ok (.getfield 41, 3) := by decide +kernel
theorem dX0_copySievesFrom_33 : decode cX0_copySievesFrom 33 = .ok (.putfield 41, 3) := by decide +kernel
theorem dX0_copySievesFrom_36 : decode cX0_copySievesFrom 36 = .ok (.aload_n 0, 1) := by decide +kernel
theorem dX0_copySievesFrom_37 : decode cX0_copySievesFrom 37 = .ok (.aload_n 1, 1) := by decide +kernel
theorem dX0_copySievesFrom_38 : decode cX0_copySievesFrom 38 = .ok (.getfield 37, 3) := by decide +kernel
theorem dX0_copySievesFrom_41 : decode cX0_copySievesFrom 41 = .ok (.putfield 37, 3) := by decide +kernel
theorem dX0_copySievesFrom_44 : decode cX0_copySievesFrom 44 = .ok (.aload_n 0, 1) := by decide +kernel
theorem dX0_copySievesFrom_45 : decode cX0_copySievesFrom 45 = .ok (.aload_n 1, 1) := by decide +kernel
theorem dX0_copySievesFrom_46 : decode cX0_copySievesFrom 46 = .ok (.getfield 47, 3) := by decide +kernel
theorem dX0_copySievesFrom_49 : decode cX0_copySievesFrom 49 = .ok (.putfield 47, 3) := by decide +kernel
theorem dX0_copySievesFrom_52 : decode cX0_copySievesFrom 52 = .ok (.return_, 1) := by decide +kernel
theorem dX0_hasKey_0 : decode cX0_hasKey 0 = .ok (.iload_n 1, 1) := by decide +kernel
theorem dX0_hasKey_1 : decode cX0_hasKey 1 = .ok (.iconst 0, 1) := by decide +kernel
theorem dX0_hasKey_2 : decode cX0_hasKey 2 = .ok (.aload_n 0, 1) := by decide +kernel
theorem dX0_hasKey_3 : decode cX0_hasKey 3 = .ok (.getfield 41, 3) := by decide +kernel
theorem dX0_hasKey_6 : decode cX0_hasKey 6 = .ok (.iconst 1, 1) := by decide +kernel
theorem dX0_hasKey_7 : decode cX0_hasKey 7 = .ok (.isub, 1) := by decide +kernel
theorem dX0_hasKey_8 : decode cX0_hasKey 8 = .ok (.invokestatic 61, 3) := by decide +kernel
theorem dX0_hasKey_11 : decode cX0_hasKey 11 = .ok (.ireturn, 1) := by decide +kernel
theorem dX0_addKey_0 : decode cX0_addKey 0 = .ok (.aload_n 0, 1) := by decide +kernel
theorem dX0_addKey_1 : decode cX0_addKey 1 = .ok (.getfield 41, 3) := by decide +kernel
theorem dX0_addKey_4 : decode cX0_addKey 4 = .ok (.iconst 4, 1) := by decide +kernel
theorem dX0_addKey_5 : decode cX0_addKey 5 = .ok (.if_icmp .ge 28, 3) := by decide +kernel
theorem dX0_addKey_8 : decode cX0_addKey 8 = .ok (.aload_n 0, 1) := by decide +kernel
theorem dX0_addKey_9 : decode cX0_addKey 9 = .ok (.getfield 11, 3) := by decide +kernel
theorem dX0_addKey_12 : decode cX0_addKey 12 = .ok (.aload_n 0, 1) := by decide +kernel
theorem dX0_addKey_13 : decode cX0_addKey 13 = .ok (.getfield 41, 3) := by decide +kernel
theorem dX0_addKey_16 : decode cX0_addKey 16 = .ok (.aaload, 1) := by decide +kernel
theorem dX0_addKey_17 : decode cX0_addKey 17 = .ok (.iload_n 1, 1) := by decide +kernel
theorem dX0_addKey_18 : decode cX0_addKey 18 = .ok (.iload_n 2, 1) := by decide +kernel
theorem dX0_addKey_19 : decode cX0_addKey 19 = .ok (.iload_n 3, 1) := by decide +kernel
theorem dX0_addKey_20 : decode cX0_addKey 20 = .ok (.invokevirtual 65, 3) := by decide +kernel
theorem dX0_addKey_23 : decode cX0_addKey 23 = .ok (.aload_n 0, 1) := by decide +kernel
theorem dX0_addKey_24 : decode cX0_addKey 24 = .ok (.dup, 1) := by decide +kernel
theorem dX0_addKey_25 : decode cX0_addKey 25 = .ok (.getfield 41, 3) := by decide +kernel
theorem dX0_addKey_28 : decode cX0_addKey 28 = .ok (.iconst 1, 1) := by decide +kernel
theorem dX0_addKey_29 : decode cX0_addKey 29 = .ok (.iadd, 1) := by decide +kernel
theorem dX0_addKey_30 : decode cX0_addKey 30 = .ok (.putfield 41, 3) := by decide +kernel
theorem dX0_addKey_33 : decode cX0_addKey 33 = .ok (.return_, 1) := by decide +kernel
theorem dX0_addPress_0 : decode cX0_addPress 0 = .ok (.aload_n 0, 1) := by decide +kernel
theorem dX0_addPress_1 : decode cX0_addPress 1 = .ok (.getfield 44, 3) := by decide +kernel
theorem dX0_addPress_4 : decode cX0_addPress 4 = .ok (.bipush 8, 2) := by decide +kernel
theorem dX0_addPress_6 : decode cX0_addPress 6 = .ok (.if_icmp .ge 43, 3) := by decide +kernel
theorem dX0_addPress_9 : decode cX0_addPress 9 = .ok (.aload_n 0, 1) := by decide +kernel
theorem dX0_addPress_10 : decode cX0_addPress 10 = .ok (.getfield 18, 3) := by decide +kernel
theorem dX0_addPress_13 : decode cX0_addPress 13 = .ok (.aload_n 0, 1) := by decide +kernel
theorem dX0_addPress_14 : decode cX0_addPress 14 = .ok (.getfield 44, 3) := by decide +kernel
theorem dX0_addPress_17 : decode cX0_addPress 17 = .ok (.iload_n 1, 1) := by decide +kernel
theorem dX0_addPress_18 : decode cX0_addPress 18 = .ok (.iastore, 1) := by decide +kernel
theorem dX0_addPress_19 : decode cX0_addPress 19 = .ok (.aload_n 0, 1) := by decide +kernel
theorem dX0_addPress_20 : decode cX0_addPress 20 = .ok (.getfield 22, 3) := by decide +kernel
theorem dX0_addPress_23 : decode cX0_addPress 23 = .ok (.aload_n 0, 1) := by decide +kernel
theorem dX0_addPress_24 : decode cX0_addPress 24 = .ok (.getfield 44, 3) := by decide +kernel
theorem dX0_addPress_27 : decode cX0_addPress 27 = .ok (.iload_n 2, 1) := by decide +kernel
theorem dX0_addPress_28 : decode cX0_addPress 28 = .ok (.iastore, 1) := by decide +kernel
theorem dX0_addPress_29 : decode cX0_addPress 29 = .ok (.aload_n 0, 1) := by decide +kernel
theorem dX0_addPress_30 : decode cX0_addPress 30 = .ok (.getfield 25, 3) := by decide +kernel
theorem dX0_addPress_33 : decode cX0_addPress 33 = .ok (.aload_n 0, 1) := by decide +kernel
theorem dX0_addPress_34 : decode cX0_addPress 34 = .ok (.getfield 44, 3) := by decide +kernel
theorem dX0_addPress_37 : decode cX0_addPress 37 = .ok (.iload_n 3, 1) := by decide +kernel
theorem dX0_addPress_38 : decode cX0_addPress 38 = .ok (.iastore, 1) := by decide +kernel
theorem dX0_addPress_39 : decode cX0_addPress 39 = .ok (.aload_n 0, 1) := by decide +kernel
theorem dX0_addPress_40 : decode cX0_addPress 40 = .ok (.dup, 1) := by decide +kernel
theorem dX0_addPress_41 : decode cX0_addPress 41 = .ok (.getfield 44, 3) := by decide +kernel
theorem dX0_addPress_44 : decode cX0_addPress 44 = .ok (.iconst 1, 1) := by decide +kernel
theorem dX0_addPress_45 : decode cX0_addPress 45 = .ok (.iadd, 1) := by decide +kernel
theorem dX0_addPress_46 : decode cX0_addPress 46 = .ok (.putfield 44, 3) := by decide +kernel
theorem dX0_addPress_49 : decode cX0_addPress 49 = .ok (.return_, 1) := by decide +kernel
theorem dX0_removePress_0 : decode cX0_removePress 0 = .ok (.iload_n 1, 1) := by decide +kernel
theorem dX0_removePress_1 : decode cX0_removePress 1 = .ok (.istore_n 2, 1) := by decide +kernel
theorem dX0_removePress_2 : decode cX0_removePress 2 = .ok (.iload_n 2, 1) := by decide +kernel
theorem dX0_removePress_3 : decode cX0_removePress 3 = .ok (.iconst 1, 1) := by decide +kernel
theorem dX0_removePress_4 : decode cX0_removePress 4 = .ok (.iadd, 1) := by decide +kernel
theorem dX0_removePress_5 : decode cX0_removePress 5 = .ok (.aload_n 0, 1) := by decide +kernel
theorem dX0_removePress_6 : decode cX0_removePress 6 = .ok (.getfield 44, 3) := by decide +kernel
theorem dX0_removePress_9 : decode cX0_removePress 9 = .ok (.if_icmp .ge 51, 3) := by decide +kernel
theorem dX0_removePress_12 : decode cX0_removePress 12 = .ok (.aload_n 0, 1) := by decide +kernel
theorem dX0_removePress_13 : decode cX0_removePress 13 = .ok (.getfield 18, 3) := by decide +kernel
theorem dX0_removePress_16 : decode cX0_removePress 16 = .ok (.iload_n 2, 1) := by decide +kernel
theorem dX0_removePress_17 : decode cX0_removePress 17 = .ok (.aload_n 0, 1) := by decide +kernel
theorem dX0_removePress_18 : decode cX0_removePress 18 = .ok (.getfield 18, 3) := by decide +kernel
theorem dX0_removePress_21 : decode cX0_removePress 21 = .ok (.iload_n 2, 1) := by decide +kernel
theorem dX0_removePress_22 : decode cX0_removePress 22 = .ok (.iconst 1, 1) := by decide +kernel
theorem dX0_removePress_23 : decode cX0_removePress 23 = .ok (.iadd, 1) := by decide +kernel
theorem dX0_removePress_24 : decode cX0_removePress 24 = .ok (.iaload, 1) := by decide +kernel
theorem dX0_removePress_25 : decode cX0_removePress 25 = .ok (.iastore, 1) := by decide +kernel
theorem dX0_removePress_26 : decode cX0_removePress 26 = .ok (.aload_n 0, 1) := by decide +kernel
theorem dX0_removePress_27 : decode cX0_removePress 27 = .ok (.getfield 22, 3) := by decide +kernel
theorem dX0_removePress_30 : decode cX0_removePress 30 = .ok (.iload_n 2, 1) := by decide +kernel
theorem dX0_removePress_31 : decode cX0_removePress 31 = .ok (.aload_n 0, 1) := by decide +kernel
theorem dX0_removePress_32 : decode cX0_removePress 32 = .ok (.getfield 22, 3) := by decide +kernel
theorem dX0_removePress_35 : decode cX0_removePress 35 = .ok (.iload_n 2, 1) := by decide +kernel
theorem dX0_removePress_36 : decode cX0_removePress 36 = .ok (.iconst 1, 1) := by decide +kernel
theorem dX0_removePress_37 : decode cX0_removePress 37 = .ok (.iadd, 1) := by decide +kernel
theorem dX0_removePress_38 : decode cX0_removePress 38 = .ok (.iaload, 1) := by decide +kernel
theorem dX0_removePress_39 : decode cX0_removePress 39 = .ok (.iastore, 1) := by decide +kernel
theorem dX0_removePress_40 : decode cX0_removePress 40 = .ok (.aload_n 0, 1) := by decide +kernel
theorem dX0_removePress_41 : decode cX0_removePress 41 = .ok (.getfield 25, 3) := by decide +kernel
theorem dX0_removePress_44 : decode cX0_removePress 44 = .ok (.iload_n 2, 1) := by decide +kernel
theorem dX0_removePress_45 : decode cX0_removePress 45 = .ok (.aload_n 0, 1) := by decide +kernel
theorem dX0_removePress_46 : decode cX0_removePress 46 = .ok (.getfield 25, 3) := by decide +kernel
theorem dX0_removePress_49 : decode cX0_removePress 49 = .ok (.iload_n 2, 1) := by decide +kernel
theorem dX0_removePress_50 : decode cX0_removePress 50 = .ok (.iconst 1, 1) := by decide +kernel
theorem dX0_removePress_51 : decode cX0_removePress 51 = .ok (.iadd, 1) := by decide +kernel
theorem dX0_removePress_52 : decode cX0_removePress 52 = .ok (.iaload, 1) := by decide +kernel
theorem dX0_removePress_53 : decode cX0_removePress 53 = .ok (.iastore, 1) := by decide +kernel
theorem dX0_removePress_54 : decode cX0_removePress 54 = .ok (.iinc 2 1, 3) := by decide +kernel
theorem dX0_removePress_57 : decode cX0_removePress 57 = .ok (.goto (-55), 3) := by decide +kernel
theorem dX0_removePress_60 : decode cX0_removePress 60 = .ok (.aload_n 0, 1) := by decide +kernel
theorem dX0_removePress_61 : decode cX0_removePress 61 = .ok (.dup, 1) := by decide +kernel
theorem dX0_removePress_62 : decode cX0_removePress 62 = .ok (.getfield 44, 3) := by decide +kernel
theorem dX0_removePress_65 : decode cX0_removePress 65 = .ok (.iconst 1, 1) := by decide +kernel
theorem dX0_removePress_66 : decode cX0_removePress 66 = .ok (.isub, 1) := by decide +kernel
theorem dX0_removePress_67 : decode cX0_removePress 67 = .ok (.putfield 44, 3) := by decide +kernel
theorem dX0_removePress_70 : decode cX0_removePress 70 = .ok (.return_, 1) := by decide +kernel
theorem dX0_addSeen_0 : decode cX0_addSeen 0 = .ok (.aload_n 0, 1) := by decide +kernel
theorem dX0_addSeen_1 : decode cX0_addSeen 1 = .ok (.getfield 50, 3) := by decide +kernel
theorem dX0_addSeen_4 : decode cX0_addSeen 4 = .ok (.bipush 6, 2) := by decide +kernel
theorem dX0_addSeen_6 : decode cX0_addSeen 6 = .ok (.if_icmp .ge 43, 3) := by decide +kernel
theorem dX0_addSeen_9 : decode cX0_addSeen 9 = .ok (.aload_n 0, 1) := by decide +kernel
theorem dX0_addSeen_10 : decode cX0_addSeen 10 = .ok (.getfield 28, 3) := by decide +kernel
theorem dX0_addSeen_13 : decode cX0_addSeen 13 = .ok (.aload_n 0, 1) := by decide +kernel
theorem dX0_addSeen_14 : decode cX0_addSeen 14 = .ok (.getfield 50, 3) := by decide +kernel
theorem dX0_addSeen_17 : decode cX0_addSeen 17 = .ok (.iload_n 1, 1) := by decide +kernel
theorem dX0_addSeen_18 : decode cX0_addSeen 18 = .ok (.iastore, 1) := by decide +kernel
theorem dX0_addSeen_19 : decode cX0_addSeen 19 = .ok (.aload_n 0, 1) := by decide +kernel
theorem dX0_addSeen_20 : decode cX0_addSeen 20 = .ok (.getfield 31, 3) := by decide +kernel
theorem dX0_addSeen_23 : decode cX0_addSeen 23 = .ok (.aload_n 0, 1) := by decide +kernel
theorem dX0_addSeen_24 : decode cX0_addSeen 24 = .ok (.getfield 50, 3) := by decide +kernel
theorem dX0_addSeen_27 : decode cX0_addSeen 27 = .ok (.iload_n 2, 1) := by decide +kernel
theorem dX0_addSeen_28 : decode cX0_addSeen 28 = .ok (.iastore, 1) := by decide +kernel
theorem dX0_addSeen_29 : decode cX0_addSeen 29 = .ok (.aload_n 0, 1) := by decide +kernel
theorem dX0_addSeen_30 : decode cX0_addSeen 30 = .ok (.getfield 34, 3) := by decide +kernel
theorem dX0_addSeen_33 : decode cX0_addSeen 33 = .ok (.aload_n 0, 1) := by decide +kernel
theorem dX0_addSeen_34 : decode cX0_addSeen 34 = .ok (.getfield 50, 3) := by decide +kernel
theorem dX0_addSeen_37 : decode cX0_addSeen 37 = .ok (.iload_n 3, 1) := by decide +kernel
theorem dX0_addSeen_38 : decode cX0_addSeen 38 = .ok (.iastore, 1) := by decide +kernel
theorem dX0_addSeen_39 : decode cX0_addSeen 39 = .ok (.aload_n 0, 1) := by decide +kernel
theorem dX0_addSeen_40 : decode cX0_addSeen 40 = .ok (.dup, 1) := by decide +kernel
theorem dX0_addSeen_41 : decode cX0_addSeen 41 = .ok (.getfield 50, 3) := by decide +kernel
theorem dX0_addSeen_44 : decode cX0_addSeen 44 = .ok (.iconst 1, 1) := by decide +kernel
theorem dX0_addSeen_45 : decode cX0_addSeen 45 = .ok (.iadd, 1) := by decide +kernel
theorem dX0_addSeen_46 : decode cX0_addSeen 46 = .ok (.putfield 50, 3) := by decide +kernel
theorem dX0_addSeen_49 : decode cX0_addSeen 49 = .ok (.return_, 1) := by decide +kernel
theorem dX0_contactAt_0 : decode cX0_contactAt 0 = .ok (.aload_n 0, 1) := by decide +kernel
theorem dX0_contactAt_1 : decode cX0_contactAt 1 = .ok (.iload_n 1, 1) := by decide +kernel
theorem dX0_contactAt_2 : decode cX0_contactAt 2 = .ok (.iload_n 2, 1) := by decide +kernel
theorem dX0_contactAt_3 : decode cX0_contactAt 3 = .ok (.invokevirtual 69, 3) := by decide +kernel
theorem dX0_contactAt_6 : decode cX0_contactAt 6 = .ok (.istore_n 3, 1) := by decide +kernel
theorem dX0_contactAt_7 : decode cX0_contactAt 7 = .ok (.iload_n 3, 1) := by decide +kernel
theorem dX0_contactAt_8 : decode cX0_contactAt 8 = .ok (.ifCond .ge 5, 3) := by decide +kernel
theorem dX0_contactAt_11 : decode cX0_contactAt 11 = .ok (.iconst 0, 1) := by decide +kernel
theorem dX0_contactAt_12 : decode cX0_contactAt 12 = .ok (.ireturn, 1) := by decide +kernel
theorem dX0_contactAt_13 : decode cX0_contactAt 13 = .ok (.iload_n 2, 1) := by decide +kernel
theorem dX0_contactAt_14 : decode cX0_contactAt 14 = .ok (.aload_n 0, 1) := by decide +kernel
theorem dX0_contactAt_15 : decode cX0_contactAt 15 = .ok (.getfield 18, 3) := by decide +kernel
theorem dX0_contactAt_18 : decode cX0_contactAt 18 = .ok (.iload_n 3, 1) := by decide +kernel
theorem dX0_contactAt_19 : decode cX0_contactAt 19 = .ok (.iaload, 1) := by decide +kernel
theorem dX0_contactAt_20 : decode cX0_contactAt 20 = .ok (.isub, 1) := by decide +kernel
theorem dX0_contactAt_21 : decode cX0_contactAt 21 = .ok (.istore 4, 2) := by decide +kernel
theorem dX0_contactAt_23 : decode cX0_contactAt 23 = .ok (.iload 4, 2) := by decide +kernel
theorem dX0_contactAt_25 : decode cX0_contactAt 25 = .ok (.aload_n 0, 1) := by decide +kernel
theorem dX0_contactAt_26 : decode cX0_contactAt 26 = .ok (.getfield 11, 3) := by decide +kernel
theorem dX0_contactAt_29 : decode cX0_contactAt 29 = .ok (.iload_n 1, 1) := by decide +kernel
theorem dX0_contactAt_30 : decode cX0_contactAt 30 = .ok (.aaload, 1) := by decide +kernel
theorem dX0_contactAt_31 : decode cX0_contactAt 31 = .ok (.getfield 73, 3) := by decide +kernel
theorem dX0_contactAt_34 : decode cX0_contactAt 34 = .ok (.if_icmp .ge 15, 3) := by decide +kernel
theorem dX0_contactAt_37 : decode cX0_contactAt 37 = .ok (.iload 4, 2) := by decide +kernel
theorem dX0_contactAt_39 : decode cX0_contactAt 39 = .ok (.iconst 1, 1) := by decide +kernel
theorem dX0_contactAt_40 : decode cX0_contactAt 40 = .ok (.iand, 1) := by decide +kernel
theorem dX0_contactAt_41 : decode cX0_contactAt 41 = .ok (.iconst 1, 1) := by decide +kernel
theorem dX0_contactAt_42 : decode cX0_contactAt 42 = .ok (.if_icmp .ne 7, 3) := by decide +kernel
theorem dX0_contactAt_45 : decode cX0_contactAt 45 = .ok (.iconst 1, 1) := by decide +kernel
theorem dX0_contactAt_46 : decode cX0_contactAt 46 = .ok (.goto 4, 3) := by decide +kernel
theorem dX0_contactAt_49 : decode cX0_contactAt 49 = .ok (.iconst 0, 1) := by decide +kernel
theorem dX0_contactAt_50 : decode cX0_contactAt 50 = .ok (.istore 5, 2) := by decide +kernel
theorem dX0_contactAt_52 : decode cX0_contactAt 52 = .ok (.iload 5, 2) := by decide +kernel
theorem dX0_contactAt_54 : decode cX0_contactAt 54 = .ok (.ifCond .eq 14, 3) := by decide +kernel
theorem dX0_contactAt_57 : decode cX0_contactAt 57 = .ok (.iconst 1, 1) := by decide +kernel
theorem dX0_contactAt_58 : decode cX0_contactAt 58 = .ok (.aload_n 0, 1) := by decide +kernel
theorem dX0_contactAt_59 : decode cX0_contactAt 59 = .ok (.getfield 25, 3) := by decide +kernel
theorem dX0_contactAt_62 : decode cX0_contactAt 62 = .ok (.iload_n 3, 1) := by decide +kernel
theorem dX0_contactAt_63 : decode cX0_contactAt 63 = .ok (.iaload, 1) := by decide +kernel
theorem dX0_contactAt_64 : decode cX0_contactAt 64 = .ok (.isub, 1) := by decide +kernel
theorem dX0_contactAt_65 : decode cX0_contactAt 65 = .ok (.goto 9, 3) := by decide +kernel
theorem dX0_contactAt_68 : decode cX0_contactAt 68 = .ok (.aload_n 0, 1) := by decide +kernel
theorem dX0_contactAt_69 : decode cX0_contactAt 69 = .ok (.getfield 25, 3) := by decide +kernel
theorem dX0_contactAt_72 : decode cX0_contactAt 72 = .ok (.iload_n 3, 1) := by decide +kernel
theorem dX0_contactAt_73 : decode cX0_contactAt 73 = .ok (.iaload, 1) := by decide +kernel
theorem dX0_contactAt_74 : decode cX0_contactAt 74 = .ok (.ireturn, 1) := by decide +kernel
theorem dX0_latestPress_0 : decode cX0_latestPress 0 = .ok (.bipush (-4), 2) := by decide +kernel
theorem dX0_latestPress_2 : decode cX0_latestPress 2 = .ok (.istore_n 3, 1) := by decide +kernel
theorem dX0_latestPress_3 : decode cX0_latestPress 3 = .ok (.iconst 0, 1) := by decide +kernel
theorem dX0_latestPress_4 : decode cX0_latestPress 4 = .ok (.istore 4, 2) := by decide +kernel
theorem dX0_latestPress_6 : decode cX0_latestPress 6 = .ok (.iload 4, 2) := by decide +kernel
theorem dX0_latestPress_8 : decode cX0_latestPress 8 = .ok (.aload_n 0, 1) := by decide +kernel
theorem dX0_latestPress_9 : decode cX0_latestPress 9 = .ok (.getfield 44, 3) := by decide +kernel
theorem dX0_latestPress_12 : decode cX0_latestPress 12 = .ok (.if_icmp .ge 66, 3) := by decide +kernel
theorem dX0_latestPress_15 : decode cX0_latestPress 15 = .ok (.aload_n 0, 1) := by decide +kernel
theorem dX0_latestPress_16 : decode cX0_latestPress 16 = .ok (.getfield 22, 3) := by decide +kernel
theorem dX0_latestPress_19 : decode cX0_latestPress 19 = .ok (.iload 4, 2) := by decide +kernel
theorem dX0_latestPress_21 : decode cX0_latestPress 21 = .ok (.iaload, 1) := by decide +kernel
theorem dX0_latestPress_22 : decode cX0_latestPress 22 = .ok (.iload_n 1, 1) := by decide +kernel
theorem dX0_latestPress_23 : decode cX0_latestPress 23 = .ok (.if_icmp .ne 18, 3) := by decide +kernel
theorem dX0_latestPress_26 : decode cX0_latestPress 26 = .ok (.aload_n 0, 1) := by decide +kernel
theorem dX0_latestPress_27 : decode cX0_latestPress 27 = .ok (.getfield 18, 3) := by decide +kernel
theorem dX0_latestPress_30 : decode cX0_latestPress 30 = .ok (.iload 4, 2) := by decide +kernel
theorem dX0_latestPress_32 : decode cX0_latestPress 32 = .ok (.iaload, 1) := by decide +kernel
theorem dX0_latestPress_33 : decode cX0_latestPress 33 = .ok (.iload_n 2, 1) := by decide +kernel
theorem dX0_latestPress_34 : decode cX0_latestPress 34 = .ok (.if_icmp .gt 7, 3) := by decide +kernel
theorem dX0_latestPress_37 : decode cX0_latestPress 37 = .ok (.iconst 1, 1) := by decide +kernel
theorem dX0_latestPress_38 : decode cX0_latestPress 38 = .ok (.goto 4, 3) := by decide +kernel
theorem dX0_latestPress_41 : decode cX0_latestPress 41 = .ok (.iconst 0, 1) := by decide +kernel
theorem dX0_latestPress_42 : decode cX0_latestPress 42 = .ok (.istore 5, 2) := by decide +kernel
theorem dX0_latestPress_44 : decode cX0_latestPress 44 = .ok (.iload 5, 2) := by decide +kernel
theorem dX0_latestPress_46 : decode cX0_latestPress 46 = .ok (.ifCond .eq 26, 3) := by decide +kernel
theorem dX0_latestPress_49 : decode cX0_latestPress 49 = .ok (.iload_n 3, 1) := by decide +kernel
theorem dX0_latestPress_50 : decode cX0_latestPress 50 = .ok (.ifCond .lt 19, 3) := by decide +kernel
theorem dX0_latestPress_53 : decode cX0_latestPress 53 = .ok (.aload_n 0, 1) := by decide +kernel
theorem dX0_latestPress_54 : decode cX0_latestPress 54 = .ok (.getfield 18, 3) := by decide +kernel
theorem dX0_latestPress_57 : decode cX0_latestPress 57 = .ok (.iload 4, 2) := by decide +kernel
theorem dX0_latestPress_59 : decode cX0_latestPress 59 = .ok (.iaload, 1) := by decide +kernel
theorem dX0_latestPress_60 : decode cX0_latestPress 60 = .ok (.aload_n 0, 1) := by decide +kernel
theorem dX0_latestPress_61 : decode cX0_latestPress 61 = .ok (.getfield 18, 3) := by decide +kernel
theorem dX0_latestPress_64 : decode cX0_latestPress 64 = .ok (.iload_n 3, 1) := by decide +kernel
theorem dX0_latestPress_65 : decode cX0_latestPress 65 = .ok (.iaload, 1) := by decide +kernel
theorem dX0_latestPress_66 : decode cX0_latestPress 66 = .ok (.if_icmp .lt 6, 3) := by decide +kernel
theorem dX0_latestPress_69 : decode cX0_latestPress 69 = .ok (.iload 4, 2) := by decide +kernel
theorem dX0_latestPress_71 : decode cX0_latestPress 71 = .ok (.istore_n 3, 1) := by decide +kernel
theorem dX0_latestPress_72 : decode cX0_latestPress 72 = .ok (.iinc 4 1, 3) := by decide +kernel
theorem dX0_latestPress_75 : decode cX0_latestPress 75 = .ok (.goto (-69), 3) := by decide +kernel
theorem dX0_latestPress_78 : decode cX0_latestPress 78 = .ok (.iload_n 3, 1) := by decide +kernel
theorem dX0_latestPress_79 : decode cX0_latestPress 79 = .ok (.ireturn, 1) := by decide +kernel
theorem dX0_contactBits_0 : decode cX0_contactBits 0 = .ok (.iconst 0, 1) := by decide +kernel
theorem dX0_contactBits_1 : decode cX0_contactBits 1 = .ok (.istore_n 1, 1) := by decide +kernel
theorem dX0_contactBits_2 : decode cX0_contactBits 2 = .ok (.iconst 0, 1) := by decide +kernel
theorem dX0_contactBits_3 : decode cX0_contactBits 3 = .ok (.istore_n 2, 1) := by decide +kernel
theorem dX0_contactBits_4 : decode cX0_contactBits 4 = .ok (.iload_n 2, 1) := by decide +kernel
theorem dX0_contactBits_5 : decode cX0_contactBits 5 = .ok (.aload_n 0, 1) := by decide +kernel
theorem dX0_contactBits_6 : decode cX0_contactBits 6 = .ok (.getfield 41, 3) := by decide +kernel
theorem dX0_contactBits_9 : decode cX0_contactBits 9 = .ok (.if_icmp .ge 23, 3) := by decide +kernel
theorem dX0_contactBits_12 : decode cX0_contactBits 12 = .ok (.iload_n 1, 1) := by decide +kernel
theorem dX0_contactBits_13 : decode cX0_contactBits 13 = .ok (.aload_n 0, 1) := by decide +kernel
theorem dX0_contactBits_14 : decode cX0_contactBits 14 = .ok (.iload_n 2, 1) := by decide +kernel
theorem dX0_contactBits_15 : decode cX0_contactBits 15 = .ok (.aload_n 0, 1) := by decide +kernel
theorem dX0_contactBits_16 : decode cX0_contactBits 16 = .ok (.getfield 47, 3) := by decide +kernel
theorem dX0_contactBits_19 : decode cX0_contactBits 19 = .ok (.invokevirtual 76, 3) := by decide +kernel
theorem dX0_contactBits_22 : decode cX0_contactBits 22 = .ok (.iload_n 2, 1) := by decide +kernel
theorem dX0_contactBits_23 : decode cX0_contactBits 23 = .ok (.ishl, 1) := by decide +kernel
theorem dX0_contactBits_24 : decode cX0_contactBits 24 = .ok (.ior, 1) := by decide +kernel
theorem dX0_contactBits_25 : decode cX0_contactBits 25 = .ok (.istore_n 1, 1) := by decide +kernel
theorem dX0_contactBits_26 : decode cX0_contactBits 26 = .ok (.iinc 2 1, 3) := by decide +kernel
theorem dX0_contactBits_29 : decode cX0_contactBits 29 = .ok (.goto (-25), 3) := by decide +kernel
theorem dX0_contactBits_32 : decode cX0_contactBits 32 = .ok (.iload_n 1, 1) := by decide +kernel
theorem dX0_contactBits_33 : decode cX0_contactBits 33 = .ok (.ireturn, 1) := by decide +kernel
theorem dX0_saysBits_0 : decode cX0_saysBits 0 = .ok (.iconst 0, 1) := by decide +kernel
theorem dX0_saysBits_1 : decode cX0_saysBits 1 = .ok (.istore_n 1, 1) := by decide +kernel
theorem dX0_saysBits_2 : decode cX0_saysBits 2 = .ok (.iconst 0, 1) := by decide +kernel
theorem dX0_saysBits_3 : decode cX0_saysBits 3 = .ok (.istore_n 2, 1) := by decide +kernel
theorem dX0_saysBits_4 : decode cX0_saysBits 4 = .ok (.iload_n 2, 1) := by decide +kernel
theorem dX0_saysBits_5 : decode cX0_saysBits 5 = .ok (.aload_n 0, 1) := by decide +kernel
theorem dX0_saysBits_6 : decode cX0_saysBits 6 = .ok (.getfield 41, 3) := by decide +kernel
theorem dX0_saysBits_9 : decode cX0_saysBits 9 = .ok (.if_icmp .ge 23, 3) := by decide +kernel
theorem dX0_saysBits_12 : decode cX0_saysBits 12 = .ok (.iload_n 1, 1) := by decide +kernel
theorem dX0_saysBits_13 : decode cX0_saysBits 13 = .ok (.aload_n 0, 1) := by decide +kernel
theorem dX0_saysBits_14 : decode cX0_saysBits 14 = .ok (.getfield 11, 3) := by decide +kernel
theorem dX0_saysBits_17 : decode cX0_saysBits 17 = .ok (.iload_n 2, 1) := by decide +kernel
theorem dX0_saysBits_18 : decode cX0_saysBits 18 = .ok (.aaload, 1) := by decide +kernel
theorem dX0_saysBits_19 : decode cX0_saysBits 19 = .ok (.getfield 79, 3) := by decide +kernel
theorem dX0_saysBits_22 : decode cX0_saysBits 22 = .ok (.iload_n 2, 1) := by decide +kernel
theorem dX0_saysBits_23 : decode cX0_saysBits 23 = .ok (.ishl, 1) := by decide +kernel
theorem dX0_saysBits_24 : decode cX0_saysBits 24 = .ok (.ior, 1) := by decide +kernel
theorem dX0_saysBits_25 : decode cX0_saysBits 25 = .ok (.istore_n 1, 1) := by decide +kernel
theorem dX0_saysBits_26 : decode cX0_saysBits 26 = .ok (.iinc 2 1, 3) := by decide +kernel
theorem dX0_saysBits_29 : decode cX0_saysBits 29 = .ok (.goto (-25), 3) := by decide +kernel
theorem dX0_saysBits_32 : decode cX0_saysBits 32 = .ok (.iload_n 1, 1) := by decide +kernel
theorem dX0_saysBits_33 : decode cX0_saysBits 33 = .ok (.ireturn, 1) := by decide +kernel
theorem dX0_strokesOfAll_0 : decode cX0_strokesOfAll 0 = .ok (.iconst 0, 1) := by decide +kernel
theorem dX0_strokesOfAll_1 : decode cX0_strokesOfAll 1 = .ok (.istore_n 1, 1) := by decide +kernel
theorem dX0_strokesOfAll_2 : decode cX0_strokesOfAll 2 = .ok (.iconst 0, 1) := by decide +kernel
theorem dX0_strokesOfAll_3 : decode cX0_strokesOfAll 3 = .ok (.istore_n 2, 1) := by decide +kernel
theorem dX0_strokesOfAll_4 : decode cX0_strokesOfAll 4 = .ok (.iload_n 2, 1) := by decide +kernel
theorem dX0_strokesOfAll_5 : decode cX0_strokesOfAll 5 = .ok (.aload_n 0, 1) := by decide +kernel
theorem dX0_strokesOfAll_6 : decode cX0_strokesOfAll 6 = .ok (.getfield 41, 3) := by decide +kernel
theorem dX0_strokesOfAll_9 : decode cX0_strokesOfAll 9 = .ok (.if_icmp .ge 21, 3) := by decide +kernel
theorem dX0_strokesOfAll_12 : decode cX0_strokesOfAll 12 = .ok (.iload_n 1, 1) := by decide +kernel
theorem dX0_strokesOfAll_13 : decode cX0_strokesOfAll 13 = .ok (.aload_n 0, 1) := by decide +kernel
theorem dX0_strokesOfAll_14 : decode cX0_strokesOfAll 14 = .ok (.getfield 11, 3) := by decide +kernel
theorem dX0_strokesOfAll_17 : decode cX0_strokesOfAll 17 = .ok (.iload_n 2, 1) := by decide +kernel
theorem dX0_strokesOfAll_18 : decode cX0_strokesOfAll 18 = .ok (.aaload, 1) := by decide +kernel
theorem dX0_strokesOfAll_19 : decode cX0_strokesOfAll 19 = .ok (.getfield 82, 3) := by decide +kernel
theorem dX0_strokesOfAll_22 : decode cX0_strokesOfAll 22 = .ok (.iadd, 1) := by decide +kernel
theorem dX0_strokesOfAll_23 : decode cX0_strokesOfAll 23 = .ok (.istore_n 1, 1) := by decide +kernel
theorem dX0_strokesOfAll_24 : decode cX0_strokesOfAll 24 = .ok (.iinc 2 1, 3) := by decide +kernel
theorem dX0_strokesOfAll_27 : decode cX0_strokesOfAll 27 = .ok (.goto (-23), 3) := by decide +kernel
theorem dX0_strokesOfAll_30 : decode cX0_strokesOfAll 30 = .ok (.iload_n 1, 1) := by decide +kernel
theorem dX0_strokesOfAll_31 : decode cX0_strokesOfAll 31 = .ok (.ireturn, 1) := by decide +kernel
theorem dX0_sumOfPart_0 : decode cX0_sumOfPart 0 = .ok (.iconst 0, 1) := by decide +kernel
theorem dX0_sumOfPart_1 : decode cX0_sumOfPart 1 = .ok (.istore_n 2, 1) := by decide +kernel
theorem dX0_sumOfPart_2 : decode cX0_sumOfPart 2 = .ok (.iconst 0, 1) := by decide +kernel
theorem dX0_sumOfPart_3 : decode cX0_sumOfPart 3 = .ok (.istore_n 3, 1) := by decide +kernel
theorem dX0_sumOfPart_4 : decode cX0_sumOfPart 4 = .ok (.iload_n 3, 1) := by decide +kernel
theorem dX0_sumOfPart_5 : decode cX0_sumOfPart 5 = .ok (.aload_n 0, 1) := by decide +kernel
theorem dX0_sumOfPart_6 : decode cX0_sumOfPart 6 = .ok (.getfield 41, 3) := by decide +kernel
theorem dX0_sumOfPart_9 : decode cX0_sumOfPart 9 = .ok (.if_icmp .ge 22, 3) := by decide +kernel
theorem dX0_sumOfPart_12 : decode cX0_sumOfPart 12 = .ok (.iload_n 2, 1) := by decide +kernel
theorem dX0_sumOfPart_13 : decode cX0_sumOfPart 13 = .ok (.aload_n 0, 1) := by decide +kernel
theorem dX0_sumOfPart_14 : decode cX0_sumOfPart 14 = .ok (.getfield 11, 3) := by decide +kernel
theorem dX0_sumOfPart_17 : decode cX0_sumOfPart 17 = .ok (.iload_n 3, 1) := by decide +kernel
theorem dX0_sumOfPart_18 : decode cX0_sumOfPart 18 = .ok (.aaload, 1) := by decide +kernel
theorem dX0_sumOfPart_19 : decode cX0_sumOfPart 19 = .ok (.iload_n 1, 1) := by decide +kernel
theorem dX0_sumOfPart_20 : decode cX0_sumOfPart 20 = .ok (.invokevirtual 85, 3) := by decide +kernel
theorem dX0_sumOfPart_23 : decode cX0_sumOfPart 23 = .ok (.iadd, 1) := by decide +kernel
theorem dX0_sumOfPart_24 : decode cX0_sumOfPart 24 = .ok (.istore_n 2, 1) := by decide +kernel
theorem dX0_sumOfPart_25 : decode cX0_sumOfPart 25 = .ok (.iinc 3 1, 3) := by decide +kernel
theorem dX0_sumOfPart_28 : decode cX0_sumOfPart 28 = .ok (.goto (-24), 3) := by decide +kernel
theorem dX0_sumOfPart_31 : decode cX0_sumOfPart 31 = .ok (.iload_n 2, 1) := by decide +kernel
theorem dX0_sumOfPart_32 : decode cX0_sumOfPart 32 = .ok (.ireturn, 1) := by decide +kernel
theorem dX0_startRun_0 : decode cX0_startRun 0 = .ok (.iconst 0, 1) := by decide +kernel
theorem dX0_startRun_1 : decode cX0_startRun 1 = .ok (.istore_n 1, 1) := by decide +kernel
theorem dX0_startRun_2 : decode cX0_startRun 2 = .ok (.iload_n 1, 1) := by decide +kernel
theorem dX0_startRun_3 : decode cX0_startRun 3 = .ok (.aload_n 0, 1) := by decide +kernel
theorem dX0_startRun_4 : decode cX0_startRun 4 = .ok (.getfield 41, 3) := by decide +kernel
theorem dX0_startRun_7 : decode cX0_startRun 7 = .ok (.if_icmp .ge 18, 3) := by decide +kernel
theorem dX0_startRun_10 : decode cX0_startRun 10 = .ok (.aload_n 0, 1) := by decide +kernel
theorem dX0_startRun_11 : decode cX0_startRun 11 = .ok (.getfield 11, 3) := by decide +kernel
theorem dX0_startRun_14 : decode cX0_startRun 14 = .ok (.iload_n 1, 1) := by decide +kernel
theorem dX0_startRun_15 : decode cX0_startRun 15 = .ok (.aaload, 1) := by decide +kernel
theorem dX0_startRun_16 : decode cX0_startRun 16 = .ok (.invokevirtual 89, 3) := by decide +kernel
theorem dX0_startRun_19 : decode cX0_startRun 19 = .ok (.iinc 1 1, 3) := by decide +kernel
theorem dX0_startRun_22 : decode cX0_startRun 22 = .ok (.goto (-20), 3) := by decide +kernel
theorem dX0_startRun_25 : decode cX0_startRun 25 = .ok (.return_, 1) := by decide +kernel
theorem dX0_struckInRun_0 : decode cX0_struckInRun 0 = .ok (.iconst 0, 1) := by decide +kernel
theorem dX0_struckInRun_1 : decode cX0_struckInRun 1 = .ok (.istore_n 1, 1) := by decide +kernel
theorem dX0_struckInRun_2 : decode cX0_struckInRun 2 = .ok (.iconst 0, 1) := by decide +kernel
theorem dX0_struckInRun_3 : decode cX0_struckInRun 3 = .ok (.istore_n 2, 1) := by decide +kernel
theorem dX0_struckInRun_4 : decode cX0_struckInRun 4 = .ok (.iload_n 2, 1) := by decide +kernel
theorem dX0_struckInRun_5 : decode cX0_struckInRun 5 = .ok (.aload_n 0, 1) := by decide +kernel
theorem dX0_struckInRun_6 : decode cX0_struckInRun 6 = .ok (.getfield 41, 3) := by decide +kernel
theorem dX0_struckInRun_9 : decode cX0_struckInRun 9 = .ok (.if_icmp .ge 21, 3) := by decide +kernel
theorem dX0_struckInRun_12 : decode cX0_struckInRun 12 = .ok (.iload_n 1, 1) := by decide +kernel
theorem dX0_struckInRun_13 : decode cX0_struckInRun 13 = .ok (.aload_n 0, 1) := by decide +kernel
theorem dX0_struckInRun_14 : decode cX0_struckInRun 14 = .ok (.getfield 11, 3) := by decide +kernel
theorem dX0_struckInRun_17 : decode cX0_struckInRun 17 = .ok (.iload_n 2, 1) := by decide +kernel
theorem dX0_struckInRun_18 : decode cX0_struckInRun 18 = .ok (.aaload, 1) := by decide +kernel
theorem dX0_struckInRun_19 : decode cX0_struckInRun 19 = .ok (.getfield 92, 3) := by decide +kernel
theorem dX0_struckInRun_22 : decode cX0_struckInRun 22 = .ok (.iadd, 1) := by decide +kernel
theorem dX0_struckInRun_23 : decode cX0_struckInRun 23 = .ok (.istore_n 1, 1) := by decide +kernel
theorem dX0_struckInRun_24 : decode cX0_struckInRun 24 = .ok (.iinc 2 1, 3) := by decide +kernel
theorem dX0_struckInRun_27 : decode cX0_struckInRun 27 = .ok (.goto (-23), 3) := by decide +kernel
theorem dX0_struckInRun_30 : decode cX0_struckInRun 30 = .ok (.iload_n 1, 1) := by decide +kernel
theorem dX0_struckInRun_31 : decode cX0_struckInRun 31 = .ok (.ireturn, 1) := by decide +kernel
theorem dX0_changedInRun_0 : decode cX0_changedInRun 0 = .ok (.iconst 0, 1) := by decide +kernel
theorem dX0_changedInRun_1 : decode cX0_changedInRun 1 = .ok (.istore_n 1, 1) := by decide +kernel
theorem dX0_changedInRun_2 : decode cX0_changedInRun 2 = .ok (.iconst 0, 1) := by decide +kernel
theorem dX0_changedInRun_3 : decode cX0_changedInRun 3 = .ok (.istore_n 2, 1) := by decide +kernel
theorem dX0_changedInRun_4 : decode cX0_changedInRun 4 = .ok (.iload_n 2, 1) := by decide +kernel
theorem dX0_changedInRun_5 : decode cX0_changedInRun 5 = .ok (.aload_n 0, 1) := by decide +kernel
theorem dX0_changedInRun_6 : decode cX0_changedInRun 6 = .ok (.getfield 41, 3) := by decide +kernel
theorem dX0_changedInRun_9 : decode cX0_changedInRun 9 = .ok (.if_icmp .ge 21, 3) := by decide +kernel
theorem dX0_changedInRun_12 : decode cX0_changedInRun 12 = .ok (.iload_n 1, 1) := by decide +kernel
theorem dX0_changedInRun_13 : decode cX0_changedInRun 13 = .ok (.aload_n 0, 1) := by decide +kernel
theorem dX0_changedInRun_14 : decode cX0_changedInRun 14 = .ok (.getfield 11, 3) := by decide +kernel
theorem dX0_changedInRun_17 : decode cX0_changedInRun 17 = .ok (.iload_n 2, 1) := by decide +kernel
theorem dX0_changedInRun_18 : decode cX0_changedInRun 18 = .ok (.aaload, 1) := by decide +kernel
theorem dX0_changedInRun_19 : decode cX0_changedInRun 19 = .ok (.getfield 95, 3) := by decide +kernel
theorem dX0_changedInRun_22 : decode cX0_changedInRun 22 = .ok (.iadd, 1) := by decide +kernel
theorem dX0_changedInRun_23 : decode cX0_changedInRun 23 = .ok (.istore_n 1, 1) := by decide +kernel
theorem dX0_changedInRun_24 : decode cX0_changedInRun 24 = .ok (.iinc 2 1, 3) := by decide +kernel
theorem dX0_changedInRun_27 : decode cX0_changedInRun 27 = .ok (.goto (-23), 3) := by decide +kernel
theorem dX0_changedInRun_30 : decode cX0_changedInRun 30 = .ok (.iload_n 1, 1) := by decide +kernel
theorem dX0_changedInRun_31 : decode cX0_changedInRun 31 = .ok (.ireturn, 1) := by decide +kernel
theorem dX0_tickWith_0 : decode cX0_tickWith 0 = .ok (.aload_n 0, 1) := by decide +kernel
theorem dX0_tickWith_1 : decode cX0_tickWith 1 = .ok (.getfield 37, 3) := by decide +kernel
theorem dX0_tickWith_4 : decode cX0_tickWith 4 = .ok (.ifCond .le 45, 3) := by decide +kernel
theorem dX0_tickWith_7 : decode cX0_tickWith 7 = .ok (.aload_n 0, 1) := by decide +kernel
theorem dX0_tickWith_8 : decode cX0_tickWith 8 = .ok (.getfield 47, 3) := by decide +kernel
theorem dX0_tickWith_11 : decode cX0_tickWith 11 = .ok (.aload_n 0, 1) := by decide +kernel
theorem dX0_tickWith_12 : decode cX0_tickWith 12 = .ok (.getfield 37, 3) := by decide +kernel
theorem dX0_tickWith_15 : decode cX0_tickWith 15 = .ok (.irem, 1) := by decide +kernel
theorem dX0_tickWith_16 : decode cX0_tickWith 16 = .ok (.ifCond .ne 33, 3) := by decide +kernel
theorem dX0_tickWith_19 : decode cX0_tickWith 19 = .ok (.iconst 0, 1) := by decide +kernel
theorem dX0_tickWith_20 : decode cX0_tickWith 20 = .ok (.istore_n 2, 1) := by decide +kernel
theorem dX0_tickWith_21 : decode cX0_tickWith 21 = .ok (.iload_n 2, 1) := by decide +kernel
theorem dX0_tickWith_22 : decode cX0_tickWith 22 = .ok (.aload_n 0, 1) := by decide +kernel
theorem dX0_tickWith_23 : decode cX0_tickWith 23 = .ok (.getfield 41, 3) := by decide +kernel
theorem dX0_tickWith_26 : decode cX0_tickWith 26 = .ok (.if_icmp .ge 23, 3) := by decide +kernel
theorem dX0_tickWith_29 : decode cX0_tickWith 29 = .ok (.aload_n 0, 1) := by decide +kernel
theorem dX0_tickWith_30 : decode cX0_tickWith 30 = .ok (.getfield 11, 3) := by decide +kernel
theorem dX0_tickWith_33 : decode cX0_tickWith 33 = .ok (.iload_n 2, 1) := by decide +kernel
theorem dX0_tickWith_34 : decode cX0_tickWith 34 = .ok (.aaload, 1) := by decide +kernel
theorem dX0_tickWith_35 : decode cX0_tickWith 35 = .ok (.iload_n 1, 1) := by decide +kernel
theorem dX0_tickWith_36 : decode cX0_tickWith 36 = .ok (.iload_n 2, 1) := by decide +kernel
theorem dX0_tickWith_37 : decode cX0_tickWith 37 = .ok (.ishr, 1) := by decide +kernel
theorem dX0_tickWith_38 : decode cX0_tickWith 38 = .ok (.iconst 1, 1) := by decide +kernel
theorem dX0_tickWith_39 : decode cX0_tickWith 39 = .ok (.iand, 1) := by decide +kernel
theorem dX0_tickWith_40 : decode cX0_tickWith 40 = .ok (.invokevirtual 98, 3) := by decide +kernel
theorem dX0_tickWith_43 : decode cX0_tickWith 43 = .ok (.iinc 2 1, 3) := by decide +kernel
theorem dX0_tickWith_46 : decode cX0_tickWith 46 = .ok (.goto (-25), 3) := by decide +kernel
theorem dX0_tickWith_49 : decode cX0_tickWith 49 = .ok (.aload_n 0, 1) := by decide +kernel
theorem dX0_tickWith_50 : decode cX0_tickWith 50 = .ok (.dup, 1) := by decide +kernel
theorem dX0_tickWith_51 : decode cX0_tickWith 51 = .ok (.getfield 47, 3) := by decide +kernel
theorem dX0_tickWith_54 : decode cX0_tickWith 54 = .ok (.iconst 1, 1) := by decide +kernel
theorem dX0_tickWith_55 : decode cX0_tickWith 55 = .ok (.iadd, 1) := by decide +kernel
theorem dX0_tickWith_56 : decode cX0_tickWith 56 = .ok (.putfield 47, 3) := by decide +kernel
theorem dX0_tickWith_59 : decode cX0_tickWith 59 = .ok (.return_, 1) := by decide +kernel
theorem dX0_advance_0 : decode cX0_advance 0 = .ok (.iconst 0, 1) := by decide +kernel
theorem dX0_advance_1 : decode cX0_advance 1 = .ok (.istore_n 2, 1) := by decide +kernel
theorem dX0_advance_2 : decode cX0_advance 2 = .ok (.iload_n 2, 1) := by decide +kernel
theorem dX0_advance_3 : decode cX0_advance 3 = .ok (.iload_n 1, 1) := by decide +kernel
theorem dX0_advance_4 : decode cX0_advance 4 = .ok (.if_icmp .ge 17, 3) := by decide +kernel
theorem dX0_advance_7 : decode cX0_advance 7 = .ok (.aload_n 0, 1) := by decide +kernel
theorem dX0_advance_8 : decode cX0_advance 8 = .ok (.aload_n 0, 1) := by decide +kernel
theorem dX0_advance_9 : decode cX0_advance 9 = .ok (.invokevirtual 102, 3) := by decide +kernel
theorem dX0_advance_12 : decode cX0_advance 12 = .ok (.invokevirtual 106, 3) := by decide +kernel
theorem dX0_advance_15 : decode cX0_advance 15 = .ok (.iinc 2 1, 3) := by decide +kernel
theorem dX0_advance_18 : decode cX0_advance 18 = .ok (.goto (-16), 3) := by decide +kernel
theorem dX0_advance_21 : decode cX0_advance 21 = .ok (.return_, 1) := by decide +kernel
theorem dX0_advanceCountingWrong_0 : decode cX0_advanceCountingWrong 0 = .ok (.iconst 0, 1) := by decide +kernel
theorem dX0_advanceCountingWrong_1 : decode cX0_advanceCountingWrong 1 = .ok (.istore_n 2, 1) := by decide +kernel
theorem dX0_advanceCountingWrong_2 : decode cX0_advanceCountingWrong 2 = .ok (.iconst 0, 1) := by decide +kernel
theorem dX0_advanceCountingWrong_3 : decode cX0_advanceCountingWrong 3 = .ok (.istore_n 3, 1) := by decide +kernel
theorem dX0_advanceCountingWrong_4 : decode cX0_advanceCountingWrong 4 = .ok (.iload_n 3, 1) := by decide +kernel
theorem dX0_advanceCountingWrong_5 : decode cX0_advanceCountingWrong 5 = .ok (.iload_n 1, 1) := by decide +kernel
theorem dX0_advanceCountingWrong_6 : decode cX0_advanceCountingWrong 6 = .ok (.if_icmp .ge 33, 3) := by decide +kernel
theorem dX0_advanceCountingWrong_9 : decode cX0_advanceCountingWrong 9 = .ok (.aload_n 0, 1) := by decide +kernel
theorem dX0_advanceCountingWrong_10 : decode cX0_advanceCountingWrong 10 = .ok (.invokevirtual 102, 3) := by decide +kernel
theorem dX0_advanceCountingWrong_13 : decode cX0_advanceCountingWrong 13 = .ok (.istore 4, 2) := by decide +kernel
theorem dX0_advanceCountingWrong_15 : decode cX0_advanceCountingWrong 15 = .ok (.aload_n 0, 1) := by decide +kernel
theorem dX0_advanceCountingWrong_16 : decode cX0_advanceCountingWrong 16 = .ok (.iload 4, 2) := by decide +kernel
theorem dX0_advanceCountingWrong_18 : decode cX0_advanceCountingWrong 18 = .ok (.invokevirtual 106, 3) := by decide +kernel
theorem dX0_advanceCountingWrong_21 : decode cX0_advanceCountingWrong 21 = .ok (.iload 4, 2) := by decide +kernel
theorem dX0_advanceCountingWrong_23 : decode cX0_advanceCountingWrong 23 = .ok (.aload_n 0, 1) := by decide +kernel
theorem dX0_advanceCountingWrong_24 : decode cX0_advanceCountingWrong 24 = .ok (.invokevirtual 109, 3) := by decide +kernel
theorem dX0_advanceCountingWrong_27 : decode cX0_advanceCountingWrong 27 = .ok (.if_icmp .eq 6, 3) := by decide +kernel
theorem dX0_advanceCountingWrong_30 : decode cX0_advanceCountingWrong 30 = .ok (.iinc 2 1, 3) := by decide +kernel
theorem dX0_advanceCountingWrong_33 : decode cX0_advanceCountingWrong 33 = .ok (.iinc 3 1, 3) := by decide +kernel
theorem dX0_advanceCountingWrong_36 : decode cX0_advanceCountingWrong 36 = .ok (.goto (-32), 3) := by decide +kernel
theorem dX0_advanceCountingWrong_39 : decode cX0_advanceCountingWrong 39 = .ok (.iload_n 2, 1) := by decide +kernel
theorem dX0_advanceCountingWrong_40 : decode cX0_advanceCountingWrong 40 = .ok (.ireturn, 1) := by decide +kernel
theorem dX0_dueIn_0 : decode cX0_dueIn 0 = .ok (.iconst 0, 1) := by decide +kernel
theorem dX0_dueIn_1 : decode cX0_dueIn 1 = .ok (.istore_n 2, 1) := by decide +kernel
theorem dX0_dueIn_2 : decode cX0_dueIn 2 = .ok (.iconst 0, 1) := by decide +kernel
theorem dX0_dueIn_3 : decode cX0_dueIn 3 = .ok (.istore_n 3, 1) := by decide +kernel
theorem dX0_dueIn_4 : decode cX0_dueIn 4 = .ok (.iload_n 3, 1) := by decide +kernel
theorem dX0_dueIn_5 : decode cX0_dueIn 5 = .ok (.aload_n 0, 1) := by decide +kernel
theorem dX0_dueIn_6 : decode cX0_dueIn 6 = .ok (.getfield 44, 3) := by decide +kernel
theorem dX0_dueIn_9 : decode cX0_dueIn 9 = .ok (.if_icmp .ge 46, 3) := by decide +kernel
theorem dX0_dueIn_12 : decode cX0_dueIn 12 = .ok (.aload_n 0, 1) := by decide +kernel
theorem dX0_dueIn_13 : decode cX0_dueIn 13 = .ok (.getfield 25, 3) := by decide +kernel
theorem dX0_dueIn_16 : decode cX0_dueIn 16 = .ok (.iload_n 3, 1) := by decide +kernel
theorem dX0_dueIn_17 : decode cX0_dueIn 17 = .ok (.iaload, 1) := by decide +kernel
theorem dX0_dueIn_18 : decode cX0_dueIn 18 = .ok (.iconst 1, 1) := by decide +kernel
theorem dX0_dueIn_19 : decode cX0_dueIn 19 = .ok (.if_icmp .ne 30, 3) := by decide +kernel
theorem dX0_dueIn_22 : decode cX0_dueIn 22 = .ok (.aload_n 0, 1) := by decide +kernel
theorem dX0_dueIn_23 : decode cX0_dueIn 23 = .ok (.getfield 18, 3) := by decide +kernel
theorem dX0_dueIn_26 : decode cX0_dueIn 26 = .ok (.iload_n 3, 1) := by decide +kernel
theorem dX0_dueIn_27 : decode cX0_dueIn 27 = .ok (.iaload, 1) := by decide +kernel
theorem dX0_dueIn_28 : decode cX0_dueIn 28 = .ok (.aload_n 0, 1) := by decide +kernel
theorem dX0_dueIn_29 : decode cX0_dueIn 29 = .ok (.getfield 47, 3) := by decide +kernel
theorem dX0_dueIn_32 : decode cX0_dueIn 32 = .ok (.aload_n 0, 1) := by decide +kernel
theorem dX0_dueIn_33 : decode cX0_dueIn 33 = .ok (.getfield 47, 3) := by decide +kernel
theorem dX0_dueIn_36 : decode cX0_dueIn 36 = .ok (.iload_n 1, 1) := by decide +kernel
theorem dX0_dueIn_37 : decode cX0_dueIn 37 = .ok (.iadd, 1) := by decide +kernel
theorem dX0_dueIn_38 : decode cX0_dueIn 38 = .ok (.iconst 1, 1) := by decide +kernel
theorem dX0_dueIn_39 : decode cX0_dueIn 39 = .ok (.isub, 1) := by decide +kernel
theorem dX0_dueIn_40 : decode cX0_dueIn 40 = .ok (.invokestatic 61, 3) := by decide +kernel
theorem dX0_dueIn_43 : decode cX0_dueIn 43 = .ok (.ifCond .eq 6, 3) := by decide +kernel
theorem dX0_dueIn_46 : decode cX0_dueIn 46 = .ok (.iinc 2 1, 3) := by decide +kernel
theorem dX0_dueIn_49 : decode cX0_dueIn 49 = .ok (.iinc 3 1, 3) := by decide +kernel
theorem dX0_dueIn_52 : decode cX0_dueIn 52 = .ok (.goto (-48), 3) := by decide +kernel
theorem dX0_dueIn_55 : decode cX0_dueIn 55 = .ok (.iload_n 2, 1) := by decide +kernel
theorem dX0_dueIn_56 : decode cX0_dueIn 56 = .ok (.ireturn, 1) := by decide +kernel
theorem dX0_isAsSeen_0 : decode cX0_isAsSeen 0 = .ok (.aload_n 0, 1) := by decide +kernel
theorem dX0_isAsSeen_1 : decode cX0_isAsSeen 1 = .ok (.invokevirtual 112, 3) := by decide +kernel
theorem dX0_isAsSeen_4 : decode cX0_isAsSeen 4 = .ok (.istore_n 1, 1) := by decide +kernel
theorem dX0_isAsSeen_5 : decode cX0_isAsSeen 5 = .ok (.iconst 0, 1) := by decide +kernel
theorem dX0_isAsSeen_6 : decode cX0_isAsSeen 6 = .ok (.istore_n 2, 1) := by decide +kernel
theorem dX0_isAsSeen_7 : decode cX0_isAsSeen 7 = .ok (.iload_n 2, 1) := by decide +kernel
theorem dX0_isAsSeen_8 : decode cX0_isAsSeen 8 = .ok (.iload_n 1, 1) := by decide +kernel
theorem dX0_isAsSeen_9 : decode cX0_isAsSeen 9 = .ok (.if_icmp .gt 24, 3) := by decide +kernel
theorem dX0_isAsSeen_12 : decode cX0_isAsSeen 12 = .ok (.aload_n 0, 1) := by decide +kernel
theorem dX0_isAsSeen_13 : decode cX0_isAsSeen 13 = .ok (.iload_n 2, 1) := by decide +kernel
theorem dX0_isAsSeen_14 : decode cX0_isAsSeen 14 = .ok (.invokevirtual 115, 3) := by decide +kernel
theorem dX0_isAsSeen_17 : decode cX0_isAsSeen 17 = .ok (.ifCond .ne 5, 3) := by decide +kernel
theorem dX0_isAsSeen_20 : decode cX0_isAsSeen 20 = .ok (.iconst 0, 1) := by decide +kernel
theorem dX0_isAsSeen_21 : decode cX0_isAsSeen 21 = .ok (.ireturn, 1) := by decide +kernel
theorem dX0_isAsSeen_22 : decode cX0_isAsSeen 22 = .ok (.aload_n 0, 1) := by decide +kernel
theorem dX0_isAsSeen_23 : decode cX0_isAsSeen 23 = .ok (.iconst 1, 1) := by decide +kernel
theorem dX0_isAsSeen_24 : decode cX0_isAsSeen 24 = .ok (.invokevirtual 119, 3) := by decide +kernel
theorem dX0_isAsSeen_27 : decode cX0_isAsSeen 27 = .ok (.iinc 2 1, 3) := by decide +kernel
theorem dX0_isAsSeen_30 : decode cX0_isAsSeen 30 = .ok (.goto (-23), 3) := by decide +kernel
theorem dX0_isAsSeen_33 : decode cX0_isAsSeen 33 = .ok (.iconst 1, 1) := by decide +kernel
theorem dX0_isAsSeen_34 : decode cX0_isAsSeen 34 = .ok (.ireturn, 1) := by decide +kernel
theorem dX0_lastSeenTicks_0 : decode cX0_lastSeenTicks 0 = .ok (.bipush (-4), 2) := by decide +kernel
theorem dX0_lastSeenTicks_2 : decode cX0_lastSeenTicks 2 = .ok (.istore_n 1, 1) := by decide +kernel
theorem dX0_lastSeenTicks_3 : decode cX0_lastSeenTicks 3 = .ok (.iconst 0, 1) := by decide +kernel
theorem dX0_lastSeenTicks_4 : decode cX0_lastSeenTicks 4 = .ok (.istore_n 2, 1) := by decide +kernel
theorem dX0_lastSeenTicks_5 : decode cX0_lastSeenTicks 5 = .ok (.iload_n 2, 1) := by decide +kernel
theorem dX0_lastSeenTicks_6 : decode cX0_lastSeenTicks 6 = .ok (.aload_n 0, 1) := by decide +kernel
theorem dX0_lastSeenTicks_7 : decode cX0_lastSeenTicks 7 = .ok (.getfield 50, 3) := by decide +kernel
theorem dX0_lastSeenTicks_10 : decode cX0_lastSeenTicks 10 = .ok (.if_icmp .ge 20, 3) := by decide +kernel
theorem dX0_lastSeenTicks_13 : decode cX0_lastSeenTicks 13 = .ok (.iload_n 1, 1) := by decide +kernel
theorem dX0_lastSeenTicks_14 : decode cX0_lastSeenTicks 14 = .ok (.aload_n 0, 1) := by decide +kernel
theorem dX0_lastSeenTicks_15 : decode cX0_lastSeenTicks 15 = .ok (.getfield 28, 3) := by decide +kernel
theorem dX0_lastSeenTicks_18 : decode cX0_lastSeenTicks 18 = .ok (.iload_n 2, 1) := by decide +kernel
theorem dX0_lastSeenTicks_19 : decode cX0_lastSeenTicks 19 = .ok (.iaload, 1) := by decide +kernel
theorem dX0_lastSeenTicks_20 : decode cX0_lastSeenTicks 20 = .ok (.invokestatic 122, 3) := by decide +kernel
theorem dX0_lastSeenTicks_23 : decode cX0_lastSeenTicks 23 = .ok (.istore_n 1, 1) := by decide +kernel
theorem dX0_lastSeenTicks_24 : decode cX0_lastSeenTicks 24 = .ok (.iinc 2 1, 3) := by decide +kernel
theorem dX0_lastSeenTicks_27 : decode cX0_lastSeenTicks 27 = .ok (.goto (-22), 3) := by decide +kernel
theorem dX0_lastSeenTicks_30 : decode cX0_lastSeenTicks 30 = .ok (.iload_n 1, 1) := by decide +kernel
theorem dX0_lastSeenTicks_31 : decode cX0_lastSeenTicks 31 = .ok (.ireturn, 1) := by decide +kernel
theorem dX0_saysAsSeenBehind_0 : decode cX0_saysAsSeenBehind 0 = .ok (.iconst 0, 1) := by decide +kernel
theorem dX0_saysAsSeenBehind_1 : decode cX0_saysAsSeenBehind 1 = .ok (.istore_n 2, 1) := by decide +kernel
theorem dX0_saysAsSeenBehind_2 : decode cX0_saysAsSeenBehind 2 = .ok (.iload_n 2, 1) := by decide +kernel
theorem dX0_saysAsSeenBehind_3 : decode cX0_saysAsSeenBehind 3 = .ok (.aload_n 0, 1) := by decide +kernel
theorem dX0_saysAsSeenBehind_4 : decode cX0_saysAsSeenBehind 4 = .ok (.getfield 50, 3) := by decide +kernel
theorem dX0_saysAsSeenBehind_7 : decode cX0_saysAsSeenBehind 7 = .ok (.if_icmp .ge 54, 3) := by decide +kernel
theorem dX0_saysAsSeenBehind_10 : decode cX0_saysAsSeenBehind 10 = .ok (.aload_n 0, 1) := by decide +kernel
theorem dX0_saysAsSeenBehind_11 : decode cX0_saysAsSeenBehind 11 = .ok (.getfield 31, 3) := by decide +kernel
theorem dX0_saysAsSeenBehind_14 : decode cX0_saysAsSeenBehind 14 = .ok (.iload_n 2, 1) := by decide +kernel
theorem dX0_saysAsSeenBehind_15 : decode cX0_saysAsSeenBehind 15 = .ok (.iaload, 1) := by decide +kernel
theorem dX0_saysAsSeenBehind_16 : decode cX0_saysAsSeenBehind 16 = .ok (.istore_n 3, 1) := by decide +kernel
theorem dX0_saysAsSeenBehind_17 : decode cX0_saysAsSeenBehind 17 = .ok (.aload_n 0, 1) := by decide +kernel
theorem dX0_saysAsSeenBehind_18 : decode cX0_saysAsSeenBehind 18 = .ok (.getfield 28, 3) := by decide +kernel
theorem dX0_saysAsSeenBehind_21 : decode cX0_saysAsSeenBehind 21 = .ok (.iload_n 2, 1) := by decide +kernel
theorem dX0_saysAsSeenBehind_22 : decode cX0_saysAsSeenBehind 22 = .ok (.iaload, 1) := by decide +kernel
theorem dX0_saysAsSeenBehind_23 : decode cX0_saysAsSeenBehind 23 = .ok (.iload_n 1, 1) := by decide +kernel
theorem dX0_saysAsSeenBehind_24 : decode cX0_saysAsSeenBehind 24 = .ok (.if_icmp .ne 31, 3) := by decide +kernel
theorem dX0_saysAsSeenBehind_27 : decode cX0_saysAsSeenBehind 27 = .ok (.aload_n 0, 1) := by decide +kernel
theorem dX0_saysAsSeenBehind_28 : decode cX0_saysAsSeenBehind 28 = .ok (.iload_n 3, 1) := by decide +kernel
theorem dX0_saysAsSeenBehind_29 : decode cX0_saysAsSeenBehind 29 = .ok (.invokevirtual 127, 3) := by decide +kernel
theorem dX0_saysAsSeenBehind_32 : decode cX0_saysAsSeenBehind 32 = .ok (.ifCond .eq 23, 3) := by decide +kernel
theorem dX0_saysAsSeenBehind_35 : decode cX0_saysAsSeenBehind 35 = .ok (.aload_n 0, 1) := by decide +kernel
theorem dX0_saysAsSeenBehind_36 : decode cX0_saysAsSeenBehind 36 = .ok (.getfield 11, 3) := by decide +kernel
theorem dX0_saysAsSeenBehind_39 : decode cX0_saysAsSeenBehind 39 = .ok (.iload_n 3, 1) := by decide +kernel
theorem dX0_saysAsSeenBehind_40 : decode cX0_saysAsSeenBehind 40 = .ok (.aaload, 1) := by decide +kernel
theorem dX0_saysAsSeenBehind_41 : decode cX0_saysAsSeenBehind 41 = .ok (.getfield 79, 3) := by decide +kernel
theorem dX0_saysAsSeenBehind_44 : decode cX0_saysAsSeenBehind 44 = .ok (.aload_n 0, 1) := by decide +kernel
theorem dX0_saysAsSeenBehind_45 : decode cX0_saysAsSeenBehind 45 = .ok (.getfield 34, 3) := by decide +kernel
theorem dX0_saysAsSeenBehind_48 : decode cX0_saysAsSeenBehind 48 = .ok (.iload_n 2, 1) := by decide +kernel
theorem dX0_saysAsSeenBehind_49 : decode cX0_saysAsSeenBehind 49 = .ok (.iaload, 1) := by decide +kernel
theorem dX0_saysAsSeenBehind_50 : decode cX0_saysAsSeenBehind 50 = .ok (.if_icmp .eq 5, 3) := by decide +kernel
theorem dX0_saysAsSeenBehind_53 : decode cX0_saysAsSeenBehind 53 = .ok (.iconst 0, 1) := by decide +kernel
theorem dX0_saysAsSeenBehind_54 : decode cX0_saysAsSeenBehind 54 = .ok (.ireturn, 1) := by decide +kernel
theorem dX0_saysAsSeenBehind_55 : decode cX0_saysAsSeenBehind 55 = .ok (.iinc 2 1, 3) := by decide +kernel
theorem dX0_saysAsSeenBehind_58 : decode cX0_saysAsSeenBehind 58 = .ok (.goto (-56), 3) := by decide +kernel
theorem dX0_saysAsSeenBehind_61 : decode cX0_saysAsSeenBehind 61 = .ok (.iconst 1, 1) := by decide +kernel
theorem dX0_saysAsSeenBehind_62 : decode cX0_saysAsSeenBehind 62 = .ok (.ireturn, 1) := by decide +kernel
theorem dX0_hasPressOfNoKey_0 : decode cX0_hasPressOfNoKey 0 = .ok (.iconst 0, 1) := by decide +kernel
theorem dX0_hasPressOfNoKey_1 : decode cX0_hasPressOfNoKey 1 = .ok (.istore_n 1, 1) := by decide +kernel
theorem dX0_hasPressOfNoKey_2 : decode cX0_hasPressOfNoKey 2 = .ok (.iload_n 1, 1) := by decide +kernel
theorem dX0_hasPressOfNoKey_3 : decode cX0_hasPressOfNoKey 3 = .ok (.aload_n 0, 1) := by decide +kernel
theorem dX0_hasPressOfNoKey_4 : decode cX0_hasPressOfNoKey 4 = .ok (.getfield 44, 3) := by decide +kernel
theorem dX0_hasPressOfNoKey_7 : decode cX0_hasPressOfNoKey 7 = .ok (.if_icmp .ge 24, 3) := by decide +kernel
theorem dX0_hasPressOfNoKey_10 : decode cX0_hasPressOfNoKey 10 = .ok (.aload_n 0, 1) := by decide +kernel
theorem dX0_hasPressOfNoKey_11 : decode cX0_hasPressOfNoKey 11 = .ok (.aload_n 0, 1) := by decide +kernel
theorem dX0_hasPressOfNoKey_12 : decode cX0_hasPressOfNoKey 12 = .ok (.getfield 22, 3) := by decide +kernel
theorem dX0_hasPressOfNoKey_15 : decode cX0_hasPressOfNoKey 15 = .ok (.iload_n 1, 1) := by decide +kernel
theorem dX0_hasPressOfNoKey_16 : decode cX0_hasPressOfNoKey 16 = .ok (.iaload, 1) := by decide +kernel
theorem dX0_hasPressOfNoKey_17 : decode cX0_hasPressOfNoKey 17 = .ok (.invokevirtual 127, 3) := by decide +kernel
theorem dX0_hasPressOfNoKey_20 : decode cX0_hasPressOfNoKey 20 = .ok (.ifCond .ne 5, 3) := by decide +kernel
theorem dX0_hasPressOfNoKey_23 : decode cX0_hasPressOfNoKey 23 = .ok (.iconst 1, 1) := by decide +kernel
theorem dX0_hasPressOfNoKey_24 : decode cX0_hasPressOfNoKey 24 = .ok (.ireturn, 1) := by decide +kernel
theorem dX0_hasPressOfNoKey_25 : decode cX0_hasPressOfNoKey 25 = .ok (.iinc 1 1, 3) := by decide +kernel
theorem dX0_hasPressOfNoKey_28 : decode cX0_hasPressOfNoKey 28 = .ok (.goto (-26), 3) := by decide +kernel
theorem dX0_hasPressOfNoKey_31 : decode cX0_hasPressOfNoKey 31 = .ok (.iconst 0, 1) := by decide +kernel
theorem dX0_hasPressOfNoKey_32 : decode cX0_hasPressOfNoKey 32 = .ok (.ireturn, 1) := by decide +kernel
theorem dX1_init_0 : decode cX1_init 0 = .ok (.aload_n 0, 1) := by decide +kernel
theorem dX1_init_1 : decode cX1_init 1 = .ok (.invokespecial 3, 3) := by decide +kernel
theorem dX1_init_4 : decode cX1_init 4 = .ok (.return_, 1) := by decide +kernel
theorem dX1_begin_0 : decode cX1_begin 0 = .ok (.aload_n 0, 1) := by decide +kernel
theorem dX1_begin_1 : decode cX1_begin 1 = .ok (.iload_n 2, 1) := by decide +kernel
theorem dX1_begin_2 : decode cX1_begin 2 = .ok (.putfield 9, 3) := by decide +kernel
theorem dX1_begin_5 : decode cX1_begin 5 = .ok (.aload_n 0, 1) := by decide +kernel
theorem dX1_begin_6 : decode cX1_begin 6 = .ok (.iload_n 1, 1) := by decide +kernel
theorem dX1_begin_7 : decode cX1_begin 7 = .ok (.putfield 15, 3) := by decide +kernel
theorem dX1_begin_10 : decode cX1_begin 10 = .ok (.aload_n 0, 1) := by decide +kernel
theorem dX1_begin_11 : decode cX1_begin 11 = .ok (.iload_n 3, 1) := by decide +kernel
theorem dX1_begin_12 : decode cX1_begin 12 = .ok (.putfield 18, 3) := by decide +kernel
theorem dX1_begin_15 : decode cX1_begin 15 = .ok (.aload_n 0, 1) := by decide +kernel
theorem dX1_begin_16 : decode cX1_begin 16 = .ok (.iconst 0, 1) := by decide +kernel
theorem dX1_begin_17 : decode cX1_begin 17 = .ok (.putfield 21, 3) := by decide +kernel
theorem dX1_begin_20 : decode cX1_begin 20 = .ok (.aload_n 0, 1) := by decide +kernel
theorem dX1_begin_21 : decode cX1_begin 21 = .ok (.iconst 0, 1) := by decide +kernel
theorem dX1_begin_22 : decode cX1_begin 22 = .ok (.putfield 24, 3) := by decide +kernel
theorem dX1_begin_25 : decode cX1_begin 25 = .ok (.aload_n 0, 1) := by decide +kernel
theorem dX1_begin_26 : decode cX1_begin 26 = .ok (.iconst 0, 1) := by decide +kernel
theorem dX1_begin_27 : decode cX1_begin 27 = .ok (.putfield 27, 3) := by decide +kernel
theorem dX1_begin_30 : decode cX1_begin 30 = .ok (.aload_n 0, 1) := by decide +kernel
theorem dX1_begin_31 : decode cX1_begin 31 = .ok (.iconst 0, 1) := by decide +kernel
theorem dX1_begin_32 : decode cX1_begin 32 = .ok (.putfield 30, 3) := by decide +kernel
theorem dX1_begin_35 : decode cX1_begin 35 = .ok (.aload_n 0, 1) := by decide +kernel
theorem dX1_begin_36 : decode cX1_begin 36 = .ok (.invokevirtual 33, 3) := by decide +kernel
theorem dX1_begin_39 : decode cX1_begin 39 = .ok (.return_, 1) := by decide +kernel
theorem dX1_startRun_0 : decode cX1_startRun 0 = .ok (.aload_n 0, 1) := by decide +kernel
theorem dX1_startRun_1 : decode cX1_startRun 1 = .ok (.iconst 0, 1) := by decide +kernel
theorem dX1_startRun_2 : decode cX1_startRun 2 = .ok (.putfield 36, 3) := by decide +kernel
theorem dX1_startRun_5 : decode cX1_startRun 5 = .ok (.aload_n 0, 1) := by decide +kernel
theorem dX1_startRun_6 : decode cX1_startRun 6 = .ok (.iconst 0, 1) := by decide +kernel
theorem dX1_startRun_7 : decode cX1_startRun 7 = .ok (.putfield 39, 3) := by decide +kernel
theorem dX1_startRun_10 : decode cX1_startRun 10 = .ok (.return_, 1) := by decide +kernel
theorem dX1_copyFrom_0 : decode cX1_copyFrom 0 = .ok (.aload_n 0, 1) := by decide +kernel
theorem dX1_copyFrom_1 : decode cX1_copyFrom 1 = .ok (.aload_n 1, 1) := by decide +kernel
theorem dX1_copyFrom_2 : decode cX1_copyFrom 2 = .ok (.getfield 9, 3) := by decide +kernel
theorem dX1_copyFrom_5 : decode cX1_copyFrom 5 = .ok (.putfield 9, 3) := by decide +kernel
theorem dX1_copyFrom_8 : decode cX1_copyFrom 8 = .ok (.aload_n 0, 1) := by decide +kernel
theorem dX1_copyFrom_9 : decode cX1_copyFrom 9 = .ok (.aload_n 1, 1) := by decide +kernel
theorem dX1_copyFrom_10 : decode cX1_copyFrom 10 = .ok (.getfield 15, 3) := by decide +kernel
theorem dX1_copyFrom_13 : decode cX1_copyFrom 13 = .ok (.putfield 15, 3) := by decide +kernel
theorem dX1_copyFrom_16 : decode cX1_copyFrom 16 = .ok (.aload_n 0, 1) := by decide +kernel
theorem dX1_copyFrom_17 : decode cX1_copyFrom 17 = .ok (.aload_n 1, 1) := by decide +kernel
theorem dX1_copyFrom_18 : decode cX1_copyFrom 18 = .ok (.getfield 18, 3) := by decide +kernel
theorem dX1_copyFrom_21 : decode cX1_copyFrom 21 = .ok (.putfield 18, 3) := by decide +kernel
theorem dX1_copyFrom_24 : decode cX1_copyFrom 24 = .ok (.aload_n 0, 1) := by decide +kernel
theorem dX1_copyFrom_25 : decode cX1_copyFrom 25 = .ok (.aload_n 1, 1) := by decide +kernel
theorem dX1_copyFrom_26 : decode cX1_copyFrom 26 = .ok (.getfield 21, 3) := by decide +kernel
theorem dX1_copyFrom_29 : decode cX1_copyFrom 29 = .ok (.putfield 21, 3) := by decide +kernel
theorem dX1_copyFrom_32 : decode cX1_copyFrom 32 = .ok (.aload_n 0, 1) := by decide +kernel
theorem dX1_copyFrom_33 : decode cX1_copyFrom 33 = .ok (.aload_n 1, 1) := by decide +kernel
theorem dX1_copyFrom_34 : decode cX1_copyFrom 34 = .ok (.getfield 24, 3) := by decide +kernel
theorem dX1_copyFrom_37 : decode cX1_copyFrom 37 = .ok (.putfield 24, 3) := by decide +kernel
theorem dX1_copyFrom_40 : decode cX1_copyFrom 40 = .ok (.aload_n 0, 1) := by decide +kernel
theorem dX1_copyFrom_41 : decode cX1_copyFrom 41 = .ok (.aload_n 1, 1) := by decide +kernel
theorem dX1_copyFrom_42 : decode cX1_copyFrom 42 = .ok (.getfield 27, 3) := by decide +kernel
theorem dX1_copyFrom_45 : decode cX1_copyFrom 45 = .ok (.putfield 27, 3) := by decide +kernel
theorem dX1_copyFrom_48 : decode cX1_copyFrom 48 = .ok (.aload_n 0, 1) := by decide +kernel
theorem dX1_copyFrom_49 : decode cX1_copyFrom 49 = .ok (.aload_n 1, 1) := by decide +kernel
theorem dX1_copyFrom_50 : decode cX1_copyFrom 50 = .ok (.getfield 30, 3) := by decide +kernel
theorem dX1_copyFrom_53 : decode cX1_copyFrom 53 = .ok (.putfield 30, 3) := by decide +kernel
theorem dX1_copyFrom_56 : decode cX1_copyFrom 56 = .ok (.return_, 1) := by decide +kernel
theorem dX1_mayBe_0 : decode cX1_mayBe 0 = .ok (.iload_n 0, 1) := by decide +kernel
theorem dX1_mayBe_1 : decode cX1_mayBe 1 = .ok (.tableswitch 50 0 2 #[27, 35, 42], 27) := by decide +kernel
theorem dX1_mayBe_28 : decode cX1_mayBe 28 = .ok (.iload_n 1, 1) := by decide +kernel
theorem dX1_mayBe_29 : decode cX1_mayBe 29 = .ok (.iconst 0, 1) := by decide +kernel
theorem dX1_mayBe_30 : decode cX1_mayBe 30 = .ok (.bipush 9, 2) := by decide +kernel
theorem dX1_mayBe_32 : decode cX1_mayBe 32 = .ok (.invokestatic 42, 3) := by decide +kernel
theorem dX1_mayBe_35 : decode cX1_mayBe 35 = .ok (.ireturn, 1) := by decide +kernel
theorem dX1_mayBe_36 : decode cX1_mayBe 36 = .ok (.iload_n 1, 1) := by decide +kernel
theorem dX1_mayBe_37 : decode cX1_mayBe 37 = .ok (.iconst 0, 1) := by decide +kernel
theorem dX1_mayBe_38 : decode cX1_mayBe 38 = .ok (.iconst 3, 1) := by decide +kernel
theorem dX1_mayBe_39 : decode cX1_mayBe 39 = .ok (.invokestatic 42, 3) := by decide +kernel
theorem dX1_mayBe_42 : decode cX1_mayBe 42 = .ok (.ireturn, 1) := by decide +kernel
theorem dX1_mayBe_43 : decode cX1_mayBe 43 = .ok (.iload_n 1, 1) := by decide +kernel
theorem dX1_mayBe_44 : decode cX1_mayBe 44 = .ok (.iconst 1, 1) := by decide +kernel
theorem dX1_mayBe_45 : decode cX1_mayBe 45 = .ok (.bipush 9, 2) := by decide +kernel
theorem dX1_mayBe_47 : decode cX1_mayBe 47 = .ok (.invokestatic 42, 3) := by decide +kernel
theorem dX1_mayBe_50 : decode cX1_mayBe 50 = .ok (.ireturn, 1) := by decide +kernel
theorem dX1_mayBe_51 : decode cX1_mayBe 51 = .ok (.iconst 0, 1) := by decide +kernel
theorem dX1_mayBe_52 : decode cX1_mayBe 52 = .ok (.ireturn, 1) := by decide +kernel
theorem dX1_part_0 : decode cX1_part 0 = .ok (.iload_n 1, 1) := by decide +kernel
theorem dX1_part_1 : decode cX1_part 1 = .ok (.lookupswitch 37 #[(0, 27), (1, 32)], 27) := by decide +kernel
theorem dX1_part_28 : decode cX1_part 28 = .ok (.aload_n 0, 1) := by decide +kernel
theorem dX1_part_29 : decode cX1_part 29 = .ok (.getfield 9, 3) := by decide +kernel
theorem dX1_part_32 : decode cX1_part 32 = .ok (.ireturn, 1) := by decide +kernel
theorem dX1_part_33 : decode cX1_part 33 = .ok (.aload_n 0, 1) := by decide +kernel
theorem dX1_part_34 : decode cX1_part 34 = .ok (.getfield 15, 3) := by decide +kernel
theorem dX1_part_37 : decode cX1_part 37 = .ok (.ireturn, 1) := by decide +kernel
theorem dX1_part_38 : decode cX1_part 38 = .ok (.aload_n 0, 1) := by decide +kernel
theorem dX1_part_39 : decode cX1_part 39 = .ok (.getfield 18, 3) := by decide +kernel
theorem dX1_part_42 : decode cX1_part 42 = .ok (.ireturn, 1) := by decide +kernel
theorem dX1_become_0 : decode cX1_become 0 = .ok (.iload_n 1, 1) := by decide +kernel
theorem dX1_become_1 : decode cX1_become 1 = .ok (.lookupswitch 43 #[(0, 27), (1, 35)], 27) := by decide +kernel
theorem dX1_become_28 : decode cX1_become 28 = .ok (.aload_n 0, 1) := by decide +kernel
theorem dX1_become_29 : decode cX1_become 29 = .ok (.iload_n 2, 1) := by decide +kernel
theorem dX1_become_30 : decode cX1_become 30 = .ok (.putfield 9, 3) := by decide +kernel
theorem dX1_become_33 : decode cX1_become 33 = .ok (.goto 16, 3) := by decide +kernel
theorem dX1_become_36 : decode cX1_become 36 = .ok (.aload_n 0, 1) := by decide +kernel
theorem dX1_become_37 : decode cX1_become 37 = .ok (.iload_n 2, 1) := by decide +kernel
theorem dX1_become_38 : decode cX1_become 38 = .ok (.putfield 15, 3) := by decide +kernel
theorem dX1_become_41 : decode cX1_become 41 = .ok (.goto 8, 3) := by decide +kernel
theorem dX1_become_44 : decode cX1_become 44 = .ok (.aload_n 0, 1) := by decide +kernel
theorem dX1_become_45 : decode cX1_become 45 = .ok (.iload_n 2, 1) := by decide +kernel
theorem dX1_become_46 : decode cX1_become 46 = .ok (.putfield 18, 3) := by decide +kernel
theorem dX1_become_49 : decode cX1_become 49 = .ok (.aload_n 0, 1) := by decide +kernel
theorem dX1_become_50 : decode cX1_become 50 = .ok (.aload_n 0, 1) := by decide +kernel
theorem dX1_become_51 : decode cX1_become 51 = .ok (.getfield 24, 3) := by decide +kernel
theorem dX1_become_54 : decode cX1_become 54 = .ok (.aload_n 0, 1) := by decide +kernel
theorem dX1_become_55 : decode cX1_become 55 = .ok (.getfield 18, 3) := by decide +kernel
theorem dX1_become_58 : decode cX1_become 58 = .ok (.invokestatic 46, 3) := by decide +kernel
theorem dX1_become_61 : decode cX1_become 61 = .ok (.putfield 24, 3) := by decide +kernel
theorem dX1_become_64 : decode cX1_become 64 = .ok (.return_, 1) := by decide +kernel
theorem dX1_look_0 : decode cX1_look 0 = .ok (.aload_n 0, 1) := by decide +kernel
theorem dX1_look_1 : decode cX1_look 1 = .ok (.getfield 27, 3) := by decide +kernel
theorem dX1_look_4 : decode cX1_look 4 = .ok (.ifCond .le 16, 3) := by decide +kernel
theorem dX1_look_7 : decode cX1_look 7 = .ok (.aload_n 0, 1) := by decide +kernel
theorem dX1_look_8 : decode cX1_look 8 = .ok (.dup, 1) := by decide +kernel
theorem dX1_look_9 : decode cX1_look 9 = .ok (.getfield 27, 3) := by decide +kernel
theorem dX1_look_12 : decode cX1_look 12 = .ok (.iconst 1, 1) := by decide +kernel
theorem dX1_look_13 : decode cX1_look 13 = .ok (.isub, 1) := by decide +kernel
theorem dX1_look_14 : decode cX1_look 14 = .ok (.putfield 27, 3) := by decide +kernel
theorem dX1_look_17 : decode cX1_look 17 = .ok (.goto 28, 3) := by decide +kernel
theorem dX1_look_20 : decode cX1_look 20 = .ok (.aload_n 0, 1) := by decide +kernel
theorem dX1_look_21 : decode cX1_look 21 = .ok (.aload_n 0, 1) := by decide +kernel
theorem dX1_look_22 : decode cX1_look 22 = .ok (.getfield 15, 3) := by decide +kernel
theorem dX1_look_25 : decode cX1_look 25 = .ok (.iconst 1, 1) := by decide +kernel
theorem dX1_look_26 : decode cX1_look 26 = .ok (.if_icmp .ne 11, 3) := by decide +kernel
theorem dX1_look_29 : decode cX1_look 29 = .ok (.aload_n 0, 1) := by decide +kernel
theorem dX1_look_30 : decode cX1_look 30 = .ok (.iload_n 1, 1) := by decide +kernel
theorem dX1_look_31 : decode cX1_look 31 = .ok (.invokevirtual 52, 3) := by decide +kernel
theorem dX1_look_34 : decode cX1_look 34 = .ok (.goto 8, 3) := by decide +kernel
theorem dX1_look_37 : decode cX1_look 37 = .ok (.aload_n 0, 1) := by decide +kernel
theorem dX1_look_38 : decode cX1_look 38 = .ok (.iload_n 1, 1) := by decide +kernel
theorem dX1_look_39 : decode cX1_look 39 = .ok (.invokevirtual 56, 3) := by decide +kernel
theorem dX1_look_42 : decode cX1_look 42 = .ok (.invokevirtual 59, 3) := by decide +kernel
theorem dX1_look_45 : decode cX1_look 45 = .ok (.return_, 1) := by decide +kernel
theorem dX1_weigh_0 : decode cX1_weigh 0 = .ok (.aload_n 0, 1) := by decide +kernel
theorem dX1_weigh_1 : decode cX1_weigh 1 = .ok (.iload_n 1, 1) := by decide +kernel
theorem dX1_weigh_2 : decode cX1_weigh 2 = .ok (.iconst 1, 1) := by decide +kernel
theorem dX1_weigh_3 : decode cX1_weigh 3 = .ok (.if_icmp .ne 19, 3) := by decide +kernel
theorem dX1_weigh_6 : decode cX1_weigh 6 = .ok (.aload_n 0, 1) := by decide +kernel
theorem dX1_weigh_7 : decode cX1_weigh 7 = .ok (.getfield 24, 3) := by decide +kernel
theorem dX1_weigh_10 : decode cX1_weigh 10 = .ok (.iconst 1, 1) := by decide +kernel
theorem dX1_weigh_11 : decode cX1_weigh 11 = .ok (.iadd, 1) := by decide +kernel
theorem dX1_weigh_12 : decode cX1_weigh 12 = .ok (.aload_n 0, 1) := by decide +kernel
theorem dX1_weigh_13 : decode cX1_weigh 13 = .ok (.getfield 18, 3) := by decide +kernel
theorem dX1_weigh_16 : decode cX1_weigh 16 = .ok (.invokestatic 46, 3) := by decide +kernel
theorem dX1_weigh_19 : decode cX1_weigh 19 = .ok (.goto 13, 3) := by decide +kernel
theorem dX1_weigh_22 : decode cX1_weigh 22 = .ok (.aload_n 0, 1) := by decide +kernel
theorem dX1_weigh_23 : decode cX1_weigh 23 = .ok (.getfield 24, 3) := by decide +kernel
theorem dX1_weigh_26 : decode cX1_weigh 26 = .ok (.iconst 1, 1) := by decide +kernel
theorem dX1_weigh_27 : decode cX1_weigh 27 = .ok (.isub, 1) := by decide +kernel
theorem dX1_weigh_28 : decode cX1_weigh 28 = .ok (.iconst 0, 1) := by decide +kernel
theorem dX1_weigh_29 : decode cX1_weigh 29 = .ok (.invokestatic 63, 3) := by decide +kernel
theorem dX1_weigh_32 : decode cX1_weigh 32 = .ok (.putfield 24, 3) := by decide +kernel
theorem dX1_weigh_35 : decode cX1_weigh 35 = .ok (.aload_n 0, 1) := by decide +kernel
theorem dX1_weigh_36 : decode cX1_weigh 36 = .ok (.getfield 24, 3) := by decide +kernel
theorem dX1_weigh_39 : decode cX1_weigh 39 = .ok (.aload_n 0, 1) := by decide +kernel
theorem dX1_weigh_40 : decode cX1_weigh 40 = .ok (.getfield 18, 3) := by decide +kernel
theorem dX1_weigh_43 : decode cX1_weigh 43 = .ok (.if_icmp .ne 5, 3) := by decide +kernel
theorem dX1_weigh_46 : decode cX1_weigh 46 = .ok (.iconst 1, 1) := by decide +kernel
theorem dX1_weigh_47 : decode cX1_weigh 47 = .ok (.ireturn, 1) := by decide +kernel
theorem dX1_weigh_48 : decode cX1_weigh 48 = .ok (.aload_n 0, 1) := by decide +kernel
theorem dX1_weigh_49 : decode cX1_weigh 49 = .ok (.getfield 24, 3) := by decide +kernel
theorem dX1_weigh_52 : decode cX1_weigh 52 = .ok (.ifCond .ne 7, 3) := by decide +kernel
theorem dX1_weigh_55 : decode cX1_weigh 55 = .ok (.iconst 0, 1) := by decide +kernel
theorem dX1_weigh_56 : decode cX1_weigh 56 = .ok (.goto 7, 3) := by decide +kernel
theorem dX1_weigh_59 : decode cX1_weigh 59 = .ok (.aload_n 0, 1) := by decide +kernel
theorem dX1_weigh_60 : decode cX1_weigh 60 = .ok (.getfield 21, 3) := by decide +kernel
theorem dX1_weigh_63 : decode cX1_weigh 63 = .ok (.ireturn, 1) := by decide +kernel
theorem dX1_compare_0 : decode cX1_compare 0 = .ok (.iload_n 1, 1) := by decide +kernel
theorem dX1_compare_1 : decode cX1_compare 1 = .ok (.aload_n 0, 1) := by decide +kernel
theorem dX1_compare_2 : decode cX1_compare 2 = .ok (.getfield 21, 3) := by decide +kernel
theorem dX1_compare_5 : decode cX1_compare 5 = .ok (.if_icmp .ne 13, 3) := by decide +kernel
theorem dX1_compare_8 : decode cX1_compare 8 = .ok (.aload_n 0, 1) := by decide +kernel
theorem dX1_compare_9 : decode cX1_compare 9 = .ok (.iconst 0, 1) := by decide +kernel
theorem dX1_compare_10 : decode cX1_compare 10 = .ok (.putfield 24, 3) := by decide +kernel
theorem dX1_compare_13 : decode cX1_compare 13 = .ok (.aload_n 0, 1) := by decide +kernel
theorem dX1_compare_14 : decode cX1_compare 14 = .ok (.getfield 21, 3) := by decide +kernel
theorem dX1_compare_17 : decode cX1_compare 17 = .ok (.ireturn, 1) := by decide +kernel
theorem dX1_compare_18 : decode cX1_compare 18 = .ok (.aload_n 0, 1) := by decide +kernel
theorem dX1_compare_19 : decode cX1_compare 19 = .ok (.dup, 1) := by decide +kernel
theorem dX1_compare_20 : decode cX1_compare 20 = .ok (.getfield 24, 3) := by decide +kernel
theorem dX1_compare_23 : decode cX1_compare 23 = .ok (.iconst 1, 1) := by decide +kernel
theorem dX1_compare_24 : decode cX1_compare 24 = .ok (.iadd, 1) := by decide +kernel
theorem dX1_compare_25 : decode cX1_compare 25 = .ok (.putfield 24, 3) := by decide +kernel
theorem dX1_compare_28 : decode cX1_compare 28 = .ok (.aload_n 0, 1) := by decide +kernel
theorem dX1_compare_29 : decode cX1_compare 29 = .ok (.getfield 15, 3) := by decide +kernel
theorem dX1_compare_32 : decode cX1_compare 32 = .ok (.iconst 2, 1) := by decide +kernel
theorem dX1_compare_33 : decode cX1_compare 33 = .ok (.if_icmp .ne 7, 3) := by decide +kernel
theorem dX1_compare_36 : decode cX1_compare 36 = .ok (.iconst 1, 1) := by decide +kernel
theorem dX1_compare_37 : decode cX1_compare 37 = .ok (.goto 7, 3) := by decide +kernel
theorem dX1_compare_40 : decode cX1_compare 40 = .ok (.aload_n 0, 1) := by decide +kernel
theorem dX1_compare_41 : decode cX1_compare 41 = .ok (.getfield 18, 3) := by decide +kernel
theorem dX1_compare_44 : decode cX1_compare 44 = .ok (.istore_n 2, 1) := by decide +kernel
theorem dX1_compare_45 : decode cX1_compare 45 = .ok (.aload_n 0, 1) := by decide +kernel
theorem dX1_compare_46 : decode cX1_compare 46 = .ok (.getfield 24, 3) := by decide +kernel
theorem dX1_compare_49 : decode cX1_compare 49 = .ok (.iload_n 2, 1) := by decide +kernel
theorem dX1_compare_50 : decode cX1_compare 50 = .ok (.if_icmp .ge 8, 3) := by decide +kernel
theorem dX1_compare_53 : decode cX1_compare 53 = .ok (.aload_n 0, 1) := by decide +kernel
theorem dX1_compare_54 : decode cX1_compare 54 = .ok (.getfield 21, 3) := by decide +kernel
theorem dX1_compare_57 : decode cX1_compare 57 = .ok (.ireturn, 1) := by decide +kernel
theorem dX1_compare_58 : decode cX1_compare 58 = .ok (.aload_n 0, 1) := by decide +kernel
theorem dX1_compare_59 : decode cX1_compare 59 = .ok (.iconst 0, 1) := by decide +kernel
theorem dX1_compare_60 : decode cX1_compare 60 = .ok (.putfield 24, 3) := by decide +kernel
theorem dX1_compare_63 : decode cX1_compare 63 = .ok (.aload_n 0, 1) := by decide +kernel
theorem dX1_compare_64 : decode cX1_compare 64 = .ok (.aload_n 0, 1) := by decide +kernel
theorem dX1_compare_65 : decode cX1_compare 65 = .ok (.getfield 15, 3) := by decide +kernel
theorem dX1_compare_68 : decode cX1_compare 68 = .ok (.ifCond .ne 7, 3) := by decide +kernel
theorem dX1_compare_71 : decode cX1_compare 71 = .ok (.iconst 0, 1) := by decide +kernel
theorem dX1_compare_72 : decode cX1_compare 72 = .ok (.goto 7, 3) := by decide +kernel
theorem dX1_compare_75 : decode cX1_compare 75 = .ok (.aload_n 0, 1) := by decide +kernel
theorem dX1_compare_76 : decode cX1_compare 76 = .ok (.getfield 18, 3) := by decide +kernel
theorem dX1_compare_79 : decode cX1_compare 79 = .ok (.putfield 27, 3) := by decide +kernel
theorem dX1_compare_82 : decode cX1_compare 82 = .ok (.iload_n 1, 1) := by decide +kernel
theorem dX1_compare_83 : decode cX1_compare 83 = .ok (.ireturn, 1) := by decide +kernel
theorem dX1_say_0 : decode cX1_say 0 = .ok (.iload_n 1, 1) := by decide +kernel
theorem dX1_say_1 : decode cX1_say 1 = .ok (.aload_n 0, 1) := by decide +kernel
theorem dX1_say_2 : decode cX1_say 2 = .ok (.getfield 21, 3) := by decide +kernel
theorem dX1_say_5 : decode cX1_say 5 = .ok (.if_icmp .ne 4, 3) := by decide +kernel
theorem dX1_say_8 : decode cX1_say 8 = .ok (.return_, 1) := by decide +kernel
theorem dX1_say_9 : decode cX1_say 9 = .ok (.aload_n 0, 1) := by decide +kernel
theorem dX1_say_10 : decode cX1_say 10 = .ok (.iload_n 1, 1) := by decide +kernel
theorem dX1_say_11 : decode cX1_say 11 = .ok (.putfield 21, 3) := by decide +kernel
theorem dX1_say_14 : decode cX1_say 14 = .ok (.aload_n 0, 1) := by decide +kernel
theorem dX1_say_15 : decode cX1_say 15 = .ok (.dup, 1) := by decide +kernel
theorem dX1_say_16 : decode cX1_say 16 = .ok (.getfield 39, 3) := by decide +kernel
theorem dX1_say_19 : decode cX1_say 19 = .ok (.iconst 1, 1) := by decide +kernel
theorem dX1_say_20 : decode cX1_say 20 = .ok (.iadd, 1) := by decide +kernel
theorem dX1_say_21 : decode cX1_say 21 = .ok (.putfield 39, 3) := by decide +kernel
theorem dX1_say_24 : decode cX1_say 24 = .ok (.iload_n 1, 1) := by decide +kernel
theorem dX1_say_25 : decode cX1_say 25 = .ok (.iconst 1, 1) := by decide +kernel
theorem dX1_say_26 : decode cX1_say 26 = .ok (.if_icmp .ne 29, 3) := by decide +kernel
theorem dX1_say_29 : decode cX1_say 29 = .ok (.aload_n 0, 1) := by decide +kernel
theorem dX1_say_30 : decode cX1_say 30 = .ok (.dup, 1) := by decide +kernel
theorem dX1_say_31 : decode cX1_say 31 = .ok (.getfield 36, 3) := by decide +kernel
theorem dX1_say_34 : decode cX1_say 34 = .ok (.iconst 1, 1) := by decide +kernel
theorem dX1_say_35 : decode cX1_say 35 = .ok (.iadd, 1) := by decide +kernel
theorem dX1_say_36 : decode cX1_say 36 = .ok (.putfield 36, 3) := by decide +kernel
theorem dX1_say_39 : decode cX1_say 39 = .ok (.aload_n 0, 1) := by decide +kernel
theorem dX1_say_40 : decode cX1_say 40 = .ok (.aload_n 0, 1) := by decide +kernel
theorem dX1_say_41 : decode cX1_say 41 = .ok (.getfield 30, 3) := by decide +kernel
theorem dX1_say_44 : decode cX1_say 44 = .ok (.iconst 1, 1) := by decide +kernel
theorem dX1_say_45 : decode cX1_say 45 = .ok (.iadd, 1) := by decide +kernel
theorem dX1_say_46 : decode cX1_say 46 = .ok (.sipush 999, 3) := by decide +kernel
theorem dX1_say_49 : decode cX1_say 49 = .ok (.invokestatic 46, 3) := by decide +kernel
theorem dX1_say_52 : decode cX1_say 52 = .ok (.putfield 30, 3) := by decide +kernel
theorem dX1_say_55 : decode cX1_say 55 = .ok (.return_, 1) := by decide +kernel
theorem dX2_init_0 : decode cX2_init 0 = .ok (.aload_n 0, 1) := by decide +kernel
theorem dX2_init_1 : decode cX2_init 1 = .ok (.invokespecial 3, 3) := by decide +kernel
theorem dX2_init_4 : decode cX2_init 4 = .ok (.aload_n 0, 1) := by decide +kernel
theorem dX2_init_5 : decode cX2_init 5 = .ok (.bipush 40, 2) := by decide +kernel
theorem dX2_init_7 : decode cX2_init 7 = .ok (.newarray .int, 2) := by decide +kernel
theorem dX2_init_9 : decode cX2_init 9 = .ok (.putfield 9, 3) := by decide +kernel
theorem dX2_init_12 : decode cX2_init 12 = .ok (.aload_n 0, 1) := by decide +kernel
theorem dX2_init_13 : decode cX2_init 13 = .ok (.iconst (-1), 1) := by decide +kernel
theorem dX2_init_14 : decode cX2_init 14 = .ok (.putfield 15, 3) := by decide +kernel
theorem dX2_init_17 : decode cX2_init 17 = .ok (.return_, 1) := by decide +kernel
theorem dX2_isLane_0 : decode cX2_isLane 0 = .ok (.iload_n 0, 1) := by decide +kernel
theorem dX2_isLane_1 : decode cX2_isLane 1 = .ok (.iconst 0, 1) := by decide +kernel
theorem dX2_isLane_2 : decode cX2_isLane 2 = .ok (.iconst 2, 1) := by decide +kernel
theorem dX2_isLane_3 : decode cX2_isLane 3 = .ok (.invokestatic 19, 3) := by decide +kernel
theorem dX2_isLane_6 : decode cX2_isLane 6 = .ok (.ireturn, 1) := by decide +kernel
theorem dX2_isNothing_0 : decode cX2_isNothing 0 = .ok (.aload_n 0, 1) := by decide +kernel
theorem dX2_isNothing_1 : decode cX2_isNothing 1 = .ok (.getfield 15, 3) := by decide +kernel
theorem dX2_isNothing_4 : decode cX2_isNothing 4 = .ok (.iconst (-1), 1) := by decide +kernel
theorem dX2_isNothing_5 : decode cX2_isNothing 5 = .ok (.if_icmp .ne 7, 3) := by decide +kernel
theorem dX2_isNothing_8 : decode cX2_isNothing 8 = .ok (.iconst 1, 1) := by decide +kernel
theorem dX2_isNothing_9 : decode cX2_isNothing 9 = .ok (.goto 4, 3) := by decide +kernel
theorem dX2_isNothing_12 : decode cX2_isNothing 12 = .ok (.iconst 0, 1) := by decide +kernel
theorem dX2_isNothing_13 : decode cX2_isNothing 13 = .ok (.ireturn, 1) := by decide +kernel
theorem dX2_renew_0 : decode cX2_renew 0 = .ok (.aload_n 0, 1) := by decide +kernel
theorem dX2_renew_1 : decode cX2_renew 1 = .ok (.iload_n 1, 1) := by decide +kernel
theorem dX2_renew_2 : decode cX2_renew 2 = .ok (.putfield 15, 3) := by decide +kernel
theorem dX2_renew_5 : decode cX2_renew 5 = .ok (.aload_n 0, 1) := by decide +kernel
theorem dX2_renew_6 : decode cX2_renew 6 = .ok (.iload_n 2, 1) := by decide +kernel
theorem dX2_renew_7 : decode cX2_renew 7 = .ok (.bipush 40, 2) := by decide +kernel
theorem dX2_renew_9 : decode cX2_renew 9 = .ok (.invokestatic 23, 3) := by decide +kernel
theorem dX2_renew_12 : decode cX2_renew 12 = .ok (.putfield 29, 3) := by decide +kernel
theorem dX2_renew_15 : decode cX2_renew 15 = .ok (.iconst 0, 1) := by decide +kernel
theorem dX2_renew_16 : decode cX2_renew 16 = .ok (.istore_n 3, 1) := by decide +kernel
theorem dX2_renew_17 : decode cX2_renew 17 = .ok (.iload_n 3, 1) := by decide +kernel
theorem dX2_renew_18 : decode cX2_renew 18 = .ok (.bipush 40, 2) := by decide +kernel
theorem dX2_renew_20 : decode cX2_renew 20 = .ok (.if_icmp .ge 16, 3) := by decide +kernel
theorem dX2_renew_23 : decode cX2_renew 23 = .ok (.aload_n 0, 1) := by decide +kernel
theorem dX2_renew_24 : decode cX2_renew 24 = .ok (.getfield 9, 3) := by decide +kernel
theorem dX2_renew_27 : decode cX2_renew 27 = .ok (.iload_n 3, 1) := by decide +kernel
theorem dX2_renew_28 : decode cX2_renew 28 = .ok (.iconst 0, 1) := by decide +kernel
theorem dX2_renew_29 : decode cX2_renew 29 = .ok (.iastore, 1) := by decide +kernel
theorem dX2_renew_30 : decode cX2_renew 30 = .ok (.iinc 3 1, 3) := by decide +kernel
theorem dX2_renew_33 : decode cX2_renew 33 = .ok (.goto (-16), 3) := by decide +kernel
theorem dX2_renew_36 : decode cX2_renew 36 = .ok (.return_, 1) := by decide +kernel
theorem dX2_faultAt_0 : decode cX2_faultAt 0 = .ok (.aload_n 0, 1) := by decide +kernel
theorem dX2_faultAt_1 : decode cX2_faultAt 1 = .ok (.invokevirtual 32, 3) := by decide +kernel
theorem dX2_faultAt_4 : decode cX2_faultAt 4 = .ok (.ifCond .eq 5, 3) := by decide +kernel
theorem dX2_faultAt_7 : decode cX2_faultAt 7 = .ok (.iconst 1, 1) := by decide +kernel
theorem dX2_faultAt_8 : decode cX2_faultAt 8 = .ok (.ireturn, 1) := by decide +kernel
theorem dX2_faultAt_9 : decode cX2_faultAt 9 = .ok (.iload_n 1, 1) := by decide +kernel
theorem dX2_faultAt_10 : decode cX2_faultAt 10 = .ok (.iconst 0, 1) := by decide +kernel
theorem dX2_faultAt_11 : decode cX2_faultAt 11 = .ok (.aload_n 0, 1) := by decide +kernel
theorem dX2_faultAt_12 : decode cX2_faultAt 12 = .ok (.getfield 29, 3) := by decide +kernel
theorem dX2_faultAt_15 : decode cX2_faultAt 15 = .ok (.iconst 1, 1) := by decide +kernel
theorem dX2_faultAt_16 : decode cX2_faultAt 16 = .ok (.isub, 1) := by decide +kernel
theorem dX2_faultAt_17 : decode cX2_faultAt 17 = .ok (.invokestatic 19, 3) := by decide +kernel
theorem dX2_faultAt_20 : decode cX2_faultAt 20 = .ok (.ifCond .eq 7, 3) := by decide +kernel
theorem dX2_faultAt_23 : decode cX2_faultAt 23 = .ok (.iconst 0, 1) := by decide +kernel
theorem dX2_faultAt_24 : decode cX2_faultAt 24 = .ok (.goto 4, 3) := by decide +kernel
theorem dX2_faultAt_27 : decode cX2_faultAt 27 = .ok (.iconst 2, 1) := by decide +kernel
theorem dX2_faultAt_28 : decode cX2_faultAt 28 = .ok (.ireturn, 1) := by decide +kernel
theorem dX2_faultOfThree_0 : decode cX2_faultOfThree 0 = .ok (.aload_n 0, 1) := by decide +kernel
theorem dX2_faultOfThree_1 : decode cX2_faultOfThree 1 = .ok (.iload_n 1, 1) := by decide +kernel
theorem dX2_faultOfThree_2 : decode cX2_faultOfThree 2 = .ok (.invokevirtual 36, 3) := by decide +kernel
theorem dX2_faultOfThree_5 : decode cX2_faultOfThree 5 = .ok (.istore_n 3, 1) := by decide +kernel
theorem dX2_faultOfThree_6 : decode cX2_faultOfThree 6 = .ok (.iconst 0, 1) := by decide +kernel
theorem dX2_faultOfThree_7 : decode cX2_faultOfThree 7 = .ok (.istore 4, 2) := by decide +kernel
theorem dX2_faultOfThree_9 : decode cX2_faultOfThree 9 = .ok (.iload 4, 2) := by decide +kernel
theorem dX2_faultOfThree_11 : decode cX2_faultOfThree 11 = .ok (.iconst 3, 1) := by decide +kernel
theorem dX2_faultOfThree_12 : decode cX2_faultOfThree 12 = .ok (.if_icmp .ge 22, 3) := by decide +kernel
theorem dX2_faultOfThree_15 : decode cX2_faultOfThree 15 = .ok (.iload_n 3, 1) := by decide +kernel
theorem dX2_faultOfThree_16 : decode cX2_faultOfThree 16 = .ok (.ifCond .ne 18, 3) := by decide +kernel
theorem dX2_faultOfThree_19 : decode cX2_faultOfThree 19 = .ok (.aload_n 0, 1) := by decide +kernel
theorem dX2_faultOfThree_20 : decode cX2_faultOfThree 20 = .ok (.iload_n 2, 1) := by decide +kernel
theorem dX2_faultOfThree_21 : decode cX2_faultOfThree 21 = .ok (.iload 4, 2) := by decide +kernel
theorem dX2_faultOfThree_23 : decode cX2_faultOfThree 23 = .ok (.iadd, 1) := by decide +kernel
theorem dX2_faultOfThree_24 : decode cX2_faultOfThree 24 = .ok (.invokevirtual 40, 3) := by decide +kernel
theorem dX2_faultOfThree_27 : decode cX2_faultOfThree 27 = .ok (.istore_n 3, 1) := by decide +kernel
theorem dX2_faultOfThree_28 : decode cX2_faultOfThree 28 = .ok (.iinc 4 1, 3) := by decide +kernel
theorem dX2_faultOfThree_31 : decode cX2_faultOfThree 31 = .ok (.goto (-22), 3) := by decide +kernel
theorem dX2_faultOfThree_34 : decode cX2_faultOfThree 34 = .ok (.iload_n 3, 1) := by decide +kernel
theorem dX2_faultOfThree_35 : decode cX2_faultOfThree 35 = .ok (.ireturn, 1) := by decide +kernel
theorem dX2_faultAs_0 : decode cX2_faultAs 0 = .ok (.aload_n 0, 1) := by decide +kernel
theorem dX2_faultAs_1 : decode cX2_faultAs 1 = .ok (.invokevirtual 32, 3) := by decide +kernel
theorem dX2_faultAs_4 : decode cX2_faultAs 4 = .ok (.ifCond .ne 11, 3) := by decide +kernel
theorem dX2_faultAs_7 : decode cX2_faultAs 7 = .ok (.aload_n 0, 1) := by decide +kernel
theorem dX2_faultAs_8 : decode cX2_faultAs 8 = .ok (.getfield 15, 3) := by decide +kernel
theorem dX2_faultAs_11 : decode cX2_faultAs 11 = .ok (.iload_n 1, 1) := by decide +kernel
theorem dX2_faultAs_12 : decode cX2_faultAs 12 = .ok (.if_icmp .ne 7, 3) := by decide +kernel
theorem dX2_faultAs_15 : decode cX2_faultAs 15 = .ok (.iconst 0, 1) := by decide +kernel
theorem dX2_faultAs_16 : decode cX2_faultAs 16 = .ok (.goto 4, 3) := by decide +kernel
theorem dX2_faultAs_19 : decode cX2_faultAs 19 = .ok (.iconst 3, 1) := by decide +kernel
theorem dX2_faultAs_20 : decode cX2_faultAs 20 = .ok (.ireturn, 1) := by decide +kernel
theorem dX2_get_0 : decode cX2_get 0 = .ok (.aload_n 0, 1) := by decide +kernel
theorem dX2_get_1 : decode cX2_get 1 = .ok (.iload_n 1, 1) := by decide +kernel
theorem dX2_get_2 : decode cX2_get 2 = .ok (.invokevirtual 40, 3) := by decide +kernel
theorem dX2_get_5 : decode cX2_get 5 = .ok (.ifCond .ne 12, 3) := by decide +kernel
theorem dX2_get_8 : decode cX2_get 8 = .ok (.aload_n 0, 1) := by decide +kernel
theorem dX2_get_9 : decode cX2_get 9 = .ok (.getfield 9, 3) := by decide +kernel
theorem dX2_get_12 : decode cX2_get 12 = .ok (.iload_n 1, 1) := by decide +kernel
theorem dX2_get_13 : decode cX2_get 13 = .ok (.iaload, 1) := by decide +kernel
theorem dX2_get_14 : decode cX2_get 14 = .ok (.goto 4, 3) := by decide +kernel
theorem dX2_get_17 : decode cX2_get 17 = .ok (.iconst 0, 1) := by decide +kernel
theorem dX2_get_18 : decode cX2_get 18 = .ok (.ireturn, 1) := by decide +kernel
theorem dX2_put_0 : decode cX2_put 0 = .ok (.aload_n 0, 1) := by decide +kernel
theorem dX2_put_1 : decode cX2_put 1 = .ok (.iload_n 1, 1) := by decide +kernel
theorem dX2_put_2 : decode cX2_put 2 = .ok (.invokevirtual 40, 3) := by decide +kernel
theorem dX2_put_5 : decode cX2_put 5 = .ok (.ifCond .eq 4, 3) := by decide +kernel
theorem dX2_put_8 : decode cX2_put 8 = .ok (.return_, 1) := by decide +kernel
theorem dX2_put_9 : decode cX2_put 9 = .ok (.aload_n 0, 1) := by decide +kernel
theorem dX2_put_10 : decode cX2_put 10 = .ok (.getfield 15, 3) := by decide +kernel
theorem dX2_put_13 : decode cX2_put 13 = .ok (.lookupswitch 49 #[(0, 27), (1, 38)], 27) := by decide +kernel
theorem dX2_put_40 : decode cX2_put 40 = .ok (.aload_n 0, 1) := by decide +kernel
theorem dX2_put_41 : decode cX2_put 41 = .ok (.getfield 9, 3) := by decide +kernel
theorem dX2_put_44 : decode cX2_put 44 = .ok (.iload_n 1, 1) := by decide +kernel
theorem dX2_put_45 : decode cX2_put 45 = .ok (.iload_n 2, 1) := by decide +kernel
theorem dX2_put_46 : decode cX2_put 46 = .ok (.i2b, 1) := by decide +kernel
theorem dX2_put_47 : decode cX2_put 47 = .ok (.iastore, 1) := by decide +kernel
theorem dX2_put_48 : decode cX2_put 48 = .ok (.goto 21, 3) := by decide +kernel
theorem dX2_put_51 : decode cX2_put 51 = .ok (.aload_n 0, 1) := by decide +kernel
theorem dX2_put_52 : decode cX2_put 52 = .ok (.getfield 9, 3) := by decide +kernel
theorem dX2_put_55 : decode cX2_put 55 = .ok (.iload_n 1, 1) := by decide +kernel
theorem dX2_put_56 : decode cX2_put 56 = .ok (.iload_n 2, 1) := by decide +kernel
theorem dX2_put_57 : decode cX2_put 57 = .ok (.i2s, 1) := by decide +kernel
theorem dX2_put_58 : decode cX2_put 58 = .ok (.iastore, 1) := by decide +kernel
theorem dX2_put_59 : decode cX2_put 59 = .ok (.goto 10, 3) := by decide +kernel
theorem dX2_put_62 : decode cX2_put 62 = .ok (.aload_n 0, 1) := by decide +kernel
theorem dX2_put_63 : decode cX2_put 63 = .ok (.getfield 9, 3) := by decide +kernel
theorem dX2_put_66 : decode cX2_put 66 = .ok (.iload_n 1, 1) := by decide +kernel
theorem dX2_put_67 : decode cX2_put 67 = .ok (.iload_n 2, 1) := by decide +kernel
theorem dX2_put_68 : decode cX2_put 68 = .ok (.iastore, 1) := by decide +kernel
theorem dX2_put_69 : decode cX2_put 69 = .ok (.return_, 1) := by decide +kernel
theorem dX3_init_0 : decode cX3_init 0 = .ok (.aload_n 0, 1) := by decide +kernel
theorem dX3_init_1 : decode cX3_init 1 = .ok (.invokespecial 3, 3) := by decide +kernel
theorem dX3_init_4 : decode cX3_init 4 = .ok (.aload_n 0, 1) := by decide +kernel
theorem dX3_init_5 : decode cX3_init 5 = .ok (.aload_n 1, 1) := by decide +kernel
theorem dX3_init_6 : decode cX3_init 6 = .ok (.putfield 9, 3) := by decide +kernel
theorem dX3_init_9 : decode cX3_init 9 = .ok (.aload_n 0, 1) := by decide +kernel
theorem dX3_init_10 : decode cX3_init 10 = .ok (.aload_n 2, 1) := by decide +kernel
theorem dX3_init_11 : decode cX3_init 11 = .ok (.putfield 15, 3) := by decide +kernel
theorem dX3_init_14 : decode cX3_init 14 = .ok (.return_, 1) := by decide +kernel
theorem dX3_readLines_0 : decode cX3_readLines 0 = .ok (.aload_n 0, 1) := by decide +kernel
theorem dX3_readLines_1 : decode cX3_readLines 1 = .ok (.getfield 15, 3) := by decide +kernel
theorem dX3_readLines_4 : decode cX3_readLines 4 = .ok (.invokevirtual 19, 3) := by decide +kernel
theorem dX3_readLines_7 : decode cX3_readLines 7 = .ok (.aload_n 0, 1) := by decide +kernel
theorem dX3_readLines_8 : decode cX3_readLines 8 = .ok (.iload_n 1, 1) := by decide +kernel
theorem dX3_readLines_9 : decode cX3_readLines 9 = .ok (.aload_n 0, 1) := by decide +kernel
theorem dX3_readLines_10 : decode cX3_readLines 10 = .ok (.getfield 9, 3) := by decide +kernel
theorem dX3_readLines_13 : decode cX3_readLines 13 = .ok (.arraylength, 1) := by decide +kernel
theorem dX3_readLines_14 : decode cX3_readLines 14 = .ok (.invokestatic 24, 3) := by decide +kernel
theorem dX3_readLines_17 : decode cX3_readLines 17 = .ok (.putfield 30, 3) := by decide +kernel
theorem dX3_readLines_20 : decode cX3_readLines 20 = .ok (.aload_n 0, 1) := by decide +kernel
theorem dX3_readLines_21 : decode cX3_readLines 21 = .ok (.iconst 0, 1) := by decide +kernel
theorem dX3_readLines_22 : decode cX3_readLines 22 = .ok (.putfield 34, 3) := by decide +kernel
theorem dX3_readLines_25 : decode cX3_readLines 25 = .ok (.aload_n 0, 1) := by decide +kernel
theorem dX3_readLines_26 : decode cX3_readLines 26 = .ok (.iconst 0, 1) := by decide +kernel
theorem dX3_readLines_27 : decode cX3_readLines 27 = .ok (.putfield 37, 3) := by decide +kernel
theorem dX3_readLines_30 : decode cX3_readLines 30 = .ok (.aload_n 0, 1) := by decide +kernel
theorem dX3_readLines_31 : decode cX3_readLines 31 = .ok (.iconst 0, 1) := by decide +kernel
theorem dX3_readLines_32 : decode cX3_readLines 32 = .ok (.putfield 41, 3) := by decide +kernel
theorem dX3_readLines_35 : decode cX3_readLines 35 = .ok (.aload_n 0, 1) := by decide +kernel
theorem dX3_readLines_36 : decode cX3_readLines 36 = .ok (.iconst 0, 1) := by decide +kernel
theorem dX3_readLines_37 : decode cX3_readLines 37 = .ok (.putfield 44, 3) := by decide +kernel
theorem dX3_readLines_40 : decode cX3_readLines 40 = .ok (.iconst 0, 1) := by decide +kernel
theorem dX3_readLines_41 : decode cX3_readLines 41 = .ok (.istore_n 2, 1) := by decide +kernel
theorem dX3_readLines_42 : decode cX3_readLines 42 = .ok (.aload_n 0, 1) := by decide +kernel
theorem dX3_readLines_43 : decode cX3_readLines 43 = .ok (.invokevirtual 47, 3) := by decide +kernel
theorem dX3_readLines_46 : decode cX3_readLines 46 = .ok (.aload_n 0, 1) := by decide +kernel
theorem dX3_readLines_47 : decode cX3_readLines 47 = .ok (.getfield 41, 3) := by decide +kernel
theorem dX3_readLines_50 : decode cX3_readLines 50 = .ok (.ifCond .ne 31, 3) := by decide +kernel
theorem dX3_readLines_53 : decode cX3_readLines 53 = .ok (.aload_n 0, 1) := by decide +kernel
theorem dX3_readLines_54 : decode cX3_readLines 54 = .ok (.getfield 50, 3) := by decide +kernel
theorem dX3_readLines_57 : decode cX3_readLines 57 = .ok (.ifCond .eq 24, 3) := by decide +kernel
theorem dX3_readLines_60 : decode cX3_readLines 60 = .ok (.iload_n 2, 1) := by decide +kernel
theorem dX3_readLines_61 : decode cX3_readLines 61 = .ok (.sipush 160, 3) := by decide +kernel
theorem dX3_readLines_64 : decode cX3_readLines 64 = .ok (.if_icmp .gt 17, 3) := by decide +kernel
theorem dX3_readLines_67 : decode cX3_readLines 67 = .ok (.aload_n 0, 1) := by decide +kernel
theorem dX3_readLines_68 : decode cX3_readLines 68 = .ok (.invokevirtual 53, 3) := by decide +kernel
theorem dX3_readLines_71 : decode cX3_readLines 71 = .ok (.aload_n 0, 1) := by decide +kernel
theorem dX3_readLines_72 : decode cX3_readLines 72 = .ok (.invokevirtual 47, 3) := by decide +kernel
theorem dX3_readLines_75 : decode cX3_readLines 75 = .ok (.iinc 2 1, 3) := by decide +kernel
theorem dX3_readLines_78 : decode cX3_readLines 78 = .ok (.goto (-32), 3) := by decide +kernel
theorem dX3_readLines_81 : decode cX3_readLines 81 = .ok (.aload_n 0, 1) := by decide +kernel
theorem dX3_readLines_82 : decode cX3_readLines 82 = .ok (.getfield 41, 3) := by decide +kernel
theorem dX3_readLines_85 : decode cX3_readLines 85 = .ok (.ifCond .ne 23, 3) := by decide +kernel
theorem dX3_readLines_88 : decode cX3_readLines 88 = .ok (.aload_n 0, 1) := by decide +kernel
theorem dX3_readLines_89 : decode cX3_readLines 89 = .ok (.getfield 15, 3) := by decide +kernel
theorem dX3_readLines_92 : decode cX3_readLines 92 = .ok (.invokevirtual 56, 3) := by decide +kernel
theorem dX3_readLines_95 : decode cX3_readLines 95 = .ok (.ifCond .eq 13, 3) := by decide +kernel
theorem dX3_readLines_98 : decode cX3_readLines 98 = .ok (.aload_n 0, 1) := by decide +kernel
theorem dX3_readLines_99 : decode cX3_readLines 99 = .ok (.bipush 6, 2) := by decide +kernel
theorem dX3_readLines_101 : decode cX3_readLines 101 = .ok (.aload_n 0, 1) := by decide +kernel
theorem dX3_readLines_102 : decode cX3_readLines 102 = .ok (.getfield 30, 3) := by decide +kernel
theorem dX3_readLines_105 : decode cX3_readLines 105 = .ok (.invokevirtual 60, 3) := by decide +kernel
theorem dX3_readLines_108 : decode cX3_readLines 108 = .ok (.iload_n 2, 1) := by decide +kernel
theorem dX3_readLines_109 : decode cX3_readLines 109 = .ok (.ireturn, 1) := by decide +kernel
theorem dX3_fail_0 : decode cX3_fail 0 = .ok (.aload_n 0, 1) := by decide +kernel
theorem dX3_fail_1 : decode cX3_fail 1 = .ok (.getfield 41, 3) := by decide +kernel
theorem dX3_fail_4 : decode cX3_fail 4 = .ok (.ifCond .ne 13, 3) := by decide +kernel
theorem dX3_fail_7 : decode cX3_fail 7 = .ok (.aload_n 0, 1) := by decide +kernel
theorem dX3_fail_8 : decode cX3_fail 8 = .ok (.iload_n 1, 1) := by decide +kernel
theorem dX3_fail_9 : decode cX3_fail 9 = .ok (.putfield 41, 3) := by decide +kernel
theorem dX3_fail_12 : decode cX3_fail 12 = .ok (.aload_n 0, 1) := by decide +kernel
theorem dX3_fail_13 : decode cX3_fail 13 = .ok (.iload_n 2, 1) := by decide +kernel
theorem dX3_fail_14 : decode cX3_fail 14 = .ok (.putfield 44, 3) := by decide +kernel
theorem dX3_fail_17 : decode cX3_fail 17 = .ok (.return_, 1) := by decide +kernel
theorem dX3_readLine_0 : decode cX3_readLine 0 = .ok (.aload_n 0, 1) := by decide +kernel
theorem dX3_readLine_1 : decode cX3_readLine 1 = .ok (.getfield 50, 3) := by decide +kernel
theorem dX3_readLine_4 : decode cX3_readLine 4 = .ok (.iconst 1, 1) := by decide +kernel
theorem dX3_readLine_5 : decode cX3_readLine 5 = .ok (.if_icmp .ne 10, 3) := by decide +kernel
theorem dX3_readLine_8 : decode cX3_readLine 8 = .ok (.aload_n 0, 1) := by decide +kernel
theorem dX3_readLine_9 : decode cX3_readLine 9 = .ok (.invokevirtual 64, 3) := by decide +kernel
theorem dX3_readLine_12 : decode cX3_readLine 12 = .ok (.goto 5, 3) := by decide +kernel
theorem dX3_readLine_15 : decode cX3_readLine 15 = .ok (.bipush (-4), 2) := by decide +kernel
theorem dX3_readLine_17 : decode cX3_readLine 17 = .ok (.istore_n 1, 1) := by decide +kernel
theorem dX3_readLine_18 : decode cX3_readLine 18 = .ok (.iload_n 1, 1) := by decide +kernel
theorem dX3_readLine_19 : decode cX3_readLine 19 = .ok (.bipush (-4), 2) := by decide +kernel
theorem dX3_readLine_21 : decode cX3_readLine 21 = .ok (.if_icmp .ne 15, 3) := by decide +kernel
theorem dX3_readLine_24 : decode cX3_readLine 24 = .ok (.aload_n 0, 1) := by decide +kernel
theorem dX3_readLine_25 : decode cX3_readLine 25 = .ok (.iconst 2, 1) := by decide +kernel
theorem dX3_readLine_26 : decode cX3_readLine 26 = .ok (.aload_n 0, 1) := by decide +kernel
theorem dX3_readLine_27 : decode cX3_readLine 27 = .ok (.getfield 68, 3) := by decide +kernel
theorem dX3_readLine_30 : decode cX3_readLine 30 = .ok (.invokevirtual 60, 3) := by decide +kernel
theorem dX3_readLine_33 : decode cX3_readLine 33 = .ok (.goto 32, 3) := by decide +kernel
theorem dX3_readLine_36 : decode cX3_readLine 36 = .ok (.iload_n 1, 1) := by decide +kernel
theorem dX3_readLine_37 : decode cX3_readLine 37 = .ok (.iconst 5, 1) := by decide +kernel
theorem dX3_readLine_38 : decode cX3_readLine 38 = .ok (.if_icmp .ne 10, 3) := by decide +kernel
theorem dX3_readLine_41 : decode cX3_readLine 41 = .ok (.aload_n 0, 1) := by decide +kernel
theorem dX3_readLine_42 : decode cX3_readLine 42 = .ok (.invokevirtual 71, 3) := by decide +kernel
theorem dX3_readLine_45 : decode cX3_readLine 45 = .ok (.goto 20, 3) := by decide +kernel
theorem dX3_readLine_48 : decode cX3_readLine 48 = .ok (.iload_n 1, 1) := by decide +kernel
theorem dX3_readLine_49 : decode cX3_readLine 49 = .ok (.iconst 4, 1) := by decide +kernel
theorem dX3_readLine_50 : decode cX3_readLine 50 = .ok (.if_icmp .ne 10, 3) := by decide +kernel
theorem dX3_readLine_53 : decode cX3_readLine 53 = .ok (.aload_n 0, 1) := by decide +kernel
theorem dX3_readLine_54 : decode cX3_readLine 54 = .ok (.invokevirtual 74, 3) := by decide +kernel
theorem dX3_readLine_57 : decode cX3_readLine 57 = .ok (.goto 8, 3) := by decide +kernel
theorem dX3_readLine_60 : decode cX3_readLine 60 = .ok (.aload_n 0, 1) := by decide +kernel
theorem dX3_readLine_61 : decode cX3_readLine 61 = .ok (.iload_n 1, 1) := by decide +kernel
theorem dX3_readLine_62 : decode cX3_readLine 62 = .ok (.invokevirtual 77, 3) := by decide +kernel
theorem dX3_readLine_65 : decode cX3_readLine 65 = .ok (.aload_n 0, 1) := by decide +kernel
theorem dX3_readLine_66 : decode cX3_readLine 66 = .ok (.invokevirtual 81, 3) := by decide +kernel
theorem dX3_readLine_69 : decode cX3_readLine 69 = .ok (.return_, 1) := by decide +kernel
theorem dX3_readKey_0 : decode cX3_readKey 0 = .ok (.aload_n 0, 1) := by decide +kernel
theorem dX3_readKey_1 : decode cX3_readKey 1 = .ok (.getfield 15, 3) := by decide +kernel
theorem dX3_readKey_4 : decode cX3_readKey 4 = .ok (.getfield 84, 3) := by decide +kernel
theorem dX3_readKey_7 : decode cX3_readKey 7 = .ok (.iconst 4, 1) := by decide +kernel
theorem dX3_readKey_8 : decode cX3_readKey 8 = .ok (.if_icmp .lt 12, 3) := by decide +kernel
theorem dX3_readKey_11 : decode cX3_readKey 11 = .ok (.aload_n 0, 1) := by decide +kernel
theorem dX3_readKey_12 : decode cX3_readKey 12 = .ok (.iconst 5, 1) := by decide +kernel
theorem dX3_readKey_13 : decode cX3_readKey 13 = .ok (.aload_n 0, 1) := by decide +kernel
theorem dX3_readKey_14 : decode cX3_readKey 14 = .ok (.getfield 68, 3) := by decide +kernel
theorem dX3_readKey_17 : decode cX3_readKey 17 = .ok (.invokevirtual 60, 3) := by decide +kernel
theorem dX3_readKey_20 : decode cX3_readKey 20 = .ok (.aload_n 0, 1) := by decide +kernel
theorem dX3_readKey_21 : decode cX3_readKey 21 = .ok (.iconst 0, 1) := by decide +kernel
theorem dX3_readKey_22 : decode cX3_readKey 22 = .ok (.bipush 9, 2) := by decide +kernel
theorem dX3_readKey_24 : decode cX3_readKey 24 = .ok (.invokevirtual 87, 3) := by decide +kernel
theorem dX3_readKey_27 : decode cX3_readKey 27 = .ok (.istore_n 2, 1) := by decide +kernel
theorem dX3_readKey_28 : decode cX3_readKey 28 = .ok (.aload_n 0, 1) := by decide +kernel
theorem dX3_readKey_29 : decode cX3_readKey 29 = .ok (.iconst 1, 1) := by decide +kernel
theorem dX3_readKey_30 : decode cX3_readKey 30 = .ok (.bipush 9, 2) := by decide +kernel
theorem dX3_readKey_32 : decode cX3_readKey 32 = .ok (.invokevirtual 87, 3) := by decide +kernel
theorem dX3_readKey_35 : decode cX3_readKey 35 = .ok (.istore_n 3, 1) := by decide +kernel
theorem dX3_readKey_36 : decode cX3_readKey 36 = .ok (.aload_n 0, 1) := by decide +kernel
theorem dX3_readKey_37 : decode cX3_readKey 37 = .ok (.getfield 41, 3) := by decide +kernel
theorem dX3_readKey_40 : decode cX3_readKey 40 = .ok (.ifCond .ne 13, 3) := by decide +kernel
theorem dX3_readKey_43 : decode cX3_readKey 43 = .ok (.aload_n 0, 1) := by decide +kernel
theorem dX3_readKey_44 : decode cX3_readKey 44 = .ok (.getfield 15, 3) := by decide +kernel
theorem dX3_readKey_47 : decode cX3_readKey 47 = .ok (.iload_n 1, 1) := by decide +kernel
theorem dX3_readKey_48 : decode cX3_readKey 48 = .ok (.iload_n 2, 1) := by decide +kernel
theorem dX3_readKey_49 : decode cX3_readKey 49 = .ok (.iload_n 3, 1) := by decide +kernel
theorem dX3_readKey_50 : decode cX3_readKey 50 = .ok (.invokevirtual 90, 3) := by decide +kernel
theorem dX3_readKey_53 : decode cX3_readKey 53 = .ok (.return_, 1) := by decide +kernel
theorem dX3_readPress_0 : decode cX3_readPress 0 = .ok (.aload_n 0, 1) := by decide +kernel
theorem dX3_readPress_1 : decode cX3_readPress 1 = .ok (.getfield 15, 3) := by decide +kernel
theorem dX3_readPress_4 : decode cX3_readPress 4 = .ok (.getfield 94, 3) := by decide +kernel
theorem dX3_readPress_7 : decode cX3_readPress 7 = .ok (.bipush 8, 2) := by decide +kernel
theorem dX3_readPress_9 : decode cX3_readPress 9 = .ok (.if_icmp .lt 12, 3) := by decide +kernel
theorem dX3_readPress_12 : decode cX3_readPress 12 = .ok (.aload_n 0, 1) := by decide +kernel
theorem dX3_readPress_13 : decode cX3_readPress 13 = .ok (.iconst 5, 1) := by decide +kernel
theorem dX3_readPress_14 : decode cX3_readPress 14 = .ok (.aload_n 0, 1) := by decide +kernel
theorem dX3_readPress_15 : decode cX3_readPress 15 = .ok (.getfield 68, 3) := by decide +kernel
theorem dX3_readPress_18 : decode cX3_readPress 18 = .ok (.invokevirtual 60, 3) := by decide +kernel
theorem dX3_readPress_21 : decode cX3_readPress 21 = .ok (.aload_n 0, 1) := by decide +kernel
theorem dX3_readPress_22 : decode cX3_readPress 22 = .ok (.iconst 0, 1) := by decide +kernel
theorem dX3_readPress_23 : decode cX3_readPress 23 = .ok (.bipush 99, 2) := by decide +kernel
theorem dX3_readPress_25 : decode cX3_readPress 25 = .ok (.invokevirtual 87, 3) := by decide +kernel
theorem dX3_readPress_28 : decode cX3_readPress 28 = .ok (.istore_n 1, 1) := by decide +kernel
theorem dX3_readPress_29 : decode cX3_readPress 29 = .ok (.aload_n 0, 1) := by decide +kernel
theorem dX3_readPress_30 : decode cX3_readPress 30 = .ok (.iconst 0, 1) := by decide +kernel
theorem dX3_readPress_31 : decode cX3_readPress 31 = .ok (.iconst 3, 1) := by decide +kernel
theorem dX3_readPress_32 : decode cX3_readPress 32 = .ok (.invokevirtual 87, 3) := by decide +kernel
theorem dX3_readPress_35 : decode cX3_readPress 35 = .ok (.istore_n 2, 1) := by decide +kernel
theorem dX3_readPress_36 : decode cX3_readPress 36 = .ok (.aload_n 0, 1) := by decide +kernel
theorem dX3_readPress_37 : decode cX3_readPress 37 = .ok (.iconst 0, 1) := by decide +kernel
theorem dX3_readPress_38 : decode cX3_readPress 38 = .ok (.iconst 1, 1) := by decide +kernel
theorem dX3_readPress_39 : decode cX3_readPress 39 = .ok (.invokevirtual 87, 3) := by decide +kernel
theorem dX3_readPress_42 : decode cX3_readPress 42 = .ok (.istore_n 3, 1) := by decide +kernel
theorem dX3_readPress_43 : decode cX3_readPress 43 = .ok (.aload_n 0, 1) := by decide +kernel
theorem dX3_readPress_44 : decode cX3_readPress 44 = .ok (.getfield 41, 3) := by decide +kernel
theorem dX3_readPress_47 : decode cX3_readPress 47 = .ok (.ifCond .ne 13, 3) := by decide +kernel
theorem dX3_readPress_50 : decode cX3_readPress 50 = .ok (.aload_n 0, 1) := by decide +kernel
theorem dX3_readPress_51 : decode cX3_readPress 51 = .ok (.getfield 15, 3) := by decide +kernel
theorem dX3_readPress_54 : decode cX3_readPress 54 = .ok (.iload_n 1, 1) := by decide +kernel
theorem dX3_readPress_55 : decode cX3_readPress 55 = .ok (.iload_n 2, 1) := by decide +kernel
theorem dX3_readPress_56 : decode cX3_readPress 56 = .ok (.iload_n 3, 1) := by decide +kernel
theorem dX3_readPress_57 : decode cX3_readPress 57 = .ok (.invokevirtual 97, 3) := by decide +kernel
theorem dX3_readPress_60 : decode cX3_readPress 60 = .ok (.return_, 1) := by decide +kernel
theorem dX3_readEvery_0 : decode cX3_readEvery 0 = .ok (.aload_n 0, 1) := by decide +kernel
theorem dX3_readEvery_1 : decode cX3_readEvery 1 = .ok (.getfield 37, 3) := by decide +kernel
theorem dX3_readEvery_4 : decode cX3_readEvery 4 = .ok (.ifCond .eq 12, 3) := by decide +kernel
theorem dX3_readEvery_7 : decode cX3_readEvery 7 = .ok (.aload_n 0, 1) := by decide +kernel
theorem dX3_readEvery_8 : decode cX3_readEvery 8 = .ok (.iconst 4, 1) := by decide +kernel
theorem dX3_readEvery_9 : decode cX3_readEvery 9 = .ok (.aload_n 0, 1) := by decide +kernel
theorem dX3_readEvery_10 : decode cX3_readEvery 10 = .ok (.getfield 68, 3) := by decide +kernel
theorem dX3_readEvery_13 : decode cX3_readEvery 13 = .ok (.invokevirtual 60, 3) := by decide +kernel
theorem dX3_readEvery_16 : decode cX3_readEvery 16 = .ok (.aload_n 0, 1) := by decide +kernel
theorem dX3_readEvery_17 : decode cX3_readEvery 17 = .ok (.iconst 1, 1) := by decide +kernel
theorem dX3_readEvery_18 : decode cX3_readEvery 18 = .ok (.putfield 37, 3) := by decide +kernel
theorem dX3_readEvery_21 : decode cX3_readEvery 21 = .ok (.aload_n 0, 1) := by decide +kernel
theorem dX3_readEvery_22 : decode cX3_readEvery 22 = .ok (.iconst 1, 1) := by decide +kernel
theorem dX3_readEvery_23 : decode cX3_readEvery 23 = .ok (.iconst 4, 1) := by decide +kernel
theorem dX3_readEvery_24 : decode cX3_readEvery 24 = .ok (.invokevirtual 87, 3) := by decide +kernel
theorem dX3_readEvery_27 : decode cX3_readEvery 27 = .ok (.istore_n 1, 1) := by decide +kernel
theorem dX3_readEvery_28 : decode cX3_readEvery 28 = .ok (.aload_n 0, 1) := by decide +kernel
theorem dX3_readEvery_29 : decode cX3_readEvery 29 = .ok (.getfield 41, 3) := by decide +kernel
theorem dX3_readEvery_32 : decode cX3_readEvery 32 = .ok (.ifCond .ne 11, 3) := by decide +kernel
theorem dX3_readEvery_35 : decode cX3_readEvery 35 = .ok (.aload_n 0, 1) := by decide +kernel
theorem dX3_readEvery_36 : decode cX3_readEvery 36 = .ok (.getfield 15, 3) := by decide +kernel
theorem dX3_readEvery_39 : decode cX3_readEvery 39 = .ok (.iload_n 1, 1) := by decide +kernel
theorem dX3_readEvery_40 : decode cX3_readEvery 40 = .ok (.putfield 100, 3) := by decide +kernel
theorem dX3_readEvery_43 : decode cX3_readEvery 43 = .ok (.return_, 1) := by decide +kernel
theorem dX3_readNumber_0 : decode cX3_readNumber 0 = .ok (.aload_n 0, 1) := by decide +kernel
theorem dX3_readNumber_1 : decode cX3_readNumber 1 = .ok (.invokevirtual 47, 3) := by decide +kernel
theorem dX3_readNumber_4 : decode cX3_readNumber 4 = .ok (.aload_n 0, 1) := by decide +kernel
theorem dX3_readNumber_5 : decode cX3_readNumber 5 = .ok (.getfield 50, 3) := by decide +kernel
theorem dX3_readNumber_8 : decode cX3_readNumber 8 = .ok (.iconst 2, 1) := by decide +kernel
theorem dX3_readNumber_9 : decode cX3_readNumber 9 = .ok (.if_icmp .eq 15, 3) := by decide +kernel
theorem dX3_readNumber_12 : decode cX3_readNumber 12 = .ok (.aload_n 0, 1) := by decide +kernel
theorem dX3_readNumber_13 : decode cX3_readNumber 13 = .ok (.iconst 2, 1) := by decide +kernel
theorem dX3_readNumber_14 : decode cX3_readNumber 14 = .ok (.aload_n 0, 1) := by decide +kernel
theorem dX3_readNumber_15 : decode cX3_readNumber 15 = .ok (.getfield 68, 3) := by decide +kernel
theorem dX3_readNumber_18 : decode cX3_readNumber 18 = .ok (.invokevirtual 60, 3) := by decide +kernel
theorem dX3_readNumber_21 : decode cX3_readNumber 21 = .ok (.goto 24, 3) := by decide +kernel
theorem dX3_readNumber_24 : decode cX3_readNumber 24 = .ok (.aload_n 0, 1) := by decide +kernel
theorem dX3_readNumber_25 : decode cX3_readNumber 25 = .ok (.getfield 103, 3) := by decide +kernel
theorem dX3_readNumber_28 : decode cX3_readNumber 28 = .ok (.iload_n 1, 1) := by decide +kernel
theorem dX3_readNumber_29 : decode cX3_readNumber 29 = .ok (.iload_n 2, 1) := by decide +kernel
theorem dX3_readNumber_30 : decode cX3_readNumber 30 = .ok (.invokestatic 106, 3) := by decide +kernel
theorem dX3_readNumber_33 : decode cX3_readNumber 33 = .ok (.ifCond .ne 12, 3) := by decide +kernel
theorem dX3_readNumber_36 : decode cX3_readNumber 36 = .ok (.aload_n 0, 1) := by decide +kernel
theorem dX3_readNumber_37 : decode cX3_readNumber 37 = .ok (.iconst 3, 1) := by decide +kernel
theorem dX3_readNumber_38 : decode cX3_readNumber 38 = .ok (.aload_n 0, 1) := by decide +kernel
theorem dX3_readNumber_39 : decode cX3_readNumber 39 = .ok (.getfield 68, 3) := by decide +kernel
theorem dX3_readNumber_42 : decode cX3_readNumber 42 = .ok (.invokevirtual 60, 3) := by decide +kernel
theorem dX3_readNumber_45 : decode cX3_readNumber 45 = .ok (.aload_n 0, 1) := by decide +kernel
theorem dX3_readNumber_46 : decode cX3_readNumber 46 = .ok (.getfield 103, 3) := by decide +kernel
theorem dX3_readNumber_49 : decode cX3_readNumber 49 = .ok (.ireturn, 1) := by decide +kernel
theorem dX3_readSemicolon_0 : decode cX3_readSemicolon 0 = .ok (.aload_n 0, 1) := by decide +kernel
theorem dX3_readSemicolon_1 : decode cX3_readSemicolon 1 = .ok (.invokevirtual 47, 3) := by decide +kernel
theorem dX3_readSemicolon_4 : decode cX3_readSemicolon 4 = .ok (.aload_n 0, 1) := by decide +kernel
theorem dX3_readSemicolon_5 : decode cX3_readSemicolon 5 = .ok (.getfield 50, 3) := by decide +kernel
theorem dX3_readSemicolon_8 : decode cX3_readSemicolon 8 = .ok (.iconst 3, 1) := by decide +kernel
theorem dX3_readSemicolon_9 : decode cX3_readSemicolon 9 = .ok (.if_icmp .eq 12, 3) := by decide +kernel
theorem dX3_readSemicolon_12 : decode cX3_readSemicolon 12 = .ok (.aload_n 0, 1) := by decide +kernel
theorem dX3_readSemicolon_13 : decode cX3_readSemicolon 13 = .ok (.iconst 2, 1) := by decide +kernel
theorem dX3_readSemicolon_14 : decode cX3_readSemicolon 14 = .ok (.aload_n 0, 1) := by decide +kernel
theorem dX3_readSemicolon_15 : decode cX3_readSemicolon 15 = .ok (.getfield 68, 3) := by decide +kernel
theorem dX3_readSemicolon_18 : decode cX3_readSemicolon 18 = .ok (.invokevirtual 60, 3) := by decide +kernel
theorem dX3_readSemicolon_21 : decode cX3_readSemicolon 21 = .ok (.return_, 1) := by decide +kernel
theorem dX3_nextToken_0 : decode cX3_nextToken 0 = .ok (.aload_n 0, 1) := by decide +kernel
theorem dX3_nextToken_1 : decode cX3_nextToken 1 = .ok (.iconst 4, 1) := by decide +kernel
theorem dX3_nextToken_2 : decode cX3_nextToken 2 = .ok (.putfield 50, 3) := by decide +kernel
theorem dX3_nextToken_5 : decode cX3_nextToken 5 = .ok (.aload_n 0, 1) := by decide +kernel
theorem dX3_nextToken_6 : decode cX3_nextToken 6 = .ok (.getfield 41, 3) := by decide +kernel
theorem dX3_nextToken_9 : decode cX3_nextToken 9 = .ok (.ifCond .eq 4, 3) := by decide +kernel
theorem dX3_nextToken_12 : decode cX3_nextToken 12 = .ok (.return_, 1) := by decide +kernel
theorem dX3_nextToken_13 : decode cX3_nextToken 13 = .ok (.aload_n 0, 1) := by decide +kernel
theorem dX3_nextToken_14 : decode cX3_nextToken 14 = .ok (.getfield 34, 3) := by decide +kernel
theorem dX3_nextToken_17 : decode cX3_nextToken 17 = .ok (.aload_n 0, 1) := by decide +kernel
theorem dX3_nextToken_18 : decode cX3_nextToken 18 = .ok (.getfield 30, 3) := by decide +kernel
theorem dX3_nextToken_21 : decode cX3_nextToken 21 = .ok (.if_icmp .ge 30, 3) := by decide +kernel
theorem dX3_nextToken_24 : decode cX3_nextToken 24 = .ok (.aload_n 0, 1) := by decide +kernel
theorem dX3_nextToken_25 : decode cX3_nextToken 25 = .ok (.getfield 9, 3) := by decide +kernel
theorem dX3_nextToken_28 : decode cX3_nextToken 28 = .ok (.aload_n 0, 1) := by decide +kernel
theorem dX3_nextToken_29 : decode cX3_nextToken 29 = .ok (.getfield 34, 3) := by decide +kernel
theorem dX3_nextToken_32 : decode cX3_nextToken 32 = .ok (.baload, 1) := by decide +kernel
theorem dX3_nextToken_33 : decode cX3_nextToken 33 = .ok (.bipush 32, 2) := by decide +kernel
theorem dX3_nextToken_35 : decode cX3_nextToken 35 = .ok (.if_icmp .ne 16, 3) := by decide +kernel
theorem dX3_nextToken_38 : decode cX3_nextToken 38 = .ok (.aload_n 0, 1) := by decide +kernel
theorem dX3_nextToken_39 : decode cX3_nextToken 39 = .ok (.dup, 1) := by decide +kernel
theorem dX3_nextToken_40 : decode cX3_nextToken 40 = .ok (.getfield 34, 3) := by decide +kernel
theorem dX3_nextToken_43 : decode cX3_nextToken 43 = .ok (.iconst 1, 1) := by decide +kernel
theorem dX3_nextToken_44 : decode cX3_nextToken 44 = .ok (.iadd, 1) := by decide +kernel
theorem dX3_nextToken_45 : decode cX3_nextToken 45 = .ok (.putfield 34, 3) := by decide +kernel
theorem dX3_nextToken_48 : decode cX3_nextToken 48 = .ok (.goto (-35), 3) := by decide +kernel
theorem dX3_nextToken_51 : decode cX3_nextToken 51 = .ok (.aload_n 0, 1) := by decide +kernel
theorem dX3_nextToken_52 : decode cX3_nextToken 52 = .ok (.aload_n 0, 1) := by decide +kernel
theorem dX3_nextToken_53 : decode cX3_nextToken 53 = .ok (.getfield 34, 3) := by decide +kernel
theorem dX3_nextToken_56 : decode cX3_nextToken 56 = .ok (.putfield 68, 3) := by decide +kernel
theorem dX3_nextToken_59 : decode cX3_nextToken 59 = .ok (.aload_n 0, 1) := by decide +kernel
theorem dX3_nextToken_60 : decode cX3_nextToken 60 = .ok (.getfield 34, 3) := by decide +kernel
theorem dX3_nextToken_63 : decode cX3_nextToken 63 = .ok (.aload_n 0, 1) := by decide +kernel
theorem dX3_nextToken_64 : decode cX3_nextToken 64 = .ok (.getfield 30, 3) := by decide +kernel
theorem dX3_nextToken_67 : decode cX3_nextToken 67 = .ok (.if_icmp .lt 11, 3) := by decide +kernel
theorem dX3_nextToken_70 : decode cX3_nextToken 70 = .ok (.aload_n 0, 1) := by decide +kernel
theorem dX3_nextToken_71 : decode cX3_nextToken 71 = .ok (.iconst 0, 1) := by decide +kernel
theorem dX3_nextToken_72 : decode cX3_nextToken 72 = .ok (.putfield 50, 3) := by decide +kernel
theorem dX3_nextToken_75 : decode cX3_nextToken 75 = .ok (.goto 88, 3) := by decide +kernel
theorem dX3_nextToken_78 : decode cX3_nextToken 78 = .ok (.aload_n 0, 1) := by decide +kernel
theorem dX3_nextToken_79 : decode cX3_nextToken 79 = .ok (.getfield 9, 3) := by decide +kernel
theorem dX3_nextToken_82 : decode cX3_nextToken 82 = .ok (.aload_n 0, 1) := by decide +kernel
theorem dX3_nextToken_83 : decode cX3_nextToken 83 = .ok (.getfield 34, 3) := by decide +kernel
theorem dX3_nextToken_86 : decode cX3_nextToken 86 = .ok (.baload, 1) := by decide +kernel
theorem dX3_nextToken_87 : decode cX3_nextToken 87 = .ok (.invokestatic 110, 3) := by decide +kernel
theorem dX3_nextToken_90 : decode cX3_nextToken 90 = .ok (.ifCond .eq 10, 3) := by decide +kernel
theorem dX3_nextToken_93 : decode cX3_nextToken 93 = .ok (.aload_n 0, 1) := by decide +kernel
theorem dX3_nextToken_94 : decode cX3_nextToken 94 = .ok (.invokevirtual 114, 3) := by decide +kernel
theorem dX3_nextToken_97 : decode cX3_nextToken 97 = .ok (.goto 66, 3) := by decide +kernel
theorem dX3_nextToken_100 : decode cX3_nextToken 100 = .ok (.aload_n 0, 1) := by decide +kernel
theorem dX3_nextToken_101 : decode cX3_nextToken 101 = .ok (.getfield 9, 3) := by decide +kernel
theorem dX3_nextToken_104 : decode cX3_nextToken 104 = .ok (.aload_n 0, 1) := by decide +kernel
theorem dX3_nextToken_105 : decode cX3_nextToken 105 = .ok (.getfield 34, 3) := by decide +kernel
theorem dX3_nextToken_108 : decode cX3_nextToken 108 = .ok (.baload, 1) := by decide +kernel
theorem dX3_nextToken_109 : decode cX3_nextToken 109 = .ok (.invokestatic 117, 3) := by decide +kernel
theorem dX3_nextToken_112 : decode cX3_nextToken 112 = .ok (.ifCond .eq 10, 3) := by decide +kernel
theorem dX3_nextToken_115 : decode cX3_nextToken 115 = .ok (.aload_n 0, 1) := by decide +kernel
theorem dX3_nextToken_116 : decode cX3_nextToken 116 = .ok (.invokevirtual 120, 3) := by decide +kernel
theorem dX3_nextToken_119 : decode cX3_nextToken 119 = .ok (.goto 44, 3) := by decide +kernel
theorem dX3_nextToken_122 : decode cX3_nextToken 122 = .ok (.aload_n 0, 1) := by decide +kernel
theorem dX3_nextToken_123 : decode cX3_nextToken 123 = .ok (.getfield 9, 3) := by decide +kernel
theorem dX3_nextToken_126 : decode cX3_nextToken 126 = .ok (.aload_n 0, 1) := by decide +kernel
theorem dX3_nextToken_127 : decode cX3_nextToken 127 = .ok (.getfield 34, 3) := by decide +kernel
theorem dX3_nextToken_130 : decode cX3_nextToken 130 = .ok (.baload, 1) := by decide +kernel
theorem dX3_nextToken_131 : decode cX3_nextToken 131 = .ok (.bipush 59, 2) := by decide +kernel
theorem dX3_nextToken_133 : decode cX3_nextToken 133 = .ok (.if_icmp .ne 21, 3) := by decide +kernel
theorem dX3_nextToken_136 : decode cX3_nextToken 136 = .ok (.aload_n 0, 1) := by decide +kernel
theorem dX3_nextToken_137 : decode cX3_nextToken 137 = .ok (.dup, 1) := by decide +kernel
theorem dX3_nextToken_138 : decode cX3_nextToken 138 = .ok (.getfield 34, 3) := by decide +kernel
theorem dX3_nextToken_141 : decode cX3_nextToken 141 = .ok (.iconst 1, 1) := by decide +kernel
theorem dX3_nextToken_142 : decode cX3_nextToken 142 = .ok (.iadd, 1) := by decide +kernel
theorem dX3_nextToken_143 : decode cX3_nextToken 143 = .ok (.putfield 34, 3) := by decide +kernel
theorem dX3_nextToken_146 : decode cX3_nextToken 146 = .ok (.aload_n 0, 1) := by decide +kernel
theorem dX3_nextToken_147 : decode cX3_nextToken 147 = .ok (.iconst 3, 1) := by decide +kernel
theorem dX3_nextToken_148 : decode cX3_nextToken 148 = .ok (.putfield 50, 3) := by decide +kernel
theorem dX3_nextToken_151 : decode cX3_nextToken 151 = .ok (.goto 12, 3) := by decide +kernel
theorem dX3_nextToken_154 : decode cX3_nextToken 154 = .ok (.aload_n 0, 1) := by decide +kernel
theorem dX3_nextToken_155 : decode cX3_nextToken 155 = .ok (.iconst 1, 1) := by decide +kernel
theorem dX3_nextToken_156 : decode cX3_nextToken 156 = .ok (.aload_n 0, 1) := by decide +kernel
theorem dX3_nextToken_157 : decode cX3_nextToken 157 = .ok (.getfield 68, 3) := by decide +kernel
theorem dX3_nextToken_160 : decode cX3_nextToken 160 = .ok (.invokevirtual 60, 3) := by decide +kernel
theorem dX3_nextToken_163 : decode cX3_nextToken 163 = .ok (.return_, 1) := by decide +kernel
theorem dX3_takeName_0 : decode cX3_takeName 0 = .ok (.aload_n 0, 1) := by decide +kernel
theorem dX3_takeName_1 : decode cX3_takeName 1 = .ok (.getfield 34, 3) := by decide +kernel
theorem dX3_takeName_4 : decode cX3_takeName 4 = .ok (.aload_n 0, 1) := by decide +kernel
theorem dX3_takeName_5 : decode cX3_takeName 5 = .ok (.getfield 30, 3) := by decide +kernel
theorem dX3_takeName_8 : decode cX3_takeName 8 = .ok (.if_icmp .ge 31, 3) := by decide +kernel
theorem dX3_takeName_11 : decode cX3_takeName 11 = .ok (.aload_n 0, 1) := by decide +kernel
theorem dX3_takeName_12 : decode cX3_takeName 12 = .ok (.getfield 9, 3) := by decide +kernel
theorem dX3_takeName_15 : decode cX3_takeName 15 = .ok (.aload_n 0, 1) := by decide +kernel
theorem dX3_takeName_16 : decode cX3_takeName 16 = .ok (.getfield 34, 3) := by decide +kernel
theorem dX3_takeName_19 : decode cX3_takeName 19 = .ok (.baload, 1) := by decide +kernel
theorem dX3_takeName_20 : decode cX3_takeName 20 = .ok (.invokestatic 110, 3) := by decide +kernel
theorem dX3_takeName_23 : decode cX3_takeName 23 = .ok (.ifCond .eq 16, 3) := by decide +kernel
theorem dX3_takeName_26 : decode cX3_takeName 26 = .ok (.aload_n 0, 1) := by decide +kernel
theorem dX3_takeName_27 : decode cX3_takeName 27 = .ok (.dup, 1) := by decide +kernel
theorem dX3_takeName_28 : decode cX3_takeName 28 = .ok (.getfield 34, 3) := by decide +kernel
theorem dX3_takeName_31 : decode cX3_takeName 31 = .ok (.iconst 1, 1) := by decide +kernel
theorem dX3_takeName_32 : decode cX3_takeName 32 = .ok (.iadd, 1) := by decide +kernel
theorem dX3_takeName_33 : decode cX3_takeName 33 = .ok (.putfield 34, 3) := by decide +kernel
theorem dX3_takeName_36 : decode cX3_takeName 36 = .ok (.goto (-36), 3) := by decide +kernel
theorem dX3_takeName_39 : decode cX3_takeName 39 = .ok (.aload_n 0, 1) := by decide +kernel
theorem dX3_takeName_40 : decode cX3_takeName 40 = .ok (.iconst 1, 1) := by decide +kernel
theorem dX3_takeName_41 : decode cX3_takeName 41 = .ok (.putfield 50, 3) := by decide +kernel
theorem dX3_takeName_44 : decode cX3_takeName 44 = .ok (.return_, 1) := by decide +kernel
theorem dX3_takeNumber_0 : decode cX3_takeNumber 0 = .ok (.aload_n 0, 1) := by decide +kernel
theorem dX3_takeNumber_1 : decode cX3_takeNumber 1 = .ok (.iconst 0, 1) := by decide +kernel
theorem dX3_takeNumber_2 : decode cX3_takeNumber 2 = .ok (.putfield 103, 3) := by decide +kernel
theorem dX3_takeNumber_5 : decode cX3_takeNumber 5 = .ok (.aload_n 0, 1) := by decide +kernel
theorem dX3_takeNumber_6 : decode cX3_takeNumber 6 = .ok (.getfield 34, 3) := by decide +kernel
theorem dX3_takeNumber_9 : decode cX3_takeNumber 9 = .ok (.aload_n 0, 1) := by decide +kernel
theorem dX3_takeNumber_10 : decode cX3_takeNumber 10 = .ok (.getfield 30, 3) := by decide +kernel
theorem dX3_takeNumber_13 : decode cX3_takeNumber 13 = .ok (.if_icmp .ge 55, 3) := by decide +kernel
theorem dX3_takeNumber_16 : decode cX3_takeNumber 16 = .ok (.aload_n 0, 1) := by decide +kernel
theorem dX3_takeNumber_17 : decode cX3_takeNumber 17 = .ok (.getfield 9, 3) := by decide +kernel
theorem dX3_takeNumber_20 : decode cX3_takeNumber 20 = .ok (.aload_n 0, 1) := by decide +kernel
theorem dX3_takeNumber_21 : decode cX3_takeNumber 21 = .ok (.getfield 34, 3) := by decide +kernel
theorem dX3_takeNumber_24 : decode cX3_takeNumber 24 = .ok (.baload, 1) := by decide +kernel
theorem dX3_takeNumber_25 : decode cX3_takeNumber 25 = .ok (.invokestatic 117, 3) := by decide +kernel
theorem dX3_takeNumber_28 : decode cX3_takeNumber 28 = .ok (.ifCond .eq 40, 3) := by decide +kernel
theorem dX3_takeNumber_31 : decode cX3_takeNumber 31 = .ok (.aload_n 0, 1) := by decide +kernel
theorem dX3_takeNumber_32 : decode cX3_takeNumber 32 = .ok (.aload_n 0, 1) := by decide +kernel
theorem dX3_takeNumber_33 : decode cX3_takeNumber 33 = .ok (.getfield 103, 3) := by decide +kernel
theorem dX3_takeNumber_36 : decode cX3_takeNumber 36 = .ok (.bipush 10, 2) := by decide +kernel
theorem dX3_takeNumber_38 : decode cX3_takeNumber 38 = .ok (.imul, 1) := by decide +kernel
theorem dX3_takeNumber_39 : decode cX3_takeNumber 39 = .ok (.aload_n 0, 1) := by decide +kernel
theorem dX3_takeNumber_40 : decode cX3_takeNumber 40 = .ok (.getfield 9, 3) := by decide +kernel
theorem dX3_takeNumber_43 : decode cX3_takeNumber 43 = .ok (.aload_n 0, 1) := by decide +kernel
theorem dX3_takeNumber_44 : decode cX3_takeNumber 44 = .ok (.getfield 34, 3) := by decide +kernel
theorem dX3_takeNumber_47 : decode cX3_takeNumber 47 = .ok (.baload, 1) := by decide +kernel
theorem dX3_takeNumber_48 : decode cX3_takeNumber 48 = .ok (.iadd, 1) := by decide +kernel
theorem dX3_takeNumber_49 : decode cX3_takeNumber 49 = .ok (.bipush 48, 2) := by decide +kernel
theorem dX3_takeNumber_51 : decode cX3_takeNumber 51 = .ok (.isub, 1) := by decide +kernel
theorem dX3_takeNumber_52 : decode cX3_takeNumber 52 = .ok (.putfield 103, 3) := by decide +kernel
theorem dX3_takeNumber_55 : decode cX3_takeNumber 55 = .ok (.aload_n 0, 1) := by decide +kernel
theorem dX3_takeNumber_56 : decode cX3_takeNumber 56 = .ok (.dup, 1) := by decide +kernel
theorem dX3_takeNumber_57 : decode cX3_takeNumber 57 = .ok (.getfield 34, 3) := by decide +kernel
theorem dX3_takeNumber_60 : decode cX3_takeNumber 60 = .ok (.iconst 1, 1) := by decide +kernel
theorem dX3_takeNumber_61 : decode cX3_takeNumber 61 = .ok (.iadd, 1) := by decide +kernel
theorem dX3_takeNumber_62 : decode cX3_takeNumber 62 = .ok (.putfield 34, 3) := by decide +kernel
theorem dX3_takeNumber_65 : decode cX3_takeNumber 65 = .ok (.goto (-60), 3) := by decide +kernel
theorem dX3_takeNumber_68 : decode cX3_takeNumber 68 = .ok (.aload_n 0, 1) := by decide +kernel
theorem dX3_takeNumber_69 : decode cX3_takeNumber 69 = .ok (.getfield 34, 3) := by decide +kernel
theorem dX3_takeNumber_72 : decode cX3_takeNumber 72 = .ok (.aload_n 0, 1) := by decide +kernel
theorem dX3_takeNumber_73 : decode cX3_takeNumber 73 = .ok (.getfield 68, 3) := by decide +kernel
theorem dX3_takeNumber_76 : decode cX3_takeNumber 76 = .ok (.isub, 1) := by decide +kernel
theorem dX3_takeNumber_77 : decode cX3_takeNumber 77 = .ok (.iconst 2, 1) := by decide +kernel
theorem dX3_takeNumber_78 : decode cX3_takeNumber 78 = .ok (.if_icmp .le 15, 3) := by decide +kernel
theorem dX3_takeNumber_81 : decode cX3_takeNumber 81 = .ok (.aload_n 0, 1) := by decide +kernel
theorem dX3_takeNumber_82 : decode cX3_takeNumber 82 = .ok (.iconst 1, 1) := by decide +kernel
theorem dX3_takeNumber_83 : decode cX3_takeNumber 83 = .ok (.aload_n 0, 1) := by decide +kernel
theorem dX3_takeNumber_84 : decode cX3_takeNumber 84 = .ok (.getfield 68, 3) := by decide +kernel
theorem dX3_takeNumber_87 : decode cX3_takeNumber 87 = .ok (.invokevirtual 60, 3) := by decide +kernel
theorem dX3_takeNumber_90 : decode cX3_takeNumber 90 = .ok (.goto 8, 3) := by decide +kernel
theorem dX3_takeNumber_93 : decode cX3_takeNumber 93 = .ok (.aload_n 0, 1) := by decide +kernel
theorem dX3_takeNumber_94 : decode cX3_takeNumber 94 = .ok (.iconst 2, 1) := by decide +kernel
theorem dX3_takeNumber_95 : decode cX3_takeNumber 95 = .ok (.putfield 50, 3) := by decide +kernel
theorem dX3_takeNumber_98 : decode cX3_takeNumber 98 = .ok (.return_, 1) := by decide +kernel
theorem dX3_isLetter_0 : decode cX3_isLetter 0 = .ok (.iload_n 0, 1) := by decide +kernel
theorem dX3_isLetter_1 : decode cX3_isLetter 1 = .ok (.bipush 97, 2) := by decide +kernel
theorem dX3_isLetter_3 : decode cX3_isLetter 3 = .ok (.if_icmp .lt 13, 3) := by decide +kernel
theorem dX3_isLetter_6 : decode cX3_isLetter 6 = .ok (.iload_n 0, 1) := by decide +kernel
theorem dX3_isLetter_7 : decode cX3_isLetter 7 = .ok (.bipush 122, 2) := by decide +kernel
theorem dX3_isLetter_9 : decode cX3_isLetter 9 = .ok (.if_icmp .gt 7, 3) := by decide +kernel
theorem dX3_isLetter_12 : decode cX3_isLetter 12 = .ok (.iconst 1, 1) := by decide +kernel
theorem dX3_isLetter_13 : decode cX3_isLetter 13 = .ok (.goto 4, 3) := by decide +kernel
theorem dX3_isLetter_16 : decode cX3_isLetter 16 = .ok (.iconst 0, 1) := by decide +kernel
theorem dX3_isLetter_17 : decode cX3_isLetter 17 = .ok (.ireturn, 1) := by decide +kernel
theorem dX3_isFigure_0 : decode cX3_isFigure 0 = .ok (.iload_n 0, 1) := by decide +kernel
theorem dX3_isFigure_1 : decode cX3_isFigure 1 = .ok (.bipush 48, 2) := by decide +kernel
theorem dX3_isFigure_3 : decode cX3_isFigure 3 = .ok (.if_icmp .lt 13, 3) := by decide +kernel
theorem dX3_isFigure_6 : decode cX3_isFigure 6 = .ok (.iload_n 0, 1) := by decide +kernel
theorem dX3_isFigure_7 : decode cX3_isFigure 7 = .ok (.bipush 57, 2) := by decide +kernel
theorem dX3_isFigure_9 : decode cX3_isFigure 9 = .ok (.if_icmp .gt 7, 3) := by decide +kernel
theorem dX3_isFigure_12 : decode cX3_isFigure 12 = .ok (.iconst 1, 1) := by decide +kernel
theorem dX3_isFigure_13 : decode cX3_isFigure 13 = .ok (.goto 4, 3) := by decide +kernel
theorem dX3_isFigure_16 : decode cX3_isFigure 16 = .ok (.iconst 0, 1) := by decide +kernel
theorem dX3_isFigure_17 : decode cX3_isFigure 17 = .ok (.ireturn, 1) := by decide +kernel
theorem dX3_lineNamed_0 : decode cX3_lineNamed 0 = .ok (.iconst 0, 1) := by decide +kernel
theorem dX3_lineNamed_1 : decode cX3_lineNamed 1 = .ok (.istore_n 1, 1) := by decide +kernel
theorem dX3_lineNamed_2 : decode cX3_lineNamed 2 = .ok (.iload_n 1, 1) := by decide +kernel
theorem dX3_lineNamed_3 : decode cX3_lineNamed 3 = .ok (.bipush 6, 2) := by decide +kernel
theorem dX3_lineNamed_5 : decode cX3_lineNamed 5 = .ok (.if_icmp .ge 22, 3) := by decide +kernel
theorem dX3_lineNamed_8 : decode cX3_lineNamed 8 = .ok (.aload_n 0, 1) := by decide +kernel
theorem dX3_lineNamed_9 : decode cX3_lineNamed 9 = .ok (.iload_n 1, 1) := by decide +kernel
theorem dX3_lineNamed_10 : decode cX3_lineNamed 10 = .ok (.invokestatic 123, 3) := by decide +kernel
theorem dX3_lineNamed_13 : decode cX3_lineNamed 13 = .ok (.invokevirtual 127, 3) := by decide +kernel
theorem dX3_lineNamed_16 : decode cX3_lineNamed 16 = .ok (.ifCond .eq 5, 3) := by decide +kernel
theorem dX3_lineNamed_19 : decode cX3_lineNamed 19 = .ok (.iload_n 1, 1) := by decide +kernel
theorem dX3_lineNamed_20 : decode cX3_lineNamed 20 = .ok (.ireturn, 1) := by decide +kernel
theorem dX3_lineNamed_21 : decode cX3_lineNamed 21 = .ok (.iinc 1 1, 3) := by decide +kernel
theorem dX3_lineNamed_24 : decode cX3_lineNamed 24 = .ok (.goto (-22), 3) := by decide +kernel
theorem dX3_lineNamed_27 : decode cX3_lineNamed 27 = .ok (.bipush (-4), 2) := by decide +kernel
theorem dX3_lineNamed_29 : decode cX3_lineNamed 29 = .ok (.ireturn, 1) := by decide +kernel
theorem dX3_nameIs_0 : decode cX3_nameIs 0 = .ok (.aload_n 0, 1) := by decide +kernel
theorem dX3_nameIs_1 : decode cX3_nameIs 1 = .ok (.getfield 34, 3) := by decide +kernel
theorem dX3_nameIs_4 : decode cX3_nameIs 4 = .ok (.aload_n 0, 1) := by decide +kernel
theorem dX3_nameIs_5 : decode cX3_nameIs 5 = .ok (.getfield 68, 3) := by decide +kernel
theorem dX3_nameIs_8 : decode cX3_nameIs 8 = .ok (.isub, 1) := by decide +kernel
theorem dX3_nameIs_9 : decode cX3_nameIs 9 = .ok (.aload_n 1, 1) := by decide +kernel
theorem dX3_nameIs_10 : decode cX3_nameIs 10 = .ok (.invokevirtual 131, 3) := by decide +kernel
theorem dX3_nameIs_13 : decode cX3_nameIs 13 = .ok (.if_icmp .eq 5, 3) := by decide +kernel
theorem dX3_nameIs_16 : decode cX3_nameIs 16 = .ok (.iconst 0, 1) := by decide +kernel
theorem dX3_nameIs_17 : decode cX3_nameIs 17 = .ok (.ireturn, 1) := by decide +kernel
theorem dX3_nameIs_18 : decode cX3_nameIs 18 = .ok (.iconst 0, 1) := by decide +kernel
theorem dX3_nameIs_19 : decode cX3_nameIs 19 = .ok (.istore_n 2, 1) := by decide +kernel
theorem dX3_nameIs_20 : decode cX3_nameIs 20 = .ok (.iload_n 2, 1) := by decide +kernel
theorem dX3_nameIs_21 : decode cX3_nameIs 21 = .ok (.aload_n 1, 1) := by decide +kernel
theorem dX3_nameIs_22 : decode cX3_nameIs 22 = .ok (.invokevirtual 131, 3) := by decide +kernel
theorem dX3_nameIs_25 : decode cX3_nameIs 25 = .ok (.if_icmp .ge 30, 3) := by decide +kernel
theorem dX3_nameIs_28 : decode cX3_nameIs 28 = .ok (.aload_n 0, 1) := by decide +kernel
theorem dX3_nameIs_29 : decode cX3_nameIs 29 = .ok (.getfield 9, 3) := by decide +kernel
theorem dX3_nameIs_32 : decode cX3_nameIs 32 = .ok (.aload_n 0, 1) := by decide +kernel
theorem dX3_nameIs_33 : decode cX3_nameIs 33 = .ok (.getfield 68, 3) := by decide +kernel
theorem dX3_nameIs_36 : decode cX3_nameIs 36 = .ok (.iload_n 2, 1) := by decide +kernel
theorem dX3_nameIs_37 : decode cX3_nameIs 37 = .ok (.iadd, 1) := by decide +kernel
theorem dX3_nameIs_38 : decode cX3_nameIs 38 = .ok (.baload, 1) := by decide +kernel
theorem dX3_nameIs_39 : decode cX3_nameIs 39 = .ok (.aload_n 1, 1) := by decide +kernel
theorem dX3_nameIs_40 : decode cX3_nameIs 40 = .ok (.iload_n 2, 1) := by decide +kernel
theorem dX3_nameIs_41 : decode cX3_nameIs 41 = .ok (.invokevirtual 135, 3) := by decide +kernel
theorem dX3_nameIs_44 : decode cX3_nameIs 44 = .ok (.if_icmp .eq 5, 3) := by decide +kernel
theorem dX3_nameIs_47 : decode cX3_nameIs 47 = .ok (.iconst 0, 1) := by decide +kernel
theorem dX3_nameIs_48 : decode cX3_nameIs 48 = .ok (.ireturn, 1) := by decide +kernel
end
section
theorem dX3_nameIs_49 : decode cX3_nameIs 49 = .ok (.iinc 2 1, 3) := by decide +kernel
theorem dX3_nameIs_52 : decode cX3_nameIs 52 = .ok (.goto (-32), 3) := by decide +kernel
theorem dX3_nameIs_55 : decode cX3_nameIs 55 = .ok (.iconst 1, 1) := by decide +kernel
theorem dX3_nameIs_56 : decode cX3_nameIs 56 = .ok (.ireturn, 1) := by decide +kernel
theorem dX3_lineName_0 : decode cX3_lineName 0 = .ok (.iload_n 0, 1) := by decide +kernel
theorem dX3_lineName_1 : decode cX3_lineName 1 = .ok (.tableswitch 50 0 4 #[35, 38, 41, 44, 47], 35) := by decide +kernel
theorem dX3_lineName_36 : decode cX3_lineName 36 = .ok (.ldc 139, 2) := by decide +kernel
theorem dX3_lineName_38 : decode cX3_lineName 38 = .ok (.areturn, 1) := by decide +kernel
theorem dX3_lineName_39 : decode cX3_lineName 39 = .ok (.ldc 141, 2) := by decide +kernel
theorem dX3_lineName_41 : decode cX3_lineName 41 = .ok (.areturn, 1) := by decide +kernel
theorem dX3_lineName_42 : decode cX3_lineName 42 = .ok (.ldc 143, 2) := by decide +kernel
theorem dX3_lineName_44 : decode cX3_lineName 44 = .ok (.areturn, 1) := by decide +kernel
theorem dX3_lineName_45 : decode cX3_lineName 45 = .ok (.ldc 145, 2) := by decide +kernel
theorem dX3_lineName_47 : decode cX3_lineName 47 = .ok (.areturn, 1) := by decide +kernel
theorem dX3_lineName_48 : decode cX3_lineName 48 = .ok (.ldc 147, 2) := by decide +kernel
theorem dX3_lineName_50 : decode cX3_lineName 50 = .ok (.areturn, 1) := by decide +kernel
theorem dX3_lineName_51 : decode cX3_lineName 51 = .ok (.ldc 149, 2) := by decide +kernel
theorem dX3_lineName_53 : decode cX3_lineName 53 = .ok (.areturn, 1) := by decide +kernel
theorem dX4_init_0 : decode cX4_init 0 = .ok (.aload_n 0, 1) := by decide +kernel
theorem dX4_init_1 : decode cX4_init 1 = .ok (.invokespecial 1, 3) := by decide +kernel
theorem dX4_init_4 : decode cX4_init 4 = .ok (.aload_n 0, 1) := by decide +kernel
theorem dX4_init_5 : decode cX4_init 5 = .ok (.sipush 160, 3) := by decide +kernel
theorem dX4_init_8 : decode cX4_init 8 = .ok (.newarray .byte, 2) := by decide +kernel
theorem dX4_init_10 : decode cX4_init 10 = .ok (.putfield 9, 3) := by decide +kernel
theorem dX4_init_13 : decode cX4_init 13 = .ok (.aload_n 0, 1) := by decide +kernel
theorem dX4_init_14 : decode cX4_init 14 = .ok (.new 13, 3) := by decide +kernel
theorem dX4_init_17 : decode cX4_init 17 = .ok (.dup, 1) := by decide +kernel
theorem dX4_init_18 : decode cX4_init 18 = .ok (.invokespecial 15, 3) := by decide +kernel
theorem dX4_init_21 : decode cX4_init 21 = .ok (.putfield 16, 3) := by decide +kernel
theorem dX4_init_24 : decode cX4_init 24 = .ok (.aload_n 0, 1) := by decide +kernel
theorem dX4_init_25 : decode cX4_init 25 = .ok (.new 13, 3) := by decide +kernel
theorem dX4_init_28 : decode cX4_init 28 = .ok (.dup, 1) := by decide +kernel
theorem dX4_init_29 : decode cX4_init 29 = .ok (.invokespecial 15, 3) := by decide +kernel
theorem dX4_init_32 : decode cX4_init 32 = .ok (.putfield 20, 3) := by decide +kernel
theorem dX4_init_35 : decode cX4_init 35 = .ok (.aload_n 0, 1) := by decide +kernel
theorem dX4_init_36 : decode cX4_init 36 = .ok (.iconst 2, 1) := by decide +kernel
theorem dX4_init_37 : decode cX4_init 37 = .ok (.anewarray 13, 3) := by decide +kernel
theorem dX4_init_40 : decode cX4_init 40 = .ok (.putfield 23, 3) := by decide +kernel
theorem dX4_init_43 : decode cX4_init 43 = .ok (.aload_n 0, 1) := by decide +kernel
theorem dX4_init_44 : decode cX4_init 44 = .ok (.iconst 2, 1) := by decide +kernel
theorem dX4_init_45 : decode cX4_init 45 = .ok (.newarray .boolean, 2) := by decide +kernel
theorem dX4_init_47 : decode cX4_init 47 = .ok (.putfield 27, 3) := by decide +kernel
theorem dX4_init_50 : decode cX4_init 50 = .ok (.iconst 0, 1) := by decide +kernel
theorem dX4_init_51 : decode cX4_init 51 = .ok (.istore_n 1, 1) := by decide +kernel
theorem dX4_init_52 : decode cX4_init 52 = .ok (.iload_n 1, 1) := by decide +kernel
theorem dX4_init_53 : decode cX4_init 53 = .ok (.iconst 2, 1) := by decide +kernel
theorem dX4_init_54 : decode cX4_init 54 = .ok (.if_icmp .ge 22, 3) := by decide +kernel
theorem dX4_init_57 : decode cX4_init 57 = .ok (.aload_n 0, 1) := by decide +kernel
theorem dX4_init_58 : decode cX4_init 58 = .ok (.getfield 23, 3) := by decide +kernel
theorem dX4_init_61 : decode cX4_init 61 = .ok (.iload_n 1, 1) := by decide +kernel
theorem dX4_init_62 : decode cX4_init 62 = .ok (.new 13, 3) := by decide +kernel
theorem dX4_init_65 : decode cX4_init 65 = .ok (.dup, 1) := by decide +kernel
theorem dX4_init_66 : decode cX4_init 66 = .ok (.invokespecial 15, 3) := by decide +kernel
theorem dX4_init_69 : decode cX4_init 69 = .ok (.aastore, 1) := by decide +kernel
theorem dX4_init_70 : decode cX4_init 70 = .ok (.iinc 1 1, 3) := by decide +kernel
theorem dX4_init_73 : decode cX4_init 73 = .ok (.goto (-21), 3) := by decide +kernel
theorem dX4_init_76 : decode cX4_init 76 = .ok (.aload_n 0, 1) := by decide +kernel
theorem dX4_init_77 : decode cX4_init 77 = .ok (.iconst 4, 1) := by decide +kernel
theorem dX4_init_78 : decode cX4_init 78 = .ok (.anewarray 31, 3) := by decide +kernel
theorem dX4_init_81 : decode cX4_init 81 = .ok (.putfield 33, 3) := by decide +kernel
theorem dX4_init_84 : decode cX4_init 84 = .ok (.iconst 0, 1) := by decide +kernel
theorem dX4_init_85 : decode cX4_init 85 = .ok (.istore_n 1, 1) := by decide +kernel
theorem dX4_init_86 : decode cX4_init 86 = .ok (.iload_n 1, 1) := by decide +kernel
theorem dX4_init_87 : decode cX4_init 87 = .ok (.iconst 4, 1) := by decide +kernel
theorem dX4_init_88 : decode cX4_init 88 = .ok (.if_icmp .ge 22, 3) := by decide +kernel
theorem dX4_init_91 : decode cX4_init 91 = .ok (.aload_n 0, 1) := by decide +kernel
theorem dX4_init_92 : decode cX4_init 92 = .ok (.getfield 33, 3) := by decide +kernel
theorem dX4_init_95 : decode cX4_init 95 = .ok (.iload_n 1, 1) := by decide +kernel
theorem dX4_init_96 : decode cX4_init 96 = .ok (.new 31, 3) := by decide +kernel
theorem dX4_init_99 : decode cX4_init 99 = .ok (.dup, 1) := by decide +kernel
theorem dX4_init_100 : decode cX4_init 100 = .ok (.invokespecial 37, 3) := by decide +kernel
theorem dX4_init_103 : decode cX4_init 103 = .ok (.aastore, 1) := by decide +kernel
theorem dX4_init_104 : decode cX4_init 104 = .ok (.iinc 1 1, 3) := by decide +kernel
theorem dX4_init_107 : decode cX4_init 107 = .ok (.goto (-21), 3) := by decide +kernel
theorem dX4_init_110 : decode cX4_init 110 = .ok (.aload_n 0, 1) := by decide +kernel
theorem dX4_init_111 : decode cX4_init 111 = .ok (.new 38, 3) := by decide +kernel
theorem dX4_init_114 : decode cX4_init 114 = .ok (.dup, 1) := by decide +kernel
theorem dX4_init_115 : decode cX4_init 115 = .ok (.aload_n 0, 1) := by decide +kernel
theorem dX4_init_116 : decode cX4_init 116 = .ok (.getfield 9, 3) := by decide +kernel
theorem dX4_init_119 : decode cX4_init 119 = .ok (.aload_n 0, 1) := by decide +kernel
theorem dX4_init_120 : decode cX4_init 120 = .ok (.getfield 20, 3) := by decide +kernel
theorem dX4_init_123 : decode cX4_init 123 = .ok (.invokespecial 40, 3) := by decide +kernel
theorem dX4_init_126 : decode cX4_init 126 = .ok (.putfield 43, 3) := by decide +kernel
theorem dX4_init_129 : decode cX4_init 129 = .ok (.aload_n 0, 1) := by decide +kernel
theorem dX4_init_130 : decode cX4_init 130 = .ok (.bipush 8, 2) := by decide +kernel
theorem dX4_init_132 : decode cX4_init 132 = .ok (.newarray .int, 2) := by decide +kernel
theorem dX4_init_134 : decode cX4_init 134 = .ok (.putfield 47, 3) := by decide +kernel
theorem dX4_init_137 : decode cX4_init 137 = .ok (.aload_n 0, 1) := by decide +kernel
theorem dX4_init_138 : decode cX4_init 138 = .ok (.bipush 41, 2) := by decide +kernel
theorem dX4_init_140 : decode cX4_init 140 = .ok (.newarray .int, 2) := by decide +kernel
theorem dX4_init_142 : decode cX4_init 142 = .ok (.putfield 51, 3) := by decide +kernel
theorem dX4_init_145 : decode cX4_init 145 = .ok (.return_, 1) := by decide +kernel
theorem dX4_feed_0 : decode cX4_feed 0 = .ok (.iload_n 1, 1) := by decide +kernel
theorem dX4_feed_1 : decode cX4_feed 1 = .ok (.iconst 0, 1) := by decide +kernel
theorem dX4_feed_2 : decode cX4_feed 2 = .ok (.bipush 127, 2) := by decide +kernel
theorem dX4_feed_4 : decode cX4_feed 4 = .ok (.invokestatic 54, 3) := by decide +kernel
theorem dX4_feed_7 : decode cX4_feed 7 = .ok (.ifCond .ne 5, 3) := by decide +kernel
theorem dX4_feed_10 : decode cX4_feed 10 = .ok (.iconst (-1), 1) := by decide +kernel
theorem dX4_feed_11 : decode cX4_feed 11 = .ok (.ireturn, 1) := by decide +kernel
theorem dX4_feed_12 : decode cX4_feed 12 = .ok (.aload_n 0, 1) := by decide +kernel
theorem dX4_feed_13 : decode cX4_feed 13 = .ok (.getfield 58, 3) := by decide +kernel
theorem dX4_feed_16 : decode cX4_feed 16 = .ok (.sipush 160, 3) := by decide +kernel
theorem dX4_feed_19 : decode cX4_feed 19 = .ok (.if_icmp .lt 6, 3) := by decide +kernel
theorem dX4_feed_22 : decode cX4_feed 22 = .ok (.bipush (-3), 2) := by decide +kernel
theorem dX4_feed_24 : decode cX4_feed 24 = .ok (.ireturn, 1) := by decide +kernel
theorem dX4_feed_25 : decode cX4_feed 25 = .ok (.aload_n 0, 1) := by decide +kernel
theorem dX4_feed_26 : decode cX4_feed 26 = .ok (.getfield 9, 3) := by decide +kernel
theorem dX4_feed_29 : decode cX4_feed 29 = .ok (.aload_n 0, 1) := by decide +kernel
theorem dX4_feed_30 : decode cX4_feed 30 = .ok (.getfield 58, 3) := by decide +kernel
theorem dX4_feed_33 : decode cX4_feed 33 = .ok (.iload_n 1, 1) := by decide +kernel
theorem dX4_feed_34 : decode cX4_feed 34 = .ok (.i2b, 1) := by decide +kernel
theorem dX4_feed_35 : decode cX4_feed 35 = .ok (.bastore, 1) := by decide +kernel
theorem dX4_feed_36 : decode cX4_feed 36 = .ok (.aload_n 0, 1) := by decide +kernel
theorem dX4_feed_37 : decode cX4_feed 37 = .ok (.dup, 1) := by decide +kernel
theorem dX4_feed_38 : decode cX4_feed 38 = .ok (.getfield 58, 3) := by decide +kernel
theorem dX4_feed_41 : decode cX4_feed 41 = .ok (.iconst 1, 1) := by decide +kernel
theorem dX4_feed_42 : decode cX4_feed 42 = .ok (.iadd, 1) := by decide +kernel
theorem dX4_feed_43 : decode cX4_feed 43 = .ok (.putfield 58, 3) := by decide +kernel
theorem dX4_feed_46 : decode cX4_feed 46 = .ok (.aload_n 0, 1) := by decide +kernel
theorem dX4_feed_47 : decode cX4_feed 47 = .ok (.getfield 58, 3) := by decide +kernel
theorem dX4_feed_50 : decode cX4_feed 50 = .ok (.ireturn, 1) := by decide +kernel
theorem dX4_end_0 : decode cX4_end 0 = .ok (.iload_n 1, 1) := by decide +kernel
theorem dX4_end_1 : decode cX4_end 1 = .ok (.iconst 0, 1) := by decide +kernel
theorem dX4_end_2 : decode cX4_end 2 = .ok (.aload_n 0, 1) := by decide +kernel
theorem dX4_end_3 : decode cX4_end 3 = .ok (.getfield 58, 3) := by decide +kernel
theorem dX4_end_6 : decode cX4_end 6 = .ok (.invokestatic 54, 3) := by decide +kernel
theorem dX4_end_9 : decode cX4_end 9 = .ok (.ifCond .ne 5, 3) := by decide +kernel
theorem dX4_end_12 : decode cX4_end 12 = .ok (.iconst (-1), 1) := by decide +kernel
theorem dX4_end_13 : decode cX4_end 13 = .ok (.ireturn, 1) := by decide +kernel
theorem dX4_end_14 : decode cX4_end 14 = .ok (.aload_n 0, 1) := by decide +kernel
theorem dX4_end_15 : decode cX4_end 15 = .ok (.getfield 58, 3) := by decide +kernel
theorem dX4_end_18 : decode cX4_end 18 = .ok (.istore_n 2, 1) := by decide +kernel
theorem dX4_end_19 : decode cX4_end 19 = .ok (.aload_n 0, 1) := by decide +kernel
theorem dX4_end_20 : decode cX4_end 20 = .ok (.iload_n 1, 1) := by decide +kernel
theorem dX4_end_21 : decode cX4_end 21 = .ok (.putfield 58, 3) := by decide +kernel
theorem dX4_end_24 : decode cX4_end 24 = .ok (.iload_n 2, 1) := by decide +kernel
theorem dX4_end_25 : decode cX4_end 25 = .ok (.ireturn, 1) := by decide +kernel
theorem dX4_text_0 : decode cX4_text 0 = .ok (.aload_n 0, 1) := by decide +kernel
theorem dX4_text_1 : decode cX4_text 1 = .ok (.getfield 43, 3) := by decide +kernel
theorem dX4_text_4 : decode cX4_text 4 = .ok (.aload_n 0, 1) := by decide +kernel
theorem dX4_text_5 : decode cX4_text 5 = .ok (.getfield 58, 3) := by decide +kernel
theorem dX4_text_8 : decode cX4_text 8 = .ok (.invokevirtual 62, 3) := by decide +kernel
theorem dX4_text_11 : decode cX4_text 11 = .ok (.istore_n 1, 1) := by decide +kernel
theorem dX4_text_12 : decode cX4_text 12 = .ok (.aload_n 0, 1) := by decide +kernel
theorem dX4_text_13 : decode cX4_text 13 = .ok (.iconst 0, 1) := by decide +kernel
theorem dX4_text_14 : decode cX4_text 14 = .ok (.putfield 58, 3) := by decide +kernel
theorem dX4_text_17 : decode cX4_text 17 = .ok (.aload_n 0, 1) := by decide +kernel
theorem dX4_text_18 : decode cX4_text 18 = .ok (.aload_n 0, 1) := by decide +kernel
theorem dX4_text_19 : decode cX4_text 19 = .ok (.getfield 43, 3) := by decide +kernel
theorem dX4_text_22 : decode cX4_text 22 = .ok (.getfield 66, 3) := by decide +kernel
theorem dX4_text_25 : decode cX4_text 25 = .ok (.putfield 69, 3) := by decide +kernel
theorem dX4_text_28 : decode cX4_text 28 = .ok (.aload_n 0, 1) := by decide +kernel
theorem dX4_text_29 : decode cX4_text 29 = .ok (.getfield 69, 3) := by decide +kernel
theorem dX4_text_32 : decode cX4_text 32 = .ok (.ifCond .eq 14, 3) := by decide +kernel
theorem dX4_text_35 : decode cX4_text 35 = .ok (.bipush (-10), 2) := by decide +kernel
theorem dX4_text_37 : decode cX4_text 37 = .ok (.aload_n 0, 1) := by decide +kernel
theorem dX4_text_38 : decode cX4_text 38 = .ok (.getfield 43, 3) := by decide +kernel
theorem dX4_text_41 : decode cX4_text 41 = .ok (.getfield 72, 3) := by decide +kernel
theorem dX4_text_44 : decode cX4_text 44 = .ok (.isub, 1) := by decide +kernel
theorem dX4_text_45 : decode cX4_text 45 = .ok (.ireturn, 1) := by decide +kernel
theorem dX4_text_46 : decode cX4_text 46 = .ok (.aload_n 0, 1) := by decide +kernel
theorem dX4_text_47 : decode cX4_text 47 = .ok (.getfield 16, 3) := by decide +kernel
theorem dX4_text_50 : decode cX4_text 50 = .ok (.aload_n 0, 1) := by decide +kernel
theorem dX4_text_51 : decode cX4_text 51 = .ok (.getfield 20, 3) := by decide +kernel
theorem dX4_text_54 : decode cX4_text 54 = .ok (.invokevirtual 75, 3) := by decide +kernel
theorem dX4_text_57 : decode cX4_text 57 = .ok (.iconst 0, 1) := by decide +kernel
theorem dX4_text_58 : decode cX4_text 58 = .ok (.istore_n 2, 1) := by decide +kernel
theorem dX4_text_59 : decode cX4_text 59 = .ok (.iload_n 2, 1) := by decide +kernel
theorem dX4_text_60 : decode cX4_text 60 = .ok (.iconst 2, 1) := by decide +kernel
theorem dX4_text_61 : decode cX4_text 61 = .ok (.if_icmp .ge 16, 3) := by decide +kernel
theorem dX4_text_64 : decode cX4_text 64 = .ok (.aload_n 0, 1) := by decide +kernel
theorem dX4_text_65 : decode cX4_text 65 = .ok (.getfield 27, 3) := by decide +kernel
theorem dX4_text_68 : decode cX4_text 68 = .ok (.iload_n 2, 1) := by decide +kernel
theorem dX4_text_69 : decode cX4_text 69 = .ok (.iconst 0, 1) := by decide +kernel
theorem dX4_text_70 : decode cX4_text 70 = .ok (.bastore, 1) := by decide +kernel
theorem dX4_text_71 : decode cX4_text 71 = .ok (.iinc 2 1, 3) := by decide +kernel
theorem dX4_text_74 : decode cX4_text 74 = .ok (.goto (-15), 3) := by decide +kernel
theorem dX4_text_77 : decode cX4_text 77 = .ok (.iload_n 1, 1) := by decide +kernel
theorem dX4_text_78 : decode cX4_text 78 = .ok (.ireturn, 1) := by decide +kernel
theorem dX4_fault_0 : decode cX4_fault 0 = .ok (.aload_n 0, 1) := by decide +kernel
theorem dX4_fault_1 : decode cX4_fault 1 = .ok (.getfield 69, 3) := by decide +kernel
theorem dX4_fault_4 : decode cX4_fault 4 = .ok (.ireturn, 1) := by decide +kernel
theorem dX4_rule_0 : decode cX4_rule 0 = .ok (.iload_n 1, 1) := by decide +kernel
theorem dX4_rule_1 : decode cX4_rule 1 = .ok (.tableswitch 99 0 6 #[43, 51, 59, 67, 75, 83, 91], 43) := by decide +kernel
theorem dX4_rule_44 : decode cX4_rule 44 = .ok (.aload_n 0, 1) := by decide +kernel
theorem dX4_rule_45 : decode cX4_rule 45 = .ok (.getfield 16, 3) := by decide +kernel
theorem dX4_rule_48 : decode cX4_rule 48 = .ok (.getfield 79, 3) := by decide +kernel
theorem dX4_rule_51 : decode cX4_rule 51 = .ok (.ireturn, 1) := by decide +kernel
theorem dX4_rule_52 : decode cX4_rule 52 = .ok (.aload_n 0, 1) := by decide +kernel
theorem dX4_rule_53 : decode cX4_rule 53 = .ok (.getfield 16, 3) := by decide +kernel
theorem dX4_rule_56 : decode cX4_rule 56 = .ok (.getfield 82, 3) := by decide +kernel
theorem dX4_rule_59 : decode cX4_rule 59 = .ok (.ireturn, 1) := by decide +kernel
theorem dX4_rule_60 : decode cX4_rule 60 = .ok (.aload_n 0, 1) := by decide +kernel
theorem dX4_rule_61 : decode cX4_rule 61 = .ok (.getfield 16, 3) := by decide +kernel
theorem dX4_rule_64 : decode cX4_rule 64 = .ok (.getfield 85, 3) := by decide +kernel
theorem dX4_rule_67 : decode cX4_rule 67 = .ok (.ireturn, 1) := by decide +kernel
theorem dX4_rule_68 : decode cX4_rule 68 = .ok (.aload_n 0, 1) := by decide +kernel
theorem dX4_rule_69 : decode cX4_rule 69 = .ok (.getfield 16, 3) := by decide +kernel
theorem dX4_rule_72 : decode cX4_rule 72 = .ok (.getfield 88, 3) := by decide +kernel
theorem dX4_rule_75 : decode cX4_rule 75 = .ok (.ireturn, 1) := by decide +kernel
theorem dX4_rule_76 : decode cX4_rule 76 = .ok (.aload_n 0, 1) := by decide +kernel
theorem dX4_rule_77 : decode cX4_rule 77 = .ok (.getfield 16, 3) := by decide +kernel
theorem dX4_rule_80 : decode cX4_rule 80 = .ok (.invokevirtual 91, 3) := by decide +kernel
theorem dX4_rule_83 : decode cX4_rule 83 = .ok (.ireturn, 1) := by decide +kernel
theorem dX4_rule_84 : decode cX4_rule 84 = .ok (.aload_n 0, 1) := by decide +kernel
theorem dX4_rule_85 : decode cX4_rule 85 = .ok (.getfield 16, 3) := by decide +kernel
theorem dX4_rule_88 : decode cX4_rule 88 = .ok (.invokevirtual 95, 3) := by decide +kernel
theorem dX4_rule_91 : decode cX4_rule 91 = .ok (.ireturn, 1) := by decide +kernel
theorem dX4_rule_92 : decode cX4_rule 92 = .ok (.aload_n 0, 1) := by decide +kernel
theorem dX4_rule_93 : decode cX4_rule 93 = .ok (.getfield 16, 3) := by decide +kernel
theorem dX4_rule_96 : decode cX4_rule 96 = .ok (.invokevirtual 98, 3) := by decide +kernel
theorem dX4_rule_99 : decode cX4_rule 99 = .ok (.ireturn, 1) := by decide +kernel
theorem dX4_rule_100 : decode cX4_rule 100 = .ok (.iconst (-1), 1) := by decide +kernel
theorem dX4_rule_101 : decode cX4_rule 101 = .ok (.ireturn, 1) := by decide +kernel
theorem dX4_key_0 : decode cX4_key 0 = .ok (.aload_n 0, 1) := by decide +kernel
theorem dX4_key_1 : decode cX4_key 1 = .ok (.getfield 16, 3) := by decide +kernel
theorem dX4_key_4 : decode cX4_key 4 = .ok (.iload_n 1, 1) := by decide +kernel
theorem dX4_key_5 : decode cX4_key 5 = .ok (.invokevirtual 101, 3) := by decide +kernel
theorem dX4_key_8 : decode cX4_key 8 = .ok (.ifCond .ne 5, 3) := by decide +kernel
theorem dX4_key_11 : decode cX4_key 11 = .ok (.iconst (-1), 1) := by decide +kernel
theorem dX4_key_12 : decode cX4_key 12 = .ok (.ireturn, 1) := by decide +kernel
theorem dX4_key_13 : decode cX4_key 13 = .ok (.aload_n 0, 1) := by decide +kernel
theorem dX4_key_14 : decode cX4_key 14 = .ok (.getfield 16, 3) := by decide +kernel
theorem dX4_key_17 : decode cX4_key 17 = .ok (.getfield 105, 3) := by decide +kernel
theorem dX4_key_20 : decode cX4_key 20 = .ok (.iload_n 1, 1) := by decide +kernel
theorem dX4_key_21 : decode cX4_key 21 = .ok (.aaload, 1) := by decide +kernel
theorem dX4_key_22 : decode cX4_key 22 = .ok (.astore_n 3, 1) := by decide +kernel
theorem dX4_key_23 : decode cX4_key 23 = .ok (.iload_n 2, 1) := by decide +kernel
theorem dX4_key_24 : decode cX4_key 24 = .ok (.tableswitch 70 0 6 #[44, 44, 44, 50, 55, 60, 65], 44) := by decide +kernel
theorem dX4_key_68 : decode cX4_key 68 = .ok (.aload_n 3, 1) := by decide +kernel
theorem dX4_key_69 : decode cX4_key 69 = .ok (.iload_n 2, 1) := by decide +kernel
theorem dX4_key_70 : decode cX4_key 70 = .ok (.invokevirtual 109, 3) := by decide +kernel
theorem dX4_key_73 : decode cX4_key 73 = .ok (.ireturn, 1) := by decide +kernel
theorem dX4_key_74 : decode cX4_key 74 = .ok (.aload_n 3, 1) := by decide +kernel
theorem dX4_key_75 : decode cX4_key 75 = .ok (.getfield 114, 3) := by decide +kernel
theorem dX4_key_78 : decode cX4_key 78 = .ok (.ireturn, 1) := by decide +kernel
theorem dX4_key_79 : decode cX4_key 79 = .ok (.aload_n 3, 1) := by decide +kernel
theorem dX4_key_80 : decode cX4_key 80 = .ok (.getfield 117, 3) := by decide +kernel
theorem dX4_key_83 : decode cX4_key 83 = .ok (.ireturn, 1) := by decide +kernel
theorem dX4_key_84 : decode cX4_key 84 = .ok (.aload_n 3, 1) := by decide +kernel
theorem dX4_key_85 : decode cX4_key 85 = .ok (.getfield 120, 3) := by decide +kernel
theorem dX4_key_88 : decode cX4_key 88 = .ok (.ireturn, 1) := by decide +kernel
theorem dX4_key_89 : decode cX4_key 89 = .ok (.aload_n 3, 1) := by decide +kernel
theorem dX4_key_90 : decode cX4_key 90 = .ok (.getfield 123, 3) := by decide +kernel
theorem dX4_key_93 : decode cX4_key 93 = .ok (.ireturn, 1) := by decide +kernel
theorem dX4_key_94 : decode cX4_key 94 = .ok (.iconst (-1), 1) := by decide +kernel
theorem dX4_key_95 : decode cX4_key 95 = .ok (.ireturn, 1) := by decide +kernel
theorem dX4_press_0 : decode cX4_press 0 = .ok (.iload_n 1, 1) := by decide +kernel
theorem dX4_press_1 : decode cX4_press 1 = .ok (.iconst 0, 1) := by decide +kernel
theorem dX4_press_2 : decode cX4_press 2 = .ok (.aload_n 0, 1) := by decide +kernel
theorem dX4_press_3 : decode cX4_press 3 = .ok (.getfield 16, 3) := by decide +kernel
theorem dX4_press_6 : decode cX4_press 6 = .ok (.getfield 82, 3) := by decide +kernel
theorem dX4_press_9 : decode cX4_press 9 = .ok (.iconst 1, 1) := by decide +kernel
theorem dX4_press_10 : decode cX4_press 10 = .ok (.isub, 1) := by decide +kernel
theorem dX4_press_11 : decode cX4_press 11 = .ok (.invokestatic 54, 3) := by decide +kernel
theorem dX4_press_14 : decode cX4_press 14 = .ok (.ifCond .ne 5, 3) := by decide +kernel
theorem dX4_press_17 : decode cX4_press 17 = .ok (.iconst (-1), 1) := by decide +kernel
theorem dX4_press_18 : decode cX4_press 18 = .ok (.ireturn, 1) := by decide +kernel
theorem dX4_press_19 : decode cX4_press 19 = .ok (.iload_n 2, 1) := by decide +kernel
theorem dX4_press_20 : decode cX4_press 20 = .ok (.tableswitch 58 0 2 #[28, 38, 48], 28) := by decide +kernel
theorem dX4_press_48 : decode cX4_press 48 = .ok (.aload_n 0, 1) := by decide +kernel
theorem dX4_press_49 : decode cX4_press 49 = .ok (.getfield 16, 3) := by decide +kernel
theorem dX4_press_52 : decode cX4_press 52 = .ok (.getfield 126, 3) := by decide +kernel
theorem dX4_press_55 : decode cX4_press 55 = .ok (.iload_n 1, 1) := by decide +kernel
theorem dX4_press_56 : decode cX4_press 56 = .ok (.iaload, 1) := by decide +kernel
theorem dX4_press_57 : decode cX4_press 57 = .ok (.ireturn, 1) := by decide +kernel
theorem dX4_press_58 : decode cX4_press 58 = .ok (.aload_n 0, 1) := by decide +kernel
theorem dX4_press_59 : decode cX4_press 59 = .ok (.getfield 16, 3) := by decide +kernel
theorem dX4_press_62 : decode cX4_press 62 = .ok (.getfield 129, 3) := by decide +kernel
theorem dX4_press_65 : decode cX4_press 65 = .ok (.iload_n 1, 1) := by decide +kernel
theorem dX4_press_66 : decode cX4_press 66 = .ok (.iaload, 1) := by decide +kernel
theorem dX4_press_67 : decode cX4_press 67 = .ok (.ireturn, 1) := by decide +kernel
theorem dX4_press_68 : decode cX4_press 68 = .ok (.aload_n 0, 1) := by decide +kernel
theorem dX4_press_69 : decode cX4_press 69 = .ok (.getfield 16, 3) := by decide +kernel
theorem dX4_press_72 : decode cX4_press 72 = .ok (.getfield 132, 3) := by decide +kernel
theorem dX4_press_75 : decode cX4_press 75 = .ok (.iload_n 1, 1) := by decide +kernel
theorem dX4_press_76 : decode cX4_press 76 = .ok (.iaload, 1) := by decide +kernel
theorem dX4_press_77 : decode cX4_press 77 = .ok (.ireturn, 1) := by decide +kernel
theorem dX4_press_78 : decode cX4_press 78 = .ok (.iconst (-1), 1) := by decide +kernel
theorem dX4_press_79 : decode cX4_press 79 = .ok (.ireturn, 1) := by decide +kernel
theorem dX4_contact_0 : decode cX4_contact 0 = .ok (.aload_n 0, 1) := by decide +kernel
theorem dX4_contact_1 : decode cX4_contact 1 = .ok (.getfield 16, 3) := by decide +kernel
theorem dX4_contact_4 : decode cX4_contact 4 = .ok (.iload_n 1, 1) := by decide +kernel
theorem dX4_contact_5 : decode cX4_contact 5 = .ok (.invokevirtual 101, 3) := by decide +kernel
theorem dX4_contact_8 : decode cX4_contact 8 = .ok (.ifCond .eq 14, 3) := by decide +kernel
theorem dX4_contact_11 : decode cX4_contact 11 = .ok (.iload_n 2, 1) := by decide +kernel
theorem dX4_contact_12 : decode cX4_contact 12 = .ok (.iconst 0, 1) := by decide +kernel
theorem dX4_contact_13 : decode cX4_contact 13 = .ok (.sipush 999, 3) := by decide +kernel
theorem dX4_contact_16 : decode cX4_contact 16 = .ok (.invokestatic 54, 3) := by decide +kernel
theorem dX4_contact_19 : decode cX4_contact 19 = .ok (.ifCond .ne 5, 3) := by decide +kernel
theorem dX4_contact_22 : decode cX4_contact 22 = .ok (.iconst (-1), 1) := by decide +kernel
theorem dX4_contact_23 : decode cX4_contact 23 = .ok (.ireturn, 1) := by decide +kernel
theorem dX4_contact_24 : decode cX4_contact 24 = .ok (.aload_n 0, 1) := by decide +kernel
theorem dX4_contact_25 : decode cX4_contact 25 = .ok (.getfield 16, 3) := by decide +kernel
theorem dX4_contact_28 : decode cX4_contact 28 = .ok (.iload_n 1, 1) := by decide +kernel
theorem dX4_contact_29 : decode cX4_contact 29 = .ok (.iload_n 2, 1) := by decide +kernel
theorem dX4_contact_30 : decode cX4_contact 30 = .ok (.invokevirtual 135, 3) := by decide +kernel
theorem dX4_contact_33 : decode cX4_contact 33 = .ok (.ireturn, 1) := by decide +kernel
theorem dX4_alter_0 : decode cX4_alter 0 = .ok (.aload_n 0, 1) := by decide +kernel
theorem dX4_alter_1 : decode cX4_alter 1 = .ok (.getfield 16, 3) := by decide +kernel
theorem dX4_alter_4 : decode cX4_alter 4 = .ok (.iload_n 1, 1) := by decide +kernel
theorem dX4_alter_5 : decode cX4_alter 5 = .ok (.invokevirtual 101, 3) := by decide +kernel
theorem dX4_alter_8 : decode cX4_alter 8 = .ok (.ifCond .eq 11, 3) := by decide +kernel
theorem dX4_alter_11 : decode cX4_alter 11 = .ok (.iload_n 2, 1) := by decide +kernel
theorem dX4_alter_12 : decode cX4_alter 12 = .ok (.iload_n 3, 1) := by decide +kernel
theorem dX4_alter_13 : decode cX4_alter 13 = .ok (.invokestatic 139, 3) := by decide +kernel
theorem dX4_alter_16 : decode cX4_alter 16 = .ok (.ifCond .ne 5, 3) := by decide +kernel
theorem dX4_alter_19 : decode cX4_alter 19 = .ok (.iconst (-1), 1) := by decide +kernel
theorem dX4_alter_20 : decode cX4_alter 20 = .ok (.ireturn, 1) := by decide +kernel
theorem dX4_alter_21 : decode cX4_alter 21 = .ok (.aload_n 0, 1) := by decide +kernel
theorem dX4_alter_22 : decode cX4_alter 22 = .ok (.getfield 16, 3) := by decide +kernel
theorem dX4_alter_25 : decode cX4_alter 25 = .ok (.getfield 105, 3) := by decide +kernel
theorem dX4_alter_28 : decode cX4_alter 28 = .ok (.iload_n 1, 1) := by decide +kernel
theorem dX4_alter_29 : decode cX4_alter 29 = .ok (.aaload, 1) := by decide +kernel
theorem dX4_alter_30 : decode cX4_alter 30 = .ok (.iload_n 2, 1) := by decide +kernel
theorem dX4_alter_31 : decode cX4_alter 31 = .ok (.invokevirtual 109, 3) := by decide +kernel
theorem dX4_alter_34 : decode cX4_alter 34 = .ok (.istore 4, 2) := by decide +kernel
theorem dX4_alter_36 : decode cX4_alter 36 = .ok (.aload_n 0, 1) := by decide +kernel
theorem dX4_alter_37 : decode cX4_alter 37 = .ok (.getfield 16, 3) := by decide +kernel
theorem dX4_alter_40 : decode cX4_alter 40 = .ok (.getfield 105, 3) := by decide +kernel
theorem dX4_alter_43 : decode cX4_alter 43 = .ok (.iload_n 1, 1) := by decide +kernel
theorem dX4_alter_44 : decode cX4_alter 44 = .ok (.aaload, 1) := by decide +kernel
theorem dX4_alter_45 : decode cX4_alter 45 = .ok (.iload_n 2, 1) := by decide +kernel
theorem dX4_alter_46 : decode cX4_alter 46 = .ok (.iload_n 3, 1) := by decide +kernel
theorem dX4_alter_47 : decode cX4_alter 47 = .ok (.invokevirtual 143, 3) := by decide +kernel
theorem dX4_alter_50 : decode cX4_alter 50 = .ok (.iload 4, 2) := by decide +kernel
theorem dX4_alter_52 : decode cX4_alter 52 = .ok (.ireturn, 1) := by decide +kernel
theorem dX4_every_0 : decode cX4_every 0 = .ok (.iload_n 1, 1) := by decide +kernel
theorem dX4_every_1 : decode cX4_every 1 = .ok (.iconst 1, 1) := by decide +kernel
theorem dX4_every_2 : decode cX4_every 2 = .ok (.iconst 4, 1) := by decide +kernel
theorem dX4_every_3 : decode cX4_every 3 = .ok (.invokestatic 54, 3) := by decide +kernel
theorem dX4_every_6 : decode cX4_every 6 = .ok (.ifCond .ne 5, 3) := by decide +kernel
theorem dX4_every_9 : decode cX4_every 9 = .ok (.iconst (-1), 1) := by decide +kernel
theorem dX4_every_10 : decode cX4_every 10 = .ok (.ireturn, 1) := by decide +kernel
theorem dX4_every_11 : decode cX4_every 11 = .ok (.aload_n 0, 1) := by decide +kernel
theorem dX4_every_12 : decode cX4_every 12 = .ok (.getfield 16, 3) := by decide +kernel
theorem dX4_every_15 : decode cX4_every 15 = .ok (.getfield 88, 3) := by decide +kernel
theorem dX4_every_18 : decode cX4_every 18 = .ok (.istore_n 2, 1) := by decide +kernel
theorem dX4_every_19 : decode cX4_every 19 = .ok (.aload_n 0, 1) := by decide +kernel
theorem dX4_every_20 : decode cX4_every 20 = .ok (.getfield 16, 3) := by decide +kernel
theorem dX4_every_23 : decode cX4_every 23 = .ok (.iload_n 1, 1) := by decide +kernel
theorem dX4_every_24 : decode cX4_every 24 = .ok (.putfield 88, 3) := by decide +kernel
theorem dX4_every_27 : decode cX4_every 27 = .ok (.iload_n 2, 1) := by decide +kernel
theorem dX4_every_28 : decode cX4_every 28 = .ok (.ireturn, 1) := by decide +kernel
theorem dX4_strike_0 : decode cX4_strike 0 = .ok (.aload_n 0, 1) := by decide +kernel
theorem dX4_strike_1 : decode cX4_strike 1 = .ok (.iload_n 1, 1) := by decide +kernel
theorem dX4_strike_2 : decode cX4_strike 2 = .ok (.iload_n 2, 1) := by decide +kernel
theorem dX4_strike_3 : decode cX4_strike 3 = .ok (.iload_n 3, 1) := by decide +kernel
theorem dX4_strike_4 : decode cX4_strike 4 = .ok (.invokevirtual 147, 3) := by decide +kernel
theorem dX4_strike_7 : decode cX4_strike 7 = .ok (.ireturn, 1) := by decide +kernel
theorem dX4_drop_0 : decode cX4_drop 0 = .ok (.iload_n 1, 1) := by decide +kernel
theorem dX4_drop_1 : decode cX4_drop 1 = .ok (.iconst 0, 1) := by decide +kernel
theorem dX4_drop_2 : decode cX4_drop 2 = .ok (.aload_n 0, 1) := by decide +kernel
theorem dX4_drop_3 : decode cX4_drop 3 = .ok (.getfield 16, 3) := by decide +kernel
theorem dX4_drop_6 : decode cX4_drop 6 = .ok (.getfield 82, 3) := by decide +kernel
theorem dX4_drop_9 : decode cX4_drop 9 = .ok (.invokestatic 54, 3) := by decide +kernel
theorem dX4_drop_12 : decode cX4_drop 12 = .ok (.ifCond .ne 5, 3) := by decide +kernel
theorem dX4_drop_15 : decode cX4_drop 15 = .ok (.iconst (-1), 1) := by decide +kernel
theorem dX4_drop_16 : decode cX4_drop 16 = .ok (.ireturn, 1) := by decide +kernel
theorem dX4_drop_17 : decode cX4_drop 17 = .ok (.aload_n 0, 1) := by decide +kernel
theorem dX4_drop_18 : decode cX4_drop 18 = .ok (.getfield 16, 3) := by decide +kernel
theorem dX4_drop_21 : decode cX4_drop 21 = .ok (.getfield 82, 3) := by decide +kernel
theorem dX4_drop_24 : decode cX4_drop 24 = .ok (.istore_n 2, 1) := by decide +kernel
theorem dX4_drop_25 : decode cX4_drop 25 = .ok (.aload_n 0, 1) := by decide +kernel
theorem dX4_drop_26 : decode cX4_drop 26 = .ok (.getfield 16, 3) := by decide +kernel
theorem dX4_drop_29 : decode cX4_drop 29 = .ok (.iload_n 1, 1) := by decide +kernel
theorem dX4_drop_30 : decode cX4_drop 30 = .ok (.putfield 82, 3) := by decide +kernel
theorem dX4_drop_33 : decode cX4_drop 33 = .ok (.iload_n 2, 1) := by decide +kernel
theorem dX4_drop_34 : decode cX4_drop 34 = .ok (.ireturn, 1) := by decide +kernel
theorem dX4_putPress_0 : decode cX4_putPress 0 = .ok (.iload_n 1, 1) := by decide +kernel
theorem dX4_putPress_1 : decode cX4_putPress 1 = .ok (.iconst 0, 1) := by decide +kernel
theorem dX4_putPress_2 : decode cX4_putPress 2 = .ok (.bipush 99, 2) := by decide +kernel
theorem dX4_putPress_4 : decode cX4_putPress 4 = .ok (.invokestatic 54, 3) := by decide +kernel
theorem dX4_putPress_7 : decode cX4_putPress 7 = .ok (.ifCond .eq 23, 3) := by decide +kernel
theorem dX4_putPress_10 : decode cX4_putPress 10 = .ok (.aload_n 0, 1) := by decide +kernel
theorem dX4_putPress_11 : decode cX4_putPress 11 = .ok (.getfield 16, 3) := by decide +kernel
theorem dX4_putPress_14 : decode cX4_putPress 14 = .ok (.iload_n 2, 1) := by decide +kernel
theorem dX4_putPress_15 : decode cX4_putPress 15 = .ok (.invokevirtual 101, 3) := by decide +kernel
theorem dX4_putPress_18 : decode cX4_putPress 18 = .ok (.ifCond .eq 12, 3) := by decide +kernel
theorem dX4_putPress_21 : decode cX4_putPress 21 = .ok (.iload_n 3, 1) := by decide +kernel
theorem dX4_putPress_22 : decode cX4_putPress 22 = .ok (.iconst 0, 1) := by decide +kernel
theorem dX4_putPress_23 : decode cX4_putPress 23 = .ok (.iconst 1, 1) := by decide +kernel
theorem dX4_putPress_24 : decode cX4_putPress 24 = .ok (.invokestatic 54, 3) := by decide +kernel
theorem dX4_putPress_27 : decode cX4_putPress 27 = .ok (.ifCond .ne 5, 3) := by decide +kernel
theorem dX4_putPress_30 : decode cX4_putPress 30 = .ok (.iconst (-1), 1) := by decide +kernel
theorem dX4_putPress_31 : decode cX4_putPress 31 = .ok (.ireturn, 1) := by decide +kernel
theorem dX4_putPress_32 : decode cX4_putPress 32 = .ok (.aload_n 0, 1) := by decide +kernel
theorem dX4_putPress_33 : decode cX4_putPress 33 = .ok (.getfield 16, 3) := by decide +kernel
theorem dX4_putPress_36 : decode cX4_putPress 36 = .ok (.getfield 82, 3) := by decide +kernel
theorem dX4_putPress_39 : decode cX4_putPress 39 = .ok (.bipush 8, 2) := by decide +kernel
theorem dX4_putPress_41 : decode cX4_putPress 41 = .ok (.if_icmp .lt 6, 3) := by decide +kernel
theorem dX4_putPress_44 : decode cX4_putPress 44 = .ok (.bipush (-3), 2) := by decide +kernel
theorem dX4_putPress_46 : decode cX4_putPress 46 = .ok (.ireturn, 1) := by decide +kernel
theorem dX4_putPress_47 : decode cX4_putPress 47 = .ok (.aload_n 0, 1) := by decide +kernel
theorem dX4_putPress_48 : decode cX4_putPress 48 = .ok (.getfield 16, 3) := by decide +kernel
theorem dX4_putPress_51 : decode cX4_putPress 51 = .ok (.iload_n 1, 1) := by decide +kernel
theorem dX4_putPress_52 : decode cX4_putPress 52 = .ok (.iload_n 2, 1) := by decide +kernel
theorem dX4_putPress_53 : decode cX4_putPress 53 = .ok (.iload_n 3, 1) := by decide +kernel
theorem dX4_putPress_54 : decode cX4_putPress 54 = .ok (.invokevirtual 151, 3) := by decide +kernel
theorem dX4_putPress_57 : decode cX4_putPress 57 = .ok (.aload_n 0, 1) := by decide +kernel
theorem dX4_putPress_58 : decode cX4_putPress 58 = .ok (.getfield 16, 3) := by decide +kernel
theorem dX4_putPress_61 : decode cX4_putPress 61 = .ok (.getfield 82, 3) := by decide +kernel
theorem dX4_putPress_64 : decode cX4_putPress 64 = .ok (.ireturn, 1) := by decide +kernel
theorem dX4_ticks_0 : decode cX4_ticks 0 = .ok (.iload_n 1, 1) := by decide +kernel
theorem dX4_ticks_1 : decode cX4_ticks 1 = .ok (.iconst 0, 1) := by decide +kernel
theorem dX4_ticks_2 : decode cX4_ticks 2 = .ok (.bipush 100, 2) := by decide +kernel
theorem dX4_ticks_4 : decode cX4_ticks 4 = .ok (.invokestatic 54, 3) := by decide +kernel
theorem dX4_ticks_7 : decode cX4_ticks 7 = .ok (.ifCond .ne 5, 3) := by decide +kernel
theorem dX4_ticks_10 : decode cX4_ticks 10 = .ok (.iconst (-1), 1) := by decide +kernel
theorem dX4_ticks_11 : decode cX4_ticks 11 = .ok (.ireturn, 1) := by decide +kernel
theorem dX4_ticks_12 : decode cX4_ticks 12 = .ok (.aload_n 0, 1) := by decide +kernel
theorem dX4_ticks_13 : decode cX4_ticks 13 = .ok (.getfield 16, 3) := by decide +kernel
theorem dX4_ticks_16 : decode cX4_ticks 16 = .ok (.getfield 85, 3) := by decide +kernel
theorem dX4_ticks_19 : decode cX4_ticks 19 = .ok (.iload_n 1, 1) := by decide +kernel
theorem dX4_ticks_20 : decode cX4_ticks 20 = .ok (.iadd, 1) := by decide +kernel
theorem dX4_ticks_21 : decode cX4_ticks 21 = .ok (.sipush 999, 3) := by decide +kernel
theorem dX4_ticks_24 : decode cX4_ticks 24 = .ok (.if_icmp .le 6, 3) := by decide +kernel
theorem dX4_ticks_27 : decode cX4_ticks 27 = .ok (.bipush (-3), 2) := by decide +kernel
theorem dX4_ticks_29 : decode cX4_ticks 29 = .ok (.ireturn, 1) := by decide +kernel
theorem dX4_ticks_30 : decode cX4_ticks 30 = .ok (.aload_n 0, 1) := by decide +kernel
theorem dX4_ticks_31 : decode cX4_ticks 31 = .ok (.getfield 16, 3) := by decide +kernel
theorem dX4_ticks_34 : decode cX4_ticks 34 = .ok (.invokevirtual 155, 3) := by decide +kernel
theorem dX4_ticks_37 : decode cX4_ticks 37 = .ok (.aload_n 0, 1) := by decide +kernel
theorem dX4_ticks_38 : decode cX4_ticks 38 = .ok (.getfield 16, 3) := by decide +kernel
theorem dX4_ticks_41 : decode cX4_ticks 41 = .ok (.iload_n 1, 1) := by decide +kernel
theorem dX4_ticks_42 : decode cX4_ticks 42 = .ok (.invokevirtual 158, 3) := by decide +kernel
theorem dX4_ticks_45 : decode cX4_ticks 45 = .ok (.aload_n 0, 1) := by decide +kernel
theorem dX4_ticks_46 : decode cX4_ticks 46 = .ok (.getfield 16, 3) := by decide +kernel
theorem dX4_ticks_49 : decode cX4_ticks 49 = .ok (.invokevirtual 162, 3) := by decide +kernel
theorem dX4_ticks_52 : decode cX4_ticks 52 = .ok (.ireturn, 1) := by decide +kernel
theorem dX4_runs_0 : decode cX4_runs 0 = .ok (.iload_n 1, 1) := by decide +kernel
theorem dX4_runs_1 : decode cX4_runs 1 = .ok (.invokestatic 165, 3) := by decide +kernel
theorem dX4_runs_4 : decode cX4_runs 4 = .ok (.ifCond .eq 12, 3) := by decide +kernel
theorem dX4_runs_7 : decode cX4_runs 7 = .ok (.iload_n 2, 1) := by decide +kernel
theorem dX4_runs_8 : decode cX4_runs 8 = .ok (.iconst 0, 1) := by decide +kernel
theorem dX4_runs_9 : decode cX4_runs 9 = .ok (.iconst 3, 1) := by decide +kernel
theorem dX4_runs_10 : decode cX4_runs 10 = .ok (.invokestatic 54, 3) := by decide +kernel
theorem dX4_runs_13 : decode cX4_runs 13 = .ok (.ifCond .ne 5, 3) := by decide +kernel
theorem dX4_runs_16 : decode cX4_runs 16 = .ok (.iconst (-1), 1) := by decide +kernel
theorem dX4_runs_17 : decode cX4_runs 17 = .ok (.ireturn, 1) := by decide +kernel
theorem dX4_runs_18 : decode cX4_runs 18 = .ok (.aload_n 0, 1) := by decide +kernel
theorem dX4_runs_19 : decode cX4_runs 19 = .ok (.invokevirtual 168, 3) := by decide +kernel
theorem dX4_runs_22 : decode cX4_runs 22 = .ok (.astore_n 3, 1) := by decide +kernel
theorem dX4_runs_23 : decode cX4_runs 23 = .ok (.iload_n 2, 1) := by decide +kernel
theorem dX4_runs_24 : decode cX4_runs 24 = .ok (.iconst 3, 1) := by decide +kernel
theorem dX4_runs_25 : decode cX4_runs 25 = .ok (.if_icmp .ne 9, 3) := by decide +kernel
theorem dX4_runs_28 : decode cX4_runs 28 = .ok (.aload_n 3, 1) := by decide +kernel
theorem dX4_runs_29 : decode cX4_runs 29 = .ok (.iload_n 1, 1) := by decide +kernel
theorem dX4_runs_30 : decode cX4_runs 30 = .ok (.invokevirtual 172, 3) := by decide +kernel
theorem dX4_runs_33 : decode cX4_runs 33 = .ok (.ireturn, 1) := by decide +kernel
theorem dX4_runs_34 : decode cX4_runs 34 = .ok (.aload_n 3, 1) := by decide +kernel
theorem dX4_runs_35 : decode cX4_runs 35 = .ok (.iload_n 1, 1) := by decide +kernel
theorem dX4_runs_36 : decode cX4_runs 36 = .ok (.invokevirtual 158, 3) := by decide +kernel
theorem dX4_runs_39 : decode cX4_runs 39 = .ok (.iload_n 2, 1) := by decide +kernel
theorem dX4_runs_40 : decode cX4_runs 40 = .ok (.lookupswitch 38 #[(0, 28), (1, 33)], 28) := by decide +kernel
theorem dX4_runs_68 : decode cX4_runs 68 = .ok (.aload_n 3, 1) := by decide +kernel
theorem dX4_runs_69 : decode cX4_runs 69 = .ok (.invokevirtual 162, 3) := by decide +kernel
theorem dX4_runs_72 : decode cX4_runs 72 = .ok (.ireturn, 1) := by decide +kernel
theorem dX4_runs_73 : decode cX4_runs 73 = .ok (.aload_n 3, 1) := by decide +kernel
theorem dX4_runs_74 : decode cX4_runs 74 = .ok (.invokevirtual 91, 3) := by decide +kernel
theorem dX4_runs_77 : decode cX4_runs 77 = .ok (.ireturn, 1) := by decide +kernel
theorem dX4_runs_78 : decode cX4_runs 78 = .ok (.aload_n 3, 1) := by decide +kernel
theorem dX4_runs_79 : decode cX4_runs 79 = .ok (.invokevirtual 175, 3) := by decide +kernel
theorem dX4_runs_82 : decode cX4_runs 82 = .ok (.ireturn, 1) := by decide +kernel
theorem dX4_ahead_0 : decode cX4_ahead 0 = .ok (.aload_n 0, 1) := by decide +kernel
theorem dX4_ahead_1 : decode cX4_ahead 1 = .ok (.getfield 16, 3) := by decide +kernel
theorem dX4_ahead_4 : decode cX4_ahead 4 = .ok (.iload_n 1, 1) := by decide +kernel
theorem dX4_ahead_5 : decode cX4_ahead 5 = .ok (.invokevirtual 101, 3) := by decide +kernel
theorem dX4_ahead_8 : decode cX4_ahead 8 = .ok (.ifCond .eq 19, 3) := by decide +kernel
theorem dX4_ahead_11 : decode cX4_ahead 11 = .ok (.iload_n 2, 1) := by decide +kernel
theorem dX4_ahead_12 : decode cX4_ahead 12 = .ok (.invokestatic 165, 3) := by decide +kernel
theorem dX4_ahead_15 : decode cX4_ahead 15 = .ok (.ifCond .eq 12, 3) := by decide +kernel
theorem dX4_ahead_18 : decode cX4_ahead 18 = .ok (.iload_n 3, 1) := by decide +kernel
theorem dX4_ahead_19 : decode cX4_ahead 19 = .ok (.iconst 0, 1) := by decide +kernel
theorem dX4_ahead_20 : decode cX4_ahead 20 = .ok (.iconst 1, 1) := by decide +kernel
theorem dX4_ahead_21 : decode cX4_ahead 21 = .ok (.invokestatic 54, 3) := by decide +kernel
theorem dX4_ahead_24 : decode cX4_ahead 24 = .ok (.ifCond .ne 5, 3) := by decide +kernel
theorem dX4_ahead_27 : decode cX4_ahead 27 = .ok (.iconst (-1), 1) := by decide +kernel
theorem dX4_ahead_28 : decode cX4_ahead 28 = .ok (.ireturn, 1) := by decide +kernel
theorem dX4_ahead_29 : decode cX4_ahead 29 = .ok (.aload_n 0, 1) := by decide +kernel
theorem dX4_ahead_30 : decode cX4_ahead 30 = .ok (.invokevirtual 168, 3) := by decide +kernel
theorem dX4_ahead_33 : decode cX4_ahead 33 = .ok (.astore 4, 2) := by decide +kernel
theorem dX4_ahead_35 : decode cX4_ahead 35 = .ok (.aload 4, 2) := by decide +kernel
theorem dX4_ahead_37 : decode cX4_ahead 37 = .ok (.iload_n 2, 1) := by decide +kernel
theorem dX4_ahead_38 : decode cX4_ahead 38 = .ok (.invokevirtual 158, 3) := by decide +kernel
theorem dX4_ahead_41 : decode cX4_ahead 41 = .ok (.iload_n 3, 1) := by decide +kernel
theorem dX4_ahead_42 : decode cX4_ahead 42 = .ok (.ifCond .ne 16, 3) := by decide +kernel
theorem dX4_ahead_45 : decode cX4_ahead 45 = .ok (.aload 4, 2) := by decide +kernel
theorem dX4_ahead_47 : decode cX4_ahead 47 = .ok (.getfield 105, 3) := by decide +kernel
theorem dX4_ahead_50 : decode cX4_ahead 50 = .ok (.iload_n 1, 1) := by decide +kernel
theorem dX4_ahead_51 : decode cX4_ahead 51 = .ok (.aaload, 1) := by decide +kernel
theorem dX4_ahead_52 : decode cX4_ahead 52 = .ok (.getfield 114, 3) := by decide +kernel
theorem dX4_ahead_55 : decode cX4_ahead 55 = .ok (.goto 13, 3) := by decide +kernel
theorem dX4_ahead_58 : decode cX4_ahead 58 = .ok (.aload 4, 2) := by decide +kernel
theorem dX4_ahead_60 : decode cX4_ahead 60 = .ok (.getfield 105, 3) := by decide +kernel
theorem dX4_ahead_63 : decode cX4_ahead 63 = .ok (.iload_n 1, 1) := by decide +kernel
theorem dX4_ahead_64 : decode cX4_ahead 64 = .ok (.aaload, 1) := by decide +kernel
theorem dX4_ahead_65 : decode cX4_ahead 65 = .ok (.getfield 178, 3) := by decide +kernel
theorem dX4_ahead_68 : decode cX4_ahead 68 = .ok (.ireturn, 1) := by decide +kernel
theorem dX4_when_0 : decode cX4_when 0 = .ok (.aload_n 0, 1) := by decide +kernel
theorem dX4_when_1 : decode cX4_when 1 = .ok (.getfield 16, 3) := by decide +kernel
theorem dX4_when_4 : decode cX4_when 4 = .ok (.iload_n 1, 1) := by decide +kernel
theorem dX4_when_5 : decode cX4_when 5 = .ok (.invokevirtual 101, 3) := by decide +kernel
theorem dX4_when_8 : decode cX4_when 8 = .ok (.ifCond .eq 12, 3) := by decide +kernel
theorem dX4_when_11 : decode cX4_when 11 = .ok (.iload_n 2, 1) := by decide +kernel
theorem dX4_when_12 : decode cX4_when 12 = .ok (.iconst 0, 1) := by decide +kernel
theorem dX4_when_13 : decode cX4_when 13 = .ok (.iconst 1, 1) := by decide +kernel
theorem dX4_when_14 : decode cX4_when 14 = .ok (.invokestatic 54, 3) := by decide +kernel
theorem dX4_when_17 : decode cX4_when 17 = .ok (.ifCond .ne 5, 3) := by decide +kernel
theorem dX4_when_20 : decode cX4_when 20 = .ok (.iconst (-1), 1) := by decide +kernel
theorem dX4_when_21 : decode cX4_when 21 = .ok (.ireturn, 1) := by decide +kernel
theorem dX4_when_22 : decode cX4_when 22 = .ok (.aload_n 0, 1) := by decide +kernel
theorem dX4_when_23 : decode cX4_when 23 = .ok (.invokevirtual 168, 3) := by decide +kernel
theorem dX4_when_26 : decode cX4_when 26 = .ok (.astore_n 3, 1) := by decide +kernel
theorem dX4_when_27 : decode cX4_when 27 = .ok (.iconst 0, 1) := by decide +kernel
theorem dX4_when_28 : decode cX4_when 28 = .ok (.istore 4, 2) := by decide +kernel
theorem dX4_when_30 : decode cX4_when 30 = .ok (.iload 4, 2) := by decide +kernel
theorem dX4_when_32 : decode cX4_when 32 = .ok (.sipush 200, 3) := by decide +kernel
theorem dX4_when_35 : decode cX4_when 35 = .ok (.if_icmp .gt 30, 3) := by decide +kernel
theorem dX4_when_38 : decode cX4_when 38 = .ok (.aload_n 3, 1) := by decide +kernel
theorem dX4_when_39 : decode cX4_when 39 = .ok (.getfield 105, 3) := by decide +kernel
theorem dX4_when_42 : decode cX4_when 42 = .ok (.iload_n 1, 1) := by decide +kernel
theorem dX4_when_43 : decode cX4_when 43 = .ok (.aaload, 1) := by decide +kernel
theorem dX4_when_44 : decode cX4_when 44 = .ok (.getfield 114, 3) := by decide +kernel
theorem dX4_when_47 : decode cX4_when 47 = .ok (.iload_n 2, 1) := by decide +kernel
theorem dX4_when_48 : decode cX4_when 48 = .ok (.if_icmp .ne 6, 3) := by decide +kernel
theorem dX4_when_51 : decode cX4_when 51 = .ok (.iload 4, 2) := by decide +kernel
theorem dX4_when_53 : decode cX4_when 53 = .ok (.ireturn, 1) := by decide +kernel
theorem dX4_when_54 : decode cX4_when 54 = .ok (.aload_n 3, 1) := by decide +kernel
theorem dX4_when_55 : decode cX4_when 55 = .ok (.iconst 1, 1) := by decide +kernel
theorem dX4_when_56 : decode cX4_when 56 = .ok (.invokevirtual 158, 3) := by decide +kernel
theorem dX4_when_59 : decode cX4_when 59 = .ok (.iinc 4 1, 3) := by decide +kernel
theorem dX4_when_62 : decode cX4_when 62 = .ok (.goto (-32), 3) := by decide +kernel
theorem dX4_when_65 : decode cX4_when 65 = .ok (.bipush (-4), 2) := by decide +kernel
theorem dX4_when_67 : decode cX4_when 67 = .ok (.ireturn, 1) := by decide +kernel
theorem dX4_due_0 : decode cX4_due 0 = .ok (.iload_n 1, 1) := by decide +kernel
theorem dX4_due_1 : decode cX4_due 1 = .ok (.invokestatic 165, 3) := by decide +kernel
theorem dX4_due_4 : decode cX4_due 4 = .ok (.ifCond .eq 14, 3) := by decide +kernel
theorem dX4_due_7 : decode cX4_due 7 = .ok (.aload_n 0, 1) := by decide +kernel
theorem dX4_due_8 : decode cX4_due 8 = .ok (.getfield 16, 3) := by decide +kernel
theorem dX4_due_11 : decode cX4_due 11 = .ok (.iload_n 1, 1) := by decide +kernel
theorem dX4_due_12 : decode cX4_due 12 = .ok (.invokevirtual 181, 3) := by decide +kernel
theorem dX4_due_15 : decode cX4_due 15 = .ok (.goto 4, 3) := by decide +kernel
theorem dX4_due_18 : decode cX4_due 18 = .ok (.iconst (-1), 1) := by decide +kernel
theorem dX4_due_19 : decode cX4_due 19 = .ok (.ireturn, 1) := by decide +kernel
theorem dX4_need_0 : decode cX4_need 0 = .ok (.aload_n 0, 1) := by decide +kernel
theorem dX4_need_1 : decode cX4_need 1 = .ok (.getfield 16, 3) := by decide +kernel
theorem dX4_need_4 : decode cX4_need 4 = .ok (.iload_n 1, 1) := by decide +kernel
theorem dX4_need_5 : decode cX4_need 5 = .ok (.invokevirtual 101, 3) := by decide +kernel
theorem dX4_need_8 : decode cX4_need 8 = .ok (.ifCond .eq 20, 3) := by decide +kernel
theorem dX4_need_11 : decode cX4_need 11 = .ok (.iload_n 2, 1) := by decide +kernel
theorem dX4_need_12 : decode cX4_need 12 = .ok (.invokestatic 165, 3) := by decide +kernel
theorem dX4_need_15 : decode cX4_need 15 = .ok (.ifCond .eq 13, 3) := by decide +kernel
theorem dX4_need_18 : decode cX4_need 18 = .ok (.iload_n 3, 1) := by decide +kernel
theorem dX4_need_19 : decode cX4_need 19 = .ok (.iconst 0, 1) := by decide +kernel
theorem dX4_need_20 : decode cX4_need 20 = .ok (.bipush 20, 2) := by decide +kernel
theorem dX4_need_22 : decode cX4_need 22 = .ok (.invokestatic 54, 3) := by decide +kernel
theorem dX4_need_25 : decode cX4_need 25 = .ok (.ifCond .ne 5, 3) := by decide +kernel
theorem dX4_need_28 : decode cX4_need 28 = .ok (.iconst (-1), 1) := by decide +kernel
theorem dX4_need_29 : decode cX4_need 29 = .ok (.ireturn, 1) := by decide +kernel
theorem dX4_need_30 : decode cX4_need 30 = .ok (.iconst 1, 1) := by decide +kernel
theorem dX4_need_31 : decode cX4_need 31 = .ok (.istore 4, 2) := by decide +kernel
theorem dX4_need_33 : decode cX4_need 33 = .ok (.iload 4, 2) := by decide +kernel
theorem dX4_need_35 : decode cX4_need 35 = .ok (.bipush 9, 2) := by decide +kernel
theorem dX4_need_37 : decode cX4_need 37 = .ok (.if_icmp .gt 25, 3) := by decide +kernel
theorem dX4_need_40 : decode cX4_need 40 = .ok (.aload_n 0, 1) := by decide +kernel
theorem dX4_need_41 : decode cX4_need 41 = .ok (.iload_n 1, 1) := by decide +kernel
theorem dX4_need_42 : decode cX4_need 42 = .ok (.iconst 2, 1) := by decide +kernel
theorem dX4_need_43 : decode cX4_need 43 = .ok (.iload 4, 2) := by decide +kernel
theorem dX4_need_45 : decode cX4_need 45 = .ok (.iload_n 2, 1) := by decide +kernel
theorem dX4_need_46 : decode cX4_need 46 = .ok (.invokevirtual 184, 3) := by decide +kernel
theorem dX4_need_49 : decode cX4_need 49 = .ok (.iload_n 3, 1) := by decide +kernel
theorem dX4_need_50 : decode cX4_need 50 = .ok (.if_icmp .ne 6, 3) := by decide +kernel
theorem dX4_need_53 : decode cX4_need 53 = .ok (.iload 4, 2) := by decide +kernel
theorem dX4_need_55 : decode cX4_need 55 = .ok (.ireturn, 1) := by decide +kernel
theorem dX4_need_56 : decode cX4_need 56 = .ok (.iinc 4 1, 3) := by decide +kernel
theorem dX4_need_59 : decode cX4_need 59 = .ok (.goto (-26), 3) := by decide +kernel
theorem dX4_need_62 : decode cX4_need 62 = .ok (.bipush (-4), 2) := by decide +kernel
theorem dX4_need_64 : decode cX4_need 64 = .ok (.ireturn, 1) := by decide +kernel
theorem dX4_bear_0 : decode cX4_bear 0 = .ok (.aload_n 0, 1) := by decide +kernel
theorem dX4_bear_1 : decode cX4_bear 1 = .ok (.getfield 16, 3) := by decide +kernel
theorem dX4_bear_4 : decode cX4_bear 4 = .ok (.iload_n 1, 1) := by decide +kernel
theorem dX4_bear_5 : decode cX4_bear 5 = .ok (.invokevirtual 101, 3) := by decide +kernel
theorem dX4_bear_8 : decode cX4_bear 8 = .ok (.ifCond .eq 20, 3) := by decide +kernel
theorem dX4_bear_11 : decode cX4_bear 11 = .ok (.iload_n 2, 1) := by decide +kernel
theorem dX4_bear_12 : decode cX4_bear 12 = .ok (.invokestatic 165, 3) := by decide +kernel
theorem dX4_bear_15 : decode cX4_bear 15 = .ok (.ifCond .eq 13, 3) := by decide +kernel
theorem dX4_bear_18 : decode cX4_bear 18 = .ok (.iload_n 3, 1) := by decide +kernel
theorem dX4_bear_19 : decode cX4_bear 19 = .ok (.iconst 0, 1) := by decide +kernel
theorem dX4_bear_20 : decode cX4_bear 20 = .ok (.bipush 20, 2) := by decide +kernel
theorem dX4_bear_22 : decode cX4_bear 22 = .ok (.invokestatic 54, 3) := by decide +kernel
theorem dX4_bear_25 : decode cX4_bear 25 = .ok (.ifCond .ne 5, 3) := by decide +kernel
theorem dX4_bear_28 : decode cX4_bear 28 = .ok (.iconst (-1), 1) := by decide +kernel
theorem dX4_bear_29 : decode cX4_bear 29 = .ok (.ireturn, 1) := by decide +kernel
theorem dX4_bear_30 : decode cX4_bear 30 = .ok (.bipush 9, 2) := by decide +kernel
theorem dX4_bear_32 : decode cX4_bear 32 = .ok (.istore 4, 2) := by decide +kernel
theorem dX4_bear_34 : decode cX4_bear 34 = .ok (.iload 4, 2) := by decide +kernel
theorem dX4_bear_36 : decode cX4_bear 36 = .ok (.ifCond .lt 25, 3) := by decide +kernel
theorem dX4_bear_39 : decode cX4_bear 39 = .ok (.aload_n 0, 1) := by decide +kernel
theorem dX4_bear_40 : decode cX4_bear 40 = .ok (.iload_n 1, 1) := by decide +kernel
theorem dX4_bear_41 : decode cX4_bear 41 = .ok (.iconst 0, 1) := by decide +kernel
theorem dX4_bear_42 : decode cX4_bear 42 = .ok (.iload 4, 2) := by decide +kernel
theorem dX4_bear_44 : decode cX4_bear 44 = .ok (.iload_n 2, 1) := by decide +kernel
theorem dX4_bear_45 : decode cX4_bear 45 = .ok (.invokevirtual 184, 3) := by decide +kernel
theorem dX4_bear_48 : decode cX4_bear 48 = .ok (.iload_n 3, 1) := by decide +kernel
theorem dX4_bear_49 : decode cX4_bear 49 = .ok (.if_icmp .ne 6, 3) := by decide +kernel
theorem dX4_bear_52 : decode cX4_bear 52 = .ok (.iload 4, 2) := by decide +kernel
theorem dX4_bear_54 : decode cX4_bear 54 = .ok (.ireturn, 1) := by decide +kernel
theorem dX4_bear_55 : decode cX4_bear 55 = .ok (.iinc 4 (-1), 3) := by decide +kernel
theorem dX4_bear_58 : decode cX4_bear 58 = .ok (.goto (-24), 3) := by decide +kernel
theorem dX4_bear_61 : decode cX4_bear 61 = .ok (.bipush (-4), 2) := by decide +kernel
theorem dX4_bear_63 : decode cX4_bear 63 = .ok (.ireturn, 1) := by decide +kernel
theorem dX4_kind_0 : decode cX4_kind 0 = .ok (.aload_n 0, 1) := by decide +kernel
theorem dX4_kind_1 : decode cX4_kind 1 = .ok (.getfield 16, 3) := by decide +kernel
theorem dX4_kind_4 : decode cX4_kind 4 = .ok (.iload_n 1, 1) := by decide +kernel
theorem dX4_kind_5 : decode cX4_kind 5 = .ok (.invokevirtual 101, 3) := by decide +kernel
theorem dX4_kind_8 : decode cX4_kind 8 = .ok (.ifCond .eq 19, 3) := by decide +kernel
theorem dX4_kind_11 : decode cX4_kind 11 = .ok (.iload_n 2, 1) := by decide +kernel
theorem dX4_kind_12 : decode cX4_kind 12 = .ok (.invokestatic 165, 3) := by decide +kernel
theorem dX4_kind_15 : decode cX4_kind 15 = .ok (.ifCond .eq 12, 3) := by decide +kernel
theorem dX4_kind_18 : decode cX4_kind 18 = .ok (.iload_n 3, 1) := by decide +kernel
theorem dX4_kind_19 : decode cX4_kind 19 = .ok (.iconst 0, 1) := by decide +kernel
theorem dX4_kind_20 : decode cX4_kind 20 = .ok (.iconst 1, 1) := by decide +kernel
theorem dX4_kind_21 : decode cX4_kind 21 = .ok (.invokestatic 54, 3) := by decide +kernel
theorem dX4_kind_24 : decode cX4_kind 24 = .ok (.ifCond .ne 5, 3) := by decide +kernel
theorem dX4_kind_27 : decode cX4_kind 27 = .ok (.iconst (-1), 1) := by decide +kernel
theorem dX4_kind_28 : decode cX4_kind 28 = .ok (.ireturn, 1) := by decide +kernel
theorem dX4_kind_29 : decode cX4_kind 29 = .ok (.iconst 0, 1) := by decide +kernel
theorem dX4_kind_30 : decode cX4_kind 30 = .ok (.istore 4, 2) := by decide +kernel
theorem dX4_kind_32 : decode cX4_kind 32 = .ok (.ldc 188, 2) := by decide +kernel
theorem dX4_kind_34 : decode cX4_kind 34 = .ok (.istore 5, 2) := by decide +kernel
theorem dX4_kind_36 : decode cX4_kind 36 = .ok (.iconst 0, 1) := by decide +kernel
theorem dX4_kind_37 : decode cX4_kind 37 = .ok (.istore 6, 2) := by decide +kernel
theorem dX4_kind_39 : decode cX4_kind 39 = .ok (.iload 6, 2) := by decide +kernel
theorem dX4_kind_41 : decode cX4_kind 41 = .ok (.iconst 3, 1) := by decide +kernel
theorem dX4_kind_42 : decode cX4_kind 42 = .ok (.if_icmp .gt 38, 3) := by decide +kernel
theorem dX4_kind_45 : decode cX4_kind 45 = .ok (.aload_n 0, 1) := by decide +kernel
theorem dX4_kind_46 : decode cX4_kind 46 = .ok (.iload_n 1, 1) := by decide +kernel
theorem dX4_kind_47 : decode cX4_kind 47 = .ok (.iconst 1, 1) := by decide +kernel
theorem dX4_kind_48 : decode cX4_kind 48 = .ok (.iload 6, 2) := by decide +kernel
theorem dX4_kind_50 : decode cX4_kind 50 = .ok (.invokevirtual 189, 3) := by decide +kernel
theorem dX4_kind_53 : decode cX4_kind 53 = .ok (.iload_n 2, 1) := by decide +kernel
theorem dX4_kind_54 : decode cX4_kind 54 = .ok (.invokestatic 193, 3) := by decide +kernel
theorem dX4_kind_57 : decode cX4_kind 57 = .ok (.istore 7, 2) := by decide +kernel
theorem dX4_kind_59 : decode cX4_kind 59 = .ok (.iload 7, 2) := by decide +kernel
theorem dX4_kind_61 : decode cX4_kind 61 = .ok (.iload 5, 2) := by decide +kernel
theorem dX4_kind_63 : decode cX4_kind 63 = .ok (.if_icmp .ge 11, 3) := by decide +kernel
theorem dX4_kind_66 : decode cX4_kind 66 = .ok (.iload 7, 2) := by decide +kernel
theorem dX4_kind_68 : decode cX4_kind 68 = .ok (.istore 5, 2) := by decide +kernel
theorem dX4_kind_70 : decode cX4_kind 70 = .ok (.iload 6, 2) := by decide +kernel
theorem dX4_kind_72 : decode cX4_kind 72 = .ok (.istore 4, 2) := by decide +kernel
theorem dX4_kind_74 : decode cX4_kind 74 = .ok (.iinc 6 1, 3) := by decide +kernel
theorem dX4_kind_77 : decode cX4_kind 77 = .ok (.goto (-38), 3) := by decide +kernel
theorem dX4_kind_80 : decode cX4_kind 80 = .ok (.iload_n 3, 1) := by decide +kernel
theorem dX4_kind_81 : decode cX4_kind 81 = .ok (.ifCond .ne 8, 3) := by decide +kernel
theorem dX4_kind_84 : decode cX4_kind 84 = .ok (.iload 4, 2) := by decide +kernel
theorem dX4_kind_86 : decode cX4_kind 86 = .ok (.goto 5, 3) := by decide +kernel
theorem dX4_kind_89 : decode cX4_kind 89 = .ok (.iload 5, 2) := by decide +kernel
theorem dX4_kind_91 : decode cX4_kind 91 = .ok (.ireturn, 1) := by decide +kernel
theorem dX4_slow_0 : decode cX4_slow 0 = .ok (.iload_n 1, 1) := by decide +kernel
theorem dX4_slow_1 : decode cX4_slow 1 = .ok (.invokestatic 165, 3) := by decide +kernel
theorem dX4_slow_4 : decode cX4_slow 4 = .ok (.ifCond .eq 12, 3) := by decide +kernel
theorem dX4_slow_7 : decode cX4_slow 7 = .ok (.iload_n 2, 1) := by decide +kernel
theorem dX4_slow_8 : decode cX4_slow 8 = .ok (.iconst 0, 1) := by decide +kernel
theorem dX4_slow_9 : decode cX4_slow 9 = .ok (.iconst 1, 1) := by decide +kernel
theorem dX4_slow_10 : decode cX4_slow 10 = .ok (.invokestatic 54, 3) := by decide +kernel
theorem dX4_slow_13 : decode cX4_slow 13 = .ok (.ifCond .ne 5, 3) := by decide +kernel
theorem dX4_slow_16 : decode cX4_slow 16 = .ok (.iconst (-1), 1) := by decide +kernel
theorem dX4_slow_17 : decode cX4_slow 17 = .ok (.ireturn, 1) := by decide +kernel
theorem dX4_slow_18 : decode cX4_slow 18 = .ok (.iconst 4, 1) := by decide +kernel
theorem dX4_slow_19 : decode cX4_slow 19 = .ok (.istore_n 3, 1) := by decide +kernel
theorem dX4_slow_20 : decode cX4_slow 20 = .ok (.ldc 188, 2) := by decide +kernel
theorem dX4_slow_22 : decode cX4_slow 22 = .ok (.istore 4, 2) := by decide +kernel
theorem dX4_slow_24 : decode cX4_slow 24 = .ok (.iconst 4, 1) := by decide +kernel
theorem dX4_slow_25 : decode cX4_slow 25 = .ok (.istore 5, 2) := by decide +kernel
theorem dX4_slow_27 : decode cX4_slow 27 = .ok (.iload 5, 2) := by decide +kernel
theorem dX4_slow_29 : decode cX4_slow 29 = .ok (.iconst 1, 1) := by decide +kernel
theorem dX4_slow_30 : decode cX4_slow 30 = .ok (.if_icmp .lt 44, 3) := by decide +kernel
theorem dX4_slow_33 : decode cX4_slow 33 = .ok (.aload_n 0, 1) := by decide +kernel
theorem dX4_slow_34 : decode cX4_slow 34 = .ok (.invokevirtual 168, 3) := by decide +kernel
theorem dX4_slow_37 : decode cX4_slow 37 = .ok (.astore 6, 2) := by decide +kernel
theorem dX4_slow_39 : decode cX4_slow 39 = .ok (.aload 6, 2) := by decide +kernel
theorem dX4_slow_41 : decode cX4_slow 41 = .ok (.iload 5, 2) := by decide +kernel
theorem dX4_slow_43 : decode cX4_slow 43 = .ok (.putfield 88, 3) := by decide +kernel
theorem dX4_slow_46 : decode cX4_slow 46 = .ok (.aload 6, 2) := by decide +kernel
theorem dX4_slow_48 : decode cX4_slow 48 = .ok (.iload_n 1, 1) := by decide +kernel
theorem dX4_slow_49 : decode cX4_slow 49 = .ok (.invokestatic 193, 3) := by decide +kernel
theorem dX4_slow_52 : decode cX4_slow 52 = .ok (.istore 7, 2) := by decide +kernel
theorem dX4_slow_54 : decode cX4_slow 54 = .ok (.iload 7, 2) := by decide +kernel
theorem dX4_slow_56 : decode cX4_slow 56 = .ok (.iload 4, 2) := by decide +kernel
theorem dX4_slow_58 : decode cX4_slow 58 = .ok (.if_icmp .ge 10, 3) := by decide +kernel
theorem dX4_slow_61 : decode cX4_slow 61 = .ok (.iload 7, 2) := by decide +kernel
theorem dX4_slow_63 : decode cX4_slow 63 = .ok (.istore 4, 2) := by decide +kernel
theorem dX4_slow_65 : decode cX4_slow 65 = .ok (.iload 5, 2) := by decide +kernel
theorem dX4_slow_67 : decode cX4_slow 67 = .ok (.istore_n 3, 1) := by decide +kernel
theorem dX4_slow_68 : decode cX4_slow 68 = .ok (.iinc 5 (-1), 3) := by decide +kernel
theorem dX4_slow_71 : decode cX4_slow 71 = .ok (.goto (-44), 3) := by decide +kernel
theorem dX4_slow_74 : decode cX4_slow 74 = .ok (.iload_n 2, 1) := by decide +kernel
theorem dX4_slow_75 : decode cX4_slow 75 = .ok (.ifCond .ne 7, 3) := by decide +kernel
theorem dX4_slow_78 : decode cX4_slow 78 = .ok (.iload_n 3, 1) := by decide +kernel
theorem dX4_slow_79 : decode cX4_slow 79 = .ok (.goto 5, 3) := by decide +kernel
theorem dX4_slow_82 : decode cX4_slow 82 = .ok (.iload 4, 2) := by decide +kernel
theorem dX4_slow_84 : decode cX4_slow 84 = .ok (.ireturn, 1) := by decide +kernel
theorem dX4_lose_0 : decode cX4_lose 0 = .ok (.iload_n 1, 1) := by decide +kernel
theorem dX4_lose_1 : decode cX4_lose 1 = .ok (.invokestatic 165, 3) := by decide +kernel
theorem dX4_lose_4 : decode cX4_lose 4 = .ok (.ifCond .eq 12, 3) := by decide +kernel
theorem dX4_lose_7 : decode cX4_lose 7 = .ok (.iload_n 2, 1) := by decide +kernel
theorem dX4_lose_8 : decode cX4_lose 8 = .ok (.iconst 0, 1) := by decide +kernel
theorem dX4_lose_9 : decode cX4_lose 9 = .ok (.iconst 1, 1) := by decide +kernel
theorem dX4_lose_10 : decode cX4_lose 10 = .ok (.invokestatic 54, 3) := by decide +kernel
theorem dX4_lose_13 : decode cX4_lose 13 = .ok (.ifCond .ne 5, 3) := by decide +kernel
theorem dX4_lose_16 : decode cX4_lose 16 = .ok (.iconst (-1), 1) := by decide +kernel
theorem dX4_lose_17 : decode cX4_lose 17 = .ok (.ireturn, 1) := by decide +kernel
theorem dX4_lose_18 : decode cX4_lose 18 = .ok (.bipush (-4), 2) := by decide +kernel
theorem dX4_lose_20 : decode cX4_lose 20 = .ok (.istore_n 3, 1) := by decide +kernel
theorem dX4_lose_21 : decode cX4_lose 21 = .ok (.aload_n 0, 1) := by decide +kernel
theorem dX4_lose_22 : decode cX4_lose 22 = .ok (.invokevirtual 168, 3) := by decide +kernel
theorem dX4_lose_25 : decode cX4_lose 25 = .ok (.iload_n 1, 1) := by decide +kernel
theorem dX4_lose_26 : decode cX4_lose 26 = .ok (.invokestatic 197, 3) := by decide +kernel
theorem dX4_lose_29 : decode cX4_lose 29 = .ok (.istore 4, 2) := by decide +kernel
theorem dX4_lose_31 : decode cX4_lose 31 = .ok (.iconst 0, 1) := by decide +kernel
theorem dX4_lose_32 : decode cX4_lose 32 = .ok (.istore 5, 2) := by decide +kernel
theorem dX4_lose_34 : decode cX4_lose 34 = .ok (.iload 5, 2) := by decide +kernel
theorem dX4_lose_36 : decode cX4_lose 36 = .ok (.aload_n 0, 1) := by decide +kernel
theorem dX4_lose_37 : decode cX4_lose 37 = .ok (.getfield 16, 3) := by decide +kernel
theorem dX4_lose_40 : decode cX4_lose 40 = .ok (.getfield 82, 3) := by decide +kernel
theorem dX4_lose_43 : decode cX4_lose 43 = .ok (.if_icmp .ge 44, 3) := by decide +kernel
theorem dX4_lose_46 : decode cX4_lose 46 = .ok (.aload_n 0, 1) := by decide +kernel
theorem dX4_lose_47 : decode cX4_lose 47 = .ok (.invokevirtual 168, 3) := by decide +kernel
theorem dX4_lose_50 : decode cX4_lose 50 = .ok (.astore 6, 2) := by decide +kernel
theorem dX4_lose_52 : decode cX4_lose 52 = .ok (.aload 6, 2) := by decide +kernel
theorem dX4_lose_54 : decode cX4_lose 54 = .ok (.iload 5, 2) := by decide +kernel
theorem dX4_lose_56 : decode cX4_lose 56 = .ok (.invokevirtual 200, 3) := by decide +kernel
theorem dX4_lose_59 : decode cX4_lose 59 = .ok (.aload 6, 2) := by decide +kernel
theorem dX4_lose_61 : decode cX4_lose 61 = .ok (.iload_n 1, 1) := by decide +kernel
theorem dX4_lose_62 : decode cX4_lose 62 = .ok (.invokestatic 197, 3) := by decide +kernel
theorem dX4_lose_65 : decode cX4_lose 65 = .ok (.istore 7, 2) := by decide +kernel
theorem dX4_lose_67 : decode cX4_lose 67 = .ok (.iload 7, 2) := by decide +kernel
theorem dX4_lose_69 : decode cX4_lose 69 = .ok (.iload 4, 2) := by decide +kernel
theorem dX4_lose_71 : decode cX4_lose 71 = .ok (.if_icmp .le 10, 3) := by decide +kernel
theorem dX4_lose_74 : decode cX4_lose 74 = .ok (.iload 7, 2) := by decide +kernel
theorem dX4_lose_76 : decode cX4_lose 76 = .ok (.istore 4, 2) := by decide +kernel
theorem dX4_lose_78 : decode cX4_lose 78 = .ok (.iload 5, 2) := by decide +kernel
theorem dX4_lose_80 : decode cX4_lose 80 = .ok (.istore_n 3, 1) := by decide +kernel
theorem dX4_lose_81 : decode cX4_lose 81 = .ok (.iinc 5 1, 3) := by decide +kernel
theorem dX4_lose_84 : decode cX4_lose 84 = .ok (.goto (-50), 3) := by decide +kernel
theorem dX4_lose_87 : decode cX4_lose 87 = .ok (.iload_n 3, 1) := by decide +kernel
theorem dX4_lose_88 : decode cX4_lose 88 = .ok (.bipush (-4), 2) := by decide +kernel
theorem dX4_lose_90 : decode cX4_lose 90 = .ok (.if_icmp .ne 6, 3) := by decide +kernel
theorem dX4_lose_93 : decode cX4_lose 93 = .ok (.bipush (-4), 2) := by decide +kernel
theorem dX4_lose_95 : decode cX4_lose 95 = .ok (.ireturn, 1) := by decide +kernel
theorem dX4_lose_96 : decode cX4_lose 96 = .ok (.iload_n 2, 1) := by decide +kernel
theorem dX4_lose_97 : decode cX4_lose 97 = .ok (.ifCond .ne 7, 3) := by decide +kernel
theorem dX4_lose_100 : decode cX4_lose 100 = .ok (.iload_n 3, 1) := by decide +kernel
theorem dX4_lose_101 : decode cX4_lose 101 = .ok (.goto 5, 3) := by decide +kernel
theorem dX4_lose_104 : decode cX4_lose 104 = .ok (.iload 4, 2) := by decide +kernel
theorem dX4_lose_106 : decode cX4_lose 106 = .ok (.ireturn, 1) := by decide +kernel
theorem dX4_missOf_0 : decode cX4_missOf 0 = .ok (.aload_n 0, 1) := by decide +kernel
theorem dX4_missOf_1 : decode cX4_missOf 1 = .ok (.iload_n 1, 1) := by decide +kernel
theorem dX4_missOf_2 : decode cX4_missOf 2 = .ok (.invokevirtual 181, 3) := by decide +kernel
theorem dX4_missOf_5 : decode cX4_missOf 5 = .ok (.istore_n 2, 1) := by decide +kernel
theorem dX4_missOf_6 : decode cX4_missOf 6 = .ok (.aload_n 0, 1) := by decide +kernel
theorem dX4_missOf_7 : decode cX4_missOf 7 = .ok (.iload_n 1, 1) := by decide +kernel
theorem dX4_missOf_8 : decode cX4_missOf 8 = .ok (.invokestatic 197, 3) := by decide +kernel
theorem dX4_missOf_11 : decode cX4_missOf 11 = .ok (.iload_n 2, 1) := by decide +kernel
theorem dX4_missOf_12 : decode cX4_missOf 12 = .ok (.isub, 1) := by decide +kernel
theorem dX4_missOf_13 : decode cX4_missOf 13 = .ok (.invokestatic 203, 3) := by decide +kernel
theorem dX4_missOf_16 : decode cX4_missOf 16 = .ok (.ireturn, 1) := by decide +kernel
theorem dX4_strokesIn_0 : decode cX4_strokesIn 0 = .ok (.aload_n 0, 1) := by decide +kernel
theorem dX4_strokesIn_1 : decode cX4_strokesIn 1 = .ok (.iload_n 1, 1) := by decide +kernel
theorem dX4_strokesIn_2 : decode cX4_strokesIn 2 = .ok (.invokevirtual 158, 3) := by decide +kernel
theorem dX4_strokesIn_5 : decode cX4_strokesIn 5 = .ok (.aload_n 0, 1) := by decide +kernel
theorem dX4_strokesIn_6 : decode cX4_strokesIn 6 = .ok (.invokevirtual 162, 3) := by decide +kernel
theorem dX4_strokesIn_9 : decode cX4_strokesIn 9 = .ok (.ireturn, 1) := by decide +kernel
theorem dX4_strokesOfOne_0 : decode cX4_strokesOfOne 0 = .ok (.aload_n 0, 1) := by decide +kernel
theorem dX4_strokesOfOne_1 : decode cX4_strokesOfOne 1 = .ok (.iload_n 1, 1) := by decide +kernel
theorem dX4_strokesOfOne_2 : decode cX4_strokesOfOne 2 = .ok (.iload_n 2, 1) := by decide +kernel
theorem dX4_strokesOfOne_3 : decode cX4_strokesOfOne 3 = .ok (.iload_n 3, 1) := by decide +kernel
theorem dX4_strokesOfOne_4 : decode cX4_strokesOfOne 4 = .ok (.invokevirtual 189, 3) := by decide +kernel
theorem dX4_strokesOfOne_7 : decode cX4_strokesOfOne 7 = .ok (.astore 5, 2) := by decide +kernel
theorem dX4_strokesOfOne_9 : decode cX4_strokesOfOne 9 = .ok (.aload 5, 2) := by decide +kernel
theorem dX4_strokesOfOne_11 : decode cX4_strokesOfOne 11 = .ok (.iload 4, 2) := by decide +kernel
theorem dX4_strokesOfOne_13 : decode cX4_strokesOfOne 13 = .ok (.invokevirtual 158, 3) := by decide +kernel
theorem dX4_strokesOfOne_16 : decode cX4_strokesOfOne 16 = .ok (.aload 5, 2) := by decide +kernel
theorem dX4_strokesOfOne_18 : decode cX4_strokesOfOne 18 = .ok (.getfield 105, 3) := by decide +kernel
theorem dX4_strokesOfOne_21 : decode cX4_strokesOfOne 21 = .ok (.iload_n 1, 1) := by decide +kernel
theorem dX4_strokesOfOne_22 : decode cX4_strokesOfOne 22 = .ok (.aaload, 1) := by decide +kernel
theorem dX4_strokesOfOne_23 : decode cX4_strokesOfOne 23 = .ok (.getfield 178, 3) := by decide +kernel
theorem dX4_strokesOfOne_26 : decode cX4_strokesOfOne 26 = .ok (.ireturn, 1) := by decide +kernel
theorem dX4_luck_0 : decode cX4_luck 0 = .ok (.aload_n 0, 1) := by decide +kernel
theorem dX4_luck_1 : decode cX4_luck 1 = .ok (.getfield 16, 3) := by decide +kernel
theorem dX4_luck_4 : decode cX4_luck 4 = .ok (.iload_n 2, 1) := by decide +kernel
theorem dX4_luck_5 : decode cX4_luck 5 = .ok (.invokevirtual 101, 3) := by decide +kernel
theorem dX4_luck_8 : decode cX4_luck 8 = .ok (.ifCond .eq 21, 3) := by decide +kernel
theorem dX4_luck_11 : decode cX4_luck 11 = .ok (.iload_n 1, 1) := by decide +kernel
theorem dX4_luck_12 : decode cX4_luck 12 = .ok (.iload_n 3, 1) := by decide +kernel
theorem dX4_luck_13 : decode cX4_luck 13 = .ok (.invokestatic 208, 3) := by decide +kernel
theorem dX4_luck_16 : decode cX4_luck 16 = .ok (.ifCond .eq 13, 3) := by decide +kernel
theorem dX4_luck_19 : decode cX4_luck 19 = .ok (.iload 4, 2) := by decide +kernel
theorem dX4_luck_21 : decode cX4_luck 21 = .ok (.iconst 0, 1) := by decide +kernel
theorem dX4_luck_22 : decode cX4_luck 22 = .ok (.iconst 1, 1) := by decide +kernel
theorem dX4_luck_23 : decode cX4_luck 23 = .ok (.invokestatic 54, 3) := by decide +kernel
theorem dX4_luck_26 : decode cX4_luck 26 = .ok (.ifCond .ne 7, 3) := by decide +kernel
theorem dX4_luck_29 : decode cX4_luck 29 = .ok (.ldc2_w 211, 3) := by decide +kernel
theorem dX4_luck_32 : decode cX4_luck 32 = .ok (.lreturn, 1) := by decide +kernel
theorem dX4_luck_33 : decode cX4_luck 33 = .ok (.lconst 0, 1) := by decide +kernel
theorem dX4_luck_34 : decode cX4_luck 34 = .ok (.lstore 5, 2) := by decide +kernel
theorem dX4_luck_36 : decode cX4_luck 36 = .ok (.aload_n 0, 1) := by decide +kernel
theorem dX4_luck_37 : decode cX4_luck 37 = .ok (.iload_n 3, 1) := by decide +kernel
theorem dX4_luck_38 : decode cX4_luck 38 = .ok (.invokevirtual 213, 3) := by decide +kernel
theorem dX4_luck_41 : decode cX4_luck 41 = .ok (.iconst 0, 1) := by decide +kernel
theorem dX4_luck_42 : decode cX4_luck 42 = .ok (.istore 7, 2) := by decide +kernel
theorem dX4_luck_44 : decode cX4_luck 44 = .ok (.iload 7, 2) := by decide +kernel
theorem dX4_luck_46 : decode cX4_luck 46 = .ok (.iconst 1, 1) := by decide +kernel
theorem dX4_luck_47 : decode cX4_luck 47 = .ok (.iload_n 3, 1) := by decide +kernel
theorem dX4_luck_48 : decode cX4_luck 48 = .ok (.ishl, 1) := by decide +kernel
theorem dX4_luck_49 : decode cX4_luck 49 = .ok (.if_icmp .ge 51, 3) := by decide +kernel
theorem dX4_luck_52 : decode cX4_luck 52 = .ok (.iload 7, 2) := by decide +kernel
theorem dX4_luck_54 : decode cX4_luck 54 = .ok (.iload_n 1, 1) := by decide +kernel
theorem dX4_luck_55 : decode cX4_luck 55 = .ok (.iload_n 3, 1) := by decide +kernel
theorem dX4_luck_56 : decode cX4_luck 56 = .ok (.invokestatic 216, 3) := by decide +kernel
theorem dX4_luck_59 : decode cX4_luck 59 = .ok (.lstore 8, 2) := by decide +kernel
theorem dX4_luck_61 : decode cX4_luck 61 = .ok (.lload 8, 2) := by decide +kernel
theorem dX4_luck_63 : decode cX4_luck 63 = .ok (.lconst 0, 1) := by decide +kernel
theorem dX4_luck_64 : decode cX4_luck 64 = .ok (.lcmp, 1) := by decide +kernel
theorem dX4_luck_65 : decode cX4_luck 65 = .ok (.ifCond .le 29, 3) := by decide +kernel
theorem dX4_luck_68 : decode cX4_luck 68 = .ok (.aload_n 0, 1) := by decide +kernel
theorem dX4_luck_69 : decode cX4_luck 69 = .ok (.iload 7, 2) := by decide +kernel
theorem dX4_luck_71 : decode cX4_luck 71 = .ok (.iload_n 3, 1) := by decide +kernel
theorem dX4_luck_72 : decode cX4_luck 72 = .ok (.invokevirtual 220, 3) := by decide +kernel
theorem dX4_luck_75 : decode cX4_luck 75 = .ok (.getfield 105, 3) := by decide +kernel
theorem dX4_luck_78 : decode cX4_luck 78 = .ok (.iload_n 2, 1) := by decide +kernel
theorem dX4_luck_79 : decode cX4_luck 79 = .ok (.aaload, 1) := by decide +kernel
theorem dX4_luck_80 : decode cX4_luck 80 = .ok (.getfield 114, 3) := by decide +kernel
theorem dX4_luck_83 : decode cX4_luck 83 = .ok (.iconst 1, 1) := by decide +kernel
theorem dX4_luck_84 : decode cX4_luck 84 = .ok (.if_icmp .ne 10, 3) := by decide +kernel
theorem dX4_luck_87 : decode cX4_luck 87 = .ok (.lload 5, 2) := by decide +kernel
theorem dX4_luck_89 : decode cX4_luck 89 = .ok (.lload 8, 2) := by decide +kernel
theorem dX4_luck_91 : decode cX4_luck 91 = .ok (.ladd, 1) := by decide +kernel
theorem dX4_luck_92 : decode cX4_luck 92 = .ok (.lstore 5, 2) := by decide +kernel
theorem dX4_luck_94 : decode cX4_luck 94 = .ok (.iinc 7 1, 3) := by decide +kernel
theorem dX4_luck_97 : decode cX4_luck 97 = .ok (.goto (-53), 3) := by decide +kernel
theorem dX4_luck_100 : decode cX4_luck 100 = .ok (.lload 5, 2) := by decide +kernel
theorem dX4_luck_102 : decode cX4_luck 102 = .ok (.bipush 10, 2) := by decide +kernel
theorem dX4_luck_104 : decode cX4_luck 104 = .ok (.iload_n 3, 1) := by decide +kernel
theorem dX4_luck_105 : decode cX4_luck 105 = .ok (.invokestatic 224, 3) := by decide +kernel
theorem dX4_luck_108 : decode cX4_luck 108 = .ok (.iload 4, 2) := by decide +kernel
theorem dX4_luck_110 : decode cX4_luck 110 = .ok (.invokestatic 228, 3) := by decide +kernel
theorem dX4_luck_113 : decode cX4_luck 113 = .ok (.lreturn, 1) := by decide +kernel
theorem dX4_mean_0 : decode cX4_mean 0 = .ok (.iload_n 1, 1) := by decide +kernel
theorem dX4_mean_1 : decode cX4_mean 1 = .ok (.iload_n 2, 1) := by decide +kernel
theorem dX4_mean_2 : decode cX4_mean 2 = .ok (.invokestatic 208, 3) := by decide +kernel
theorem dX4_mean_5 : decode cX4_mean 5 = .ok (.ifCond .eq 12, 3) := by decide +kernel
theorem dX4_mean_8 : decode cX4_mean 8 = .ok (.iload_n 3, 1) := by decide +kernel
theorem dX4_mean_9 : decode cX4_mean 9 = .ok (.iconst 0, 1) := by decide +kernel
theorem dX4_mean_10 : decode cX4_mean 10 = .ok (.iconst 1, 1) := by decide +kernel
theorem dX4_mean_11 : decode cX4_mean 11 = .ok (.invokestatic 54, 3) := by decide +kernel
theorem dX4_mean_14 : decode cX4_mean 14 = .ok (.ifCond .ne 7, 3) := by decide +kernel
theorem dX4_mean_17 : decode cX4_mean 17 = .ok (.ldc2_w 211, 3) := by decide +kernel
theorem dX4_mean_20 : decode cX4_mean 20 = .ok (.lreturn, 1) := by decide +kernel
theorem dX4_mean_21 : decode cX4_mean 21 = .ok (.lconst 0, 1) := by decide +kernel
theorem dX4_mean_22 : decode cX4_mean 22 = .ok (.lstore 4, 2) := by decide +kernel
theorem dX4_mean_24 : decode cX4_mean 24 = .ok (.aload_n 0, 1) := by decide +kernel
theorem dX4_mean_25 : decode cX4_mean 25 = .ok (.iload_n 2, 1) := by decide +kernel
theorem dX4_mean_26 : decode cX4_mean 26 = .ok (.invokevirtual 213, 3) := by decide +kernel
theorem dX4_mean_29 : decode cX4_mean 29 = .ok (.iconst 0, 1) := by decide +kernel
theorem dX4_mean_30 : decode cX4_mean 30 = .ok (.istore 6, 2) := by decide +kernel
theorem dX4_mean_32 : decode cX4_mean 32 = .ok (.iload 6, 2) := by decide +kernel
theorem dX4_mean_34 : decode cX4_mean 34 = .ok (.iconst 1, 1) := by decide +kernel
theorem dX4_mean_35 : decode cX4_mean 35 = .ok (.iload_n 2, 1) := by decide +kernel
theorem dX4_mean_36 : decode cX4_mean 36 = .ok (.ishl, 1) := by decide +kernel
theorem dX4_mean_37 : decode cX4_mean 37 = .ok (.if_icmp .ge 44, 3) := by decide +kernel
theorem dX4_mean_40 : decode cX4_mean 40 = .ok (.iload 6, 2) := by decide +kernel
theorem dX4_mean_42 : decode cX4_mean 42 = .ok (.iload_n 1, 1) := by decide +kernel
theorem dX4_mean_43 : decode cX4_mean 43 = .ok (.iload_n 2, 1) := by decide +kernel
theorem dX4_mean_44 : decode cX4_mean 44 = .ok (.invokestatic 216, 3) := by decide +kernel
theorem dX4_mean_47 : decode cX4_mean 47 = .ok (.lstore 7, 2) := by decide +kernel
theorem dX4_mean_49 : decode cX4_mean 49 = .ok (.lload 7, 2) := by decide +kernel
theorem dX4_mean_51 : decode cX4_mean 51 = .ok (.lconst 0, 1) := by decide +kernel
theorem dX4_mean_52 : decode cX4_mean 52 = .ok (.lcmp, 1) := by decide +kernel
theorem dX4_mean_53 : decode cX4_mean 53 = .ok (.ifCond .le 22, 3) := by decide +kernel
theorem dX4_mean_56 : decode cX4_mean 56 = .ok (.lload 4, 2) := by decide +kernel
theorem dX4_mean_58 : decode cX4_mean 58 = .ok (.lload 7, 2) := by decide +kernel
theorem dX4_mean_60 : decode cX4_mean 60 = .ok (.aload_n 0, 1) := by decide +kernel
theorem dX4_mean_61 : decode cX4_mean 61 = .ok (.iload 6, 2) := by decide +kernel
theorem dX4_mean_63 : decode cX4_mean 63 = .ok (.iload_n 2, 1) := by decide +kernel
theorem dX4_mean_64 : decode cX4_mean 64 = .ok (.invokevirtual 220, 3) := by decide +kernel
theorem dX4_mean_67 : decode cX4_mean 67 = .ok (.invokevirtual 162, 3) := by decide +kernel
theorem dX4_mean_70 : decode cX4_mean 70 = .ok (.i2l, 1) := by decide +kernel
theorem dX4_mean_71 : decode cX4_mean 71 = .ok (.lmul, 1) := by decide +kernel
theorem dX4_mean_72 : decode cX4_mean 72 = .ok (.ladd, 1) := by decide +kernel
theorem dX4_mean_73 : decode cX4_mean 73 = .ok (.lstore 4, 2) := by decide +kernel
theorem dX4_mean_75 : decode cX4_mean 75 = .ok (.iinc 6 1, 3) := by decide +kernel
theorem dX4_mean_78 : decode cX4_mean 78 = .ok (.goto (-46), 3) := by decide +kernel
theorem dX4_mean_81 : decode cX4_mean 81 = .ok (.lload 4, 2) := by decide +kernel
theorem dX4_mean_83 : decode cX4_mean 83 = .ok (.bipush 10, 2) := by decide +kernel
theorem dX4_mean_85 : decode cX4_mean 85 = .ok (.iload_n 2, 1) := by decide +kernel
theorem dX4_mean_86 : decode cX4_mean 86 = .ok (.invokestatic 224, 3) := by decide +kernel
theorem dX4_mean_89 : decode cX4_mean 89 = .ok (.iload_n 3, 1) := by decide +kernel
theorem dX4_mean_90 : decode cX4_mean 90 = .ok (.invokestatic 228, 3) := by decide +kernel
theorem dX4_mean_93 : decode cX4_mean 93 = .ok (.lreturn, 1) := by decide +kernel
theorem dX4_isNoise_0 : decode cX4_isNoise 0 = .ok (.iload_n 0, 1) := by decide +kernel
theorem dX4_isNoise_1 : decode cX4_isNoise 1 = .ok (.iconst 0, 1) := by decide +kernel
theorem dX4_isNoise_2 : decode cX4_isNoise 2 = .ok (.bipush 10, 2) := by decide +kernel
theorem dX4_isNoise_4 : decode cX4_isNoise 4 = .ok (.invokestatic 54, 3) := by decide +kernel
theorem dX4_isNoise_7 : decode cX4_isNoise 7 = .ok (.ifCond .eq 17, 3) := by decide +kernel
theorem dX4_isNoise_10 : decode cX4_isNoise 10 = .ok (.iload_n 1, 1) := by decide +kernel
theorem dX4_isNoise_11 : decode cX4_isNoise 11 = .ok (.iconst 0, 1) := by decide +kernel
theorem dX4_isNoise_12 : decode cX4_isNoise 12 = .ok (.bipush 8, 2) := by decide +kernel
theorem dX4_isNoise_14 : decode cX4_isNoise 14 = .ok (.invokestatic 54, 3) := by decide +kernel
theorem dX4_isNoise_17 : decode cX4_isNoise 17 = .ok (.ifCond .eq 7, 3) := by decide +kernel
theorem dX4_isNoise_20 : decode cX4_isNoise 20 = .ok (.iconst 1, 1) := by decide +kernel
theorem dX4_isNoise_21 : decode cX4_isNoise 21 = .ok (.goto 4, 3) := by decide +kernel
theorem dX4_isNoise_24 : decode cX4_isNoise 24 = .ok (.iconst 0, 1) := by decide +kernel
theorem dX4_isNoise_25 : decode cX4_isNoise 25 = .ok (.ireturn, 1) := by decide +kernel
theorem dX4_listenQuietly_0 : decode cX4_listenQuietly 0 = .ok (.aload_n 0, 1) := by decide +kernel
theorem dX4_listenQuietly_1 : decode cX4_listenQuietly 1 = .ok (.invokevirtual 168, 3) := by decide +kernel
theorem dX4_listenQuietly_4 : decode cX4_listenQuietly 4 = .ok (.astore_n 2, 1) := by decide +kernel
theorem dX4_listenQuietly_5 : decode cX4_listenQuietly 5 = .ok (.iconst 0, 1) := by decide +kernel
theorem dX4_listenQuietly_6 : decode cX4_listenQuietly 6 = .ok (.istore_n 3, 1) := by decide +kernel
theorem dX4_listenQuietly_7 : decode cX4_listenQuietly 7 = .ok (.iload_n 3, 1) := by decide +kernel
theorem dX4_listenQuietly_8 : decode cX4_listenQuietly 8 = .ok (.iload_n 1, 1) := by decide +kernel
theorem dX4_listenQuietly_9 : decode cX4_listenQuietly 9 = .ok (.if_icmp .ge 30, 3) := by decide +kernel
theorem dX4_listenQuietly_12 : decode cX4_listenQuietly 12 = .ok (.iload_n 3, 1) := by decide +kernel
theorem dX4_listenQuietly_13 : decode cX4_listenQuietly 13 = .ok (.bipush 8, 2) := by decide +kernel
theorem dX4_listenQuietly_15 : decode cX4_listenQuietly 15 = .ok (.if_icmp .ge 24, 3) := by decide +kernel
theorem dX4_listenQuietly_18 : decode cX4_listenQuietly 18 = .ok (.aload_n 0, 1) := by decide +kernel
theorem dX4_listenQuietly_19 : decode cX4_listenQuietly 19 = .ok (.getfield 47, 3) := by decide +kernel
theorem dX4_listenQuietly_22 : decode cX4_listenQuietly 22 = .ok (.iload_n 3, 1) := by decide +kernel
theorem dX4_listenQuietly_23 : decode cX4_listenQuietly 23 = .ok (.aload_n 2, 1) := by decide +kernel
theorem dX4_listenQuietly_24 : decode cX4_listenQuietly 24 = .ok (.invokevirtual 95, 3) := by decide +kernel
theorem dX4_listenQuietly_27 : decode cX4_listenQuietly 27 = .ok (.iastore, 1) := by decide +kernel
theorem dX4_listenQuietly_28 : decode cX4_listenQuietly 28 = .ok (.aload_n 2, 1) := by decide +kernel
theorem dX4_listenQuietly_29 : decode cX4_listenQuietly 29 = .ok (.iconst 1, 1) := by decide +kernel
theorem dX4_listenQuietly_30 : decode cX4_listenQuietly 30 = .ok (.invokevirtual 158, 3) := by decide +kernel
theorem dX4_listenQuietly_33 : decode cX4_listenQuietly 33 = .ok (.iinc 3 1, 3) := by decide +kernel
theorem dX4_listenQuietly_36 : decode cX4_listenQuietly 36 = .ok (.goto (-29), 3) := by decide +kernel
theorem dX4_listenQuietly_39 : decode cX4_listenQuietly 39 = .ok (.return_, 1) := by decide +kernel
theorem dX4_runNoisily_0 : decode cX4_runNoisily 0 = .ok (.aload_n 0, 1) := by decide +kernel
theorem dX4_runNoisily_1 : decode cX4_runNoisily 1 = .ok (.getfield 20, 3) := by decide +kernel
theorem dX4_runNoisily_4 : decode cX4_runNoisily 4 = .ok (.aload_n 0, 1) := by decide +kernel
theorem dX4_runNoisily_5 : decode cX4_runNoisily 5 = .ok (.getfield 16, 3) := by decide +kernel
theorem dX4_runNoisily_8 : decode cX4_runNoisily 8 = .ok (.invokevirtual 232, 3) := by decide +kernel
theorem dX4_runNoisily_11 : decode cX4_runNoisily 11 = .ok (.aload_n 0, 1) := by decide +kernel
theorem dX4_runNoisily_12 : decode cX4_runNoisily 12 = .ok (.getfield 20, 3) := by decide +kernel
theorem dX4_runNoisily_15 : decode cX4_runNoisily 15 = .ok (.invokevirtual 155, 3) := by decide +kernel
theorem dX4_runNoisily_18 : decode cX4_runNoisily 18 = .ok (.iconst 0, 1) := by decide +kernel
theorem dX4_runNoisily_19 : decode cX4_runNoisily 19 = .ok (.istore_n 3, 1) := by decide +kernel
theorem dX4_runNoisily_20 : decode cX4_runNoisily 20 = .ok (.iload_n 3, 1) := by decide +kernel
theorem dX4_runNoisily_21 : decode cX4_runNoisily 21 = .ok (.iload_n 2, 1) := by decide +kernel
theorem dX4_runNoisily_22 : decode cX4_runNoisily 22 = .ok (.if_icmp .ge 60, 3) := by decide +kernel
theorem dX4_runNoisily_25 : decode cX4_runNoisily 25 = .ok (.iload_n 3, 1) := by decide +kernel
theorem dX4_runNoisily_26 : decode cX4_runNoisily 26 = .ok (.bipush 8, 2) := by decide +kernel
theorem dX4_runNoisily_28 : decode cX4_runNoisily 28 = .ok (.if_icmp .ge 54, 3) := by decide +kernel
theorem dX4_runNoisily_31 : decode cX4_runNoisily 31 = .ok (.iload_n 1, 1) := by decide +kernel
theorem dX4_runNoisily_32 : decode cX4_runNoisily 32 = .ok (.iload_n 3, 1) := by decide +kernel
theorem dX4_runNoisily_33 : decode cX4_runNoisily 33 = .ok (.ishr, 1) := by decide +kernel
theorem dX4_runNoisily_34 : decode cX4_runNoisily 34 = .ok (.iconst 1, 1) := by decide +kernel
theorem dX4_runNoisily_35 : decode cX4_runNoisily 35 = .ok (.iand, 1) := by decide +kernel
theorem dX4_runNoisily_36 : decode cX4_runNoisily 36 = .ok (.iconst 1, 1) := by decide +kernel
theorem dX4_runNoisily_37 : decode cX4_runNoisily 37 = .ok (.if_icmp .ne 7, 3) := by decide +kernel
theorem dX4_runNoisily_40 : decode cX4_runNoisily 40 = .ok (.iconst 1, 1) := by decide +kernel
theorem dX4_runNoisily_41 : decode cX4_runNoisily 41 = .ok (.goto 4, 3) := by decide +kernel
theorem dX4_runNoisily_44 : decode cX4_runNoisily 44 = .ok (.iconst 0, 1) := by decide +kernel
theorem dX4_runNoisily_45 : decode cX4_runNoisily 45 = .ok (.istore 4, 2) := by decide +kernel
theorem dX4_runNoisily_47 : decode cX4_runNoisily 47 = .ok (.aload_n 0, 1) := by decide +kernel
theorem dX4_runNoisily_48 : decode cX4_runNoisily 48 = .ok (.getfield 20, 3) := by decide +kernel
theorem dX4_runNoisily_51 : decode cX4_runNoisily 51 = .ok (.iload 4, 2) := by decide +kernel
theorem dX4_runNoisily_53 : decode cX4_runNoisily 53 = .ok (.ifCond .eq 14, 3) := by decide +kernel
theorem dX4_runNoisily_56 : decode cX4_runNoisily 56 = .ok (.aload_n 0, 1) := by decide +kernel
theorem dX4_runNoisily_57 : decode cX4_runNoisily 57 = .ok (.getfield 47, 3) := by decide +kernel
theorem dX4_runNoisily_60 : decode cX4_runNoisily 60 = .ok (.iload_n 3, 1) := by decide +kernel
theorem dX4_runNoisily_61 : decode cX4_runNoisily 61 = .ok (.iaload, 1) := by decide +kernel
theorem dX4_runNoisily_62 : decode cX4_runNoisily 62 = .ok (.iconst (-1), 1) := by decide +kernel
theorem dX4_runNoisily_63 : decode cX4_runNoisily 63 = .ok (.ixor, 1) := by decide +kernel
theorem dX4_runNoisily_64 : decode cX4_runNoisily 64 = .ok (.goto 9, 3) := by decide +kernel
theorem dX4_runNoisily_67 : decode cX4_runNoisily 67 = .ok (.aload_n 0, 1) := by decide +kernel
theorem dX4_runNoisily_68 : decode cX4_runNoisily 68 = .ok (.getfield 47, 3) := by decide +kernel
theorem dX4_runNoisily_71 : decode cX4_runNoisily 71 = .ok (.iload_n 3, 1) := by decide +kernel
theorem dX4_runNoisily_72 : decode cX4_runNoisily 72 = .ok (.iaload, 1) := by decide +kernel
theorem dX4_runNoisily_73 : decode cX4_runNoisily 73 = .ok (.invokevirtual 235, 3) := by decide +kernel
theorem dX4_runNoisily_76 : decode cX4_runNoisily 76 = .ok (.iinc 3 1, 3) := by decide +kernel
theorem dX4_runNoisily_79 : decode cX4_runNoisily 79 = .ok (.goto (-59), 3) := by decide +kernel
theorem dX4_runNoisily_82 : decode cX4_runNoisily 82 = .ok (.aload_n 0, 1) := by decide +kernel
theorem dX4_runNoisily_83 : decode cX4_runNoisily 83 = .ok (.getfield 20, 3) := by decide +kernel
theorem dX4_runNoisily_86 : decode cX4_runNoisily 86 = .ok (.areturn, 1) := by decide +kernel
theorem dX4_weightOf_0 : decode cX4_weightOf 0 = .ok (.iload_n 0, 1) := by decide +kernel
theorem dX4_weightOf_1 : decode cX4_weightOf 1 = .ok (.invokestatic 238, 3) := by decide +kernel
theorem dX4_weightOf_4 : decode cX4_weightOf 4 = .ok (.istore_n 3, 1) := by decide +kernel
theorem dX4_weightOf_5 : decode cX4_weightOf 5 = .ok (.iload_n 1, 1) := by decide +kernel
theorem dX4_weightOf_6 : decode cX4_weightOf 6 = .ok (.iload_n 3, 1) := by decide +kernel
theorem dX4_weightOf_7 : decode cX4_weightOf 7 = .ok (.invokestatic 224, 3) := by decide +kernel
theorem dX4_weightOf_10 : decode cX4_weightOf 10 = .ok (.bipush 10, 2) := by decide +kernel
theorem dX4_weightOf_12 : decode cX4_weightOf 12 = .ok (.iload_n 1, 1) := by decide +kernel
theorem dX4_weightOf_13 : decode cX4_weightOf 13 = .ok (.isub, 1) := by decide +kernel
theorem dX4_weightOf_14 : decode cX4_weightOf 14 = .ok (.iload_n 2, 1) := by decide +kernel
theorem dX4_weightOf_15 : decode cX4_weightOf 15 = .ok (.iload_n 3, 1) := by decide +kernel
theorem dX4_weightOf_16 : decode cX4_weightOf 16 = .ok (.isub, 1) := by decide +kernel
theorem dX4_weightOf_17 : decode cX4_weightOf 17 = .ok (.invokestatic 224, 3) := by decide +kernel
theorem dX4_weightOf_20 : decode cX4_weightOf 20 = .ok (.lmul, 1) := by decide +kernel
theorem dX4_weightOf_21 : decode cX4_weightOf 21 = .ok (.lreturn, 1) := by decide +kernel
theorem dX4_power_0 : decode cX4_power 0 = .ok (.lconst 1, 1) := by decide +kernel
theorem dX4_power_1 : decode cX4_power 1 = .ok (.lstore_n 2, 1) := by decide +kernel
theorem dX4_power_2 : decode cX4_power 2 = .ok (.iconst 0, 1) := by decide +kernel
theorem dX4_power_3 : decode cX4_power 3 = .ok (.istore 4, 2) := by decide +kernel
theorem dX4_power_5 : decode cX4_power 5 = .ok (.iload 4, 2) := by decide +kernel
theorem dX4_power_7 : decode cX4_power 7 = .ok (.iload_n 1, 1) := by decide +kernel
theorem dX4_power_8 : decode cX4_power 8 = .ok (.if_icmp .ge 14, 3) := by decide +kernel
theorem dX4_power_11 : decode cX4_power 11 = .ok (.lload_n 2, 1) := by decide +kernel
theorem dX4_power_12 : decode cX4_power 12 = .ok (.iload_n 0, 1) := by decide +kernel
theorem dX4_power_13 : decode cX4_power 13 = .ok (.i2l, 1) := by decide +kernel
theorem dX4_power_14 : decode cX4_power 14 = .ok (.lmul, 1) := by decide +kernel
theorem dX4_power_15 : decode cX4_power 15 = .ok (.lstore_n 2, 1) := by decide +kernel
theorem dX4_power_16 : decode cX4_power 16 = .ok (.iinc 4 1, 3) := by decide +kernel
theorem dX4_power_19 : decode cX4_power 19 = .ok (.goto (-14), 3) := by decide +kernel
theorem dX4_power_22 : decode cX4_power 22 = .ok (.lload_n 2, 1) := by decide +kernel
theorem dX4_power_23 : decode cX4_power 23 = .ok (.lreturn, 1) := by decide +kernel
theorem dX4_partOfFraction_0 : decode cX4_partOfFraction 0 = .ok (.lload_n 0, 1) := by decide +kernel
theorem dX4_partOfFraction_1 : decode cX4_partOfFraction 1 = .ok (.lload_n 2, 1) := by decide +kernel
theorem dX4_partOfFraction_2 : decode cX4_partOfFraction 2 = .ok (.invokestatic 243, 3) := by decide +kernel
theorem dX4_partOfFraction_5 : decode cX4_partOfFraction 5 = .ok (.lstore 5, 2) := by decide +kernel
theorem dX4_partOfFraction_7 : decode cX4_partOfFraction 7 = .ok (.iload 4, 2) := by decide +kernel
theorem dX4_partOfFraction_9 : decode cX4_partOfFraction 9 = .ok (.ifCond .ne 7, 3) := by decide +kernel
theorem dX4_partOfFraction_12 : decode cX4_partOfFraction 12 = .ok (.lload_n 0, 1) := by decide +kernel
theorem dX4_partOfFraction_13 : decode cX4_partOfFraction 13 = .ok (.goto 4, 3) := by decide +kernel
theorem dX4_partOfFraction_16 : decode cX4_partOfFraction 16 = .ok (.lload_n 2, 1) := by decide +kernel
theorem dX4_partOfFraction_17 : decode cX4_partOfFraction 17 = .ok (.lstore 7, 2) := by decide +kernel
theorem dX4_partOfFraction_19 : decode cX4_partOfFraction 19 = .ok (.lload 5, 2) := by decide +kernel
theorem dX4_partOfFraction_21 : decode cX4_partOfFraction 21 = .ok (.lconst 0, 1) := by decide +kernel
theorem dX4_partOfFraction_22 : decode cX4_partOfFraction 22 = .ok (.lcmp, 1) := by decide +kernel
theorem dX4_partOfFraction_23 : decode cX4_partOfFraction 23 = .ok (.ifCond .le 11, 3) := by decide +kernel
theorem dX4_partOfFraction_26 : decode cX4_partOfFraction 26 = .ok (.lload 7, 2) := by decide +kernel
theorem dX4_partOfFraction_28 : decode cX4_partOfFraction 28 = .ok (.lload 5, 2) := by decide +kernel
theorem dX4_partOfFraction_30 : decode cX4_partOfFraction 30 = .ok (.ldiv, 1) := by decide +kernel
theorem dX4_partOfFraction_31 : decode cX4_partOfFraction 31 = .ok (.goto 5, 3) := by decide +kernel
theorem dX4_partOfFraction_34 : decode cX4_partOfFraction 34 = .ok (.lload 7, 2) := by decide +kernel
theorem dX4_partOfFraction_36 : decode cX4_partOfFraction 36 = .ok (.lreturn, 1) := by decide +kernel
theorem dX4_commonDivisor_0 : decode cX4_commonDivisor 0 = .ok (.lload_n 0, 1) := by decide +kernel
theorem dX4_commonDivisor_1 : decode cX4_commonDivisor 1 = .ok (.lstore 4, 2) := by decide +kernel
theorem dX4_commonDivisor_3 : decode cX4_commonDivisor 3 = .ok (.lload_n 2, 1) := by decide +kernel
theorem dX4_commonDivisor_4 : decode cX4_commonDivisor 4 = .ok (.lstore 6, 2) := by decide +kernel
theorem dX4_commonDivisor_6 : decode cX4_commonDivisor 6 = .ok (.iconst 0, 1) := by decide +kernel
theorem dX4_commonDivisor_7 : decode cX4_commonDivisor 7 = .ok (.istore 8, 2) := by decide +kernel
theorem dX4_commonDivisor_9 : decode cX4_commonDivisor 9 = .ok (.iload 8, 2) := by decide +kernel
theorem dX4_commonDivisor_11 : decode cX4_commonDivisor 11 = .ok (.bipush 100, 2) := by decide +kernel
theorem dX4_commonDivisor_13 : decode cX4_commonDivisor 13 = .ok (.if_icmp .ge 31, 3) := by decide +kernel
theorem dX4_commonDivisor_16 : decode cX4_commonDivisor 16 = .ok (.lload 6, 2) := by decide +kernel
theorem dX4_commonDivisor_18 : decode cX4_commonDivisor 18 = .ok (.lconst 0, 1) := by decide +kernel
theorem dX4_commonDivisor_19 : decode cX4_commonDivisor 19 = .ok (.lcmp, 1) := by decide +kernel
theorem dX4_commonDivisor_20 : decode cX4_commonDivisor 20 = .ok (.ifCond .eq 24, 3) := by decide +kernel
theorem dX4_commonDivisor_23 : decode cX4_commonDivisor 23 = .ok (.lload 4, 2) := by decide +kernel
theorem dX4_commonDivisor_25 : decode cX4_commonDivisor 25 = .ok (.lload 6, 2) := by decide +kernel
theorem dX4_commonDivisor_27 : decode cX4_commonDivisor 27 = .ok (.lrem, 1) := by decide +kernel
theorem dX4_commonDivisor_28 : decode cX4_commonDivisor 28 = .ok (.lstore 9, 2) := by decide +kernel
theorem dX4_commonDivisor_30 : decode cX4_commonDivisor 30 = .ok (.lload 6, 2) := by decide +kernel
theorem dX4_commonDivisor_32 : decode cX4_commonDivisor 32 = .ok (.lstore 4, 2) := by decide +kernel
theorem dX4_commonDivisor_34 : decode cX4_commonDivisor 34 = .ok (.lload 9, 2) := by decide +kernel
theorem dX4_commonDivisor_36 : decode cX4_commonDivisor 36 = .ok (.lstore 6, 2) := by decide +kernel
theorem dX4_commonDivisor_38 : decode cX4_commonDivisor 38 = .ok (.iinc 8 1, 3) := by decide +kernel
theorem dX4_commonDivisor_41 : decode cX4_commonDivisor 41 = .ok (.goto (-32), 3) := by decide +kernel
theorem dX4_commonDivisor_44 : decode cX4_commonDivisor 44 = .ok (.lload 4, 2) := by decide +kernel
theorem dX4_commonDivisor_46 : decode cX4_commonDivisor 46 = .ok (.lreturn, 1) := by decide +kernel
theorem dX4_see_0 : decode cX4_see 0 = .ok (.iload_n 1, 1) := by decide +kernel
theorem dX4_see_1 : decode cX4_see 1 = .ok (.iconst 0, 1) := by decide +kernel
theorem dX4_see_2 : decode cX4_see 2 = .ok (.bipush 40, 2) := by decide +kernel
theorem dX4_see_4 : decode cX4_see 4 = .ok (.invokestatic 54, 3) := by decide +kernel
theorem dX4_see_7 : decode cX4_see 7 = .ok (.ifCond .eq 23, 3) := by decide +kernel
theorem dX4_see_10 : decode cX4_see 10 = .ok (.aload_n 0, 1) := by decide +kernel
theorem dX4_see_11 : decode cX4_see 11 = .ok (.getfield 16, 3) := by decide +kernel
theorem dX4_see_14 : decode cX4_see 14 = .ok (.iload_n 2, 1) := by decide +kernel
theorem dX4_see_15 : decode cX4_see 15 = .ok (.invokevirtual 101, 3) := by decide +kernel
theorem dX4_see_18 : decode cX4_see 18 = .ok (.ifCond .eq 12, 3) := by decide +kernel
theorem dX4_see_21 : decode cX4_see 21 = .ok (.iload_n 3, 1) := by decide +kernel
theorem dX4_see_22 : decode cX4_see 22 = .ok (.iconst 0, 1) := by decide +kernel
theorem dX4_see_23 : decode cX4_see 23 = .ok (.iconst 1, 1) := by decide +kernel
theorem dX4_see_24 : decode cX4_see 24 = .ok (.invokestatic 54, 3) := by decide +kernel
theorem dX4_see_27 : decode cX4_see 27 = .ok (.ifCond .ne 5, 3) := by decide +kernel
theorem dX4_see_30 : decode cX4_see 30 = .ok (.iconst (-1), 1) := by decide +kernel
theorem dX4_see_31 : decode cX4_see 31 = .ok (.ireturn, 1) := by decide +kernel
theorem dX4_see_32 : decode cX4_see 32 = .ok (.aload_n 0, 1) := by decide +kernel
theorem dX4_see_33 : decode cX4_see 33 = .ok (.getfield 16, 3) := by decide +kernel
theorem dX4_see_36 : decode cX4_see 36 = .ok (.getfield 247, 3) := by decide +kernel
theorem dX4_see_39 : decode cX4_see 39 = .ok (.bipush 6, 2) := by decide +kernel
theorem dX4_see_41 : decode cX4_see 41 = .ok (.if_icmp .lt 6, 3) := by decide +kernel
theorem dX4_see_44 : decode cX4_see 44 = .ok (.bipush (-3), 2) := by decide +kernel
theorem dX4_see_46 : decode cX4_see 46 = .ok (.ireturn, 1) := by decide +kernel
theorem dX4_see_47 : decode cX4_see 47 = .ok (.aload_n 0, 1) := by decide +kernel
theorem dX4_see_48 : decode cX4_see 48 = .ok (.getfield 16, 3) := by decide +kernel
theorem dX4_see_51 : decode cX4_see 51 = .ok (.iload_n 1, 1) := by decide +kernel
theorem dX4_see_52 : decode cX4_see 52 = .ok (.iload_n 2, 1) := by decide +kernel
theorem dX4_see_53 : decode cX4_see 53 = .ok (.iload_n 3, 1) := by decide +kernel
theorem dX4_see_54 : decode cX4_see 54 = .ok (.invokevirtual 250, 3) := by decide +kernel
theorem dX4_see_57 : decode cX4_see 57 = .ok (.aload_n 0, 1) := by decide +kernel
theorem dX4_see_58 : decode cX4_see 58 = .ok (.getfield 16, 3) := by decide +kernel
theorem dX4_see_61 : decode cX4_see 61 = .ok (.getfield 247, 3) := by decide +kernel
theorem dX4_see_64 : decode cX4_see 64 = .ok (.ireturn, 1) := by decide +kernel
theorem dX4_forget_0 : decode cX4_forget 0 = .ok (.iload_n 1, 1) := by decide +kernel
theorem dX4_forget_1 : decode cX4_forget 1 = .ok (.iconst 0, 1) := by decide +kernel
theorem dX4_forget_2 : decode cX4_forget 2 = .ok (.aload_n 0, 1) := by decide +kernel
theorem dX4_forget_3 : decode cX4_forget 3 = .ok (.getfield 16, 3) := by decide +kernel
theorem dX4_forget_6 : decode cX4_forget 6 = .ok (.getfield 247, 3) := by decide +kernel
theorem dX4_forget_9 : decode cX4_forget 9 = .ok (.invokestatic 54, 3) := by decide +kernel
theorem dX4_forget_12 : decode cX4_forget 12 = .ok (.ifCond .ne 5, 3) := by decide +kernel
theorem dX4_forget_15 : decode cX4_forget 15 = .ok (.iconst (-1), 1) := by decide +kernel
theorem dX4_forget_16 : decode cX4_forget 16 = .ok (.ireturn, 1) := by decide +kernel
theorem dX4_forget_17 : decode cX4_forget 17 = .ok (.aload_n 0, 1) := by decide +kernel
theorem dX4_forget_18 : decode cX4_forget 18 = .ok (.getfield 16, 3) := by decide +kernel
theorem dX4_forget_21 : decode cX4_forget 21 = .ok (.getfield 247, 3) := by decide +kernel
theorem dX4_forget_24 : decode cX4_forget 24 = .ok (.istore_n 2, 1) := by decide +kernel
theorem dX4_forget_25 : decode cX4_forget 25 = .ok (.aload_n 0, 1) := by decide +kernel
theorem dX4_forget_26 : decode cX4_forget 26 = .ok (.getfield 16, 3) := by decide +kernel
theorem dX4_forget_29 : decode cX4_forget 29 = .ok (.iload_n 1, 1) := by decide +kernel
theorem dX4_forget_30 : decode cX4_forget 30 = .ok (.putfield 247, 3) := by decide +kernel
theorem dX4_forget_33 : decode cX4_forget 33 = .ok (.iload_n 2, 1) := by decide +kernel
theorem dX4_forget_34 : decode cX4_forget 34 = .ok (.ireturn, 1) := by decide +kernel
theorem dX4_kinds_0 : decode cX4_kinds 0 = .ok (.aload_n 0, 1) := by decide +kernel
theorem dX4_kinds_1 : decode cX4_kinds 1 = .ok (.getfield 16, 3) := by decide +kernel
theorem dX4_kinds_4 : decode cX4_kinds 4 = .ok (.iload_n 1, 1) := by decide +kernel
theorem dX4_kinds_5 : decode cX4_kinds 5 = .ok (.invokevirtual 101, 3) := by decide +kernel
theorem dX4_kinds_8 : decode cX4_kinds 8 = .ok (.ifCond .eq 12, 3) := by decide +kernel
theorem dX4_kinds_11 : decode cX4_kinds 11 = .ok (.aload_n 0, 1) := by decide +kernel
theorem dX4_kinds_12 : decode cX4_kinds 12 = .ok (.iload_n 1, 1) := by decide +kernel
theorem dX4_kinds_13 : decode cX4_kinds 13 = .ok (.iconst 1, 1) := by decide +kernel
theorem dX4_kinds_14 : decode cX4_kinds 14 = .ok (.invokevirtual 253, 3) := by decide +kernel
theorem dX4_kinds_17 : decode cX4_kinds 17 = .ok (.goto 4, 3) := by decide +kernel
theorem dX4_kinds_20 : decode cX4_kinds 20 = .ok (.iconst (-1), 1) := by decide +kernel
theorem dX4_kinds_21 : decode cX4_kinds 21 = .ok (.ireturn, 1) := by decide +kernel
theorem dX4_numbers_0 : decode cX4_numbers 0 = .ok (.aload_n 0, 1) := by decide +kernel
theorem dX4_numbers_1 : decode cX4_numbers 1 = .ok (.getfield 16, 3) := by decide +kernel
theorem dX4_numbers_4 : decode cX4_numbers 4 = .ok (.iload_n 1, 1) := by decide +kernel
theorem dX4_numbers_5 : decode cX4_numbers 5 = .ok (.invokevirtual 101, 3) := by decide +kernel
theorem dX4_numbers_8 : decode cX4_numbers 8 = .ok (.ifCond .eq 12, 3) := by decide +kernel
theorem dX4_numbers_11 : decode cX4_numbers 11 = .ok (.aload_n 0, 1) := by decide +kernel
theorem dX4_numbers_12 : decode cX4_numbers 12 = .ok (.iload_n 1, 1) := by decide +kernel
theorem dX4_numbers_13 : decode cX4_numbers 13 = .ok (.iconst 2, 1) := by decide +kernel
theorem dX4_numbers_14 : decode cX4_numbers 14 = .ok (.invokevirtual 253, 3) := by decide +kernel
theorem dX4_numbers_17 : decode cX4_numbers 17 = .ok (.goto 4, 3) := by decide +kernel
theorem dX4_numbers_20 : decode cX4_numbers 20 = .ok (.iconst (-1), 1) := by decide +kernel
theorem dX4_numbers_21 : decode cX4_numbers 21 = .ok (.ireturn, 1) := by decide +kernel
theorem dX4_bounces_0 : decode cX4_bounces 0 = .ok (.aload_n 0, 1) := by decide +kernel
theorem dX4_bounces_1 : decode cX4_bounces 1 = .ok (.getfield 16, 3) := by decide +kernel
theorem dX4_bounces_4 : decode cX4_bounces 4 = .ok (.iload_n 1, 1) := by decide +kernel
theorem dX4_bounces_5 : decode cX4_bounces 5 = .ok (.invokevirtual 101, 3) := by decide +kernel
theorem dX4_bounces_8 : decode cX4_bounces 8 = .ok (.ifCond .eq 12, 3) := by decide +kernel
theorem dX4_bounces_11 : decode cX4_bounces 11 = .ok (.aload_n 0, 1) := by decide +kernel
theorem dX4_bounces_12 : decode cX4_bounces 12 = .ok (.iload_n 1, 1) := by decide +kernel
theorem dX4_bounces_13 : decode cX4_bounces 13 = .ok (.iconst 0, 1) := by decide +kernel
theorem dX4_bounces_14 : decode cX4_bounces 14 = .ok (.invokevirtual 253, 3) := by decide +kernel
theorem dX4_bounces_17 : decode cX4_bounces 17 = .ok (.goto 4, 3) := by decide +kernel
theorem dX4_bounces_20 : decode cX4_bounces 20 = .ok (.iconst (-1), 1) := by decide +kernel
theorem dX4_bounces_21 : decode cX4_bounces 21 = .ok (.ireturn, 1) := by decide +kernel
theorem dX4_ask_0 : decode cX4_ask 0 = .ok (.aload_n 0, 1) := by decide +kernel
theorem dX4_ask_1 : decode cX4_ask 1 = .ok (.getfield 16, 3) := by decide +kernel
theorem dX4_ask_4 : decode cX4_ask 4 = .ok (.iload_n 1, 1) := by decide +kernel
theorem dX4_ask_5 : decode cX4_ask 5 = .ok (.invokevirtual 101, 3) := by decide +kernel
theorem dX4_ask_8 : decode cX4_ask 8 = .ok (.ifCond .eq 12, 3) := by decide +kernel
theorem dX4_ask_11 : decode cX4_ask 11 = .ok (.iload_n 2, 1) := by decide +kernel
theorem dX4_ask_12 : decode cX4_ask 12 = .ok (.iconst 0, 1) := by decide +kernel
theorem dX4_ask_13 : decode cX4_ask 13 = .ok (.iconst 1, 1) := by decide +kernel
theorem dX4_ask_14 : decode cX4_ask 14 = .ok (.invokestatic 54, 3) := by decide +kernel
theorem dX4_ask_17 : decode cX4_ask 17 = .ok (.ifCond .ne 5, 3) := by decide +kernel
theorem dX4_ask_20 : decode cX4_ask 20 = .ok (.iconst (-1), 1) := by decide +kernel
theorem dX4_ask_21 : decode cX4_ask 21 = .ok (.ireturn, 1) := by decide +kernel
theorem dX4_ask_22 : decode cX4_ask 22 = .ok (.aload_n 0, 1) := by decide +kernel
theorem dX4_ask_23 : decode cX4_ask 23 = .ok (.iload_n 1, 1) := by decide +kernel
theorem dX4_ask_24 : decode cX4_ask 24 = .ok (.iconst 2, 1) := by decide +kernel
theorem dX4_ask_25 : decode cX4_ask 25 = .ok (.invokevirtual 253, 3) := by decide +kernel
theorem dX4_ask_28 : decode cX4_ask 28 = .ok (.istore_n 3, 1) := by decide +kernel
theorem dX4_ask_29 : decode cX4_ask 29 = .ok (.iload_n 3, 1) := by decide +kernel
theorem dX4_ask_30 : decode cX4_ask 30 = .ok (.invokestatic 238, 3) := by decide +kernel
theorem dX4_ask_33 : decode cX4_ask 33 = .ok (.istore 4, 2) := by decide +kernel
theorem dX4_ask_35 : decode cX4_ask 35 = .ok (.aload_n 0, 1) := by decide +kernel
theorem dX4_ask_36 : decode cX4_ask 36 = .ok (.iload_n 1, 1) := by decide +kernel
theorem dX4_ask_37 : decode cX4_ask 37 = .ok (.iload_n 3, 1) := by decide +kernel
theorem dX4_ask_38 : decode cX4_ask 38 = .ok (.invokevirtual 256, 3) := by decide +kernel
theorem dX4_ask_41 : decode cX4_ask 41 = .ok (.bipush (-4), 2) := by decide +kernel
theorem dX4_ask_43 : decode cX4_ask 43 = .ok (.istore 5, 2) := by decide +kernel
theorem dX4_ask_45 : decode cX4_ask 45 = .ok (.iload 4, 2) := by decide +kernel
theorem dX4_ask_47 : decode cX4_ask 47 = .ok (.istore 6, 2) := by decide +kernel
theorem dX4_ask_49 : decode cX4_ask 49 = .ok (.iconst 0, 1) := by decide +kernel
theorem dX4_ask_50 : decode cX4_ask 50 = .ok (.istore 7, 2) := by decide +kernel
theorem dX4_ask_52 : decode cX4_ask 52 = .ok (.iload 7, 2) := by decide +kernel
theorem dX4_ask_54 : decode cX4_ask 54 = .ok (.bipush 40, 2) := by decide +kernel
theorem dX4_ask_56 : decode cX4_ask 56 = .ok (.if_icmp .gt 46, 3) := by decide +kernel
theorem dX4_ask_59 : decode cX4_ask 59 = .ok (.aload_n 0, 1) := by decide +kernel
theorem dX4_ask_60 : decode cX4_ask 60 = .ok (.getfield 51, 3) := by decide +kernel
theorem dX4_ask_63 : decode cX4_ask 63 = .ok (.iload 7, 2) := by decide +kernel
theorem dX4_ask_65 : decode cX4_ask 65 = .ok (.iaload, 1) := by decide +kernel
theorem dX4_ask_66 : decode cX4_ask 66 = .ok (.iload 4, 2) := by decide +kernel
theorem dX4_ask_68 : decode cX4_ask 68 = .ok (.aload_n 0, 1) := by decide +kernel
theorem dX4_ask_69 : decode cX4_ask 69 = .ok (.getfield 51, 3) := by decide +kernel
theorem dX4_ask_72 : decode cX4_ask 72 = .ok (.iload 7, 2) := by decide +kernel
theorem dX4_ask_74 : decode cX4_ask 74 = .ok (.iaload, 1) := by decide +kernel
theorem dX4_ask_75 : decode cX4_ask 75 = .ok (.isub, 1) := by decide +kernel
theorem dX4_ask_76 : decode cX4_ask 76 = .ok (.invokestatic 259, 3) := by decide +kernel
theorem dX4_ask_79 : decode cX4_ask 79 = .ok (.istore 8, 2) := by decide +kernel
theorem dX4_ask_81 : decode cX4_ask 81 = .ok (.iload 8, 2) := by decide +kernel
theorem dX4_ask_83 : decode cX4_ask 83 = .ok (.iload 6, 2) := by decide +kernel
theorem dX4_ask_85 : decode cX4_ask 85 = .ok (.if_icmp .ge 11, 3) := by decide +kernel
theorem dX4_ask_88 : decode cX4_ask 88 = .ok (.iload 8, 2) := by decide +kernel
theorem dX4_ask_90 : decode cX4_ask 90 = .ok (.istore 6, 2) := by decide +kernel
theorem dX4_ask_92 : decode cX4_ask 92 = .ok (.iload 7, 2) := by decide +kernel
theorem dX4_ask_94 : decode cX4_ask 94 = .ok (.istore 5, 2) := by decide +kernel
theorem dX4_ask_96 : decode cX4_ask 96 = .ok (.iinc 7 1, 3) := by decide +kernel
theorem dX4_ask_99 : decode cX4_ask 99 = .ok (.goto (-47), 3) := by decide +kernel
theorem dX4_ask_102 : decode cX4_ask 102 = .ok (.iload 5, 2) := by decide +kernel
theorem dX4_ask_104 : decode cX4_ask 104 = .ok (.bipush (-4), 2) := by decide +kernel
theorem dX4_ask_106 : decode cX4_ask 106 = .ok (.if_icmp .ne 6, 3) := by decide +kernel
theorem dX4_ask_109 : decode cX4_ask 109 = .ok (.bipush (-4), 2) := by decide +kernel
theorem dX4_ask_111 : decode cX4_ask 111 = .ok (.ireturn, 1) := by decide +kernel
theorem dX4_ask_112 : decode cX4_ask 112 = .ok (.iload_n 2, 1) := by decide +kernel
theorem dX4_ask_113 : decode cX4_ask 113 = .ok (.ifCond .ne 8, 3) := by decide +kernel
theorem dX4_ask_116 : decode cX4_ask 116 = .ok (.iload 5, 2) := by decide +kernel
theorem dX4_ask_118 : decode cX4_ask 118 = .ok (.goto 5, 3) := by decide +kernel
theorem dX4_ask_121 : decode cX4_ask 121 = .ok (.iload 6, 2) := by decide +kernel
theorem dX4_ask_123 : decode cX4_ask 123 = .ok (.ireturn, 1) := by decide +kernel
theorem dX4_fitting_0 : decode cX4_fitting 0 = .ok (.iconst 0, 1) := by decide +kernel
theorem dX4_fitting_1 : decode cX4_fitting 1 = .ok (.istore_n 3, 1) := by decide +kernel
theorem dX4_fitting_2 : decode cX4_fitting 2 = .ok (.iconst 0, 1) := by decide +kernel
theorem dX4_fitting_3 : decode cX4_fitting 3 = .ok (.istore 4, 2) := by decide +kernel
theorem dX4_fitting_5 : decode cX4_fitting 5 = .ok (.iload 4, 2) := by decide +kernel
theorem dX4_fitting_7 : decode cX4_fitting 7 = .ok (.bipush 9, 2) := by decide +kernel
theorem dX4_fitting_9 : decode cX4_fitting 9 = .ok (.if_icmp .gt 39, 3) := by decide +kernel
theorem dX4_fitting_12 : decode cX4_fitting 12 = .ok (.iload_n 2, 1) := by decide +kernel
theorem dX4_fitting_13 : decode cX4_fitting 13 = .ok (.iload 4, 2) := by decide +kernel
theorem dX4_fitting_15 : decode cX4_fitting 15 = .ok (.invokestatic 139, 3) := by decide +kernel
theorem dX4_fitting_18 : decode cX4_fitting 18 = .ok (.ifCond .eq 24, 3) := by decide +kernel
theorem dX4_fitting_21 : decode cX4_fitting 21 = .ok (.aload_n 0, 1) := by decide +kernel
theorem dX4_fitting_22 : decode cX4_fitting 22 = .ok (.iload_n 1, 1) := by decide +kernel
theorem dX4_fitting_23 : decode cX4_fitting 23 = .ok (.iload_n 2, 1) := by decide +kernel
theorem dX4_fitting_24 : decode cX4_fitting 24 = .ok (.iload 4, 2) := by decide +kernel
theorem dX4_fitting_26 : decode cX4_fitting 26 = .ok (.invokevirtual 189, 3) := by decide +kernel
theorem dX4_fitting_29 : decode cX4_fitting 29 = .ok (.invokevirtual 262, 3) := by decide +kernel
theorem dX4_fitting_32 : decode cX4_fitting 32 = .ok (.ifCond .eq 10, 3) := by decide +kernel
theorem dX4_fitting_35 : decode cX4_fitting 35 = .ok (.iload_n 3, 1) := by decide +kernel
theorem dX4_fitting_36 : decode cX4_fitting 36 = .ok (.iconst 1, 1) := by decide +kernel
theorem dX4_fitting_37 : decode cX4_fitting 37 = .ok (.iload 4, 2) := by decide +kernel
theorem dX4_fitting_39 : decode cX4_fitting 39 = .ok (.ishl, 1) := by decide +kernel
theorem dX4_fitting_40 : decode cX4_fitting 40 = .ok (.ior, 1) := by decide +kernel
theorem dX4_fitting_41 : decode cX4_fitting 41 = .ok (.istore_n 3, 1) := by decide +kernel
theorem dX4_fitting_42 : decode cX4_fitting 42 = .ok (.iinc 4 1, 3) := by decide +kernel
theorem dX4_fitting_45 : decode cX4_fitting 45 = .ok (.goto (-40), 3) := by decide +kernel
theorem dX4_fitting_48 : decode cX4_fitting 48 = .ok (.iload_n 3, 1) := by decide +kernel
theorem dX4_fitting_49 : decode cX4_fitting 49 = .ok (.ireturn, 1) := by decide +kernel
theorem dX4_countSayers_0 : decode cX4_countSayers 0 = .ok (.iconst 0, 1) := by decide +kernel
theorem dX4_countSayers_1 : decode cX4_countSayers 1 = .ok (.istore_n 3, 1) := by decide +kernel
theorem dX4_countSayers_2 : decode cX4_countSayers 2 = .ok (.iload_n 3, 1) := by decide +kernel
theorem dX4_countSayers_3 : decode cX4_countSayers 3 = .ok (.bipush 40, 2) := by decide +kernel
theorem dX4_countSayers_5 : decode cX4_countSayers 5 = .ok (.if_icmp .gt 16, 3) := by decide +kernel
theorem dX4_countSayers_8 : decode cX4_countSayers 8 = .ok (.aload_n 0, 1) := by decide +kernel
theorem dX4_countSayers_9 : decode cX4_countSayers 9 = .ok (.getfield 51, 3) := by decide +kernel
theorem dX4_countSayers_12 : decode cX4_countSayers 12 = .ok (.iload_n 3, 1) := by decide +kernel
theorem dX4_countSayers_13 : decode cX4_countSayers 13 = .ok (.iconst 0, 1) := by decide +kernel
theorem dX4_countSayers_14 : decode cX4_countSayers 14 = .ok (.iastore, 1) := by decide +kernel
theorem dX4_countSayers_15 : decode cX4_countSayers 15 = .ok (.iinc 3 1, 3) := by decide +kernel
theorem dX4_countSayers_18 : decode cX4_countSayers 18 = .ok (.goto (-16), 3) := by decide +kernel
theorem dX4_countSayers_21 : decode cX4_countSayers 21 = .ok (.iconst 1, 1) := by decide +kernel
theorem dX4_countSayers_22 : decode cX4_countSayers 22 = .ok (.istore_n 3, 1) := by decide +kernel
theorem dX4_countSayers_23 : decode cX4_countSayers 23 = .ok (.iload_n 3, 1) := by decide +kernel
theorem dX4_countSayers_24 : decode cX4_countSayers 24 = .ok (.bipush 9, 2) := by decide +kernel
theorem dX4_countSayers_26 : decode cX4_countSayers 26 = .ok (.if_icmp .gt 30, 3) := by decide +kernel
theorem dX4_countSayers_29 : decode cX4_countSayers 29 = .ok (.iload_n 2, 1) := by decide +kernel
theorem dX4_countSayers_30 : decode cX4_countSayers 30 = .ok (.iload_n 3, 1) := by decide +kernel
theorem dX4_countSayers_31 : decode cX4_countSayers 31 = .ok (.ishr, 1) := by decide +kernel
theorem dX4_countSayers_32 : decode cX4_countSayers 32 = .ok (.iconst 1, 1) := by decide +kernel
theorem dX4_countSayers_33 : decode cX4_countSayers 33 = .ok (.iand, 1) := by decide +kernel
theorem dX4_countSayers_34 : decode cX4_countSayers 34 = .ok (.iconst 1, 1) := by decide +kernel
theorem dX4_countSayers_35 : decode cX4_countSayers 35 = .ok (.if_icmp .ne 15, 3) := by decide +kernel
theorem dX4_countSayers_38 : decode cX4_countSayers 38 = .ok (.aload_n 0, 1) := by decide +kernel
theorem dX4_countSayers_39 : decode cX4_countSayers 39 = .ok (.aload_n 0, 1) := by decide +kernel
theorem dX4_countSayers_40 : decode cX4_countSayers 40 = .ok (.iload_n 1, 1) := by decide +kernel
theorem dX4_countSayers_41 : decode cX4_countSayers 41 = .ok (.iconst 2, 1) := by decide +kernel
theorem dX4_countSayers_42 : decode cX4_countSayers 42 = .ok (.iload_n 3, 1) := by decide +kernel
theorem dX4_countSayers_43 : decode cX4_countSayers 43 = .ok (.invokevirtual 189, 3) := by decide +kernel
theorem dX4_countSayers_46 : decode cX4_countSayers 46 = .ok (.iload_n 1, 1) := by decide +kernel
theorem dX4_countSayers_47 : decode cX4_countSayers 47 = .ok (.invokevirtual 266, 3) := by decide +kernel
theorem dX4_countSayers_50 : decode cX4_countSayers 50 = .ok (.iinc 3 1, 3) := by decide +kernel
theorem dX4_countSayers_53 : decode cX4_countSayers 53 = .ok (.goto (-30), 3) := by decide +kernel
theorem dX4_countSayers_56 : decode cX4_countSayers 56 = .ok (.return_, 1) := by decide +kernel
theorem dX4_addSayings_0 : decode cX4_addSayings 0 = .ok (.iconst 0, 1) := by decide +kernel
theorem dX4_addSayings_1 : decode cX4_addSayings 1 = .ok (.istore_n 3, 1) := by decide +kernel
theorem dX4_addSayings_2 : decode cX4_addSayings 2 = .ok (.iload_n 3, 1) := by decide +kernel
theorem dX4_addSayings_3 : decode cX4_addSayings 3 = .ok (.bipush 40, 2) := by decide +kernel
theorem dX4_addSayings_5 : decode cX4_addSayings 5 = .ok (.if_icmp .gt 32, 3) := by decide +kernel
theorem dX4_addSayings_8 : decode cX4_addSayings 8 = .ok (.aload_n 0, 1) := by decide +kernel
theorem dX4_addSayings_9 : decode cX4_addSayings 9 = .ok (.getfield 51, 3) := by decide +kernel
theorem dX4_addSayings_12 : decode cX4_addSayings 12 = .ok (.iload_n 3, 1) := by decide +kernel
theorem dX4_addSayings_13 : decode cX4_addSayings 13 = .ok (.dup2, 1) := by decide +kernel
theorem dX4_addSayings_14 : decode cX4_addSayings 14 = .ok (.iaload, 1) := by decide +kernel
theorem dX4_addSayings_15 : decode cX4_addSayings 15 = .ok (.aload_n 1, 1) := by decide +kernel
theorem dX4_addSayings_16 : decode cX4_addSayings 16 = .ok (.getfield 105, 3) := by decide +kernel
theorem dX4_addSayings_19 : decode cX4_addSayings 19 = .ok (.iload_n 2, 1) := by decide +kernel
theorem dX4_addSayings_20 : decode cX4_addSayings 20 = .ok (.aaload, 1) := by decide +kernel
theorem dX4_addSayings_21 : decode cX4_addSayings 21 = .ok (.getfield 114, 3) := by decide +kernel
theorem dX4_addSayings_24 : decode cX4_addSayings 24 = .ok (.iadd, 1) := by decide +kernel
theorem dX4_addSayings_25 : decode cX4_addSayings 25 = .ok (.iastore, 1) := by decide +kernel
theorem dX4_addSayings_26 : decode cX4_addSayings 26 = .ok (.aload_n 1, 1) := by decide +kernel
theorem dX4_addSayings_27 : decode cX4_addSayings 27 = .ok (.iconst 1, 1) := by decide +kernel
theorem dX4_addSayings_28 : decode cX4_addSayings 28 = .ok (.invokevirtual 158, 3) := by decide +kernel
theorem dX4_addSayings_31 : decode cX4_addSayings 31 = .ok (.iinc 3 1, 3) := by decide +kernel
theorem dX4_addSayings_34 : decode cX4_addSayings 34 = .ok (.goto (-32), 3) := by decide +kernel
theorem dX4_addSayings_37 : decode cX4_addSayings 37 = .ok (.return_, 1) := by decide +kernel
theorem dX4_drift_0 : decode cX4_drift 0 = .ok (.iload_n 2, 1) := by decide +kernel
theorem dX4_drift_1 : decode cX4_drift 1 = .ok (.iconst 1, 1) := by decide +kernel
theorem dX4_drift_2 : decode cX4_drift 2 = .ok (.sipush 200, 3) := by decide +kernel
theorem dX4_drift_5 : decode cX4_drift 5 = .ok (.invokestatic 54, 3) := by decide +kernel
theorem dX4_drift_8 : decode cX4_drift 8 = .ok (.ifCond .eq 12, 3) := by decide +kernel
theorem dX4_drift_11 : decode cX4_drift 11 = .ok (.iload_n 3, 1) := by decide +kernel
theorem dX4_drift_12 : decode cX4_drift 12 = .ok (.iconst 0, 1) := by decide +kernel
theorem dX4_drift_13 : decode cX4_drift 13 = .ok (.iconst 1, 1) := by decide +kernel
theorem dX4_drift_14 : decode cX4_drift 14 = .ok (.invokestatic 54, 3) := by decide +kernel
theorem dX4_drift_17 : decode cX4_drift 17 = .ok (.ifCond .ne 5, 3) := by decide +kernel
theorem dX4_drift_20 : decode cX4_drift 20 = .ok (.iconst (-1), 1) := by decide +kernel
theorem dX4_drift_21 : decode cX4_drift 21 = .ok (.ireturn, 1) := by decide +kernel
theorem dX4_drift_22 : decode cX4_drift 22 = .ok (.aload_n 0, 1) := by decide +kernel
theorem dX4_drift_23 : decode cX4_drift 23 = .ok (.getfield 16, 3) := by decide +kernel
theorem dX4_drift_26 : decode cX4_drift 26 = .ok (.getfield 79, 3) := by decide +kernel
theorem dX4_drift_29 : decode cX4_drift 29 = .ok (.ifCond .ne 6, 3) := by decide +kernel
theorem dX4_drift_32 : decode cX4_drift 32 = .ok (.bipush (-2), 2) := by decide +kernel
theorem dX4_drift_34 : decode cX4_drift 34 = .ok (.ireturn, 1) := by decide +kernel
theorem dX4_drift_35 : decode cX4_drift 35 = .ok (.aload_n 0, 1) := by decide +kernel
theorem dX4_drift_36 : decode cX4_drift 36 = .ok (.invokevirtual 168, 3) := by decide +kernel
theorem dX4_drift_39 : decode cX4_drift 39 = .ok (.astore 4, 2) := by decide +kernel
theorem dX4_drift_41 : decode cX4_drift 41 = .ok (.iload_n 1, 1) := by decide +kernel
theorem dX4_drift_42 : decode cX4_drift 42 = .ok (.istore 5, 2) := by decide +kernel
theorem dX4_drift_44 : decode cX4_drift 44 = .ok (.iconst 0, 1) := by decide +kernel
theorem dX4_drift_45 : decode cX4_drift 45 = .ok (.istore 6, 2) := by decide +kernel
theorem dX4_drift_47 : decode cX4_drift 47 = .ok (.iload 6, 2) := by decide +kernel
theorem dX4_drift_49 : decode cX4_drift 49 = .ok (.iload_n 2, 1) := by decide +kernel
theorem dX4_drift_50 : decode cX4_drift 50 = .ok (.if_icmp .ge 35, 3) := by decide +kernel
theorem dX4_drift_53 : decode cX4_drift 53 = .ok (.iload 5, 2) := by decide +kernel
theorem dX4_drift_55 : decode cX4_drift 55 = .ok (.ldc_w 270, 3) := by decide +kernel
theorem dX4_drift_58 : decode cX4_drift 58 = .ok (.imul, 1) := by decide +kernel
theorem dX4_drift_59 : decode cX4_drift 59 = .ok (.sipush 12345, 3) := by decide +kernel
theorem dX4_drift_62 : decode cX4_drift 62 = .ok (.iadd, 1) := by decide +kernel
theorem dX4_drift_63 : decode cX4_drift 63 = .ok (.istore 5, 2) := by decide +kernel
theorem dX4_drift_65 : decode cX4_drift 65 = .ok (.aload 4, 2) := by decide +kernel
theorem dX4_drift_67 : decode cX4_drift 67 = .ok (.iload 5, 2) := by decide +kernel
theorem dX4_drift_69 : decode cX4_drift 69 = .ok (.bipush 16, 2) := by decide +kernel
theorem dX4_drift_71 : decode cX4_drift 71 = .ok (.ishr, 1) := by decide +kernel
theorem dX4_drift_72 : decode cX4_drift 72 = .ok (.sipush 32767, 3) := by decide +kernel
theorem dX4_drift_75 : decode cX4_drift 75 = .ok (.iand, 1) := by decide +kernel
theorem dX4_drift_76 : decode cX4_drift 76 = .ok (.invokevirtual 235, 3) := by decide +kernel
theorem dX4_drift_79 : decode cX4_drift 79 = .ok (.iinc 6 1, 3) := by decide +kernel
theorem dX4_drift_82 : decode cX4_drift 82 = .ok (.goto (-35), 3) := by decide +kernel
theorem dX4_drift_85 : decode cX4_drift 85 = .ok (.iload_n 3, 1) := by decide +kernel
theorem dX4_drift_86 : decode cX4_drift 86 = .ok (.ifCond .ne 11, 3) := by decide +kernel
theorem dX4_drift_89 : decode cX4_drift 89 = .ok (.aload 4, 2) := by decide +kernel
theorem dX4_drift_91 : decode cX4_drift 91 = .ok (.invokevirtual 162, 3) := by decide +kernel
theorem dX4_drift_94 : decode cX4_drift 94 = .ok (.goto 8, 3) := by decide +kernel
theorem dX4_drift_97 : decode cX4_drift 97 = .ok (.aload 4, 2) := by decide +kernel
theorem dX4_drift_99 : decode cX4_drift 99 = .ok (.invokevirtual 91, 3) := by decide +kernel
theorem dX4_drift_102 : decode cX4_drift 102 = .ok (.ireturn, 1) := by decide +kernel
theorem dX4_keep_0 : decode cX4_keep 0 = .ok (.iload_n 1, 1) := by decide +kernel
theorem dX4_keep_1 : decode cX4_keep 1 = .ok (.iconst 0, 1) := by decide +kernel
theorem dX4_keep_2 : decode cX4_keep 2 = .ok (.iconst 1, 1) := by decide +kernel
theorem dX4_keep_3 : decode cX4_keep 3 = .ok (.invokestatic 54, 3) := by decide +kernel
theorem dX4_keep_6 : decode cX4_keep 6 = .ok (.ifCond .ne 5, 3) := by decide +kernel
theorem dX4_keep_9 : decode cX4_keep 9 = .ok (.iconst (-1), 1) := by decide +kernel
theorem dX4_keep_10 : decode cX4_keep 10 = .ok (.ireturn, 1) := by decide +kernel
theorem dX4_keep_11 : decode cX4_keep 11 = .ok (.aload_n 0, 1) := by decide +kernel
theorem dX4_keep_12 : decode cX4_keep 12 = .ok (.getfield 27, 3) := by decide +kernel
theorem dX4_keep_15 : decode cX4_keep 15 = .ok (.iload_n 1, 1) := by decide +kernel
theorem dX4_keep_16 : decode cX4_keep 16 = .ok (.baload, 1) := by decide +kernel
theorem dX4_keep_17 : decode cX4_keep 17 = .ok (.ifCond .eq 7, 3) := by decide +kernel
theorem dX4_keep_20 : decode cX4_keep 20 = .ok (.iconst 1, 1) := by decide +kernel
theorem dX4_keep_21 : decode cX4_keep 21 = .ok (.goto 4, 3) := by decide +kernel
theorem dX4_keep_24 : decode cX4_keep 24 = .ok (.iconst 0, 1) := by decide +kernel
theorem dX4_keep_25 : decode cX4_keep 25 = .ok (.istore_n 2, 1) := by decide +kernel
theorem dX4_keep_26 : decode cX4_keep 26 = .ok (.aload_n 0, 1) := by decide +kernel
theorem dX4_keep_27 : decode cX4_keep 27 = .ok (.getfield 23, 3) := by decide +kernel
theorem dX4_keep_30 : decode cX4_keep 30 = .ok (.iload_n 1, 1) := by decide +kernel
theorem dX4_keep_31 : decode cX4_keep 31 = .ok (.aaload, 1) := by decide +kernel
theorem dX4_keep_32 : decode cX4_keep 32 = .ok (.aload_n 0, 1) := by decide +kernel
theorem dX4_keep_33 : decode cX4_keep 33 = .ok (.getfield 16, 3) := by decide +kernel
theorem dX4_keep_36 : decode cX4_keep 36 = .ok (.invokevirtual 75, 3) := by decide +kernel
theorem dX4_keep_39 : decode cX4_keep 39 = .ok (.aload_n 0, 1) := by decide +kernel
theorem dX4_keep_40 : decode cX4_keep 40 = .ok (.getfield 27, 3) := by decide +kernel
theorem dX4_keep_43 : decode cX4_keep 43 = .ok (.iload_n 1, 1) := by decide +kernel
theorem dX4_keep_44 : decode cX4_keep 44 = .ok (.iconst 1, 1) := by decide +kernel
theorem dX4_keep_45 : decode cX4_keep 45 = .ok (.bastore, 1) := by decide +kernel
theorem dX4_keep_46 : decode cX4_keep 46 = .ok (.iload_n 2, 1) := by decide +kernel
theorem dX4_keep_47 : decode cX4_keep 47 = .ok (.ireturn, 1) := by decide +kernel
theorem dX4_back_0 : decode cX4_back 0 = .ok (.iload_n 1, 1) := by decide +kernel
theorem dX4_back_1 : decode cX4_back 1 = .ok (.iconst 0, 1) := by decide +kernel
theorem dX4_back_2 : decode cX4_back 2 = .ok (.iconst 1, 1) := by decide +kernel
theorem dX4_back_3 : decode cX4_back 3 = .ok (.invokestatic 54, 3) := by decide +kernel
theorem dX4_back_6 : decode cX4_back 6 = .ok (.ifCond .ne 5, 3) := by decide +kernel
theorem dX4_back_9 : decode cX4_back 9 = .ok (.iconst (-1), 1) := by decide +kernel
theorem dX4_back_10 : decode cX4_back 10 = .ok (.ireturn, 1) := by decide +kernel
theorem dX4_back_11 : decode cX4_back 11 = .ok (.aload_n 0, 1) := by decide +kernel
theorem dX4_back_12 : decode cX4_back 12 = .ok (.getfield 27, 3) := by decide +kernel
theorem dX4_back_15 : decode cX4_back 15 = .ok (.iload_n 1, 1) := by decide +kernel
theorem dX4_back_16 : decode cX4_back 16 = .ok (.baload, 1) := by decide +kernel
theorem dX4_back_17 : decode cX4_back 17 = .ok (.ifCond .ne 6, 3) := by decide +kernel
theorem dX4_back_20 : decode cX4_back 20 = .ok (.bipush (-2), 2) := by decide +kernel
theorem dX4_back_22 : decode cX4_back 22 = .ok (.ireturn, 1) := by decide +kernel
theorem dX4_back_23 : decode cX4_back 23 = .ok (.aload_n 0, 1) := by decide +kernel
theorem dX4_back_24 : decode cX4_back 24 = .ok (.getfield 16, 3) := by decide +kernel
theorem dX4_back_27 : decode cX4_back 27 = .ok (.aload_n 0, 1) := by decide +kernel
theorem dX4_back_28 : decode cX4_back 28 = .ok (.getfield 23, 3) := by decide +kernel
theorem dX4_back_31 : decode cX4_back 31 = .ok (.iload_n 1, 1) := by decide +kernel
theorem dX4_back_32 : decode cX4_back 32 = .ok (.aaload, 1) := by decide +kernel
theorem dX4_back_33 : decode cX4_back 33 = .ok (.invokevirtual 75, 3) := by decide +kernel
theorem dX4_back_36 : decode cX4_back 36 = .ok (.aload_n 0, 1) := by decide +kernel
theorem dX4_back_37 : decode cX4_back 37 = .ok (.getfield 16, 3) := by decide +kernel
theorem dX4_back_40 : decode cX4_back 40 = .ok (.getfield 85, 3) := by decide +kernel
theorem dX4_back_43 : decode cX4_back 43 = .ok (.ireturn, 1) := by decide +kernel
theorem dX4_sheet_0 : decode cX4_sheet 0 = .ok (.iload_n 1, 1) := by decide +kernel
theorem dX4_sheet_1 : decode cX4_sheet 1 = .ok (.invokestatic 271, 3) := by decide +kernel
theorem dX4_sheet_4 : decode cX4_sheet 4 = .ok (.ifCond .eq 16, 3) := by decide +kernel
theorem dX4_sheet_7 : decode cX4_sheet 7 = .ok (.iload_n 2, 1) := by decide +kernel
theorem dX4_sheet_8 : decode cX4_sheet 8 = .ok (.invokestatic 274, 3) := by decide +kernel
theorem dX4_sheet_11 : decode cX4_sheet 11 = .ok (.ifCond .eq 9, 3) := by decide +kernel
theorem dX4_sheet_14 : decode cX4_sheet 14 = .ok (.iload_n 3, 1) := by decide +kernel
theorem dX4_sheet_15 : decode cX4_sheet 15 = .ok (.bipush 40, 2) := by decide +kernel
theorem dX4_sheet_17 : decode cX4_sheet 17 = .ok (.if_icmp .le 5, 3) := by decide +kernel
theorem dX4_sheet_20 : decode cX4_sheet 20 = .ok (.iconst (-1), 1) := by decide +kernel
theorem dX4_sheet_21 : decode cX4_sheet 21 = .ok (.ireturn, 1) := by decide +kernel
theorem dX4_sheet_22 : decode cX4_sheet 22 = .ok (.iload_n 3, 1) := by decide +kernel
theorem dX4_sheet_23 : decode cX4_sheet 23 = .ok (.ifCond .ge 6, 3) := by decide +kernel
theorem dX4_sheet_26 : decode cX4_sheet 26 = .ok (.bipush (-14), 2) := by decide +kernel
theorem dX4_sheet_28 : decode cX4_sheet 28 = .ok (.ireturn, 1) := by decide +kernel
theorem dX4_sheet_29 : decode cX4_sheet 29 = .ok (.aload_n 0, 1) := by decide +kernel
theorem dX4_sheet_30 : decode cX4_sheet 30 = .ok (.getfield 33, 3) := by decide +kernel
theorem dX4_sheet_33 : decode cX4_sheet 33 = .ok (.iload_n 1, 1) := by decide +kernel
theorem dX4_sheet_34 : decode cX4_sheet 34 = .ok (.aaload, 1) := by decide +kernel
theorem dX4_sheet_35 : decode cX4_sheet 35 = .ok (.iload_n 2, 1) := by decide +kernel
theorem dX4_sheet_36 : decode cX4_sheet 36 = .ok (.iload_n 3, 1) := by decide +kernel
theorem dX4_sheet_37 : decode cX4_sheet 37 = .ok (.invokevirtual 277, 3) := by decide +kernel
theorem dX4_sheet_40 : decode cX4_sheet 40 = .ok (.iconst 1, 1) := by decide +kernel
theorem dX4_sheet_41 : decode cX4_sheet 41 = .ok (.ireturn, 1) := by decide +kernel
theorem dX4_lay_0 : decode cX4_lay 0 = .ok (.iload_n 1, 1) := by decide +kernel
theorem dX4_lay_1 : decode cX4_lay 1 = .ok (.invokestatic 271, 3) := by decide +kernel
theorem dX4_lay_4 : decode cX4_lay 4 = .ok (.ifCond .ne 5, 3) := by decide +kernel
theorem dX4_lay_7 : decode cX4_lay 7 = .ok (.iconst (-1), 1) := by decide +kernel
theorem dX4_lay_8 : decode cX4_lay 8 = .ok (.ireturn, 1) := by decide +kernel
theorem dX4_lay_9 : decode cX4_lay 9 = .ok (.aload_n 0, 1) := by decide +kernel
theorem dX4_lay_10 : decode cX4_lay 10 = .ok (.getfield 33, 3) := by decide +kernel
theorem dX4_lay_13 : decode cX4_lay 13 = .ok (.iload_n 1, 1) := by decide +kernel
theorem dX4_lay_14 : decode cX4_lay 14 = .ok (.aaload, 1) := by decide +kernel
theorem dX4_lay_15 : decode cX4_lay 15 = .ok (.iload_n 2, 1) := by decide +kernel
theorem dX4_lay_16 : decode cX4_lay 16 = .ok (.invokevirtual 280, 3) := by decide +kernel
theorem dX4_lay_19 : decode cX4_lay 19 = .ok (.istore 4, 2) := by decide +kernel
theorem dX4_lay_21 : decode cX4_lay 21 = .ok (.iload 4, 2) := by decide +kernel
theorem dX4_lay_23 : decode cX4_lay 23 = .ok (.ifCond .eq 9, 3) := by decide +kernel
theorem dX4_lay_26 : decode cX4_lay 26 = .ok (.bipush (-10), 2) := by decide +kernel
theorem dX4_lay_28 : decode cX4_lay 28 = .ok (.iload 4, 2) := by decide +kernel
theorem dX4_lay_30 : decode cX4_lay 30 = .ok (.isub, 1) := by decide +kernel
theorem dX4_lay_31 : decode cX4_lay 31 = .ok (.ireturn, 1) := by decide +kernel
theorem dX4_lay_32 : decode cX4_lay 32 = .ok (.aload_n 0, 1) := by decide +kernel
theorem dX4_lay_33 : decode cX4_lay 33 = .ok (.getfield 33, 3) := by decide +kernel
theorem dX4_lay_36 : decode cX4_lay 36 = .ok (.iload_n 1, 1) := by decide +kernel
theorem dX4_lay_37 : decode cX4_lay 37 = .ok (.aaload, 1) := by decide +kernel
theorem dX4_lay_38 : decode cX4_lay 38 = .ok (.iload_n 2, 1) := by decide +kernel
theorem dX4_lay_39 : decode cX4_lay 39 = .ok (.iload_n 3, 1) := by decide +kernel
theorem dX4_lay_40 : decode cX4_lay 40 = .ok (.invokevirtual 283, 3) := by decide +kernel
theorem dX4_lay_43 : decode cX4_lay 43 = .ok (.iconst 1, 1) := by decide +kernel
theorem dX4_lay_44 : decode cX4_lay 44 = .ok (.ireturn, 1) := by decide +kernel
theorem dX4_read_0 : decode cX4_read 0 = .ok (.iload_n 1, 1) := by decide +kernel
theorem dX4_read_1 : decode cX4_read 1 = .ok (.invokestatic 271, 3) := by decide +kernel
theorem dX4_read_4 : decode cX4_read 4 = .ok (.ifCond .eq 21, 3) := by decide +kernel
theorem dX4_read_7 : decode cX4_read 7 = .ok (.iload_n 2, 1) := by decide +kernel
theorem dX4_read_8 : decode cX4_read 8 = .ok (.invokestatic 274, 3) := by decide +kernel
theorem dX4_read_11 : decode cX4_read 11 = .ok (.ifCond .eq 14, 3) := by decide +kernel
theorem dX4_read_14 : decode cX4_read 14 = .ok (.iload 4, 2) := by decide +kernel
theorem dX4_read_16 : decode cX4_read 16 = .ok (.iconst 0, 1) := by decide +kernel
theorem dX4_read_17 : decode cX4_read 17 = .ok (.bipush 13, 2) := by decide +kernel
theorem dX4_read_19 : decode cX4_read 19 = .ok (.invokestatic 54, 3) := by decide +kernel
theorem dX4_read_22 : decode cX4_read 22 = .ok (.ifCond .ne 5, 3) := by decide +kernel
theorem dX4_read_25 : decode cX4_read 25 = .ok (.iconst (-1), 1) := by decide +kernel
theorem dX4_read_26 : decode cX4_read 26 = .ok (.ireturn, 1) := by decide +kernel
theorem dX4_read_27 : decode cX4_read 27 = .ok (.aload_n 0, 1) := by decide +kernel
theorem dX4_read_28 : decode cX4_read 28 = .ok (.getfield 33, 3) := by decide +kernel
theorem dX4_read_31 : decode cX4_read 31 = .ok (.iload_n 1, 1) := by decide +kernel
theorem dX4_read_32 : decode cX4_read 32 = .ok (.aaload, 1) := by decide +kernel
theorem dX4_read_33 : decode cX4_read 33 = .ok (.astore 5, 2) := by decide +kernel
theorem dX4_read_35 : decode cX4_read 35 = .ok (.aload_n 0, 1) := by decide +kernel
theorem dX4_read_36 : decode cX4_read 36 = .ok (.getfield 16, 3) := by decide +kernel
theorem dX4_read_39 : decode cX4_read 39 = .ok (.getfield 82, 3) := by decide +kernel
theorem dX4_read_42 : decode cX4_read 42 = .ok (.istore 6, 2) := by decide +kernel
theorem dX4_read_44 : decode cX4_read 44 = .ok (.iconst 0, 1) := by decide +kernel
theorem dX4_read_45 : decode cX4_read 45 = .ok (.istore 7, 2) := by decide +kernel
theorem dX4_read_47 : decode cX4_read 47 = .ok (.iconst 0, 1) := by decide +kernel
theorem dX4_read_48 : decode cX4_read 48 = .ok (.istore 8, 2) := by decide +kernel
theorem dX4_read_50 : decode cX4_read 50 = .ok (.iconst 0, 1) := by decide +kernel
theorem dX4_read_51 : decode cX4_read 51 = .ok (.istore 9, 2) := by decide +kernel
theorem dX4_read_53 : decode cX4_read 53 = .ok (.iload 9, 2) := by decide +kernel
theorem dX4_read_55 : decode cX4_read 55 = .ok (.iload 4, 2) := by decide +kernel
theorem dX4_read_57 : decode cX4_read 57 = .ok (.if_icmp .ge 87, 3) := by decide +kernel
theorem dX4_read_60 : decode cX4_read 60 = .ok (.iload 7, 2) := by decide +kernel
theorem dX4_read_62 : decode cX4_read 62 = .ok (.ifCond .ne 82, 3) := by decide +kernel
theorem dX4_read_65 : decode cX4_read 65 = .ok (.iload_n 3, 1) := by decide +kernel
theorem dX4_read_66 : decode cX4_read 66 = .ok (.iconst 3, 1) := by decide +kernel
theorem dX4_read_67 : decode cX4_read 67 = .ok (.iload 9, 2) := by decide +kernel
theorem dX4_read_69 : decode cX4_read 69 = .ok (.imul, 1) := by decide +kernel
theorem dX4_read_70 : decode cX4_read 70 = .ok (.iadd, 1) := by decide +kernel
theorem dX4_read_71 : decode cX4_read 71 = .ok (.istore 10, 2) := by decide +kernel
theorem dX4_read_73 : decode cX4_read 73 = .ok (.aload 5, 2) := by decide +kernel
theorem dX4_read_75 : decode cX4_read 75 = .ok (.iload_n 2, 1) := by decide +kernel
theorem dX4_read_76 : decode cX4_read 76 = .ok (.iload 10, 2) := by decide +kernel
theorem dX4_read_78 : decode cX4_read 78 = .ok (.invokevirtual 286, 3) := by decide +kernel
theorem dX4_read_81 : decode cX4_read 81 = .ok (.istore 7, 2) := by decide +kernel
theorem dX4_read_83 : decode cX4_read 83 = .ok (.iload 7, 2) := by decide +kernel
theorem dX4_read_85 : decode cX4_read 85 = .ok (.ifCond .ne 53, 3) := by decide +kernel
theorem dX4_read_88 : decode cX4_read 88 = .ok (.aload_n 0, 1) := by decide +kernel
theorem dX4_read_89 : decode cX4_read 89 = .ok (.aload 5, 2) := by decide +kernel
theorem dX4_read_91 : decode cX4_read 91 = .ok (.iload 10, 2) := by decide +kernel
theorem dX4_read_93 : decode cX4_read 93 = .ok (.invokevirtual 289, 3) := by decide +kernel
theorem dX4_read_96 : decode cX4_read 96 = .ok (.aload 5, 2) := by decide +kernel
theorem dX4_read_98 : decode cX4_read 98 = .ok (.iload 10, 2) := by decide +kernel
theorem dX4_read_100 : decode cX4_read 100 = .ok (.iconst 1, 1) := by decide +kernel
theorem dX4_read_101 : decode cX4_read 101 = .ok (.iadd, 1) := by decide +kernel
theorem dX4_read_102 : decode cX4_read 102 = .ok (.invokevirtual 289, 3) := by decide +kernel
theorem dX4_read_105 : decode cX4_read 105 = .ok (.aload 5, 2) := by decide +kernel
theorem dX4_read_107 : decode cX4_read 107 = .ok (.iload 10, 2) := by decide +kernel
theorem dX4_read_109 : decode cX4_read 109 = .ok (.iconst 2, 1) := by decide +kernel
theorem dX4_read_110 : decode cX4_read 110 = .ok (.iadd, 1) := by decide +kernel
theorem dX4_read_111 : decode cX4_read 111 = .ok (.invokevirtual 289, 3) := by decide +kernel
theorem dX4_read_114 : decode cX4_read 114 = .ok (.invokevirtual 147, 3) := by decide +kernel
theorem dX4_read_117 : decode cX4_read 117 = .ok (.ifCond .ge 18, 3) := by decide +kernel
theorem dX4_read_120 : decode cX4_read 120 = .ok (.aload_n 0, 1) := by decide +kernel
theorem dX4_read_121 : decode cX4_read 121 = .ok (.getfield 16, 3) := by decide +kernel
theorem dX4_read_124 : decode cX4_read 124 = .ok (.iload 6, 2) := by decide +kernel
theorem dX4_read_126 : decode cX4_read 126 = .ok (.putfield 82, 3) := by decide +kernel
theorem dX4_read_129 : decode cX4_read 129 = .ok (.bipush (-20), 2) := by decide +kernel
theorem dX4_read_131 : decode cX4_read 131 = .ok (.iload 9, 2) := by decide +kernel
theorem dX4_read_133 : decode cX4_read 133 = .ok (.isub, 1) := by decide +kernel
theorem dX4_read_134 : decode cX4_read 134 = .ok (.ireturn, 1) := by decide +kernel
theorem dX4_read_135 : decode cX4_read 135 = .ok (.iinc 8 1, 3) := by decide +kernel
theorem dX4_read_138 : decode cX4_read 138 = .ok (.iinc 9 1, 3) := by decide +kernel
theorem dX4_read_141 : decode cX4_read 141 = .ok (.goto (-88), 3) := by decide +kernel
theorem dX4_read_144 : decode cX4_read 144 = .ok (.aload_n 0, 1) := by decide +kernel
theorem dX4_read_145 : decode cX4_read 145 = .ok (.iload 7, 2) := by decide +kernel
theorem dX4_read_147 : decode cX4_read 147 = .ok (.putfield 292, 3) := by decide +kernel
theorem dX4_read_150 : decode cX4_read 150 = .ok (.iload 8, 2) := by decide +kernel
theorem dX4_read_152 : decode cX4_read 152 = .ok (.ireturn, 1) := by decide +kernel
theorem dX4_torn_0 : decode cX4_torn 0 = .ok (.aload_n 0, 1) := by decide +kernel
theorem dX4_torn_1 : decode cX4_torn 1 = .ok (.getfield 292, 3) := by decide +kernel
theorem dX4_torn_4 : decode cX4_torn 4 = .ok (.ireturn, 1) := by decide +kernel
theorem dX4_count_0 : decode cX4_count 0 = .ok (.iload_n 1, 1) := by decide +kernel
theorem dX4_count_1 : decode cX4_count 1 = .ok (.tableswitch 127 0 5 #[39, 47, 77, 82, 109, 118], 39) := by decide +kernel
theorem dX4_count_40 : decode cX4_count 40 = .ok (.aload_n 0, 1) := by decide +kernel
theorem dX4_count_41 : decode cX4_count 41 = .ok (.getfield 16, 3) := by decide +kernel
theorem dX4_count_44 : decode cX4_count 44 = .ok (.getfield 247, 3) := by decide +kernel
theorem dX4_count_47 : decode cX4_count 47 = .ok (.ireturn, 1) := by decide +kernel
theorem dX4_count_48 : decode cX4_count 48 = .ok (.aload_n 0, 1) := by decide +kernel
theorem dX4_count_49 : decode cX4_count 49 = .ok (.getfield 27, 3) := by decide +kernel
theorem dX4_count_52 : decode cX4_count 52 = .ok (.iconst 0, 1) := by decide +kernel
theorem dX4_count_53 : decode cX4_count 53 = .ok (.baload, 1) := by decide +kernel
theorem dX4_count_54 : decode cX4_count 54 = .ok (.ifCond .eq 7, 3) := by decide +kernel
theorem dX4_count_57 : decode cX4_count 57 = .ok (.iconst 1, 1) := by decide +kernel
theorem dX4_count_58 : decode cX4_count 58 = .ok (.goto 4, 3) := by decide +kernel
theorem dX4_count_61 : decode cX4_count 61 = .ok (.iconst 0, 1) := by decide +kernel
theorem dX4_count_62 : decode cX4_count 62 = .ok (.aload_n 0, 1) := by decide +kernel
theorem dX4_count_63 : decode cX4_count 63 = .ok (.getfield 27, 3) := by decide +kernel
theorem dX4_count_66 : decode cX4_count 66 = .ok (.iconst 1, 1) := by decide +kernel
theorem dX4_count_67 : decode cX4_count 67 = .ok (.baload, 1) := by decide +kernel
theorem dX4_count_68 : decode cX4_count 68 = .ok (.ifCond .eq 7, 3) := by decide +kernel
theorem dX4_count_71 : decode cX4_count 71 = .ok (.iconst 1, 1) := by decide +kernel
theorem dX4_count_72 : decode cX4_count 72 = .ok (.goto 4, 3) := by decide +kernel
theorem dX4_count_75 : decode cX4_count 75 = .ok (.iconst 0, 1) := by decide +kernel
theorem dX4_count_76 : decode cX4_count 76 = .ok (.iadd, 1) := by decide +kernel
theorem dX4_count_77 : decode cX4_count 77 = .ok (.ireturn, 1) := by decide +kernel
theorem dX4_count_78 : decode cX4_count 78 = .ok (.aload_n 0, 1) := by decide +kernel
theorem dX4_count_79 : decode cX4_count 79 = .ok (.getfield 58, 3) := by decide +kernel
theorem dX4_count_82 : decode cX4_count 82 = .ok (.ireturn, 1) := by decide +kernel
end
section
theorem dX4_count_83 : decode cX4_count 83 = .ok (.aload_n 0, 1) := by decide +kernel
theorem dX4_count_84 : decode cX4_count 84 = .ok (.getfield 33, 3) := by decide +kernel
theorem dX4_count_87 : decode cX4_count 87 = .ok (.iconst 0, 1) := by decide +kernel
theorem dX4_count_88 : decode cX4_count 88 = .ok (.aaload, 1) := by decide +kernel
theorem dX4_count_89 : decode cX4_count 89 = .ok (.invokevirtual 295, 3) := by decide +kernel
theorem dX4_count_92 : decode cX4_count 92 = .ok (.ifCond .eq 8, 3) := by decide +kernel
theorem dX4_count_95 : decode cX4_count 95 = .ok (.bipush (-4), 2) := by decide +kernel
theorem dX4_count_97 : decode cX4_count 97 = .ok (.goto 12, 3) := by decide +kernel
theorem dX4_count_100 : decode cX4_count 100 = .ok (.aload_n 0, 1) := by decide +kernel
theorem dX4_count_101 : decode cX4_count 101 = .ok (.getfield 33, 3) := by decide +kernel
theorem dX4_count_104 : decode cX4_count 104 = .ok (.iconst 0, 1) := by decide +kernel
theorem dX4_count_105 : decode cX4_count 105 = .ok (.aaload, 1) := by decide +kernel
theorem dX4_count_106 : decode cX4_count 106 = .ok (.getfield 298, 3) := by decide +kernel
theorem dX4_count_109 : decode cX4_count 109 = .ok (.ireturn, 1) := by decide +kernel
theorem dX4_count_110 : decode cX4_count 110 = .ok (.aload_n 0, 1) := by decide +kernel
theorem dX4_count_111 : decode cX4_count 111 = .ok (.getfield 16, 3) := by decide +kernel
theorem dX4_count_114 : decode cX4_count 114 = .ok (.iconst 0, 1) := by decide +kernel
theorem dX4_count_115 : decode cX4_count 115 = .ok (.invokevirtual 301, 3) := by decide +kernel
theorem dX4_count_118 : decode cX4_count 118 = .ok (.ireturn, 1) := by decide +kernel
theorem dX4_count_119 : decode cX4_count 119 = .ok (.aload_n 0, 1) := by decide +kernel
theorem dX4_count_120 : decode cX4_count 120 = .ok (.getfield 16, 3) := by decide +kernel
theorem dX4_count_123 : decode cX4_count 123 = .ok (.iconst 2, 1) := by decide +kernel
theorem dX4_count_124 : decode cX4_count 124 = .ok (.invokevirtual 301, 3) := by decide +kernel
theorem dX4_count_127 : decode cX4_count 127 = .ok (.ireturn, 1) := by decide +kernel
theorem dX4_count_128 : decode cX4_count 128 = .ok (.iconst (-1), 1) := by decide +kernel
theorem dX4_count_129 : decode cX4_count 129 = .ok (.ireturn, 1) := by decide +kernel
theorem dX4_isSheet_0 : decode cX4_isSheet 0 = .ok (.iload_n 0, 1) := by decide +kernel
theorem dX4_isSheet_1 : decode cX4_isSheet 1 = .ok (.iconst 0, 1) := by decide +kernel
theorem dX4_isSheet_2 : decode cX4_isSheet 2 = .ok (.iconst 3, 1) := by decide +kernel
theorem dX4_isSheet_3 : decode cX4_isSheet 3 = .ok (.invokestatic 54, 3) := by decide +kernel
theorem dX4_isSheet_6 : decode cX4_isSheet 6 = .ok (.ireturn, 1) := by decide +kernel
theorem dX4_within_0 : decode cX4_within 0 = .ok (.iload_n 0, 1) := by decide +kernel
theorem dX4_within_1 : decode cX4_within 1 = .ok (.iload_n 1, 1) := by decide +kernel
theorem dX4_within_2 : decode cX4_within 2 = .ok (.if_icmp .lt 12, 3) := by decide +kernel
theorem dX4_within_5 : decode cX4_within 5 = .ok (.iload_n 0, 1) := by decide +kernel
theorem dX4_within_6 : decode cX4_within 6 = .ok (.iload_n 2, 1) := by decide +kernel
theorem dX4_within_7 : decode cX4_within 7 = .ok (.if_icmp .gt 7, 3) := by decide +kernel
theorem dX4_within_10 : decode cX4_within 10 = .ok (.iconst 1, 1) := by decide +kernel
theorem dX4_within_11 : decode cX4_within 11 = .ok (.goto 4, 3) := by decide +kernel
theorem dX4_within_14 : decode cX4_within 14 = .ok (.iconst 0, 1) := by decide +kernel
theorem dX4_within_15 : decode cX4_within 15 = .ok (.ireturn, 1) := by decide +kernel
theorem dX4_isRun_0 : decode cX4_isRun 0 = .ok (.iload_n 0, 1) := by decide +kernel
theorem dX4_isRun_1 : decode cX4_isRun 1 = .ok (.iconst 0, 1) := by decide +kernel
theorem dX4_isRun_2 : decode cX4_isRun 2 = .ok (.sipush 200, 3) := by decide +kernel
theorem dX4_isRun_5 : decode cX4_isRun 5 = .ok (.invokestatic 54, 3) := by decide +kernel
theorem dX4_isRun_8 : decode cX4_isRun 8 = .ok (.ireturn, 1) := by decide +kernel
theorem dX4_copyToTry_0 : decode cX4_copyToTry 0 = .ok (.aload_n 0, 1) := by decide +kernel
theorem dX4_copyToTry_1 : decode cX4_copyToTry 1 = .ok (.getfield 20, 3) := by decide +kernel
theorem dX4_copyToTry_4 : decode cX4_copyToTry 4 = .ok (.aload_n 0, 1) := by decide +kernel
theorem dX4_copyToTry_5 : decode cX4_copyToTry 5 = .ok (.getfield 16, 3) := by decide +kernel
theorem dX4_copyToTry_8 : decode cX4_copyToTry 8 = .ok (.invokevirtual 75, 3) := by decide +kernel
theorem dX4_copyToTry_11 : decode cX4_copyToTry 11 = .ok (.aload_n 0, 1) := by decide +kernel
theorem dX4_copyToTry_12 : decode cX4_copyToTry 12 = .ok (.getfield 20, 3) := by decide +kernel
theorem dX4_copyToTry_15 : decode cX4_copyToTry 15 = .ok (.invokevirtual 155, 3) := by decide +kernel
theorem dX4_copyToTry_18 : decode cX4_copyToTry 18 = .ok (.aload_n 0, 1) := by decide +kernel
theorem dX4_copyToTry_19 : decode cX4_copyToTry 19 = .ok (.getfield 20, 3) := by decide +kernel
theorem dX4_copyToTry_22 : decode cX4_copyToTry 22 = .ok (.areturn, 1) := by decide +kernel
theorem dX4_copyAltered_0 : decode cX4_copyAltered 0 = .ok (.aload_n 0, 1) := by decide +kernel
theorem dX4_copyAltered_1 : decode cX4_copyAltered 1 = .ok (.invokevirtual 168, 3) := by decide +kernel
theorem dX4_copyAltered_4 : decode cX4_copyAltered 4 = .ok (.astore 4, 2) := by decide +kernel
theorem dX4_copyAltered_6 : decode cX4_copyAltered 6 = .ok (.aload 4, 2) := by decide +kernel
theorem dX4_copyAltered_8 : decode cX4_copyAltered 8 = .ok (.iload_n 1, 1) := by decide +kernel
theorem dX4_copyAltered_9 : decode cX4_copyAltered 9 = .ok (.invokevirtual 101, 3) := by decide +kernel
theorem dX4_copyAltered_12 : decode cX4_copyAltered 12 = .ok (.ifCond .eq 15, 3) := by decide +kernel
theorem dX4_copyAltered_15 : decode cX4_copyAltered 15 = .ok (.aload 4, 2) := by decide +kernel
theorem dX4_copyAltered_17 : decode cX4_copyAltered 17 = .ok (.getfield 105, 3) := by decide +kernel
theorem dX4_copyAltered_20 : decode cX4_copyAltered 20 = .ok (.iload_n 1, 1) := by decide +kernel
theorem dX4_copyAltered_21 : decode cX4_copyAltered 21 = .ok (.aaload, 1) := by decide +kernel
theorem dX4_copyAltered_22 : decode cX4_copyAltered 22 = .ok (.iload_n 2, 1) := by decide +kernel
theorem dX4_copyAltered_23 : decode cX4_copyAltered 23 = .ok (.iload_n 3, 1) := by decide +kernel
theorem dX4_copyAltered_24 : decode cX4_copyAltered 24 = .ok (.invokevirtual 143, 3) := by decide +kernel
theorem dX4_copyAltered_27 : decode cX4_copyAltered 27 = .ok (.aload 4, 2) := by decide +kernel
theorem dX4_copyAltered_29 : decode cX4_copyAltered 29 = .ok (.areturn, 1) := by decide +kernel
theorem dX5_init_0 : decode cX5_init 0 = .ok (.aload_n 0, 1) := by decide +kernel
theorem dX5_init_1 : decode cX5_init 1 = .ok (.invokespecial 1, 3) := by decide +kernel
theorem dX5_init_4 : decode cX5_init 4 = .ok (.aload_n 0, 1) := by decide +kernel
theorem dX5_init_5 : decode cX5_init 5 = .ok (.sipush 225, 3) := by decide +kernel
theorem dX5_init_8 : decode cX5_init 8 = .ok (.newarray .int, 2) := by decide +kernel
theorem dX5_init_10 : decode cX5_init 10 = .ok (.putfield 7, 3) := by decide +kernel
theorem dX5_init_13 : decode cX5_init 13 = .ok (.aload_n 0, 1) := by decide +kernel
theorem dX5_init_14 : decode cX5_init 14 = .ok (.bipush 75, 2) := by decide +kernel
theorem dX5_init_16 : decode cX5_init 16 = .ok (.newarray .int, 2) := by decide +kernel
theorem dX5_init_18 : decode cX5_init 18 = .ok (.putfield 13, 3) := by decide +kernel
theorem dX5_init_21 : decode cX5_init 21 = .ok (.aload_n 0, 1) := by decide +kernel
theorem dX5_init_22 : decode cX5_init 22 = .ok (.iconst 2, 1) := by decide +kernel
theorem dX5_init_23 : decode cX5_init 23 = .ok (.newarray .boolean, 2) := by decide +kernel
theorem dX5_init_25 : decode cX5_init 25 = .ok (.putfield 16, 3) := by decide +kernel
theorem dX5_init_28 : decode cX5_init 28 = .ok (.aload_n 0, 1) := by decide +kernel
theorem dX5_init_29 : decode cX5_init 29 = .ok (.bipush 75, 2) := by decide +kernel
theorem dX5_init_31 : decode cX5_init 31 = .ok (.newarray .int, 2) := by decide +kernel
theorem dX5_init_33 : decode cX5_init 33 = .ok (.putfield 20, 3) := by decide +kernel
theorem dX5_init_36 : decode cX5_init 36 = .ok (.aload_n 0, 1) := by decide +kernel
theorem dX5_init_37 : decode cX5_init 37 = .ok (.sipush 160, 3) := by decide +kernel
theorem dX5_init_40 : decode cX5_init 40 = .ok (.newarray .int, 2) := by decide +kernel
theorem dX5_init_42 : decode cX5_init 42 = .ok (.putfield 23, 3) := by decide +kernel
theorem dX5_init_45 : decode cX5_init 45 = .ok (.aload_n 0, 1) := by decide +kernel
theorem dX5_init_46 : decode cX5_init 46 = .ok (.iconst 4, 1) := by decide +kernel
theorem dX5_init_47 : decode cX5_init 47 = .ok (.newarray .int, 2) := by decide +kernel
theorem dX5_init_49 : decode cX5_init 49 = .ok (.putfield 26, 3) := by decide +kernel
theorem dX5_init_52 : decode cX5_init 52 = .ok (.aload_n 0, 1) := by decide +kernel
theorem dX5_init_53 : decode cX5_init 53 = .ok (.bipush 41, 2) := by decide +kernel
theorem dX5_init_55 : decode cX5_init 55 = .ok (.newarray .int, 2) := by decide +kernel
theorem dX5_init_57 : decode cX5_init 57 = .ok (.putfield 29, 3) := by decide +kernel
theorem dX5_init_60 : decode cX5_init 60 = .ok (.aload_n 0, 1) := by decide +kernel
theorem dX5_init_61 : decode cX5_init 61 = .ok (.bipush 41, 2) := by decide +kernel
theorem dX5_init_63 : decode cX5_init 63 = .ok (.newarray .int, 2) := by decide +kernel
theorem dX5_init_65 : decode cX5_init 65 = .ok (.putfield 32, 3) := by decide +kernel
theorem dX5_init_68 : decode cX5_init 68 = .ok (.aload_n 0, 1) := by decide +kernel
theorem dX5_init_69 : decode cX5_init 69 = .ok (.iconst 4, 1) := by decide +kernel
theorem dX5_init_70 : decode cX5_init 70 = .ok (.newarray .int, 2) := by decide +kernel
theorem dX5_init_72 : decode cX5_init 72 = .ok (.putfield 35, 3) := by decide +kernel
theorem dX5_init_75 : decode cX5_init 75 = .ok (.aload_n 0, 1) := by decide +kernel
theorem dX5_init_76 : decode cX5_init 76 = .ok (.iconst 4, 1) := by decide +kernel
theorem dX5_init_77 : decode cX5_init 77 = .ok (.newarray .int, 2) := by decide +kernel
theorem dX5_init_79 : decode cX5_init 79 = .ok (.putfield 38, 3) := by decide +kernel
theorem dX5_init_82 : decode cX5_init 82 = .ok (.aload_n 0, 1) := by decide +kernel
theorem dX5_init_83 : decode cX5_init 83 = .ok (.sipush 160, 3) := by decide +kernel
theorem dX5_init_86 : decode cX5_init 86 = .ok (.newarray .int, 2) := by decide +kernel
theorem dX5_init_88 : decode cX5_init 88 = .ok (.putfield 41, 3) := by decide +kernel
theorem dX5_init_91 : decode cX5_init 91 = .ok (.aload_n 0, 1) := by decide +kernel
theorem dX5_init_92 : decode cX5_init 92 = .ok (.bipush 75, 2) := by decide +kernel
theorem dX5_init_94 : decode cX5_init 94 = .ok (.newarray .int, 2) := by decide +kernel
theorem dX5_init_96 : decode cX5_init 96 = .ok (.putfield 44, 3) := by decide +kernel
theorem dX5_init_99 : decode cX5_init 99 = .ok (.iconst 0, 1) := by decide +kernel
theorem dX5_init_100 : decode cX5_init 100 = .ok (.istore_n 1, 1) := by decide +kernel
theorem dX5_init_101 : decode cX5_init 101 = .ok (.iload_n 1, 1) := by decide +kernel
theorem dX5_init_102 : decode cX5_init 102 = .ok (.iconst 4, 1) := by decide +kernel
theorem dX5_init_103 : decode cX5_init 103 = .ok (.if_icmp .ge 17, 3) := by decide +kernel
theorem dX5_init_106 : decode cX5_init 106 = .ok (.aload_n 0, 1) := by decide +kernel
theorem dX5_init_107 : decode cX5_init 107 = .ok (.getfield 35, 3) := by decide +kernel
theorem dX5_init_110 : decode cX5_init 110 = .ok (.iload_n 1, 1) := by decide +kernel
theorem dX5_init_111 : decode cX5_init 111 = .ok (.bipush (-4), 2) := by decide +kernel
theorem dX5_init_113 : decode cX5_init 113 = .ok (.iastore, 1) := by decide +kernel
theorem dX5_init_114 : decode cX5_init 114 = .ok (.iinc 1 1, 3) := by decide +kernel
theorem dX5_init_117 : decode cX5_init 117 = .ok (.goto (-16), 3) := by decide +kernel
theorem dX5_init_120 : decode cX5_init 120 = .ok (.aload_n 0, 1) := by decide +kernel
theorem dX5_init_121 : decode cX5_init 121 = .ok (.invokevirtual 47, 3) := by decide +kernel
theorem dX5_init_124 : decode cX5_init 124 = .ok (.aload_n 0, 1) := by decide +kernel
theorem dX5_init_125 : decode cX5_init 125 = .ok (.invokevirtual 50, 3) := by decide +kernel
theorem dX5_init_128 : decode cX5_init 128 = .ok (.return_, 1) := by decide +kernel
theorem dX5_in_0 : decode cX5_in 0 = .ok (.lload_n 0, 1) := by decide +kernel
theorem dX5_in_1 : decode cX5_in 1 = .ok (.lload_n 2, 1) := by decide +kernel
theorem dX5_in_2 : decode cX5_in 2 = .ok (.lcmp, 1) := by decide +kernel
theorem dX5_in_3 : decode cX5_in 3 = .ok (.ifCond .lt 14, 3) := by decide +kernel
theorem dX5_in_6 : decode cX5_in 6 = .ok (.lload_n 0, 1) := by decide +kernel
theorem dX5_in_7 : decode cX5_in 7 = .ok (.lload 4, 2) := by decide +kernel
theorem dX5_in_9 : decode cX5_in 9 = .ok (.lcmp, 1) := by decide +kernel
theorem dX5_in_10 : decode cX5_in 10 = .ok (.ifCond .gt 7, 3) := by decide +kernel
theorem dX5_in_13 : decode cX5_in 13 = .ok (.iconst 1, 1) := by decide +kernel
theorem dX5_in_14 : decode cX5_in 14 = .ok (.goto 4, 3) := by decide +kernel
theorem dX5_in_17 : decode cX5_in 17 = .ok (.iconst 0, 1) := by decide +kernel
theorem dX5_in_18 : decode cX5_in 18 = .ok (.ireturn, 1) := by decide +kernel
theorem dX5_flag_0 : decode cX5_flag 0 = .ok (.iload_n 0, 1) := by decide +kernel
theorem dX5_flag_1 : decode cX5_flag 1 = .ok (.ifCond .eq 7, 3) := by decide +kernel
theorem dX5_flag_4 : decode cX5_flag 4 = .ok (.iconst 1, 1) := by decide +kernel
theorem dX5_flag_5 : decode cX5_flag 5 = .ok (.goto 4, 3) := by decide +kernel
theorem dX5_flag_8 : decode cX5_flag 8 = .ok (.iconst 0, 1) := by decide +kernel
theorem dX5_flag_9 : decode cX5_flag 9 = .ok (.ireturn, 1) := by decide +kernel
theorem dX5_within_0 : decode cX5_within 0 = .ok (.iload_n 0, 1) := by decide +kernel
theorem dX5_within_1 : decode cX5_within 1 = .ok (.ifCond .ge 7, 3) := by decide +kernel
theorem dX5_within_4 : decode cX5_within 4 = .ok (.iconst 0, 1) := by decide +kernel
theorem dX5_within_5 : decode cX5_within 5 = .ok (.goto 13, 3) := by decide +kernel
theorem dX5_within_8 : decode cX5_within 8 = .ok (.iload_n 0, 1) := by decide +kernel
theorem dX5_within_9 : decode cX5_within 9 = .ok (.iload_n 1, 1) := by decide +kernel
theorem dX5_within_10 : decode cX5_within 10 = .ok (.if_icmp .le 7, 3) := by decide +kernel
theorem dX5_within_13 : decode cX5_within 13 = .ok (.iload_n 1, 1) := by decide +kernel
theorem dX5_within_14 : decode cX5_within 14 = .ok (.goto 4, 3) := by decide +kernel
theorem dX5_within_17 : decode cX5_within 17 = .ok (.iload_n 0, 1) := by decide +kernel
theorem dX5_within_18 : decode cX5_within 18 = .ok (.ireturn, 1) := by decide +kernel
theorem dX5_firstDraft_0 : decode cX5_firstDraft 0 = .ok (.iconst 0, 1) := by decide +kernel
theorem dX5_firstDraft_1 : decode cX5_firstDraft 1 = .ok (.istore_n 1, 1) := by decide +kernel
theorem dX5_firstDraft_2 : decode cX5_firstDraft 2 = .ok (.iload_n 1, 1) := by decide +kernel
theorem dX5_firstDraft_3 : decode cX5_firstDraft 3 = .ok (.bipush 75, 2) := by decide +kernel
theorem dX5_firstDraft_5 : decode cX5_firstDraft 5 = .ok (.if_icmp .ge 16, 3) := by decide +kernel
theorem dX5_firstDraft_8 : decode cX5_firstDraft 8 = .ok (.aload_n 0, 1) := by decide +kernel
theorem dX5_firstDraft_9 : decode cX5_firstDraft 9 = .ok (.getfield 20, 3) := by decide +kernel
theorem dX5_firstDraft_12 : decode cX5_firstDraft 12 = .ok (.iload_n 1, 1) := by decide +kernel
theorem dX5_firstDraft_13 : decode cX5_firstDraft 13 = .ok (.iconst 0, 1) := by decide +kernel
theorem dX5_firstDraft_14 : decode cX5_firstDraft 14 = .ok (.iastore, 1) := by decide +kernel
theorem dX5_firstDraft_15 : decode cX5_firstDraft 15 = .ok (.iinc 1 1, 3) := by decide +kernel
theorem dX5_firstDraft_18 : decode cX5_firstDraft 18 = .ok (.goto (-16), 3) := by decide +kernel
theorem dX5_firstDraft_21 : decode cX5_firstDraft 21 = .ok (.aload_n 0, 1) := by decide +kernel
theorem dX5_firstDraft_22 : decode cX5_firstDraft 22 = .ok (.getfield 20, 3) := by decide +kernel
theorem dX5_firstDraft_25 : decode cX5_firstDraft 25 = .ok (.bipush 54, 2) := by decide +kernel
theorem dX5_firstDraft_27 : decode cX5_firstDraft 27 = .ok (.iconst 1, 1) := by decide +kernel
theorem dX5_firstDraft_28 : decode cX5_firstDraft 28 = .ok (.iastore, 1) := by decide +kernel
theorem dX5_firstDraft_29 : decode cX5_firstDraft 29 = .ok (.aload_n 0, 1) := by decide +kernel
theorem dX5_firstDraft_30 : decode cX5_firstDraft 30 = .ok (.iconst 0, 1) := by decide +kernel
theorem dX5_firstDraft_31 : decode cX5_firstDraft 31 = .ok (.putfield 53, 3) := by decide +kernel
theorem dX5_firstDraft_34 : decode cX5_firstDraft 34 = .ok (.aload_n 0, 1) := by decide +kernel
theorem dX5_firstDraft_35 : decode cX5_firstDraft 35 = .ok (.iconst (-1), 1) := by decide +kernel
theorem dX5_firstDraft_36 : decode cX5_firstDraft 36 = .ok (.putfield 57, 3) := by decide +kernel
theorem dX5_firstDraft_39 : decode cX5_firstDraft 39 = .ok (.return_, 1) := by decide +kernel
theorem dX5_keepDraft_0 : decode cX5_keepDraft 0 = .ok (.iconst 0, 1) := by decide +kernel
theorem dX5_keepDraft_1 : decode cX5_keepDraft 1 = .ok (.istore_n 1, 1) := by decide +kernel
theorem dX5_keepDraft_2 : decode cX5_keepDraft 2 = .ok (.iload_n 1, 1) := by decide +kernel
theorem dX5_keepDraft_3 : decode cX5_keepDraft 3 = .ok (.bipush 75, 2) := by decide +kernel
theorem dX5_keepDraft_5 : decode cX5_keepDraft 5 = .ok (.if_icmp .ge 21, 3) := by decide +kernel
theorem dX5_keepDraft_8 : decode cX5_keepDraft 8 = .ok (.aload_n 0, 1) := by decide +kernel
theorem dX5_keepDraft_9 : decode cX5_keepDraft 9 = .ok (.getfield 7, 3) := by decide +kernel
theorem dX5_keepDraft_12 : decode cX5_keepDraft 12 = .ok (.iload_n 1, 1) := by decide +kernel
theorem dX5_keepDraft_13 : decode cX5_keepDraft 13 = .ok (.aload_n 0, 1) := by decide +kernel
theorem dX5_keepDraft_14 : decode cX5_keepDraft 14 = .ok (.getfield 20, 3) := by decide +kernel
theorem dX5_keepDraft_17 : decode cX5_keepDraft 17 = .ok (.iload_n 1, 1) := by decide +kernel
theorem dX5_keepDraft_18 : decode cX5_keepDraft 18 = .ok (.iaload, 1) := by decide +kernel
theorem dX5_keepDraft_19 : decode cX5_keepDraft 19 = .ok (.iastore, 1) := by decide +kernel
theorem dX5_keepDraft_20 : decode cX5_keepDraft 20 = .ok (.iinc 1 1, 3) := by decide +kernel
theorem dX5_keepDraft_23 : decode cX5_keepDraft 23 = .ok (.goto (-21), 3) := by decide +kernel
theorem dX5_keepDraft_26 : decode cX5_keepDraft 26 = .ok (.aload_n 0, 1) := by decide +kernel
theorem dX5_keepDraft_27 : decode cX5_keepDraft 27 = .ok (.getfield 16, 3) := by decide +kernel
theorem dX5_keepDraft_30 : decode cX5_keepDraft 30 = .ok (.iconst 0, 1) := by decide +kernel
theorem dX5_keepDraft_31 : decode cX5_keepDraft 31 = .ok (.iconst 0, 1) := by decide +kernel
theorem dX5_keepDraft_32 : decode cX5_keepDraft 32 = .ok (.bastore, 1) := by decide +kernel
theorem dX5_keepDraft_33 : decode cX5_keepDraft 33 = .ok (.aload_n 0, 1) := by decide +kernel
theorem dX5_keepDraft_34 : decode cX5_keepDraft 34 = .ok (.getfield 16, 3) := by decide +kernel
theorem dX5_keepDraft_37 : decode cX5_keepDraft 37 = .ok (.iconst 1, 1) := by decide +kernel
theorem dX5_keepDraft_38 : decode cX5_keepDraft 38 = .ok (.iconst 0, 1) := by decide +kernel
theorem dX5_keepDraft_39 : decode cX5_keepDraft 39 = .ok (.bastore, 1) := by decide +kernel
theorem dX5_keepDraft_40 : decode cX5_keepDraft 40 = .ok (.return_, 1) := by decide +kernel
theorem dX5_feed_0 : decode cX5_feed 0 = .ok (.iload_n 1, 1) := by decide +kernel
theorem dX5_feed_1 : decode cX5_feed 1 = .ok (.i2l, 1) := by decide +kernel
theorem dX5_feed_2 : decode cX5_feed 2 = .ok (.lconst 0, 1) := by decide +kernel
theorem dX5_feed_3 : decode cX5_feed 3 = .ok (.ldc2_w 61, 3) := by decide +kernel
theorem dX5_feed_6 : decode cX5_feed 6 = .ok (.invokestatic 63, 3) := by decide +kernel
theorem dX5_feed_9 : decode cX5_feed 9 = .ok (.ifCond .ne 5, 3) := by decide +kernel
theorem dX5_feed_12 : decode cX5_feed 12 = .ok (.iconst (-1), 1) := by decide +kernel
theorem dX5_feed_13 : decode cX5_feed 13 = .ok (.ireturn, 1) := by decide +kernel
theorem dX5_feed_14 : decode cX5_feed 14 = .ok (.aload_n 0, 1) := by decide +kernel
theorem dX5_feed_15 : decode cX5_feed 15 = .ok (.getfield 67, 3) := by decide +kernel
theorem dX5_feed_18 : decode cX5_feed 18 = .ok (.sipush 160, 3) := by decide +kernel
theorem dX5_feed_21 : decode cX5_feed 21 = .ok (.if_icmp .ne 6, 3) := by decide +kernel
theorem dX5_feed_24 : decode cX5_feed 24 = .ok (.bipush (-3), 2) := by decide +kernel
theorem dX5_feed_26 : decode cX5_feed 26 = .ok (.ireturn, 1) := by decide +kernel
theorem dX5_feed_27 : decode cX5_feed 27 = .ok (.aload_n 0, 1) := by decide +kernel
theorem dX5_feed_28 : decode cX5_feed 28 = .ok (.getfield 23, 3) := by decide +kernel
theorem dX5_feed_31 : decode cX5_feed 31 = .ok (.aload_n 0, 1) := by decide +kernel
theorem dX5_feed_32 : decode cX5_feed 32 = .ok (.getfield 67, 3) := by decide +kernel
theorem dX5_feed_35 : decode cX5_feed 35 = .ok (.iload_n 1, 1) := by decide +kernel
theorem dX5_feed_36 : decode cX5_feed 36 = .ok (.iastore, 1) := by decide +kernel
theorem dX5_feed_37 : decode cX5_feed 37 = .ok (.aload_n 0, 1) := by decide +kernel
theorem dX5_feed_38 : decode cX5_feed 38 = .ok (.dup, 1) := by decide +kernel
theorem dX5_feed_39 : decode cX5_feed 39 = .ok (.getfield 67, 3) := by decide +kernel
theorem dX5_feed_42 : decode cX5_feed 42 = .ok (.iconst 1, 1) := by decide +kernel
theorem dX5_feed_43 : decode cX5_feed 43 = .ok (.iadd, 1) := by decide +kernel
theorem dX5_feed_44 : decode cX5_feed 44 = .ok (.putfield 67, 3) := by decide +kernel
theorem dX5_feed_47 : decode cX5_feed 47 = .ok (.aload_n 0, 1) := by decide +kernel
theorem dX5_feed_48 : decode cX5_feed 48 = .ok (.getfield 67, 3) := by decide +kernel
theorem dX5_feed_51 : decode cX5_feed 51 = .ok (.ireturn, 1) := by decide +kernel
theorem dX5_end_0 : decode cX5_end 0 = .ok (.iload_n 1, 1) := by decide +kernel
theorem dX5_end_1 : decode cX5_end 1 = .ok (.i2l, 1) := by decide +kernel
theorem dX5_end_2 : decode cX5_end 2 = .ok (.lconst 0, 1) := by decide +kernel
theorem dX5_end_3 : decode cX5_end 3 = .ok (.aload_n 0, 1) := by decide +kernel
theorem dX5_end_4 : decode cX5_end 4 = .ok (.getfield 67, 3) := by decide +kernel
theorem dX5_end_7 : decode cX5_end 7 = .ok (.i2l, 1) := by decide +kernel
theorem dX5_end_8 : decode cX5_end 8 = .ok (.invokestatic 63, 3) := by decide +kernel
theorem dX5_end_11 : decode cX5_end 11 = .ok (.ifCond .ne 5, 3) := by decide +kernel
theorem dX5_end_14 : decode cX5_end 14 = .ok (.iconst (-1), 1) := by decide +kernel
theorem dX5_end_15 : decode cX5_end 15 = .ok (.ireturn, 1) := by decide +kernel
theorem dX5_end_16 : decode cX5_end 16 = .ok (.aload_n 0, 1) := by decide +kernel
theorem dX5_end_17 : decode cX5_end 17 = .ok (.getfield 67, 3) := by decide +kernel
theorem dX5_end_20 : decode cX5_end 20 = .ok (.istore_n 2, 1) := by decide +kernel
theorem dX5_end_21 : decode cX5_end 21 = .ok (.aload_n 0, 1) := by decide +kernel
theorem dX5_end_22 : decode cX5_end 22 = .ok (.iload_n 1, 1) := by decide +kernel
theorem dX5_end_23 : decode cX5_end 23 = .ok (.putfield 67, 3) := by decide +kernel
theorem dX5_end_26 : decode cX5_end 26 = .ok (.iload_n 2, 1) := by decide +kernel
theorem dX5_end_27 : decode cX5_end 27 = .ok (.ireturn, 1) := by decide +kernel
theorem dX5_requires_0 : decode cX5_requires 0 = .ok (.iload_n 1, 1) := by decide +kernel
theorem dX5_requires_1 : decode cX5_requires 1 = .ok (.ifCond .ne 23, 3) := by decide +kernel
theorem dX5_requires_4 : decode cX5_requires 4 = .ok (.aload_n 0, 1) := by decide +kernel
theorem dX5_requires_5 : decode cX5_requires 5 = .ok (.getfield 70, 3) := by decide +kernel
theorem dX5_requires_8 : decode cX5_requires 8 = .ok (.ifCond .ne 16, 3) := by decide +kernel
theorem dX5_requires_11 : decode cX5_requires 11 = .ok (.aload_n 0, 1) := by decide +kernel
theorem dX5_requires_12 : decode cX5_requires 12 = .ok (.iload_n 2, 1) := by decide +kernel
theorem dX5_requires_13 : decode cX5_requires 13 = .ok (.putfield 70, 3) := by decide +kernel
theorem dX5_requires_16 : decode cX5_requires 16 = .ok (.aload_n 0, 1) := by decide +kernel
theorem dX5_requires_17 : decode cX5_requires 17 = .ok (.aload_n 0, 1) := by decide +kernel
theorem dX5_requires_18 : decode cX5_requires 18 = .ok (.getfield 73, 3) := by decide +kernel
theorem dX5_requires_21 : decode cX5_requires 21 = .ok (.putfield 76, 3) := by decide +kernel
theorem dX5_requires_24 : decode cX5_requires 24 = .ok (.return_, 1) := by decide +kernel
theorem dX5_byteAt_0 : decode cX5_byteAt 0 = .ok (.iload_n 1, 1) := by decide +kernel
theorem dX5_byteAt_1 : decode cX5_byteAt 1 = .ok (.aload_n 0, 1) := by decide +kernel
theorem dX5_byteAt_2 : decode cX5_byteAt 2 = .ok (.getfield 67, 3) := by decide +kernel
theorem dX5_byteAt_5 : decode cX5_byteAt 5 = .ok (.if_icmp .ge 12, 3) := by decide +kernel
theorem dX5_byteAt_8 : decode cX5_byteAt 8 = .ok (.aload_n 0, 1) := by decide +kernel
theorem dX5_byteAt_9 : decode cX5_byteAt 9 = .ok (.getfield 23, 3) := by decide +kernel
theorem dX5_byteAt_12 : decode cX5_byteAt 12 = .ok (.iload_n 1, 1) := by decide +kernel
theorem dX5_byteAt_13 : decode cX5_byteAt 13 = .ok (.iaload, 1) := by decide +kernel
theorem dX5_byteAt_14 : decode cX5_byteAt 14 = .ok (.goto 4, 3) := by decide +kernel
theorem dX5_byteAt_17 : decode cX5_byteAt 17 = .ok (.iconst (-1), 1) := by decide +kernel
theorem dX5_byteAt_18 : decode cX5_byteAt 18 = .ok (.ireturn, 1) := by decide +kernel
theorem dX5_is_0 : decode cX5_is 0 = .ok (.aload_n 0, 1) := by decide +kernel
theorem dX5_is_1 : decode cX5_is 1 = .ok (.getfield 79, 3) := by decide +kernel
theorem dX5_is_4 : decode cX5_is 4 = .ok (.aload_n 0, 1) := by decide +kernel
theorem dX5_is_5 : decode cX5_is 5 = .ok (.getfield 73, 3) := by decide +kernel
theorem dX5_is_8 : decode cX5_is 8 = .ok (.isub, 1) := by decide +kernel
theorem dX5_is_9 : decode cX5_is 9 = .ok (.iload_n 1, 1) := by decide +kernel
theorem dX5_is_10 : decode cX5_is 10 = .ok (.if_icmp .ne 48, 3) := by decide +kernel
theorem dX5_is_13 : decode cX5_is 13 = .ok (.aload_n 0, 1) := by decide +kernel
theorem dX5_is_14 : decode cX5_is 14 = .ok (.aload_n 0, 1) := by decide +kernel
theorem dX5_is_15 : decode cX5_is 15 = .ok (.getfield 73, 3) := by decide +kernel
theorem dX5_is_18 : decode cX5_is 18 = .ok (.invokevirtual 82, 3) := by decide +kernel
theorem dX5_is_21 : decode cX5_is 21 = .ok (.iload_n 2, 1) := by decide +kernel
theorem dX5_is_22 : decode cX5_is 22 = .ok (.if_icmp .ne 36, 3) := by decide +kernel
theorem dX5_is_25 : decode cX5_is 25 = .ok (.aload_n 0, 1) := by decide +kernel
theorem dX5_is_26 : decode cX5_is 26 = .ok (.aload_n 0, 1) := by decide +kernel
theorem dX5_is_27 : decode cX5_is 27 = .ok (.getfield 73, 3) := by decide +kernel
theorem dX5_is_30 : decode cX5_is 30 = .ok (.iconst 1, 1) := by decide +kernel
theorem dX5_is_31 : decode cX5_is 31 = .ok (.iadd, 1) := by decide +kernel
theorem dX5_is_32 : decode cX5_is 32 = .ok (.invokevirtual 82, 3) := by decide +kernel
theorem dX5_is_35 : decode cX5_is 35 = .ok (.iload_n 3, 1) := by decide +kernel
theorem dX5_is_36 : decode cX5_is 36 = .ok (.if_icmp .ne 22, 3) := by decide +kernel
theorem dX5_is_39 : decode cX5_is 39 = .ok (.aload_n 0, 1) := by decide +kernel
theorem dX5_is_40 : decode cX5_is 40 = .ok (.aload_n 0, 1) := by decide +kernel
theorem dX5_is_41 : decode cX5_is 41 = .ok (.getfield 73, 3) := by decide +kernel
theorem dX5_is_44 : decode cX5_is 44 = .ok (.iconst 2, 1) := by decide +kernel
theorem dX5_is_45 : decode cX5_is 45 = .ok (.iadd, 1) := by decide +kernel
theorem dX5_is_46 : decode cX5_is 46 = .ok (.invokevirtual 82, 3) := by decide +kernel
theorem dX5_is_49 : decode cX5_is 49 = .ok (.iload 4, 2) := by decide +kernel
theorem dX5_is_51 : decode cX5_is 51 = .ok (.if_icmp .ne 7, 3) := by decide +kernel
theorem dX5_is_54 : decode cX5_is 54 = .ok (.iconst 1, 1) := by decide +kernel
theorem dX5_is_55 : decode cX5_is 55 = .ok (.goto 4, 3) := by decide +kernel
theorem dX5_is_58 : decode cX5_is 58 = .ok (.iconst 0, 1) := by decide +kernel
theorem dX5_is_59 : decode cX5_is 59 = .ok (.ireturn, 1) := by decide +kernel
theorem dX5_endsIn_0 : decode cX5_endsIn 0 = .ok (.aload_n 0, 1) := by decide +kernel
theorem dX5_endsIn_1 : decode cX5_endsIn 1 = .ok (.aload_n 0, 1) := by decide +kernel
theorem dX5_endsIn_2 : decode cX5_endsIn 2 = .ok (.getfield 73, 3) := by decide +kernel
theorem dX5_endsIn_5 : decode cX5_endsIn 5 = .ok (.iconst 3, 1) := by decide +kernel
theorem dX5_endsIn_6 : decode cX5_endsIn 6 = .ok (.iadd, 1) := by decide +kernel
theorem dX5_endsIn_7 : decode cX5_endsIn 7 = .ok (.invokevirtual 82, 3) := by decide +kernel
theorem dX5_endsIn_10 : decode cX5_endsIn 10 = .ok (.iload_n 1, 1) := by decide +kernel
theorem dX5_endsIn_11 : decode cX5_endsIn 11 = .ok (.if_icmp .ne 25, 3) := by decide +kernel
theorem dX5_endsIn_14 : decode cX5_endsIn 14 = .ok (.iload_n 2, 1) := by decide +kernel
theorem dX5_endsIn_15 : decode cX5_endsIn 15 = .ok (.ifCond .eq 17, 3) := by decide +kernel
theorem dX5_endsIn_18 : decode cX5_endsIn 18 = .ok (.aload_n 0, 1) := by decide +kernel
theorem dX5_endsIn_19 : decode cX5_endsIn 19 = .ok (.aload_n 0, 1) := by decide +kernel
theorem dX5_endsIn_20 : decode cX5_endsIn 20 = .ok (.getfield 73, 3) := by decide +kernel
theorem dX5_endsIn_23 : decode cX5_endsIn 23 = .ok (.iconst 4, 1) := by decide +kernel
theorem dX5_endsIn_24 : decode cX5_endsIn 24 = .ok (.iadd, 1) := by decide +kernel
theorem dX5_endsIn_25 : decode cX5_endsIn 25 = .ok (.invokevirtual 82, 3) := by decide +kernel
theorem dX5_endsIn_28 : decode cX5_endsIn 28 = .ok (.iload_n 2, 1) := by decide +kernel
theorem dX5_endsIn_29 : decode cX5_endsIn 29 = .ok (.if_icmp .ne 7, 3) := by decide +kernel
theorem dX5_endsIn_32 : decode cX5_endsIn 32 = .ok (.iconst 1, 1) := by decide +kernel
theorem dX5_endsIn_33 : decode cX5_endsIn 33 = .ok (.goto 4, 3) := by decide +kernel
theorem dX5_endsIn_36 : decode cX5_endsIn 36 = .ok (.iconst 0, 1) := by decide +kernel
theorem dX5_endsIn_37 : decode cX5_endsIn 37 = .ok (.ireturn, 1) := by decide +kernel
theorem dX5_lineNow_0 : decode cX5_lineNow 0 = .ok (.aload_n 0, 1) := by decide +kernel
theorem dX5_lineNow_1 : decode cX5_lineNow 1 = .ok (.iconst 5, 1) := by decide +kernel
theorem dX5_lineNow_2 : decode cX5_lineNow 2 = .ok (.bipush 97, 2) := by decide +kernel
theorem dX5_lineNow_4 : decode cX5_lineNow 4 = .ok (.bipush 108, 2) := by decide +kernel
theorem dX5_lineNow_6 : decode cX5_lineNow 6 = .ok (.bipush 105, 2) := by decide +kernel
theorem dX5_lineNow_8 : decode cX5_lineNow 8 = .ok (.invokevirtual 86, 3) := by decide +kernel
theorem dX5_lineNow_11 : decode cX5_lineNow 11 = .ok (.ifCond .eq 16, 3) := by decide +kernel
theorem dX5_lineNow_14 : decode cX5_lineNow 14 = .ok (.aload_n 0, 1) := by decide +kernel
theorem dX5_lineNow_15 : decode cX5_lineNow 15 = .ok (.bipush 107, 2) := by decide +kernel
theorem dX5_lineNow_17 : decode cX5_lineNow 17 = .ok (.bipush 101, 2) := by decide +kernel
theorem dX5_lineNow_19 : decode cX5_lineNow 19 = .ok (.invokevirtual 90, 3) := by decide +kernel
theorem dX5_lineNow_22 : decode cX5_lineNow 22 = .ok (.ifCond .eq 5, 3) := by decide +kernel
theorem dX5_lineNow_25 : decode cX5_lineNow 25 = .ok (.iconst 0, 1) := by decide +kernel
theorem dX5_lineNow_26 : decode cX5_lineNow 26 = .ok (.ireturn, 1) := by decide +kernel
theorem dX5_lineNow_27 : decode cX5_lineNow 27 = .ok (.aload_n 0, 1) := by decide +kernel
theorem dX5_lineNow_28 : decode cX5_lineNow 28 = .ok (.iconst 5, 1) := by decide +kernel
theorem dX5_lineNow_29 : decode cX5_lineNow 29 = .ok (.bipush 115, 2) := by decide +kernel
theorem dX5_lineNow_31 : decode cX5_lineNow 31 = .ok (.bipush 99, 2) := by decide +kernel
theorem dX5_lineNow_33 : decode cX5_lineNow 33 = .ok (.bipush 97, 2) := by decide +kernel
theorem dX5_lineNow_35 : decode cX5_lineNow 35 = .ok (.invokevirtual 86, 3) := by decide +kernel
theorem dX5_lineNow_38 : decode cX5_lineNow 38 = .ok (.ifCond .eq 16, 3) := by decide +kernel
theorem dX5_lineNow_41 : decode cX5_lineNow 41 = .ok (.aload_n 0, 1) := by decide +kernel
theorem dX5_lineNow_42 : decode cX5_lineNow 42 = .ok (.bipush 108, 2) := by decide +kernel
theorem dX5_lineNow_44 : decode cX5_lineNow 44 = .ok (.bipush 101, 2) := by decide +kernel
theorem dX5_lineNow_46 : decode cX5_lineNow 46 = .ok (.invokevirtual 90, 3) := by decide +kernel
theorem dX5_lineNow_49 : decode cX5_lineNow 49 = .ok (.ifCond .eq 5, 3) := by decide +kernel
theorem dX5_lineNow_52 : decode cX5_lineNow 52 = .ok (.iconst 1, 1) := by decide +kernel
theorem dX5_lineNow_53 : decode cX5_lineNow 53 = .ok (.ireturn, 1) := by decide +kernel
theorem dX5_lineNow_54 : decode cX5_lineNow 54 = .ok (.aload_n 0, 1) := by decide +kernel
theorem dX5_lineNow_55 : decode cX5_lineNow 55 = .ok (.iconst 4, 1) := by decide +kernel
theorem dX5_lineNow_56 : decode cX5_lineNow 56 = .ok (.bipush 115, 2) := by decide +kernel
theorem dX5_lineNow_58 : decode cX5_lineNow 58 = .ok (.bipush 104, 2) := by decide +kernel
theorem dX5_lineNow_60 : decode cX5_lineNow 60 = .ok (.bipush 117, 2) := by decide +kernel
theorem dX5_lineNow_62 : decode cX5_lineNow 62 = .ok (.invokevirtual 86, 3) := by decide +kernel
theorem dX5_lineNow_65 : decode cX5_lineNow 65 = .ok (.ifCond .eq 15, 3) := by decide +kernel
theorem dX5_lineNow_68 : decode cX5_lineNow 68 = .ok (.aload_n 0, 1) := by decide +kernel
theorem dX5_lineNow_69 : decode cX5_lineNow 69 = .ok (.bipush 116, 2) := by decide +kernel
theorem dX5_lineNow_71 : decode cX5_lineNow 71 = .ok (.iconst 0, 1) := by decide +kernel
theorem dX5_lineNow_72 : decode cX5_lineNow 72 = .ok (.invokevirtual 90, 3) := by decide +kernel
theorem dX5_lineNow_75 : decode cX5_lineNow 75 = .ok (.ifCond .eq 5, 3) := by decide +kernel
theorem dX5_lineNow_78 : decode cX5_lineNow 78 = .ok (.iconst 2, 1) := by decide +kernel
theorem dX5_lineNow_79 : decode cX5_lineNow 79 = .ok (.ireturn, 1) := by decide +kernel
theorem dX5_lineNow_80 : decode cX5_lineNow 80 = .ok (.aload_n 0, 1) := by decide +kernel
theorem dX5_lineNow_81 : decode cX5_lineNow 81 = .ok (.iconst 4, 1) := by decide +kernel
theorem dX5_lineNow_82 : decode cX5_lineNow 82 = .ok (.bipush 98, 2) := by decide +kernel
theorem dX5_lineNow_84 : decode cX5_lineNow 84 = .ok (.bipush 111, 2) := by decide +kernel
theorem dX5_lineNow_86 : decode cX5_lineNow 86 = .ok (.bipush 116, 2) := by decide +kernel
theorem dX5_lineNow_88 : decode cX5_lineNow 88 = .ok (.invokevirtual 86, 3) := by decide +kernel
theorem dX5_lineNow_91 : decode cX5_lineNow 91 = .ok (.ifCond .eq 15, 3) := by decide +kernel
theorem dX5_lineNow_94 : decode cX5_lineNow 94 = .ok (.aload_n 0, 1) := by decide +kernel
theorem dX5_lineNow_95 : decode cX5_lineNow 95 = .ok (.bipush 104, 2) := by decide +kernel
theorem dX5_lineNow_97 : decode cX5_lineNow 97 = .ok (.iconst 0, 1) := by decide +kernel
theorem dX5_lineNow_98 : decode cX5_lineNow 98 = .ok (.invokevirtual 90, 3) := by decide +kernel
theorem dX5_lineNow_101 : decode cX5_lineNow 101 = .ok (.ifCond .eq 5, 3) := by decide +kernel
theorem dX5_lineNow_104 : decode cX5_lineNow 104 = .ok (.iconst 3, 1) := by decide +kernel
theorem dX5_lineNow_105 : decode cX5_lineNow 105 = .ok (.ireturn, 1) := by decide +kernel
theorem dX5_lineNow_106 : decode cX5_lineNow 106 = .ok (.aload_n 0, 1) := by decide +kernel
theorem dX5_lineNow_107 : decode cX5_lineNow 107 = .ok (.iconst 5, 1) := by decide +kernel
theorem dX5_lineNow_108 : decode cX5_lineNow 108 = .ok (.bipush 112, 2) := by decide +kernel
theorem dX5_lineNow_110 : decode cX5_lineNow 110 = .ok (.bipush 114, 2) := by decide +kernel
theorem dX5_lineNow_112 : decode cX5_lineNow 112 = .ok (.bipush 101, 2) := by decide +kernel
theorem dX5_lineNow_114 : decode cX5_lineNow 114 = .ok (.invokevirtual 86, 3) := by decide +kernel
theorem dX5_lineNow_117 : decode cX5_lineNow 117 = .ok (.ifCond .eq 18, 3) := by decide +kernel
theorem dX5_lineNow_120 : decode cX5_lineNow 120 = .ok (.aload_n 0, 1) := by decide +kernel
theorem dX5_lineNow_121 : decode cX5_lineNow 121 = .ok (.bipush 115, 2) := by decide +kernel
theorem dX5_lineNow_123 : decode cX5_lineNow 123 = .ok (.bipush 115, 2) := by decide +kernel
theorem dX5_lineNow_125 : decode cX5_lineNow 125 = .ok (.invokevirtual 90, 3) := by decide +kernel
theorem dX5_lineNow_128 : decode cX5_lineNow 128 = .ok (.ifCond .eq 7, 3) := by decide +kernel
theorem dX5_lineNow_131 : decode cX5_lineNow 131 = .ok (.iconst 4, 1) := by decide +kernel
theorem dX5_lineNow_132 : decode cX5_lineNow 132 = .ok (.goto 34, 3) := by decide +kernel
theorem dX5_lineNow_135 : decode cX5_lineNow 135 = .ok (.aload_n 0, 1) := by decide +kernel
theorem dX5_lineNow_136 : decode cX5_lineNow 136 = .ok (.iconst 5, 1) := by decide +kernel
theorem dX5_lineNow_137 : decode cX5_lineNow 137 = .ok (.bipush 101, 2) := by decide +kernel
theorem dX5_lineNow_139 : decode cX5_lineNow 139 = .ok (.bipush 118, 2) := by decide +kernel
theorem dX5_lineNow_141 : decode cX5_lineNow 141 = .ok (.bipush 101, 2) := by decide +kernel
theorem dX5_lineNow_143 : decode cX5_lineNow 143 = .ok (.invokevirtual 86, 3) := by decide +kernel
theorem dX5_lineNow_146 : decode cX5_lineNow 146 = .ok (.ifCond .eq 18, 3) := by decide +kernel
theorem dX5_lineNow_149 : decode cX5_lineNow 149 = .ok (.aload_n 0, 1) := by decide +kernel
theorem dX5_lineNow_150 : decode cX5_lineNow 150 = .ok (.bipush 114, 2) := by decide +kernel
theorem dX5_lineNow_152 : decode cX5_lineNow 152 = .ok (.bipush 121, 2) := by decide +kernel
theorem dX5_lineNow_154 : decode cX5_lineNow 154 = .ok (.invokevirtual 90, 3) := by decide +kernel
theorem dX5_lineNow_157 : decode cX5_lineNow 157 = .ok (.ifCond .eq 7, 3) := by decide +kernel
theorem dX5_lineNow_160 : decode cX5_lineNow 160 = .ok (.iconst 5, 1) := by decide +kernel
theorem dX5_lineNow_161 : decode cX5_lineNow 161 = .ok (.goto 5, 3) := by decide +kernel
theorem dX5_lineNow_164 : decode cX5_lineNow 164 = .ok (.bipush (-4), 2) := by decide +kernel
theorem dX5_lineNow_166 : decode cX5_lineNow 166 = .ok (.ireturn, 1) := by decide +kernel
theorem dX5_reads_0 : decode cX5_reads 0 = .ok (.aload_n 0, 1) := by decide +kernel
theorem dX5_reads_1 : decode cX5_reads 1 = .ok (.getfield 70, 3) := by decide +kernel
theorem dX5_reads_4 : decode cX5_reads 4 = .ok (.ifCond .le 4, 3) := by decide +kernel
theorem dX5_reads_7 : decode cX5_reads 7 = .ok (.return_, 1) := by decide +kernel
theorem dX5_reads_8 : decode cX5_reads 8 = .ok (.aload_n 0, 1) := by decide +kernel
theorem dX5_reads_9 : decode cX5_reads 9 = .ok (.aload_n 0, 1) := by decide +kernel
theorem dX5_reads_10 : decode cX5_reads 10 = .ok (.getfield 79, 3) := by decide +kernel
theorem dX5_reads_13 : decode cX5_reads 13 = .ok (.invokevirtual 82, 3) := by decide +kernel
theorem dX5_reads_16 : decode cX5_reads 16 = .ok (.bipush 32, 2) := by decide +kernel
theorem dX5_reads_18 : decode cX5_reads 18 = .ok (.if_icmp .ne 16, 3) := by decide +kernel
theorem dX5_reads_21 : decode cX5_reads 21 = .ok (.aload_n 0, 1) := by decide +kernel
theorem dX5_reads_22 : decode cX5_reads 22 = .ok (.dup, 1) := by decide +kernel
theorem dX5_reads_23 : decode cX5_reads 23 = .ok (.getfield 79, 3) := by decide +kernel
theorem dX5_reads_26 : decode cX5_reads 26 = .ok (.iconst 1, 1) := by decide +kernel
theorem dX5_reads_27 : decode cX5_reads 27 = .ok (.iadd, 1) := by decide +kernel
theorem dX5_reads_28 : decode cX5_reads 28 = .ok (.putfield 79, 3) := by decide +kernel
theorem dX5_reads_31 : decode cX5_reads 31 = .ok (.goto (-23), 3) := by decide +kernel
theorem dX5_reads_34 : decode cX5_reads 34 = .ok (.aload_n 0, 1) := by decide +kernel
theorem dX5_reads_35 : decode cX5_reads 35 = .ok (.aload_n 0, 1) := by decide +kernel
theorem dX5_reads_36 : decode cX5_reads 36 = .ok (.getfield 79, 3) := by decide +kernel
theorem dX5_reads_39 : decode cX5_reads 39 = .ok (.putfield 73, 3) := by decide +kernel
theorem dX5_reads_42 : decode cX5_reads 42 = .ok (.aload_n 0, 1) := by decide +kernel
theorem dX5_reads_43 : decode cX5_reads 43 = .ok (.aload_n 0, 1) := by decide +kernel
theorem dX5_reads_44 : decode cX5_reads 44 = .ok (.getfield 79, 3) := by decide +kernel
theorem dX5_reads_47 : decode cX5_reads 47 = .ok (.invokevirtual 82, 3) := by decide +kernel
theorem dX5_reads_50 : decode cX5_reads 50 = .ok (.istore_n 1, 1) := by decide +kernel
theorem dX5_reads_51 : decode cX5_reads 51 = .ok (.iload_n 1, 1) := by decide +kernel
theorem dX5_reads_52 : decode cX5_reads 52 = .ok (.ifCond .ge 11, 3) := by decide +kernel
theorem dX5_reads_55 : decode cX5_reads 55 = .ok (.aload_n 0, 1) := by decide +kernel
theorem dX5_reads_56 : decode cX5_reads 56 = .ok (.iconst 0, 1) := by decide +kernel
theorem dX5_reads_57 : decode cX5_reads 57 = .ok (.putfield 94, 3) := by decide +kernel
theorem dX5_reads_60 : decode cX5_reads 60 = .ok (.goto 214, 3) := by decide +kernel
theorem dX5_reads_63 : decode cX5_reads 63 = .ok (.iload_n 1, 1) := by decide +kernel
theorem dX5_reads_64 : decode cX5_reads 64 = .ok (.i2l, 1) := by decide +kernel
theorem dX5_reads_65 : decode cX5_reads 65 = .ok (.ldc2_w 97, 3) := by decide +kernel
theorem dX5_reads_68 : decode cX5_reads 68 = .ok (.ldc2_w 99, 3) := by decide +kernel
theorem dX5_reads_71 : decode cX5_reads 71 = .ok (.invokestatic 63, 3) := by decide +kernel
theorem dX5_reads_74 : decode cX5_reads 74 = .ok (.ifCond .eq 42, 3) := by decide +kernel
theorem dX5_reads_77 : decode cX5_reads 77 = .ok (.aload_n 0, 1) := by decide +kernel
theorem dX5_reads_78 : decode cX5_reads 78 = .ok (.iconst 1, 1) := by decide +kernel
theorem dX5_reads_79 : decode cX5_reads 79 = .ok (.putfield 94, 3) := by decide +kernel
theorem dX5_reads_82 : decode cX5_reads 82 = .ok (.aload_n 0, 1) := by decide +kernel
theorem dX5_reads_83 : decode cX5_reads 83 = .ok (.aload_n 0, 1) := by decide +kernel
theorem dX5_reads_84 : decode cX5_reads 84 = .ok (.getfield 79, 3) := by decide +kernel
theorem dX5_reads_87 : decode cX5_reads 87 = .ok (.invokevirtual 82, 3) := by decide +kernel
theorem dX5_reads_90 : decode cX5_reads 90 = .ok (.i2l, 1) := by decide +kernel
theorem dX5_reads_91 : decode cX5_reads 91 = .ok (.ldc2_w 97, 3) := by decide +kernel
theorem dX5_reads_94 : decode cX5_reads 94 = .ok (.ldc2_w 99, 3) := by decide +kernel
theorem dX5_reads_97 : decode cX5_reads 97 = .ok (.invokestatic 63, 3) := by decide +kernel
theorem dX5_reads_100 : decode cX5_reads 100 = .ok (.ifCond .eq 174, 3) := by decide +kernel
theorem dX5_reads_103 : decode cX5_reads 103 = .ok (.aload_n 0, 1) := by decide +kernel
theorem dX5_reads_104 : decode cX5_reads 104 = .ok (.dup, 1) := by decide +kernel
theorem dX5_reads_105 : decode cX5_reads 105 = .ok (.getfield 79, 3) := by decide +kernel
theorem dX5_reads_108 : decode cX5_reads 108 = .ok (.iconst 1, 1) := by decide +kernel
theorem dX5_reads_109 : decode cX5_reads 109 = .ok (.iadd, 1) := by decide +kernel
theorem dX5_reads_110 : decode cX5_reads 110 = .ok (.putfield 79, 3) := by decide +kernel
theorem dX5_reads_113 : decode cX5_reads 113 = .ok (.goto (-31), 3) := by decide +kernel
theorem dX5_reads_116 : decode cX5_reads 116 = .ok (.iload_n 1, 1) := by decide +kernel
theorem dX5_reads_117 : decode cX5_reads 117 = .ok (.i2l, 1) := by decide +kernel
theorem dX5_reads_118 : decode cX5_reads 118 = .ok (.ldc2_w 101, 3) := by decide +kernel
theorem dX5_reads_121 : decode cX5_reads 121 = .ok (.ldc2_w 103, 3) := by decide +kernel
theorem dX5_reads_124 : decode cX5_reads 124 = .ok (.invokestatic 63, 3) := by decide +kernel
theorem dX5_reads_127 : decode cX5_reads 127 = .ok (.ifCond .eq 116, 3) := by decide +kernel
theorem dX5_reads_130 : decode cX5_reads 130 = .ok (.aload_n 0, 1) := by decide +kernel
theorem dX5_reads_131 : decode cX5_reads 131 = .ok (.iconst 2, 1) := by decide +kernel
theorem dX5_reads_132 : decode cX5_reads 132 = .ok (.putfield 94, 3) := by decide +kernel
theorem dX5_reads_135 : decode cX5_reads 135 = .ok (.aload_n 0, 1) := by decide +kernel
theorem dX5_reads_136 : decode cX5_reads 136 = .ok (.iconst 0, 1) := by decide +kernel
theorem dX5_reads_137 : decode cX5_reads 137 = .ok (.putfield 105, 3) := by decide +kernel
theorem dX5_reads_140 : decode cX5_reads 140 = .ok (.aload_n 0, 1) := by decide +kernel
theorem dX5_reads_141 : decode cX5_reads 141 = .ok (.aload_n 0, 1) := by decide +kernel
theorem dX5_reads_142 : decode cX5_reads 142 = .ok (.getfield 79, 3) := by decide +kernel
theorem dX5_reads_145 : decode cX5_reads 145 = .ok (.invokevirtual 82, 3) := by decide +kernel
theorem dX5_reads_148 : decode cX5_reads 148 = .ok (.i2l, 1) := by decide +kernel
theorem dX5_reads_149 : decode cX5_reads 149 = .ok (.ldc2_w 101, 3) := by decide +kernel
theorem dX5_reads_152 : decode cX5_reads 152 = .ok (.ldc2_w 103, 3) := by decide +kernel
theorem dX5_reads_155 : decode cX5_reads 155 = .ok (.invokestatic 63, 3) := by decide +kernel
theorem dX5_reads_158 : decode cX5_reads 158 = .ok (.ifCond .eq 59, 3) := by decide +kernel
theorem dX5_reads_161 : decode cX5_reads 161 = .ok (.aload_n 0, 1) := by decide +kernel
theorem dX5_reads_162 : decode cX5_reads 162 = .ok (.aload_n 0, 1) := by decide +kernel
theorem dX5_reads_163 : decode cX5_reads 163 = .ok (.getfield 79, 3) := by decide +kernel
theorem dX5_reads_166 : decode cX5_reads 166 = .ok (.aload_n 0, 1) := by decide +kernel
theorem dX5_reads_167 : decode cX5_reads 167 = .ok (.getfield 73, 3) := by decide +kernel
theorem dX5_reads_170 : decode cX5_reads 170 = .ok (.isub, 1) := by decide +kernel
theorem dX5_reads_171 : decode cX5_reads 171 = .ok (.iconst 2, 1) := by decide +kernel
theorem dX5_reads_172 : decode cX5_reads 172 = .ok (.if_icmp .ge 25, 3) := by decide +kernel
theorem dX5_reads_175 : decode cX5_reads 175 = .ok (.bipush 10, 2) := by decide +kernel
theorem dX5_reads_177 : decode cX5_reads 177 = .ok (.aload_n 0, 1) := by decide +kernel
theorem dX5_reads_178 : decode cX5_reads 178 = .ok (.getfield 105, 3) := by decide +kernel
theorem dX5_reads_181 : decode cX5_reads 181 = .ok (.imul, 1) := by decide +kernel
theorem dX5_reads_182 : decode cX5_reads 182 = .ok (.aload_n 0, 1) := by decide +kernel
theorem dX5_reads_183 : decode cX5_reads 183 = .ok (.aload_n 0, 1) := by decide +kernel
theorem dX5_reads_184 : decode cX5_reads 184 = .ok (.getfield 79, 3) := by decide +kernel
theorem dX5_reads_187 : decode cX5_reads 187 = .ok (.invokevirtual 82, 3) := by decide +kernel
theorem dX5_reads_190 : decode cX5_reads 190 = .ok (.iadd, 1) := by decide +kernel
theorem dX5_reads_191 : decode cX5_reads 191 = .ok (.bipush 48, 2) := by decide +kernel
theorem dX5_reads_193 : decode cX5_reads 193 = .ok (.isub, 1) := by decide +kernel
theorem dX5_reads_194 : decode cX5_reads 194 = .ok (.goto 7, 3) := by decide +kernel
theorem dX5_reads_197 : decode cX5_reads 197 = .ok (.aload_n 0, 1) := by decide +kernel
theorem dX5_reads_198 : decode cX5_reads 198 = .ok (.getfield 105, 3) := by decide +kernel
theorem dX5_reads_201 : decode cX5_reads 201 = .ok (.putfield 105, 3) := by decide +kernel
theorem dX5_reads_204 : decode cX5_reads 204 = .ok (.aload_n 0, 1) := by decide +kernel
theorem dX5_reads_205 : decode cX5_reads 205 = .ok (.dup, 1) := by decide +kernel
theorem dX5_reads_206 : decode cX5_reads 206 = .ok (.getfield 79, 3) := by decide +kernel
theorem dX5_reads_209 : decode cX5_reads 209 = .ok (.iconst 1, 1) := by decide +kernel
theorem dX5_reads_210 : decode cX5_reads 210 = .ok (.iadd, 1) := by decide +kernel
theorem dX5_reads_211 : decode cX5_reads 211 = .ok (.putfield 79, 3) := by decide +kernel
theorem dX5_reads_214 : decode cX5_reads 214 = .ok (.goto (-74), 3) := by decide +kernel
theorem dX5_reads_217 : decode cX5_reads 217 = .ok (.aload_n 0, 1) := by decide +kernel
theorem dX5_reads_218 : decode cX5_reads 218 = .ok (.aload_n 0, 1) := by decide +kernel
theorem dX5_reads_219 : decode cX5_reads 219 = .ok (.getfield 79, 3) := by decide +kernel
theorem dX5_reads_222 : decode cX5_reads 222 = .ok (.aload_n 0, 1) := by decide +kernel
theorem dX5_reads_223 : decode cX5_reads 223 = .ok (.getfield 73, 3) := by decide +kernel
theorem dX5_reads_226 : decode cX5_reads 226 = .ok (.isub, 1) := by decide +kernel
theorem dX5_reads_227 : decode cX5_reads 227 = .ok (.iconst 2, 1) := by decide +kernel
theorem dX5_reads_228 : decode cX5_reads 228 = .ok (.if_icmp .gt 7, 3) := by decide +kernel
theorem dX5_reads_231 : decode cX5_reads 231 = .ok (.iconst 1, 1) := by decide +kernel
theorem dX5_reads_232 : decode cX5_reads 232 = .ok (.goto 4, 3) := by decide +kernel
theorem dX5_reads_235 : decode cX5_reads 235 = .ok (.iconst 0, 1) := by decide +kernel
theorem dX5_reads_236 : decode cX5_reads 236 = .ok (.iconst 1, 1) := by decide +kernel
theorem dX5_reads_237 : decode cX5_reads 237 = .ok (.invokevirtual 108, 3) := by decide +kernel
theorem dX5_reads_240 : decode cX5_reads 240 = .ok (.goto 34, 3) := by decide +kernel
theorem dX5_reads_243 : decode cX5_reads 243 = .ok (.aload_n 0, 1) := by decide +kernel
theorem dX5_reads_244 : decode cX5_reads 244 = .ok (.iconst 3, 1) := by decide +kernel
theorem dX5_reads_245 : decode cX5_reads 245 = .ok (.putfield 94, 3) := by decide +kernel
theorem dX5_reads_248 : decode cX5_reads 248 = .ok (.aload_n 0, 1) := by decide +kernel
theorem dX5_reads_249 : decode cX5_reads 249 = .ok (.iload_n 1, 1) := by decide +kernel
theorem dX5_reads_250 : decode cX5_reads 250 = .ok (.bipush 59, 2) := by decide +kernel
theorem dX5_reads_252 : decode cX5_reads 252 = .ok (.if_icmp .ne 7, 3) := by decide +kernel
theorem dX5_reads_255 : decode cX5_reads 255 = .ok (.iconst 1, 1) := by decide +kernel
theorem dX5_reads_256 : decode cX5_reads 256 = .ok (.goto 4, 3) := by decide +kernel
theorem dX5_reads_259 : decode cX5_reads 259 = .ok (.iconst 0, 1) := by decide +kernel
theorem dX5_reads_260 : decode cX5_reads 260 = .ok (.iconst 1, 1) := by decide +kernel
theorem dX5_reads_261 : decode cX5_reads 261 = .ok (.invokevirtual 108, 3) := by decide +kernel
theorem dX5_reads_264 : decode cX5_reads 264 = .ok (.aload_n 0, 1) := by decide +kernel
theorem dX5_reads_265 : decode cX5_reads 265 = .ok (.dup, 1) := by decide +kernel
theorem dX5_reads_266 : decode cX5_reads 266 = .ok (.getfield 79, 3) := by decide +kernel
theorem dX5_reads_269 : decode cX5_reads 269 = .ok (.iconst 1, 1) := by decide +kernel
theorem dX5_reads_270 : decode cX5_reads 270 = .ok (.iadd, 1) := by decide +kernel
theorem dX5_reads_271 : decode cX5_reads 271 = .ok (.putfield 79, 3) := by decide +kernel
theorem dX5_reads_274 : decode cX5_reads 274 = .ok (.return_, 1) := by decide +kernel
theorem dX5_readNumber_0 : decode cX5_readNumber 0 = .ok (.aload_n 0, 1) := by decide +kernel
theorem dX5_readNumber_1 : decode cX5_readNumber 1 = .ok (.getfield 70, 3) := by decide +kernel
theorem dX5_readNumber_4 : decode cX5_readNumber 4 = .ok (.ifCond .ne 21, 3) := by decide +kernel
theorem dX5_readNumber_7 : decode cX5_readNumber 7 = .ok (.aload_n 0, 1) := by decide +kernel
theorem dX5_readNumber_8 : decode cX5_readNumber 8 = .ok (.aload_n 0, 1) := by decide +kernel
theorem dX5_readNumber_9 : decode cX5_readNumber 9 = .ok (.getfield 94, 3) := by decide +kernel
theorem dX5_readNumber_12 : decode cX5_readNumber 12 = .ok (.iconst 2, 1) := by decide +kernel
theorem dX5_readNumber_13 : decode cX5_readNumber 13 = .ok (.if_icmp .ne 7, 3) := by decide +kernel
theorem dX5_readNumber_16 : decode cX5_readNumber 16 = .ok (.iconst 1, 1) := by decide +kernel
theorem dX5_readNumber_17 : decode cX5_readNumber 17 = .ok (.goto 4, 3) := by decide +kernel
theorem dX5_readNumber_20 : decode cX5_readNumber 20 = .ok (.iconst 0, 1) := by decide +kernel
theorem dX5_readNumber_21 : decode cX5_readNumber 21 = .ok (.iconst 2, 1) := by decide +kernel
theorem dX5_readNumber_22 : decode cX5_readNumber 22 = .ok (.invokevirtual 108, 3) := by decide +kernel
theorem dX5_readNumber_25 : decode cX5_readNumber 25 = .ok (.aload_n 0, 1) := by decide +kernel
theorem dX5_readNumber_26 : decode cX5_readNumber 26 = .ok (.getfield 70, 3) := by decide +kernel
theorem dX5_readNumber_29 : decode cX5_readNumber 29 = .ok (.ifCond .ne 20, 3) := by decide +kernel
theorem dX5_readNumber_32 : decode cX5_readNumber 32 = .ok (.aload_n 0, 1) := by decide +kernel
theorem dX5_readNumber_33 : decode cX5_readNumber 33 = .ok (.aload_n 0, 1) := by decide +kernel
theorem dX5_readNumber_34 : decode cX5_readNumber 34 = .ok (.getfield 105, 3) := by decide +kernel
theorem dX5_readNumber_37 : decode cX5_readNumber 37 = .ok (.i2l, 1) := by decide +kernel
theorem dX5_readNumber_38 : decode cX5_readNumber 38 = .ok (.iload_n 1, 1) := by decide +kernel
theorem dX5_readNumber_39 : decode cX5_readNumber 39 = .ok (.i2l, 1) := by decide +kernel
theorem dX5_readNumber_40 : decode cX5_readNumber 40 = .ok (.iload_n 2, 1) := by decide +kernel
theorem dX5_readNumber_41 : decode cX5_readNumber 41 = .ok (.i2l, 1) := by decide +kernel
theorem dX5_readNumber_42 : decode cX5_readNumber 42 = .ok (.invokestatic 63, 3) := by decide +kernel
theorem dX5_readNumber_45 : decode cX5_readNumber 45 = .ok (.iconst 3, 1) := by decide +kernel
theorem dX5_readNumber_46 : decode cX5_readNumber 46 = .ok (.invokevirtual 108, 3) := by decide +kernel
theorem dX5_readNumber_49 : decode cX5_readNumber 49 = .ok (.aload_n 0, 1) := by decide +kernel
theorem dX5_readNumber_50 : decode cX5_readNumber 50 = .ok (.getfield 70, 3) := by decide +kernel
theorem dX5_readNumber_53 : decode cX5_readNumber 53 = .ok (.ifCond .ne 10, 3) := by decide +kernel
theorem dX5_readNumber_56 : decode cX5_readNumber 56 = .ok (.aload_n 0, 1) := by decide +kernel
theorem dX5_readNumber_57 : decode cX5_readNumber 57 = .ok (.getfield 105, 3) := by decide +kernel
theorem dX5_readNumber_60 : decode cX5_readNumber 60 = .ok (.goto 4, 3) := by decide +kernel
theorem dX5_readNumber_63 : decode cX5_readNumber 63 = .ok (.iconst 0, 1) := by decide +kernel
theorem dX5_readNumber_64 : decode cX5_readNumber 64 = .ok (.istore_n 3, 1) := by decide +kernel
theorem dX5_readNumber_65 : decode cX5_readNumber 65 = .ok (.aload_n 0, 1) := by decide +kernel
theorem dX5_readNumber_66 : decode cX5_readNumber 66 = .ok (.invokevirtual 112, 3) := by decide +kernel
theorem dX5_readNumber_69 : decode cX5_readNumber 69 = .ok (.iload_n 3, 1) := by decide +kernel
theorem dX5_readNumber_70 : decode cX5_readNumber 70 = .ok (.ireturn, 1) := by decide +kernel
theorem dX5_readPress_0 : decode cX5_readPress 0 = .ok (.bipush 29, 2) := by decide +kernel
theorem dX5_readPress_2 : decode cX5_readPress 2 = .ok (.iconst 3, 1) := by decide +kernel
theorem dX5_readPress_3 : decode cX5_readPress 3 = .ok (.aload_n 0, 1) := by decide +kernel
theorem dX5_readPress_4 : decode cX5_readPress 4 = .ok (.getfield 20, 3) := by decide +kernel
theorem dX5_readPress_7 : decode cX5_readPress 7 = .ok (.bipush 53, 2) := by decide +kernel
theorem dX5_readPress_9 : decode cX5_readPress 9 = .ok (.iaload, 1) := by decide +kernel
theorem dX5_readPress_10 : decode cX5_readPress 10 = .ok (.imul, 1) := by decide +kernel
theorem dX5_readPress_11 : decode cX5_readPress 11 = .ok (.iadd, 1) := by decide +kernel
theorem dX5_readPress_12 : decode cX5_readPress 12 = .ok (.istore_n 1, 1) := by decide +kernel
theorem dX5_readPress_13 : decode cX5_readPress 13 = .ok (.aload_n 0, 1) := by decide +kernel
theorem dX5_readPress_14 : decode cX5_readPress 14 = .ok (.getfield 20, 3) := by decide +kernel
theorem dX5_readPress_17 : decode cX5_readPress 17 = .ok (.iload_n 1, 1) := by decide +kernel
theorem dX5_readPress_18 : decode cX5_readPress 18 = .ok (.iconst 0, 1) := by decide +kernel
theorem dX5_readPress_19 : decode cX5_readPress 19 = .ok (.iadd, 1) := by decide +kernel
theorem dX5_readPress_20 : decode cX5_readPress 20 = .ok (.aload_n 0, 1) := by decide +kernel
theorem dX5_readPress_21 : decode cX5_readPress 21 = .ok (.iconst 0, 1) := by decide +kernel
theorem dX5_readPress_22 : decode cX5_readPress 22 = .ok (.bipush 99, 2) := by decide +kernel
theorem dX5_readPress_24 : decode cX5_readPress 24 = .ok (.invokevirtual 115, 3) := by decide +kernel
theorem dX5_readPress_27 : decode cX5_readPress 27 = .ok (.iastore, 1) := by decide +kernel
theorem dX5_readPress_28 : decode cX5_readPress 28 = .ok (.aload_n 0, 1) := by decide +kernel
theorem dX5_readPress_29 : decode cX5_readPress 29 = .ok (.getfield 20, 3) := by decide +kernel
theorem dX5_readPress_32 : decode cX5_readPress 32 = .ok (.iload_n 1, 1) := by decide +kernel
theorem dX5_readPress_33 : decode cX5_readPress 33 = .ok (.iconst 1, 1) := by decide +kernel
theorem dX5_readPress_34 : decode cX5_readPress 34 = .ok (.iadd, 1) := by decide +kernel
theorem dX5_readPress_35 : decode cX5_readPress 35 = .ok (.aload_n 0, 1) := by decide +kernel
theorem dX5_readPress_36 : decode cX5_readPress 36 = .ok (.iconst 0, 1) := by decide +kernel
theorem dX5_readPress_37 : decode cX5_readPress 37 = .ok (.iconst 3, 1) := by decide +kernel
theorem dX5_readPress_38 : decode cX5_readPress 38 = .ok (.invokevirtual 115, 3) := by decide +kernel
theorem dX5_readPress_41 : decode cX5_readPress 41 = .ok (.iastore, 1) := by decide +kernel
theorem dX5_readPress_42 : decode cX5_readPress 42 = .ok (.aload_n 0, 1) := by decide +kernel
theorem dX5_readPress_43 : decode cX5_readPress 43 = .ok (.aload_n 0, 1) := by decide +kernel
theorem dX5_readPress_44 : decode cX5_readPress 44 = .ok (.getfield 20, 3) := by decide +kernel
theorem dX5_readPress_47 : decode cX5_readPress 47 = .ok (.iload_n 1, 1) := by decide +kernel
theorem dX5_readPress_48 : decode cX5_readPress 48 = .ok (.iconst 1, 1) := by decide +kernel
theorem dX5_readPress_49 : decode cX5_readPress 49 = .ok (.iadd, 1) := by decide +kernel
theorem dX5_readPress_50 : decode cX5_readPress 50 = .ok (.iaload, 1) := by decide +kernel
theorem dX5_readPress_51 : decode cX5_readPress 51 = .ok (.aload_n 0, 1) := by decide +kernel
theorem dX5_readPress_52 : decode cX5_readPress 52 = .ok (.getfield 57, 3) := by decide +kernel
theorem dX5_readPress_55 : decode cX5_readPress 55 = .ok (.if_icmp .le 14, 3) := by decide +kernel
theorem dX5_readPress_58 : decode cX5_readPress 58 = .ok (.aload_n 0, 1) := by decide +kernel
theorem dX5_readPress_59 : decode cX5_readPress 59 = .ok (.getfield 20, 3) := by decide +kernel
theorem dX5_readPress_62 : decode cX5_readPress 62 = .ok (.iload_n 1, 1) := by decide +kernel
theorem dX5_readPress_63 : decode cX5_readPress 63 = .ok (.iconst 1, 1) := by decide +kernel
theorem dX5_readPress_64 : decode cX5_readPress 64 = .ok (.iadd, 1) := by decide +kernel
theorem dX5_readPress_65 : decode cX5_readPress 65 = .ok (.iaload, 1) := by decide +kernel
theorem dX5_readPress_66 : decode cX5_readPress 66 = .ok (.goto 7, 3) := by decide +kernel
theorem dX5_readPress_69 : decode cX5_readPress 69 = .ok (.aload_n 0, 1) := by decide +kernel
theorem dX5_readPress_70 : decode cX5_readPress 70 = .ok (.getfield 57, 3) := by decide +kernel
theorem dX5_readPress_73 : decode cX5_readPress 73 = .ok (.putfield 57, 3) := by decide +kernel
theorem dX5_readPress_76 : decode cX5_readPress 76 = .ok (.aload_n 0, 1) := by decide +kernel
theorem dX5_readPress_77 : decode cX5_readPress 77 = .ok (.getfield 20, 3) := by decide +kernel
theorem dX5_readPress_80 : decode cX5_readPress 80 = .ok (.iload_n 1, 1) := by decide +kernel
theorem dX5_readPress_81 : decode cX5_readPress 81 = .ok (.iconst 2, 1) := by decide +kernel
theorem dX5_readPress_82 : decode cX5_readPress 82 = .ok (.iadd, 1) := by decide +kernel
theorem dX5_readPress_83 : decode cX5_readPress 83 = .ok (.aload_n 0, 1) := by decide +kernel
theorem dX5_readPress_84 : decode cX5_readPress 84 = .ok (.iconst 0, 1) := by decide +kernel
theorem dX5_readPress_85 : decode cX5_readPress 85 = .ok (.iconst 1, 1) := by decide +kernel
theorem dX5_readPress_86 : decode cX5_readPress 86 = .ok (.invokevirtual 115, 3) := by decide +kernel
theorem dX5_readPress_89 : decode cX5_readPress 89 = .ok (.iastore, 1) := by decide +kernel
theorem dX5_readPress_90 : decode cX5_readPress 90 = .ok (.aload_n 0, 1) := by decide +kernel
theorem dX5_readPress_91 : decode cX5_readPress 91 = .ok (.getfield 20, 3) := by decide +kernel
theorem dX5_readPress_94 : decode cX5_readPress 94 = .ok (.bipush 53, 2) := by decide +kernel
theorem dX5_readPress_96 : decode cX5_readPress 96 = .ok (.dup2, 1) := by decide +kernel
theorem dX5_readPress_97 : decode cX5_readPress 97 = .ok (.iaload, 1) := by decide +kernel
theorem dX5_readPress_98 : decode cX5_readPress 98 = .ok (.iconst 1, 1) := by decide +kernel
theorem dX5_readPress_99 : decode cX5_readPress 99 = .ok (.iadd, 1) := by decide +kernel
theorem dX5_readPress_100 : decode cX5_readPress 100 = .ok (.iastore, 1) := by decide +kernel
theorem dX5_readPress_101 : decode cX5_readPress 101 = .ok (.return_, 1) := by decide +kernel
theorem dX5_readLineOf_0 : decode cX5_readLineOf 0 = .ok (.iload_n 1, 1) := by decide +kernel
theorem dX5_readLineOf_1 : decode cX5_readLineOf 1 = .ok (.lookupswitch 50 #[(4, 27), (5, 34)], 27) := by decide +kernel
theorem dX5_readLineOf_28 : decode cX5_readLineOf 28 = .ok (.aload_n 0, 1) := by decide +kernel
theorem dX5_readLineOf_29 : decode cX5_readLineOf 29 = .ok (.invokevirtual 119, 3) := by decide +kernel
theorem dX5_readLineOf_32 : decode cX5_readLineOf 32 = .ok (.goto 96, 3) := by decide +kernel
theorem dX5_readLineOf_35 : decode cX5_readLineOf 35 = .ok (.aload_n 0, 1) := by decide +kernel
theorem dX5_readLineOf_36 : decode cX5_readLineOf 36 = .ok (.getfield 20, 3) := by decide +kernel
theorem dX5_readLineOf_39 : decode cX5_readLineOf 39 = .ok (.bipush 54, 2) := by decide +kernel
theorem dX5_readLineOf_41 : decode cX5_readLineOf 41 = .ok (.aload_n 0, 1) := by decide +kernel
theorem dX5_readLineOf_42 : decode cX5_readLineOf 42 = .ok (.iconst 1, 1) := by decide +kernel
theorem dX5_readLineOf_43 : decode cX5_readLineOf 43 = .ok (.iconst 4, 1) := by decide +kernel
theorem dX5_readLineOf_44 : decode cX5_readLineOf 44 = .ok (.invokevirtual 115, 3) := by decide +kernel
theorem dX5_readLineOf_47 : decode cX5_readLineOf 47 = .ok (.iastore, 1) := by decide +kernel
theorem dX5_readLineOf_48 : decode cX5_readLineOf 48 = .ok (.goto 80, 3) := by decide +kernel
theorem dX5_readLineOf_51 : decode cX5_readLineOf 51 = .ok (.aload_n 0, 1) := by decide +kernel
theorem dX5_readLineOf_52 : decode cX5_readLineOf 52 = .ok (.getfield 20, 3) := by decide +kernel
theorem dX5_readLineOf_55 : decode cX5_readLineOf 55 = .ok (.bipush 7, 2) := by decide +kernel
theorem dX5_readLineOf_57 : decode cX5_readLineOf 57 = .ok (.aload_n 0, 1) := by decide +kernel
theorem dX5_readLineOf_58 : decode cX5_readLineOf 58 = .ok (.getfield 20, 3) := by decide +kernel
theorem dX5_readLineOf_61 : decode cX5_readLineOf 61 = .ok (.bipush 28, 2) := by decide +kernel
theorem dX5_readLineOf_63 : decode cX5_readLineOf 63 = .ok (.iaload, 1) := by decide +kernel
theorem dX5_readLineOf_64 : decode cX5_readLineOf 64 = .ok (.imul, 1) := by decide +kernel
theorem dX5_readLineOf_65 : decode cX5_readLineOf 65 = .ok (.iconst 1, 1) := by decide +kernel
theorem dX5_readLineOf_66 : decode cX5_readLineOf 66 = .ok (.iadd, 1) := by decide +kernel
theorem dX5_readLineOf_67 : decode cX5_readLineOf 67 = .ok (.iload_n 1, 1) := by decide +kernel
theorem dX5_readLineOf_68 : decode cX5_readLineOf 68 = .ok (.iastore, 1) := by decide +kernel
theorem dX5_readLineOf_69 : decode cX5_readLineOf 69 = .ok (.aload_n 0, 1) := by decide +kernel
theorem dX5_readLineOf_70 : decode cX5_readLineOf 70 = .ok (.getfield 20, 3) := by decide +kernel
theorem dX5_readLineOf_73 : decode cX5_readLineOf 73 = .ok (.bipush 7, 2) := by decide +kernel
theorem dX5_readLineOf_75 : decode cX5_readLineOf 75 = .ok (.aload_n 0, 1) := by decide +kernel
theorem dX5_readLineOf_76 : decode cX5_readLineOf 76 = .ok (.getfield 20, 3) := by decide +kernel
theorem dX5_readLineOf_79 : decode cX5_readLineOf 79 = .ok (.bipush 28, 2) := by decide +kernel
theorem dX5_readLineOf_81 : decode cX5_readLineOf 81 = .ok (.iaload, 1) := by decide +kernel
theorem dX5_readLineOf_82 : decode cX5_readLineOf 82 = .ok (.imul, 1) := by decide +kernel
theorem dX5_readLineOf_83 : decode cX5_readLineOf 83 = .ok (.iconst 0, 1) := by decide +kernel
theorem dX5_readLineOf_84 : decode cX5_readLineOf 84 = .ok (.iadd, 1) := by decide +kernel
theorem dX5_readLineOf_85 : decode cX5_readLineOf 85 = .ok (.aload_n 0, 1) := by decide +kernel
theorem dX5_readLineOf_86 : decode cX5_readLineOf 86 = .ok (.iconst 0, 1) := by decide +kernel
theorem dX5_readLineOf_87 : decode cX5_readLineOf 87 = .ok (.bipush 9, 2) := by decide +kernel
theorem dX5_readLineOf_89 : decode cX5_readLineOf 89 = .ok (.invokevirtual 115, 3) := by decide +kernel
theorem dX5_readLineOf_92 : decode cX5_readLineOf 92 = .ok (.iastore, 1) := by decide +kernel
theorem dX5_readLineOf_93 : decode cX5_readLineOf 93 = .ok (.aload_n 0, 1) := by decide +kernel
theorem dX5_readLineOf_94 : decode cX5_readLineOf 94 = .ok (.getfield 20, 3) := by decide +kernel
theorem dX5_readLineOf_97 : decode cX5_readLineOf 97 = .ok (.bipush 7, 2) := by decide +kernel
theorem dX5_readLineOf_99 : decode cX5_readLineOf 99 = .ok (.aload_n 0, 1) := by decide +kernel
theorem dX5_readLineOf_100 : decode cX5_readLineOf 100 = .ok (.getfield 20, 3) := by decide +kernel
theorem dX5_readLineOf_103 : decode cX5_readLineOf 103 = .ok (.bipush 28, 2) := by decide +kernel
theorem dX5_readLineOf_105 : decode cX5_readLineOf 105 = .ok (.iaload, 1) := by decide +kernel
theorem dX5_readLineOf_106 : decode cX5_readLineOf 106 = .ok (.imul, 1) := by decide +kernel
theorem dX5_readLineOf_107 : decode cX5_readLineOf 107 = .ok (.iconst 2, 1) := by decide +kernel
theorem dX5_readLineOf_108 : decode cX5_readLineOf 108 = .ok (.iadd, 1) := by decide +kernel
theorem dX5_readLineOf_109 : decode cX5_readLineOf 109 = .ok (.aload_n 0, 1) := by decide +kernel
theorem dX5_readLineOf_110 : decode cX5_readLineOf 110 = .ok (.iconst 1, 1) := by decide +kernel
theorem dX5_readLineOf_111 : decode cX5_readLineOf 111 = .ok (.bipush 9, 2) := by decide +kernel
theorem dX5_readLineOf_113 : decode cX5_readLineOf 113 = .ok (.invokevirtual 115, 3) := by decide +kernel
theorem dX5_readLineOf_116 : decode cX5_readLineOf 116 = .ok (.iastore, 1) := by decide +kernel
theorem dX5_readLineOf_117 : decode cX5_readLineOf 117 = .ok (.aload_n 0, 1) := by decide +kernel
theorem dX5_readLineOf_118 : decode cX5_readLineOf 118 = .ok (.getfield 20, 3) := by decide +kernel
theorem dX5_readLineOf_121 : decode cX5_readLineOf 121 = .ok (.bipush 28, 2) := by decide +kernel
theorem dX5_readLineOf_123 : decode cX5_readLineOf 123 = .ok (.dup2, 1) := by decide +kernel
theorem dX5_readLineOf_124 : decode cX5_readLineOf 124 = .ok (.iaload, 1) := by decide +kernel
theorem dX5_readLineOf_125 : decode cX5_readLineOf 125 = .ok (.iconst 1, 1) := by decide +kernel
theorem dX5_readLineOf_126 : decode cX5_readLineOf 126 = .ok (.iadd, 1) := by decide +kernel
theorem dX5_readLineOf_127 : decode cX5_readLineOf 127 = .ok (.iastore, 1) := by decide +kernel
theorem dX5_readLineOf_128 : decode cX5_readLineOf 128 = .ok (.return_, 1) := by decide +kernel
theorem dX5_readLine_0 : decode cX5_readLine 0 = .ok (.aload_n 0, 1) := by decide +kernel
theorem dX5_readLine_1 : decode cX5_readLine 1 = .ok (.getfield 94, 3) := by decide +kernel
theorem dX5_readLine_4 : decode cX5_readLine 4 = .ok (.iconst 1, 1) := by decide +kernel
theorem dX5_readLine_5 : decode cX5_readLine 5 = .ok (.if_icmp .ne 10, 3) := by decide +kernel
theorem dX5_readLine_8 : decode cX5_readLine 8 = .ok (.aload_n 0, 1) := by decide +kernel
theorem dX5_readLine_9 : decode cX5_readLine 9 = .ok (.invokevirtual 122, 3) := by decide +kernel
theorem dX5_readLine_12 : decode cX5_readLine 12 = .ok (.goto 5, 3) := by decide +kernel
theorem dX5_readLine_15 : decode cX5_readLine 15 = .ok (.bipush (-4), 2) := by decide +kernel
theorem dX5_readLine_17 : decode cX5_readLine 17 = .ok (.istore_n 1, 1) := by decide +kernel
theorem dX5_readLine_18 : decode cX5_readLine 18 = .ok (.aload_n 0, 1) := by decide +kernel
theorem dX5_readLine_19 : decode cX5_readLine 19 = .ok (.iload_n 1, 1) := by decide +kernel
theorem dX5_readLine_20 : decode cX5_readLine 20 = .ok (.bipush (-4), 2) := by decide +kernel
theorem dX5_readLine_22 : decode cX5_readLine 22 = .ok (.if_icmp .eq 7, 3) := by decide +kernel
theorem dX5_readLine_25 : decode cX5_readLine 25 = .ok (.iconst 1, 1) := by decide +kernel
theorem dX5_readLine_26 : decode cX5_readLine 26 = .ok (.goto 4, 3) := by decide +kernel
theorem dX5_readLine_29 : decode cX5_readLine 29 = .ok (.iconst 0, 1) := by decide +kernel
theorem dX5_readLine_30 : decode cX5_readLine 30 = .ok (.iconst 2, 1) := by decide +kernel
theorem dX5_readLine_31 : decode cX5_readLine 31 = .ok (.invokevirtual 108, 3) := by decide +kernel
theorem dX5_readLine_34 : decode cX5_readLine 34 = .ok (.aload_n 0, 1) := by decide +kernel
theorem dX5_readLine_35 : decode cX5_readLine 35 = .ok (.iload_n 1, 1) := by decide +kernel
theorem dX5_readLine_36 : decode cX5_readLine 36 = .ok (.iconst 4, 1) := by decide +kernel
theorem dX5_readLine_37 : decode cX5_readLine 37 = .ok (.if_icmp .ge 14, 3) := by decide +kernel
theorem dX5_readLine_40 : decode cX5_readLine 40 = .ok (.aload_n 0, 1) := by decide +kernel
theorem dX5_readLine_41 : decode cX5_readLine 41 = .ok (.getfield 20, 3) := by decide +kernel
theorem dX5_readLine_44 : decode cX5_readLine 44 = .ok (.bipush 28, 2) := by decide +kernel
theorem dX5_readLine_46 : decode cX5_readLine 46 = .ok (.iaload, 1) := by decide +kernel
theorem dX5_readLine_47 : decode cX5_readLine 47 = .ok (.iconst 4, 1) := by decide +kernel
theorem dX5_readLine_48 : decode cX5_readLine 48 = .ok (.if_icmp .ge 7, 3) := by decide +kernel
theorem dX5_readLine_51 : decode cX5_readLine 51 = .ok (.iconst 1, 1) := by decide +kernel
theorem dX5_readLine_52 : decode cX5_readLine 52 = .ok (.goto 4, 3) := by decide +kernel
theorem dX5_readLine_55 : decode cX5_readLine 55 = .ok (.iconst 0, 1) := by decide +kernel
theorem dX5_readLine_56 : decode cX5_readLine 56 = .ok (.iconst 5, 1) := by decide +kernel
theorem dX5_readLine_57 : decode cX5_readLine 57 = .ok (.invokevirtual 108, 3) := by decide +kernel
theorem dX5_readLine_60 : decode cX5_readLine 60 = .ok (.aload_n 0, 1) := by decide +kernel
theorem dX5_readLine_61 : decode cX5_readLine 61 = .ok (.iload_n 1, 1) := by decide +kernel
theorem dX5_readLine_62 : decode cX5_readLine 62 = .ok (.iconst 4, 1) := by decide +kernel
theorem dX5_readLine_63 : decode cX5_readLine 63 = .ok (.if_icmp .ne 15, 3) := by decide +kernel
theorem dX5_readLine_66 : decode cX5_readLine 66 = .ok (.aload_n 0, 1) := by decide +kernel
theorem dX5_readLine_67 : decode cX5_readLine 67 = .ok (.getfield 20, 3) := by decide +kernel
theorem dX5_readLine_70 : decode cX5_readLine 70 = .ok (.bipush 53, 2) := by decide +kernel
theorem dX5_readLine_72 : decode cX5_readLine 72 = .ok (.iaload, 1) := by decide +kernel
theorem dX5_readLine_73 : decode cX5_readLine 73 = .ok (.bipush 8, 2) := by decide +kernel
theorem dX5_readLine_75 : decode cX5_readLine 75 = .ok (.if_icmp .ge 7, 3) := by decide +kernel
theorem dX5_readLine_78 : decode cX5_readLine 78 = .ok (.iconst 1, 1) := by decide +kernel
theorem dX5_readLine_79 : decode cX5_readLine 79 = .ok (.goto 4, 3) := by decide +kernel
theorem dX5_readLine_82 : decode cX5_readLine 82 = .ok (.iconst 0, 1) := by decide +kernel
theorem dX5_readLine_83 : decode cX5_readLine 83 = .ok (.iconst 5, 1) := by decide +kernel
theorem dX5_readLine_84 : decode cX5_readLine 84 = .ok (.invokevirtual 108, 3) := by decide +kernel
theorem dX5_readLine_87 : decode cX5_readLine 87 = .ok (.aload_n 0, 1) := by decide +kernel
theorem dX5_readLine_88 : decode cX5_readLine 88 = .ok (.iload_n 1, 1) := by decide +kernel
theorem dX5_readLine_89 : decode cX5_readLine 89 = .ok (.iconst 5, 1) := by decide +kernel
theorem dX5_readLine_90 : decode cX5_readLine 90 = .ok (.if_icmp .ne 10, 3) := by decide +kernel
theorem dX5_readLine_93 : decode cX5_readLine 93 = .ok (.aload_n 0, 1) := by decide +kernel
theorem dX5_readLine_94 : decode cX5_readLine 94 = .ok (.getfield 53, 3) := by decide +kernel
theorem dX5_readLine_97 : decode cX5_readLine 97 = .ok (.ifCond .ne 7, 3) := by decide +kernel
theorem dX5_readLine_100 : decode cX5_readLine 100 = .ok (.iconst 1, 1) := by decide +kernel
theorem dX5_readLine_101 : decode cX5_readLine 101 = .ok (.goto 4, 3) := by decide +kernel
theorem dX5_readLine_104 : decode cX5_readLine 104 = .ok (.iconst 0, 1) := by decide +kernel
theorem dX5_readLine_105 : decode cX5_readLine 105 = .ok (.iconst 4, 1) := by decide +kernel
theorem dX5_readLine_106 : decode cX5_readLine 106 = .ok (.invokevirtual 108, 3) := by decide +kernel
theorem dX5_readLine_109 : decode cX5_readLine 109 = .ok (.aload_n 0, 1) := by decide +kernel
theorem dX5_readLine_110 : decode cX5_readLine 110 = .ok (.aload_n 0, 1) := by decide +kernel
theorem dX5_readLine_111 : decode cX5_readLine 111 = .ok (.getfield 53, 3) := by decide +kernel
theorem dX5_readLine_114 : decode cX5_readLine 114 = .ok (.ifCond .ne 8, 3) := by decide +kernel
theorem dX5_readLine_117 : decode cX5_readLine 117 = .ok (.iload_n 1, 1) := by decide +kernel
theorem dX5_readLine_118 : decode cX5_readLine 118 = .ok (.iconst 5, 1) := by decide +kernel
theorem dX5_readLine_119 : decode cX5_readLine 119 = .ok (.if_icmp .ne 7, 3) := by decide +kernel
theorem dX5_readLine_122 : decode cX5_readLine 122 = .ok (.iconst 1, 1) := by decide +kernel
theorem dX5_readLine_123 : decode cX5_readLine 123 = .ok (.goto 4, 3) := by decide +kernel
theorem dX5_readLine_126 : decode cX5_readLine 126 = .ok (.iconst 0, 1) := by decide +kernel
theorem dX5_readLine_127 : decode cX5_readLine 127 = .ok (.putfield 53, 3) := by decide +kernel
theorem dX5_readLine_130 : decode cX5_readLine 130 = .ok (.aload_n 0, 1) := by decide +kernel
theorem dX5_readLine_131 : decode cX5_readLine 131 = .ok (.invokevirtual 112, 3) := by decide +kernel
theorem dX5_readLine_134 : decode cX5_readLine 134 = .ok (.aload_n 0, 1) := by decide +kernel
theorem dX5_readLine_135 : decode cX5_readLine 135 = .ok (.getfield 70, 3) := by decide +kernel
theorem dX5_readLine_138 : decode cX5_readLine 138 = .ok (.ifCond .le 4, 3) := by decide +kernel
theorem dX5_readLine_141 : decode cX5_readLine 141 = .ok (.return_, 1) := by decide +kernel
theorem dX5_readLine_142 : decode cX5_readLine 142 = .ok (.aload_n 0, 1) := by decide +kernel
theorem dX5_readLine_143 : decode cX5_readLine 143 = .ok (.iload_n 1, 1) := by decide +kernel
theorem dX5_readLine_144 : decode cX5_readLine 144 = .ok (.invokevirtual 126, 3) := by decide +kernel
theorem dX5_readLine_147 : decode cX5_readLine 147 = .ok (.aload_n 0, 1) := by decide +kernel
theorem dX5_readLine_148 : decode cX5_readLine 148 = .ok (.getfield 70, 3) := by decide +kernel
theorem dX5_readLine_151 : decode cX5_readLine 151 = .ok (.ifCond .ne 21, 3) := by decide +kernel
theorem dX5_readLine_154 : decode cX5_readLine 154 = .ok (.aload_n 0, 1) := by decide +kernel
theorem dX5_readLine_155 : decode cX5_readLine 155 = .ok (.aload_n 0, 1) := by decide +kernel
theorem dX5_readLine_156 : decode cX5_readLine 156 = .ok (.getfield 94, 3) := by decide +kernel
theorem dX5_readLine_159 : decode cX5_readLine 159 = .ok (.iconst 3, 1) := by decide +kernel
theorem dX5_readLine_160 : decode cX5_readLine 160 = .ok (.if_icmp .ne 7, 3) := by decide +kernel
theorem dX5_readLine_163 : decode cX5_readLine 163 = .ok (.iconst 1, 1) := by decide +kernel
theorem dX5_readLine_164 : decode cX5_readLine 164 = .ok (.goto 4, 3) := by decide +kernel
theorem dX5_readLine_167 : decode cX5_readLine 167 = .ok (.iconst 0, 1) := by decide +kernel
theorem dX5_readLine_168 : decode cX5_readLine 168 = .ok (.iconst 2, 1) := by decide +kernel
theorem dX5_readLine_169 : decode cX5_readLine 169 = .ok (.invokevirtual 108, 3) := by decide +kernel
theorem dX5_readLine_172 : decode cX5_readLine 172 = .ok (.aload_n 0, 1) := by decide +kernel
theorem dX5_readLine_173 : decode cX5_readLine 173 = .ok (.invokevirtual 112, 3) := by decide +kernel
theorem dX5_readLine_176 : decode cX5_readLine 176 = .ok (.return_, 1) := by decide +kernel
theorem dX5_text_0 : decode cX5_text 0 = .ok (.iconst 0, 1) := by decide +kernel
theorem dX5_text_1 : decode cX5_text 1 = .ok (.istore_n 1, 1) := by decide +kernel
theorem dX5_text_2 : decode cX5_text 2 = .ok (.aload_n 0, 1) := by decide +kernel
theorem dX5_text_3 : decode cX5_text 3 = .ok (.iconst 0, 1) := by decide +kernel
theorem dX5_text_4 : decode cX5_text 4 = .ok (.putfield 70, 3) := by decide +kernel
theorem dX5_text_7 : decode cX5_text 7 = .ok (.aload_n 0, 1) := by decide +kernel
theorem dX5_text_8 : decode cX5_text 8 = .ok (.iconst 0, 1) := by decide +kernel
theorem dX5_text_9 : decode cX5_text 9 = .ok (.putfield 79, 3) := by decide +kernel
theorem dX5_text_12 : decode cX5_text 12 = .ok (.aload_n 0, 1) := by decide +kernel
theorem dX5_text_13 : decode cX5_text 13 = .ok (.invokevirtual 47, 3) := by decide +kernel
theorem dX5_text_16 : decode cX5_text 16 = .ok (.aload_n 0, 1) := by decide +kernel
theorem dX5_text_17 : decode cX5_text 17 = .ok (.invokevirtual 112, 3) := by decide +kernel
theorem dX5_text_20 : decode cX5_text 20 = .ok (.aload_n 0, 1) := by decide +kernel
theorem dX5_text_21 : decode cX5_text 21 = .ok (.getfield 70, 3) := by decide +kernel
theorem dX5_text_24 : decode cX5_text 24 = .ok (.ifCond .ne 20, 3) := by decide +kernel
theorem dX5_text_27 : decode cX5_text 27 = .ok (.aload_n 0, 1) := by decide +kernel
theorem dX5_text_28 : decode cX5_text 28 = .ok (.getfield 94, 3) := by decide +kernel
theorem dX5_text_31 : decode cX5_text 31 = .ok (.ifCond .eq 13, 3) := by decide +kernel
theorem dX5_text_34 : decode cX5_text 34 = .ok (.aload_n 0, 1) := by decide +kernel
theorem dX5_text_35 : decode cX5_text 35 = .ok (.invokevirtual 130, 3) := by decide +kernel
theorem dX5_text_38 : decode cX5_text 38 = .ok (.iinc 1 1, 3) := by decide +kernel
theorem dX5_text_41 : decode cX5_text 41 = .ok (.goto (-21), 3) := by decide +kernel
theorem dX5_text_44 : decode cX5_text 44 = .ok (.aload_n 0, 1) := by decide +kernel
theorem dX5_text_45 : decode cX5_text 45 = .ok (.aload_n 0, 1) := by decide +kernel
theorem dX5_text_46 : decode cX5_text 46 = .ok (.getfield 57, 3) := by decide +kernel
theorem dX5_text_49 : decode cX5_text 49 = .ok (.aload_n 0, 1) := by decide +kernel
theorem dX5_text_50 : decode cX5_text 50 = .ok (.getfield 20, 3) := by decide +kernel
theorem dX5_text_53 : decode cX5_text 53 = .ok (.bipush 28, 2) := by decide +kernel
theorem dX5_text_55 : decode cX5_text 55 = .ok (.iaload, 1) := by decide +kernel
theorem dX5_text_56 : decode cX5_text 56 = .ok (.if_icmp .ge 7, 3) := by decide +kernel
theorem dX5_text_59 : decode cX5_text 59 = .ok (.iconst 1, 1) := by decide +kernel
theorem dX5_text_60 : decode cX5_text 60 = .ok (.goto 4, 3) := by decide +kernel
theorem dX5_text_63 : decode cX5_text 63 = .ok (.iconst 0, 1) := by decide +kernel
theorem dX5_text_64 : decode cX5_text 64 = .ok (.bipush 6, 2) := by decide +kernel
theorem dX5_text_66 : decode cX5_text 66 = .ok (.invokevirtual 108, 3) := by decide +kernel
theorem dX5_text_69 : decode cX5_text 69 = .ok (.aload_n 0, 1) := by decide +kernel
theorem dX5_text_70 : decode cX5_text 70 = .ok (.iconst 0, 1) := by decide +kernel
theorem dX5_text_71 : decode cX5_text 71 = .ok (.putfield 67, 3) := by decide +kernel
theorem dX5_text_74 : decode cX5_text 74 = .ok (.aload_n 0, 1) := by decide +kernel
theorem dX5_text_75 : decode cX5_text 75 = .ok (.getfield 70, 3) := by decide +kernel
theorem dX5_text_78 : decode cX5_text 78 = .ok (.ifCond .le 11, 3) := by decide +kernel
theorem dX5_text_81 : decode cX5_text 81 = .ok (.bipush (-10), 2) := by decide +kernel
theorem dX5_text_83 : decode cX5_text 83 = .ok (.aload_n 0, 1) := by decide +kernel
theorem dX5_text_84 : decode cX5_text 84 = .ok (.getfield 76, 3) := by decide +kernel
theorem dX5_text_87 : decode cX5_text 87 = .ok (.isub, 1) := by decide +kernel
theorem dX5_text_88 : decode cX5_text 88 = .ok (.ireturn, 1) := by decide +kernel
theorem dX5_text_89 : decode cX5_text 89 = .ok (.aload_n 0, 1) := by decide +kernel
theorem dX5_text_90 : decode cX5_text 90 = .ok (.invokevirtual 50, 3) := by decide +kernel
theorem dX5_text_93 : decode cX5_text 93 = .ok (.iload_n 1, 1) := by decide +kernel
theorem dX5_text_94 : decode cX5_text 94 = .ok (.ireturn, 1) := by decide +kernel
theorem dX5_fault_0 : decode cX5_fault 0 = .ok (.aload_n 0, 1) := by decide +kernel
theorem dX5_fault_1 : decode cX5_fault 1 = .ok (.getfield 70, 3) := by decide +kernel
theorem dX5_fault_4 : decode cX5_fault 4 = .ok (.ireturn, 1) := by decide +kernel
theorem dX5_isKey_0 : decode cX5_isKey 0 = .ok (.iload_n 1, 1) := by decide +kernel
theorem dX5_isKey_1 : decode cX5_isKey 1 = .ok (.i2l, 1) := by decide +kernel
theorem dX5_isKey_2 : decode cX5_isKey 2 = .ok (.lconst 0, 1) := by decide +kernel
theorem dX5_isKey_3 : decode cX5_isKey 3 = .ok (.aload_n 0, 1) := by decide +kernel
theorem dX5_isKey_4 : decode cX5_isKey 4 = .ok (.getfield 7, 3) := by decide +kernel
theorem dX5_isKey_7 : decode cX5_isKey 7 = .ok (.bipush 28, 2) := by decide +kernel
theorem dX5_isKey_9 : decode cX5_isKey 9 = .ok (.iaload, 1) := by decide +kernel
theorem dX5_isKey_10 : decode cX5_isKey 10 = .ok (.iconst 1, 1) := by decide +kernel
theorem dX5_isKey_11 : decode cX5_isKey 11 = .ok (.isub, 1) := by decide +kernel
theorem dX5_isKey_12 : decode cX5_isKey 12 = .ok (.i2l, 1) := by decide +kernel
theorem dX5_isKey_13 : decode cX5_isKey 13 = .ok (.invokestatic 63, 3) := by decide +kernel
theorem dX5_isKey_16 : decode cX5_isKey 16 = .ok (.ireturn, 1) := by decide +kernel
theorem dX5_isPart_0 : decode cX5_isPart 0 = .ok (.iload_n 0, 1) := by decide +kernel
theorem dX5_isPart_1 : decode cX5_isPart 1 = .ok (.i2l, 1) := by decide +kernel
theorem dX5_isPart_2 : decode cX5_isPart 2 = .ok (.lconst 0, 1) := by decide +kernel
theorem dX5_isPart_3 : decode cX5_isPart 3 = .ok (.lconst 1, 1) := by decide +kernel
theorem dX5_isPart_4 : decode cX5_isPart 4 = .ok (.invokestatic 63, 3) := by decide +kernel
theorem dX5_isPart_7 : decode cX5_isPart 7 = .ok (.ireturn, 1) := by decide +kernel
theorem dX5_starts_0 : decode cX5_starts 0 = .ok (.iconst 0, 1) := by decide +kernel
theorem dX5_starts_1 : decode cX5_starts 1 = .ok (.istore_n 1, 1) := by decide +kernel
theorem dX5_starts_2 : decode cX5_starts 2 = .ok (.iload_n 1, 1) := by decide +kernel
theorem dX5_starts_3 : decode cX5_starts 3 = .ok (.bipush 75, 2) := by decide +kernel
theorem dX5_starts_5 : decode cX5_starts 5 = .ok (.if_icmp .ge 21, 3) := by decide +kernel
theorem dX5_starts_8 : decode cX5_starts 8 = .ok (.aload_n 0, 1) := by decide +kernel
theorem dX5_starts_9 : decode cX5_starts 9 = .ok (.getfield 13, 3) := by decide +kernel
theorem dX5_starts_12 : decode cX5_starts 12 = .ok (.iload_n 1, 1) := by decide +kernel
theorem dX5_starts_13 : decode cX5_starts 13 = .ok (.aload_n 0, 1) := by decide +kernel
theorem dX5_starts_14 : decode cX5_starts 14 = .ok (.getfield 7, 3) := by decide +kernel
theorem dX5_starts_17 : decode cX5_starts 17 = .ok (.iload_n 1, 1) := by decide +kernel
theorem dX5_starts_18 : decode cX5_starts 18 = .ok (.iaload, 1) := by decide +kernel
theorem dX5_starts_19 : decode cX5_starts 19 = .ok (.iastore, 1) := by decide +kernel
theorem dX5_starts_20 : decode cX5_starts 20 = .ok (.iinc 1 1, 3) := by decide +kernel
theorem dX5_starts_23 : decode cX5_starts 23 = .ok (.goto (-21), 3) := by decide +kernel
theorem dX5_starts_26 : decode cX5_starts 26 = .ok (.iconst 0, 1) := by decide +kernel
theorem dX5_starts_27 : decode cX5_starts 27 = .ok (.istore_n 1, 1) := by decide +kernel
theorem dX5_starts_28 : decode cX5_starts 28 = .ok (.iload_n 1, 1) := by decide +kernel
theorem dX5_starts_29 : decode cX5_starts 29 = .ok (.iconst 4, 1) := by decide +kernel
theorem dX5_starts_30 : decode cX5_starts 30 = .ok (.if_icmp .ge 16, 3) := by decide +kernel
theorem dX5_starts_33 : decode cX5_starts 33 = .ok (.aload_n 0, 1) := by decide +kernel
theorem dX5_starts_34 : decode cX5_starts 34 = .ok (.getfield 26, 3) := by decide +kernel
theorem dX5_starts_37 : decode cX5_starts 37 = .ok (.iload_n 1, 1) := by decide +kernel
theorem dX5_starts_38 : decode cX5_starts 38 = .ok (.iconst 0, 1) := by decide +kernel
theorem dX5_starts_39 : decode cX5_starts 39 = .ok (.iastore, 1) := by decide +kernel
theorem dX5_starts_40 : decode cX5_starts 40 = .ok (.iinc 1 1, 3) := by decide +kernel
theorem dX5_starts_43 : decode cX5_starts 43 = .ok (.goto (-15), 3) := by decide +kernel
theorem dX5_starts_46 : decode cX5_starts 46 = .ok (.aload_n 0, 1) := by decide +kernel
theorem dX5_starts_47 : decode cX5_starts 47 = .ok (.iconst 0, 1) := by decide +kernel
theorem dX5_starts_48 : decode cX5_starts 48 = .ok (.putfield 133, 3) := by decide +kernel
theorem dX5_starts_51 : decode cX5_starts 51 = .ok (.aload_n 0, 1) := by decide +kernel
theorem dX5_starts_52 : decode cX5_starts 52 = .ok (.bipush (-4), 2) := by decide +kernel
theorem dX5_starts_54 : decode cX5_starts 54 = .ok (.putfield 136, 3) := by decide +kernel
theorem dX5_starts_57 : decode cX5_starts 57 = .ok (.return_, 1) := by decide +kernel
theorem dX5_settles_0 : decode cX5_settles 0 = .ok (.iconst 0, 1) := by decide +kernel
theorem dX5_settles_1 : decode cX5_settles 1 = .ok (.istore_n 1, 1) := by decide +kernel
theorem dX5_settles_2 : decode cX5_settles 2 = .ok (.iload_n 1, 1) := by decide +kernel
theorem dX5_settles_3 : decode cX5_settles 3 = .ok (.bipush 75, 2) := by decide +kernel
theorem dX5_settles_5 : decode cX5_settles 5 = .ok (.if_icmp .ge 21, 3) := by decide +kernel
theorem dX5_settles_8 : decode cX5_settles 8 = .ok (.aload_n 0, 1) := by decide +kernel
theorem dX5_settles_9 : decode cX5_settles 9 = .ok (.getfield 7, 3) := by decide +kernel
theorem dX5_settles_12 : decode cX5_settles 12 = .ok (.iload_n 1, 1) := by decide +kernel
theorem dX5_settles_13 : decode cX5_settles 13 = .ok (.aload_n 0, 1) := by decide +kernel
theorem dX5_settles_14 : decode cX5_settles 14 = .ok (.getfield 13, 3) := by decide +kernel
theorem dX5_settles_17 : decode cX5_settles 17 = .ok (.iload_n 1, 1) := by decide +kernel
theorem dX5_settles_18 : decode cX5_settles 18 = .ok (.iaload, 1) := by decide +kernel
theorem dX5_settles_19 : decode cX5_settles 19 = .ok (.iastore, 1) := by decide +kernel
theorem dX5_settles_20 : decode cX5_settles 20 = .ok (.iinc 1 1, 3) := by decide +kernel
theorem dX5_settles_23 : decode cX5_settles 23 = .ok (.goto (-21), 3) := by decide +kernel
theorem dX5_settles_26 : decode cX5_settles 26 = .ok (.return_, 1) := by decide +kernel
theorem dX5_of_0 : decode cX5_of 0 = .ok (.aload_n 0, 1) := by decide +kernel
theorem dX5_of_1 : decode cX5_of 1 = .ok (.getfield 13, 3) := by decide +kernel
theorem dX5_of_4 : decode cX5_of 4 = .ok (.bipush 7, 2) := by decide +kernel
theorem dX5_of_6 : decode cX5_of 6 = .ok (.iload_n 1, 1) := by decide +kernel
theorem dX5_of_7 : decode cX5_of 7 = .ok (.imul, 1) := by decide +kernel
theorem dX5_of_8 : decode cX5_of 8 = .ok (.iload_n 2, 1) := by decide +kernel
theorem dX5_of_9 : decode cX5_of 9 = .ok (.iadd, 1) := by decide +kernel
theorem dX5_of_10 : decode cX5_of 10 = .ok (.iaload, 1) := by decide +kernel
theorem dX5_of_11 : decode cX5_of 11 = .ok (.ireturn, 1) := by decide +kernel
theorem dX5_becomesOf_0 : decode cX5_becomesOf 0 = .ok (.aload_n 0, 1) := by decide +kernel
theorem dX5_becomesOf_1 : decode cX5_becomesOf 1 = .ok (.getfield 13, 3) := by decide +kernel
theorem dX5_becomesOf_4 : decode cX5_becomesOf 4 = .ok (.bipush 7, 2) := by decide +kernel
theorem dX5_becomesOf_6 : decode cX5_becomesOf 6 = .ok (.iload_n 1, 1) := by decide +kernel
theorem dX5_becomesOf_7 : decode cX5_becomesOf 7 = .ok (.imul, 1) := by decide +kernel
theorem dX5_becomesOf_8 : decode cX5_becomesOf 8 = .ok (.iload_n 2, 1) := by decide +kernel
theorem dX5_becomesOf_9 : decode cX5_becomesOf 9 = .ok (.iadd, 1) := by decide +kernel
theorem dX5_becomesOf_10 : decode cX5_becomesOf 10 = .ok (.iload_n 3, 1) := by decide +kernel
theorem dX5_becomesOf_11 : decode cX5_becomesOf 11 = .ok (.iastore, 1) := by decide +kernel
theorem dX5_becomesOf_12 : decode cX5_becomesOf 12 = .ok (.return_, 1) := by decide +kernel
theorem dX5_ofPress_0 : decode cX5_ofPress 0 = .ok (.aload_n 0, 1) := by decide +kernel
theorem dX5_ofPress_1 : decode cX5_ofPress 1 = .ok (.getfield 13, 3) := by decide +kernel
theorem dX5_ofPress_4 : decode cX5_ofPress 4 = .ok (.bipush 29, 2) := by decide +kernel
theorem dX5_ofPress_6 : decode cX5_ofPress 6 = .ok (.iconst 3, 1) := by decide +kernel
theorem dX5_ofPress_7 : decode cX5_ofPress 7 = .ok (.iload_n 1, 1) := by decide +kernel
theorem dX5_ofPress_8 : decode cX5_ofPress 8 = .ok (.imul, 1) := by decide +kernel
theorem dX5_ofPress_9 : decode cX5_ofPress 9 = .ok (.iadd, 1) := by decide +kernel
theorem dX5_ofPress_10 : decode cX5_ofPress 10 = .ok (.iload_n 2, 1) := by decide +kernel
theorem dX5_ofPress_11 : decode cX5_ofPress 11 = .ok (.iadd, 1) := by decide +kernel
theorem dX5_ofPress_12 : decode cX5_ofPress 12 = .ok (.iaload, 1) := by decide +kernel
theorem dX5_ofPress_13 : decode cX5_ofPress 13 = .ok (.ireturn, 1) := by decide +kernel
theorem dX5_latestPress_0 : decode cX5_latestPress 0 = .ok (.bipush (-4), 2) := by decide +kernel
theorem dX5_latestPress_2 : decode cX5_latestPress 2 = .ok (.istore_n 3, 1) := by decide +kernel
theorem dX5_latestPress_3 : decode cX5_latestPress 3 = .ok (.iconst 0, 1) := by decide +kernel
theorem dX5_latestPress_4 : decode cX5_latestPress 4 = .ok (.istore 4, 2) := by decide +kernel
theorem dX5_latestPress_6 : decode cX5_latestPress 6 = .ok (.iload 4, 2) := by decide +kernel
theorem dX5_latestPress_8 : decode cX5_latestPress 8 = .ok (.aload_n 0, 1) := by decide +kernel
theorem dX5_latestPress_9 : decode cX5_latestPress 9 = .ok (.getfield 13, 3) := by decide +kernel
theorem dX5_latestPress_12 : decode cX5_latestPress 12 = .ok (.bipush 53, 2) := by decide +kernel
theorem dX5_latestPress_14 : decode cX5_latestPress 14 = .ok (.iaload, 1) := by decide +kernel
theorem dX5_latestPress_15 : decode cX5_latestPress 15 = .ok (.if_icmp .ge 81, 3) := by decide +kernel
theorem dX5_latestPress_18 : decode cX5_latestPress 18 = .ok (.iload 4, 2) := by decide +kernel
theorem dX5_latestPress_20 : decode cX5_latestPress 20 = .ok (.aload_n 0, 1) := by decide +kernel
theorem dX5_latestPress_21 : decode cX5_latestPress 21 = .ok (.getfield 136, 3) := by decide +kernel
theorem dX5_latestPress_24 : decode cX5_latestPress 24 = .ok (.if_icmp .eq 29, 3) := by decide +kernel
theorem dX5_latestPress_27 : decode cX5_latestPress 27 = .ok (.aload_n 0, 1) := by decide +kernel
theorem dX5_latestPress_28 : decode cX5_latestPress 28 = .ok (.iload 4, 2) := by decide +kernel
theorem dX5_latestPress_30 : decode cX5_latestPress 30 = .ok (.iconst 1, 1) := by decide +kernel
theorem dX5_latestPress_31 : decode cX5_latestPress 31 = .ok (.invokevirtual 139, 3) := by decide +kernel
theorem dX5_latestPress_34 : decode cX5_latestPress 34 = .ok (.iload_n 1, 1) := by decide +kernel
theorem dX5_latestPress_35 : decode cX5_latestPress 35 = .ok (.if_icmp .ne 18, 3) := by decide +kernel
theorem dX5_latestPress_38 : decode cX5_latestPress 38 = .ok (.aload_n 0, 1) := by decide +kernel
theorem dX5_latestPress_39 : decode cX5_latestPress 39 = .ok (.iload 4, 2) := by decide +kernel
theorem dX5_latestPress_41 : decode cX5_latestPress 41 = .ok (.iconst 0, 1) := by decide +kernel
theorem dX5_latestPress_42 : decode cX5_latestPress 42 = .ok (.invokevirtual 139, 3) := by decide +kernel
theorem dX5_latestPress_45 : decode cX5_latestPress 45 = .ok (.iload_n 2, 1) := by decide +kernel
theorem dX5_latestPress_46 : decode cX5_latestPress 46 = .ok (.if_icmp .gt 7, 3) := by decide +kernel
theorem dX5_latestPress_49 : decode cX5_latestPress 49 = .ok (.iconst 1, 1) := by decide +kernel
theorem dX5_latestPress_50 : decode cX5_latestPress 50 = .ok (.goto 4, 3) := by decide +kernel
theorem dX5_latestPress_53 : decode cX5_latestPress 53 = .ok (.iconst 0, 1) := by decide +kernel
theorem dX5_latestPress_54 : decode cX5_latestPress 54 = .ok (.istore 5, 2) := by decide +kernel
theorem dX5_latestPress_56 : decode cX5_latestPress 56 = .ok (.iload 5, 2) := by decide +kernel
theorem dX5_latestPress_58 : decode cX5_latestPress 58 = .ok (.ifCond .eq 30, 3) := by decide +kernel
theorem dX5_latestPress_61 : decode cX5_latestPress 61 = .ok (.iload_n 3, 1) := by decide +kernel
theorem dX5_latestPress_62 : decode cX5_latestPress 62 = .ok (.bipush (-4), 2) := by decide +kernel
theorem dX5_latestPress_64 : decode cX5_latestPress 64 = .ok (.if_icmp .eq 19, 3) := by decide +kernel
theorem dX5_latestPress_67 : decode cX5_latestPress 67 = .ok (.aload_n 0, 1) := by decide +kernel
theorem dX5_latestPress_68 : decode cX5_latestPress 68 = .ok (.iload 4, 2) := by decide +kernel
theorem dX5_latestPress_70 : decode cX5_latestPress 70 = .ok (.iconst 0, 1) := by decide +kernel
theorem dX5_latestPress_71 : decode cX5_latestPress 71 = .ok (.invokevirtual 139, 3) := by decide +kernel
theorem dX5_latestPress_74 : decode cX5_latestPress 74 = .ok (.aload_n 0, 1) := by decide +kernel
theorem dX5_latestPress_75 : decode cX5_latestPress 75 = .ok (.iload_n 3, 1) := by decide +kernel
theorem dX5_latestPress_76 : decode cX5_latestPress 76 = .ok (.iconst 0, 1) := by decide +kernel
theorem dX5_latestPress_77 : decode cX5_latestPress 77 = .ok (.invokevirtual 139, 3) := by decide +kernel
theorem dX5_latestPress_80 : decode cX5_latestPress 80 = .ok (.if_icmp .lt 8, 3) := by decide +kernel
theorem dX5_latestPress_83 : decode cX5_latestPress 83 = .ok (.iload 4, 2) := by decide +kernel
theorem dX5_latestPress_85 : decode cX5_latestPress 85 = .ok (.goto 4, 3) := by decide +kernel
theorem dX5_latestPress_88 : decode cX5_latestPress 88 = .ok (.iload_n 3, 1) := by decide +kernel
theorem dX5_latestPress_89 : decode cX5_latestPress 89 = .ok (.istore_n 3, 1) := by decide +kernel
theorem dX5_latestPress_90 : decode cX5_latestPress 90 = .ok (.iinc 4 1, 3) := by decide +kernel
theorem dX5_latestPress_93 : decode cX5_latestPress 93 = .ok (.goto (-87), 3) := by decide +kernel
theorem dX5_latestPress_96 : decode cX5_latestPress 96 = .ok (.iload_n 3, 1) := by decide +kernel
theorem dX5_latestPress_97 : decode cX5_latestPress 97 = .ok (.ireturn, 1) := by decide +kernel
theorem dX5_contactOf_0 : decode cX5_contactOf 0 = .ok (.aload_n 0, 1) := by decide +kernel
theorem dX5_contactOf_1 : decode cX5_contactOf 1 = .ok (.iload_n 1, 1) := by decide +kernel
theorem dX5_contactOf_2 : decode cX5_contactOf 2 = .ok (.iload_n 2, 1) := by decide +kernel
theorem dX5_contactOf_3 : decode cX5_contactOf 3 = .ok (.invokevirtual 142, 3) := by decide +kernel
theorem dX5_contactOf_6 : decode cX5_contactOf 6 = .ok (.istore_n 3, 1) := by decide +kernel
theorem dX5_contactOf_7 : decode cX5_contactOf 7 = .ok (.iload_n 3, 1) := by decide +kernel
theorem dX5_contactOf_8 : decode cX5_contactOf 8 = .ok (.bipush (-4), 2) := by decide +kernel
theorem dX5_contactOf_10 : decode cX5_contactOf 10 = .ok (.if_icmp .ne 5, 3) := by decide +kernel
theorem dX5_contactOf_13 : decode cX5_contactOf 13 = .ok (.iconst 0, 1) := by decide +kernel
theorem dX5_contactOf_14 : decode cX5_contactOf 14 = .ok (.ireturn, 1) := by decide +kernel
theorem dX5_contactOf_15 : decode cX5_contactOf 15 = .ok (.iload_n 2, 1) := by decide +kernel
theorem dX5_contactOf_16 : decode cX5_contactOf 16 = .ok (.aload_n 0, 1) := by decide +kernel
theorem dX5_contactOf_17 : decode cX5_contactOf 17 = .ok (.iload_n 3, 1) := by decide +kernel
theorem dX5_contactOf_18 : decode cX5_contactOf 18 = .ok (.iconst 0, 1) := by decide +kernel
theorem dX5_contactOf_19 : decode cX5_contactOf 19 = .ok (.invokevirtual 139, 3) := by decide +kernel
theorem dX5_contactOf_22 : decode cX5_contactOf 22 = .ok (.isub, 1) := by decide +kernel
theorem dX5_contactOf_23 : decode cX5_contactOf 23 = .ok (.istore 4, 2) := by decide +kernel
theorem dX5_contactOf_25 : decode cX5_contactOf 25 = .ok (.iload 4, 2) := by decide +kernel
theorem dX5_contactOf_27 : decode cX5_contactOf 27 = .ok (.aload_n 0, 1) := by decide +kernel
theorem dX5_contactOf_28 : decode cX5_contactOf 28 = .ok (.iload_n 1, 1) := by decide +kernel
theorem dX5_contactOf_29 : decode cX5_contactOf 29 = .ok (.iconst 0, 1) := by decide +kernel
theorem dX5_contactOf_30 : decode cX5_contactOf 30 = .ok (.invokevirtual 145, 3) := by decide +kernel
theorem dX5_contactOf_33 : decode cX5_contactOf 33 = .ok (.if_icmp .ge 22, 3) := by decide +kernel
theorem dX5_contactOf_36 : decode cX5_contactOf 36 = .ok (.iload 4, 2) := by decide +kernel
theorem dX5_contactOf_38 : decode cX5_contactOf 38 = .ok (.iconst 2, 1) := by decide +kernel
theorem dX5_contactOf_39 : decode cX5_contactOf 39 = .ok (.irem, 1) := by decide +kernel
theorem dX5_contactOf_40 : decode cX5_contactOf 40 = .ok (.iconst 1, 1) := by decide +kernel
theorem dX5_contactOf_41 : decode cX5_contactOf 41 = .ok (.if_icmp .ne 14, 3) := by decide +kernel
theorem dX5_contactOf_44 : decode cX5_contactOf 44 = .ok (.iconst 1, 1) := by decide +kernel
theorem dX5_contactOf_45 : decode cX5_contactOf 45 = .ok (.aload_n 0, 1) := by decide +kernel
theorem dX5_contactOf_46 : decode cX5_contactOf 46 = .ok (.iload_n 3, 1) := by decide +kernel
theorem dX5_contactOf_47 : decode cX5_contactOf 47 = .ok (.iconst 2, 1) := by decide +kernel
theorem dX5_contactOf_48 : decode cX5_contactOf 48 = .ok (.invokevirtual 139, 3) := by decide +kernel
theorem dX5_contactOf_51 : decode cX5_contactOf 51 = .ok (.isub, 1) := by decide +kernel
theorem dX5_contactOf_52 : decode cX5_contactOf 52 = .ok (.goto 9, 3) := by decide +kernel
theorem dX5_contactOf_55 : decode cX5_contactOf 55 = .ok (.aload_n 0, 1) := by decide +kernel
theorem dX5_contactOf_56 : decode cX5_contactOf 56 = .ok (.iload_n 3, 1) := by decide +kernel
theorem dX5_contactOf_57 : decode cX5_contactOf 57 = .ok (.iconst 2, 1) := by decide +kernel
theorem dX5_contactOf_58 : decode cX5_contactOf 58 = .ok (.invokevirtual 139, 3) := by decide +kernel
theorem dX5_contactOf_61 : decode cX5_contactOf 61 = .ok (.ireturn, 1) := by decide +kernel
theorem dX5_wants_0 : decode cX5_wants 0 = .ok (.aload_n 0, 1) := by decide +kernel
theorem dX5_wants_1 : decode cX5_wants 1 = .ok (.iload_n 1, 1) := by decide +kernel
theorem dX5_wants_2 : decode cX5_wants 2 = .ok (.iconst 1, 1) := by decide +kernel
theorem dX5_wants_3 : decode cX5_wants 3 = .ok (.invokevirtual 145, 3) := by decide +kernel
theorem dX5_wants_6 : decode cX5_wants 6 = .ok (.iconst 2, 1) := by decide +kernel
theorem dX5_wants_7 : decode cX5_wants 7 = .ok (.if_icmp .ne 7, 3) := by decide +kernel
theorem dX5_wants_10 : decode cX5_wants 10 = .ok (.iconst 1, 1) := by decide +kernel
theorem dX5_wants_11 : decode cX5_wants 11 = .ok (.goto 9, 3) := by decide +kernel
theorem dX5_wants_14 : decode cX5_wants 14 = .ok (.aload_n 0, 1) := by decide +kernel
theorem dX5_wants_15 : decode cX5_wants 15 = .ok (.iload_n 1, 1) := by decide +kernel
theorem dX5_wants_16 : decode cX5_wants 16 = .ok (.iconst 2, 1) := by decide +kernel
theorem dX5_wants_17 : decode cX5_wants 17 = .ok (.invokevirtual 145, 3) := by decide +kernel
theorem dX5_wants_20 : decode cX5_wants 20 = .ok (.ireturn, 1) := by decide +kernel
theorem dX5_shuts_0 : decode cX5_shuts 0 = .ok (.aload_n 0, 1) := by decide +kernel
theorem dX5_shuts_1 : decode cX5_shuts 1 = .ok (.iload_n 1, 1) := by decide +kernel
theorem dX5_shuts_2 : decode cX5_shuts 2 = .ok (.iconst 1, 1) := by decide +kernel
theorem dX5_shuts_3 : decode cX5_shuts 3 = .ok (.invokevirtual 145, 3) := by decide +kernel
theorem dX5_shuts_6 : decode cX5_shuts 6 = .ok (.iconst 2, 1) := by decide +kernel
theorem dX5_shuts_7 : decode cX5_shuts 7 = .ok (.if_icmp .eq 13, 3) := by decide +kernel
theorem dX5_shuts_10 : decode cX5_shuts 10 = .ok (.aload_n 0, 1) := by decide +kernel
theorem dX5_shuts_11 : decode cX5_shuts 11 = .ok (.iload_n 1, 1) := by decide +kernel
theorem dX5_shuts_12 : decode cX5_shuts 12 = .ok (.iconst 1, 1) := by decide +kernel
theorem dX5_shuts_13 : decode cX5_shuts 13 = .ok (.invokevirtual 145, 3) := by decide +kernel
theorem dX5_shuts_16 : decode cX5_shuts 16 = .ok (.iconst 3, 1) := by decide +kernel
theorem dX5_shuts_17 : decode cX5_shuts 17 = .ok (.if_icmp .ne 12, 3) := by decide +kernel
theorem dX5_shuts_20 : decode cX5_shuts 20 = .ok (.aload_n 0, 1) := by decide +kernel
theorem dX5_shuts_21 : decode cX5_shuts 21 = .ok (.iload_n 1, 1) := by decide +kernel
theorem dX5_shuts_22 : decode cX5_shuts 22 = .ok (.iconst 2, 1) := by decide +kernel
theorem dX5_shuts_23 : decode cX5_shuts 23 = .ok (.invokevirtual 145, 3) := by decide +kernel
theorem dX5_shuts_26 : decode cX5_shuts 26 = .ok (.goto 4, 3) := by decide +kernel
theorem dX5_shuts_29 : decode cX5_shuts 29 = .ok (.iconst 0, 1) := by decide +kernel
theorem dX5_shuts_30 : decode cX5_shuts 30 = .ok (.ireturn, 1) := by decide +kernel
theorem dX5_comesToSay_0 : decode cX5_comesToSay 0 = .ok (.aload_n 0, 1) := by decide +kernel
theorem dX5_comesToSay_1 : decode cX5_comesToSay 1 = .ok (.iload_n 1, 1) := by decide +kernel
theorem dX5_comesToSay_2 : decode cX5_comesToSay 2 = .ok (.iconst 3, 1) := by decide +kernel
theorem dX5_comesToSay_3 : decode cX5_comesToSay 3 = .ok (.invokevirtual 145, 3) := by decide +kernel
theorem dX5_comesToSay_6 : decode cX5_comesToSay 6 = .ok (.iload_n 2, 1) := by decide +kernel
theorem dX5_comesToSay_7 : decode cX5_comesToSay 7 = .ok (.if_icmp .ne 4, 3) := by decide +kernel
theorem dX5_comesToSay_10 : decode cX5_comesToSay 10 = .ok (.return_, 1) := by decide +kernel
theorem dX5_comesToSay_11 : decode cX5_comesToSay 11 = .ok (.aload_n 0, 1) := by decide +kernel
theorem dX5_comesToSay_12 : decode cX5_comesToSay 12 = .ok (.dup, 1) := by decide +kernel
theorem dX5_comesToSay_13 : decode cX5_comesToSay 13 = .ok (.getfield 133, 3) := by decide +kernel
theorem dX5_comesToSay_16 : decode cX5_comesToSay 16 = .ok (.iconst 1, 1) := by decide +kernel
theorem dX5_comesToSay_17 : decode cX5_comesToSay 17 = .ok (.iadd, 1) := by decide +kernel
theorem dX5_comesToSay_18 : decode cX5_comesToSay 18 = .ok (.putfield 133, 3) := by decide +kernel
theorem dX5_comesToSay_21 : decode cX5_comesToSay 21 = .ok (.aload_n 0, 1) := by decide +kernel
theorem dX5_comesToSay_22 : decode cX5_comesToSay 22 = .ok (.iload_n 1, 1) := by decide +kernel
theorem dX5_comesToSay_23 : decode cX5_comesToSay 23 = .ok (.iconst 3, 1) := by decide +kernel
theorem dX5_comesToSay_24 : decode cX5_comesToSay 24 = .ok (.iload_n 2, 1) := by decide +kernel
theorem dX5_comesToSay_25 : decode cX5_comesToSay 25 = .ok (.invokevirtual 148, 3) := by decide +kernel
theorem dX5_comesToSay_28 : decode cX5_comesToSay 28 = .ok (.iload_n 2, 1) := by decide +kernel
theorem dX5_comesToSay_29 : decode cX5_comesToSay 29 = .ok (.iconst 1, 1) := by decide +kernel
theorem dX5_comesToSay_30 : decode cX5_comesToSay 30 = .ok (.if_icmp .ne 35, 3) := by decide +kernel
theorem dX5_comesToSay_33 : decode cX5_comesToSay 33 = .ok (.aload_n 0, 1) := by decide +kernel
theorem dX5_comesToSay_34 : decode cX5_comesToSay 34 = .ok (.getfield 26, 3) := by decide +kernel
theorem dX5_comesToSay_37 : decode cX5_comesToSay 37 = .ok (.iload_n 1, 1) := by decide +kernel
theorem dX5_comesToSay_38 : decode cX5_comesToSay 38 = .ok (.dup2, 1) := by decide +kernel
theorem dX5_comesToSay_39 : decode cX5_comesToSay 39 = .ok (.iaload, 1) := by decide +kernel
theorem dX5_comesToSay_40 : decode cX5_comesToSay 40 = .ok (.iconst 1, 1) := by decide +kernel
theorem dX5_comesToSay_41 : decode cX5_comesToSay 41 = .ok (.iadd, 1) := by decide +kernel
theorem dX5_comesToSay_42 : decode cX5_comesToSay 42 = .ok (.iastore, 1) := by decide +kernel
theorem dX5_comesToSay_43 : decode cX5_comesToSay 43 = .ok (.aload_n 0, 1) := by decide +kernel
theorem dX5_comesToSay_44 : decode cX5_comesToSay 44 = .ok (.iload_n 1, 1) := by decide +kernel
theorem dX5_comesToSay_45 : decode cX5_comesToSay 45 = .ok (.bipush 6, 2) := by decide +kernel
theorem dX5_comesToSay_47 : decode cX5_comesToSay 47 = .ok (.aload_n 0, 1) := by decide +kernel
theorem dX5_comesToSay_48 : decode cX5_comesToSay 48 = .ok (.iload_n 1, 1) := by decide +kernel
theorem dX5_comesToSay_49 : decode cX5_comesToSay 49 = .ok (.bipush 6, 2) := by decide +kernel
theorem dX5_comesToSay_51 : decode cX5_comesToSay 51 = .ok (.invokevirtual 145, 3) := by decide +kernel
theorem dX5_comesToSay_54 : decode cX5_comesToSay 54 = .ok (.iconst 1, 1) := by decide +kernel
theorem dX5_comesToSay_55 : decode cX5_comesToSay 55 = .ok (.iadd, 1) := by decide +kernel
theorem dX5_comesToSay_56 : decode cX5_comesToSay 56 = .ok (.sipush 999, 3) := by decide +kernel
theorem dX5_comesToSay_59 : decode cX5_comesToSay 59 = .ok (.invokestatic 152, 3) := by decide +kernel
theorem dX5_comesToSay_62 : decode cX5_comesToSay 62 = .ok (.invokevirtual 148, 3) := by decide +kernel
theorem dX5_comesToSay_65 : decode cX5_comesToSay 65 = .ok (.return_, 1) := by decide +kernel
theorem dX5_weighs_0 : decode cX5_weighs 0 = .ok (.aload_n 0, 1) := by decide +kernel
theorem dX5_weighs_1 : decode cX5_weighs 1 = .ok (.iload_n 1, 1) := by decide +kernel
theorem dX5_weighs_2 : decode cX5_weighs 2 = .ok (.iconst 4, 1) := by decide +kernel
theorem dX5_weighs_3 : decode cX5_weighs 3 = .ok (.invokevirtual 145, 3) := by decide +kernel
theorem dX5_weighs_6 : decode cX5_weighs 6 = .ok (.iload_n 2, 1) := by decide +kernel
theorem dX5_weighs_7 : decode cX5_weighs 7 = .ok (.iconst 1, 1) := by decide +kernel
theorem dX5_weighs_8 : decode cX5_weighs 8 = .ok (.if_icmp .ne 7, 3) := by decide +kernel
theorem dX5_weighs_11 : decode cX5_weighs 11 = .ok (.iconst 1, 1) := by decide +kernel
theorem dX5_weighs_12 : decode cX5_weighs 12 = .ok (.goto 4, 3) := by decide +kernel
theorem dX5_weighs_15 : decode cX5_weighs 15 = .ok (.iconst (-1), 1) := by decide +kernel
theorem dX5_weighs_16 : decode cX5_weighs 16 = .ok (.iadd, 1) := by decide +kernel
theorem dX5_weighs_17 : decode cX5_weighs 17 = .ok (.aload_n 0, 1) := by decide +kernel
theorem dX5_weighs_18 : decode cX5_weighs 18 = .ok (.iload_n 1, 1) := by decide +kernel
theorem dX5_weighs_19 : decode cX5_weighs 19 = .ok (.iconst 2, 1) := by decide +kernel
theorem dX5_weighs_20 : decode cX5_weighs 20 = .ok (.invokevirtual 145, 3) := by decide +kernel
theorem dX5_weighs_23 : decode cX5_weighs 23 = .ok (.invokestatic 152, 3) := by decide +kernel
theorem dX5_weighs_26 : decode cX5_weighs 26 = .ok (.istore_n 3, 1) := by decide +kernel
theorem dX5_weighs_27 : decode cX5_weighs 27 = .ok (.aload_n 0, 1) := by decide +kernel
theorem dX5_weighs_28 : decode cX5_weighs 28 = .ok (.iload_n 1, 1) := by decide +kernel
theorem dX5_weighs_29 : decode cX5_weighs 29 = .ok (.iconst 4, 1) := by decide +kernel
theorem dX5_weighs_30 : decode cX5_weighs 30 = .ok (.iload_n 3, 1) := by decide +kernel
theorem dX5_weighs_31 : decode cX5_weighs 31 = .ok (.invokevirtual 148, 3) := by decide +kernel
theorem dX5_weighs_34 : decode cX5_weighs 34 = .ok (.iload_n 3, 1) := by decide +kernel
theorem dX5_weighs_35 : decode cX5_weighs 35 = .ok (.aload_n 0, 1) := by decide +kernel
theorem dX5_weighs_36 : decode cX5_weighs 36 = .ok (.iload_n 1, 1) := by decide +kernel
theorem dX5_weighs_37 : decode cX5_weighs 37 = .ok (.iconst 2, 1) := by decide +kernel
theorem dX5_weighs_38 : decode cX5_weighs 38 = .ok (.invokevirtual 145, 3) := by decide +kernel
theorem dX5_weighs_41 : decode cX5_weighs 41 = .ok (.if_icmp .ne 12, 3) := by decide +kernel
theorem dX5_weighs_44 : decode cX5_weighs 44 = .ok (.aload_n 0, 1) := by decide +kernel
theorem dX5_weighs_45 : decode cX5_weighs 45 = .ok (.iload_n 1, 1) := by decide +kernel
theorem dX5_weighs_46 : decode cX5_weighs 46 = .ok (.iconst 1, 1) := by decide +kernel
theorem dX5_weighs_47 : decode cX5_weighs 47 = .ok (.invokevirtual 155, 3) := by decide +kernel
theorem dX5_weighs_50 : decode cX5_weighs 50 = .ok (.goto 13, 3) := by decide +kernel
theorem dX5_weighs_53 : decode cX5_weighs 53 = .ok (.iload_n 3, 1) := by decide +kernel
theorem dX5_weighs_54 : decode cX5_weighs 54 = .ok (.ifCond .ne 9, 3) := by decide +kernel
theorem dX5_weighs_57 : decode cX5_weighs 57 = .ok (.aload_n 0, 1) := by decide +kernel
theorem dX5_weighs_58 : decode cX5_weighs 58 = .ok (.iload_n 1, 1) := by decide +kernel
theorem dX5_weighs_59 : decode cX5_weighs 59 = .ok (.iconst 0, 1) := by decide +kernel
theorem dX5_weighs_60 : decode cX5_weighs 60 = .ok (.invokevirtual 155, 3) := by decide +kernel
theorem dX5_weighs_63 : decode cX5_weighs 63 = .ok (.return_, 1) := by decide +kernel
theorem dX5_countsUp_0 : decode cX5_countsUp 0 = .ok (.iload_n 2, 1) := by decide +kernel
theorem dX5_countsUp_1 : decode cX5_countsUp 1 = .ok (.aload_n 0, 1) := by decide +kernel
theorem dX5_countsUp_2 : decode cX5_countsUp 2 = .ok (.iload_n 1, 1) := by decide +kernel
theorem dX5_countsUp_3 : decode cX5_countsUp 3 = .ok (.iconst 3, 1) := by decide +kernel
theorem dX5_countsUp_4 : decode cX5_countsUp 4 = .ok (.invokevirtual 145, 3) := by decide +kernel
theorem dX5_countsUp_7 : decode cX5_countsUp 7 = .ok (.if_icmp .ne 11, 3) := by decide +kernel
theorem dX5_countsUp_10 : decode cX5_countsUp 10 = .ok (.aload_n 0, 1) := by decide +kernel
theorem dX5_countsUp_11 : decode cX5_countsUp 11 = .ok (.iload_n 1, 1) := by decide +kernel
theorem dX5_countsUp_12 : decode cX5_countsUp 12 = .ok (.iconst 4, 1) := by decide +kernel
theorem dX5_countsUp_13 : decode cX5_countsUp 13 = .ok (.iconst 0, 1) := by decide +kernel
theorem dX5_countsUp_14 : decode cX5_countsUp 14 = .ok (.invokevirtual 148, 3) := by decide +kernel
theorem dX5_countsUp_17 : decode cX5_countsUp 17 = .ok (.return_, 1) := by decide +kernel
theorem dX5_countsUp_18 : decode cX5_countsUp 18 = .ok (.aload_n 0, 1) := by decide +kernel
theorem dX5_countsUp_19 : decode cX5_countsUp 19 = .ok (.iload_n 1, 1) := by decide +kernel
theorem dX5_countsUp_20 : decode cX5_countsUp 20 = .ok (.iconst 4, 1) := by decide +kernel
theorem dX5_countsUp_21 : decode cX5_countsUp 21 = .ok (.aload_n 0, 1) := by decide +kernel
theorem dX5_countsUp_22 : decode cX5_countsUp 22 = .ok (.iload_n 1, 1) := by decide +kernel
theorem dX5_countsUp_23 : decode cX5_countsUp 23 = .ok (.iconst 4, 1) := by decide +kernel
theorem dX5_countsUp_24 : decode cX5_countsUp 24 = .ok (.invokevirtual 145, 3) := by decide +kernel
theorem dX5_countsUp_27 : decode cX5_countsUp 27 = .ok (.iconst 1, 1) := by decide +kernel
theorem dX5_countsUp_28 : decode cX5_countsUp 28 = .ok (.iadd, 1) := by decide +kernel
theorem dX5_countsUp_29 : decode cX5_countsUp 29 = .ok (.invokevirtual 148, 3) := by decide +kernel
theorem dX5_countsUp_32 : decode cX5_countsUp 32 = .ok (.aload_n 0, 1) := by decide +kernel
theorem dX5_countsUp_33 : decode cX5_countsUp 33 = .ok (.iload_n 1, 1) := by decide +kernel
theorem dX5_countsUp_34 : decode cX5_countsUp 34 = .ok (.iconst 4, 1) := by decide +kernel
theorem dX5_countsUp_35 : decode cX5_countsUp 35 = .ok (.invokevirtual 145, 3) := by decide +kernel
theorem dX5_countsUp_38 : decode cX5_countsUp 38 = .ok (.aload_n 0, 1) := by decide +kernel
theorem dX5_countsUp_39 : decode cX5_countsUp 39 = .ok (.iload_n 1, 1) := by decide +kernel
theorem dX5_countsUp_40 : decode cX5_countsUp 40 = .ok (.invokevirtual 159, 3) := by decide +kernel
theorem dX5_countsUp_43 : decode cX5_countsUp 43 = .ok (.if_icmp .lt 27, 3) := by decide +kernel
theorem dX5_countsUp_46 : decode cX5_countsUp 46 = .ok (.aload_n 0, 1) := by decide +kernel
theorem dX5_countsUp_47 : decode cX5_countsUp 47 = .ok (.iload_n 1, 1) := by decide +kernel
theorem dX5_countsUp_48 : decode cX5_countsUp 48 = .ok (.iload_n 2, 1) := by decide +kernel
theorem dX5_countsUp_49 : decode cX5_countsUp 49 = .ok (.invokevirtual 155, 3) := by decide +kernel
theorem dX5_countsUp_52 : decode cX5_countsUp 52 = .ok (.aload_n 0, 1) := by decide +kernel
theorem dX5_countsUp_53 : decode cX5_countsUp 53 = .ok (.iload_n 1, 1) := by decide +kernel
theorem dX5_countsUp_54 : decode cX5_countsUp 54 = .ok (.iconst 4, 1) := by decide +kernel
theorem dX5_countsUp_55 : decode cX5_countsUp 55 = .ok (.iconst 0, 1) := by decide +kernel
theorem dX5_countsUp_56 : decode cX5_countsUp 56 = .ok (.invokevirtual 148, 3) := by decide +kernel
theorem dX5_countsUp_59 : decode cX5_countsUp 59 = .ok (.aload_n 0, 1) := by decide +kernel
theorem dX5_countsUp_60 : decode cX5_countsUp 60 = .ok (.iload_n 1, 1) := by decide +kernel
theorem dX5_countsUp_61 : decode cX5_countsUp 61 = .ok (.iconst 5, 1) := by decide +kernel
theorem dX5_countsUp_62 : decode cX5_countsUp 62 = .ok (.aload_n 0, 1) := by decide +kernel
theorem dX5_countsUp_63 : decode cX5_countsUp 63 = .ok (.iload_n 1, 1) := by decide +kernel
theorem dX5_countsUp_64 : decode cX5_countsUp 64 = .ok (.invokevirtual 162, 3) := by decide +kernel
theorem dX5_countsUp_67 : decode cX5_countsUp 67 = .ok (.invokevirtual 148, 3) := by decide +kernel
theorem dX5_countsUp_70 : decode cX5_countsUp 70 = .ok (.return_, 1) := by decide +kernel
theorem dX5_looks_0 : decode cX5_looks 0 = .ok (.aload_n 0, 1) := by decide +kernel
theorem dX5_looks_1 : decode cX5_looks 1 = .ok (.iload_n 1, 1) := by decide +kernel
theorem dX5_looks_2 : decode cX5_looks 2 = .ok (.iconst 5, 1) := by decide +kernel
theorem dX5_looks_3 : decode cX5_looks 3 = .ok (.invokevirtual 145, 3) := by decide +kernel
theorem dX5_looks_6 : decode cX5_looks 6 = .ok (.ifCond .le 20, 3) := by decide +kernel
theorem dX5_looks_9 : decode cX5_looks 9 = .ok (.aload_n 0, 1) := by decide +kernel
theorem dX5_looks_10 : decode cX5_looks 10 = .ok (.iload_n 1, 1) := by decide +kernel
theorem dX5_looks_11 : decode cX5_looks 11 = .ok (.iconst 5, 1) := by decide +kernel
theorem dX5_looks_12 : decode cX5_looks 12 = .ok (.aload_n 0, 1) := by decide +kernel
theorem dX5_looks_13 : decode cX5_looks 13 = .ok (.iload_n 1, 1) := by decide +kernel
theorem dX5_looks_14 : decode cX5_looks 14 = .ok (.iconst 5, 1) := by decide +kernel
theorem dX5_looks_15 : decode cX5_looks 15 = .ok (.invokevirtual 145, 3) := by decide +kernel
theorem dX5_looks_18 : decode cX5_looks 18 = .ok (.iconst 1, 1) := by decide +kernel
theorem dX5_looks_19 : decode cX5_looks 19 = .ok (.isub, 1) := by decide +kernel
theorem dX5_looks_20 : decode cX5_looks 20 = .ok (.invokevirtual 148, 3) := by decide +kernel
theorem dX5_looks_23 : decode cX5_looks 23 = .ok (.goto 28, 3) := by decide +kernel
theorem dX5_looks_26 : decode cX5_looks 26 = .ok (.aload_n 0, 1) := by decide +kernel
theorem dX5_looks_27 : decode cX5_looks 27 = .ok (.iload_n 1, 1) := by decide +kernel
theorem dX5_looks_28 : decode cX5_looks 28 = .ok (.iconst 1, 1) := by decide +kernel
theorem dX5_looks_29 : decode cX5_looks 29 = .ok (.invokevirtual 145, 3) := by decide +kernel
theorem dX5_looks_32 : decode cX5_looks 32 = .ok (.iconst 1, 1) := by decide +kernel
theorem dX5_looks_33 : decode cX5_looks 33 = .ok (.if_icmp .ne 12, 3) := by decide +kernel
theorem dX5_looks_36 : decode cX5_looks 36 = .ok (.aload_n 0, 1) := by decide +kernel
theorem dX5_looks_37 : decode cX5_looks 37 = .ok (.iload_n 1, 1) := by decide +kernel
theorem dX5_looks_38 : decode cX5_looks 38 = .ok (.iload_n 2, 1) := by decide +kernel
theorem dX5_looks_39 : decode cX5_looks 39 = .ok (.invokevirtual 165, 3) := by decide +kernel
theorem dX5_looks_42 : decode cX5_looks 42 = .ok (.goto 9, 3) := by decide +kernel
theorem dX5_looks_45 : decode cX5_looks 45 = .ok (.aload_n 0, 1) := by decide +kernel
theorem dX5_looks_46 : decode cX5_looks 46 = .ok (.iload_n 1, 1) := by decide +kernel
theorem dX5_looks_47 : decode cX5_looks 47 = .ok (.iload_n 2, 1) := by decide +kernel
theorem dX5_looks_48 : decode cX5_looks 48 = .ok (.invokevirtual 168, 3) := by decide +kernel
theorem dX5_looks_51 : decode cX5_looks 51 = .ok (.return_, 1) := by decide +kernel
theorem dX5_contactsNow_0 : decode cX5_contactsNow 0 = .ok (.iconst 0, 1) := by decide +kernel
theorem dX5_contactsNow_1 : decode cX5_contactsNow 1 = .ok (.istore_n 1, 1) := by decide +kernel
theorem dX5_contactsNow_2 : decode cX5_contactsNow 2 = .ok (.iconst 0, 1) := by decide +kernel
theorem dX5_contactsNow_3 : decode cX5_contactsNow 3 = .ok (.istore_n 2, 1) := by decide +kernel
theorem dX5_contactsNow_4 : decode cX5_contactsNow 4 = .ok (.iload_n 2, 1) := by decide +kernel
theorem dX5_contactsNow_5 : decode cX5_contactsNow 5 = .ok (.aload_n 0, 1) := by decide +kernel
theorem dX5_contactsNow_6 : decode cX5_contactsNow 6 = .ok (.getfield 13, 3) := by decide +kernel
theorem dX5_contactsNow_9 : decode cX5_contactsNow 9 = .ok (.bipush 28, 2) := by decide +kernel
theorem dX5_contactsNow_11 : decode cX5_contactsNow 11 = .ok (.iaload, 1) := by decide +kernel
theorem dX5_contactsNow_12 : decode cX5_contactsNow 12 = .ok (.if_icmp .ge 26, 3) := by decide +kernel
theorem dX5_contactsNow_15 : decode cX5_contactsNow 15 = .ok (.iload_n 1, 1) := by decide +kernel
theorem dX5_contactsNow_16 : decode cX5_contactsNow 16 = .ok (.aload_n 0, 1) := by decide +kernel
theorem dX5_contactsNow_17 : decode cX5_contactsNow 17 = .ok (.iload_n 2, 1) := by decide +kernel
theorem dX5_contactsNow_18 : decode cX5_contactsNow 18 = .ok (.aload_n 0, 1) := by decide +kernel
theorem dX5_contactsNow_19 : decode cX5_contactsNow 19 = .ok (.getfield 13, 3) := by decide +kernel
theorem dX5_contactsNow_22 : decode cX5_contactsNow 22 = .ok (.bipush 55, 2) := by decide +kernel
theorem dX5_contactsNow_24 : decode cX5_contactsNow 24 = .ok (.iaload, 1) := by decide +kernel
theorem dX5_contactsNow_25 : decode cX5_contactsNow 25 = .ok (.invokevirtual 171, 3) := by decide +kernel
theorem dX5_contactsNow_28 : decode cX5_contactsNow 28 = .ok (.iload_n 2, 1) := by decide +kernel
theorem dX5_contactsNow_29 : decode cX5_contactsNow 29 = .ok (.ishl, 1) := by decide +kernel
theorem dX5_contactsNow_30 : decode cX5_contactsNow 30 = .ok (.ior, 1) := by decide +kernel
theorem dX5_contactsNow_31 : decode cX5_contactsNow 31 = .ok (.istore_n 1, 1) := by decide +kernel
theorem dX5_contactsNow_32 : decode cX5_contactsNow 32 = .ok (.iinc 2 1, 3) := by decide +kernel
theorem dX5_contactsNow_35 : decode cX5_contactsNow 35 = .ok (.goto (-31), 3) := by decide +kernel
theorem dX5_contactsNow_38 : decode cX5_contactsNow 38 = .ok (.iload_n 1, 1) := by decide +kernel
theorem dX5_contactsNow_39 : decode cX5_contactsNow 39 = .ok (.ireturn, 1) := by decide +kernel
theorem dX5_says_0 : decode cX5_says 0 = .ok (.iconst 0, 1) := by decide +kernel
theorem dX5_says_1 : decode cX5_says 1 = .ok (.istore_n 1, 1) := by decide +kernel
theorem dX5_says_2 : decode cX5_says 2 = .ok (.iconst 0, 1) := by decide +kernel
theorem dX5_says_3 : decode cX5_says 3 = .ok (.istore_n 2, 1) := by decide +kernel
theorem dX5_says_4 : decode cX5_says 4 = .ok (.iload_n 2, 1) := by decide +kernel
theorem dX5_says_5 : decode cX5_says 5 = .ok (.aload_n 0, 1) := by decide +kernel
theorem dX5_says_6 : decode cX5_says 6 = .ok (.getfield 13, 3) := by decide +kernel
theorem dX5_says_9 : decode cX5_says 9 = .ok (.bipush 28, 2) := by decide +kernel
theorem dX5_says_11 : decode cX5_says 11 = .ok (.iaload, 1) := by decide +kernel
theorem dX5_says_12 : decode cX5_says 12 = .ok (.if_icmp .ge 20, 3) := by decide +kernel
theorem dX5_says_15 : decode cX5_says 15 = .ok (.iload_n 1, 1) := by decide +kernel
theorem dX5_says_16 : decode cX5_says 16 = .ok (.aload_n 0, 1) := by decide +kernel
theorem dX5_says_17 : decode cX5_says 17 = .ok (.iload_n 2, 1) := by decide +kernel
theorem dX5_says_18 : decode cX5_says 18 = .ok (.iconst 3, 1) := by decide +kernel
theorem dX5_says_19 : decode cX5_says 19 = .ok (.invokevirtual 145, 3) := by decide +kernel
theorem dX5_says_22 : decode cX5_says 22 = .ok (.iload_n 2, 1) := by decide +kernel
theorem dX5_says_23 : decode cX5_says 23 = .ok (.ishl, 1) := by decide +kernel
theorem dX5_says_24 : decode cX5_says 24 = .ok (.ior, 1) := by decide +kernel
theorem dX5_says_25 : decode cX5_says 25 = .ok (.istore_n 1, 1) := by decide +kernel
theorem dX5_says_26 : decode cX5_says 26 = .ok (.iinc 2 1, 3) := by decide +kernel
theorem dX5_says_29 : decode cX5_says 29 = .ok (.goto (-25), 3) := by decide +kernel
theorem dX5_says_32 : decode cX5_says 32 = .ok (.iload_n 1, 1) := by decide +kernel
theorem dX5_says_33 : decode cX5_says 33 = .ok (.ireturn, 1) := by decide +kernel
theorem dX5_tickGoesBy_0 : decode cX5_tickGoesBy 0 = .ok (.aload_n 0, 1) := by decide +kernel
theorem dX5_tickGoesBy_1 : decode cX5_tickGoesBy 1 = .ok (.getfield 13, 3) := by decide +kernel
theorem dX5_tickGoesBy_4 : decode cX5_tickGoesBy 4 = .ok (.bipush 55, 2) := by decide +kernel
theorem dX5_tickGoesBy_6 : decode cX5_tickGoesBy 6 = .ok (.iaload, 1) := by decide +kernel
theorem dX5_tickGoesBy_7 : decode cX5_tickGoesBy 7 = .ok (.aload_n 0, 1) := by decide +kernel
theorem dX5_tickGoesBy_8 : decode cX5_tickGoesBy 8 = .ok (.getfield 13, 3) := by decide +kernel
theorem dX5_tickGoesBy_11 : decode cX5_tickGoesBy 11 = .ok (.bipush 54, 2) := by decide +kernel
theorem dX5_tickGoesBy_13 : decode cX5_tickGoesBy 13 = .ok (.iaload, 1) := by decide +kernel
theorem dX5_tickGoesBy_14 : decode cX5_tickGoesBy 14 = .ok (.irem, 1) := by decide +kernel
theorem dX5_tickGoesBy_15 : decode cX5_tickGoesBy 15 = .ok (.ifCond .ne 32, 3) := by decide +kernel
theorem dX5_tickGoesBy_18 : decode cX5_tickGoesBy 18 = .ok (.iconst 0, 1) := by decide +kernel
theorem dX5_tickGoesBy_19 : decode cX5_tickGoesBy 19 = .ok (.istore_n 2, 1) := by decide +kernel
theorem dX5_tickGoesBy_20 : decode cX5_tickGoesBy 20 = .ok (.iload_n 2, 1) := by decide +kernel
theorem dX5_tickGoesBy_21 : decode cX5_tickGoesBy 21 = .ok (.aload_n 0, 1) := by decide +kernel
theorem dX5_tickGoesBy_22 : decode cX5_tickGoesBy 22 = .ok (.getfield 13, 3) := by decide +kernel
theorem dX5_tickGoesBy_25 : decode cX5_tickGoesBy 25 = .ok (.bipush 28, 2) := by decide +kernel
theorem dX5_tickGoesBy_27 : decode cX5_tickGoesBy 27 = .ok (.iaload, 1) := by decide +kernel
theorem dX5_tickGoesBy_28 : decode cX5_tickGoesBy 28 = .ok (.if_icmp .ge 19, 3) := by decide +kernel
theorem dX5_tickGoesBy_31 : decode cX5_tickGoesBy 31 = .ok (.aload_n 0, 1) := by decide +kernel
theorem dX5_tickGoesBy_32 : decode cX5_tickGoesBy 32 = .ok (.iload_n 2, 1) := by decide +kernel
theorem dX5_tickGoesBy_33 : decode cX5_tickGoesBy 33 = .ok (.iload_n 1, 1) := by decide +kernel
theorem dX5_tickGoesBy_34 : decode cX5_tickGoesBy 34 = .ok (.iload_n 2, 1) := by decide +kernel
theorem dX5_tickGoesBy_35 : decode cX5_tickGoesBy 35 = .ok (.ishr, 1) := by decide +kernel
theorem dX5_tickGoesBy_36 : decode cX5_tickGoesBy 36 = .ok (.iconst 1, 1) := by decide +kernel
theorem dX5_tickGoesBy_37 : decode cX5_tickGoesBy 37 = .ok (.iand, 1) := by decide +kernel
theorem dX5_tickGoesBy_38 : decode cX5_tickGoesBy 38 = .ok (.invokevirtual 174, 3) := by decide +kernel
theorem dX5_tickGoesBy_41 : decode cX5_tickGoesBy 41 = .ok (.iinc 2 1, 3) := by decide +kernel
theorem dX5_tickGoesBy_44 : decode cX5_tickGoesBy 44 = .ok (.goto (-24), 3) := by decide +kernel
theorem dX5_tickGoesBy_47 : decode cX5_tickGoesBy 47 = .ok (.aload_n 0, 1) := by decide +kernel
theorem dX5_tickGoesBy_48 : decode cX5_tickGoesBy 48 = .ok (.getfield 13, 3) := by decide +kernel
theorem dX5_tickGoesBy_51 : decode cX5_tickGoesBy 51 = .ok (.bipush 55, 2) := by decide +kernel
theorem dX5_tickGoesBy_53 : decode cX5_tickGoesBy 53 = .ok (.dup2, 1) := by decide +kernel
theorem dX5_tickGoesBy_54 : decode cX5_tickGoesBy 54 = .ok (.iaload, 1) := by decide +kernel
theorem dX5_tickGoesBy_55 : decode cX5_tickGoesBy 55 = .ok (.iconst 1, 1) := by decide +kernel
theorem dX5_tickGoesBy_56 : decode cX5_tickGoesBy 56 = .ok (.iadd, 1) := by decide +kernel
theorem dX5_tickGoesBy_57 : decode cX5_tickGoesBy 57 = .ok (.iastore, 1) := by decide +kernel
theorem dX5_tickGoesBy_58 : decode cX5_tickGoesBy 58 = .ok (.return_, 1) := by decide +kernel
theorem dX5_ticksGo_0 : decode cX5_ticksGo 0 = .ok (.iconst 0, 1) := by decide +kernel
theorem dX5_ticksGo_1 : decode cX5_ticksGo 1 = .ok (.istore_n 2, 1) := by decide +kernel
theorem dX5_ticksGo_2 : decode cX5_ticksGo 2 = .ok (.iload_n 2, 1) := by decide +kernel
theorem dX5_ticksGo_3 : decode cX5_ticksGo 3 = .ok (.iload_n 1, 1) := by decide +kernel
theorem dX5_ticksGo_4 : decode cX5_ticksGo 4 = .ok (.if_icmp .ge 17, 3) := by decide +kernel
theorem dX5_ticksGo_7 : decode cX5_ticksGo 7 = .ok (.aload_n 0, 1) := by decide +kernel
theorem dX5_ticksGo_8 : decode cX5_ticksGo 8 = .ok (.aload_n 0, 1) := by decide +kernel
theorem dX5_ticksGo_9 : decode cX5_ticksGo 9 = .ok (.invokevirtual 177, 3) := by decide +kernel
theorem dX5_ticksGo_12 : decode cX5_ticksGo 12 = .ok (.invokevirtual 180, 3) := by decide +kernel
theorem dX5_ticksGo_15 : decode cX5_ticksGo 15 = .ok (.iinc 2 1, 3) := by decide +kernel
theorem dX5_ticksGo_18 : decode cX5_ticksGo 18 = .ok (.goto (-16), 3) := by decide +kernel
theorem dX5_ticksGo_21 : decode cX5_ticksGo 21 = .ok (.return_, 1) := by decide +kernel
theorem dX5_struckByAll_0 : decode cX5_struckByAll 0 = .ok (.iconst 0, 1) := by decide +kernel
theorem dX5_struckByAll_1 : decode cX5_struckByAll 1 = .ok (.istore_n 1, 1) := by decide +kernel
theorem dX5_struckByAll_2 : decode cX5_struckByAll 2 = .ok (.iconst 0, 1) := by decide +kernel
theorem dX5_struckByAll_3 : decode cX5_struckByAll 3 = .ok (.istore_n 2, 1) := by decide +kernel
theorem dX5_struckByAll_4 : decode cX5_struckByAll 4 = .ok (.iload_n 2, 1) := by decide +kernel
theorem dX5_struckByAll_5 : decode cX5_struckByAll 5 = .ok (.iconst 4, 1) := by decide +kernel
theorem dX5_struckByAll_6 : decode cX5_struckByAll 6 = .ok (.if_icmp .ge 18, 3) := by decide +kernel
theorem dX5_struckByAll_9 : decode cX5_struckByAll 9 = .ok (.iload_n 1, 1) := by decide +kernel
theorem dX5_struckByAll_10 : decode cX5_struckByAll 10 = .ok (.aload_n 0, 1) := by decide +kernel
theorem dX5_struckByAll_11 : decode cX5_struckByAll 11 = .ok (.getfield 26, 3) := by decide +kernel
theorem dX5_struckByAll_14 : decode cX5_struckByAll 14 = .ok (.iload_n 2, 1) := by decide +kernel
theorem dX5_struckByAll_15 : decode cX5_struckByAll 15 = .ok (.iaload, 1) := by decide +kernel
theorem dX5_struckByAll_16 : decode cX5_struckByAll 16 = .ok (.iadd, 1) := by decide +kernel
theorem dX5_struckByAll_17 : decode cX5_struckByAll 17 = .ok (.istore_n 1, 1) := by decide +kernel
theorem dX5_struckByAll_18 : decode cX5_struckByAll 18 = .ok (.iinc 2 1, 3) := by decide +kernel
theorem dX5_struckByAll_21 : decode cX5_struckByAll 21 = .ok (.goto (-17), 3) := by decide +kernel
theorem dX5_struckByAll_24 : decode cX5_struckByAll 24 = .ok (.iload_n 1, 1) := by decide +kernel
theorem dX5_struckByAll_25 : decode cX5_struckByAll 25 = .ok (.ireturn, 1) := by decide +kernel
theorem dX5_cutsSum_0 : decode cX5_cutsSum 0 = .ok (.aload_n 0, 1) := by decide +kernel
theorem dX5_cutsSum_1 : decode cX5_cutsSum 1 = .ok (.iload_n 1, 1) := by decide +kernel
theorem dX5_cutsSum_2 : decode cX5_cutsSum 2 = .ok (.iconst 4, 1) := by decide +kernel
theorem dX5_cutsSum_3 : decode cX5_cutsSum 3 = .ok (.aload_n 0, 1) := by decide +kernel
theorem dX5_cutsSum_4 : decode cX5_cutsSum 4 = .ok (.iload_n 1, 1) := by decide +kernel
theorem dX5_cutsSum_5 : decode cX5_cutsSum 5 = .ok (.iconst 4, 1) := by decide +kernel
theorem dX5_cutsSum_6 : decode cX5_cutsSum 6 = .ok (.invokevirtual 145, 3) := by decide +kernel
theorem dX5_cutsSum_9 : decode cX5_cutsSum 9 = .ok (.aload_n 0, 1) := by decide +kernel
theorem dX5_cutsSum_10 : decode cX5_cutsSum 10 = .ok (.iload_n 1, 1) := by decide +kernel
theorem dX5_cutsSum_11 : decode cX5_cutsSum 11 = .ok (.iconst 2, 1) := by decide +kernel
theorem dX5_cutsSum_12 : decode cX5_cutsSum 12 = .ok (.invokevirtual 145, 3) := by decide +kernel
theorem dX5_cutsSum_15 : decode cX5_cutsSum 15 = .ok (.invokestatic 152, 3) := by decide +kernel
theorem dX5_cutsSum_18 : decode cX5_cutsSum 18 = .ok (.invokevirtual 148, 3) := by decide +kernel
theorem dX5_cutsSum_21 : decode cX5_cutsSum 21 = .ok (.return_, 1) := by decide +kernel
theorem dX5_sumOf_0 : decode cX5_sumOf 0 = .ok (.iconst 0, 1) := by decide +kernel
theorem dX5_sumOf_1 : decode cX5_sumOf 1 = .ok (.istore_n 2, 1) := by decide +kernel
theorem dX5_sumOf_2 : decode cX5_sumOf 2 = .ok (.iconst 0, 1) := by decide +kernel
theorem dX5_sumOf_3 : decode cX5_sumOf 3 = .ok (.istore_n 3, 1) := by decide +kernel
theorem dX5_sumOf_4 : decode cX5_sumOf 4 = .ok (.iload_n 3, 1) := by decide +kernel
theorem dX5_sumOf_5 : decode cX5_sumOf 5 = .ok (.aload_n 0, 1) := by decide +kernel
theorem dX5_sumOf_6 : decode cX5_sumOf 6 = .ok (.getfield 7, 3) := by decide +kernel
theorem dX5_sumOf_9 : decode cX5_sumOf 9 = .ok (.bipush 28, 2) := by decide +kernel
theorem dX5_sumOf_11 : decode cX5_sumOf 11 = .ok (.iaload, 1) := by decide +kernel
theorem dX5_sumOf_12 : decode cX5_sumOf 12 = .ok (.if_icmp .ge 23, 3) := by decide +kernel
theorem dX5_sumOf_15 : decode cX5_sumOf 15 = .ok (.iload_n 2, 1) := by decide +kernel
theorem dX5_sumOf_16 : decode cX5_sumOf 16 = .ok (.aload_n 0, 1) := by decide +kernel
theorem dX5_sumOf_17 : decode cX5_sumOf 17 = .ok (.getfield 7, 3) := by decide +kernel
theorem dX5_sumOf_20 : decode cX5_sumOf 20 = .ok (.bipush 7, 2) := by decide +kernel
theorem dX5_sumOf_22 : decode cX5_sumOf 22 = .ok (.iload_n 3, 1) := by decide +kernel
theorem dX5_sumOf_23 : decode cX5_sumOf 23 = .ok (.imul, 1) := by decide +kernel
theorem dX5_sumOf_24 : decode cX5_sumOf 24 = .ok (.iload_n 1, 1) := by decide +kernel
theorem dX5_sumOf_25 : decode cX5_sumOf 25 = .ok (.iadd, 1) := by decide +kernel
theorem dX5_sumOf_26 : decode cX5_sumOf 26 = .ok (.iaload, 1) := by decide +kernel
theorem dX5_sumOf_27 : decode cX5_sumOf 27 = .ok (.iadd, 1) := by decide +kernel
theorem dX5_sumOf_28 : decode cX5_sumOf 28 = .ok (.istore_n 2, 1) := by decide +kernel
theorem dX5_sumOf_29 : decode cX5_sumOf 29 = .ok (.iinc 3 1, 3) := by decide +kernel
theorem dX5_sumOf_32 : decode cX5_sumOf 32 = .ok (.goto (-28), 3) := by decide +kernel
theorem dX5_sumOf_35 : decode cX5_sumOf 35 = .ok (.iload_n 2, 1) := by decide +kernel
theorem dX5_sumOf_36 : decode cX5_sumOf 36 = .ok (.ireturn, 1) := by decide +kernel
theorem dX5_rule_0 : decode cX5_rule 0 = .ok (.aload_n 0, 1) := by decide +kernel
theorem dX5_rule_1 : decode cX5_rule 1 = .ok (.invokevirtual 183, 3) := by decide +kernel
theorem dX5_rule_4 : decode cX5_rule 4 = .ok (.iload_n 1, 1) := by decide +kernel
theorem dX5_rule_5 : decode cX5_rule 5 = .ok (.tableswitch 92 0 6 #[43, 51, 59, 67, 75, 80, 85], 43) := by decide +kernel
theorem dX5_rule_48 : decode cX5_rule 48 = .ok (.aload_n 0, 1) := by decide +kernel
theorem dX5_rule_49 : decode cX5_rule 49 = .ok (.getfield 7, 3) := by decide +kernel
theorem dX5_rule_52 : decode cX5_rule 52 = .ok (.bipush 28, 2) := by decide +kernel
theorem dX5_rule_54 : decode cX5_rule 54 = .ok (.iaload, 1) := by decide +kernel
theorem dX5_rule_55 : decode cX5_rule 55 = .ok (.ireturn, 1) := by decide +kernel
theorem dX5_rule_56 : decode cX5_rule 56 = .ok (.aload_n 0, 1) := by decide +kernel
theorem dX5_rule_57 : decode cX5_rule 57 = .ok (.getfield 7, 3) := by decide +kernel
theorem dX5_rule_60 : decode cX5_rule 60 = .ok (.bipush 53, 2) := by decide +kernel
theorem dX5_rule_62 : decode cX5_rule 62 = .ok (.iaload, 1) := by decide +kernel
theorem dX5_rule_63 : decode cX5_rule 63 = .ok (.ireturn, 1) := by decide +kernel
theorem dX5_rule_64 : decode cX5_rule 64 = .ok (.aload_n 0, 1) := by decide +kernel
theorem dX5_rule_65 : decode cX5_rule 65 = .ok (.getfield 7, 3) := by decide +kernel
theorem dX5_rule_68 : decode cX5_rule 68 = .ok (.bipush 55, 2) := by decide +kernel
theorem dX5_rule_70 : decode cX5_rule 70 = .ok (.iaload, 1) := by decide +kernel
theorem dX5_rule_71 : decode cX5_rule 71 = .ok (.ireturn, 1) := by decide +kernel
theorem dX5_rule_72 : decode cX5_rule 72 = .ok (.aload_n 0, 1) := by decide +kernel
theorem dX5_rule_73 : decode cX5_rule 73 = .ok (.getfield 7, 3) := by decide +kernel
theorem dX5_rule_76 : decode cX5_rule 76 = .ok (.bipush 54, 2) := by decide +kernel
theorem dX5_rule_78 : decode cX5_rule 78 = .ok (.iaload, 1) := by decide +kernel
theorem dX5_rule_79 : decode cX5_rule 79 = .ok (.ireturn, 1) := by decide +kernel
theorem dX5_rule_80 : decode cX5_rule 80 = .ok (.aload_n 0, 1) := by decide +kernel
theorem dX5_rule_81 : decode cX5_rule 81 = .ok (.invokevirtual 186, 3) := by decide +kernel
theorem dX5_rule_84 : decode cX5_rule 84 = .ok (.ireturn, 1) := by decide +kernel
theorem dX5_rule_85 : decode cX5_rule 85 = .ok (.aload_n 0, 1) := by decide +kernel
theorem dX5_rule_86 : decode cX5_rule 86 = .ok (.invokevirtual 177, 3) := by decide +kernel
theorem dX5_rule_89 : decode cX5_rule 89 = .ok (.ireturn, 1) := by decide +kernel
theorem dX5_rule_90 : decode cX5_rule 90 = .ok (.aload_n 0, 1) := by decide +kernel
theorem dX5_rule_91 : decode cX5_rule 91 = .ok (.bipush 6, 2) := by decide +kernel
theorem dX5_rule_93 : decode cX5_rule 93 = .ok (.invokevirtual 189, 3) := by decide +kernel
theorem dX5_rule_96 : decode cX5_rule 96 = .ok (.ireturn, 1) := by decide +kernel
theorem dX5_rule_97 : decode cX5_rule 97 = .ok (.iconst (-1), 1) := by decide +kernel
theorem dX5_rule_98 : decode cX5_rule 98 = .ok (.ireturn, 1) := by decide +kernel
theorem dX5_key_0 : decode cX5_key 0 = .ok (.aload_n 0, 1) := by decide +kernel
theorem dX5_key_1 : decode cX5_key 1 = .ok (.iload_n 1, 1) := by decide +kernel
theorem dX5_key_2 : decode cX5_key 2 = .ok (.invokevirtual 192, 3) := by decide +kernel
theorem dX5_key_5 : decode cX5_key 5 = .ok (.ifCond .eq 29, 3) := by decide +kernel
theorem dX5_key_8 : decode cX5_key 8 = .ok (.iload_n 2, 1) := by decide +kernel
theorem dX5_key_9 : decode cX5_key 9 = .ok (.i2l, 1) := by decide +kernel
theorem dX5_key_10 : decode cX5_key 10 = .ok (.lconst 0, 1) := by decide +kernel
theorem dX5_key_11 : decode cX5_key 11 = .ok (.ldc2_w 196, 3) := by decide +kernel
theorem dX5_key_14 : decode cX5_key 14 = .ok (.invokestatic 63, 3) := by decide +kernel
theorem dX5_key_17 : decode cX5_key 17 = .ok (.ifCond .eq 17, 3) := by decide +kernel
theorem dX5_key_20 : decode cX5_key 20 = .ok (.aload_n 0, 1) := by decide +kernel
theorem dX5_key_21 : decode cX5_key 21 = .ok (.getfield 7, 3) := by decide +kernel
theorem dX5_key_24 : decode cX5_key 24 = .ok (.bipush 7, 2) := by decide +kernel
theorem dX5_key_26 : decode cX5_key 26 = .ok (.iload_n 1, 1) := by decide +kernel
theorem dX5_key_27 : decode cX5_key 27 = .ok (.imul, 1) := by decide +kernel
theorem dX5_key_28 : decode cX5_key 28 = .ok (.iload_n 2, 1) := by decide +kernel
theorem dX5_key_29 : decode cX5_key 29 = .ok (.iadd, 1) := by decide +kernel
theorem dX5_key_30 : decode cX5_key 30 = .ok (.iaload, 1) := by decide +kernel
theorem dX5_key_31 : decode cX5_key 31 = .ok (.goto 4, 3) := by decide +kernel
theorem dX5_key_34 : decode cX5_key 34 = .ok (.iconst (-1), 1) := by decide +kernel
theorem dX5_key_35 : decode cX5_key 35 = .ok (.ireturn, 1) := by decide +kernel
theorem dX5_press_0 : decode cX5_press 0 = .ok (.iload_n 1, 1) := by decide +kernel
theorem dX5_press_1 : decode cX5_press 1 = .ok (.i2l, 1) := by decide +kernel
theorem dX5_press_2 : decode cX5_press 2 = .ok (.lconst 0, 1) := by decide +kernel
theorem dX5_press_3 : decode cX5_press 3 = .ok (.aload_n 0, 1) := by decide +kernel
theorem dX5_press_4 : decode cX5_press 4 = .ok (.getfield 7, 3) := by decide +kernel
theorem dX5_press_7 : decode cX5_press 7 = .ok (.bipush 53, 2) := by decide +kernel
theorem dX5_press_9 : decode cX5_press 9 = .ok (.iaload, 1) := by decide +kernel
theorem dX5_press_10 : decode cX5_press 10 = .ok (.iconst 1, 1) := by decide +kernel
theorem dX5_press_11 : decode cX5_press 11 = .ok (.isub, 1) := by decide +kernel
theorem dX5_press_12 : decode cX5_press 12 = .ok (.i2l, 1) := by decide +kernel
theorem dX5_press_13 : decode cX5_press 13 = .ok (.invokestatic 63, 3) := by decide +kernel
theorem dX5_press_16 : decode cX5_press 16 = .ok (.ifCond .eq 31, 3) := by decide +kernel
theorem dX5_press_19 : decode cX5_press 19 = .ok (.iload_n 2, 1) := by decide +kernel
theorem dX5_press_20 : decode cX5_press 20 = .ok (.i2l, 1) := by decide +kernel
theorem dX5_press_21 : decode cX5_press 21 = .ok (.lconst 0, 1) := by decide +kernel
theorem dX5_press_22 : decode cX5_press 22 = .ok (.ldc2_w 198, 3) := by decide +kernel
theorem dX5_press_25 : decode cX5_press 25 = .ok (.invokestatic 63, 3) := by decide +kernel
theorem dX5_press_28 : decode cX5_press 28 = .ok (.ifCond .eq 19, 3) := by decide +kernel
theorem dX5_press_31 : decode cX5_press 31 = .ok (.aload_n 0, 1) := by decide +kernel
theorem dX5_press_32 : decode cX5_press 32 = .ok (.getfield 7, 3) := by decide +kernel
theorem dX5_press_35 : decode cX5_press 35 = .ok (.bipush 29, 2) := by decide +kernel
theorem dX5_press_37 : decode cX5_press 37 = .ok (.iconst 3, 1) := by decide +kernel
theorem dX5_press_38 : decode cX5_press 38 = .ok (.iload_n 1, 1) := by decide +kernel
theorem dX5_press_39 : decode cX5_press 39 = .ok (.imul, 1) := by decide +kernel
theorem dX5_press_40 : decode cX5_press 40 = .ok (.iadd, 1) := by decide +kernel
theorem dX5_press_41 : decode cX5_press 41 = .ok (.iload_n 2, 1) := by decide +kernel
theorem dX5_press_42 : decode cX5_press 42 = .ok (.iadd, 1) := by decide +kernel
theorem dX5_press_43 : decode cX5_press 43 = .ok (.iaload, 1) := by decide +kernel
theorem dX5_press_44 : decode cX5_press 44 = .ok (.goto 4, 3) := by decide +kernel
theorem dX5_press_47 : decode cX5_press 47 = .ok (.iconst (-1), 1) := by decide +kernel
theorem dX5_press_48 : decode cX5_press 48 = .ok (.ireturn, 1) := by decide +kernel
theorem dX5_contact_0 : decode cX5_contact 0 = .ok (.aload_n 0, 1) := by decide +kernel
theorem dX5_contact_1 : decode cX5_contact 1 = .ok (.iload_n 1, 1) := by decide +kernel
theorem dX5_contact_2 : decode cX5_contact 2 = .ok (.invokevirtual 192, 3) := by decide +kernel
theorem dX5_contact_5 : decode cX5_contact 5 = .ok (.ifCond .eq 15, 3) := by decide +kernel
theorem dX5_contact_8 : decode cX5_contact 8 = .ok (.iload_n 2, 1) := by decide +kernel
theorem dX5_contact_9 : decode cX5_contact 9 = .ok (.i2l, 1) := by decide +kernel
theorem dX5_contact_10 : decode cX5_contact 10 = .ok (.lconst 0, 1) := by decide +kernel
theorem dX5_contact_11 : decode cX5_contact 11 = .ok (.ldc2_w 200, 3) := by decide +kernel
theorem dX5_contact_14 : decode cX5_contact 14 = .ok (.invokestatic 63, 3) := by decide +kernel
theorem dX5_contact_17 : decode cX5_contact 17 = .ok (.ifCond .ne 5, 3) := by decide +kernel
theorem dX5_contact_20 : decode cX5_contact 20 = .ok (.iconst (-1), 1) := by decide +kernel
theorem dX5_contact_21 : decode cX5_contact 21 = .ok (.ireturn, 1) := by decide +kernel
theorem dX5_contact_22 : decode cX5_contact 22 = .ok (.aload_n 0, 1) := by decide +kernel
theorem dX5_contact_23 : decode cX5_contact 23 = .ok (.invokevirtual 183, 3) := by decide +kernel
theorem dX5_contact_26 : decode cX5_contact 26 = .ok (.aload_n 0, 1) := by decide +kernel
theorem dX5_contact_27 : decode cX5_contact 27 = .ok (.iload_n 1, 1) := by decide +kernel
theorem dX5_contact_28 : decode cX5_contact 28 = .ok (.iload_n 2, 1) := by decide +kernel
theorem dX5_contact_29 : decode cX5_contact 29 = .ok (.invokevirtual 171, 3) := by decide +kernel
theorem dX5_contact_32 : decode cX5_contact 32 = .ok (.ireturn, 1) := by decide +kernel
theorem dX5_becomes_0 : decode cX5_becomes 0 = .ok (.aload_n 0, 1) := by decide +kernel
theorem dX5_becomes_1 : decode cX5_becomes 1 = .ok (.getfield 7, 3) := by decide +kernel
theorem dX5_becomes_4 : decode cX5_becomes 4 = .ok (.iload_n 1, 1) := by decide +kernel
theorem dX5_becomes_5 : decode cX5_becomes 5 = .ok (.iaload, 1) := by decide +kernel
theorem dX5_becomes_6 : decode cX5_becomes 6 = .ok (.istore_n 3, 1) := by decide +kernel
theorem dX5_becomes_7 : decode cX5_becomes 7 = .ok (.aload_n 0, 1) := by decide +kernel
theorem dX5_becomes_8 : decode cX5_becomes 8 = .ok (.getfield 7, 3) := by decide +kernel
theorem dX5_becomes_11 : decode cX5_becomes 11 = .ok (.iload_n 1, 1) := by decide +kernel
theorem dX5_becomes_12 : decode cX5_becomes 12 = .ok (.iload_n 2, 1) := by decide +kernel
theorem dX5_becomes_13 : decode cX5_becomes 13 = .ok (.iastore, 1) := by decide +kernel
theorem dX5_becomes_14 : decode cX5_becomes 14 = .ok (.iload_n 3, 1) := by decide +kernel
theorem dX5_becomes_15 : decode cX5_becomes 15 = .ok (.ireturn, 1) := by decide +kernel
theorem dX5_lowOf_0 : decode cX5_lowOf 0 = .ok (.iload_n 0, 1) := by decide +kernel
theorem dX5_lowOf_1 : decode cX5_lowOf 1 = .ok (.iconst 2, 1) := by decide +kernel
theorem dX5_lowOf_2 : decode cX5_lowOf 2 = .ok (.if_icmp .ne 7, 3) := by decide +kernel
theorem dX5_lowOf_5 : decode cX5_lowOf 5 = .ok (.iconst 1, 1) := by decide +kernel
theorem dX5_lowOf_6 : decode cX5_lowOf 6 = .ok (.goto 4, 3) := by decide +kernel
theorem dX5_lowOf_9 : decode cX5_lowOf 9 = .ok (.iconst 0, 1) := by decide +kernel
theorem dX5_lowOf_10 : decode cX5_lowOf 10 = .ok (.ireturn, 1) := by decide +kernel
theorem dX5_mostOf_0 : decode cX5_mostOf 0 = .ok (.iload_n 0, 1) := by decide +kernel
theorem dX5_mostOf_1 : decode cX5_mostOf 1 = .ok (.iconst 1, 1) := by decide +kernel
theorem dX5_mostOf_2 : decode cX5_mostOf 2 = .ok (.if_icmp .ne 7, 3) := by decide +kernel
theorem dX5_mostOf_5 : decode cX5_mostOf 5 = .ok (.iconst 3, 1) := by decide +kernel
theorem dX5_mostOf_6 : decode cX5_mostOf 6 = .ok (.goto 14, 3) := by decide +kernel
theorem dX5_mostOf_9 : decode cX5_mostOf 9 = .ok (.iload_n 0, 1) := by decide +kernel
theorem dX5_mostOf_10 : decode cX5_mostOf 10 = .ok (.ifCond .ne 8, 3) := by decide +kernel
theorem dX5_mostOf_13 : decode cX5_mostOf 13 = .ok (.bipush 9, 2) := by decide +kernel
theorem dX5_mostOf_15 : decode cX5_mostOf 15 = .ok (.goto 5, 3) := by decide +kernel
theorem dX5_mostOf_18 : decode cX5_mostOf 18 = .ok (.bipush 9, 2) := by decide +kernel
end
section
theorem dX5_mostOf_20 : decode cX5_mostOf 20 = .ok (.ireturn, 1) := by decide +kernel
theorem dX5_alter_0 : decode cX5_alter 0 = .ok (.aload_n 0, 1) := by decide +kernel
theorem dX5_alter_1 : decode cX5_alter 1 = .ok (.iload_n 1, 1) := by decide +kernel
theorem dX5_alter_2 : decode cX5_alter 2 = .ok (.invokevirtual 192, 3) := by decide +kernel
theorem dX5_alter_5 : decode cX5_alter 5 = .ok (.ifCond .eq 33, 3) := by decide +kernel
theorem dX5_alter_8 : decode cX5_alter 8 = .ok (.iload_n 2, 1) := by decide +kernel
theorem dX5_alter_9 : decode cX5_alter 9 = .ok (.i2l, 1) := by decide +kernel
theorem dX5_alter_10 : decode cX5_alter 10 = .ok (.lconst 0, 1) := by decide +kernel
theorem dX5_alter_11 : decode cX5_alter 11 = .ok (.ldc2_w 198, 3) := by decide +kernel
theorem dX5_alter_14 : decode cX5_alter 14 = .ok (.invokestatic 63, 3) := by decide +kernel
theorem dX5_alter_17 : decode cX5_alter 17 = .ok (.ifCond .eq 21, 3) := by decide +kernel
theorem dX5_alter_20 : decode cX5_alter 20 = .ok (.iload_n 3, 1) := by decide +kernel
theorem dX5_alter_21 : decode cX5_alter 21 = .ok (.i2l, 1) := by decide +kernel
theorem dX5_alter_22 : decode cX5_alter 22 = .ok (.iload_n 2, 1) := by decide +kernel
theorem dX5_alter_23 : decode cX5_alter 23 = .ok (.invokestatic 202, 3) := by decide +kernel
theorem dX5_alter_26 : decode cX5_alter 26 = .ok (.i2l, 1) := by decide +kernel
theorem dX5_alter_27 : decode cX5_alter 27 = .ok (.iload_n 2, 1) := by decide +kernel
theorem dX5_alter_28 : decode cX5_alter 28 = .ok (.invokestatic 205, 3) := by decide +kernel
theorem dX5_alter_31 : decode cX5_alter 31 = .ok (.i2l, 1) := by decide +kernel
theorem dX5_alter_32 : decode cX5_alter 32 = .ok (.invokestatic 63, 3) := by decide +kernel
theorem dX5_alter_35 : decode cX5_alter 35 = .ok (.ifCond .ne 5, 3) := by decide +kernel
theorem dX5_alter_38 : decode cX5_alter 38 = .ok (.iconst (-1), 1) := by decide +kernel
theorem dX5_alter_39 : decode cX5_alter 39 = .ok (.ireturn, 1) := by decide +kernel
theorem dX5_alter_40 : decode cX5_alter 40 = .ok (.aload_n 0, 1) := by decide +kernel
theorem dX5_alter_41 : decode cX5_alter 41 = .ok (.bipush 7, 2) := by decide +kernel
theorem dX5_alter_43 : decode cX5_alter 43 = .ok (.iload_n 1, 1) := by decide +kernel
theorem dX5_alter_44 : decode cX5_alter 44 = .ok (.imul, 1) := by decide +kernel
theorem dX5_alter_45 : decode cX5_alter 45 = .ok (.iload_n 2, 1) := by decide +kernel
theorem dX5_alter_46 : decode cX5_alter 46 = .ok (.iadd, 1) := by decide +kernel
theorem dX5_alter_47 : decode cX5_alter 47 = .ok (.iload_n 3, 1) := by decide +kernel
theorem dX5_alter_48 : decode cX5_alter 48 = .ok (.invokevirtual 208, 3) := by decide +kernel
theorem dX5_alter_51 : decode cX5_alter 51 = .ok (.istore 4, 2) := by decide +kernel
theorem dX5_alter_53 : decode cX5_alter 53 = .ok (.aload_n 0, 1) := by decide +kernel
theorem dX5_alter_54 : decode cX5_alter 54 = .ok (.invokevirtual 183, 3) := by decide +kernel
theorem dX5_alter_57 : decode cX5_alter 57 = .ok (.aload_n 0, 1) := by decide +kernel
theorem dX5_alter_58 : decode cX5_alter 58 = .ok (.iload_n 1, 1) := by decide +kernel
theorem dX5_alter_59 : decode cX5_alter 59 = .ok (.invokevirtual 211, 3) := by decide +kernel
theorem dX5_alter_62 : decode cX5_alter 62 = .ok (.aload_n 0, 1) := by decide +kernel
theorem dX5_alter_63 : decode cX5_alter 63 = .ok (.invokevirtual 214, 3) := by decide +kernel
theorem dX5_alter_66 : decode cX5_alter 66 = .ok (.iload 4, 2) := by decide +kernel
theorem dX5_alter_68 : decode cX5_alter 68 = .ok (.ireturn, 1) := by decide +kernel
theorem dX5_every_0 : decode cX5_every 0 = .ok (.iload_n 1, 1) := by decide +kernel
theorem dX5_every_1 : decode cX5_every 1 = .ok (.i2l, 1) := by decide +kernel
theorem dX5_every_2 : decode cX5_every 2 = .ok (.lconst 1, 1) := by decide +kernel
theorem dX5_every_3 : decode cX5_every 3 = .ok (.ldc2_w 217, 3) := by decide +kernel
theorem dX5_every_6 : decode cX5_every 6 = .ok (.invokestatic 63, 3) := by decide +kernel
theorem dX5_every_9 : decode cX5_every 9 = .ok (.ifCond .eq 13, 3) := by decide +kernel
theorem dX5_every_12 : decode cX5_every 12 = .ok (.aload_n 0, 1) := by decide +kernel
theorem dX5_every_13 : decode cX5_every 13 = .ok (.bipush 54, 2) := by decide +kernel
theorem dX5_every_15 : decode cX5_every 15 = .ok (.iload_n 1, 1) := by decide +kernel
theorem dX5_every_16 : decode cX5_every 16 = .ok (.invokevirtual 208, 3) := by decide +kernel
theorem dX5_every_19 : decode cX5_every 19 = .ok (.goto 4, 3) := by decide +kernel
theorem dX5_every_22 : decode cX5_every 22 = .ok (.iconst (-1), 1) := by decide +kernel
theorem dX5_every_23 : decode cX5_every 23 = .ok (.ireturn, 1) := by decide +kernel
theorem dX5_strike_0 : decode cX5_strike 0 = .ok (.iload_n 1, 1) := by decide +kernel
theorem dX5_strike_1 : decode cX5_strike 1 = .ok (.i2l, 1) := by decide +kernel
theorem dX5_strike_2 : decode cX5_strike 2 = .ok (.lconst 0, 1) := by decide +kernel
theorem dX5_strike_3 : decode cX5_strike 3 = .ok (.ldc2_w 219, 3) := by decide +kernel
theorem dX5_strike_6 : decode cX5_strike 6 = .ok (.invokestatic 63, 3) := by decide +kernel
theorem dX5_strike_9 : decode cX5_strike 9 = .ok (.ifCond .eq 21, 3) := by decide +kernel
theorem dX5_strike_12 : decode cX5_strike 12 = .ok (.aload_n 0, 1) := by decide +kernel
theorem dX5_strike_13 : decode cX5_strike 13 = .ok (.iload_n 2, 1) := by decide +kernel
theorem dX5_strike_14 : decode cX5_strike 14 = .ok (.invokevirtual 192, 3) := by decide +kernel
theorem dX5_strike_17 : decode cX5_strike 17 = .ok (.ifCond .eq 13, 3) := by decide +kernel
theorem dX5_strike_20 : decode cX5_strike 20 = .ok (.iload_n 3, 1) := by decide +kernel
theorem dX5_strike_21 : decode cX5_strike 21 = .ok (.i2l, 1) := by decide +kernel
theorem dX5_strike_22 : decode cX5_strike 22 = .ok (.lconst 0, 1) := by decide +kernel
theorem dX5_strike_23 : decode cX5_strike 23 = .ok (.lconst 1, 1) := by decide +kernel
theorem dX5_strike_24 : decode cX5_strike 24 = .ok (.invokestatic 63, 3) := by decide +kernel
theorem dX5_strike_27 : decode cX5_strike 27 = .ok (.ifCond .ne 5, 3) := by decide +kernel
theorem dX5_strike_30 : decode cX5_strike 30 = .ok (.iconst (-1), 1) := by decide +kernel
theorem dX5_strike_31 : decode cX5_strike 31 = .ok (.ireturn, 1) := by decide +kernel
theorem dX5_strike_32 : decode cX5_strike 32 = .ok (.aload_n 0, 1) := by decide +kernel
theorem dX5_strike_33 : decode cX5_strike 33 = .ok (.getfield 7, 3) := by decide +kernel
theorem dX5_strike_36 : decode cX5_strike 36 = .ok (.bipush 53, 2) := by decide +kernel
theorem dX5_strike_38 : decode cX5_strike 38 = .ok (.iaload, 1) := by decide +kernel
theorem dX5_strike_39 : decode cX5_strike 39 = .ok (.bipush 8, 2) := by decide +kernel
theorem dX5_strike_41 : decode cX5_strike 41 = .ok (.if_icmp .ne 6, 3) := by decide +kernel
theorem dX5_strike_44 : decode cX5_strike 44 = .ok (.bipush (-3), 2) := by decide +kernel
theorem dX5_strike_46 : decode cX5_strike 46 = .ok (.ireturn, 1) := by decide +kernel
theorem dX5_strike_47 : decode cX5_strike 47 = .ok (.bipush 29, 2) := by decide +kernel
theorem dX5_strike_49 : decode cX5_strike 49 = .ok (.iconst 3, 1) := by decide +kernel
theorem dX5_strike_50 : decode cX5_strike 50 = .ok (.aload_n 0, 1) := by decide +kernel
theorem dX5_strike_51 : decode cX5_strike 51 = .ok (.getfield 7, 3) := by decide +kernel
theorem dX5_strike_54 : decode cX5_strike 54 = .ok (.bipush 53, 2) := by decide +kernel
theorem dX5_strike_56 : decode cX5_strike 56 = .ok (.iaload, 1) := by decide +kernel
theorem dX5_strike_57 : decode cX5_strike 57 = .ok (.imul, 1) := by decide +kernel
theorem dX5_strike_58 : decode cX5_strike 58 = .ok (.iadd, 1) := by decide +kernel
theorem dX5_strike_59 : decode cX5_strike 59 = .ok (.istore 4, 2) := by decide +kernel
theorem dX5_strike_61 : decode cX5_strike 61 = .ok (.aload_n 0, 1) := by decide +kernel
theorem dX5_strike_62 : decode cX5_strike 62 = .ok (.getfield 7, 3) := by decide +kernel
theorem dX5_strike_65 : decode cX5_strike 65 = .ok (.iload 4, 2) := by decide +kernel
theorem dX5_strike_67 : decode cX5_strike 67 = .ok (.iconst 0, 1) := by decide +kernel
theorem dX5_strike_68 : decode cX5_strike 68 = .ok (.iadd, 1) := by decide +kernel
theorem dX5_strike_69 : decode cX5_strike 69 = .ok (.iload_n 1, 1) := by decide +kernel
theorem dX5_strike_70 : decode cX5_strike 70 = .ok (.iastore, 1) := by decide +kernel
theorem dX5_strike_71 : decode cX5_strike 71 = .ok (.aload_n 0, 1) := by decide +kernel
theorem dX5_strike_72 : decode cX5_strike 72 = .ok (.getfield 7, 3) := by decide +kernel
theorem dX5_strike_75 : decode cX5_strike 75 = .ok (.iload 4, 2) := by decide +kernel
theorem dX5_strike_77 : decode cX5_strike 77 = .ok (.iconst 1, 1) := by decide +kernel
theorem dX5_strike_78 : decode cX5_strike 78 = .ok (.iadd, 1) := by decide +kernel
theorem dX5_strike_79 : decode cX5_strike 79 = .ok (.iload_n 2, 1) := by decide +kernel
theorem dX5_strike_80 : decode cX5_strike 80 = .ok (.iastore, 1) := by decide +kernel
theorem dX5_strike_81 : decode cX5_strike 81 = .ok (.aload_n 0, 1) := by decide +kernel
theorem dX5_strike_82 : decode cX5_strike 82 = .ok (.getfield 7, 3) := by decide +kernel
theorem dX5_strike_85 : decode cX5_strike 85 = .ok (.iload 4, 2) := by decide +kernel
theorem dX5_strike_87 : decode cX5_strike 87 = .ok (.iconst 2, 1) := by decide +kernel
theorem dX5_strike_88 : decode cX5_strike 88 = .ok (.iadd, 1) := by decide +kernel
theorem dX5_strike_89 : decode cX5_strike 89 = .ok (.iload_n 3, 1) := by decide +kernel
theorem dX5_strike_90 : decode cX5_strike 90 = .ok (.iastore, 1) := by decide +kernel
theorem dX5_strike_91 : decode cX5_strike 91 = .ok (.aload_n 0, 1) := by decide +kernel
theorem dX5_strike_92 : decode cX5_strike 92 = .ok (.getfield 7, 3) := by decide +kernel
theorem dX5_strike_95 : decode cX5_strike 95 = .ok (.bipush 53, 2) := by decide +kernel
theorem dX5_strike_97 : decode cX5_strike 97 = .ok (.dup2, 1) := by decide +kernel
theorem dX5_strike_98 : decode cX5_strike 98 = .ok (.iaload, 1) := by decide +kernel
theorem dX5_strike_99 : decode cX5_strike 99 = .ok (.iconst 1, 1) := by decide +kernel
theorem dX5_strike_100 : decode cX5_strike 100 = .ok (.iadd, 1) := by decide +kernel
theorem dX5_strike_101 : decode cX5_strike 101 = .ok (.iastore, 1) := by decide +kernel
theorem dX5_strike_102 : decode cX5_strike 102 = .ok (.aload_n 0, 1) := by decide +kernel
theorem dX5_strike_103 : decode cX5_strike 103 = .ok (.getfield 7, 3) := by decide +kernel
theorem dX5_strike_106 : decode cX5_strike 106 = .ok (.bipush 53, 2) := by decide +kernel
theorem dX5_strike_108 : decode cX5_strike 108 = .ok (.iaload, 1) := by decide +kernel
theorem dX5_strike_109 : decode cX5_strike 109 = .ok (.ireturn, 1) := by decide +kernel
theorem dX5_drop_0 : decode cX5_drop 0 = .ok (.iload_n 1, 1) := by decide +kernel
theorem dX5_drop_1 : decode cX5_drop 1 = .ok (.i2l, 1) := by decide +kernel
theorem dX5_drop_2 : decode cX5_drop 2 = .ok (.lconst 0, 1) := by decide +kernel
theorem dX5_drop_3 : decode cX5_drop 3 = .ok (.aload_n 0, 1) := by decide +kernel
theorem dX5_drop_4 : decode cX5_drop 4 = .ok (.getfield 7, 3) := by decide +kernel
theorem dX5_drop_7 : decode cX5_drop 7 = .ok (.bipush 53, 2) := by decide +kernel
theorem dX5_drop_9 : decode cX5_drop 9 = .ok (.iaload, 1) := by decide +kernel
theorem dX5_drop_10 : decode cX5_drop 10 = .ok (.i2l, 1) := by decide +kernel
theorem dX5_drop_11 : decode cX5_drop 11 = .ok (.invokestatic 63, 3) := by decide +kernel
theorem dX5_drop_14 : decode cX5_drop 14 = .ok (.ifCond .eq 13, 3) := by decide +kernel
theorem dX5_drop_17 : decode cX5_drop 17 = .ok (.aload_n 0, 1) := by decide +kernel
theorem dX5_drop_18 : decode cX5_drop 18 = .ok (.bipush 53, 2) := by decide +kernel
theorem dX5_drop_20 : decode cX5_drop 20 = .ok (.iload_n 1, 1) := by decide +kernel
theorem dX5_drop_21 : decode cX5_drop 21 = .ok (.invokevirtual 208, 3) := by decide +kernel
theorem dX5_drop_24 : decode cX5_drop 24 = .ok (.goto 4, 3) := by decide +kernel
theorem dX5_drop_27 : decode cX5_drop 27 = .ok (.iconst (-1), 1) := by decide +kernel
theorem dX5_drop_28 : decode cX5_drop 28 = .ok (.ireturn, 1) := by decide +kernel
theorem dX5_ticks_0 : decode cX5_ticks 0 = .ok (.iload_n 1, 1) := by decide +kernel
theorem dX5_ticks_1 : decode cX5_ticks 1 = .ok (.i2l, 1) := by decide +kernel
theorem dX5_ticks_2 : decode cX5_ticks 2 = .ok (.lconst 0, 1) := by decide +kernel
theorem dX5_ticks_3 : decode cX5_ticks 3 = .ok (.ldc2_w 221, 3) := by decide +kernel
theorem dX5_ticks_6 : decode cX5_ticks 6 = .ok (.invokestatic 63, 3) := by decide +kernel
theorem dX5_ticks_9 : decode cX5_ticks 9 = .ok (.ifCond .ne 5, 3) := by decide +kernel
theorem dX5_ticks_12 : decode cX5_ticks 12 = .ok (.iconst (-1), 1) := by decide +kernel
theorem dX5_ticks_13 : decode cX5_ticks 13 = .ok (.ireturn, 1) := by decide +kernel
theorem dX5_ticks_14 : decode cX5_ticks 14 = .ok (.aload_n 0, 1) := by decide +kernel
theorem dX5_ticks_15 : decode cX5_ticks 15 = .ok (.getfield 7, 3) := by decide +kernel
theorem dX5_ticks_18 : decode cX5_ticks 18 = .ok (.bipush 55, 2) := by decide +kernel
theorem dX5_ticks_20 : decode cX5_ticks 20 = .ok (.iaload, 1) := by decide +kernel
theorem dX5_ticks_21 : decode cX5_ticks 21 = .ok (.iload_n 1, 1) := by decide +kernel
theorem dX5_ticks_22 : decode cX5_ticks 22 = .ok (.iadd, 1) := by decide +kernel
theorem dX5_ticks_23 : decode cX5_ticks 23 = .ok (.sipush 999, 3) := by decide +kernel
theorem dX5_ticks_26 : decode cX5_ticks 26 = .ok (.if_icmp .le 6, 3) := by decide +kernel
theorem dX5_ticks_29 : decode cX5_ticks 29 = .ok (.bipush (-3), 2) := by decide +kernel
theorem dX5_ticks_31 : decode cX5_ticks 31 = .ok (.ireturn, 1) := by decide +kernel
theorem dX5_ticks_32 : decode cX5_ticks 32 = .ok (.aload_n 0, 1) := by decide +kernel
theorem dX5_ticks_33 : decode cX5_ticks 33 = .ok (.invokevirtual 183, 3) := by decide +kernel
theorem dX5_ticks_36 : decode cX5_ticks 36 = .ok (.aload_n 0, 1) := by decide +kernel
theorem dX5_ticks_37 : decode cX5_ticks 37 = .ok (.iload_n 1, 1) := by decide +kernel
theorem dX5_ticks_38 : decode cX5_ticks 38 = .ok (.invokevirtual 223, 3) := by decide +kernel
theorem dX5_ticks_41 : decode cX5_ticks 41 = .ok (.aload_n 0, 1) := by decide +kernel
theorem dX5_ticks_42 : decode cX5_ticks 42 = .ok (.invokevirtual 214, 3) := by decide +kernel
theorem dX5_ticks_45 : decode cX5_ticks 45 = .ok (.aload_n 0, 1) := by decide +kernel
theorem dX5_ticks_46 : decode cX5_ticks 46 = .ok (.invokevirtual 226, 3) := by decide +kernel
theorem dX5_ticks_49 : decode cX5_ticks 49 = .ok (.ireturn, 1) := by decide +kernel
theorem dX5_isFar_0 : decode cX5_isFar 0 = .ok (.iload_n 0, 1) := by decide +kernel
theorem dX5_isFar_1 : decode cX5_isFar 1 = .ok (.i2l, 1) := by decide +kernel
theorem dX5_isFar_2 : decode cX5_isFar 2 = .ok (.lconst 0, 1) := by decide +kernel
theorem dX5_isFar_3 : decode cX5_isFar 3 = .ok (.ldc2_w 229, 3) := by decide +kernel
theorem dX5_isFar_6 : decode cX5_isFar 6 = .ok (.invokestatic 63, 3) := by decide +kernel
theorem dX5_isFar_9 : decode cX5_isFar 9 = .ok (.ireturn, 1) := by decide +kernel
theorem dX5_runs_0 : decode cX5_runs 0 = .ok (.iload_n 1, 1) := by decide +kernel
theorem dX5_runs_1 : decode cX5_runs 1 = .ok (.invokestatic 231, 3) := by decide +kernel
theorem dX5_runs_4 : decode cX5_runs 4 = .ok (.ifCond .eq 15, 3) := by decide +kernel
theorem dX5_runs_7 : decode cX5_runs 7 = .ok (.iload_n 2, 1) := by decide +kernel
theorem dX5_runs_8 : decode cX5_runs 8 = .ok (.i2l, 1) := by decide +kernel
theorem dX5_runs_9 : decode cX5_runs 9 = .ok (.lconst 0, 1) := by decide +kernel
theorem dX5_runs_10 : decode cX5_runs 10 = .ok (.ldc2_w 234, 3) := by decide +kernel
theorem dX5_runs_13 : decode cX5_runs 13 = .ok (.invokestatic 63, 3) := by decide +kernel
theorem dX5_runs_16 : decode cX5_runs 16 = .ok (.ifCond .ne 5, 3) := by decide +kernel
theorem dX5_runs_19 : decode cX5_runs 19 = .ok (.iconst (-1), 1) := by decide +kernel
theorem dX5_runs_20 : decode cX5_runs 20 = .ok (.ireturn, 1) := by decide +kernel
theorem dX5_runs_21 : decode cX5_runs 21 = .ok (.iconst 0, 1) := by decide +kernel
theorem dX5_runs_22 : decode cX5_runs 22 = .ok (.istore_n 3, 1) := by decide +kernel
theorem dX5_runs_23 : decode cX5_runs 23 = .ok (.aload_n 0, 1) := by decide +kernel
theorem dX5_runs_24 : decode cX5_runs 24 = .ok (.invokevirtual 183, 3) := by decide +kernel
theorem dX5_runs_27 : decode cX5_runs 27 = .ok (.iconst 0, 1) := by decide +kernel
theorem dX5_runs_28 : decode cX5_runs 28 = .ok (.istore 4, 2) := by decide +kernel
theorem dX5_runs_30 : decode cX5_runs 30 = .ok (.iload 4, 2) := by decide +kernel
theorem dX5_runs_32 : decode cX5_runs 32 = .ok (.iload_n 1, 1) := by decide +kernel
theorem dX5_runs_33 : decode cX5_runs 33 = .ok (.if_icmp .ge 41, 3) := by decide +kernel
theorem dX5_runs_36 : decode cX5_runs 36 = .ok (.aload_n 0, 1) := by decide +kernel
theorem dX5_runs_37 : decode cX5_runs 37 = .ok (.invokevirtual 177, 3) := by decide +kernel
theorem dX5_runs_40 : decode cX5_runs 40 = .ok (.istore 5, 2) := by decide +kernel
theorem dX5_runs_42 : decode cX5_runs 42 = .ok (.aload_n 0, 1) := by decide +kernel
theorem dX5_runs_43 : decode cX5_runs 43 = .ok (.iload 5, 2) := by decide +kernel
theorem dX5_runs_45 : decode cX5_runs 45 = .ok (.invokevirtual 180, 3) := by decide +kernel
theorem dX5_runs_48 : decode cX5_runs 48 = .ok (.iload_n 3, 1) := by decide +kernel
theorem dX5_runs_49 : decode cX5_runs 49 = .ok (.iload 5, 2) := by decide +kernel
theorem dX5_runs_51 : decode cX5_runs 51 = .ok (.aload_n 0, 1) := by decide +kernel
theorem dX5_runs_52 : decode cX5_runs 52 = .ok (.invokevirtual 186, 3) := by decide +kernel
theorem dX5_runs_55 : decode cX5_runs 55 = .ok (.if_icmp .eq 7, 3) := by decide +kernel
theorem dX5_runs_58 : decode cX5_runs 58 = .ok (.iconst 1, 1) := by decide +kernel
theorem dX5_runs_59 : decode cX5_runs 59 = .ok (.goto 4, 3) := by decide +kernel
theorem dX5_runs_62 : decode cX5_runs 62 = .ok (.iconst 0, 1) := by decide +kernel
theorem dX5_runs_63 : decode cX5_runs 63 = .ok (.invokestatic 236, 3) := by decide +kernel
theorem dX5_runs_66 : decode cX5_runs 66 = .ok (.iadd, 1) := by decide +kernel
theorem dX5_runs_67 : decode cX5_runs 67 = .ok (.istore_n 3, 1) := by decide +kernel
theorem dX5_runs_68 : decode cX5_runs 68 = .ok (.iinc 4 1, 3) := by decide +kernel
theorem dX5_runs_71 : decode cX5_runs 71 = .ok (.goto (-41), 3) := by decide +kernel
theorem dX5_runs_74 : decode cX5_runs 74 = .ok (.iload_n 2, 1) := by decide +kernel
theorem dX5_runs_75 : decode cX5_runs 75 = .ok (.tableswitch 40 0 2 #[25, 30, 35], 25) := by decide +kernel
theorem dX5_runs_100 : decode cX5_runs 100 = .ok (.aload_n 0, 1) := by decide +kernel
theorem dX5_runs_101 : decode cX5_runs 101 = .ok (.invokevirtual 226, 3) := by decide +kernel
theorem dX5_runs_104 : decode cX5_runs 104 = .ok (.ireturn, 1) := by decide +kernel
theorem dX5_runs_105 : decode cX5_runs 105 = .ok (.aload_n 0, 1) := by decide +kernel
theorem dX5_runs_106 : decode cX5_runs 106 = .ok (.invokevirtual 186, 3) := by decide +kernel
theorem dX5_runs_109 : decode cX5_runs 109 = .ok (.ireturn, 1) := by decide +kernel
theorem dX5_runs_110 : decode cX5_runs 110 = .ok (.aload_n 0, 1) := by decide +kernel
theorem dX5_runs_111 : decode cX5_runs 111 = .ok (.getfield 133, 3) := by decide +kernel
theorem dX5_runs_114 : decode cX5_runs 114 = .ok (.ireturn, 1) := by decide +kernel
theorem dX5_runs_115 : decode cX5_runs 115 = .ok (.iload_n 3, 1) := by decide +kernel
theorem dX5_runs_116 : decode cX5_runs 116 = .ok (.ireturn, 1) := by decide +kernel
theorem dX5_ahead_0 : decode cX5_ahead 0 = .ok (.aload_n 0, 1) := by decide +kernel
theorem dX5_ahead_1 : decode cX5_ahead 1 = .ok (.iload_n 1, 1) := by decide +kernel
theorem dX5_ahead_2 : decode cX5_ahead 2 = .ok (.invokevirtual 192, 3) := by decide +kernel
theorem dX5_ahead_5 : decode cX5_ahead 5 = .ok (.ifCond .eq 17, 3) := by decide +kernel
theorem dX5_ahead_8 : decode cX5_ahead 8 = .ok (.iload_n 2, 1) := by decide +kernel
theorem dX5_ahead_9 : decode cX5_ahead 9 = .ok (.invokestatic 231, 3) := by decide +kernel
theorem dX5_ahead_12 : decode cX5_ahead 12 = .ok (.ifCond .eq 10, 3) := by decide +kernel
theorem dX5_ahead_15 : decode cX5_ahead 15 = .ok (.iload_n 3, 1) := by decide +kernel
theorem dX5_ahead_16 : decode cX5_ahead 16 = .ok (.invokestatic 240, 3) := by decide +kernel
theorem dX5_ahead_19 : decode cX5_ahead 19 = .ok (.ifCond .ne 5, 3) := by decide +kernel
theorem dX5_ahead_22 : decode cX5_ahead 22 = .ok (.iconst (-1), 1) := by decide +kernel
theorem dX5_ahead_23 : decode cX5_ahead 23 = .ok (.ireturn, 1) := by decide +kernel
theorem dX5_ahead_24 : decode cX5_ahead 24 = .ok (.aload_n 0, 1) := by decide +kernel
theorem dX5_ahead_25 : decode cX5_ahead 25 = .ok (.invokevirtual 183, 3) := by decide +kernel
theorem dX5_ahead_28 : decode cX5_ahead 28 = .ok (.aload_n 0, 1) := by decide +kernel
theorem dX5_ahead_29 : decode cX5_ahead 29 = .ok (.iload_n 2, 1) := by decide +kernel
theorem dX5_ahead_30 : decode cX5_ahead 30 = .ok (.invokevirtual 223, 3) := by decide +kernel
theorem dX5_ahead_33 : decode cX5_ahead 33 = .ok (.iload_n 3, 1) := by decide +kernel
theorem dX5_ahead_34 : decode cX5_ahead 34 = .ok (.ifCond .ne 12, 3) := by decide +kernel
theorem dX5_ahead_37 : decode cX5_ahead 37 = .ok (.aload_n 0, 1) := by decide +kernel
theorem dX5_ahead_38 : decode cX5_ahead 38 = .ok (.iload_n 1, 1) := by decide +kernel
theorem dX5_ahead_39 : decode cX5_ahead 39 = .ok (.iconst 3, 1) := by decide +kernel
theorem dX5_ahead_40 : decode cX5_ahead 40 = .ok (.invokevirtual 145, 3) := by decide +kernel
theorem dX5_ahead_43 : decode cX5_ahead 43 = .ok (.goto 9, 3) := by decide +kernel
theorem dX5_ahead_46 : decode cX5_ahead 46 = .ok (.aload_n 0, 1) := by decide +kernel
theorem dX5_ahead_47 : decode cX5_ahead 47 = .ok (.getfield 26, 3) := by decide +kernel
theorem dX5_ahead_50 : decode cX5_ahead 50 = .ok (.iload_n 1, 1) := by decide +kernel
theorem dX5_ahead_51 : decode cX5_ahead 51 = .ok (.iaload, 1) := by decide +kernel
theorem dX5_ahead_52 : decode cX5_ahead 52 = .ok (.ireturn, 1) := by decide +kernel
theorem dX5_when_0 : decode cX5_when 0 = .ok (.aload_n 0, 1) := by decide +kernel
theorem dX5_when_1 : decode cX5_when 1 = .ok (.iload_n 1, 1) := by decide +kernel
theorem dX5_when_2 : decode cX5_when 2 = .ok (.invokevirtual 192, 3) := by decide +kernel
theorem dX5_when_5 : decode cX5_when 5 = .ok (.ifCond .eq 13, 3) := by decide +kernel
theorem dX5_when_8 : decode cX5_when 8 = .ok (.iload_n 2, 1) := by decide +kernel
theorem dX5_when_9 : decode cX5_when 9 = .ok (.i2l, 1) := by decide +kernel
theorem dX5_when_10 : decode cX5_when 10 = .ok (.lconst 0, 1) := by decide +kernel
theorem dX5_when_11 : decode cX5_when 11 = .ok (.lconst 1, 1) := by decide +kernel
theorem dX5_when_12 : decode cX5_when 12 = .ok (.invokestatic 63, 3) := by decide +kernel
theorem dX5_when_15 : decode cX5_when 15 = .ok (.ifCond .ne 5, 3) := by decide +kernel
theorem dX5_when_18 : decode cX5_when 18 = .ok (.iconst (-1), 1) := by decide +kernel
theorem dX5_when_19 : decode cX5_when 19 = .ok (.ireturn, 1) := by decide +kernel
theorem dX5_when_20 : decode cX5_when 20 = .ok (.aload_n 0, 1) := by decide +kernel
theorem dX5_when_21 : decode cX5_when 21 = .ok (.invokevirtual 183, 3) := by decide +kernel
theorem dX5_when_24 : decode cX5_when 24 = .ok (.iconst 0, 1) := by decide +kernel
theorem dX5_when_25 : decode cX5_when 25 = .ok (.istore_n 3, 1) := by decide +kernel
theorem dX5_when_26 : decode cX5_when 26 = .ok (.iload_n 3, 1) := by decide +kernel
theorem dX5_when_27 : decode cX5_when 27 = .ok (.sipush 200, 3) := by decide +kernel
theorem dX5_when_30 : decode cX5_when 30 = .ok (.if_icmp .gt 26, 3) := by decide +kernel
theorem dX5_when_33 : decode cX5_when 33 = .ok (.aload_n 0, 1) := by decide +kernel
theorem dX5_when_34 : decode cX5_when 34 = .ok (.iload_n 1, 1) := by decide +kernel
theorem dX5_when_35 : decode cX5_when 35 = .ok (.iconst 3, 1) := by decide +kernel
theorem dX5_when_36 : decode cX5_when 36 = .ok (.invokevirtual 145, 3) := by decide +kernel
theorem dX5_when_39 : decode cX5_when 39 = .ok (.iload_n 2, 1) := by decide +kernel
theorem dX5_when_40 : decode cX5_when 40 = .ok (.if_icmp .ne 5, 3) := by decide +kernel
theorem dX5_when_43 : decode cX5_when 43 = .ok (.iload_n 3, 1) := by decide +kernel
theorem dX5_when_44 : decode cX5_when 44 = .ok (.ireturn, 1) := by decide +kernel
theorem dX5_when_45 : decode cX5_when 45 = .ok (.aload_n 0, 1) := by decide +kernel
theorem dX5_when_46 : decode cX5_when 46 = .ok (.iconst 1, 1) := by decide +kernel
theorem dX5_when_47 : decode cX5_when 47 = .ok (.invokevirtual 223, 3) := by decide +kernel
theorem dX5_when_50 : decode cX5_when 50 = .ok (.iinc 3 1, 3) := by decide +kernel
theorem dX5_when_53 : decode cX5_when 53 = .ok (.goto (-27), 3) := by decide +kernel
theorem dX5_when_56 : decode cX5_when 56 = .ok (.bipush (-4), 2) := by decide +kernel
theorem dX5_when_58 : decode cX5_when 58 = .ok (.ireturn, 1) := by decide +kernel
theorem dX5_dueIn_0 : decode cX5_dueIn 0 = .ok (.iconst 0, 1) := by decide +kernel
theorem dX5_dueIn_1 : decode cX5_dueIn 1 = .ok (.istore_n 2, 1) := by decide +kernel
theorem dX5_dueIn_2 : decode cX5_dueIn 2 = .ok (.iconst 0, 1) := by decide +kernel
theorem dX5_dueIn_3 : decode cX5_dueIn 3 = .ok (.istore_n 3, 1) := by decide +kernel
theorem dX5_dueIn_4 : decode cX5_dueIn 4 = .ok (.iload_n 3, 1) := by decide +kernel
theorem dX5_dueIn_5 : decode cX5_dueIn 5 = .ok (.aload_n 0, 1) := by decide +kernel
theorem dX5_dueIn_6 : decode cX5_dueIn 6 = .ok (.getfield 7, 3) := by decide +kernel
theorem dX5_dueIn_9 : decode cX5_dueIn 9 = .ok (.bipush 53, 2) := by decide +kernel
theorem dX5_dueIn_11 : decode cX5_dueIn 11 = .ok (.iaload, 1) := by decide +kernel
theorem dX5_dueIn_12 : decode cX5_dueIn 12 = .ok (.if_icmp .ge 77, 3) := by decide +kernel
theorem dX5_dueIn_15 : decode cX5_dueIn 15 = .ok (.bipush 29, 2) := by decide +kernel
theorem dX5_dueIn_17 : decode cX5_dueIn 17 = .ok (.iconst 3, 1) := by decide +kernel
theorem dX5_dueIn_18 : decode cX5_dueIn 18 = .ok (.iload_n 3, 1) := by decide +kernel
theorem dX5_dueIn_19 : decode cX5_dueIn 19 = .ok (.imul, 1) := by decide +kernel
theorem dX5_dueIn_20 : decode cX5_dueIn 20 = .ok (.iadd, 1) := by decide +kernel
theorem dX5_dueIn_21 : decode cX5_dueIn 21 = .ok (.istore 4, 2) := by decide +kernel
theorem dX5_dueIn_23 : decode cX5_dueIn 23 = .ok (.iload_n 2, 1) := by decide +kernel
theorem dX5_dueIn_24 : decode cX5_dueIn 24 = .ok (.aload_n 0, 1) := by decide +kernel
theorem dX5_dueIn_25 : decode cX5_dueIn 25 = .ok (.getfield 7, 3) := by decide +kernel
theorem dX5_dueIn_28 : decode cX5_dueIn 28 = .ok (.iload 4, 2) := by decide +kernel
theorem dX5_dueIn_30 : decode cX5_dueIn 30 = .ok (.iconst 2, 1) := by decide +kernel
theorem dX5_dueIn_31 : decode cX5_dueIn 31 = .ok (.iadd, 1) := by decide +kernel
theorem dX5_dueIn_32 : decode cX5_dueIn 32 = .ok (.iaload, 1) := by decide +kernel
theorem dX5_dueIn_33 : decode cX5_dueIn 33 = .ok (.iconst 1, 1) := by decide +kernel
theorem dX5_dueIn_34 : decode cX5_dueIn 34 = .ok (.if_icmp .ne 43, 3) := by decide +kernel
theorem dX5_dueIn_37 : decode cX5_dueIn 37 = .ok (.aload_n 0, 1) := by decide +kernel
theorem dX5_dueIn_38 : decode cX5_dueIn 38 = .ok (.getfield 7, 3) := by decide +kernel
theorem dX5_dueIn_41 : decode cX5_dueIn 41 = .ok (.iload 4, 2) := by decide +kernel
theorem dX5_dueIn_43 : decode cX5_dueIn 43 = .ok (.iconst 0, 1) := by decide +kernel
theorem dX5_dueIn_44 : decode cX5_dueIn 44 = .ok (.iadd, 1) := by decide +kernel
theorem dX5_dueIn_45 : decode cX5_dueIn 45 = .ok (.iaload, 1) := by decide +kernel
theorem dX5_dueIn_46 : decode cX5_dueIn 46 = .ok (.i2l, 1) := by decide +kernel
theorem dX5_dueIn_47 : decode cX5_dueIn 47 = .ok (.aload_n 0, 1) := by decide +kernel
theorem dX5_dueIn_48 : decode cX5_dueIn 48 = .ok (.getfield 7, 3) := by decide +kernel
theorem dX5_dueIn_51 : decode cX5_dueIn 51 = .ok (.bipush 55, 2) := by decide +kernel
theorem dX5_dueIn_53 : decode cX5_dueIn 53 = .ok (.iaload, 1) := by decide +kernel
theorem dX5_dueIn_54 : decode cX5_dueIn 54 = .ok (.i2l, 1) := by decide +kernel
theorem dX5_dueIn_55 : decode cX5_dueIn 55 = .ok (.aload_n 0, 1) := by decide +kernel
theorem dX5_dueIn_56 : decode cX5_dueIn 56 = .ok (.getfield 7, 3) := by decide +kernel
theorem dX5_dueIn_59 : decode cX5_dueIn 59 = .ok (.bipush 55, 2) := by decide +kernel
theorem dX5_dueIn_61 : decode cX5_dueIn 61 = .ok (.iaload, 1) := by decide +kernel
theorem dX5_dueIn_62 : decode cX5_dueIn 62 = .ok (.iload_n 1, 1) := by decide +kernel
theorem dX5_dueIn_63 : decode cX5_dueIn 63 = .ok (.iadd, 1) := by decide +kernel
theorem dX5_dueIn_64 : decode cX5_dueIn 64 = .ok (.iconst 1, 1) := by decide +kernel
theorem dX5_dueIn_65 : decode cX5_dueIn 65 = .ok (.isub, 1) := by decide +kernel
theorem dX5_dueIn_66 : decode cX5_dueIn 66 = .ok (.i2l, 1) := by decide +kernel
theorem dX5_dueIn_67 : decode cX5_dueIn 67 = .ok (.invokestatic 63, 3) := by decide +kernel
theorem dX5_dueIn_70 : decode cX5_dueIn 70 = .ok (.ifCond .eq 7, 3) := by decide +kernel
theorem dX5_dueIn_73 : decode cX5_dueIn 73 = .ok (.iconst 1, 1) := by decide +kernel
theorem dX5_dueIn_74 : decode cX5_dueIn 74 = .ok (.goto 4, 3) := by decide +kernel
theorem dX5_dueIn_77 : decode cX5_dueIn 77 = .ok (.iconst 0, 1) := by decide +kernel
theorem dX5_dueIn_78 : decode cX5_dueIn 78 = .ok (.invokestatic 236, 3) := by decide +kernel
theorem dX5_dueIn_81 : decode cX5_dueIn 81 = .ok (.iadd, 1) := by decide +kernel
theorem dX5_dueIn_82 : decode cX5_dueIn 82 = .ok (.istore_n 2, 1) := by decide +kernel
theorem dX5_dueIn_83 : decode cX5_dueIn 83 = .ok (.iinc 3 1, 3) := by decide +kernel
theorem dX5_dueIn_86 : decode cX5_dueIn 86 = .ok (.goto (-82), 3) := by decide +kernel
theorem dX5_dueIn_89 : decode cX5_dueIn 89 = .ok (.iload_n 2, 1) := by decide +kernel
theorem dX5_dueIn_90 : decode cX5_dueIn 90 = .ok (.ireturn, 1) := by decide +kernel
theorem dX5_due_0 : decode cX5_due 0 = .ok (.iload_n 1, 1) := by decide +kernel
theorem dX5_due_1 : decode cX5_due 1 = .ok (.invokestatic 231, 3) := by decide +kernel
theorem dX5_due_4 : decode cX5_due 4 = .ok (.ifCond .eq 11, 3) := by decide +kernel
theorem dX5_due_7 : decode cX5_due 7 = .ok (.aload_n 0, 1) := by decide +kernel
theorem dX5_due_8 : decode cX5_due 8 = .ok (.iload_n 1, 1) := by decide +kernel
theorem dX5_due_9 : decode cX5_due 9 = .ok (.invokevirtual 243, 3) := by decide +kernel
theorem dX5_due_12 : decode cX5_due 12 = .ok (.goto 4, 3) := by decide +kernel
theorem dX5_due_15 : decode cX5_due 15 = .ok (.iconst (-1), 1) := by decide +kernel
theorem dX5_due_16 : decode cX5_due 16 = .ok (.ireturn, 1) := by decide +kernel
theorem dX5_startsJudging_0 : decode cX5_startsJudging 0 = .ok (.aload_n 0, 1) := by decide +kernel
theorem dX5_startsJudging_1 : decode cX5_startsJudging 1 = .ok (.bipush (-4), 2) := by decide +kernel
theorem dX5_startsJudging_3 : decode cX5_startsJudging 3 = .ok (.putfield 246, 3) := by decide +kernel
theorem dX5_startsJudging_6 : decode cX5_startsJudging 6 = .ok (.aload_n 0, 1) := by decide +kernel
theorem dX5_startsJudging_7 : decode cX5_startsJudging 7 = .ok (.iload_n 1, 1) := by decide +kernel
theorem dX5_startsJudging_8 : decode cX5_startsJudging 8 = .ok (.putfield 249, 3) := by decide +kernel
theorem dX5_startsJudging_11 : decode cX5_startsJudging 11 = .ok (.return_, 1) := by decide +kernel
theorem dX5_judges_0 : decode cX5_judges 0 = .ok (.iload_n 2, 1) := by decide +kernel
theorem dX5_judges_1 : decode cX5_judges 1 = .ok (.aload_n 0, 1) := by decide +kernel
theorem dX5_judges_2 : decode cX5_judges 2 = .ok (.getfield 249, 3) := by decide +kernel
theorem dX5_judges_5 : decode cX5_judges 5 = .ok (.if_icmp .ge 13, 3) := by decide +kernel
theorem dX5_judges_8 : decode cX5_judges 8 = .ok (.aload_n 0, 1) := by decide +kernel
theorem dX5_judges_9 : decode cX5_judges 9 = .ok (.iload_n 1, 1) := by decide +kernel
theorem dX5_judges_10 : decode cX5_judges 10 = .ok (.putfield 246, 3) := by decide +kernel
theorem dX5_judges_13 : decode cX5_judges 13 = .ok (.aload_n 0, 1) := by decide +kernel
theorem dX5_judges_14 : decode cX5_judges 14 = .ok (.iload_n 2, 1) := by decide +kernel
theorem dX5_judges_15 : decode cX5_judges 15 = .ok (.putfield 249, 3) := by decide +kernel
theorem dX5_judges_18 : decode cX5_judges 18 = .ok (.return_, 1) := by decide +kernel
theorem dX5_startsWith_0 : decode cX5_startsWith 0 = .ok (.aload_n 0, 1) := by decide +kernel
theorem dX5_startsWith_1 : decode cX5_startsWith 1 = .ok (.invokevirtual 183, 3) := by decide +kernel
theorem dX5_startsWith_4 : decode cX5_startsWith 4 = .ok (.aload_n 0, 1) := by decide +kernel
theorem dX5_startsWith_5 : decode cX5_startsWith 5 = .ok (.iload_n 1, 1) := by decide +kernel
theorem dX5_startsWith_6 : decode cX5_startsWith 6 = .ok (.iload_n 2, 1) := by decide +kernel
theorem dX5_startsWith_7 : decode cX5_startsWith 7 = .ok (.iload_n 3, 1) := by decide +kernel
theorem dX5_startsWith_8 : decode cX5_startsWith 8 = .ok (.invokevirtual 148, 3) := by decide +kernel
theorem dX5_startsWith_11 : decode cX5_startsWith 11 = .ok (.aload_n 0, 1) := by decide +kernel
theorem dX5_startsWith_12 : decode cX5_startsWith 12 = .ok (.iload_n 1, 1) := by decide +kernel
theorem dX5_startsWith_13 : decode cX5_startsWith 13 = .ok (.invokevirtual 211, 3) := by decide +kernel
theorem dX5_startsWith_16 : decode cX5_startsWith 16 = .ok (.return_, 1) := by decide +kernel
theorem dX5_strikesJust_0 : decode cX5_strikesJust 0 = .ok (.aload_n 0, 1) := by decide +kernel
theorem dX5_strikesJust_1 : decode cX5_strikesJust 1 = .ok (.iload_n 1, 1) := by decide +kernel
theorem dX5_strikesJust_2 : decode cX5_strikesJust 2 = .ok (.iload_n 2, 1) := by decide +kernel
theorem dX5_strikesJust_3 : decode cX5_strikesJust 3 = .ok (.iload_n 3, 1) := by decide +kernel
theorem dX5_strikesJust_4 : decode cX5_strikesJust 4 = .ok (.invokevirtual 252, 3) := by decide +kernel
theorem dX5_strikesJust_7 : decode cX5_strikesJust 7 = .ok (.aload_n 0, 1) := by decide +kernel
theorem dX5_strikesJust_8 : decode cX5_strikesJust 8 = .ok (.iload 4, 2) := by decide +kernel
theorem dX5_strikesJust_10 : decode cX5_strikesJust 10 = .ok (.invokevirtual 223, 3) := by decide +kernel
theorem dX5_strikesJust_13 : decode cX5_strikesJust 13 = .ok (.aload_n 0, 1) := by decide +kernel
theorem dX5_strikesJust_14 : decode cX5_strikesJust 14 = .ok (.getfield 26, 3) := by decide +kernel
theorem dX5_strikesJust_17 : decode cX5_strikesJust 17 = .ok (.iload_n 1, 1) := by decide +kernel
theorem dX5_strikesJust_18 : decode cX5_strikesJust 18 = .ok (.iaload, 1) := by decide +kernel
theorem dX5_strikesJust_19 : decode cX5_strikesJust 19 = .ok (.iload 5, 2) := by decide +kernel
theorem dX5_strikesJust_21 : decode cX5_strikesJust 21 = .ok (.if_icmp .ne 7, 3) := by decide +kernel
theorem dX5_strikesJust_24 : decode cX5_strikesJust 24 = .ok (.iconst 1, 1) := by decide +kernel
theorem dX5_strikesJust_25 : decode cX5_strikesJust 25 = .ok (.goto 4, 3) := by decide +kernel
theorem dX5_strikesJust_28 : decode cX5_strikesJust 28 = .ok (.iconst 0, 1) := by decide +kernel
theorem dX5_strikesJust_29 : decode cX5_strikesJust 29 = .ok (.ireturn, 1) := by decide +kernel
theorem dX5_need_0 : decode cX5_need 0 = .ok (.aload_n 0, 1) := by decide +kernel
theorem dX5_need_1 : decode cX5_need 1 = .ok (.iload_n 1, 1) := by decide +kernel
theorem dX5_need_2 : decode cX5_need 2 = .ok (.invokevirtual 192, 3) := by decide +kernel
theorem dX5_need_5 : decode cX5_need 5 = .ok (.ifCond .eq 22, 3) := by decide +kernel
theorem dX5_need_8 : decode cX5_need 8 = .ok (.iload_n 2, 1) := by decide +kernel
theorem dX5_need_9 : decode cX5_need 9 = .ok (.invokestatic 231, 3) := by decide +kernel
theorem dX5_need_12 : decode cX5_need 12 = .ok (.ifCond .eq 15, 3) := by decide +kernel
theorem dX5_need_15 : decode cX5_need 15 = .ok (.iload_n 3, 1) := by decide +kernel
theorem dX5_need_16 : decode cX5_need 16 = .ok (.i2l, 1) := by decide +kernel
theorem dX5_need_17 : decode cX5_need 17 = .ok (.lconst 0, 1) := by decide +kernel
theorem dX5_need_18 : decode cX5_need 18 = .ok (.ldc2_w 255, 3) := by decide +kernel
theorem dX5_need_21 : decode cX5_need 21 = .ok (.invokestatic 63, 3) := by decide +kernel
theorem dX5_need_24 : decode cX5_need 24 = .ok (.ifCond .ne 5, 3) := by decide +kernel
theorem dX5_need_27 : decode cX5_need 27 = .ok (.iconst (-1), 1) := by decide +kernel
theorem dX5_need_28 : decode cX5_need 28 = .ok (.ireturn, 1) := by decide +kernel
theorem dX5_need_29 : decode cX5_need 29 = .ok (.iconst 1, 1) := by decide +kernel
theorem dX5_need_30 : decode cX5_need 30 = .ok (.istore 4, 2) := by decide +kernel
theorem dX5_need_32 : decode cX5_need 32 = .ok (.iload 4, 2) := by decide +kernel
theorem dX5_need_34 : decode cX5_need 34 = .ok (.bipush 9, 2) := by decide +kernel
theorem dX5_need_36 : decode cX5_need 36 = .ok (.if_icmp .gt 25, 3) := by decide +kernel
theorem dX5_need_39 : decode cX5_need 39 = .ok (.aload_n 0, 1) := by decide +kernel
theorem dX5_need_40 : decode cX5_need 40 = .ok (.iload_n 1, 1) := by decide +kernel
theorem dX5_need_41 : decode cX5_need 41 = .ok (.iconst 2, 1) := by decide +kernel
theorem dX5_need_42 : decode cX5_need 42 = .ok (.iload 4, 2) := by decide +kernel
theorem dX5_need_44 : decode cX5_need 44 = .ok (.iload_n 2, 1) := by decide +kernel
theorem dX5_need_45 : decode cX5_need 45 = .ok (.iload_n 3, 1) := by decide +kernel
theorem dX5_need_46 : decode cX5_need 46 = .ok (.invokevirtual 257, 3) := by decide +kernel
theorem dX5_need_49 : decode cX5_need 49 = .ok (.ifCond .eq 6, 3) := by decide +kernel
theorem dX5_need_52 : decode cX5_need 52 = .ok (.iload 4, 2) := by decide +kernel
theorem dX5_need_54 : decode cX5_need 54 = .ok (.ireturn, 1) := by decide +kernel
theorem dX5_need_55 : decode cX5_need 55 = .ok (.iinc 4 1, 3) := by decide +kernel
theorem dX5_need_58 : decode cX5_need 58 = .ok (.goto (-26), 3) := by decide +kernel
theorem dX5_need_61 : decode cX5_need 61 = .ok (.bipush (-4), 2) := by decide +kernel
theorem dX5_need_63 : decode cX5_need 63 = .ok (.ireturn, 1) := by decide +kernel
theorem dX5_bear_0 : decode cX5_bear 0 = .ok (.aload_n 0, 1) := by decide +kernel
theorem dX5_bear_1 : decode cX5_bear 1 = .ok (.iload_n 1, 1) := by decide +kernel
theorem dX5_bear_2 : decode cX5_bear 2 = .ok (.invokevirtual 192, 3) := by decide +kernel
theorem dX5_bear_5 : decode cX5_bear 5 = .ok (.ifCond .eq 22, 3) := by decide +kernel
theorem dX5_bear_8 : decode cX5_bear 8 = .ok (.iload_n 2, 1) := by decide +kernel
theorem dX5_bear_9 : decode cX5_bear 9 = .ok (.invokestatic 231, 3) := by decide +kernel
theorem dX5_bear_12 : decode cX5_bear 12 = .ok (.ifCond .eq 15, 3) := by decide +kernel
theorem dX5_bear_15 : decode cX5_bear 15 = .ok (.iload_n 3, 1) := by decide +kernel
theorem dX5_bear_16 : decode cX5_bear 16 = .ok (.i2l, 1) := by decide +kernel
theorem dX5_bear_17 : decode cX5_bear 17 = .ok (.lconst 0, 1) := by decide +kernel
theorem dX5_bear_18 : decode cX5_bear 18 = .ok (.ldc2_w 255, 3) := by decide +kernel
theorem dX5_bear_21 : decode cX5_bear 21 = .ok (.invokestatic 63, 3) := by decide +kernel
theorem dX5_bear_24 : decode cX5_bear 24 = .ok (.ifCond .ne 5, 3) := by decide +kernel
theorem dX5_bear_27 : decode cX5_bear 27 = .ok (.iconst (-1), 1) := by decide +kernel
theorem dX5_bear_28 : decode cX5_bear 28 = .ok (.ireturn, 1) := by decide +kernel
theorem dX5_bear_29 : decode cX5_bear 29 = .ok (.bipush 9, 2) := by decide +kernel
theorem dX5_bear_31 : decode cX5_bear 31 = .ok (.istore 4, 2) := by decide +kernel
theorem dX5_bear_33 : decode cX5_bear 33 = .ok (.iload 4, 2) := by decide +kernel
theorem dX5_bear_35 : decode cX5_bear 35 = .ok (.ifCond .lt 25, 3) := by decide +kernel
theorem dX5_bear_38 : decode cX5_bear 38 = .ok (.aload_n 0, 1) := by decide +kernel
theorem dX5_bear_39 : decode cX5_bear 39 = .ok (.iload_n 1, 1) := by decide +kernel
theorem dX5_bear_40 : decode cX5_bear 40 = .ok (.iconst 0, 1) := by decide +kernel
theorem dX5_bear_41 : decode cX5_bear 41 = .ok (.iload 4, 2) := by decide +kernel
theorem dX5_bear_43 : decode cX5_bear 43 = .ok (.iload_n 2, 1) := by decide +kernel
theorem dX5_bear_44 : decode cX5_bear 44 = .ok (.iload_n 3, 1) := by decide +kernel
theorem dX5_bear_45 : decode cX5_bear 45 = .ok (.invokevirtual 257, 3) := by decide +kernel
theorem dX5_bear_48 : decode cX5_bear 48 = .ok (.ifCond .eq 6, 3) := by decide +kernel
theorem dX5_bear_51 : decode cX5_bear 51 = .ok (.iload 4, 2) := by decide +kernel
theorem dX5_bear_53 : decode cX5_bear 53 = .ok (.ireturn, 1) := by decide +kernel
theorem dX5_bear_54 : decode cX5_bear 54 = .ok (.iinc 4 (-1), 3) := by decide +kernel
theorem dX5_bear_57 : decode cX5_bear 57 = .ok (.goto (-24), 3) := by decide +kernel
theorem dX5_bear_60 : decode cX5_bear 60 = .ok (.bipush (-4), 2) := by decide +kernel
theorem dX5_bear_62 : decode cX5_bear 62 = .ok (.ireturn, 1) := by decide +kernel
theorem dX5_offIn_0 : decode cX5_offIn 0 = .ok (.aload_n 0, 1) := by decide +kernel
theorem dX5_offIn_1 : decode cX5_offIn 1 = .ok (.iload_n 1, 1) := by decide +kernel
theorem dX5_offIn_2 : decode cX5_offIn 2 = .ok (.invokevirtual 223, 3) := by decide +kernel
theorem dX5_offIn_5 : decode cX5_offIn 5 = .ok (.aload_n 0, 1) := by decide +kernel
theorem dX5_offIn_6 : decode cX5_offIn 6 = .ok (.invokevirtual 226, 3) := by decide +kernel
theorem dX5_offIn_9 : decode cX5_offIn 9 = .ok (.aload_n 0, 1) := by decide +kernel
theorem dX5_offIn_10 : decode cX5_offIn 10 = .ok (.iload_n 1, 1) := by decide +kernel
theorem dX5_offIn_11 : decode cX5_offIn 11 = .ok (.invokevirtual 243, 3) := by decide +kernel
theorem dX5_offIn_14 : decode cX5_offIn 14 = .ok (.isub, 1) := by decide +kernel
theorem dX5_offIn_15 : decode cX5_offIn 15 = .ok (.istore_n 2, 1) := by decide +kernel
theorem dX5_offIn_16 : decode cX5_offIn 16 = .ok (.iload_n 2, 1) := by decide +kernel
theorem dX5_offIn_17 : decode cX5_offIn 17 = .ok (.ifCond .ge 8, 3) := by decide +kernel
theorem dX5_offIn_20 : decode cX5_offIn 20 = .ok (.iload_n 2, 1) := by decide +kernel
theorem dX5_offIn_21 : decode cX5_offIn 21 = .ok (.ineg, 1) := by decide +kernel
theorem dX5_offIn_22 : decode cX5_offIn 22 = .ok (.goto 4, 3) := by decide +kernel
theorem dX5_offIn_25 : decode cX5_offIn 25 = .ok (.iload_n 2, 1) := by decide +kernel
theorem dX5_offIn_26 : decode cX5_offIn 26 = .ok (.ireturn, 1) := by decide +kernel
theorem dX5_kind_0 : decode cX5_kind 0 = .ok (.aload_n 0, 1) := by decide +kernel
theorem dX5_kind_1 : decode cX5_kind 1 = .ok (.iload_n 1, 1) := by decide +kernel
theorem dX5_kind_2 : decode cX5_kind 2 = .ok (.invokevirtual 192, 3) := by decide +kernel
theorem dX5_kind_5 : decode cX5_kind 5 = .ok (.ifCond .eq 17, 3) := by decide +kernel
theorem dX5_kind_8 : decode cX5_kind 8 = .ok (.iload_n 2, 1) := by decide +kernel
theorem dX5_kind_9 : decode cX5_kind 9 = .ok (.invokestatic 231, 3) := by decide +kernel
theorem dX5_kind_12 : decode cX5_kind 12 = .ok (.ifCond .eq 10, 3) := by decide +kernel
theorem dX5_kind_15 : decode cX5_kind 15 = .ok (.iload_n 3, 1) := by decide +kernel
theorem dX5_kind_16 : decode cX5_kind 16 = .ok (.invokestatic 240, 3) := by decide +kernel
theorem dX5_kind_19 : decode cX5_kind 19 = .ok (.ifCond .ne 5, 3) := by decide +kernel
theorem dX5_kind_22 : decode cX5_kind 22 = .ok (.iconst (-1), 1) := by decide +kernel
theorem dX5_kind_23 : decode cX5_kind 23 = .ok (.ireturn, 1) := by decide +kernel
theorem dX5_kind_24 : decode cX5_kind 24 = .ok (.aload_n 0, 1) := by decide +kernel
theorem dX5_kind_25 : decode cX5_kind 25 = .ok (.ldc_w 261, 3) := by decide +kernel
theorem dX5_kind_28 : decode cX5_kind 28 = .ok (.invokevirtual 262, 3) := by decide +kernel
theorem dX5_kind_31 : decode cX5_kind 31 = .ok (.iconst 0, 1) := by decide +kernel
theorem dX5_kind_32 : decode cX5_kind 32 = .ok (.istore 4, 2) := by decide +kernel
theorem dX5_kind_34 : decode cX5_kind 34 = .ok (.iload 4, 2) := by decide +kernel
theorem dX5_kind_36 : decode cX5_kind 36 = .ok (.iconst 4, 1) := by decide +kernel
theorem dX5_kind_37 : decode cX5_kind 37 = .ok (.if_icmp .ge 28, 3) := by decide +kernel
theorem dX5_kind_40 : decode cX5_kind 40 = .ok (.aload_n 0, 1) := by decide +kernel
theorem dX5_kind_41 : decode cX5_kind 41 = .ok (.iload_n 1, 1) := by decide +kernel
theorem dX5_kind_42 : decode cX5_kind 42 = .ok (.iconst 1, 1) := by decide +kernel
theorem dX5_kind_43 : decode cX5_kind 43 = .ok (.iload 4, 2) := by decide +kernel
theorem dX5_kind_45 : decode cX5_kind 45 = .ok (.invokevirtual 252, 3) := by decide +kernel
theorem dX5_kind_48 : decode cX5_kind 48 = .ok (.aload_n 0, 1) := by decide +kernel
theorem dX5_kind_49 : decode cX5_kind 49 = .ok (.iload 4, 2) := by decide +kernel
theorem dX5_kind_51 : decode cX5_kind 51 = .ok (.aload_n 0, 1) := by decide +kernel
theorem dX5_kind_52 : decode cX5_kind 52 = .ok (.iload_n 2, 1) := by decide +kernel
theorem dX5_kind_53 : decode cX5_kind 53 = .ok (.invokevirtual 265, 3) := by decide +kernel
theorem dX5_kind_56 : decode cX5_kind 56 = .ok (.invokevirtual 268, 3) := by decide +kernel
theorem dX5_kind_59 : decode cX5_kind 59 = .ok (.iinc 4 1, 3) := by decide +kernel
theorem dX5_kind_62 : decode cX5_kind 62 = .ok (.goto (-28), 3) := by decide +kernel
theorem dX5_kind_65 : decode cX5_kind 65 = .ok (.iload_n 3, 1) := by decide +kernel
theorem dX5_kind_66 : decode cX5_kind 66 = .ok (.ifCond .ne 10, 3) := by decide +kernel
theorem dX5_kind_69 : decode cX5_kind 69 = .ok (.aload_n 0, 1) := by decide +kernel
theorem dX5_kind_70 : decode cX5_kind 70 = .ok (.getfield 246, 3) := by decide +kernel
theorem dX5_kind_73 : decode cX5_kind 73 = .ok (.goto 7, 3) := by decide +kernel
theorem dX5_kind_76 : decode cX5_kind 76 = .ok (.aload_n 0, 1) := by decide +kernel
theorem dX5_kind_77 : decode cX5_kind 77 = .ok (.getfield 249, 3) := by decide +kernel
theorem dX5_kind_80 : decode cX5_kind 80 = .ok (.ireturn, 1) := by decide +kernel
theorem dX5_slow_0 : decode cX5_slow 0 = .ok (.iload_n 1, 1) := by decide +kernel
theorem dX5_slow_1 : decode cX5_slow 1 = .ok (.invokestatic 231, 3) := by decide +kernel
theorem dX5_slow_4 : decode cX5_slow 4 = .ok (.ifCond .eq 10, 3) := by decide +kernel
theorem dX5_slow_7 : decode cX5_slow 7 = .ok (.iload_n 2, 1) := by decide +kernel
theorem dX5_slow_8 : decode cX5_slow 8 = .ok (.invokestatic 240, 3) := by decide +kernel
theorem dX5_slow_11 : decode cX5_slow 11 = .ok (.ifCond .ne 5, 3) := by decide +kernel
theorem dX5_slow_14 : decode cX5_slow 14 = .ok (.iconst (-1), 1) := by decide +kernel
theorem dX5_slow_15 : decode cX5_slow 15 = .ok (.ireturn, 1) := by decide +kernel
theorem dX5_slow_16 : decode cX5_slow 16 = .ok (.aload_n 0, 1) := by decide +kernel
theorem dX5_slow_17 : decode cX5_slow 17 = .ok (.ldc_w 261, 3) := by decide +kernel
theorem dX5_slow_20 : decode cX5_slow 20 = .ok (.invokevirtual 262, 3) := by decide +kernel
theorem dX5_slow_23 : decode cX5_slow 23 = .ok (.iconst 4, 1) := by decide +kernel
theorem dX5_slow_24 : decode cX5_slow 24 = .ok (.istore_n 3, 1) := by decide +kernel
theorem dX5_slow_25 : decode cX5_slow 25 = .ok (.iload_n 3, 1) := by decide +kernel
theorem dX5_slow_26 : decode cX5_slow 26 = .ok (.ifCond .le 31, 3) := by decide +kernel
theorem dX5_slow_29 : decode cX5_slow 29 = .ok (.aload_n 0, 1) := by decide +kernel
theorem dX5_slow_30 : decode cX5_slow 30 = .ok (.invokevirtual 183, 3) := by decide +kernel
theorem dX5_slow_33 : decode cX5_slow 33 = .ok (.aload_n 0, 1) := by decide +kernel
theorem dX5_slow_34 : decode cX5_slow 34 = .ok (.getfield 13, 3) := by decide +kernel
theorem dX5_slow_37 : decode cX5_slow 37 = .ok (.bipush 54, 2) := by decide +kernel
theorem dX5_slow_39 : decode cX5_slow 39 = .ok (.iload_n 3, 1) := by decide +kernel
theorem dX5_slow_40 : decode cX5_slow 40 = .ok (.iastore, 1) := by decide +kernel
theorem dX5_slow_41 : decode cX5_slow 41 = .ok (.aload_n 0, 1) := by decide +kernel
theorem dX5_slow_42 : decode cX5_slow 42 = .ok (.iload_n 3, 1) := by decide +kernel
theorem dX5_slow_43 : decode cX5_slow 43 = .ok (.aload_n 0, 1) := by decide +kernel
theorem dX5_slow_44 : decode cX5_slow 44 = .ok (.iload_n 1, 1) := by decide +kernel
theorem dX5_slow_45 : decode cX5_slow 45 = .ok (.invokevirtual 265, 3) := by decide +kernel
theorem dX5_slow_48 : decode cX5_slow 48 = .ok (.invokevirtual 268, 3) := by decide +kernel
theorem dX5_slow_51 : decode cX5_slow 51 = .ok (.iinc 3 (-1), 3) := by decide +kernel
theorem dX5_slow_54 : decode cX5_slow 54 = .ok (.goto (-29), 3) := by decide +kernel
theorem dX5_slow_57 : decode cX5_slow 57 = .ok (.iload_n 2, 1) := by decide +kernel
theorem dX5_slow_58 : decode cX5_slow 58 = .ok (.ifCond .ne 10, 3) := by decide +kernel
theorem dX5_slow_61 : decode cX5_slow 61 = .ok (.aload_n 0, 1) := by decide +kernel
theorem dX5_slow_62 : decode cX5_slow 62 = .ok (.getfield 246, 3) := by decide +kernel
theorem dX5_slow_65 : decode cX5_slow 65 = .ok (.goto 7, 3) := by decide +kernel
theorem dX5_slow_68 : decode cX5_slow 68 = .ok (.aload_n 0, 1) := by decide +kernel
theorem dX5_slow_69 : decode cX5_slow 69 = .ok (.getfield 249, 3) := by decide +kernel
theorem dX5_slow_72 : decode cX5_slow 72 = .ok (.ireturn, 1) := by decide +kernel
theorem dX5_lose_0 : decode cX5_lose 0 = .ok (.iload_n 1, 1) := by decide +kernel
theorem dX5_lose_1 : decode cX5_lose 1 = .ok (.invokestatic 231, 3) := by decide +kernel
theorem dX5_lose_4 : decode cX5_lose 4 = .ok (.ifCond .eq 10, 3) := by decide +kernel
theorem dX5_lose_7 : decode cX5_lose 7 = .ok (.iload_n 2, 1) := by decide +kernel
theorem dX5_lose_8 : decode cX5_lose 8 = .ok (.invokestatic 240, 3) := by decide +kernel
theorem dX5_lose_11 : decode cX5_lose 11 = .ok (.ifCond .ne 5, 3) := by decide +kernel
theorem dX5_lose_14 : decode cX5_lose 14 = .ok (.iconst (-1), 1) := by decide +kernel
theorem dX5_lose_15 : decode cX5_lose 15 = .ok (.ireturn, 1) := by decide +kernel
theorem dX5_lose_16 : decode cX5_lose 16 = .ok (.aload_n 0, 1) := by decide +kernel
theorem dX5_lose_17 : decode cX5_lose 17 = .ok (.invokevirtual 183, 3) := by decide +kernel
theorem dX5_lose_20 : decode cX5_lose 20 = .ok (.aload_n 0, 1) := by decide +kernel
theorem dX5_lose_21 : decode cX5_lose 21 = .ok (.iload_n 1, 1) := by decide +kernel
theorem dX5_lose_22 : decode cX5_lose 22 = .ok (.invokevirtual 223, 3) := by decide +kernel
theorem dX5_lose_25 : decode cX5_lose 25 = .ok (.aload_n 0, 1) := by decide +kernel
theorem dX5_lose_26 : decode cX5_lose 26 = .ok (.aload_n 0, 1) := by decide +kernel
theorem dX5_lose_27 : decode cX5_lose 27 = .ok (.invokevirtual 226, 3) := by decide +kernel
theorem dX5_lose_30 : decode cX5_lose 30 = .ok (.ineg, 1) := by decide +kernel
theorem dX5_lose_31 : decode cX5_lose 31 = .ok (.invokevirtual 262, 3) := by decide +kernel
theorem dX5_lose_34 : decode cX5_lose 34 = .ok (.iconst 0, 1) := by decide +kernel
theorem dX5_lose_35 : decode cX5_lose 35 = .ok (.istore_n 3, 1) := by decide +kernel
theorem dX5_lose_36 : decode cX5_lose 36 = .ok (.iload_n 3, 1) := by decide +kernel
theorem dX5_lose_37 : decode cX5_lose 37 = .ok (.aload_n 0, 1) := by decide +kernel
theorem dX5_lose_38 : decode cX5_lose 38 = .ok (.getfield 7, 3) := by decide +kernel
theorem dX5_lose_41 : decode cX5_lose 41 = .ok (.bipush 53, 2) := by decide +kernel
theorem dX5_lose_43 : decode cX5_lose 43 = .ok (.iaload, 1) := by decide +kernel
theorem dX5_lose_44 : decode cX5_lose 44 = .ok (.if_icmp .ge 33, 3) := by decide +kernel
theorem dX5_lose_47 : decode cX5_lose 47 = .ok (.aload_n 0, 1) := by decide +kernel
theorem dX5_lose_48 : decode cX5_lose 48 = .ok (.invokevirtual 183, 3) := by decide +kernel
theorem dX5_lose_51 : decode cX5_lose 51 = .ok (.aload_n 0, 1) := by decide +kernel
theorem dX5_lose_52 : decode cX5_lose 52 = .ok (.iload_n 3, 1) := by decide +kernel
theorem dX5_lose_53 : decode cX5_lose 53 = .ok (.putfield 136, 3) := by decide +kernel
theorem dX5_lose_56 : decode cX5_lose 56 = .ok (.aload_n 0, 1) := by decide +kernel
theorem dX5_lose_57 : decode cX5_lose 57 = .ok (.iload_n 1, 1) := by decide +kernel
theorem dX5_lose_58 : decode cX5_lose 58 = .ok (.invokevirtual 223, 3) := by decide +kernel
theorem dX5_lose_61 : decode cX5_lose 61 = .ok (.aload_n 0, 1) := by decide +kernel
theorem dX5_lose_62 : decode cX5_lose 62 = .ok (.iload_n 3, 1) := by decide +kernel
theorem dX5_lose_63 : decode cX5_lose 63 = .ok (.aload_n 0, 1) := by decide +kernel
theorem dX5_lose_64 : decode cX5_lose 64 = .ok (.invokevirtual 226, 3) := by decide +kernel
theorem dX5_lose_67 : decode cX5_lose 67 = .ok (.ineg, 1) := by decide +kernel
theorem dX5_lose_68 : decode cX5_lose 68 = .ok (.invokevirtual 268, 3) := by decide +kernel
theorem dX5_lose_71 : decode cX5_lose 71 = .ok (.iinc 3 1, 3) := by decide +kernel
theorem dX5_lose_74 : decode cX5_lose 74 = .ok (.goto (-38), 3) := by decide +kernel
theorem dX5_lose_77 : decode cX5_lose 77 = .ok (.aload_n 0, 1) := by decide +kernel
theorem dX5_lose_78 : decode cX5_lose 78 = .ok (.getfield 246, 3) := by decide +kernel
theorem dX5_lose_81 : decode cX5_lose 81 = .ok (.bipush (-4), 2) := by decide +kernel
theorem dX5_lose_83 : decode cX5_lose 83 = .ok (.if_icmp .ne 8, 3) := by decide +kernel
theorem dX5_lose_86 : decode cX5_lose 86 = .ok (.bipush (-4), 2) := by decide +kernel
theorem dX5_lose_88 : decode cX5_lose 88 = .ok (.goto 19, 3) := by decide +kernel
theorem dX5_lose_91 : decode cX5_lose 91 = .ok (.iload_n 2, 1) := by decide +kernel
theorem dX5_lose_92 : decode cX5_lose 92 = .ok (.ifCond .ne 10, 3) := by decide +kernel
theorem dX5_lose_95 : decode cX5_lose 95 = .ok (.aload_n 0, 1) := by decide +kernel
theorem dX5_lose_96 : decode cX5_lose 96 = .ok (.getfield 246, 3) := by decide +kernel
theorem dX5_lose_99 : decode cX5_lose 99 = .ok (.goto 8, 3) := by decide +kernel
theorem dX5_lose_102 : decode cX5_lose 102 = .ok (.aload_n 0, 1) := by decide +kernel
theorem dX5_lose_103 : decode cX5_lose 103 = .ok (.getfield 249, 3) := by decide +kernel
theorem dX5_lose_106 : decode cX5_lose 106 = .ok (.ineg, 1) := by decide +kernel
theorem dX5_lose_107 : decode cX5_lose 107 = .ok (.ireturn, 1) := by decide +kernel
theorem dX5_common_0 : decode cX5_common 0 = .ok (.lload_n 0, 1) := by decide +kernel
theorem dX5_common_1 : decode cX5_common 1 = .ok (.lstore 4, 2) := by decide +kernel
theorem dX5_common_3 : decode cX5_common 3 = .ok (.lload_n 2, 1) := by decide +kernel
theorem dX5_common_4 : decode cX5_common 4 = .ok (.lstore 6, 2) := by decide +kernel
theorem dX5_common_6 : decode cX5_common 6 = .ok (.lload 6, 2) := by decide +kernel
theorem dX5_common_8 : decode cX5_common 8 = .ok (.lconst 0, 1) := by decide +kernel
theorem dX5_common_9 : decode cX5_common 9 = .ok (.lcmp, 1) := by decide +kernel
theorem dX5_common_10 : decode cX5_common 10 = .ok (.ifCond .eq 21, 3) := by decide +kernel
theorem dX5_common_13 : decode cX5_common 13 = .ok (.lload 4, 2) := by decide +kernel
theorem dX5_common_15 : decode cX5_common 15 = .ok (.lload 6, 2) := by decide +kernel
theorem dX5_common_17 : decode cX5_common 17 = .ok (.lrem, 1) := by decide +kernel
theorem dX5_common_18 : decode cX5_common 18 = .ok (.lstore 8, 2) := by decide +kernel
theorem dX5_common_20 : decode cX5_common 20 = .ok (.lload 6, 2) := by decide +kernel
theorem dX5_common_22 : decode cX5_common 22 = .ok (.lstore 4, 2) := by decide +kernel
theorem dX5_common_24 : decode cX5_common 24 = .ok (.lload 8, 2) := by decide +kernel
theorem dX5_common_26 : decode cX5_common 26 = .ok (.lstore 6, 2) := by decide +kernel
theorem dX5_common_28 : decode cX5_common 28 = .ok (.goto (-22), 3) := by decide +kernel
theorem dX5_common_31 : decode cX5_common 31 = .ok (.lload 4, 2) := by decide +kernel
theorem dX5_common_33 : decode cX5_common 33 = .ok (.lreturn, 1) := by decide +kernel
theorem dX5_lowest_0 : decode cX5_lowest 0 = .ok (.lload_n 2, 1) := by decide +kernel
theorem dX5_lowest_1 : decode cX5_lowest 1 = .ok (.lload_n 0, 1) := by decide +kernel
theorem dX5_lowest_2 : decode cX5_lowest 2 = .ok (.invokestatic 271, 3) := by decide +kernel
theorem dX5_lowest_5 : decode cX5_lowest 5 = .ok (.lstore 5, 2) := by decide +kernel
theorem dX5_lowest_7 : decode cX5_lowest 7 = .ok (.iload 4, 2) := by decide +kernel
theorem dX5_lowest_9 : decode cX5_lowest 9 = .ok (.ifCond .ne 10, 3) := by decide +kernel
theorem dX5_lowest_12 : decode cX5_lowest 12 = .ok (.lload_n 0, 1) := by decide +kernel
theorem dX5_lowest_13 : decode cX5_lowest 13 = .ok (.lload 5, 2) := by decide +kernel
theorem dX5_lowest_15 : decode cX5_lowest 15 = .ok (.ldiv, 1) := by decide +kernel
theorem dX5_lowest_16 : decode cX5_lowest 16 = .ok (.goto 7, 3) := by decide +kernel
theorem dX5_lowest_19 : decode cX5_lowest 19 = .ok (.lload_n 2, 1) := by decide +kernel
theorem dX5_lowest_20 : decode cX5_lowest 20 = .ok (.lload 5, 2) := by decide +kernel
theorem dX5_lowest_22 : decode cX5_lowest 22 = .ok (.ldiv, 1) := by decide +kernel
theorem dX5_lowest_23 : decode cX5_lowest 23 = .ok (.lreturn, 1) := by decide +kernel
theorem dX5_findOdds_0 : decode cX5_findOdds 0 = .ok (.aload_n 0, 1) := by decide +kernel
theorem dX5_findOdds_1 : decode cX5_findOdds 1 = .ok (.lconst 0, 1) := by decide +kernel
theorem dX5_findOdds_2 : decode cX5_findOdds 2 = .ok (.putfield 275, 3) := by decide +kernel
theorem dX5_findOdds_5 : decode cX5_findOdds 5 = .ok (.aload_n 0, 1) := by decide +kernel
theorem dX5_findOdds_6 : decode cX5_findOdds 6 = .ok (.lconst 0, 1) := by decide +kernel
theorem dX5_findOdds_7 : decode cX5_findOdds 7 = .ok (.putfield 279, 3) := by decide +kernel
theorem dX5_findOdds_10 : decode cX5_findOdds 10 = .ok (.aload_n 0, 1) := by decide +kernel
theorem dX5_findOdds_11 : decode cX5_findOdds 11 = .ok (.lconst 1, 1) := by decide +kernel
theorem dX5_findOdds_12 : decode cX5_findOdds 12 = .ok (.putfield 282, 3) := by decide +kernel
theorem dX5_findOdds_15 : decode cX5_findOdds 15 = .ok (.iconst 0, 1) := by decide +kernel
theorem dX5_findOdds_16 : decode cX5_findOdds 16 = .ok (.istore 4, 2) := by decide +kernel
theorem dX5_findOdds_18 : decode cX5_findOdds 18 = .ok (.iload 4, 2) := by decide +kernel
theorem dX5_findOdds_20 : decode cX5_findOdds 20 = .ok (.iload_n 3, 1) := by decide +kernel
theorem dX5_findOdds_21 : decode cX5_findOdds 21 = .ok (.if_icmp .ge 21, 3) := by decide +kernel
theorem dX5_findOdds_24 : decode cX5_findOdds 24 = .ok (.aload_n 0, 1) := by decide +kernel
theorem dX5_findOdds_25 : decode cX5_findOdds 25 = .ok (.dup, 1) := by decide +kernel
theorem dX5_findOdds_26 : decode cX5_findOdds 26 = .ok (.getfield 282, 3) := by decide +kernel
theorem dX5_findOdds_29 : decode cX5_findOdds 29 = .ok (.ldc2_w 285, 3) := by decide +kernel
theorem dX5_findOdds_32 : decode cX5_findOdds 32 = .ok (.lmul, 1) := by decide +kernel
theorem dX5_findOdds_33 : decode cX5_findOdds 33 = .ok (.putfield 282, 3) := by decide +kernel
theorem dX5_findOdds_36 : decode cX5_findOdds 36 = .ok (.iinc 4 1, 3) := by decide +kernel
theorem dX5_findOdds_39 : decode cX5_findOdds 39 = .ok (.goto (-21), 3) := by decide +kernel
theorem dX5_findOdds_42 : decode cX5_findOdds 42 = .ok (.iconst 0, 1) := by decide +kernel
theorem dX5_findOdds_43 : decode cX5_findOdds 43 = .ok (.istore 4, 2) := by decide +kernel
theorem dX5_findOdds_45 : decode cX5_findOdds 45 = .ok (.iload 4, 2) := by decide +kernel
theorem dX5_findOdds_47 : decode cX5_findOdds 47 = .ok (.iconst 1, 1) := by decide +kernel
theorem dX5_findOdds_48 : decode cX5_findOdds 48 = .ok (.iload_n 3, 1) := by decide +kernel
theorem dX5_findOdds_49 : decode cX5_findOdds 49 = .ok (.ishl, 1) := by decide +kernel
theorem dX5_findOdds_50 : decode cX5_findOdds 50 = .ok (.if_icmp .ge 140, 3) := by decide +kernel
theorem dX5_findOdds_53 : decode cX5_findOdds 53 = .ok (.lconst 1, 1) := by decide +kernel
theorem dX5_findOdds_54 : decode cX5_findOdds 54 = .ok (.lstore 5, 2) := by decide +kernel
theorem dX5_findOdds_56 : decode cX5_findOdds 56 = .ok (.aload_n 0, 1) := by decide +kernel
theorem dX5_findOdds_57 : decode cX5_findOdds 57 = .ok (.invokevirtual 183, 3) := by decide +kernel
theorem dX5_findOdds_60 : decode cX5_findOdds 60 = .ok (.iconst 0, 1) := by decide +kernel
theorem dX5_findOdds_61 : decode cX5_findOdds 61 = .ok (.istore 7, 2) := by decide +kernel
theorem dX5_findOdds_63 : decode cX5_findOdds 63 = .ok (.iload 7, 2) := by decide +kernel
theorem dX5_findOdds_65 : decode cX5_findOdds 65 = .ok (.iload_n 3, 1) := by decide +kernel
theorem dX5_findOdds_66 : decode cX5_findOdds 66 = .ok (.if_icmp .ge 70, 3) := by decide +kernel
theorem dX5_findOdds_69 : decode cX5_findOdds 69 = .ok (.iload 4, 2) := by decide +kernel
theorem dX5_findOdds_71 : decode cX5_findOdds 71 = .ok (.iload 7, 2) := by decide +kernel
theorem dX5_findOdds_73 : decode cX5_findOdds 73 = .ok (.ishr, 1) := by decide +kernel
theorem dX5_findOdds_74 : decode cX5_findOdds 74 = .ok (.iconst 1, 1) := by decide +kernel
theorem dX5_findOdds_75 : decode cX5_findOdds 75 = .ok (.iand, 1) := by decide +kernel
theorem dX5_findOdds_76 : decode cX5_findOdds 76 = .ok (.iconst 1, 1) := by decide +kernel
theorem dX5_findOdds_77 : decode cX5_findOdds 77 = .ok (.if_icmp .ne 7, 3) := by decide +kernel
theorem dX5_findOdds_80 : decode cX5_findOdds 80 = .ok (.iconst 1, 1) := by decide +kernel
theorem dX5_findOdds_81 : decode cX5_findOdds 81 = .ok (.goto 4, 3) := by decide +kernel
theorem dX5_findOdds_84 : decode cX5_findOdds 84 = .ok (.iconst 0, 1) := by decide +kernel
theorem dX5_findOdds_85 : decode cX5_findOdds 85 = .ok (.istore 8, 2) := by decide +kernel
theorem dX5_findOdds_87 : decode cX5_findOdds 87 = .ok (.lload 5, 2) := by decide +kernel
theorem dX5_findOdds_89 : decode cX5_findOdds 89 = .ok (.iload 8, 2) := by decide +kernel
theorem dX5_findOdds_91 : decode cX5_findOdds 91 = .ok (.ifCond .eq 8, 3) := by decide +kernel
theorem dX5_findOdds_94 : decode cX5_findOdds 94 = .ok (.iload_n 1, 1) := by decide +kernel
theorem dX5_findOdds_95 : decode cX5_findOdds 95 = .ok (.i2l, 1) := by decide +kernel
theorem dX5_findOdds_96 : decode cX5_findOdds 96 = .ok (.goto 8, 3) := by decide +kernel
theorem dX5_findOdds_99 : decode cX5_findOdds 99 = .ok (.bipush 10, 2) := by decide +kernel
theorem dX5_findOdds_101 : decode cX5_findOdds 101 = .ok (.iload_n 1, 1) := by decide +kernel
theorem dX5_findOdds_102 : decode cX5_findOdds 102 = .ok (.isub, 1) := by decide +kernel
theorem dX5_findOdds_103 : decode cX5_findOdds 103 = .ok (.i2l, 1) := by decide +kernel
theorem dX5_findOdds_104 : decode cX5_findOdds 104 = .ok (.lmul, 1) := by decide +kernel
theorem dX5_findOdds_105 : decode cX5_findOdds 105 = .ok (.lstore 5, 2) := by decide +kernel
theorem dX5_findOdds_107 : decode cX5_findOdds 107 = .ok (.aload_n 0, 1) := by decide +kernel
theorem dX5_findOdds_108 : decode cX5_findOdds 108 = .ok (.iload 8, 2) := by decide +kernel
theorem dX5_findOdds_110 : decode cX5_findOdds 110 = .ok (.ifCond .eq 13, 3) := by decide +kernel
theorem dX5_findOdds_113 : decode cX5_findOdds 113 = .ok (.bipush 15, 2) := by decide +kernel
theorem dX5_findOdds_115 : decode cX5_findOdds 115 = .ok (.aload_n 0, 1) := by decide +kernel
theorem dX5_findOdds_116 : decode cX5_findOdds 116 = .ok (.invokevirtual 177, 3) := by decide +kernel
theorem dX5_findOdds_119 : decode cX5_findOdds 119 = .ok (.isub, 1) := by decide +kernel
theorem dX5_findOdds_120 : decode cX5_findOdds 120 = .ok (.goto 7, 3) := by decide +kernel
theorem dX5_findOdds_123 : decode cX5_findOdds 123 = .ok (.aload_n 0, 1) := by decide +kernel
theorem dX5_findOdds_124 : decode cX5_findOdds 124 = .ok (.invokevirtual 177, 3) := by decide +kernel
theorem dX5_findOdds_127 : decode cX5_findOdds 127 = .ok (.invokevirtual 180, 3) := by decide +kernel
theorem dX5_findOdds_130 : decode cX5_findOdds 130 = .ok (.iinc 7 1, 3) := by decide +kernel
theorem dX5_findOdds_133 : decode cX5_findOdds 133 = .ok (.goto (-70), 3) := by decide +kernel
theorem dX5_findOdds_136 : decode cX5_findOdds 136 = .ok (.aload_n 0, 1) := by decide +kernel
theorem dX5_findOdds_137 : decode cX5_findOdds 137 = .ok (.dup, 1) := by decide +kernel
theorem dX5_findOdds_138 : decode cX5_findOdds 138 = .ok (.getfield 275, 3) := by decide +kernel
theorem dX5_findOdds_141 : decode cX5_findOdds 141 = .ok (.iload_n 2, 1) := by decide +kernel
theorem dX5_findOdds_142 : decode cX5_findOdds 142 = .ok (.bipush (-4), 2) := by decide +kernel
theorem dX5_findOdds_144 : decode cX5_findOdds 144 = .ok (.if_icmp .eq 18, 3) := by decide +kernel
theorem dX5_findOdds_147 : decode cX5_findOdds 147 = .ok (.aload_n 0, 1) := by decide +kernel
theorem dX5_findOdds_148 : decode cX5_findOdds 148 = .ok (.iload_n 2, 1) := by decide +kernel
theorem dX5_findOdds_149 : decode cX5_findOdds 149 = .ok (.iconst 3, 1) := by decide +kernel
theorem dX5_findOdds_150 : decode cX5_findOdds 150 = .ok (.invokevirtual 145, 3) := by decide +kernel
theorem dX5_findOdds_153 : decode cX5_findOdds 153 = .ok (.iconst 1, 1) := by decide +kernel
theorem dX5_findOdds_154 : decode cX5_findOdds 154 = .ok (.if_icmp .ne 8, 3) := by decide +kernel
theorem dX5_findOdds_157 : decode cX5_findOdds 157 = .ok (.lload 5, 2) := by decide +kernel
theorem dX5_findOdds_159 : decode cX5_findOdds 159 = .ok (.goto 4, 3) := by decide +kernel
theorem dX5_findOdds_162 : decode cX5_findOdds 162 = .ok (.lconst 0, 1) := by decide +kernel
theorem dX5_findOdds_163 : decode cX5_findOdds 163 = .ok (.ladd, 1) := by decide +kernel
theorem dX5_findOdds_164 : decode cX5_findOdds 164 = .ok (.putfield 275, 3) := by decide +kernel
theorem dX5_findOdds_167 : decode cX5_findOdds 167 = .ok (.aload_n 0, 1) := by decide +kernel
theorem dX5_findOdds_168 : decode cX5_findOdds 168 = .ok (.dup, 1) := by decide +kernel
theorem dX5_findOdds_169 : decode cX5_findOdds 169 = .ok (.getfield 279, 3) := by decide +kernel
theorem dX5_findOdds_172 : decode cX5_findOdds 172 = .ok (.lload 5, 2) := by decide +kernel
theorem dX5_findOdds_174 : decode cX5_findOdds 174 = .ok (.aload_n 0, 1) := by decide +kernel
theorem dX5_findOdds_175 : decode cX5_findOdds 175 = .ok (.invokevirtual 226, 3) := by decide +kernel
theorem dX5_findOdds_178 : decode cX5_findOdds 178 = .ok (.i2l, 1) := by decide +kernel
theorem dX5_findOdds_179 : decode cX5_findOdds 179 = .ok (.lmul, 1) := by decide +kernel
theorem dX5_findOdds_180 : decode cX5_findOdds 180 = .ok (.ladd, 1) := by decide +kernel
theorem dX5_findOdds_181 : decode cX5_findOdds 181 = .ok (.putfield 279, 3) := by decide +kernel
theorem dX5_findOdds_184 : decode cX5_findOdds 184 = .ok (.iinc 4 1, 3) := by decide +kernel
theorem dX5_findOdds_187 : decode cX5_findOdds 187 = .ok (.goto (-142), 3) := by decide +kernel
theorem dX5_findOdds_190 : decode cX5_findOdds 190 = .ok (.return_, 1) := by decide +kernel
theorem dX5_luck_0 : decode cX5_luck 0 = .ok (.iload_n 1, 1) := by decide +kernel
theorem dX5_luck_1 : decode cX5_luck 1 = .ok (.i2l, 1) := by decide +kernel
theorem dX5_luck_2 : decode cX5_luck 2 = .ok (.lconst 0, 1) := by decide +kernel
theorem dX5_luck_3 : decode cX5_luck 3 = .ok (.ldc2_w 285, 3) := by decide +kernel
theorem dX5_luck_6 : decode cX5_luck 6 = .ok (.invokestatic 63, 3) := by decide +kernel
theorem dX5_luck_9 : decode cX5_luck 9 = .ok (.ifCond .eq 31, 3) := by decide +kernel
theorem dX5_luck_12 : decode cX5_luck 12 = .ok (.aload_n 0, 1) := by decide +kernel
theorem dX5_luck_13 : decode cX5_luck 13 = .ok (.iload_n 2, 1) := by decide +kernel
theorem dX5_luck_14 : decode cX5_luck 14 = .ok (.invokevirtual 192, 3) := by decide +kernel
theorem dX5_luck_17 : decode cX5_luck 17 = .ok (.ifCond .eq 23, 3) := by decide +kernel
theorem dX5_luck_20 : decode cX5_luck 20 = .ok (.iload_n 3, 1) := by decide +kernel
theorem dX5_luck_21 : decode cX5_luck 21 = .ok (.i2l, 1) := by decide +kernel
theorem dX5_luck_22 : decode cX5_luck 22 = .ok (.lconst 0, 1) := by decide +kernel
theorem dX5_luck_23 : decode cX5_luck 23 = .ok (.ldc2_w 287, 3) := by decide +kernel
theorem dX5_luck_26 : decode cX5_luck 26 = .ok (.invokestatic 63, 3) := by decide +kernel
theorem dX5_luck_29 : decode cX5_luck 29 = .ok (.ifCond .eq 11, 3) := by decide +kernel
theorem dX5_luck_32 : decode cX5_luck 32 = .ok (.iload 4, 2) := by decide +kernel
theorem dX5_luck_34 : decode cX5_luck 34 = .ok (.invokestatic 240, 3) := by decide +kernel
theorem dX5_luck_37 : decode cX5_luck 37 = .ok (.ifCond .ne 7, 3) := by decide +kernel
theorem dX5_luck_40 : decode cX5_luck 40 = .ok (.ldc2_w 289, 3) := by decide +kernel
theorem dX5_luck_43 : decode cX5_luck 43 = .ok (.lreturn, 1) := by decide +kernel
theorem dX5_luck_44 : decode cX5_luck 44 = .ok (.aload_n 0, 1) := by decide +kernel
theorem dX5_luck_45 : decode cX5_luck 45 = .ok (.iload_n 1, 1) := by decide +kernel
theorem dX5_luck_46 : decode cX5_luck 46 = .ok (.iload_n 2, 1) := by decide +kernel
theorem dX5_luck_47 : decode cX5_luck 47 = .ok (.iload_n 3, 1) := by decide +kernel
theorem dX5_luck_48 : decode cX5_luck 48 = .ok (.invokevirtual 291, 3) := by decide +kernel
theorem dX5_luck_51 : decode cX5_luck 51 = .ok (.aload_n 0, 1) := by decide +kernel
theorem dX5_luck_52 : decode cX5_luck 52 = .ok (.getfield 275, 3) := by decide +kernel
theorem dX5_luck_55 : decode cX5_luck 55 = .ok (.aload_n 0, 1) := by decide +kernel
theorem dX5_luck_56 : decode cX5_luck 56 = .ok (.getfield 282, 3) := by decide +kernel
theorem dX5_luck_59 : decode cX5_luck 59 = .ok (.iload 4, 2) := by decide +kernel
theorem dX5_luck_61 : decode cX5_luck 61 = .ok (.invokestatic 294, 3) := by decide +kernel
theorem dX5_luck_64 : decode cX5_luck 64 = .ok (.lreturn, 1) := by decide +kernel
theorem dX5_mean_0 : decode cX5_mean 0 = .ok (.iload_n 1, 1) := by decide +kernel
theorem dX5_mean_1 : decode cX5_mean 1 = .ok (.i2l, 1) := by decide +kernel
theorem dX5_mean_2 : decode cX5_mean 2 = .ok (.lconst 0, 1) := by decide +kernel
theorem dX5_mean_3 : decode cX5_mean 3 = .ok (.ldc2_w 285, 3) := by decide +kernel
theorem dX5_mean_6 : decode cX5_mean 6 = .ok (.invokestatic 63, 3) := by decide +kernel
theorem dX5_mean_9 : decode cX5_mean 9 = .ok (.ifCond .eq 22, 3) := by decide +kernel
theorem dX5_mean_12 : decode cX5_mean 12 = .ok (.iload_n 2, 1) := by decide +kernel
theorem dX5_mean_13 : decode cX5_mean 13 = .ok (.i2l, 1) := by decide +kernel
theorem dX5_mean_14 : decode cX5_mean 14 = .ok (.lconst 0, 1) := by decide +kernel
theorem dX5_mean_15 : decode cX5_mean 15 = .ok (.ldc2_w 287, 3) := by decide +kernel
theorem dX5_mean_18 : decode cX5_mean 18 = .ok (.invokestatic 63, 3) := by decide +kernel
theorem dX5_mean_21 : decode cX5_mean 21 = .ok (.ifCond .eq 10, 3) := by decide +kernel
theorem dX5_mean_24 : decode cX5_mean 24 = .ok (.iload_n 3, 1) := by decide +kernel
theorem dX5_mean_25 : decode cX5_mean 25 = .ok (.invokestatic 240, 3) := by decide +kernel
theorem dX5_mean_28 : decode cX5_mean 28 = .ok (.ifCond .ne 7, 3) := by decide +kernel
theorem dX5_mean_31 : decode cX5_mean 31 = .ok (.ldc2_w 289, 3) := by decide +kernel
theorem dX5_mean_34 : decode cX5_mean 34 = .ok (.lreturn, 1) := by decide +kernel
theorem dX5_mean_35 : decode cX5_mean 35 = .ok (.aload_n 0, 1) := by decide +kernel
theorem dX5_mean_36 : decode cX5_mean 36 = .ok (.iload_n 1, 1) := by decide +kernel
theorem dX5_mean_37 : decode cX5_mean 37 = .ok (.bipush (-4), 2) := by decide +kernel
theorem dX5_mean_39 : decode cX5_mean 39 = .ok (.iload_n 2, 1) := by decide +kernel
theorem dX5_mean_40 : decode cX5_mean 40 = .ok (.invokevirtual 291, 3) := by decide +kernel
theorem dX5_mean_43 : decode cX5_mean 43 = .ok (.aload_n 0, 1) := by decide +kernel
theorem dX5_mean_44 : decode cX5_mean 44 = .ok (.getfield 279, 3) := by decide +kernel
theorem dX5_mean_47 : decode cX5_mean 47 = .ok (.aload_n 0, 1) := by decide +kernel
theorem dX5_mean_48 : decode cX5_mean 48 = .ok (.getfield 282, 3) := by decide +kernel
theorem dX5_mean_51 : decode cX5_mean 51 = .ok (.iload_n 3, 1) := by decide +kernel
theorem dX5_mean_52 : decode cX5_mean 52 = .ok (.invokestatic 294, 3) := by decide +kernel
theorem dX5_mean_55 : decode cX5_mean 55 = .ok (.lreturn, 1) := by decide +kernel
theorem dX5_see_0 : decode cX5_see 0 = .ok (.iload_n 1, 1) := by decide +kernel
theorem dX5_see_1 : decode cX5_see 1 = .ok (.i2l, 1) := by decide +kernel
theorem dX5_see_2 : decode cX5_see 2 = .ok (.lconst 0, 1) := by decide +kernel
theorem dX5_see_3 : decode cX5_see 3 = .ok (.ldc2_w 298, 3) := by decide +kernel
theorem dX5_see_6 : decode cX5_see 6 = .ok (.invokestatic 63, 3) := by decide +kernel
theorem dX5_see_9 : decode cX5_see 9 = .ok (.ifCond .eq 21, 3) := by decide +kernel
theorem dX5_see_12 : decode cX5_see 12 = .ok (.aload_n 0, 1) := by decide +kernel
theorem dX5_see_13 : decode cX5_see 13 = .ok (.iload_n 2, 1) := by decide +kernel
theorem dX5_see_14 : decode cX5_see 14 = .ok (.invokevirtual 192, 3) := by decide +kernel
theorem dX5_see_17 : decode cX5_see 17 = .ok (.ifCond .eq 13, 3) := by decide +kernel
theorem dX5_see_20 : decode cX5_see 20 = .ok (.iload_n 3, 1) := by decide +kernel
theorem dX5_see_21 : decode cX5_see 21 = .ok (.i2l, 1) := by decide +kernel
theorem dX5_see_22 : decode cX5_see 22 = .ok (.lconst 0, 1) := by decide +kernel
theorem dX5_see_23 : decode cX5_see 23 = .ok (.lconst 1, 1) := by decide +kernel
theorem dX5_see_24 : decode cX5_see 24 = .ok (.invokestatic 63, 3) := by decide +kernel
theorem dX5_see_27 : decode cX5_see 27 = .ok (.ifCond .ne 5, 3) := by decide +kernel
theorem dX5_see_30 : decode cX5_see 30 = .ok (.iconst (-1), 1) := by decide +kernel
theorem dX5_see_31 : decode cX5_see 31 = .ok (.ireturn, 1) := by decide +kernel
theorem dX5_see_32 : decode cX5_see 32 = .ok (.aload_n 0, 1) := by decide +kernel
theorem dX5_see_33 : decode cX5_see 33 = .ok (.getfield 7, 3) := by decide +kernel
theorem dX5_see_36 : decode cX5_see 36 = .ok (.bipush 56, 2) := by decide +kernel
theorem dX5_see_38 : decode cX5_see 38 = .ok (.iaload, 1) := by decide +kernel
theorem dX5_see_39 : decode cX5_see 39 = .ok (.bipush 6, 2) := by decide +kernel
theorem dX5_see_41 : decode cX5_see 41 = .ok (.if_icmp .ne 6, 3) := by decide +kernel
theorem dX5_see_44 : decode cX5_see 44 = .ok (.bipush (-3), 2) := by decide +kernel
theorem dX5_see_46 : decode cX5_see 46 = .ok (.ireturn, 1) := by decide +kernel
theorem dX5_see_47 : decode cX5_see 47 = .ok (.bipush 57, 2) := by decide +kernel
theorem dX5_see_49 : decode cX5_see 49 = .ok (.iconst 3, 1) := by decide +kernel
theorem dX5_see_50 : decode cX5_see 50 = .ok (.aload_n 0, 1) := by decide +kernel
theorem dX5_see_51 : decode cX5_see 51 = .ok (.getfield 7, 3) := by decide +kernel
theorem dX5_see_54 : decode cX5_see 54 = .ok (.bipush 56, 2) := by decide +kernel
theorem dX5_see_56 : decode cX5_see 56 = .ok (.iaload, 1) := by decide +kernel
theorem dX5_see_57 : decode cX5_see 57 = .ok (.imul, 1) := by decide +kernel
theorem dX5_see_58 : decode cX5_see 58 = .ok (.iadd, 1) := by decide +kernel
theorem dX5_see_59 : decode cX5_see 59 = .ok (.istore 4, 2) := by decide +kernel
theorem dX5_see_61 : decode cX5_see 61 = .ok (.aload_n 0, 1) := by decide +kernel
theorem dX5_see_62 : decode cX5_see 62 = .ok (.getfield 7, 3) := by decide +kernel
theorem dX5_see_65 : decode cX5_see 65 = .ok (.iload 4, 2) := by decide +kernel
theorem dX5_see_67 : decode cX5_see 67 = .ok (.iload_n 1, 1) := by decide +kernel
theorem dX5_see_68 : decode cX5_see 68 = .ok (.iastore, 1) := by decide +kernel
theorem dX5_see_69 : decode cX5_see 69 = .ok (.aload_n 0, 1) := by decide +kernel
theorem dX5_see_70 : decode cX5_see 70 = .ok (.getfield 7, 3) := by decide +kernel
theorem dX5_see_73 : decode cX5_see 73 = .ok (.iload 4, 2) := by decide +kernel
theorem dX5_see_75 : decode cX5_see 75 = .ok (.iconst 1, 1) := by decide +kernel
theorem dX5_see_76 : decode cX5_see 76 = .ok (.iadd, 1) := by decide +kernel
theorem dX5_see_77 : decode cX5_see 77 = .ok (.iload_n 2, 1) := by decide +kernel
theorem dX5_see_78 : decode cX5_see 78 = .ok (.iastore, 1) := by decide +kernel
theorem dX5_see_79 : decode cX5_see 79 = .ok (.aload_n 0, 1) := by decide +kernel
theorem dX5_see_80 : decode cX5_see 80 = .ok (.getfield 7, 3) := by decide +kernel
theorem dX5_see_83 : decode cX5_see 83 = .ok (.iload 4, 2) := by decide +kernel
theorem dX5_see_85 : decode cX5_see 85 = .ok (.iconst 2, 1) := by decide +kernel
theorem dX5_see_86 : decode cX5_see 86 = .ok (.iadd, 1) := by decide +kernel
theorem dX5_see_87 : decode cX5_see 87 = .ok (.iload_n 3, 1) := by decide +kernel
theorem dX5_see_88 : decode cX5_see 88 = .ok (.iastore, 1) := by decide +kernel
theorem dX5_see_89 : decode cX5_see 89 = .ok (.aload_n 0, 1) := by decide +kernel
theorem dX5_see_90 : decode cX5_see 90 = .ok (.getfield 7, 3) := by decide +kernel
theorem dX5_see_93 : decode cX5_see 93 = .ok (.bipush 56, 2) := by decide +kernel
theorem dX5_see_95 : decode cX5_see 95 = .ok (.dup2, 1) := by decide +kernel
theorem dX5_see_96 : decode cX5_see 96 = .ok (.iaload, 1) := by decide +kernel
theorem dX5_see_97 : decode cX5_see 97 = .ok (.iconst 1, 1) := by decide +kernel
theorem dX5_see_98 : decode cX5_see 98 = .ok (.iadd, 1) := by decide +kernel
theorem dX5_see_99 : decode cX5_see 99 = .ok (.iastore, 1) := by decide +kernel
theorem dX5_see_100 : decode cX5_see 100 = .ok (.aload_n 0, 1) := by decide +kernel
theorem dX5_see_101 : decode cX5_see 101 = .ok (.getfield 7, 3) := by decide +kernel
theorem dX5_see_104 : decode cX5_see 104 = .ok (.bipush 56, 2) := by decide +kernel
theorem dX5_see_106 : decode cX5_see 106 = .ok (.iaload, 1) := by decide +kernel
theorem dX5_see_107 : decode cX5_see 107 = .ok (.ireturn, 1) := by decide +kernel
theorem dX5_forget_0 : decode cX5_forget 0 = .ok (.iload_n 1, 1) := by decide +kernel
theorem dX5_forget_1 : decode cX5_forget 1 = .ok (.i2l, 1) := by decide +kernel
theorem dX5_forget_2 : decode cX5_forget 2 = .ok (.lconst 0, 1) := by decide +kernel
theorem dX5_forget_3 : decode cX5_forget 3 = .ok (.aload_n 0, 1) := by decide +kernel
theorem dX5_forget_4 : decode cX5_forget 4 = .ok (.getfield 7, 3) := by decide +kernel
theorem dX5_forget_7 : decode cX5_forget 7 = .ok (.bipush 56, 2) := by decide +kernel
theorem dX5_forget_9 : decode cX5_forget 9 = .ok (.iaload, 1) := by decide +kernel
theorem dX5_forget_10 : decode cX5_forget 10 = .ok (.i2l, 1) := by decide +kernel
theorem dX5_forget_11 : decode cX5_forget 11 = .ok (.invokestatic 63, 3) := by decide +kernel
theorem dX5_forget_14 : decode cX5_forget 14 = .ok (.ifCond .eq 13, 3) := by decide +kernel
theorem dX5_forget_17 : decode cX5_forget 17 = .ok (.aload_n 0, 1) := by decide +kernel
theorem dX5_forget_18 : decode cX5_forget 18 = .ok (.bipush 56, 2) := by decide +kernel
theorem dX5_forget_20 : decode cX5_forget 20 = .ok (.iload_n 1, 1) := by decide +kernel
theorem dX5_forget_21 : decode cX5_forget 21 = .ok (.invokevirtual 208, 3) := by decide +kernel
theorem dX5_forget_24 : decode cX5_forget 24 = .ok (.goto 4, 3) := by decide +kernel
theorem dX5_forget_27 : decode cX5_forget 27 = .ok (.iconst (-1), 1) := by decide +kernel
theorem dX5_forget_28 : decode cX5_forget 28 = .ok (.ireturn, 1) := by decide +kernel
theorem dX5_isSoWith_0 : decode cX5_isSoWith 0 = .ok (.aload_n 0, 1) := by decide +kernel
theorem dX5_isSoWith_1 : decode cX5_isSoWith 1 = .ok (.iload_n 1, 1) := by decide +kernel
theorem dX5_isSoWith_2 : decode cX5_isSoWith 2 = .ok (.iload_n 2, 1) := by decide +kernel
theorem dX5_isSoWith_3 : decode cX5_isSoWith 3 = .ok (.iload_n 3, 1) := by decide +kernel
theorem dX5_isSoWith_4 : decode cX5_isSoWith 4 = .ok (.invokevirtual 252, 3) := by decide +kernel
theorem dX5_isSoWith_7 : decode cX5_isSoWith 7 = .ok (.iconst 0, 1) := by decide +kernel
theorem dX5_isSoWith_8 : decode cX5_isSoWith 8 = .ok (.istore 4, 2) := by decide +kernel
theorem dX5_isSoWith_10 : decode cX5_isSoWith 10 = .ok (.iload 4, 2) := by decide +kernel
theorem dX5_isSoWith_12 : decode cX5_isSoWith 12 = .ok (.bipush 40, 2) := by decide +kernel
theorem dX5_isSoWith_14 : decode cX5_isSoWith 14 = .ok (.if_icmp .gt 25, 3) := by decide +kernel
theorem dX5_isSoWith_17 : decode cX5_isSoWith 17 = .ok (.aload_n 0, 1) := by decide +kernel
theorem dX5_isSoWith_18 : decode cX5_isSoWith 18 = .ok (.getfield 29, 3) := by decide +kernel
theorem dX5_isSoWith_21 : decode cX5_isSoWith 21 = .ok (.iload 4, 2) := by decide +kernel
theorem dX5_isSoWith_23 : decode cX5_isSoWith 23 = .ok (.aload_n 0, 1) := by decide +kernel
theorem dX5_isSoWith_24 : decode cX5_isSoWith 24 = .ok (.invokevirtual 186, 3) := by decide +kernel
theorem dX5_isSoWith_27 : decode cX5_isSoWith 27 = .ok (.iastore, 1) := by decide +kernel
theorem dX5_isSoWith_28 : decode cX5_isSoWith 28 = .ok (.aload_n 0, 1) := by decide +kernel
theorem dX5_isSoWith_29 : decode cX5_isSoWith 29 = .ok (.iconst 1, 1) := by decide +kernel
theorem dX5_isSoWith_30 : decode cX5_isSoWith 30 = .ok (.invokevirtual 223, 3) := by decide +kernel
theorem dX5_isSoWith_33 : decode cX5_isSoWith 33 = .ok (.iinc 4 1, 3) := by decide +kernel
theorem dX5_isSoWith_36 : decode cX5_isSoWith 36 = .ok (.goto (-26), 3) := by decide +kernel
theorem dX5_isSoWith_39 : decode cX5_isSoWith 39 = .ok (.iconst 1, 1) := by decide +kernel
theorem dX5_isSoWith_40 : decode cX5_isSoWith 40 = .ok (.istore 4, 2) := by decide +kernel
theorem dX5_isSoWith_42 : decode cX5_isSoWith 42 = .ok (.iconst 0, 1) := by decide +kernel
theorem dX5_isSoWith_43 : decode cX5_isSoWith 43 = .ok (.istore 5, 2) := by decide +kernel
theorem dX5_isSoWith_45 : decode cX5_isSoWith 45 = .ok (.iload 5, 2) := by decide +kernel
theorem dX5_isSoWith_47 : decode cX5_isSoWith 47 = .ok (.aload_n 0, 1) := by decide +kernel
theorem dX5_isSoWith_48 : decode cX5_isSoWith 48 = .ok (.getfield 7, 3) := by decide +kernel
theorem dX5_isSoWith_51 : decode cX5_isSoWith 51 = .ok (.bipush 56, 2) := by decide +kernel
theorem dX5_isSoWith_53 : decode cX5_isSoWith 53 = .ok (.iaload, 1) := by decide +kernel
theorem dX5_isSoWith_54 : decode cX5_isSoWith 54 = .ok (.if_icmp .ge 66, 3) := by decide +kernel
theorem dX5_isSoWith_57 : decode cX5_isSoWith 57 = .ok (.bipush 57, 2) := by decide +kernel
theorem dX5_isSoWith_59 : decode cX5_isSoWith 59 = .ok (.iconst 3, 1) := by decide +kernel
theorem dX5_isSoWith_60 : decode cX5_isSoWith 60 = .ok (.iload 5, 2) := by decide +kernel
theorem dX5_isSoWith_62 : decode cX5_isSoWith 62 = .ok (.imul, 1) := by decide +kernel
theorem dX5_isSoWith_63 : decode cX5_isSoWith 63 = .ok (.iadd, 1) := by decide +kernel
theorem dX5_isSoWith_64 : decode cX5_isSoWith 64 = .ok (.istore 6, 2) := by decide +kernel
theorem dX5_isSoWith_66 : decode cX5_isSoWith 66 = .ok (.iload 4, 2) := by decide +kernel
theorem dX5_isSoWith_68 : decode cX5_isSoWith 68 = .ok (.ifCond .eq 43, 3) := by decide +kernel
theorem dX5_isSoWith_71 : decode cX5_isSoWith 71 = .ok (.aload_n 0, 1) := by decide +kernel
theorem dX5_isSoWith_72 : decode cX5_isSoWith 72 = .ok (.getfield 29, 3) := by decide +kernel
theorem dX5_isSoWith_75 : decode cX5_isSoWith 75 = .ok (.aload_n 0, 1) := by decide +kernel
theorem dX5_isSoWith_76 : decode cX5_isSoWith 76 = .ok (.getfield 7, 3) := by decide +kernel
theorem dX5_isSoWith_79 : decode cX5_isSoWith 79 = .ok (.iload 6, 2) := by decide +kernel
theorem dX5_isSoWith_81 : decode cX5_isSoWith 81 = .ok (.iaload, 1) := by decide +kernel
theorem dX5_isSoWith_82 : decode cX5_isSoWith 82 = .ok (.iaload, 1) := by decide +kernel
theorem dX5_isSoWith_83 : decode cX5_isSoWith 83 = .ok (.aload_n 0, 1) := by decide +kernel
theorem dX5_isSoWith_84 : decode cX5_isSoWith 84 = .ok (.getfield 7, 3) := by decide +kernel
theorem dX5_isSoWith_87 : decode cX5_isSoWith 87 = .ok (.iload 6, 2) := by decide +kernel
theorem dX5_isSoWith_89 : decode cX5_isSoWith 89 = .ok (.iconst 1, 1) := by decide +kernel
theorem dX5_isSoWith_90 : decode cX5_isSoWith 90 = .ok (.iadd, 1) := by decide +kernel
theorem dX5_isSoWith_91 : decode cX5_isSoWith 91 = .ok (.iaload, 1) := by decide +kernel
theorem dX5_isSoWith_92 : decode cX5_isSoWith 92 = .ok (.ishr, 1) := by decide +kernel
theorem dX5_isSoWith_93 : decode cX5_isSoWith 93 = .ok (.iconst 1, 1) := by decide +kernel
theorem dX5_isSoWith_94 : decode cX5_isSoWith 94 = .ok (.iand, 1) := by decide +kernel
theorem dX5_isSoWith_95 : decode cX5_isSoWith 95 = .ok (.aload_n 0, 1) := by decide +kernel
theorem dX5_isSoWith_96 : decode cX5_isSoWith 96 = .ok (.getfield 7, 3) := by decide +kernel
theorem dX5_isSoWith_99 : decode cX5_isSoWith 99 = .ok (.iload 6, 2) := by decide +kernel
theorem dX5_isSoWith_101 : decode cX5_isSoWith 101 = .ok (.iconst 2, 1) := by decide +kernel
theorem dX5_isSoWith_102 : decode cX5_isSoWith 102 = .ok (.iadd, 1) := by decide +kernel
theorem dX5_isSoWith_103 : decode cX5_isSoWith 103 = .ok (.iaload, 1) := by decide +kernel
theorem dX5_isSoWith_104 : decode cX5_isSoWith 104 = .ok (.if_icmp .ne 7, 3) := by decide +kernel
theorem dX5_isSoWith_107 : decode cX5_isSoWith 107 = .ok (.iconst 1, 1) := by decide +kernel
theorem dX5_isSoWith_108 : decode cX5_isSoWith 108 = .ok (.goto 4, 3) := by decide +kernel
theorem dX5_isSoWith_111 : decode cX5_isSoWith 111 = .ok (.iconst 0, 1) := by decide +kernel
theorem dX5_isSoWith_112 : decode cX5_isSoWith 112 = .ok (.istore 4, 2) := by decide +kernel
theorem dX5_isSoWith_114 : decode cX5_isSoWith 114 = .ok (.iinc 5 1, 3) := by decide +kernel
theorem dX5_isSoWith_117 : decode cX5_isSoWith 117 = .ok (.goto (-72), 3) := by decide +kernel
theorem dX5_isSoWith_120 : decode cX5_isSoWith 120 = .ok (.iload 4, 2) := by decide +kernel
theorem dX5_isSoWith_122 : decode cX5_isSoWith 122 = .ok (.ireturn, 1) := by decide +kernel
theorem dX5_which_0 : decode cX5_which 0 = .ok (.aload_n 0, 1) := by decide +kernel
theorem dX5_which_1 : decode cX5_which 1 = .ok (.iload_n 1, 1) := by decide +kernel
theorem dX5_which_2 : decode cX5_which 2 = .ok (.invokevirtual 192, 3) := by decide +kernel
theorem dX5_which_5 : decode cX5_which 5 = .ok (.ifCond .ne 5, 3) := by decide +kernel
theorem dX5_which_8 : decode cX5_which 8 = .ok (.iconst (-1), 1) := by decide +kernel
theorem dX5_which_9 : decode cX5_which 9 = .ok (.ireturn, 1) := by decide +kernel
theorem dX5_which_10 : decode cX5_which 10 = .ok (.iconst 0, 1) := by decide +kernel
theorem dX5_which_11 : decode cX5_which 11 = .ok (.istore_n 3, 1) := by decide +kernel
theorem dX5_which_12 : decode cX5_which 12 = .ok (.iload_n 2, 1) := by decide +kernel
theorem dX5_which_13 : decode cX5_which 13 = .ok (.invokestatic 202, 3) := by decide +kernel
theorem dX5_which_16 : decode cX5_which 16 = .ok (.istore 4, 2) := by decide +kernel
theorem dX5_which_18 : decode cX5_which 18 = .ok (.iload 4, 2) := by decide +kernel
theorem dX5_which_20 : decode cX5_which 20 = .ok (.iload_n 2, 1) := by decide +kernel
theorem dX5_which_21 : decode cX5_which 21 = .ok (.invokestatic 205, 3) := by decide +kernel
theorem dX5_which_24 : decode cX5_which 24 = .ok (.if_icmp .gt 26, 3) := by decide +kernel
theorem dX5_which_27 : decode cX5_which 27 = .ok (.iload_n 3, 1) := by decide +kernel
theorem dX5_which_28 : decode cX5_which 28 = .ok (.aload_n 0, 1) := by decide +kernel
theorem dX5_which_29 : decode cX5_which 29 = .ok (.iload_n 1, 1) := by decide +kernel
theorem dX5_which_30 : decode cX5_which 30 = .ok (.iload_n 2, 1) := by decide +kernel
theorem dX5_which_31 : decode cX5_which 31 = .ok (.iload 4, 2) := by decide +kernel
theorem dX5_which_33 : decode cX5_which 33 = .ok (.invokevirtual 300, 3) := by decide +kernel
theorem dX5_which_36 : decode cX5_which 36 = .ok (.invokestatic 236, 3) := by decide +kernel
theorem dX5_which_39 : decode cX5_which 39 = .ok (.iload 4, 2) := by decide +kernel
theorem dX5_which_41 : decode cX5_which 41 = .ok (.ishl, 1) := by decide +kernel
theorem dX5_which_42 : decode cX5_which 42 = .ok (.ior, 1) := by decide +kernel
theorem dX5_which_43 : decode cX5_which 43 = .ok (.istore_n 3, 1) := by decide +kernel
theorem dX5_which_44 : decode cX5_which 44 = .ok (.iinc 4 1, 3) := by decide +kernel
theorem dX5_which_47 : decode cX5_which 47 = .ok (.goto (-29), 3) := by decide +kernel
theorem dX5_which_50 : decode cX5_which 50 = .ok (.iload_n 3, 1) := by decide +kernel
theorem dX5_which_51 : decode cX5_which 51 = .ok (.ireturn, 1) := by decide +kernel
theorem dX5_kinds_0 : decode cX5_kinds 0 = .ok (.aload_n 0, 1) := by decide +kernel
theorem dX5_kinds_1 : decode cX5_kinds 1 = .ok (.iload_n 1, 1) := by decide +kernel
theorem dX5_kinds_2 : decode cX5_kinds 2 = .ok (.iconst 1, 1) := by decide +kernel
theorem dX5_kinds_3 : decode cX5_kinds 3 = .ok (.invokevirtual 304, 3) := by decide +kernel
theorem dX5_kinds_6 : decode cX5_kinds 6 = .ok (.ireturn, 1) := by decide +kernel
theorem dX5_numbers_0 : decode cX5_numbers 0 = .ok (.aload_n 0, 1) := by decide +kernel
theorem dX5_numbers_1 : decode cX5_numbers 1 = .ok (.iload_n 1, 1) := by decide +kernel
theorem dX5_numbers_2 : decode cX5_numbers 2 = .ok (.iconst 2, 1) := by decide +kernel
theorem dX5_numbers_3 : decode cX5_numbers 3 = .ok (.invokevirtual 304, 3) := by decide +kernel
theorem dX5_numbers_6 : decode cX5_numbers 6 = .ok (.ireturn, 1) := by decide +kernel
theorem dX5_bounces_0 : decode cX5_bounces 0 = .ok (.aload_n 0, 1) := by decide +kernel
theorem dX5_bounces_1 : decode cX5_bounces 1 = .ok (.iload_n 1, 1) := by decide +kernel
theorem dX5_bounces_2 : decode cX5_bounces 2 = .ok (.iconst 0, 1) := by decide +kernel
theorem dX5_bounces_3 : decode cX5_bounces 3 = .ok (.invokevirtual 304, 3) := by decide +kernel
theorem dX5_bounces_6 : decode cX5_bounces 6 = .ok (.ireturn, 1) := by decide +kernel
theorem dX5_ask_0 : decode cX5_ask 0 = .ok (.aload_n 0, 1) := by decide +kernel
theorem dX5_ask_1 : decode cX5_ask 1 = .ok (.iload_n 1, 1) := by decide +kernel
theorem dX5_ask_2 : decode cX5_ask 2 = .ok (.invokevirtual 192, 3) := by decide +kernel
theorem dX5_ask_5 : decode cX5_ask 5 = .ok (.ifCond .eq 10, 3) := by decide +kernel
theorem dX5_ask_8 : decode cX5_ask 8 = .ok (.iload_n 2, 1) := by decide +kernel
theorem dX5_ask_9 : decode cX5_ask 9 = .ok (.invokestatic 240, 3) := by decide +kernel
theorem dX5_ask_12 : decode cX5_ask 12 = .ok (.ifCond .ne 5, 3) := by decide +kernel
theorem dX5_ask_15 : decode cX5_ask 15 = .ok (.iconst (-1), 1) := by decide +kernel
theorem dX5_ask_16 : decode cX5_ask 16 = .ok (.ireturn, 1) := by decide +kernel
theorem dX5_ask_17 : decode cX5_ask 17 = .ok (.iconst 0, 1) := by decide +kernel
theorem dX5_ask_18 : decode cX5_ask 18 = .ok (.istore_n 3, 1) := by decide +kernel
theorem dX5_ask_19 : decode cX5_ask 19 = .ok (.iconst 0, 1) := by decide +kernel
theorem dX5_ask_20 : decode cX5_ask 20 = .ok (.istore 4, 2) := by decide +kernel
theorem dX5_ask_22 : decode cX5_ask 22 = .ok (.iload 4, 2) := by decide +kernel
theorem dX5_ask_24 : decode cX5_ask 24 = .ok (.bipush 40, 2) := by decide +kernel
theorem dX5_ask_26 : decode cX5_ask 26 = .ok (.if_icmp .gt 17, 3) := by decide +kernel
theorem dX5_ask_29 : decode cX5_ask 29 = .ok (.aload_n 0, 1) := by decide +kernel
theorem dX5_ask_30 : decode cX5_ask 30 = .ok (.getfield 32, 3) := by decide +kernel
theorem dX5_ask_33 : decode cX5_ask 33 = .ok (.iload 4, 2) := by decide +kernel
theorem dX5_ask_35 : decode cX5_ask 35 = .ok (.iconst 0, 1) := by decide +kernel
theorem dX5_ask_36 : decode cX5_ask 36 = .ok (.iastore, 1) := by decide +kernel
theorem dX5_ask_37 : decode cX5_ask 37 = .ok (.iinc 4 1, 3) := by decide +kernel
theorem dX5_ask_40 : decode cX5_ask 40 = .ok (.goto (-18), 3) := by decide +kernel
theorem dX5_ask_43 : decode cX5_ask 43 = .ok (.iconst 1, 1) := by decide +kernel
theorem dX5_ask_44 : decode cX5_ask 44 = .ok (.istore 4, 2) := by decide +kernel
theorem dX5_ask_46 : decode cX5_ask 46 = .ok (.iload 4, 2) := by decide +kernel
theorem dX5_ask_48 : decode cX5_ask 48 = .ok (.bipush 9, 2) := by decide +kernel
theorem dX5_ask_50 : decode cX5_ask 50 = .ok (.if_icmp .gt 60, 3) := by decide +kernel
theorem dX5_ask_53 : decode cX5_ask 53 = .ok (.aload_n 0, 1) := by decide +kernel
theorem dX5_ask_54 : decode cX5_ask 54 = .ok (.iload_n 1, 1) := by decide +kernel
theorem dX5_ask_55 : decode cX5_ask 55 = .ok (.iconst 2, 1) := by decide +kernel
theorem dX5_ask_56 : decode cX5_ask 56 = .ok (.iload 4, 2) := by decide +kernel
theorem dX5_ask_58 : decode cX5_ask 58 = .ok (.invokevirtual 300, 3) := by decide +kernel
theorem dX5_ask_61 : decode cX5_ask 61 = .ok (.ifCond .eq 43, 3) := by decide +kernel
theorem dX5_ask_64 : decode cX5_ask 64 = .ok (.iconst 0, 1) := by decide +kernel
theorem dX5_ask_65 : decode cX5_ask 65 = .ok (.istore 5, 2) := by decide +kernel
theorem dX5_ask_67 : decode cX5_ask 67 = .ok (.iload 5, 2) := by decide +kernel
theorem dX5_ask_69 : decode cX5_ask 69 = .ok (.bipush 40, 2) := by decide +kernel
theorem dX5_ask_71 : decode cX5_ask 71 = .ok (.if_icmp .gt 30, 3) := by decide +kernel
theorem dX5_ask_74 : decode cX5_ask 74 = .ok (.aload_n 0, 1) := by decide +kernel
theorem dX5_ask_75 : decode cX5_ask 75 = .ok (.getfield 32, 3) := by decide +kernel
theorem dX5_ask_78 : decode cX5_ask 78 = .ok (.iload 5, 2) := by decide +kernel
theorem dX5_ask_80 : decode cX5_ask 80 = .ok (.dup2, 1) := by decide +kernel
theorem dX5_ask_81 : decode cX5_ask 81 = .ok (.iaload, 1) := by decide +kernel
theorem dX5_ask_82 : decode cX5_ask 82 = .ok (.aload_n 0, 1) := by decide +kernel
theorem dX5_ask_83 : decode cX5_ask 83 = .ok (.getfield 29, 3) := by decide +kernel
theorem dX5_ask_86 : decode cX5_ask 86 = .ok (.iload 5, 2) := by decide +kernel
theorem dX5_ask_88 : decode cX5_ask 88 = .ok (.iaload, 1) := by decide +kernel
theorem dX5_ask_89 : decode cX5_ask 89 = .ok (.iload_n 1, 1) := by decide +kernel
theorem dX5_ask_90 : decode cX5_ask 90 = .ok (.ishr, 1) := by decide +kernel
theorem dX5_ask_91 : decode cX5_ask 91 = .ok (.iconst 1, 1) := by decide +kernel
theorem dX5_ask_92 : decode cX5_ask 92 = .ok (.iand, 1) := by decide +kernel
theorem dX5_ask_93 : decode cX5_ask 93 = .ok (.iadd, 1) := by decide +kernel
theorem dX5_ask_94 : decode cX5_ask 94 = .ok (.iastore, 1) := by decide +kernel
theorem dX5_ask_95 : decode cX5_ask 95 = .ok (.iinc 5 1, 3) := by decide +kernel
theorem dX5_ask_98 : decode cX5_ask 98 = .ok (.goto (-31), 3) := by decide +kernel
theorem dX5_ask_101 : decode cX5_ask 101 = .ok (.iinc 3 1, 3) := by decide +kernel
theorem dX5_ask_104 : decode cX5_ask 104 = .ok (.iinc 4 1, 3) := by decide +kernel
theorem dX5_ask_107 : decode cX5_ask 107 = .ok (.goto (-61), 3) := by decide +kernel
theorem dX5_ask_110 : decode cX5_ask 110 = .ok (.aload_n 0, 1) := by decide +kernel
theorem dX5_ask_111 : decode cX5_ask 111 = .ok (.iload_n 3, 1) := by decide +kernel
theorem dX5_ask_112 : decode cX5_ask 112 = .ok (.invokevirtual 262, 3) := by decide +kernel
theorem dX5_ask_115 : decode cX5_ask 115 = .ok (.iconst 0, 1) := by decide +kernel
theorem dX5_ask_116 : decode cX5_ask 116 = .ok (.istore 4, 2) := by decide +kernel
theorem dX5_ask_118 : decode cX5_ask 118 = .ok (.iload 4, 2) := by decide +kernel
theorem dX5_ask_120 : decode cX5_ask 120 = .ok (.bipush 40, 2) := by decide +kernel
theorem dX5_ask_122 : decode cX5_ask 122 = .ok (.if_icmp .gt 53, 3) := by decide +kernel
theorem dX5_ask_125 : decode cX5_ask 125 = .ok (.aload_n 0, 1) := by decide +kernel
theorem dX5_ask_126 : decode cX5_ask 126 = .ok (.iload 4, 2) := by decide +kernel
theorem dX5_ask_128 : decode cX5_ask 128 = .ok (.aload_n 0, 1) := by decide +kernel
theorem dX5_ask_129 : decode cX5_ask 129 = .ok (.getfield 32, 3) := by decide +kernel
theorem dX5_ask_132 : decode cX5_ask 132 = .ok (.iload 4, 2) := by decide +kernel
theorem dX5_ask_134 : decode cX5_ask 134 = .ok (.iaload, 1) := by decide +kernel
theorem dX5_ask_135 : decode cX5_ask 135 = .ok (.iload_n 3, 1) := by decide +kernel
theorem dX5_ask_136 : decode cX5_ask 136 = .ok (.aload_n 0, 1) := by decide +kernel
theorem dX5_ask_137 : decode cX5_ask 137 = .ok (.getfield 32, 3) := by decide +kernel
theorem dX5_ask_140 : decode cX5_ask 140 = .ok (.iload 4, 2) := by decide +kernel
theorem dX5_ask_142 : decode cX5_ask 142 = .ok (.iaload, 1) := by decide +kernel
theorem dX5_ask_143 : decode cX5_ask 143 = .ok (.isub, 1) := by decide +kernel
theorem dX5_ask_144 : decode cX5_ask 144 = .ok (.if_icmp .le 13, 3) := by decide +kernel
theorem dX5_ask_147 : decode cX5_ask 147 = .ok (.aload_n 0, 1) := by decide +kernel
theorem dX5_ask_148 : decode cX5_ask 148 = .ok (.getfield 32, 3) := by decide +kernel
theorem dX5_ask_151 : decode cX5_ask 151 = .ok (.iload 4, 2) := by decide +kernel
theorem dX5_ask_153 : decode cX5_ask 153 = .ok (.iaload, 1) := by decide +kernel
theorem dX5_ask_154 : decode cX5_ask 154 = .ok (.goto 12, 3) := by decide +kernel
theorem dX5_ask_157 : decode cX5_ask 157 = .ok (.iload_n 3, 1) := by decide +kernel
theorem dX5_ask_158 : decode cX5_ask 158 = .ok (.aload_n 0, 1) := by decide +kernel
theorem dX5_ask_159 : decode cX5_ask 159 = .ok (.getfield 32, 3) := by decide +kernel
theorem dX5_ask_162 : decode cX5_ask 162 = .ok (.iload 4, 2) := by decide +kernel
theorem dX5_ask_164 : decode cX5_ask 164 = .ok (.iaload, 1) := by decide +kernel
theorem dX5_ask_165 : decode cX5_ask 165 = .ok (.isub, 1) := by decide +kernel
theorem dX5_ask_166 : decode cX5_ask 166 = .ok (.invokevirtual 268, 3) := by decide +kernel
theorem dX5_ask_169 : decode cX5_ask 169 = .ok (.iinc 4 1, 3) := by decide +kernel
theorem dX5_ask_172 : decode cX5_ask 172 = .ok (.goto (-54), 3) := by decide +kernel
theorem dX5_ask_175 : decode cX5_ask 175 = .ok (.aload_n 0, 1) := by decide +kernel
theorem dX5_ask_176 : decode cX5_ask 176 = .ok (.getfield 246, 3) := by decide +kernel
theorem dX5_ask_179 : decode cX5_ask 179 = .ok (.bipush (-4), 2) := by decide +kernel
theorem dX5_ask_181 : decode cX5_ask 181 = .ok (.if_icmp .ne 8, 3) := by decide +kernel
theorem dX5_ask_184 : decode cX5_ask 184 = .ok (.bipush (-4), 2) := by decide +kernel
theorem dX5_ask_186 : decode cX5_ask 186 = .ok (.goto 18, 3) := by decide +kernel
theorem dX5_ask_189 : decode cX5_ask 189 = .ok (.iload_n 2, 1) := by decide +kernel
theorem dX5_ask_190 : decode cX5_ask 190 = .ok (.ifCond .ne 10, 3) := by decide +kernel
theorem dX5_ask_193 : decode cX5_ask 193 = .ok (.aload_n 0, 1) := by decide +kernel
theorem dX5_ask_194 : decode cX5_ask 194 = .ok (.getfield 246, 3) := by decide +kernel
theorem dX5_ask_197 : decode cX5_ask 197 = .ok (.goto 7, 3) := by decide +kernel
theorem dX5_ask_200 : decode cX5_ask 200 = .ok (.aload_n 0, 1) := by decide +kernel
theorem dX5_ask_201 : decode cX5_ask 201 = .ok (.getfield 249, 3) := by decide +kernel
theorem dX5_ask_204 : decode cX5_ask 204 = .ok (.ireturn, 1) := by decide +kernel
theorem dX5_drift_0 : decode cX5_drift 0 = .ok (.iload_n 2, 1) := by decide +kernel
theorem dX5_drift_1 : decode cX5_drift 1 = .ok (.i2l, 1) := by decide +kernel
theorem dX5_drift_2 : decode cX5_drift 2 = .ok (.lconst 1, 1) := by decide +kernel
theorem dX5_drift_3 : decode cX5_drift 3 = .ok (.ldc2_w 229, 3) := by decide +kernel
theorem dX5_drift_6 : decode cX5_drift 6 = .ok (.invokestatic 63, 3) := by decide +kernel
theorem dX5_drift_9 : decode cX5_drift 9 = .ok (.ifCond .eq 10, 3) := by decide +kernel
theorem dX5_drift_12 : decode cX5_drift 12 = .ok (.iload_n 3, 1) := by decide +kernel
theorem dX5_drift_13 : decode cX5_drift 13 = .ok (.invokestatic 240, 3) := by decide +kernel
theorem dX5_drift_16 : decode cX5_drift 16 = .ok (.ifCond .ne 5, 3) := by decide +kernel
theorem dX5_drift_19 : decode cX5_drift 19 = .ok (.iconst (-1), 1) := by decide +kernel
theorem dX5_drift_20 : decode cX5_drift 20 = .ok (.ireturn, 1) := by decide +kernel
theorem dX5_drift_21 : decode cX5_drift 21 = .ok (.aload_n 0, 1) := by decide +kernel
theorem dX5_drift_22 : decode cX5_drift 22 = .ok (.getfield 7, 3) := by decide +kernel
theorem dX5_drift_25 : decode cX5_drift 25 = .ok (.bipush 28, 2) := by decide +kernel
theorem dX5_drift_27 : decode cX5_drift 27 = .ok (.iaload, 1) := by decide +kernel
theorem dX5_drift_28 : decode cX5_drift 28 = .ok (.ifCond .ne 6, 3) := by decide +kernel
theorem dX5_drift_31 : decode cX5_drift 31 = .ok (.bipush (-2), 2) := by decide +kernel
theorem dX5_drift_33 : decode cX5_drift 33 = .ok (.ireturn, 1) := by decide +kernel
theorem dX5_drift_34 : decode cX5_drift 34 = .ok (.iload_n 1, 1) := by decide +kernel
theorem dX5_drift_35 : decode cX5_drift 35 = .ok (.istore 4, 2) := by decide +kernel
theorem dX5_drift_37 : decode cX5_drift 37 = .ok (.aload_n 0, 1) := by decide +kernel
theorem dX5_drift_38 : decode cX5_drift 38 = .ok (.invokevirtual 183, 3) := by decide +kernel
theorem dX5_drift_41 : decode cX5_drift 41 = .ok (.iconst 0, 1) := by decide +kernel
theorem dX5_drift_42 : decode cX5_drift 42 = .ok (.istore 5, 2) := by decide +kernel
theorem dX5_drift_44 : decode cX5_drift 44 = .ok (.iload 5, 2) := by decide +kernel
theorem dX5_drift_46 : decode cX5_drift 46 = .ok (.iload_n 2, 1) := by decide +kernel
theorem dX5_drift_47 : decode cX5_drift 47 = .ok (.if_icmp .ge 33, 3) := by decide +kernel
theorem dX5_drift_50 : decode cX5_drift 50 = .ok (.iload 4, 2) := by decide +kernel
theorem dX5_drift_52 : decode cX5_drift 52 = .ok (.ldc_w 307, 3) := by decide +kernel
theorem dX5_drift_55 : decode cX5_drift 55 = .ok (.imul, 1) := by decide +kernel
theorem dX5_drift_56 : decode cX5_drift 56 = .ok (.sipush 12345, 3) := by decide +kernel
theorem dX5_drift_59 : decode cX5_drift 59 = .ok (.iadd, 1) := by decide +kernel
theorem dX5_drift_60 : decode cX5_drift 60 = .ok (.istore 4, 2) := by decide +kernel
theorem dX5_drift_62 : decode cX5_drift 62 = .ok (.aload_n 0, 1) := by decide +kernel
theorem dX5_drift_63 : decode cX5_drift 63 = .ok (.iload 4, 2) := by decide +kernel
theorem dX5_drift_65 : decode cX5_drift 65 = .ok (.bipush 16, 2) := by decide +kernel
theorem dX5_drift_67 : decode cX5_drift 67 = .ok (.ishr, 1) := by decide +kernel
theorem dX5_drift_68 : decode cX5_drift 68 = .ok (.bipush 15, 2) := by decide +kernel
theorem dX5_drift_70 : decode cX5_drift 70 = .ok (.iand, 1) := by decide +kernel
theorem dX5_drift_71 : decode cX5_drift 71 = .ok (.invokevirtual 180, 3) := by decide +kernel
theorem dX5_drift_74 : decode cX5_drift 74 = .ok (.iinc 5 1, 3) := by decide +kernel
theorem dX5_drift_77 : decode cX5_drift 77 = .ok (.goto (-33), 3) := by decide +kernel
theorem dX5_drift_80 : decode cX5_drift 80 = .ok (.iload_n 3, 1) := by decide +kernel
theorem dX5_drift_81 : decode cX5_drift 81 = .ok (.ifCond .ne 10, 3) := by decide +kernel
theorem dX5_drift_84 : decode cX5_drift 84 = .ok (.aload_n 0, 1) := by decide +kernel
theorem dX5_drift_85 : decode cX5_drift 85 = .ok (.invokevirtual 226, 3) := by decide +kernel
theorem dX5_drift_88 : decode cX5_drift 88 = .ok (.goto 7, 3) := by decide +kernel
theorem dX5_drift_91 : decode cX5_drift 91 = .ok (.aload_n 0, 1) := by decide +kernel
theorem dX5_drift_92 : decode cX5_drift 92 = .ok (.invokevirtual 186, 3) := by decide +kernel
theorem dX5_drift_95 : decode cX5_drift 95 = .ok (.ireturn, 1) := by decide +kernel
theorem dX5_copies_0 : decode cX5_copies 0 = .ok (.iconst 0, 1) := by decide +kernel
theorem dX5_copies_1 : decode cX5_copies 1 = .ok (.istore_n 3, 1) := by decide +kernel
theorem dX5_copies_2 : decode cX5_copies 2 = .ok (.iload_n 3, 1) := by decide +kernel
theorem dX5_copies_3 : decode cX5_copies 3 = .ok (.bipush 75, 2) := by decide +kernel
theorem dX5_copies_5 : decode cX5_copies 5 = .ok (.if_icmp .ge 25, 3) := by decide +kernel
theorem dX5_copies_8 : decode cX5_copies 8 = .ok (.aload_n 0, 1) := by decide +kernel
theorem dX5_copies_9 : decode cX5_copies 9 = .ok (.getfield 7, 3) := by decide +kernel
theorem dX5_copies_12 : decode cX5_copies 12 = .ok (.iload_n 1, 1) := by decide +kernel
theorem dX5_copies_13 : decode cX5_copies 13 = .ok (.iload_n 3, 1) := by decide +kernel
theorem dX5_copies_14 : decode cX5_copies 14 = .ok (.iadd, 1) := by decide +kernel
theorem dX5_copies_15 : decode cX5_copies 15 = .ok (.aload_n 0, 1) := by decide +kernel
theorem dX5_copies_16 : decode cX5_copies 16 = .ok (.getfield 7, 3) := by decide +kernel
theorem dX5_copies_19 : decode cX5_copies 19 = .ok (.iload_n 2, 1) := by decide +kernel
theorem dX5_copies_20 : decode cX5_copies 20 = .ok (.iload_n 3, 1) := by decide +kernel
theorem dX5_copies_21 : decode cX5_copies 21 = .ok (.iadd, 1) := by decide +kernel
theorem dX5_copies_22 : decode cX5_copies 22 = .ok (.iaload, 1) := by decide +kernel
theorem dX5_copies_23 : decode cX5_copies 23 = .ok (.iastore, 1) := by decide +kernel
theorem dX5_copies_24 : decode cX5_copies 24 = .ok (.iinc 3 1, 3) := by decide +kernel
theorem dX5_copies_27 : decode cX5_copies 27 = .ok (.goto (-25), 3) := by decide +kernel
theorem dX5_copies_30 : decode cX5_copies 30 = .ok (.return_, 1) := by decide +kernel
theorem dX5_keep_0 : decode cX5_keep 0 = .ok (.iload_n 1, 1) := by decide +kernel
theorem dX5_keep_1 : decode cX5_keep 1 = .ok (.i2l, 1) := by decide +kernel
theorem dX5_keep_2 : decode cX5_keep 2 = .ok (.lconst 0, 1) := by decide +kernel
theorem dX5_keep_3 : decode cX5_keep 3 = .ok (.lconst 1, 1) := by decide +kernel
theorem dX5_keep_4 : decode cX5_keep 4 = .ok (.invokestatic 63, 3) := by decide +kernel
theorem dX5_keep_7 : decode cX5_keep 7 = .ok (.ifCond .ne 5, 3) := by decide +kernel
theorem dX5_keep_10 : decode cX5_keep 10 = .ok (.iconst (-1), 1) := by decide +kernel
theorem dX5_keep_11 : decode cX5_keep 11 = .ok (.ireturn, 1) := by decide +kernel
theorem dX5_keep_12 : decode cX5_keep 12 = .ok (.aload_n 0, 1) := by decide +kernel
theorem dX5_keep_13 : decode cX5_keep 13 = .ok (.getfield 16, 3) := by decide +kernel
theorem dX5_keep_16 : decode cX5_keep 16 = .ok (.iload_n 1, 1) := by decide +kernel
theorem dX5_keep_17 : decode cX5_keep 17 = .ok (.baload, 1) := by decide +kernel
theorem dX5_keep_18 : decode cX5_keep 18 = .ok (.invokestatic 236, 3) := by decide +kernel
theorem dX5_keep_21 : decode cX5_keep 21 = .ok (.istore_n 2, 1) := by decide +kernel
theorem dX5_keep_22 : decode cX5_keep 22 = .ok (.aload_n 0, 1) := by decide +kernel
theorem dX5_keep_23 : decode cX5_keep 23 = .ok (.getfield 16, 3) := by decide +kernel
theorem dX5_keep_26 : decode cX5_keep 26 = .ok (.iload_n 1, 1) := by decide +kernel
theorem dX5_keep_27 : decode cX5_keep 27 = .ok (.iconst 1, 1) := by decide +kernel
theorem dX5_keep_28 : decode cX5_keep 28 = .ok (.bastore, 1) := by decide +kernel
theorem dX5_keep_29 : decode cX5_keep 29 = .ok (.aload_n 0, 1) := by decide +kernel
theorem dX5_keep_30 : decode cX5_keep 30 = .ok (.bipush 75, 2) := by decide +kernel
theorem dX5_keep_32 : decode cX5_keep 32 = .ok (.iload_n 1, 1) := by decide +kernel
theorem dX5_keep_33 : decode cX5_keep 33 = .ok (.iconst 1, 1) := by decide +kernel
theorem dX5_keep_34 : decode cX5_keep 34 = .ok (.iadd, 1) := by decide +kernel
theorem dX5_keep_35 : decode cX5_keep 35 = .ok (.imul, 1) := by decide +kernel
theorem dX5_keep_36 : decode cX5_keep 36 = .ok (.iconst 0, 1) := by decide +kernel
theorem dX5_keep_37 : decode cX5_keep 37 = .ok (.invokevirtual 308, 3) := by decide +kernel
theorem dX5_keep_40 : decode cX5_keep 40 = .ok (.iload_n 2, 1) := by decide +kernel
theorem dX5_keep_41 : decode cX5_keep 41 = .ok (.ireturn, 1) := by decide +kernel
theorem dX5_back_0 : decode cX5_back 0 = .ok (.iload_n 1, 1) := by decide +kernel
theorem dX5_back_1 : decode cX5_back 1 = .ok (.i2l, 1) := by decide +kernel
theorem dX5_back_2 : decode cX5_back 2 = .ok (.lconst 0, 1) := by decide +kernel
theorem dX5_back_3 : decode cX5_back 3 = .ok (.lconst 1, 1) := by decide +kernel
theorem dX5_back_4 : decode cX5_back 4 = .ok (.invokestatic 63, 3) := by decide +kernel
theorem dX5_back_7 : decode cX5_back 7 = .ok (.ifCond .ne 5, 3) := by decide +kernel
theorem dX5_back_10 : decode cX5_back 10 = .ok (.iconst (-1), 1) := by decide +kernel
theorem dX5_back_11 : decode cX5_back 11 = .ok (.ireturn, 1) := by decide +kernel
theorem dX5_back_12 : decode cX5_back 12 = .ok (.aload_n 0, 1) := by decide +kernel
theorem dX5_back_13 : decode cX5_back 13 = .ok (.getfield 16, 3) := by decide +kernel
theorem dX5_back_16 : decode cX5_back 16 = .ok (.iload_n 1, 1) := by decide +kernel
theorem dX5_back_17 : decode cX5_back 17 = .ok (.baload, 1) := by decide +kernel
theorem dX5_back_18 : decode cX5_back 18 = .ok (.ifCond .ne 6, 3) := by decide +kernel
theorem dX5_back_21 : decode cX5_back 21 = .ok (.bipush (-2), 2) := by decide +kernel
theorem dX5_back_23 : decode cX5_back 23 = .ok (.ireturn, 1) := by decide +kernel
theorem dX5_back_24 : decode cX5_back 24 = .ok (.aload_n 0, 1) := by decide +kernel
theorem dX5_back_25 : decode cX5_back 25 = .ok (.iconst 0, 1) := by decide +kernel
theorem dX5_back_26 : decode cX5_back 26 = .ok (.bipush 75, 2) := by decide +kernel
theorem dX5_back_28 : decode cX5_back 28 = .ok (.iload_n 1, 1) := by decide +kernel
theorem dX5_back_29 : decode cX5_back 29 = .ok (.iconst 1, 1) := by decide +kernel
theorem dX5_back_30 : decode cX5_back 30 = .ok (.iadd, 1) := by decide +kernel
theorem dX5_back_31 : decode cX5_back 31 = .ok (.imul, 1) := by decide +kernel
theorem dX5_back_32 : decode cX5_back 32 = .ok (.invokevirtual 308, 3) := by decide +kernel
theorem dX5_back_35 : decode cX5_back 35 = .ok (.aload_n 0, 1) := by decide +kernel
theorem dX5_back_36 : decode cX5_back 36 = .ok (.getfield 7, 3) := by decide +kernel
theorem dX5_back_39 : decode cX5_back 39 = .ok (.bipush 55, 2) := by decide +kernel
theorem dX5_back_41 : decode cX5_back 41 = .ok (.iaload, 1) := by decide +kernel
theorem dX5_back_42 : decode cX5_back 42 = .ok (.ireturn, 1) := by decide +kernel
theorem dX5_isSheet_0 : decode cX5_isSheet 0 = .ok (.iload_n 0, 1) := by decide +kernel
theorem dX5_isSheet_1 : decode cX5_isSheet 1 = .ok (.i2l, 1) := by decide +kernel
theorem dX5_isSheet_2 : decode cX5_isSheet 2 = .ok (.lconst 0, 1) := by decide +kernel
theorem dX5_isSheet_3 : decode cX5_isSheet 3 = .ok (.ldc2_w 234, 3) := by decide +kernel
theorem dX5_isSheet_6 : decode cX5_isSheet 6 = .ok (.invokestatic 63, 3) := by decide +kernel
theorem dX5_isSheet_9 : decode cX5_isSheet 9 = .ok (.ifCond .eq 19, 3) := by decide +kernel
theorem dX5_isSheet_12 : decode cX5_isSheet 12 = .ok (.iload_n 1, 1) := by decide +kernel
theorem dX5_isSheet_13 : decode cX5_isSheet 13 = .ok (.i2l, 1) := by decide +kernel
theorem dX5_isSheet_14 : decode cX5_isSheet 14 = .ok (.lconst 0, 1) := by decide +kernel
theorem dX5_isSheet_15 : decode cX5_isSheet 15 = .ok (.ldc2_w 198, 3) := by decide +kernel
theorem dX5_isSheet_18 : decode cX5_isSheet 18 = .ok (.invokestatic 63, 3) := by decide +kernel
theorem dX5_isSheet_21 : decode cX5_isSheet 21 = .ok (.ifCond .eq 7, 3) := by decide +kernel
theorem dX5_isSheet_24 : decode cX5_isSheet 24 = .ok (.iconst 1, 1) := by decide +kernel
theorem dX5_isSheet_25 : decode cX5_isSheet 25 = .ok (.goto 4, 3) := by decide +kernel
theorem dX5_isSheet_28 : decode cX5_isSheet 28 = .ok (.iconst 0, 1) := by decide +kernel
theorem dX5_isSheet_29 : decode cX5_isSheet 29 = .ok (.ireturn, 1) := by decide +kernel
theorem dX5_sheet_0 : decode cX5_sheet 0 = .ok (.iload_n 1, 1) := by decide +kernel
theorem dX5_sheet_1 : decode cX5_sheet 1 = .ok (.iload_n 2, 1) := by decide +kernel
theorem dX5_sheet_2 : decode cX5_sheet 2 = .ok (.invokestatic 311, 3) := by decide +kernel
theorem dX5_sheet_5 : decode cX5_sheet 5 = .ok (.ifCond .eq 9, 3) := by decide +kernel
theorem dX5_sheet_8 : decode cX5_sheet 8 = .ok (.iload_n 3, 1) := by decide +kernel
theorem dX5_sheet_9 : decode cX5_sheet 9 = .ok (.bipush 40, 2) := by decide +kernel
theorem dX5_sheet_11 : decode cX5_sheet 11 = .ok (.if_icmp .le 5, 3) := by decide +kernel
theorem dX5_sheet_14 : decode cX5_sheet 14 = .ok (.iconst (-1), 1) := by decide +kernel
theorem dX5_sheet_15 : decode cX5_sheet 15 = .ok (.ireturn, 1) := by decide +kernel
theorem dX5_sheet_16 : decode cX5_sheet 16 = .ok (.iload_n 3, 1) := by decide +kernel
theorem dX5_sheet_17 : decode cX5_sheet 17 = .ok (.ifCond .ge 6, 3) := by decide +kernel
theorem dX5_sheet_20 : decode cX5_sheet 20 = .ok (.bipush (-14), 2) := by decide +kernel
theorem dX5_sheet_22 : decode cX5_sheet 22 = .ok (.ireturn, 1) := by decide +kernel
theorem dX5_sheet_23 : decode cX5_sheet 23 = .ok (.aload_n 0, 1) := by decide +kernel
theorem dX5_sheet_24 : decode cX5_sheet 24 = .ok (.getfield 35, 3) := by decide +kernel
theorem dX5_sheet_27 : decode cX5_sheet 27 = .ok (.iload_n 1, 1) := by decide +kernel
theorem dX5_sheet_28 : decode cX5_sheet 28 = .ok (.iload_n 2, 1) := by decide +kernel
theorem dX5_sheet_29 : decode cX5_sheet 29 = .ok (.iastore, 1) := by decide +kernel
theorem dX5_sheet_30 : decode cX5_sheet 30 = .ok (.aload_n 0, 1) := by decide +kernel
theorem dX5_sheet_31 : decode cX5_sheet 31 = .ok (.getfield 38, 3) := by decide +kernel
theorem dX5_sheet_34 : decode cX5_sheet 34 = .ok (.iload_n 1, 1) := by decide +kernel
theorem dX5_sheet_35 : decode cX5_sheet 35 = .ok (.iload_n 3, 1) := by decide +kernel
theorem dX5_sheet_36 : decode cX5_sheet 36 = .ok (.iastore, 1) := by decide +kernel
theorem dX5_sheet_37 : decode cX5_sheet 37 = .ok (.iconst 0, 1) := by decide +kernel
theorem dX5_sheet_38 : decode cX5_sheet 38 = .ok (.istore 4, 2) := by decide +kernel
theorem dX5_sheet_40 : decode cX5_sheet 40 = .ok (.iload 4, 2) := by decide +kernel
theorem dX5_sheet_42 : decode cX5_sheet 42 = .ok (.bipush 40, 2) := by decide +kernel
theorem dX5_sheet_44 : decode cX5_sheet 44 = .ok (.if_icmp .ge 22, 3) := by decide +kernel
theorem dX5_sheet_47 : decode cX5_sheet 47 = .ok (.aload_n 0, 1) := by decide +kernel
theorem dX5_sheet_48 : decode cX5_sheet 48 = .ok (.getfield 41, 3) := by decide +kernel
theorem dX5_sheet_51 : decode cX5_sheet 51 = .ok (.bipush 40, 2) := by decide +kernel
theorem dX5_sheet_53 : decode cX5_sheet 53 = .ok (.iload_n 1, 1) := by decide +kernel
theorem dX5_sheet_54 : decode cX5_sheet 54 = .ok (.imul, 1) := by decide +kernel
theorem dX5_sheet_55 : decode cX5_sheet 55 = .ok (.iload 4, 2) := by decide +kernel
theorem dX5_sheet_57 : decode cX5_sheet 57 = .ok (.iadd, 1) := by decide +kernel
theorem dX5_sheet_58 : decode cX5_sheet 58 = .ok (.iconst 0, 1) := by decide +kernel
theorem dX5_sheet_59 : decode cX5_sheet 59 = .ok (.iastore, 1) := by decide +kernel
theorem dX5_sheet_60 : decode cX5_sheet 60 = .ok (.iinc 4 1, 3) := by decide +kernel
theorem dX5_sheet_63 : decode cX5_sheet 63 = .ok (.goto (-23), 3) := by decide +kernel
theorem dX5_sheet_66 : decode cX5_sheet 66 = .ok (.iconst 1, 1) := by decide +kernel
theorem dX5_sheet_67 : decode cX5_sheet 67 = .ok (.ireturn, 1) := by decide +kernel
theorem dX5_lay_0 : decode cX5_lay 0 = .ok (.iload_n 1, 1) := by decide +kernel
theorem dX5_lay_1 : decode cX5_lay 1 = .ok (.iconst 0, 1) := by decide +kernel
theorem dX5_lay_2 : decode cX5_lay 2 = .ok (.invokestatic 311, 3) := by decide +kernel
theorem dX5_lay_5 : decode cX5_lay 5 = .ok (.ifCond .ne 5, 3) := by decide +kernel
theorem dX5_lay_8 : decode cX5_lay 8 = .ok (.iconst (-1), 1) := by decide +kernel
theorem dX5_lay_9 : decode cX5_lay 9 = .ok (.ireturn, 1) := by decide +kernel
theorem dX5_lay_10 : decode cX5_lay 10 = .ok (.aload_n 0, 1) := by decide +kernel
theorem dX5_lay_11 : decode cX5_lay 11 = .ok (.getfield 35, 3) := by decide +kernel
theorem dX5_lay_14 : decode cX5_lay 14 = .ok (.iload_n 1, 1) := by decide +kernel
theorem dX5_lay_15 : decode cX5_lay 15 = .ok (.iaload, 1) := by decide +kernel
theorem dX5_lay_16 : decode cX5_lay 16 = .ok (.bipush (-4), 2) := by decide +kernel
theorem dX5_lay_18 : decode cX5_lay 18 = .ok (.if_icmp .ne 6, 3) := by decide +kernel
theorem dX5_lay_21 : decode cX5_lay 21 = .ok (.bipush (-11), 2) := by decide +kernel
theorem dX5_lay_23 : decode cX5_lay 23 = .ok (.ireturn, 1) := by decide +kernel
theorem dX5_lay_24 : decode cX5_lay 24 = .ok (.iload_n 2, 1) := by decide +kernel
theorem dX5_lay_25 : decode cX5_lay 25 = .ok (.i2l, 1) := by decide +kernel
theorem dX5_lay_26 : decode cX5_lay 26 = .ok (.lconst 0, 1) := by decide +kernel
theorem dX5_lay_27 : decode cX5_lay 27 = .ok (.aload_n 0, 1) := by decide +kernel
theorem dX5_lay_28 : decode cX5_lay 28 = .ok (.getfield 38, 3) := by decide +kernel
theorem dX5_lay_31 : decode cX5_lay 31 = .ok (.iload_n 1, 1) := by decide +kernel
theorem dX5_lay_32 : decode cX5_lay 32 = .ok (.iaload, 1) := by decide +kernel
theorem dX5_lay_33 : decode cX5_lay 33 = .ok (.iconst 1, 1) := by decide +kernel
theorem dX5_lay_34 : decode cX5_lay 34 = .ok (.isub, 1) := by decide +kernel
theorem dX5_lay_35 : decode cX5_lay 35 = .ok (.i2l, 1) := by decide +kernel
theorem dX5_lay_36 : decode cX5_lay 36 = .ok (.invokestatic 63, 3) := by decide +kernel
theorem dX5_lay_39 : decode cX5_lay 39 = .ok (.ifCond .ne 6, 3) := by decide +kernel
theorem dX5_lay_42 : decode cX5_lay 42 = .ok (.bipush (-12), 2) := by decide +kernel
theorem dX5_lay_44 : decode cX5_lay 44 = .ok (.ireturn, 1) := by decide +kernel
theorem dX5_lay_45 : decode cX5_lay 45 = .ok (.aload_n 0, 1) := by decide +kernel
theorem dX5_lay_46 : decode cX5_lay 46 = .ok (.getfield 41, 3) := by decide +kernel
theorem dX5_lay_49 : decode cX5_lay 49 = .ok (.bipush 40, 2) := by decide +kernel
theorem dX5_lay_51 : decode cX5_lay 51 = .ok (.iload_n 1, 1) := by decide +kernel
theorem dX5_lay_52 : decode cX5_lay 52 = .ok (.imul, 1) := by decide +kernel
theorem dX5_lay_53 : decode cX5_lay 53 = .ok (.iload_n 2, 1) := by decide +kernel
theorem dX5_lay_54 : decode cX5_lay 54 = .ok (.iadd, 1) := by decide +kernel
theorem dX5_lay_55 : decode cX5_lay 55 = .ok (.aload_n 0, 1) := by decide +kernel
theorem dX5_lay_56 : decode cX5_lay 56 = .ok (.getfield 35, 3) := by decide +kernel
theorem dX5_lay_59 : decode cX5_lay 59 = .ok (.iload_n 1, 1) := by decide +kernel
theorem dX5_lay_60 : decode cX5_lay 60 = .ok (.iaload, 1) := by decide +kernel
theorem dX5_lay_61 : decode cX5_lay 61 = .ok (.ifCond .ne 8, 3) := by decide +kernel
theorem dX5_lay_64 : decode cX5_lay 64 = .ok (.iload_n 3, 1) := by decide +kernel
theorem dX5_lay_65 : decode cX5_lay 65 = .ok (.i2b, 1) := by decide +kernel
theorem dX5_lay_66 : decode cX5_lay 66 = .ok (.goto 19, 3) := by decide +kernel
theorem dX5_lay_69 : decode cX5_lay 69 = .ok (.aload_n 0, 1) := by decide +kernel
theorem dX5_lay_70 : decode cX5_lay 70 = .ok (.getfield 35, 3) := by decide +kernel
theorem dX5_lay_73 : decode cX5_lay 73 = .ok (.iload_n 1, 1) := by decide +kernel
theorem dX5_lay_74 : decode cX5_lay 74 = .ok (.iaload, 1) := by decide +kernel
theorem dX5_lay_75 : decode cX5_lay 75 = .ok (.iconst 1, 1) := by decide +kernel
theorem dX5_lay_76 : decode cX5_lay 76 = .ok (.if_icmp .ne 8, 3) := by decide +kernel
theorem dX5_lay_79 : decode cX5_lay 79 = .ok (.iload_n 3, 1) := by decide +kernel
theorem dX5_lay_80 : decode cX5_lay 80 = .ok (.i2s, 1) := by decide +kernel
theorem dX5_lay_81 : decode cX5_lay 81 = .ok (.goto 4, 3) := by decide +kernel
theorem dX5_lay_84 : decode cX5_lay 84 = .ok (.iload_n 3, 1) := by decide +kernel
theorem dX5_lay_85 : decode cX5_lay 85 = .ok (.iastore, 1) := by decide +kernel
theorem dX5_lay_86 : decode cX5_lay 86 = .ok (.iconst 1, 1) := by decide +kernel
theorem dX5_lay_87 : decode cX5_lay 87 = .ok (.ireturn, 1) := by decide +kernel
theorem dX5_read_0 : decode cX5_read 0 = .ok (.iload_n 1, 1) := by decide +kernel
theorem dX5_read_1 : decode cX5_read 1 = .ok (.iload_n 2, 1) := by decide +kernel
theorem dX5_read_2 : decode cX5_read 2 = .ok (.invokestatic 311, 3) := by decide +kernel
theorem dX5_read_5 : decode cX5_read 5 = .ok (.ifCond .eq 16, 3) := by decide +kernel
theorem dX5_read_8 : decode cX5_read 8 = .ok (.iload 4, 2) := by decide +kernel
theorem dX5_read_10 : decode cX5_read 10 = .ok (.i2l, 1) := by decide +kernel
theorem dX5_read_11 : decode cX5_read 11 = .ok (.lconst 0, 1) := by decide +kernel
theorem dX5_read_12 : decode cX5_read 12 = .ok (.ldc2_w 314, 3) := by decide +kernel
theorem dX5_read_15 : decode cX5_read 15 = .ok (.invokestatic 63, 3) := by decide +kernel
theorem dX5_read_18 : decode cX5_read 18 = .ok (.ifCond .ne 5, 3) := by decide +kernel
theorem dX5_read_21 : decode cX5_read 21 = .ok (.iconst (-1), 1) := by decide +kernel
theorem dX5_read_22 : decode cX5_read 22 = .ok (.ireturn, 1) := by decide +kernel
theorem dX5_read_23 : decode cX5_read 23 = .ok (.iconst 0, 1) := by decide +kernel
theorem dX5_read_24 : decode cX5_read 24 = .ok (.istore 5, 2) := by decide +kernel
theorem dX5_read_26 : decode cX5_read 26 = .ok (.iload 5, 2) := by decide +kernel
theorem dX5_read_28 : decode cX5_read 28 = .ok (.bipush 75, 2) := by decide +kernel
theorem dX5_read_30 : decode cX5_read 30 = .ok (.if_icmp .ge 23, 3) := by decide +kernel
theorem dX5_read_33 : decode cX5_read 33 = .ok (.aload_n 0, 1) := by decide +kernel
theorem dX5_read_34 : decode cX5_read 34 = .ok (.getfield 44, 3) := by decide +kernel
theorem dX5_read_37 : decode cX5_read 37 = .ok (.iload 5, 2) := by decide +kernel
theorem dX5_read_39 : decode cX5_read 39 = .ok (.aload_n 0, 1) := by decide +kernel
theorem dX5_read_40 : decode cX5_read 40 = .ok (.getfield 7, 3) := by decide +kernel
theorem dX5_read_43 : decode cX5_read 43 = .ok (.iload 5, 2) := by decide +kernel
theorem dX5_read_45 : decode cX5_read 45 = .ok (.iaload, 1) := by decide +kernel
theorem dX5_read_46 : decode cX5_read 46 = .ok (.iastore, 1) := by decide +kernel
theorem dX5_read_47 : decode cX5_read 47 = .ok (.iinc 5 1, 3) := by decide +kernel
theorem dX5_read_50 : decode cX5_read 50 = .ok (.goto (-24), 3) := by decide +kernel
theorem dX5_read_53 : decode cX5_read 53 = .ok (.iconst 0, 1) := by decide +kernel
theorem dX5_read_54 : decode cX5_read 54 = .ok (.istore 5, 2) := by decide +kernel
theorem dX5_read_56 : decode cX5_read 56 = .ok (.iconst 0, 1) := by decide +kernel
theorem dX5_read_57 : decode cX5_read 57 = .ok (.istore 6, 2) := by decide +kernel
theorem dX5_read_59 : decode cX5_read 59 = .ok (.iconst 0, 1) := by decide +kernel
theorem dX5_read_60 : decode cX5_read 60 = .ok (.istore 7, 2) := by decide +kernel
theorem dX5_read_62 : decode cX5_read 62 = .ok (.iload 7, 2) := by decide +kernel
theorem dX5_read_64 : decode cX5_read 64 = .ok (.iload 4, 2) := by decide +kernel
theorem dX5_read_66 : decode cX5_read 66 = .ok (.if_icmp .ge 193, 3) := by decide +kernel
theorem dX5_read_69 : decode cX5_read 69 = .ok (.iload 5, 2) := by decide +kernel
theorem dX5_read_71 : decode cX5_read 71 = .ok (.ifCond .ne 188, 3) := by decide +kernel
theorem dX5_read_74 : decode cX5_read 74 = .ok (.iconst 0, 1) := by decide +kernel
theorem dX5_read_75 : decode cX5_read 75 = .ok (.istore 8, 2) := by decide +kernel
theorem dX5_read_77 : decode cX5_read 77 = .ok (.iload 8, 2) := by decide +kernel
theorem dX5_read_79 : decode cX5_read 79 = .ok (.iconst 3, 1) := by decide +kernel
theorem dX5_read_80 : decode cX5_read 80 = .ok (.if_icmp .ge 84, 3) := by decide +kernel
theorem dX5_read_83 : decode cX5_read 83 = .ok (.iload 5, 2) := by decide +kernel
theorem dX5_read_85 : decode cX5_read 85 = .ok (.ifCond .ne 79, 3) := by decide +kernel
theorem dX5_read_88 : decode cX5_read 88 = .ok (.iload_n 3, 1) := by decide +kernel
theorem dX5_read_89 : decode cX5_read 89 = .ok (.i2l, 1) := by decide +kernel
theorem dX5_read_90 : decode cX5_read 90 = .ok (.iconst 3, 1) := by decide +kernel
theorem dX5_read_91 : decode cX5_read 91 = .ok (.iload 7, 2) := by decide +kernel
theorem dX5_read_93 : decode cX5_read 93 = .ok (.imul, 1) := by decide +kernel
theorem dX5_read_94 : decode cX5_read 94 = .ok (.i2l, 1) := by decide +kernel
theorem dX5_read_95 : decode cX5_read 95 = .ok (.ladd, 1) := by decide +kernel
theorem dX5_read_96 : decode cX5_read 96 = .ok (.iload 8, 2) := by decide +kernel
theorem dX5_read_98 : decode cX5_read 98 = .ok (.i2l, 1) := by decide +kernel
theorem dX5_read_99 : decode cX5_read 99 = .ok (.ladd, 1) := by decide +kernel
theorem dX5_read_100 : decode cX5_read 100 = .ok (.lstore 9, 2) := by decide +kernel
theorem dX5_read_102 : decode cX5_read 102 = .ok (.aload_n 0, 1) := by decide +kernel
theorem dX5_read_103 : decode cX5_read 103 = .ok (.getfield 35, 3) := by decide +kernel
theorem dX5_read_106 : decode cX5_read 106 = .ok (.iload_n 1, 1) := by decide +kernel
theorem dX5_read_107 : decode cX5_read 107 = .ok (.iaload, 1) := by decide +kernel
theorem dX5_read_108 : decode cX5_read 108 = .ok (.bipush (-4), 2) := by decide +kernel
theorem dX5_read_110 : decode cX5_read 110 = .ok (.if_icmp .ne 7, 3) := by decide +kernel
theorem dX5_read_113 : decode cX5_read 113 = .ok (.iconst 1, 1) := by decide +kernel
theorem dX5_read_114 : decode cX5_read 114 = .ok (.goto 42, 3) := by decide +kernel
theorem dX5_read_117 : decode cX5_read 117 = .ok (.aload_n 0, 1) := by decide +kernel
theorem dX5_read_118 : decode cX5_read 118 = .ok (.getfield 35, 3) := by decide +kernel
theorem dX5_read_121 : decode cX5_read 121 = .ok (.iload_n 1, 1) := by decide +kernel
theorem dX5_read_122 : decode cX5_read 122 = .ok (.iaload, 1) := by decide +kernel
theorem dX5_read_123 : decode cX5_read 123 = .ok (.iload_n 2, 1) := by decide +kernel
theorem dX5_read_124 : decode cX5_read 124 = .ok (.if_icmp .eq 7, 3) := by decide +kernel
theorem dX5_read_127 : decode cX5_read 127 = .ok (.iconst 3, 1) := by decide +kernel
theorem dX5_read_128 : decode cX5_read 128 = .ok (.goto 28, 3) := by decide +kernel
theorem dX5_read_131 : decode cX5_read 131 = .ok (.lload 9, 2) := by decide +kernel
theorem dX5_read_133 : decode cX5_read 133 = .ok (.lconst 0, 1) := by decide +kernel
theorem dX5_read_134 : decode cX5_read 134 = .ok (.lcmp, 1) := by decide +kernel
theorem dX5_read_135 : decode cX5_read 135 = .ok (.ifCond .lt 16, 3) := by decide +kernel
theorem dX5_read_138 : decode cX5_read 138 = .ok (.lload 9, 2) := by decide +kernel
theorem dX5_read_140 : decode cX5_read 140 = .ok (.aload_n 0, 1) := by decide +kernel
theorem dX5_read_141 : decode cX5_read 141 = .ok (.getfield 38, 3) := by decide +kernel
theorem dX5_read_144 : decode cX5_read 144 = .ok (.iload_n 1, 1) := by decide +kernel
theorem dX5_read_145 : decode cX5_read 145 = .ok (.iaload, 1) := by decide +kernel
theorem dX5_read_146 : decode cX5_read 146 = .ok (.i2l, 1) := by decide +kernel
theorem dX5_read_147 : decode cX5_read 147 = .ok (.lcmp, 1) := by decide +kernel
theorem dX5_read_148 : decode cX5_read 148 = .ok (.ifCond .lt 7, 3) := by decide +kernel
theorem dX5_read_151 : decode cX5_read 151 = .ok (.iconst 2, 1) := by decide +kernel
theorem dX5_read_152 : decode cX5_read 152 = .ok (.goto 4, 3) := by decide +kernel
theorem dX5_read_155 : decode cX5_read 155 = .ok (.iconst 0, 1) := by decide +kernel
theorem dX5_read_156 : decode cX5_read 156 = .ok (.istore 5, 2) := by decide +kernel
theorem dX5_read_158 : decode cX5_read 158 = .ok (.iinc 8 1, 3) := by decide +kernel
theorem dX5_read_161 : decode cX5_read 161 = .ok (.goto (-84), 3) := by decide +kernel
theorem dX5_read_164 : decode cX5_read 164 = .ok (.iload 5, 2) := by decide +kernel
theorem dX5_read_166 : decode cX5_read 166 = .ok (.ifCond .ne 87, 3) := by decide +kernel
theorem dX5_read_169 : decode cX5_read 169 = .ok (.bipush 40, 2) := by decide +kernel
theorem dX5_read_171 : decode cX5_read 171 = .ok (.iload_n 1, 1) := by decide +kernel
theorem dX5_read_172 : decode cX5_read 172 = .ok (.imul, 1) := by decide +kernel
theorem dX5_read_173 : decode cX5_read 173 = .ok (.iload_n 3, 1) := by decide +kernel
theorem dX5_read_174 : decode cX5_read 174 = .ok (.iadd, 1) := by decide +kernel
theorem dX5_read_175 : decode cX5_read 175 = .ok (.iconst 3, 1) := by decide +kernel
theorem dX5_read_176 : decode cX5_read 176 = .ok (.iload 7, 2) := by decide +kernel
theorem dX5_read_178 : decode cX5_read 178 = .ok (.imul, 1) := by decide +kernel
theorem dX5_read_179 : decode cX5_read 179 = .ok (.iadd, 1) := by decide +kernel
theorem dX5_read_180 : decode cX5_read 180 = .ok (.istore 8, 2) := by decide +kernel
theorem dX5_read_182 : decode cX5_read 182 = .ok (.aload_n 0, 1) := by decide +kernel
theorem dX5_read_183 : decode cX5_read 183 = .ok (.aload_n 0, 1) := by decide +kernel
theorem dX5_read_184 : decode cX5_read 184 = .ok (.getfield 41, 3) := by decide +kernel
theorem dX5_read_187 : decode cX5_read 187 = .ok (.iload 8, 2) := by decide +kernel
theorem dX5_read_189 : decode cX5_read 189 = .ok (.iaload, 1) := by decide +kernel
theorem dX5_read_190 : decode cX5_read 190 = .ok (.aload_n 0, 1) := by decide +kernel
theorem dX5_read_191 : decode cX5_read 191 = .ok (.getfield 41, 3) := by decide +kernel
theorem dX5_read_194 : decode cX5_read 194 = .ok (.iload 8, 2) := by decide +kernel
theorem dX5_read_196 : decode cX5_read 196 = .ok (.iconst 1, 1) := by decide +kernel
theorem dX5_read_197 : decode cX5_read 197 = .ok (.iadd, 1) := by decide +kernel
theorem dX5_read_198 : decode cX5_read 198 = .ok (.iaload, 1) := by decide +kernel
theorem dX5_read_199 : decode cX5_read 199 = .ok (.aload_n 0, 1) := by decide +kernel
theorem dX5_read_200 : decode cX5_read 200 = .ok (.getfield 41, 3) := by decide +kernel
theorem dX5_read_203 : decode cX5_read 203 = .ok (.iload 8, 2) := by decide +kernel
theorem dX5_read_205 : decode cX5_read 205 = .ok (.iconst 2, 1) := by decide +kernel
theorem dX5_read_206 : decode cX5_read 206 = .ok (.iadd, 1) := by decide +kernel
theorem dX5_read_207 : decode cX5_read 207 = .ok (.iaload, 1) := by decide +kernel
theorem dX5_read_208 : decode cX5_read 208 = .ok (.invokevirtual 316, 3) := by decide +kernel
theorem dX5_read_211 : decode cX5_read 211 = .ok (.ifCond .ge 39, 3) := by decide +kernel
theorem dX5_read_214 : decode cX5_read 214 = .ok (.iconst 0, 1) := by decide +kernel
theorem dX5_read_215 : decode cX5_read 215 = .ok (.istore 9, 2) := by decide +kernel
theorem dX5_read_217 : decode cX5_read 217 = .ok (.iload 9, 2) := by decide +kernel
theorem dX5_read_219 : decode cX5_read 219 = .ok (.bipush 75, 2) := by decide +kernel
theorem dX5_read_221 : decode cX5_read 221 = .ok (.if_icmp .ge 23, 3) := by decide +kernel
theorem dX5_read_224 : decode cX5_read 224 = .ok (.aload_n 0, 1) := by decide +kernel
theorem dX5_read_225 : decode cX5_read 225 = .ok (.getfield 7, 3) := by decide +kernel
theorem dX5_read_228 : decode cX5_read 228 = .ok (.iload 9, 2) := by decide +kernel
theorem dX5_read_230 : decode cX5_read 230 = .ok (.aload_n 0, 1) := by decide +kernel
theorem dX5_read_231 : decode cX5_read 231 = .ok (.getfield 44, 3) := by decide +kernel
theorem dX5_read_234 : decode cX5_read 234 = .ok (.iload 9, 2) := by decide +kernel
theorem dX5_read_236 : decode cX5_read 236 = .ok (.iaload, 1) := by decide +kernel
theorem dX5_read_237 : decode cX5_read 237 = .ok (.iastore, 1) := by decide +kernel
theorem dX5_read_238 : decode cX5_read 238 = .ok (.iinc 9 1, 3) := by decide +kernel
theorem dX5_read_241 : decode cX5_read 241 = .ok (.goto (-24), 3) := by decide +kernel
theorem dX5_read_244 : decode cX5_read 244 = .ok (.bipush (-20), 2) := by decide +kernel
theorem dX5_read_246 : decode cX5_read 246 = .ok (.iload 7, 2) := by decide +kernel
theorem dX5_read_248 : decode cX5_read 248 = .ok (.isub, 1) := by decide +kernel
theorem dX5_read_249 : decode cX5_read 249 = .ok (.ireturn, 1) := by decide +kernel
theorem dX5_read_250 : decode cX5_read 250 = .ok (.iinc 6 1, 3) := by decide +kernel
theorem dX5_read_253 : decode cX5_read 253 = .ok (.iinc 7 1, 3) := by decide +kernel
theorem dX5_read_256 : decode cX5_read 256 = .ok (.goto (-194), 3) := by decide +kernel
theorem dX5_read_259 : decode cX5_read 259 = .ok (.aload_n 0, 1) := by decide +kernel
theorem dX5_read_260 : decode cX5_read 260 = .ok (.iload 5, 2) := by decide +kernel
theorem dX5_read_262 : decode cX5_read 262 = .ok (.putfield 320, 3) := by decide +kernel
theorem dX5_read_265 : decode cX5_read 265 = .ok (.iload 6, 2) := by decide +kernel
theorem dX5_read_267 : decode cX5_read 267 = .ok (.ireturn, 1) := by decide +kernel
theorem dX5_torn_0 : decode cX5_torn 0 = .ok (.aload_n 0, 1) := by decide +kernel
theorem dX5_torn_1 : decode cX5_torn 1 = .ok (.getfield 320, 3) := by decide +kernel
theorem dX5_torn_4 : decode cX5_torn 4 = .ok (.ireturn, 1) := by decide +kernel
theorem dX5_count_0 : decode cX5_count 0 = .ok (.iload_n 1, 1) := by decide +kernel
theorem dX5_count_1 : decode cX5_count 1 = .ok (.tableswitch 107 0 5 #[39, 47, 67, 72, 95, 101], 39) := by decide +kernel
theorem dX5_count_40 : decode cX5_count 40 = .ok (.aload_n 0, 1) := by decide +kernel
theorem dX5_count_41 : decode cX5_count 41 = .ok (.getfield 7, 3) := by decide +kernel
theorem dX5_count_44 : decode cX5_count 44 = .ok (.bipush 56, 2) := by decide +kernel
theorem dX5_count_46 : decode cX5_count 46 = .ok (.iaload, 1) := by decide +kernel
theorem dX5_count_47 : decode cX5_count 47 = .ok (.ireturn, 1) := by decide +kernel
theorem dX5_count_48 : decode cX5_count 48 = .ok (.aload_n 0, 1) := by decide +kernel
theorem dX5_count_49 : decode cX5_count 49 = .ok (.getfield 16, 3) := by decide +kernel
theorem dX5_count_52 : decode cX5_count 52 = .ok (.iconst 0, 1) := by decide +kernel
theorem dX5_count_53 : decode cX5_count 53 = .ok (.baload, 1) := by decide +kernel
theorem dX5_count_54 : decode cX5_count 54 = .ok (.invokestatic 236, 3) := by decide +kernel
theorem dX5_count_57 : decode cX5_count 57 = .ok (.aload_n 0, 1) := by decide +kernel
theorem dX5_count_58 : decode cX5_count 58 = .ok (.getfield 16, 3) := by decide +kernel
theorem dX5_count_61 : decode cX5_count 61 = .ok (.iconst 1, 1) := by decide +kernel
theorem dX5_count_62 : decode cX5_count 62 = .ok (.baload, 1) := by decide +kernel
theorem dX5_count_63 : decode cX5_count 63 = .ok (.invokestatic 236, 3) := by decide +kernel
theorem dX5_count_66 : decode cX5_count 66 = .ok (.iadd, 1) := by decide +kernel
theorem dX5_count_67 : decode cX5_count 67 = .ok (.ireturn, 1) := by decide +kernel
theorem dX5_count_68 : decode cX5_count 68 = .ok (.aload_n 0, 1) := by decide +kernel
theorem dX5_count_69 : decode cX5_count 69 = .ok (.getfield 67, 3) := by decide +kernel
theorem dX5_count_72 : decode cX5_count 72 = .ok (.ireturn, 1) := by decide +kernel
theorem dX5_count_73 : decode cX5_count 73 = .ok (.aload_n 0, 1) := by decide +kernel
theorem dX5_count_74 : decode cX5_count 74 = .ok (.getfield 35, 3) := by decide +kernel
theorem dX5_count_77 : decode cX5_count 77 = .ok (.iconst 0, 1) := by decide +kernel
theorem dX5_count_78 : decode cX5_count 78 = .ok (.iaload, 1) := by decide +kernel
theorem dX5_count_79 : decode cX5_count 79 = .ok (.bipush (-4), 2) := by decide +kernel
theorem dX5_count_81 : decode cX5_count 81 = .ok (.if_icmp .ne 8, 3) := by decide +kernel
theorem dX5_count_84 : decode cX5_count 84 = .ok (.bipush (-4), 2) := by decide +kernel
theorem dX5_count_86 : decode cX5_count 86 = .ok (.goto 9, 3) := by decide +kernel
theorem dX5_count_89 : decode cX5_count 89 = .ok (.aload_n 0, 1) := by decide +kernel
theorem dX5_count_90 : decode cX5_count 90 = .ok (.getfield 38, 3) := by decide +kernel
theorem dX5_count_93 : decode cX5_count 93 = .ok (.iconst 0, 1) := by decide +kernel
theorem dX5_count_94 : decode cX5_count 94 = .ok (.iaload, 1) := by decide +kernel
theorem dX5_count_95 : decode cX5_count 95 = .ok (.ireturn, 1) := by decide +kernel
theorem dX5_count_96 : decode cX5_count 96 = .ok (.aload_n 0, 1) := by decide +kernel
theorem dX5_count_97 : decode cX5_count 97 = .ok (.iconst 0, 1) := by decide +kernel
theorem dX5_count_98 : decode cX5_count 98 = .ok (.invokevirtual 189, 3) := by decide +kernel
theorem dX5_count_101 : decode cX5_count 101 = .ok (.ireturn, 1) := by decide +kernel
theorem dX5_count_102 : decode cX5_count 102 = .ok (.aload_n 0, 1) := by decide +kernel
theorem dX5_count_103 : decode cX5_count 103 = .ok (.iconst 2, 1) := by decide +kernel
theorem dX5_count_104 : decode cX5_count 104 = .ok (.invokevirtual 189, 3) := by decide +kernel
theorem dX5_count_107 : decode cX5_count 107 = .ok (.ireturn, 1) := by decide +kernel
theorem dX5_count_108 : decode cX5_count 108 = .ok (.iconst (-1), 1) := by decide +kernel
theorem dX5_count_109 : decode cX5_count 109 = .ok (.ireturn, 1) := by decide +kernel
end
section
/-! THE FLAT MEMORY: behind the constructors the heap's shape never changes: 77 cells; a state is what stands in (cell, slot). -/
abbrev am_tp : Type := (Nat × List Nat) ⊕ (Nat × Nat) ⊕ (Nat × List Nat)
abbrev fm : Type := (Nat → Nat → Int32) × (Nat → Nat → Int64)
def am_slot (S : fm) (a k t : Nat) : Value := match t with
  | 0 => .int (S.1 a k)
  | 1 => .long (S.2 a k)
  | p + 2 => .ref p
def am_cell (S : fm) (a : Nat) (t : am_tp) : va_E := match t with
  | .inl (ci, ts) => .inr (ci, ts.mapIdx (fun k t => am_slot S a k t))
  | .inr (.inl (ty, n)) => .inl (ty, n, .inl (S.1 a))
  | .inr (.inr (ty, ts)) => .inl (ty, ts.length, .inr (.inr (.inr (.inr (fun j => ts[j]?)))))
def am_key : am_tp := .inl (1, [0, 0, 0, 0, 0, 0, 0, 0, 0])
def am_bd (b : Nat) : List am_tp := [.inl (0, [b + 3, 0, b + 8, b + 9, b + 10, 0, 0, 0, b + 11, b + 12, b + 13, 0]), .inr (.inr (3, [b + 2, b + 3, b + 4, b + 5])), am_key, am_key, am_key, am_key, .inr (.inl (0, 8)), .inr (.inl (0, 8)), .inr (.inl (0, 8)), .inr (.inl (0, 6)), .inr (.inl (0, 6)), .inr (.inl (0, 6))]
def am_sh (a : Nat) : List am_tp := [.inl (2, [a + 3, 0, 0]), .inr (.inl (0, 40))]
def am_tab : List am_tp := [.inl (4, [3, 0, 4, 16, 28, 29, 54, 63, 0, 0, 64, 65]), .inr (.inl (1, 160))] ++ (am_bd 2 ++ (am_bd 14 ++ ([.inr (.inr (4, [28, 40])), .inr (.inl (2, 2))] ++ (am_bd 28 ++ (am_bd 40 ++ ([.inr (.inr (5, [53, 55, 57, 59]))] ++ (am_sh 53 ++ (am_sh 55 ++ (am_sh 57 ++ (am_sh 59 ++
  [.inl (3, [3, 16, 0, 0, 0, 0, 0, 0, 0, 0]), .inr (.inl (0, 8)), .inr (.inl (0, 41)),
   .inl (5, [67, 68, 69, 70, 0, 0, 71, 0, 0, 0, 0, 0, 0, 0, 72, 0, 0, 0, 0, 1, 1, 1, 73, 74, 75, 76, 77, 0, 78]),
   .inr (.inl (0, 225)), .inr (.inl (0, 75)), .inr (.inl (2, 2)), .inr (.inl (0, 75)), .inr (.inl (0, 160)), .inr (.inl (0, 4)), .inr (.inl (0, 41)), .inr (.inl (0, 41)), .inr (.inl (0, 4)), .inr (.inl (0, 4)), .inr (.inl (0, 160)), .inr (.inl (0, 75))]))))))))))
def hp (S : fm) : List va_E := am_tab.mapIdx (fun a t => am_cell S a t)
def up2 {α : Type} (f : Nat → Nat → α) (a k : Nat) (x : α) : Nat → Nat → α := fun b j => if b = a ∧ j = k then x else f b j
theorem up2_self {α : Type} (f : Nat → Nat → α) (a k : Nat) (x : α) : up2 f a k x a k = x := by simp [up2]
theorem up2_ne {α : Type} {f : Nat → Nat → α} {a k b j : Nat} {x : α} (h : ¬ (b = a ∧ j = k)) : up2 f a k x b j = f b j := by simp [up2, h]
theorem hp_at {S : fm} {a : Nat} {t : am_tp} (ht : am_tab[a]? = some t) : (hp S)[a]? = some (am_cell S a t) := by
  unfold hp
  rw [List.getElem?_mapIdx, ht]
  rfl
theorem am_cell_ne {S : fm} {a k b : Nat} {x : Int32} (h : b ≠ a) (t : am_tp) : am_cell (up2 S.1 a k x, S.2) b t = am_cell S b t := by
  have e : up2 S.1 a k x b = S.1 b := by funext j; simp [up2, h]
  have e2 : ∀ i t, am_slot (up2 S.1 a k x, S.2) b i t = am_slot S b i t := by
    intro i t
    match t with
    | 0 => simp only [am_slot]; rw [e]
    | 1 => rfl
    | p + 2 => rfl
  match t with
  | .inl (ci, ts) => simp only [am_cell, e2]
  | .inr (.inl (ty, n)) => simp only [am_cell, e]
  | .inr (.inr (ty, ts)) => rfl
theorem am_cell_neL {S : fm} {a k b : Nat} {x : Int64} (h : b ≠ a) (t : am_tp) : am_cell (S.1, up2 S.2 a k x) b t = am_cell S b t := by
  have e : up2 S.2 a k x b = S.2 b := by funext j; simp [up2, h]
  have e2 : ∀ i t, am_slot (S.1, up2 S.2 a k x) b i t = am_slot S b i t := by
    intro i t
    match t with
    | 0 => rfl
    | 1 => simp only [am_slot]; rw [e]
    | p + 2 => rfl
  match t with
  | .inl (ci, ts) => simp only [am_cell, e2]
  | .inr (.inl (ty, n)) => rfl
  | .inr (.inr (ty, ts)) => rfl
theorem hp_set {S S' : fm} {a : Nat} {t : am_tp} (ht : am_tab[a]? = some t) (ho : ∀ b, b ≠ a → ∀ t, am_cell S' b t = am_cell S b t) : (hp S).set a (am_cell S' a t) = hp S' := by
  have hl : a < am_tab.length := (List.getElem?_eq_some_iff.mp ht).1
  apply List.ext_getElem?
  intro b
  by_cases hb : b = a
  · subst hb
    rw [List.getElem?_set_self (by unfold hp; rw [List.length_mapIdx]; exact hl), hp_at ht]
  · rw [List.getElem?_set_ne (Ne.symm hb)]
    unfold hp
    rw [List.getElem?_mapIdx, List.getElem?_mapIdx]
    cases h : am_tab[b]? with
    | none => rfl
    | some t => simp only [Option.map_some, ho b hb]
theorem hp_put {S : fm} {a ci k : Nat} {ts : List Nat} {x : Int32} (ht : am_tab[a]? = some (.inl (ci, ts))) (hk : ts[k]? = some 0) : (hp S).set a (.inr (ci, (ts.mapIdx (fun k t => am_slot S a k t)).set k (.int x))) = hp (up2 S.1 a k x, S.2) := by
  rw [← hp_set ht (fun b hb t => am_cell_ne hb t)]
  have e : (ts.mapIdx (fun k t => am_slot S a k t)).set k (.int x) = ts.mapIdx (fun j t => am_slot (up2 S.1 a k x, S.2) a j t) := by
    have hl : k < ts.length := (List.getElem?_eq_some_iff.mp hk).1
    apply List.ext_getElem?
    intro j
    by_cases hj : j = k
    · subst hj
      rw [List.getElem?_set_self (by rw [List.length_mapIdx]; exact hl), List.getElem?_mapIdx, hk]
      simp [am_slot, up2]
    · rw [List.getElem?_set_ne (Ne.symm hj), List.getElem?_mapIdx, List.getElem?_mapIdx]
      cases h : ts[j]? with
      | none => rfl
      | some t =>
        match t with
        | 0 => simp [am_slot, up2, hj]
        | 1 => rfl
        | p + 2 => rfl
  rw [e]
  rfl
theorem hp_putL {S : fm} {a ci k : Nat} {ts : List Nat} {x : Int64} (ht : am_tab[a]? = some (.inl (ci, ts))) (hk : ts[k]? = some 1) : (hp S).set a (.inr (ci, (ts.mapIdx (fun k t => am_slot S a k t)).set k (.long x))) = hp (S.1, up2 S.2 a k x) := by
  rw [← hp_set ht (fun b hb t => am_cell_neL hb t)]
  have e : (ts.mapIdx (fun k t => am_slot S a k t)).set k (.long x) = ts.mapIdx (fun j t => am_slot (S.1, up2 S.2 a k x) a j t) := by
    have hl : k < ts.length := (List.getElem?_eq_some_iff.mp hk).1
    apply List.ext_getElem?
    intro j
    by_cases hj : j = k
    · subst hj
      rw [List.getElem?_set_self (by rw [List.length_mapIdx]; exact hl), List.getElem?_mapIdx, hk]
      simp [am_slot, up2]
    · rw [List.getElem?_set_ne (Ne.symm hj), List.getElem?_mapIdx, List.getElem?_mapIdx]
      cases h : ts[j]? with
      | none => rfl
      | some t =>
        match t with
        | 0 => rfl
        | 1 => simp [am_slot, up2, hj]
        | p + 2 => rfl
  rw [e]
  rfl
theorem hp_ast {S : fm} {a ty n k : Nat} {x : Int32} (ht : am_tab[a]? = some (.inr (.inl (ty, n)))) : (hp S).set a (.inl (ty, n, .inl (upd (S.1 a) k x))) = hp (up2 S.1 a k x, S.2) := by
  rw [← hp_set ht (fun b hb t => am_cell_ne hb t)]
  have e : upd (S.1 a) k x = up2 S.1 a k x a := by funext j; simp [upd, up2]
  rw [e]
  rfl
/-- a contract that is a function: with these arguments, in state S, method M answers r and leaves S' -/
def AF (V : am_V) (M : am_M) (d : Nat) (args : List Value) (S : fm) (r : Option Value) (S' : fm) : Prop := AM V M d 0 0 args (hp S) (fun r' h' => r' = r ∧ h' = hp S')
end
section
section AXR
variable {V : am_V} {M : am_M} {d kc ks pc : Nat} {L : List (Option Value)} {st : List Value} {S : fm} {R : Option Value → List va_E → Prop}

theorem ax_geti {a ci idx : Nat} {q : vw_C} {ts : List Nat} (k : Nat) (hd : decode M.2.1 pc = .ok (.getfield idx, 3)) (hq : am_cl[ci]? = some q) (hl : Cond.fieldLink M.1.cls idx (q.2.1 k).1 (q.2.1 k).2.1 (q.2.1 k).2.2.1 ∈ am_T) (hk : k < q.2.2) (ht : am_tab[a]? = some (.inl (ci, ts))) (hv : ts[k]? = some 0) (kk : AW V M d kc ks (pc + 3) L (.int (S.1 a k) :: st) (hp S) R) : AW V M d kc ks pc L (.ref a :: st) (hp S) R :=
  aw_get k hd hq hl hk (hp_at ht) (by rw [List.getElem?_mapIdx, hv]; rfl) kk
theorem ax_getl {a ci idx : Nat} {q : vw_C} {ts : List Nat} (k : Nat) (hd : decode M.2.1 pc = .ok (.getfield idx, 3)) (hq : am_cl[ci]? = some q) (hl : Cond.fieldLink M.1.cls idx (q.2.1 k).1 (q.2.1 k).2.1 (q.2.1 k).2.2.1 ∈ am_T) (hk : k < q.2.2) (ht : am_tab[a]? = some (.inl (ci, ts))) (hv : ts[k]? = some 1) (kk : AW V M d kc ks (pc + 3) L (.long (S.2 a k) :: st) (hp S) R) : AW V M d kc ks pc L (.ref a :: st) (hp S) R :=
  aw_get k hd hq hl hk (hp_at ht) (by rw [List.getElem?_mapIdx, hv]; rfl) kk
theorem ax_getr {a ci idx : Nat} {q : vw_C} {ts : List Nat} {b : Nat} (k : Nat) (hd : decode M.2.1 pc = .ok (.getfield idx, 3)) (hq : am_cl[ci]? = some q) (hl : Cond.fieldLink M.1.cls idx (q.2.1 k).1 (q.2.1 k).2.1 (q.2.1 k).2.2.1 ∈ am_T) (hk : k < q.2.2) (ht : am_tab[a]? = some (.inl (ci, ts))) (hv : ts[k]? = some (b + 2)) (kk : AW V M d kc ks (pc + 3) L (.ref b :: st) (hp S) R) : AW V M d kc ks pc L (.ref a :: st) (hp S) R :=
  aw_get k hd hq hl hk (hp_at ht) (by rw [List.getElem?_mapIdx, hv]; rfl) kk
theorem ax_puti {a ci idx : Nat} {q : vw_C} {ts : List Nat} {x : Int32} (k : Nat) (hd : decode M.2.1 pc = .ok (.putfield idx, 3)) (hq : am_cl[ci]? = some q) (hl : Cond.fieldLink M.1.cls idx (q.2.1 k).1 (q.2.1 k).2.1 (q.2.1 k).2.2.1 ∈ am_T) (hk : k < q.2.2) (ht : am_tab[a]? = some (.inl (ci, ts))) (hv : ts[k]? = some 0) (hf : (q.2.1 k).2.2.2 = false) (hty : am_fty ci k = .int) (kk : AW V M d kc ks (pc + 3) L st (hp (up2 S.1 a k x, S.2)) R) : AW V M d kc ks pc L (.int x :: .ref a :: st) (hp S) R :=
  aw_put k hd hq hl hk hf (hp_at ht) (by rw [hty]; rfl) (by rw [hty]; rfl) (by rw [List.length_mapIdx]; exact (List.getElem?_eq_some_iff.mp hv).1) (hp_put ht hv) kk
theorem ax_putz {a ci idx : Nat} {q : vw_C} {ts : List Nat} {x : Int32} (k : Nat) (hd : decode M.2.1 pc = .ok (.putfield idx, 3)) (hq : am_cl[ci]? = some q) (hl : Cond.fieldLink M.1.cls idx (q.2.1 k).1 (q.2.1 k).2.1 (q.2.1 k).2.2.1 ∈ am_T) (hk : k < q.2.2) (ht : am_tab[a]? = some (.inl (ci, ts))) (hv : ts[k]? = some 0) (hf : (q.2.1 k).2.2.2 = false) (hty : am_fty ci k = .boolean) (hx : x = 0 ∨ x = 1) (kk : AW V M d kc ks (pc + 3) L st (hp (up2 S.1 a k x, S.2)) R) : AW V M d kc ks pc L (.int x :: .ref a :: st) (hp S) R :=
  aw_put k hd hq hl hk hf (hp_at ht) (by rw [hty]; rcases hx with rfl | rfl <;> rfl) (by rw [hty]; rcases hx with rfl | rfl <;> rfl) (by rw [List.length_mapIdx]; exact (List.getElem?_eq_some_iff.mp hv).1) (hp_put ht hv) kk
theorem ax_putl {a ci idx : Nat} {q : vw_C} {ts : List Nat} {x : Int64} (k : Nat) (hd : decode M.2.1 pc = .ok (.putfield idx, 3)) (hq : am_cl[ci]? = some q) (hl : Cond.fieldLink M.1.cls idx (q.2.1 k).1 (q.2.1 k).2.1 (q.2.1 k).2.2.1 ∈ am_T) (hk : k < q.2.2) (ht : am_tab[a]? = some (.inl (ci, ts))) (hv : ts[k]? = some 1) (hf : (q.2.1 k).2.2.2 = false) (hty : am_fty ci k = .long) (kk : AW V M d kc ks (pc + 3) L st (hp (S.1, up2 S.2 a k x)) R) : AW V M d kc ks pc L (.long x :: .ref a :: st) (hp S) R :=
  aw_put k hd hq hl hk hf (hp_at ht) (by rw [hty]; rfl) (by rw [hty]; rfl) (by rw [List.length_mapIdx]; exact (List.getElem?_eq_some_iff.mp hv).1) (hp_putL ht hv) kk
theorem ax_iald {a n : Nat} {i : Int32} (hd : decode M.2.1 pc = .ok (.iaload, 1)) (ht : am_tab[a]? = some (.inr (.inl (0, n)))) (hin : vp_in i n) (kk : AW V M d kc ks (pc + 1) L (.int (S.1 a i.toNatClampNeg) :: st) (hp S) R) : AW V M d kc ks pc L (.int i :: .ref a :: st) (hp S) R :=
  aw_iald hd (hp_at ht) hin kk
theorem ax_bald {a n : Nat} {i : Int32} (hd : decode M.2.1 pc = .ok (.baload, 1)) (ht : am_tab[a]? = some (.inr (.inl (1, n)))) (hin : vp_in i n) (kk : AW V M d kc ks (pc + 1) L (.int (S.1 a i.toNatClampNeg) :: st) (hp S) R) : AW V M d kc ks pc L (.int i :: .ref a :: st) (hp S) R :=
  aw_bald hd (hp_at ht) hin kk
theorem ax_zald {a n : Nat} {i : Int32} (hd : decode M.2.1 pc = .ok (.baload, 1)) (ht : am_tab[a]? = some (.inr (.inl (2, n)))) (hin : vp_in i n) (kk : AW V M d kc ks (pc + 1) L (.int (S.1 a i.toNatClampNeg) :: st) (hp S) R) : AW V M d kc ks pc L (.int i :: .ref a :: st) (hp S) R :=
  aw_zald hd (hp_at ht) hin kk
theorem ax_aald {a t b : Nat} {ts : List Nat} {i : Int32} {cn : String} (hd : decode M.2.1 pc = .ok (.aaload, 1)) (ht : am_tab[a]? = some (.inr (.inr (t, ts)))) (hty : (am_tys V)[t]? = some (V.2.2.1 t, .object cn)) (hin : vp_in i ts.length) (hg : ts[i.toNatClampNeg]? = some b) (kk : AW V M d kc ks (pc + 1) L (.ref b :: st) (hp S) R) : AW V M d kc ks pc L (.int i :: .ref a :: st) (hp S) R :=
  aw_aald hd (hp_at ht) hty hin hg kk
theorem ax_iast {a n : Nat} {i x : Int32} (hd : decode M.2.1 pc = .ok (.iastore, 1)) (ht : am_tab[a]? = some (.inr (.inl (0, n)))) (hin : vp_in i n) (kk : AW V M d kc ks (pc + 1) L st (hp (up2 S.1 a i.toNatClampNeg x, S.2)) R) : AW V M d kc ks pc L (.int x :: .int i :: .ref a :: st) (hp S) R :=
  aw_iast hd (hp_at ht) hin (hp_ast ht) kk
theorem ax_bast {a n : Nat} {i x : Int32} (hd : decode M.2.1 pc = .ok (.bastore, 1)) (ht : am_tab[a]? = some (.inr (.inl (1, n)))) (hin : vp_in i n) (kk : AW V M d kc ks (pc + 1) L st (hp (up2 S.1 a i.toNatClampNeg (vp_nar .byte x), S.2)) R) : AW V M d kc ks pc L (.int x :: .int i :: .ref a :: st) (hp S) R :=
  aw_bast hd (hp_at ht) hin (hp_ast ht) kk
theorem ax_zast {a n : Nat} {i x : Int32} (hd : decode M.2.1 pc = .ok (.bastore, 1)) (ht : am_tab[a]? = some (.inr (.inl (2, n)))) (hin : vp_in i n) (kk : AW V M d kc ks (pc + 1) L st (hp (up2 S.1 a i.toNatClampNeg (vp_nar .boolean x), S.2)) R) : AW V M d kc ks pc L (.int x :: .int i :: .ref a :: st) (hp S) R :=
  aw_zast hd (hp_at ht) hin (hp_ast ht) kk
theorem ax_alen {a n t : Nat} {ty : FieldType} (hd : decode M.2.1 pc = .ok (.arraylength, 1)) (ht : am_tab[a]? = some (.inr (.inl (t, n)))) (hty : (am_tys V)[t]? = some (V.2.2.1 t, ty)) (kk : AW V M d kc ks (pc + 1) L (.int (Int32.ofNat n) :: st) (hp S) R) : AW V M d kc ks pc L (.ref a :: st) (hp S) R :=
  aw_alen hd (hp_at ht) hty kk
theorem ax_callV0i {M' : am_M} {idx : Nat} {b ci : Nat} {q : vw_C} {ts : List Nat} {r : Int32} {S' : fm} (hd : decode M.2.1 pc = .ok (.invokevirtual idx, 3)) (hl : Cond.methodLink M.1.cls idx M'.1 ∈ am_T) (ho : am_okV M') (hn : (parseMethodDescriptor M'.1.desc).map (fun d => d.parameters.length) = some 0) (ht : am_tab[b]? = some (.inl (ci, ts))) (hq : am_cl[ci]? = some q) (hqc : q.1 = M'.1.cls) (hw : (st.map fun v => v.category).sum ≤ 8) (kk : AF V M' d [.ref b] S (some (.int r)) S') (k : AW V M (d + 1) kc ks (pc + 3) L (.int r :: st) (hp S') R) : AW V M (d + 1) kc ks pc L (.ref b :: st) (hp S) R := by
  unfold AF at kk
  have k1 : AM V M' d 0 0 (.ref b :: []) (hp S) (fun r' h' => AW V M (d + 1) kc ks (pc + 3) L (r'.toList ++ st) h' R) := by
    refine AM.weaken ?_ kk
    intro r' h' z
    rw [z.1, z.2]
    exact k
  have k2 := aw_callV (V := V) (M := M) (M' := M') (d := d) (kc := kc) (ks := ks) (pc := pc) (kc' := 0) (ks' := 0) (as := []) (st := st) (L := L) (h := hp S) (R := R) (b := b) (host := "") hd hl ho hn (hp_at (S := S) ht) hq hqc rfl hw k1
  rw [Nat.zero_add, Nat.zero_add] at k2
  exact k2
theorem ax_callV0v {M' : am_M} {idx : Nat} {b ci : Nat} {q : vw_C} {ts : List Nat} {S' : fm} (hd : decode M.2.1 pc = .ok (.invokevirtual idx, 3)) (hl : Cond.methodLink M.1.cls idx M'.1 ∈ am_T) (ho : am_okV M') (hn : (parseMethodDescriptor M'.1.desc).map (fun d => d.parameters.length) = some 0) (ht : am_tab[b]? = some (.inl (ci, ts))) (hq : am_cl[ci]? = some q) (hqc : q.1 = M'.1.cls) (hw : (st.map fun v => v.category).sum ≤ 8) (kk : AF V M' d [.ref b] S none S') (k : AW V M (d + 1) kc ks (pc + 3) L (st) (hp S') R) : AW V M (d + 1) kc ks pc L (.ref b :: st) (hp S) R := by
  unfold AF at kk
  have k1 : AM V M' d 0 0 (.ref b :: []) (hp S) (fun r' h' => AW V M (d + 1) kc ks (pc + 3) L (r'.toList ++ st) h' R) := by
    refine AM.weaken ?_ kk
    intro r' h' z
    rw [z.1, z.2]
    exact k
  have k2 := aw_callV (V := V) (M := M) (M' := M') (d := d) (kc := kc) (ks := ks) (pc := pc) (kc' := 0) (ks' := 0) (as := []) (st := st) (L := L) (h := hp S) (R := R) (b := b) (host := "") hd hl ho hn (hp_at (S := S) ht) hq hqc rfl hw k1
  rw [Nat.zero_add, Nat.zero_add] at k2
  exact k2
theorem ax_callV0l {M' : am_M} {idx : Nat} {b ci : Nat} {q : vw_C} {ts : List Nat} {r : Int64} {S' : fm} (hd : decode M.2.1 pc = .ok (.invokevirtual idx, 3)) (hl : Cond.methodLink M.1.cls idx M'.1 ∈ am_T) (ho : am_okV M') (hn : (parseMethodDescriptor M'.1.desc).map (fun d => d.parameters.length) = some 0) (ht : am_tab[b]? = some (.inl (ci, ts))) (hq : am_cl[ci]? = some q) (hqc : q.1 = M'.1.cls) (hw : (st.map fun v => v.category).sum ≤ 8) (kk : AF V M' d [.ref b] S (some (.long r)) S') (k : AW V M (d + 1) kc ks (pc + 3) L (.long r :: st) (hp S') R) : AW V M (d + 1) kc ks pc L (.ref b :: st) (hp S) R := by
  unfold AF at kk
  have k1 : AM V M' d 0 0 (.ref b :: []) (hp S) (fun r' h' => AW V M (d + 1) kc ks (pc + 3) L (r'.toList ++ st) h' R) := by
    refine AM.weaken ?_ kk
    intro r' h' z
    rw [z.1, z.2]
    exact k
  have k2 := aw_callV (V := V) (M := M) (M' := M') (d := d) (kc := kc) (ks := ks) (pc := pc) (kc' := 0) (ks' := 0) (as := []) (st := st) (L := L) (h := hp S) (R := R) (b := b) (host := "") hd hl ho hn (hp_at (S := S) ht) hq hqc rfl hw k1
  rw [Nat.zero_add, Nat.zero_add] at k2
  exact k2
theorem ax_callV0r {M' : am_M} {idx : Nat} {b ci : Nat} {q : vw_C} {ts : List Nat} {r : Nat} {S' : fm} (hd : decode M.2.1 pc = .ok (.invokevirtual idx, 3)) (hl : Cond.methodLink M.1.cls idx M'.1 ∈ am_T) (ho : am_okV M') (hn : (parseMethodDescriptor M'.1.desc).map (fun d => d.parameters.length) = some 0) (ht : am_tab[b]? = some (.inl (ci, ts))) (hq : am_cl[ci]? = some q) (hqc : q.1 = M'.1.cls) (hw : (st.map fun v => v.category).sum ≤ 8) (kk : AF V M' d [.ref b] S (some (.ref r)) S') (k : AW V M (d + 1) kc ks (pc + 3) L (.ref r :: st) (hp S') R) : AW V M (d + 1) kc ks pc L (.ref b :: st) (hp S) R := by
  unfold AF at kk
  have k1 : AM V M' d 0 0 (.ref b :: []) (hp S) (fun r' h' => AW V M (d + 1) kc ks (pc + 3) L (r'.toList ++ st) h' R) := by
    refine AM.weaken ?_ kk
    intro r' h' z
    rw [z.1, z.2]
    exact k
  have k2 := aw_callV (V := V) (M := M) (M' := M') (d := d) (kc := kc) (ks := ks) (pc := pc) (kc' := 0) (ks' := 0) (as := []) (st := st) (L := L) (h := hp S) (R := R) (b := b) (host := "") hd hl ho hn (hp_at (S := S) ht) hq hqc rfl hw k1
  rw [Nat.zero_add, Nat.zero_add] at k2
  exact k2
theorem ax_callV1i {M' : am_M} {idx : Nat} {b ci : Nat} {q : vw_C} {ts : List Nat} {x1 : Value} {r : Int32} {S' : fm} (hd : decode M.2.1 pc = .ok (.invokevirtual idx, 3)) (hl : Cond.methodLink M.1.cls idx M'.1 ∈ am_T) (ho : am_okV M') (hn : (parseMethodDescriptor M'.1.desc).map (fun d => d.parameters.length) = some 1) (ht : am_tab[b]? = some (.inl (ci, ts))) (hq : am_cl[ci]? = some q) (hqc : q.1 = M'.1.cls) (hw : (st.map fun v => v.category).sum ≤ 8) (kk : AF V M' d [.ref b, x1] S (some (.int r)) S') (k : AW V M (d + 1) kc ks (pc + 3) L (.int r :: st) (hp S') R) : AW V M (d + 1) kc ks pc L (x1 :: .ref b :: st) (hp S) R := by
  unfold AF at kk
  have k1 : AM V M' d 0 0 (.ref b :: [x1]) (hp S) (fun r' h' => AW V M (d + 1) kc ks (pc + 3) L (r'.toList ++ st) h' R) := by
    refine AM.weaken ?_ kk
    intro r' h' z
    rw [z.1, z.2]
    exact k
  have k2 := aw_callV (V := V) (M := M) (M' := M') (d := d) (kc := kc) (ks := ks) (pc := pc) (kc' := 0) (ks' := 0) (as := [x1]) (st := st) (L := L) (h := hp S) (R := R) (b := b) (host := "") hd hl ho hn (hp_at (S := S) ht) hq hqc rfl hw k1
  rw [Nat.zero_add, Nat.zero_add] at k2
  exact k2
theorem ax_callV1v {M' : am_M} {idx : Nat} {b ci : Nat} {q : vw_C} {ts : List Nat} {x1 : Value} {S' : fm} (hd : decode M.2.1 pc = .ok (.invokevirtual idx, 3)) (hl : Cond.methodLink M.1.cls idx M'.1 ∈ am_T) (ho : am_okV M') (hn : (parseMethodDescriptor M'.1.desc).map (fun d => d.parameters.length) = some 1) (ht : am_tab[b]? = some (.inl (ci, ts))) (hq : am_cl[ci]? = some q) (hqc : q.1 = M'.1.cls) (hw : (st.map fun v => v.category).sum ≤ 8) (kk : AF V M' d [.ref b, x1] S none S') (k : AW V M (d + 1) kc ks (pc + 3) L (st) (hp S') R) : AW V M (d + 1) kc ks pc L (x1 :: .ref b :: st) (hp S) R := by
  unfold AF at kk
  have k1 : AM V M' d 0 0 (.ref b :: [x1]) (hp S) (fun r' h' => AW V M (d + 1) kc ks (pc + 3) L (r'.toList ++ st) h' R) := by
    refine AM.weaken ?_ kk
    intro r' h' z
    rw [z.1, z.2]
    exact k
  have k2 := aw_callV (V := V) (M := M) (M' := M') (d := d) (kc := kc) (ks := ks) (pc := pc) (kc' := 0) (ks' := 0) (as := [x1]) (st := st) (L := L) (h := hp S) (R := R) (b := b) (host := "") hd hl ho hn (hp_at (S := S) ht) hq hqc rfl hw k1
  rw [Nat.zero_add, Nat.zero_add] at k2
  exact k2
theorem ax_callV1l {M' : am_M} {idx : Nat} {b ci : Nat} {q : vw_C} {ts : List Nat} {x1 : Value} {r : Int64} {S' : fm} (hd : decode M.2.1 pc = .ok (.invokevirtual idx, 3)) (hl : Cond.methodLink M.1.cls idx M'.1 ∈ am_T) (ho : am_okV M') (hn : (parseMethodDescriptor M'.1.desc).map (fun d => d.parameters.length) = some 1) (ht : am_tab[b]? = some (.inl (ci, ts))) (hq : am_cl[ci]? = some q) (hqc : q.1 = M'.1.cls) (hw : (st.map fun v => v.category).sum ≤ 8) (kk : AF V M' d [.ref b, x1] S (some (.long r)) S') (k : AW V M (d + 1) kc ks (pc + 3) L (.long r :: st) (hp S') R) : AW V M (d + 1) kc ks pc L (x1 :: .ref b :: st) (hp S) R := by
  unfold AF at kk
  have k1 : AM V M' d 0 0 (.ref b :: [x1]) (hp S) (fun r' h' => AW V M (d + 1) kc ks (pc + 3) L (r'.toList ++ st) h' R) := by
    refine AM.weaken ?_ kk
    intro r' h' z
    rw [z.1, z.2]
    exact k
  have k2 := aw_callV (V := V) (M := M) (M' := M') (d := d) (kc := kc) (ks := ks) (pc := pc) (kc' := 0) (ks' := 0) (as := [x1]) (st := st) (L := L) (h := hp S) (R := R) (b := b) (host := "") hd hl ho hn (hp_at (S := S) ht) hq hqc rfl hw k1
  rw [Nat.zero_add, Nat.zero_add] at k2
  exact k2
theorem ax_callV1r {M' : am_M} {idx : Nat} {b ci : Nat} {q : vw_C} {ts : List Nat} {x1 : Value} {r : Nat} {S' : fm} (hd : decode M.2.1 pc = .ok (.invokevirtual idx, 3)) (hl : Cond.methodLink M.1.cls idx M'.1 ∈ am_T) (ho : am_okV M') (hn : (parseMethodDescriptor M'.1.desc).map (fun d => d.parameters.length) = some 1) (ht : am_tab[b]? = some (.inl (ci, ts))) (hq : am_cl[ci]? = some q) (hqc : q.1 = M'.1.cls) (hw : (st.map fun v => v.category).sum ≤ 8) (kk : AF V M' d [.ref b, x1] S (some (.ref r)) S') (k : AW V M (d + 1) kc ks (pc + 3) L (.ref r :: st) (hp S') R) : AW V M (d + 1) kc ks pc L (x1 :: .ref b :: st) (hp S) R := by
  unfold AF at kk
  have k1 : AM V M' d 0 0 (.ref b :: [x1]) (hp S) (fun r' h' => AW V M (d + 1) kc ks (pc + 3) L (r'.toList ++ st) h' R) := by
    refine AM.weaken ?_ kk
    intro r' h' z
    rw [z.1, z.2]
    exact k
  have k2 := aw_callV (V := V) (M := M) (M' := M') (d := d) (kc := kc) (ks := ks) (pc := pc) (kc' := 0) (ks' := 0) (as := [x1]) (st := st) (L := L) (h := hp S) (R := R) (b := b) (host := "") hd hl ho hn (hp_at (S := S) ht) hq hqc rfl hw k1
  rw [Nat.zero_add, Nat.zero_add] at k2
  exact k2
theorem ax_callV2i {M' : am_M} {idx : Nat} {b ci : Nat} {q : vw_C} {ts : List Nat} {x1 x2 : Value} {r : Int32} {S' : fm} (hd : decode M.2.1 pc = .ok (.invokevirtual idx, 3)) (hl : Cond.methodLink M.1.cls idx M'.1 ∈ am_T) (ho : am_okV M') (hn : (parseMethodDescriptor M'.1.desc).map (fun d => d.parameters.length) = some 2) (ht : am_tab[b]? = some (.inl (ci, ts))) (hq : am_cl[ci]? = some q) (hqc : q.1 = M'.1.cls) (hw : (st.map fun v => v.category).sum ≤ 8) (kk : AF V M' d [.ref b, x1, x2] S (some (.int r)) S') (k : AW V M (d + 1) kc ks (pc + 3) L (.int r :: st) (hp S') R) : AW V M (d + 1) kc ks pc L (x2 :: x1 :: .ref b :: st) (hp S) R := by
  unfold AF at kk
  have k1 : AM V M' d 0 0 (.ref b :: [x1, x2]) (hp S) (fun r' h' => AW V M (d + 1) kc ks (pc + 3) L (r'.toList ++ st) h' R) := by
    refine AM.weaken ?_ kk
    intro r' h' z
    rw [z.1, z.2]
    exact k
  have k2 := aw_callV (V := V) (M := M) (M' := M') (d := d) (kc := kc) (ks := ks) (pc := pc) (kc' := 0) (ks' := 0) (as := [x1, x2]) (st := st) (L := L) (h := hp S) (R := R) (b := b) (host := "") hd hl ho hn (hp_at (S := S) ht) hq hqc rfl hw k1
  rw [Nat.zero_add, Nat.zero_add] at k2
  exact k2
theorem ax_callV2v {M' : am_M} {idx : Nat} {b ci : Nat} {q : vw_C} {ts : List Nat} {x1 x2 : Value} {S' : fm} (hd : decode M.2.1 pc = .ok (.invokevirtual idx, 3)) (hl : Cond.methodLink M.1.cls idx M'.1 ∈ am_T) (ho : am_okV M') (hn : (parseMethodDescriptor M'.1.desc).map (fun d => d.parameters.length) = some 2) (ht : am_tab[b]? = some (.inl (ci, ts))) (hq : am_cl[ci]? = some q) (hqc : q.1 = M'.1.cls) (hw : (st.map fun v => v.category).sum ≤ 8) (kk : AF V M' d [.ref b, x1, x2] S none S') (k : AW V M (d + 1) kc ks (pc + 3) L (st) (hp S') R) : AW V M (d + 1) kc ks pc L (x2 :: x1 :: .ref b :: st) (hp S) R := by
  unfold AF at kk
  have k1 : AM V M' d 0 0 (.ref b :: [x1, x2]) (hp S) (fun r' h' => AW V M (d + 1) kc ks (pc + 3) L (r'.toList ++ st) h' R) := by
    refine AM.weaken ?_ kk
    intro r' h' z
    rw [z.1, z.2]
    exact k
  have k2 := aw_callV (V := V) (M := M) (M' := M') (d := d) (kc := kc) (ks := ks) (pc := pc) (kc' := 0) (ks' := 0) (as := [x1, x2]) (st := st) (L := L) (h := hp S) (R := R) (b := b) (host := "") hd hl ho hn (hp_at (S := S) ht) hq hqc rfl hw k1
  rw [Nat.zero_add, Nat.zero_add] at k2
  exact k2
theorem ax_callV2l {M' : am_M} {idx : Nat} {b ci : Nat} {q : vw_C} {ts : List Nat} {x1 x2 : Value} {r : Int64} {S' : fm} (hd : decode M.2.1 pc = .ok (.invokevirtual idx, 3)) (hl : Cond.methodLink M.1.cls idx M'.1 ∈ am_T) (ho : am_okV M') (hn : (parseMethodDescriptor M'.1.desc).map (fun d => d.parameters.length) = some 2) (ht : am_tab[b]? = some (.inl (ci, ts))) (hq : am_cl[ci]? = some q) (hqc : q.1 = M'.1.cls) (hw : (st.map fun v => v.category).sum ≤ 8) (kk : AF V M' d [.ref b, x1, x2] S (some (.long r)) S') (k : AW V M (d + 1) kc ks (pc + 3) L (.long r :: st) (hp S') R) : AW V M (d + 1) kc ks pc L (x2 :: x1 :: .ref b :: st) (hp S) R := by
  unfold AF at kk
  have k1 : AM V M' d 0 0 (.ref b :: [x1, x2]) (hp S) (fun r' h' => AW V M (d + 1) kc ks (pc + 3) L (r'.toList ++ st) h' R) := by
    refine AM.weaken ?_ kk
    intro r' h' z
    rw [z.1, z.2]
    exact k
  have k2 := aw_callV (V := V) (M := M) (M' := M') (d := d) (kc := kc) (ks := ks) (pc := pc) (kc' := 0) (ks' := 0) (as := [x1, x2]) (st := st) (L := L) (h := hp S) (R := R) (b := b) (host := "") hd hl ho hn (hp_at (S := S) ht) hq hqc rfl hw k1
  rw [Nat.zero_add, Nat.zero_add] at k2
  exact k2
theorem ax_callV2r {M' : am_M} {idx : Nat} {b ci : Nat} {q : vw_C} {ts : List Nat} {x1 x2 : Value} {r : Nat} {S' : fm} (hd : decode M.2.1 pc = .ok (.invokevirtual idx, 3)) (hl : Cond.methodLink M.1.cls idx M'.1 ∈ am_T) (ho : am_okV M') (hn : (parseMethodDescriptor M'.1.desc).map (fun d => d.parameters.length) = some 2) (ht : am_tab[b]? = some (.inl (ci, ts))) (hq : am_cl[ci]? = some q) (hqc : q.1 = M'.1.cls) (hw : (st.map fun v => v.category).sum ≤ 8) (kk : AF V M' d [.ref b, x1, x2] S (some (.ref r)) S') (k : AW V M (d + 1) kc ks (pc + 3) L (.ref r :: st) (hp S') R) : AW V M (d + 1) kc ks pc L (x2 :: x1 :: .ref b :: st) (hp S) R := by
  unfold AF at kk
  have k1 : AM V M' d 0 0 (.ref b :: [x1, x2]) (hp S) (fun r' h' => AW V M (d + 1) kc ks (pc + 3) L (r'.toList ++ st) h' R) := by
    refine AM.weaken ?_ kk
    intro r' h' z
    rw [z.1, z.2]
    exact k
  have k2 := aw_callV (V := V) (M := M) (M' := M') (d := d) (kc := kc) (ks := ks) (pc := pc) (kc' := 0) (ks' := 0) (as := [x1, x2]) (st := st) (L := L) (h := hp S) (R := R) (b := b) (host := "") hd hl ho hn (hp_at (S := S) ht) hq hqc rfl hw k1
  rw [Nat.zero_add, Nat.zero_add] at k2
  exact k2
theorem ax_callV3i {M' : am_M} {idx : Nat} {b ci : Nat} {q : vw_C} {ts : List Nat} {x1 x2 x3 : Value} {r : Int32} {S' : fm} (hd : decode M.2.1 pc = .ok (.invokevirtual idx, 3)) (hl : Cond.methodLink M.1.cls idx M'.1 ∈ am_T) (ho : am_okV M') (hn : (parseMethodDescriptor M'.1.desc).map (fun d => d.parameters.length) = some 3) (ht : am_tab[b]? = some (.inl (ci, ts))) (hq : am_cl[ci]? = some q) (hqc : q.1 = M'.1.cls) (hw : (st.map fun v => v.category).sum ≤ 8) (kk : AF V M' d [.ref b, x1, x2, x3] S (some (.int r)) S') (k : AW V M (d + 1) kc ks (pc + 3) L (.int r :: st) (hp S') R) : AW V M (d + 1) kc ks pc L (x3 :: x2 :: x1 :: .ref b :: st) (hp S) R := by
  unfold AF at kk
  have k1 : AM V M' d 0 0 (.ref b :: [x1, x2, x3]) (hp S) (fun r' h' => AW V M (d + 1) kc ks (pc + 3) L (r'.toList ++ st) h' R) := by
    refine AM.weaken ?_ kk
    intro r' h' z
    rw [z.1, z.2]
    exact k
  have k2 := aw_callV (V := V) (M := M) (M' := M') (d := d) (kc := kc) (ks := ks) (pc := pc) (kc' := 0) (ks' := 0) (as := [x1, x2, x3]) (st := st) (L := L) (h := hp S) (R := R) (b := b) (host := "") hd hl ho hn (hp_at (S := S) ht) hq hqc rfl hw k1
  rw [Nat.zero_add, Nat.zero_add] at k2
  exact k2
theorem ax_callV3v {M' : am_M} {idx : Nat} {b ci : Nat} {q : vw_C} {ts : List Nat} {x1 x2 x3 : Value} {S' : fm} (hd : decode M.2.1 pc = .ok (.invokevirtual idx, 3)) (hl : Cond.methodLink M.1.cls idx M'.1 ∈ am_T) (ho : am_okV M') (hn : (parseMethodDescriptor M'.1.desc).map (fun d => d.parameters.length) = some 3) (ht : am_tab[b]? = some (.inl (ci, ts))) (hq : am_cl[ci]? = some q) (hqc : q.1 = M'.1.cls) (hw : (st.map fun v => v.category).sum ≤ 8) (kk : AF V M' d [.ref b, x1, x2, x3] S none S') (k : AW V M (d + 1) kc ks (pc + 3) L (st) (hp S') R) : AW V M (d + 1) kc ks pc L (x3 :: x2 :: x1 :: .ref b :: st) (hp S) R := by
  unfold AF at kk
  have k1 : AM V M' d 0 0 (.ref b :: [x1, x2, x3]) (hp S) (fun r' h' => AW V M (d + 1) kc ks (pc + 3) L (r'.toList ++ st) h' R) := by
    refine AM.weaken ?_ kk
    intro r' h' z
    rw [z.1, z.2]
    exact k
  have k2 := aw_callV (V := V) (M := M) (M' := M') (d := d) (kc := kc) (ks := ks) (pc := pc) (kc' := 0) (ks' := 0) (as := [x1, x2, x3]) (st := st) (L := L) (h := hp S) (R := R) (b := b) (host := "") hd hl ho hn (hp_at (S := S) ht) hq hqc rfl hw k1
  rw [Nat.zero_add, Nat.zero_add] at k2
  exact k2
theorem ax_callV3l {M' : am_M} {idx : Nat} {b ci : Nat} {q : vw_C} {ts : List Nat} {x1 x2 x3 : Value} {r : Int64} {S' : fm} (hd : decode M.2.1 pc = .ok (.invokevirtual idx, 3)) (hl : Cond.methodLink M.1.cls idx M'.1 ∈ am_T) (ho : am_okV M') (hn : (parseMethodDescriptor M'.1.desc).map (fun d => d.parameters.length) = some 3) (ht : am_tab[b]? = some (.inl (ci, ts))) (hq : am_cl[ci]? = some q) (hqc : q.1 = M'.1.cls) (hw : (st.map fun v => v.category).sum ≤ 8) (kk : AF V M' d [.ref b, x1, x2, x3] S (some (.long r)) S') (k : AW V M (d + 1) kc ks (pc + 3) L (.long r :: st) (hp S') R) : AW V M (d + 1) kc ks pc L (x3 :: x2 :: x1 :: .ref b :: st) (hp S) R := by
  unfold AF at kk
  have k1 : AM V M' d 0 0 (.ref b :: [x1, x2, x3]) (hp S) (fun r' h' => AW V M (d + 1) kc ks (pc + 3) L (r'.toList ++ st) h' R) := by
    refine AM.weaken ?_ kk
    intro r' h' z
    rw [z.1, z.2]
    exact k
  have k2 := aw_callV (V := V) (M := M) (M' := M') (d := d) (kc := kc) (ks := ks) (pc := pc) (kc' := 0) (ks' := 0) (as := [x1, x2, x3]) (st := st) (L := L) (h := hp S) (R := R) (b := b) (host := "") hd hl ho hn (hp_at (S := S) ht) hq hqc rfl hw k1
  rw [Nat.zero_add, Nat.zero_add] at k2
  exact k2
theorem ax_callV3r {M' : am_M} {idx : Nat} {b ci : Nat} {q : vw_C} {ts : List Nat} {x1 x2 x3 : Value} {r : Nat} {S' : fm} (hd : decode M.2.1 pc = .ok (.invokevirtual idx, 3)) (hl : Cond.methodLink M.1.cls idx M'.1 ∈ am_T) (ho : am_okV M') (hn : (parseMethodDescriptor M'.1.desc).map (fun d => d.parameters.length) = some 3) (ht : am_tab[b]? = some (.inl (ci, ts))) (hq : am_cl[ci]? = some q) (hqc : q.1 = M'.1.cls) (hw : (st.map fun v => v.category).sum ≤ 8) (kk : AF V M' d [.ref b, x1, x2, x3] S (some (.ref r)) S') (k : AW V M (d + 1) kc ks (pc + 3) L (.ref r :: st) (hp S') R) : AW V M (d + 1) kc ks pc L (x3 :: x2 :: x1 :: .ref b :: st) (hp S) R := by
  unfold AF at kk
  have k1 : AM V M' d 0 0 (.ref b :: [x1, x2, x3]) (hp S) (fun r' h' => AW V M (d + 1) kc ks (pc + 3) L (r'.toList ++ st) h' R) := by
    refine AM.weaken ?_ kk
    intro r' h' z
    rw [z.1, z.2]
    exact k
  have k2 := aw_callV (V := V) (M := M) (M' := M') (d := d) (kc := kc) (ks := ks) (pc := pc) (kc' := 0) (ks' := 0) (as := [x1, x2, x3]) (st := st) (L := L) (h := hp S) (R := R) (b := b) (host := "") hd hl ho hn (hp_at (S := S) ht) hq hqc rfl hw k1
  rw [Nat.zero_add, Nat.zero_add] at k2
  exact k2
theorem ax_callV4i {M' : am_M} {idx : Nat} {b ci : Nat} {q : vw_C} {ts : List Nat} {x1 x2 x3 x4 : Value} {r : Int32} {S' : fm} (hd : decode M.2.1 pc = .ok (.invokevirtual idx, 3)) (hl : Cond.methodLink M.1.cls idx M'.1 ∈ am_T) (ho : am_okV M') (hn : (parseMethodDescriptor M'.1.desc).map (fun d => d.parameters.length) = some 4) (ht : am_tab[b]? = some (.inl (ci, ts))) (hq : am_cl[ci]? = some q) (hqc : q.1 = M'.1.cls) (hw : (st.map fun v => v.category).sum ≤ 8) (kk : AF V M' d [.ref b, x1, x2, x3, x4] S (some (.int r)) S') (k : AW V M (d + 1) kc ks (pc + 3) L (.int r :: st) (hp S') R) : AW V M (d + 1) kc ks pc L (x4 :: x3 :: x2 :: x1 :: .ref b :: st) (hp S) R := by
  unfold AF at kk
  have k1 : AM V M' d 0 0 (.ref b :: [x1, x2, x3, x4]) (hp S) (fun r' h' => AW V M (d + 1) kc ks (pc + 3) L (r'.toList ++ st) h' R) := by
    refine AM.weaken ?_ kk
    intro r' h' z
    rw [z.1, z.2]
    exact k
  have k2 := aw_callV (V := V) (M := M) (M' := M') (d := d) (kc := kc) (ks := ks) (pc := pc) (kc' := 0) (ks' := 0) (as := [x1, x2, x3, x4]) (st := st) (L := L) (h := hp S) (R := R) (b := b) (host := "") hd hl ho hn (hp_at (S := S) ht) hq hqc rfl hw k1
  rw [Nat.zero_add, Nat.zero_add] at k2
  exact k2
theorem ax_callV4v {M' : am_M} {idx : Nat} {b ci : Nat} {q : vw_C} {ts : List Nat} {x1 x2 x3 x4 : Value} {S' : fm} (hd : decode M.2.1 pc = .ok (.invokevirtual idx, 3)) (hl : Cond.methodLink M.1.cls idx M'.1 ∈ am_T) (ho : am_okV M') (hn : (parseMethodDescriptor M'.1.desc).map (fun d => d.parameters.length) = some 4) (ht : am_tab[b]? = some (.inl (ci, ts))) (hq : am_cl[ci]? = some q) (hqc : q.1 = M'.1.cls) (hw : (st.map fun v => v.category).sum ≤ 8) (kk : AF V M' d [.ref b, x1, x2, x3, x4] S none S') (k : AW V M (d + 1) kc ks (pc + 3) L (st) (hp S') R) : AW V M (d + 1) kc ks pc L (x4 :: x3 :: x2 :: x1 :: .ref b :: st) (hp S) R := by
  unfold AF at kk
  have k1 : AM V M' d 0 0 (.ref b :: [x1, x2, x3, x4]) (hp S) (fun r' h' => AW V M (d + 1) kc ks (pc + 3) L (r'.toList ++ st) h' R) := by
    refine AM.weaken ?_ kk
    intro r' h' z
    rw [z.1, z.2]
    exact k
  have k2 := aw_callV (V := V) (M := M) (M' := M') (d := d) (kc := kc) (ks := ks) (pc := pc) (kc' := 0) (ks' := 0) (as := [x1, x2, x3, x4]) (st := st) (L := L) (h := hp S) (R := R) (b := b) (host := "") hd hl ho hn (hp_at (S := S) ht) hq hqc rfl hw k1
  rw [Nat.zero_add, Nat.zero_add] at k2
  exact k2
theorem ax_callV4l {M' : am_M} {idx : Nat} {b ci : Nat} {q : vw_C} {ts : List Nat} {x1 x2 x3 x4 : Value} {r : Int64} {S' : fm} (hd : decode M.2.1 pc = .ok (.invokevirtual idx, 3)) (hl : Cond.methodLink M.1.cls idx M'.1 ∈ am_T) (ho : am_okV M') (hn : (parseMethodDescriptor M'.1.desc).map (fun d => d.parameters.length) = some 4) (ht : am_tab[b]? = some (.inl (ci, ts))) (hq : am_cl[ci]? = some q) (hqc : q.1 = M'.1.cls) (hw : (st.map fun v => v.category).sum ≤ 8) (kk : AF V M' d [.ref b, x1, x2, x3, x4] S (some (.long r)) S') (k : AW V M (d + 1) kc ks (pc + 3) L (.long r :: st) (hp S') R) : AW V M (d + 1) kc ks pc L (x4 :: x3 :: x2 :: x1 :: .ref b :: st) (hp S) R := by
  unfold AF at kk
  have k1 : AM V M' d 0 0 (.ref b :: [x1, x2, x3, x4]) (hp S) (fun r' h' => AW V M (d + 1) kc ks (pc + 3) L (r'.toList ++ st) h' R) := by
    refine AM.weaken ?_ kk
    intro r' h' z
    rw [z.1, z.2]
    exact k
  have k2 := aw_callV (V := V) (M := M) (M' := M') (d := d) (kc := kc) (ks := ks) (pc := pc) (kc' := 0) (ks' := 0) (as := [x1, x2, x3, x4]) (st := st) (L := L) (h := hp S) (R := R) (b := b) (host := "") hd hl ho hn (hp_at (S := S) ht) hq hqc rfl hw k1
  rw [Nat.zero_add, Nat.zero_add] at k2
  exact k2
theorem ax_callV4r {M' : am_M} {idx : Nat} {b ci : Nat} {q : vw_C} {ts : List Nat} {x1 x2 x3 x4 : Value} {r : Nat} {S' : fm} (hd : decode M.2.1 pc = .ok (.invokevirtual idx, 3)) (hl : Cond.methodLink M.1.cls idx M'.1 ∈ am_T) (ho : am_okV M') (hn : (parseMethodDescriptor M'.1.desc).map (fun d => d.parameters.length) = some 4) (ht : am_tab[b]? = some (.inl (ci, ts))) (hq : am_cl[ci]? = some q) (hqc : q.1 = M'.1.cls) (hw : (st.map fun v => v.category).sum ≤ 8) (kk : AF V M' d [.ref b, x1, x2, x3, x4] S (some (.ref r)) S') (k : AW V M (d + 1) kc ks (pc + 3) L (.ref r :: st) (hp S') R) : AW V M (d + 1) kc ks pc L (x4 :: x3 :: x2 :: x1 :: .ref b :: st) (hp S) R := by
  unfold AF at kk
  have k1 : AM V M' d 0 0 (.ref b :: [x1, x2, x3, x4]) (hp S) (fun r' h' => AW V M (d + 1) kc ks (pc + 3) L (r'.toList ++ st) h' R) := by
    refine AM.weaken ?_ kk
    intro r' h' z
    rw [z.1, z.2]
    exact k
  have k2 := aw_callV (V := V) (M := M) (M' := M') (d := d) (kc := kc) (ks := ks) (pc := pc) (kc' := 0) (ks' := 0) (as := [x1, x2, x3, x4]) (st := st) (L := L) (h := hp S) (R := R) (b := b) (host := "") hd hl ho hn (hp_at (S := S) ht) hq hqc rfl hw k1
  rw [Nat.zero_add, Nat.zero_add] at k2
  exact k2
theorem ax_callV5i {M' : am_M} {idx : Nat} {b ci : Nat} {q : vw_C} {ts : List Nat} {x1 x2 x3 x4 x5 : Value} {r : Int32} {S' : fm} (hd : decode M.2.1 pc = .ok (.invokevirtual idx, 3)) (hl : Cond.methodLink M.1.cls idx M'.1 ∈ am_T) (ho : am_okV M') (hn : (parseMethodDescriptor M'.1.desc).map (fun d => d.parameters.length) = some 5) (ht : am_tab[b]? = some (.inl (ci, ts))) (hq : am_cl[ci]? = some q) (hqc : q.1 = M'.1.cls) (hw : (st.map fun v => v.category).sum ≤ 8) (kk : AF V M' d [.ref b, x1, x2, x3, x4, x5] S (some (.int r)) S') (k : AW V M (d + 1) kc ks (pc + 3) L (.int r :: st) (hp S') R) : AW V M (d + 1) kc ks pc L (x5 :: x4 :: x3 :: x2 :: x1 :: .ref b :: st) (hp S) R := by
  unfold AF at kk
  have k1 : AM V M' d 0 0 (.ref b :: [x1, x2, x3, x4, x5]) (hp S) (fun r' h' => AW V M (d + 1) kc ks (pc + 3) L (r'.toList ++ st) h' R) := by
    refine AM.weaken ?_ kk
    intro r' h' z
    rw [z.1, z.2]
    exact k
  have k2 := aw_callV (V := V) (M := M) (M' := M') (d := d) (kc := kc) (ks := ks) (pc := pc) (kc' := 0) (ks' := 0) (as := [x1, x2, x3, x4, x5]) (st := st) (L := L) (h := hp S) (R := R) (b := b) (host := "") hd hl ho hn (hp_at (S := S) ht) hq hqc rfl hw k1
  rw [Nat.zero_add, Nat.zero_add] at k2
  exact k2
theorem ax_callV5v {M' : am_M} {idx : Nat} {b ci : Nat} {q : vw_C} {ts : List Nat} {x1 x2 x3 x4 x5 : Value} {S' : fm} (hd : decode M.2.1 pc = .ok (.invokevirtual idx, 3)) (hl : Cond.methodLink M.1.cls idx M'.1 ∈ am_T) (ho : am_okV M') (hn : (parseMethodDescriptor M'.1.desc).map (fun d => d.parameters.length) = some 5) (ht : am_tab[b]? = some (.inl (ci, ts))) (hq : am_cl[ci]? = some q) (hqc : q.1 = M'.1.cls) (hw : (st.map fun v => v.category).sum ≤ 8) (kk : AF V M' d [.ref b, x1, x2, x3, x4, x5] S none S') (k : AW V M (d + 1) kc ks (pc + 3) L (st) (hp S') R) : AW V M (d + 1) kc ks pc L (x5 :: x4 :: x3 :: x2 :: x1 :: .ref b :: st) (hp S) R := by
  unfold AF at kk
  have k1 : AM V M' d 0 0 (.ref b :: [x1, x2, x3, x4, x5]) (hp S) (fun r' h' => AW V M (d + 1) kc ks (pc + 3) L (r'.toList ++ st) h' R) := by
    refine AM.weaken ?_ kk
    intro r' h' z
    rw [z.1, z.2]
    exact k
  have k2 := aw_callV (V := V) (M := M) (M' := M') (d := d) (kc := kc) (ks := ks) (pc := pc) (kc' := 0) (ks' := 0) (as := [x1, x2, x3, x4, x5]) (st := st) (L := L) (h := hp S) (R := R) (b := b) (host := "") hd hl ho hn (hp_at (S := S) ht) hq hqc rfl hw k1
  rw [Nat.zero_add, Nat.zero_add] at k2
  exact k2
theorem ax_callV5l {M' : am_M} {idx : Nat} {b ci : Nat} {q : vw_C} {ts : List Nat} {x1 x2 x3 x4 x5 : Value} {r : Int64} {S' : fm} (hd : decode M.2.1 pc = .ok (.invokevirtual idx, 3)) (hl : Cond.methodLink M.1.cls idx M'.1 ∈ am_T) (ho : am_okV M') (hn : (parseMethodDescriptor M'.1.desc).map (fun d => d.parameters.length) = some 5) (ht : am_tab[b]? = some (.inl (ci, ts))) (hq : am_cl[ci]? = some q) (hqc : q.1 = M'.1.cls) (hw : (st.map fun v => v.category).sum ≤ 8) (kk : AF V M' d [.ref b, x1, x2, x3, x4, x5] S (some (.long r)) S') (k : AW V M (d + 1) kc ks (pc + 3) L (.long r :: st) (hp S') R) : AW V M (d + 1) kc ks pc L (x5 :: x4 :: x3 :: x2 :: x1 :: .ref b :: st) (hp S) R := by
  unfold AF at kk
  have k1 : AM V M' d 0 0 (.ref b :: [x1, x2, x3, x4, x5]) (hp S) (fun r' h' => AW V M (d + 1) kc ks (pc + 3) L (r'.toList ++ st) h' R) := by
    refine AM.weaken ?_ kk
    intro r' h' z
    rw [z.1, z.2]
    exact k
  have k2 := aw_callV (V := V) (M := M) (M' := M') (d := d) (kc := kc) (ks := ks) (pc := pc) (kc' := 0) (ks' := 0) (as := [x1, x2, x3, x4, x5]) (st := st) (L := L) (h := hp S) (R := R) (b := b) (host := "") hd hl ho hn (hp_at (S := S) ht) hq hqc rfl hw k1
  rw [Nat.zero_add, Nat.zero_add] at k2
  exact k2
theorem ax_callV5r {M' : am_M} {idx : Nat} {b ci : Nat} {q : vw_C} {ts : List Nat} {x1 x2 x3 x4 x5 : Value} {r : Nat} {S' : fm} (hd : decode M.2.1 pc = .ok (.invokevirtual idx, 3)) (hl : Cond.methodLink M.1.cls idx M'.1 ∈ am_T) (ho : am_okV M') (hn : (parseMethodDescriptor M'.1.desc).map (fun d => d.parameters.length) = some 5) (ht : am_tab[b]? = some (.inl (ci, ts))) (hq : am_cl[ci]? = some q) (hqc : q.1 = M'.1.cls) (hw : (st.map fun v => v.category).sum ≤ 8) (kk : AF V M' d [.ref b, x1, x2, x3, x4, x5] S (some (.ref r)) S') (k : AW V M (d + 1) kc ks (pc + 3) L (.ref r :: st) (hp S') R) : AW V M (d + 1) kc ks pc L (x5 :: x4 :: x3 :: x2 :: x1 :: .ref b :: st) (hp S) R := by
  unfold AF at kk
  have k1 : AM V M' d 0 0 (.ref b :: [x1, x2, x3, x4, x5]) (hp S) (fun r' h' => AW V M (d + 1) kc ks (pc + 3) L (r'.toList ++ st) h' R) := by
    refine AM.weaken ?_ kk
    intro r' h' z
    rw [z.1, z.2]
    exact k
  have k2 := aw_callV (V := V) (M := M) (M' := M') (d := d) (kc := kc) (ks := ks) (pc := pc) (kc' := 0) (ks' := 0) (as := [x1, x2, x3, x4, x5]) (st := st) (L := L) (h := hp S) (R := R) (b := b) (host := "") hd hl ho hn (hp_at (S := S) ht) hq hqc rfl hw k1
  rw [Nat.zero_add, Nat.zero_add] at k2
  exact k2
theorem ax_callS0i {M' : am_M} {idx : Nat} {r : Int32} {S' : fm} (hd : decode M.2.1 pc = .ok (.invokestatic idx, 3)) (hl : Cond.methodLink M.1.cls idx M'.1 ∈ am_T) (ho : am_okS M') (hn : (parseMethodDescriptor M'.1.desc).map (fun d => d.parameters.length) = some 0) (hw : (st.map fun v => v.category).sum ≤ 8) (kk : AF V M' d [] S (some (.int r)) S') (k : AW V M (d + 1) kc ks (pc + 3) L (.int r :: st) (hp S') R) : AW V M (d + 1) kc ks pc L (st) (hp S) R := by
  unfold AF at kk
  have k1 : AM V M' d 0 0 [] (hp S) (fun r' h' => AW V M (d + 1) kc ks (pc + 3) L (r'.toList ++ st) h' R) := by
    refine AM.weaken ?_ kk
    intro r' h' z
    rw [z.1, z.2]
    exact k
  have k2 := aw_callS (V := V) (M := M) (M' := M') (d := d) (kc := kc) (ks := ks) (pc := pc) (kc' := 0) (ks' := 0) (as := []) (st := st) (L := L) (h := hp S) (R := R) (b := 0) (ci := 0) (q := (RX0, TX0, 12)) (fs := []) (host := "") hd hl ho hn rfl hw k1
  rw [Nat.zero_add, Nat.zero_add] at k2
  exact k2
theorem ax_callS0v {M' : am_M} {idx : Nat} {S' : fm} (hd : decode M.2.1 pc = .ok (.invokestatic idx, 3)) (hl : Cond.methodLink M.1.cls idx M'.1 ∈ am_T) (ho : am_okS M') (hn : (parseMethodDescriptor M'.1.desc).map (fun d => d.parameters.length) = some 0) (hw : (st.map fun v => v.category).sum ≤ 8) (kk : AF V M' d [] S none S') (k : AW V M (d + 1) kc ks (pc + 3) L (st) (hp S') R) : AW V M (d + 1) kc ks pc L (st) (hp S) R := by
  unfold AF at kk
  have k1 : AM V M' d 0 0 [] (hp S) (fun r' h' => AW V M (d + 1) kc ks (pc + 3) L (r'.toList ++ st) h' R) := by
    refine AM.weaken ?_ kk
    intro r' h' z
    rw [z.1, z.2]
    exact k
  have k2 := aw_callS (V := V) (M := M) (M' := M') (d := d) (kc := kc) (ks := ks) (pc := pc) (kc' := 0) (ks' := 0) (as := []) (st := st) (L := L) (h := hp S) (R := R) (b := 0) (ci := 0) (q := (RX0, TX0, 12)) (fs := []) (host := "") hd hl ho hn rfl hw k1
  rw [Nat.zero_add, Nat.zero_add] at k2
  exact k2
theorem ax_callS1i {M' : am_M} {idx : Nat} {x1 : Value} {r : Int32} {S' : fm} (hd : decode M.2.1 pc = .ok (.invokestatic idx, 3)) (hl : Cond.methodLink M.1.cls idx M'.1 ∈ am_T) (ho : am_okS M') (hn : (parseMethodDescriptor M'.1.desc).map (fun d => d.parameters.length) = some 1) (hw : (st.map fun v => v.category).sum ≤ 8) (kk : AF V M' d [x1] S (some (.int r)) S') (k : AW V M (d + 1) kc ks (pc + 3) L (.int r :: st) (hp S') R) : AW V M (d + 1) kc ks pc L (x1 :: st) (hp S) R := by
  unfold AF at kk
  have k1 : AM V M' d 0 0 [x1] (hp S) (fun r' h' => AW V M (d + 1) kc ks (pc + 3) L (r'.toList ++ st) h' R) := by
    refine AM.weaken ?_ kk
    intro r' h' z
    rw [z.1, z.2]
    exact k
  have k2 := aw_callS (V := V) (M := M) (M' := M') (d := d) (kc := kc) (ks := ks) (pc := pc) (kc' := 0) (ks' := 0) (as := [x1]) (st := st) (L := L) (h := hp S) (R := R) (b := 0) (ci := 0) (q := (RX0, TX0, 12)) (fs := []) (host := "") hd hl ho hn rfl hw k1
  rw [Nat.zero_add, Nat.zero_add] at k2
  exact k2
theorem ax_callS1v {M' : am_M} {idx : Nat} {x1 : Value} {S' : fm} (hd : decode M.2.1 pc = .ok (.invokestatic idx, 3)) (hl : Cond.methodLink M.1.cls idx M'.1 ∈ am_T) (ho : am_okS M') (hn : (parseMethodDescriptor M'.1.desc).map (fun d => d.parameters.length) = some 1) (hw : (st.map fun v => v.category).sum ≤ 8) (kk : AF V M' d [x1] S none S') (k : AW V M (d + 1) kc ks (pc + 3) L (st) (hp S') R) : AW V M (d + 1) kc ks pc L (x1 :: st) (hp S) R := by
  unfold AF at kk
  have k1 : AM V M' d 0 0 [x1] (hp S) (fun r' h' => AW V M (d + 1) kc ks (pc + 3) L (r'.toList ++ st) h' R) := by
    refine AM.weaken ?_ kk
    intro r' h' z
    rw [z.1, z.2]
    exact k
  have k2 := aw_callS (V := V) (M := M) (M' := M') (d := d) (kc := kc) (ks := ks) (pc := pc) (kc' := 0) (ks' := 0) (as := [x1]) (st := st) (L := L) (h := hp S) (R := R) (b := 0) (ci := 0) (q := (RX0, TX0, 12)) (fs := []) (host := "") hd hl ho hn rfl hw k1
  rw [Nat.zero_add, Nat.zero_add] at k2
  exact k2
theorem ax_callS1l {M' : am_M} {idx : Nat} {x1 : Value} {r : Int64} {S' : fm} (hd : decode M.2.1 pc = .ok (.invokestatic idx, 3)) (hl : Cond.methodLink M.1.cls idx M'.1 ∈ am_T) (ho : am_okS M') (hn : (parseMethodDescriptor M'.1.desc).map (fun d => d.parameters.length) = some 1) (hw : (st.map fun v => v.category).sum ≤ 8) (kk : AF V M' d [x1] S (some (.long r)) S') (k : AW V M (d + 1) kc ks (pc + 3) L (.long r :: st) (hp S') R) : AW V M (d + 1) kc ks pc L (x1 :: st) (hp S) R := by
  unfold AF at kk
  have k1 : AM V M' d 0 0 [x1] (hp S) (fun r' h' => AW V M (d + 1) kc ks (pc + 3) L (r'.toList ++ st) h' R) := by
    refine AM.weaken ?_ kk
    intro r' h' z
    rw [z.1, z.2]
    exact k
  have k2 := aw_callS (V := V) (M := M) (M' := M') (d := d) (kc := kc) (ks := ks) (pc := pc) (kc' := 0) (ks' := 0) (as := [x1]) (st := st) (L := L) (h := hp S) (R := R) (b := 0) (ci := 0) (q := (RX0, TX0, 12)) (fs := []) (host := "") hd hl ho hn rfl hw k1
  rw [Nat.zero_add, Nat.zero_add] at k2
  exact k2
theorem ax_callS1r {M' : am_M} {idx : Nat} {x1 : Value} {r : Nat} {S' : fm} (hd : decode M.2.1 pc = .ok (.invokestatic idx, 3)) (hl : Cond.methodLink M.1.cls idx M'.1 ∈ am_T) (ho : am_okS M') (hn : (parseMethodDescriptor M'.1.desc).map (fun d => d.parameters.length) = some 1) (hw : (st.map fun v => v.category).sum ≤ 8) (kk : AF V M' d [x1] S (some (.ref r)) S') (k : AW V M (d + 1) kc ks (pc + 3) L (.ref r :: st) (hp S') R) : AW V M (d + 1) kc ks pc L (x1 :: st) (hp S) R := by
  unfold AF at kk
  have k1 : AM V M' d 0 0 [x1] (hp S) (fun r' h' => AW V M (d + 1) kc ks (pc + 3) L (r'.toList ++ st) h' R) := by
    refine AM.weaken ?_ kk
    intro r' h' z
    rw [z.1, z.2]
    exact k
  have k2 := aw_callS (V := V) (M := M) (M' := M') (d := d) (kc := kc) (ks := ks) (pc := pc) (kc' := 0) (ks' := 0) (as := [x1]) (st := st) (L := L) (h := hp S) (R := R) (b := 0) (ci := 0) (q := (RX0, TX0, 12)) (fs := []) (host := "") hd hl ho hn rfl hw k1
  rw [Nat.zero_add, Nat.zero_add] at k2
  exact k2
theorem ax_callS2i {M' : am_M} {idx : Nat} {x1 x2 : Value} {r : Int32} {S' : fm} (hd : decode M.2.1 pc = .ok (.invokestatic idx, 3)) (hl : Cond.methodLink M.1.cls idx M'.1 ∈ am_T) (ho : am_okS M') (hn : (parseMethodDescriptor M'.1.desc).map (fun d => d.parameters.length) = some 2) (hw : (st.map fun v => v.category).sum ≤ 8) (kk : AF V M' d [x1, x2] S (some (.int r)) S') (k : AW V M (d + 1) kc ks (pc + 3) L (.int r :: st) (hp S') R) : AW V M (d + 1) kc ks pc L (x2 :: x1 :: st) (hp S) R := by
  unfold AF at kk
  have k1 : AM V M' d 0 0 [x1, x2] (hp S) (fun r' h' => AW V M (d + 1) kc ks (pc + 3) L (r'.toList ++ st) h' R) := by
    refine AM.weaken ?_ kk
    intro r' h' z
    rw [z.1, z.2]
    exact k
  have k2 := aw_callS (V := V) (M := M) (M' := M') (d := d) (kc := kc) (ks := ks) (pc := pc) (kc' := 0) (ks' := 0) (as := [x1, x2]) (st := st) (L := L) (h := hp S) (R := R) (b := 0) (ci := 0) (q := (RX0, TX0, 12)) (fs := []) (host := "") hd hl ho hn rfl hw k1
  rw [Nat.zero_add, Nat.zero_add] at k2
  exact k2
theorem ax_callS2v {M' : am_M} {idx : Nat} {x1 x2 : Value} {S' : fm} (hd : decode M.2.1 pc = .ok (.invokestatic idx, 3)) (hl : Cond.methodLink M.1.cls idx M'.1 ∈ am_T) (ho : am_okS M') (hn : (parseMethodDescriptor M'.1.desc).map (fun d => d.parameters.length) = some 2) (hw : (st.map fun v => v.category).sum ≤ 8) (kk : AF V M' d [x1, x2] S none S') (k : AW V M (d + 1) kc ks (pc + 3) L (st) (hp S') R) : AW V M (d + 1) kc ks pc L (x2 :: x1 :: st) (hp S) R := by
  unfold AF at kk
  have k1 : AM V M' d 0 0 [x1, x2] (hp S) (fun r' h' => AW V M (d + 1) kc ks (pc + 3) L (r'.toList ++ st) h' R) := by
    refine AM.weaken ?_ kk
    intro r' h' z
    rw [z.1, z.2]
    exact k
  have k2 := aw_callS (V := V) (M := M) (M' := M') (d := d) (kc := kc) (ks := ks) (pc := pc) (kc' := 0) (ks' := 0) (as := [x1, x2]) (st := st) (L := L) (h := hp S) (R := R) (b := 0) (ci := 0) (q := (RX0, TX0, 12)) (fs := []) (host := "") hd hl ho hn rfl hw k1
  rw [Nat.zero_add, Nat.zero_add] at k2
  exact k2
theorem ax_callS2l {M' : am_M} {idx : Nat} {x1 x2 : Value} {r : Int64} {S' : fm} (hd : decode M.2.1 pc = .ok (.invokestatic idx, 3)) (hl : Cond.methodLink M.1.cls idx M'.1 ∈ am_T) (ho : am_okS M') (hn : (parseMethodDescriptor M'.1.desc).map (fun d => d.parameters.length) = some 2) (hw : (st.map fun v => v.category).sum ≤ 8) (kk : AF V M' d [x1, x2] S (some (.long r)) S') (k : AW V M (d + 1) kc ks (pc + 3) L (.long r :: st) (hp S') R) : AW V M (d + 1) kc ks pc L (x2 :: x1 :: st) (hp S) R := by
  unfold AF at kk
  have k1 : AM V M' d 0 0 [x1, x2] (hp S) (fun r' h' => AW V M (d + 1) kc ks (pc + 3) L (r'.toList ++ st) h' R) := by
    refine AM.weaken ?_ kk
    intro r' h' z
    rw [z.1, z.2]
    exact k
  have k2 := aw_callS (V := V) (M := M) (M' := M') (d := d) (kc := kc) (ks := ks) (pc := pc) (kc' := 0) (ks' := 0) (as := [x1, x2]) (st := st) (L := L) (h := hp S) (R := R) (b := 0) (ci := 0) (q := (RX0, TX0, 12)) (fs := []) (host := "") hd hl ho hn rfl hw k1
  rw [Nat.zero_add, Nat.zero_add] at k2
  exact k2
theorem ax_callS2r {M' : am_M} {idx : Nat} {x1 x2 : Value} {r : Nat} {S' : fm} (hd : decode M.2.1 pc = .ok (.invokestatic idx, 3)) (hl : Cond.methodLink M.1.cls idx M'.1 ∈ am_T) (ho : am_okS M') (hn : (parseMethodDescriptor M'.1.desc).map (fun d => d.parameters.length) = some 2) (hw : (st.map fun v => v.category).sum ≤ 8) (kk : AF V M' d [x1, x2] S (some (.ref r)) S') (k : AW V M (d + 1) kc ks (pc + 3) L (.ref r :: st) (hp S') R) : AW V M (d + 1) kc ks pc L (x2 :: x1 :: st) (hp S) R := by
  unfold AF at kk
  have k1 : AM V M' d 0 0 [x1, x2] (hp S) (fun r' h' => AW V M (d + 1) kc ks (pc + 3) L (r'.toList ++ st) h' R) := by
    refine AM.weaken ?_ kk
    intro r' h' z
    rw [z.1, z.2]
    exact k
  have k2 := aw_callS (V := V) (M := M) (M' := M') (d := d) (kc := kc) (ks := ks) (pc := pc) (kc' := 0) (ks' := 0) (as := [x1, x2]) (st := st) (L := L) (h := hp S) (R := R) (b := 0) (ci := 0) (q := (RX0, TX0, 12)) (fs := []) (host := "") hd hl ho hn rfl hw k1
  rw [Nat.zero_add, Nat.zero_add] at k2
  exact k2
theorem ax_callS3i {M' : am_M} {idx : Nat} {x1 x2 x3 : Value} {r : Int32} {S' : fm} (hd : decode M.2.1 pc = .ok (.invokestatic idx, 3)) (hl : Cond.methodLink M.1.cls idx M'.1 ∈ am_T) (ho : am_okS M') (hn : (parseMethodDescriptor M'.1.desc).map (fun d => d.parameters.length) = some 3) (hw : (st.map fun v => v.category).sum ≤ 8) (kk : AF V M' d [x1, x2, x3] S (some (.int r)) S') (k : AW V M (d + 1) kc ks (pc + 3) L (.int r :: st) (hp S') R) : AW V M (d + 1) kc ks pc L (x3 :: x2 :: x1 :: st) (hp S) R := by
  unfold AF at kk
  have k1 : AM V M' d 0 0 [x1, x2, x3] (hp S) (fun r' h' => AW V M (d + 1) kc ks (pc + 3) L (r'.toList ++ st) h' R) := by
    refine AM.weaken ?_ kk
    intro r' h' z
    rw [z.1, z.2]
    exact k
  have k2 := aw_callS (V := V) (M := M) (M' := M') (d := d) (kc := kc) (ks := ks) (pc := pc) (kc' := 0) (ks' := 0) (as := [x1, x2, x3]) (st := st) (L := L) (h := hp S) (R := R) (b := 0) (ci := 0) (q := (RX0, TX0, 12)) (fs := []) (host := "") hd hl ho hn rfl hw k1
  rw [Nat.zero_add, Nat.zero_add] at k2
  exact k2
theorem ax_callS3v {M' : am_M} {idx : Nat} {x1 x2 x3 : Value} {S' : fm} (hd : decode M.2.1 pc = .ok (.invokestatic idx, 3)) (hl : Cond.methodLink M.1.cls idx M'.1 ∈ am_T) (ho : am_okS M') (hn : (parseMethodDescriptor M'.1.desc).map (fun d => d.parameters.length) = some 3) (hw : (st.map fun v => v.category).sum ≤ 8) (kk : AF V M' d [x1, x2, x3] S none S') (k : AW V M (d + 1) kc ks (pc + 3) L (st) (hp S') R) : AW V M (d + 1) kc ks pc L (x3 :: x2 :: x1 :: st) (hp S) R := by
  unfold AF at kk
  have k1 : AM V M' d 0 0 [x1, x2, x3] (hp S) (fun r' h' => AW V M (d + 1) kc ks (pc + 3) L (r'.toList ++ st) h' R) := by
    refine AM.weaken ?_ kk
    intro r' h' z
    rw [z.1, z.2]
    exact k
  have k2 := aw_callS (V := V) (M := M) (M' := M') (d := d) (kc := kc) (ks := ks) (pc := pc) (kc' := 0) (ks' := 0) (as := [x1, x2, x3]) (st := st) (L := L) (h := hp S) (R := R) (b := 0) (ci := 0) (q := (RX0, TX0, 12)) (fs := []) (host := "") hd hl ho hn rfl hw k1
  rw [Nat.zero_add, Nat.zero_add] at k2
  exact k2
theorem ax_callS3l {M' : am_M} {idx : Nat} {x1 x2 x3 : Value} {r : Int64} {S' : fm} (hd : decode M.2.1 pc = .ok (.invokestatic idx, 3)) (hl : Cond.methodLink M.1.cls idx M'.1 ∈ am_T) (ho : am_okS M') (hn : (parseMethodDescriptor M'.1.desc).map (fun d => d.parameters.length) = some 3) (hw : (st.map fun v => v.category).sum ≤ 8) (kk : AF V M' d [x1, x2, x3] S (some (.long r)) S') (k : AW V M (d + 1) kc ks (pc + 3) L (.long r :: st) (hp S') R) : AW V M (d + 1) kc ks pc L (x3 :: x2 :: x1 :: st) (hp S) R := by
  unfold AF at kk
  have k1 : AM V M' d 0 0 [x1, x2, x3] (hp S) (fun r' h' => AW V M (d + 1) kc ks (pc + 3) L (r'.toList ++ st) h' R) := by
    refine AM.weaken ?_ kk
    intro r' h' z
    rw [z.1, z.2]
    exact k
  have k2 := aw_callS (V := V) (M := M) (M' := M') (d := d) (kc := kc) (ks := ks) (pc := pc) (kc' := 0) (ks' := 0) (as := [x1, x2, x3]) (st := st) (L := L) (h := hp S) (R := R) (b := 0) (ci := 0) (q := (RX0, TX0, 12)) (fs := []) (host := "") hd hl ho hn rfl hw k1
  rw [Nat.zero_add, Nat.zero_add] at k2
  exact k2
theorem ax_callS3r {M' : am_M} {idx : Nat} {x1 x2 x3 : Value} {r : Nat} {S' : fm} (hd : decode M.2.1 pc = .ok (.invokestatic idx, 3)) (hl : Cond.methodLink M.1.cls idx M'.1 ∈ am_T) (ho : am_okS M') (hn : (parseMethodDescriptor M'.1.desc).map (fun d => d.parameters.length) = some 3) (hw : (st.map fun v => v.category).sum ≤ 8) (kk : AF V M' d [x1, x2, x3] S (some (.ref r)) S') (k : AW V M (d + 1) kc ks (pc + 3) L (.ref r :: st) (hp S') R) : AW V M (d + 1) kc ks pc L (x3 :: x2 :: x1 :: st) (hp S) R := by
  unfold AF at kk
  have k1 : AM V M' d 0 0 [x1, x2, x3] (hp S) (fun r' h' => AW V M (d + 1) kc ks (pc + 3) L (r'.toList ++ st) h' R) := by
    refine AM.weaken ?_ kk
    intro r' h' z
    rw [z.1, z.2]
    exact k
  have k2 := aw_callS (V := V) (M := M) (M' := M') (d := d) (kc := kc) (ks := ks) (pc := pc) (kc' := 0) (ks' := 0) (as := [x1, x2, x3]) (st := st) (L := L) (h := hp S) (R := R) (b := 0) (ci := 0) (q := (RX0, TX0, 12)) (fs := []) (host := "") hd hl ho hn rfl hw k1
  rw [Nat.zero_add, Nat.zero_add] at k2
  exact k2
theorem ax_callS4i {M' : am_M} {idx : Nat} {x1 x2 x3 x4 : Value} {r : Int32} {S' : fm} (hd : decode M.2.1 pc = .ok (.invokestatic idx, 3)) (hl : Cond.methodLink M.1.cls idx M'.1 ∈ am_T) (ho : am_okS M') (hn : (parseMethodDescriptor M'.1.desc).map (fun d => d.parameters.length) = some 4) (hw : (st.map fun v => v.category).sum ≤ 8) (kk : AF V M' d [x1, x2, x3, x4] S (some (.int r)) S') (k : AW V M (d + 1) kc ks (pc + 3) L (.int r :: st) (hp S') R) : AW V M (d + 1) kc ks pc L (x4 :: x3 :: x2 :: x1 :: st) (hp S) R := by
  unfold AF at kk
  have k1 : AM V M' d 0 0 [x1, x2, x3, x4] (hp S) (fun r' h' => AW V M (d + 1) kc ks (pc + 3) L (r'.toList ++ st) h' R) := by
    refine AM.weaken ?_ kk
    intro r' h' z
    rw [z.1, z.2]
    exact k
  have k2 := aw_callS (V := V) (M := M) (M' := M') (d := d) (kc := kc) (ks := ks) (pc := pc) (kc' := 0) (ks' := 0) (as := [x1, x2, x3, x4]) (st := st) (L := L) (h := hp S) (R := R) (b := 0) (ci := 0) (q := (RX0, TX0, 12)) (fs := []) (host := "") hd hl ho hn rfl hw k1
  rw [Nat.zero_add, Nat.zero_add] at k2
  exact k2
theorem ax_callS4v {M' : am_M} {idx : Nat} {x1 x2 x3 x4 : Value} {S' : fm} (hd : decode M.2.1 pc = .ok (.invokestatic idx, 3)) (hl : Cond.methodLink M.1.cls idx M'.1 ∈ am_T) (ho : am_okS M') (hn : (parseMethodDescriptor M'.1.desc).map (fun d => d.parameters.length) = some 4) (hw : (st.map fun v => v.category).sum ≤ 8) (kk : AF V M' d [x1, x2, x3, x4] S none S') (k : AW V M (d + 1) kc ks (pc + 3) L (st) (hp S') R) : AW V M (d + 1) kc ks pc L (x4 :: x3 :: x2 :: x1 :: st) (hp S) R := by
  unfold AF at kk
  have k1 : AM V M' d 0 0 [x1, x2, x3, x4] (hp S) (fun r' h' => AW V M (d + 1) kc ks (pc + 3) L (r'.toList ++ st) h' R) := by
    refine AM.weaken ?_ kk
    intro r' h' z
    rw [z.1, z.2]
    exact k
  have k2 := aw_callS (V := V) (M := M) (M' := M') (d := d) (kc := kc) (ks := ks) (pc := pc) (kc' := 0) (ks' := 0) (as := [x1, x2, x3, x4]) (st := st) (L := L) (h := hp S) (R := R) (b := 0) (ci := 0) (q := (RX0, TX0, 12)) (fs := []) (host := "") hd hl ho hn rfl hw k1
  rw [Nat.zero_add, Nat.zero_add] at k2
  exact k2
theorem ax_callS4l {M' : am_M} {idx : Nat} {x1 x2 x3 x4 : Value} {r : Int64} {S' : fm} (hd : decode M.2.1 pc = .ok (.invokestatic idx, 3)) (hl : Cond.methodLink M.1.cls idx M'.1 ∈ am_T) (ho : am_okS M') (hn : (parseMethodDescriptor M'.1.desc).map (fun d => d.parameters.length) = some 4) (hw : (st.map fun v => v.category).sum ≤ 8) (kk : AF V M' d [x1, x2, x3, x4] S (some (.long r)) S') (k : AW V M (d + 1) kc ks (pc + 3) L (.long r :: st) (hp S') R) : AW V M (d + 1) kc ks pc L (x4 :: x3 :: x2 :: x1 :: st) (hp S) R := by
  unfold AF at kk
  have k1 : AM V M' d 0 0 [x1, x2, x3, x4] (hp S) (fun r' h' => AW V M (d + 1) kc ks (pc + 3) L (r'.toList ++ st) h' R) := by
    refine AM.weaken ?_ kk
    intro r' h' z
    rw [z.1, z.2]
    exact k
  have k2 := aw_callS (V := V) (M := M) (M' := M') (d := d) (kc := kc) (ks := ks) (pc := pc) (kc' := 0) (ks' := 0) (as := [x1, x2, x3, x4]) (st := st) (L := L) (h := hp S) (R := R) (b := 0) (ci := 0) (q := (RX0, TX0, 12)) (fs := []) (host := "") hd hl ho hn rfl hw k1
  rw [Nat.zero_add, Nat.zero_add] at k2
  exact k2
theorem ax_callS4r {M' : am_M} {idx : Nat} {x1 x2 x3 x4 : Value} {r : Nat} {S' : fm} (hd : decode M.2.1 pc = .ok (.invokestatic idx, 3)) (hl : Cond.methodLink M.1.cls idx M'.1 ∈ am_T) (ho : am_okS M') (hn : (parseMethodDescriptor M'.1.desc).map (fun d => d.parameters.length) = some 4) (hw : (st.map fun v => v.category).sum ≤ 8) (kk : AF V M' d [x1, x2, x3, x4] S (some (.ref r)) S') (k : AW V M (d + 1) kc ks (pc + 3) L (.ref r :: st) (hp S') R) : AW V M (d + 1) kc ks pc L (x4 :: x3 :: x2 :: x1 :: st) (hp S) R := by
  unfold AF at kk
  have k1 : AM V M' d 0 0 [x1, x2, x3, x4] (hp S) (fun r' h' => AW V M (d + 1) kc ks (pc + 3) L (r'.toList ++ st) h' R) := by
    refine AM.weaken ?_ kk
    intro r' h' z
    rw [z.1, z.2]
    exact k
  have k2 := aw_callS (V := V) (M := M) (M' := M') (d := d) (kc := kc) (ks := ks) (pc := pc) (kc' := 0) (ks' := 0) (as := [x1, x2, x3, x4]) (st := st) (L := L) (h := hp S) (R := R) (b := 0) (ci := 0) (q := (RX0, TX0, 12)) (fs := []) (host := "") hd hl ho hn rfl hw k1
  rw [Nat.zero_add, Nat.zero_add] at k2
  exact k2
theorem ax_callS5i {M' : am_M} {idx : Nat} {x1 x2 x3 x4 x5 : Value} {r : Int32} {S' : fm} (hd : decode M.2.1 pc = .ok (.invokestatic idx, 3)) (hl : Cond.methodLink M.1.cls idx M'.1 ∈ am_T) (ho : am_okS M') (hn : (parseMethodDescriptor M'.1.desc).map (fun d => d.parameters.length) = some 5) (hw : (st.map fun v => v.category).sum ≤ 8) (kk : AF V M' d [x1, x2, x3, x4, x5] S (some (.int r)) S') (k : AW V M (d + 1) kc ks (pc + 3) L (.int r :: st) (hp S') R) : AW V M (d + 1) kc ks pc L (x5 :: x4 :: x3 :: x2 :: x1 :: st) (hp S) R := by
  unfold AF at kk
  have k1 : AM V M' d 0 0 [x1, x2, x3, x4, x5] (hp S) (fun r' h' => AW V M (d + 1) kc ks (pc + 3) L (r'.toList ++ st) h' R) := by
    refine AM.weaken ?_ kk
    intro r' h' z
    rw [z.1, z.2]
    exact k
  have k2 := aw_callS (V := V) (M := M) (M' := M') (d := d) (kc := kc) (ks := ks) (pc := pc) (kc' := 0) (ks' := 0) (as := [x1, x2, x3, x4, x5]) (st := st) (L := L) (h := hp S) (R := R) (b := 0) (ci := 0) (q := (RX0, TX0, 12)) (fs := []) (host := "") hd hl ho hn rfl hw k1
  rw [Nat.zero_add, Nat.zero_add] at k2
  exact k2
theorem ax_callS5v {M' : am_M} {idx : Nat} {x1 x2 x3 x4 x5 : Value} {S' : fm} (hd : decode M.2.1 pc = .ok (.invokestatic idx, 3)) (hl : Cond.methodLink M.1.cls idx M'.1 ∈ am_T) (ho : am_okS M') (hn : (parseMethodDescriptor M'.1.desc).map (fun d => d.parameters.length) = some 5) (hw : (st.map fun v => v.category).sum ≤ 8) (kk : AF V M' d [x1, x2, x3, x4, x5] S none S') (k : AW V M (d + 1) kc ks (pc + 3) L (st) (hp S') R) : AW V M (d + 1) kc ks pc L (x5 :: x4 :: x3 :: x2 :: x1 :: st) (hp S) R := by
  unfold AF at kk
  have k1 : AM V M' d 0 0 [x1, x2, x3, x4, x5] (hp S) (fun r' h' => AW V M (d + 1) kc ks (pc + 3) L (r'.toList ++ st) h' R) := by
    refine AM.weaken ?_ kk
    intro r' h' z
    rw [z.1, z.2]
    exact k
  have k2 := aw_callS (V := V) (M := M) (M' := M') (d := d) (kc := kc) (ks := ks) (pc := pc) (kc' := 0) (ks' := 0) (as := [x1, x2, x3, x4, x5]) (st := st) (L := L) (h := hp S) (R := R) (b := 0) (ci := 0) (q := (RX0, TX0, 12)) (fs := []) (host := "") hd hl ho hn rfl hw k1
  rw [Nat.zero_add, Nat.zero_add] at k2
  exact k2
theorem ax_callS5l {M' : am_M} {idx : Nat} {x1 x2 x3 x4 x5 : Value} {r : Int64} {S' : fm} (hd : decode M.2.1 pc = .ok (.invokestatic idx, 3)) (hl : Cond.methodLink M.1.cls idx M'.1 ∈ am_T) (ho : am_okS M') (hn : (parseMethodDescriptor M'.1.desc).map (fun d => d.parameters.length) = some 5) (hw : (st.map fun v => v.category).sum ≤ 8) (kk : AF V M' d [x1, x2, x3, x4, x5] S (some (.long r)) S') (k : AW V M (d + 1) kc ks (pc + 3) L (.long r :: st) (hp S') R) : AW V M (d + 1) kc ks pc L (x5 :: x4 :: x3 :: x2 :: x1 :: st) (hp S) R := by
  unfold AF at kk
  have k1 : AM V M' d 0 0 [x1, x2, x3, x4, x5] (hp S) (fun r' h' => AW V M (d + 1) kc ks (pc + 3) L (r'.toList ++ st) h' R) := by
    refine AM.weaken ?_ kk
    intro r' h' z
    rw [z.1, z.2]
    exact k
  have k2 := aw_callS (V := V) (M := M) (M' := M') (d := d) (kc := kc) (ks := ks) (pc := pc) (kc' := 0) (ks' := 0) (as := [x1, x2, x3, x4, x5]) (st := st) (L := L) (h := hp S) (R := R) (b := 0) (ci := 0) (q := (RX0, TX0, 12)) (fs := []) (host := "") hd hl ho hn rfl hw k1
  rw [Nat.zero_add, Nat.zero_add] at k2
  exact k2
theorem ax_callS5r {M' : am_M} {idx : Nat} {x1 x2 x3 x4 x5 : Value} {r : Nat} {S' : fm} (hd : decode M.2.1 pc = .ok (.invokestatic idx, 3)) (hl : Cond.methodLink M.1.cls idx M'.1 ∈ am_T) (ho : am_okS M') (hn : (parseMethodDescriptor M'.1.desc).map (fun d => d.parameters.length) = some 5) (hw : (st.map fun v => v.category).sum ≤ 8) (kk : AF V M' d [x1, x2, x3, x4, x5] S (some (.ref r)) S') (k : AW V M (d + 1) kc ks (pc + 3) L (.ref r :: st) (hp S') R) : AW V M (d + 1) kc ks pc L (x5 :: x4 :: x3 :: x2 :: x1 :: st) (hp S) R := by
  unfold AF at kk
  have k1 : AM V M' d 0 0 [x1, x2, x3, x4, x5] (hp S) (fun r' h' => AW V M (d + 1) kc ks (pc + 3) L (r'.toList ++ st) h' R) := by
    refine AM.weaken ?_ kk
    intro r' h' z
    rw [z.1, z.2]
    exact k
  have k2 := aw_callS (V := V) (M := M) (M' := M') (d := d) (kc := kc) (ks := ks) (pc := pc) (kc' := 0) (ks' := 0) (as := [x1, x2, x3, x4, x5]) (st := st) (L := L) (h := hp S) (R := R) (b := 0) (ci := 0) (q := (RX0, TX0, 12)) (fs := []) (host := "") hd hl ho hn rfl hw k1
  rw [Nat.zero_add, Nat.zero_add] at k2
  exact k2
theorem ax_callSN0i {M' : am_M} {idx : Nat} {host : String} {r : Int32} {S' : fm} (hd : decode M.2.1 pc = .ok (.invokestatic idx, 3)) (hl : Cond.methodLinkNest M.1.cls idx M'.1 host ∈ am_nest) (ho : am_okS M') (hn : (parseMethodDescriptor M'.1.desc).map (fun d => d.parameters.length) = some 0) (hw : (st.map fun v => v.category).sum ≤ 8) (kk : AF V M' d [] S (some (.int r)) S') (k : AW V M (d + 1) kc ks (pc + 3) L (.int r :: st) (hp S') R) : AW V M (d + 1) kc ks pc L (st) (hp S) R := by
  unfold AF at kk
  have k1 : AM V M' d 0 0 [] (hp S) (fun r' h' => AW V M (d + 1) kc ks (pc + 3) L (r'.toList ++ st) h' R) := by
    refine AM.weaken ?_ kk
    intro r' h' z
    rw [z.1, z.2]
    exact k
  have k2 := aw_callSN (V := V) (M := M) (M' := M') (d := d) (kc := kc) (ks := ks) (pc := pc) (kc' := 0) (ks' := 0) (as := []) (st := st) (L := L) (h := hp S) (R := R) (b := 0) (ci := 0) (q := (RX0, TX0, 12)) (fs := []) hd hl ho hn rfl hw k1
  rw [Nat.zero_add, Nat.zero_add] at k2
  exact k2
theorem ax_callSN0v {M' : am_M} {idx : Nat} {host : String} {S' : fm} (hd : decode M.2.1 pc = .ok (.invokestatic idx, 3)) (hl : Cond.methodLinkNest M.1.cls idx M'.1 host ∈ am_nest) (ho : am_okS M') (hn : (parseMethodDescriptor M'.1.desc).map (fun d => d.parameters.length) = some 0) (hw : (st.map fun v => v.category).sum ≤ 8) (kk : AF V M' d [] S none S') (k : AW V M (d + 1) kc ks (pc + 3) L (st) (hp S') R) : AW V M (d + 1) kc ks pc L (st) (hp S) R := by
  unfold AF at kk
  have k1 : AM V M' d 0 0 [] (hp S) (fun r' h' => AW V M (d + 1) kc ks (pc + 3) L (r'.toList ++ st) h' R) := by
    refine AM.weaken ?_ kk
    intro r' h' z
    rw [z.1, z.2]
    exact k
  have k2 := aw_callSN (V := V) (M := M) (M' := M') (d := d) (kc := kc) (ks := ks) (pc := pc) (kc' := 0) (ks' := 0) (as := []) (st := st) (L := L) (h := hp S) (R := R) (b := 0) (ci := 0) (q := (RX0, TX0, 12)) (fs := []) hd hl ho hn rfl hw k1
  rw [Nat.zero_add, Nat.zero_add] at k2
  exact k2
theorem ax_callSN1i {M' : am_M} {idx : Nat} {host : String} {x1 : Value} {r : Int32} {S' : fm} (hd : decode M.2.1 pc = .ok (.invokestatic idx, 3)) (hl : Cond.methodLinkNest M.1.cls idx M'.1 host ∈ am_nest) (ho : am_okS M') (hn : (parseMethodDescriptor M'.1.desc).map (fun d => d.parameters.length) = some 1) (hw : (st.map fun v => v.category).sum ≤ 8) (kk : AF V M' d [x1] S (some (.int r)) S') (k : AW V M (d + 1) kc ks (pc + 3) L (.int r :: st) (hp S') R) : AW V M (d + 1) kc ks pc L (x1 :: st) (hp S) R := by
  unfold AF at kk
  have k1 : AM V M' d 0 0 [x1] (hp S) (fun r' h' => AW V M (d + 1) kc ks (pc + 3) L (r'.toList ++ st) h' R) := by
    refine AM.weaken ?_ kk
    intro r' h' z
    rw [z.1, z.2]
    exact k
  have k2 := aw_callSN (V := V) (M := M) (M' := M') (d := d) (kc := kc) (ks := ks) (pc := pc) (kc' := 0) (ks' := 0) (as := [x1]) (st := st) (L := L) (h := hp S) (R := R) (b := 0) (ci := 0) (q := (RX0, TX0, 12)) (fs := []) hd hl ho hn rfl hw k1
  rw [Nat.zero_add, Nat.zero_add] at k2
  exact k2
theorem ax_callSN1v {M' : am_M} {idx : Nat} {host : String} {x1 : Value} {S' : fm} (hd : decode M.2.1 pc = .ok (.invokestatic idx, 3)) (hl : Cond.methodLinkNest M.1.cls idx M'.1 host ∈ am_nest) (ho : am_okS M') (hn : (parseMethodDescriptor M'.1.desc).map (fun d => d.parameters.length) = some 1) (hw : (st.map fun v => v.category).sum ≤ 8) (kk : AF V M' d [x1] S none S') (k : AW V M (d + 1) kc ks (pc + 3) L (st) (hp S') R) : AW V M (d + 1) kc ks pc L (x1 :: st) (hp S) R := by
  unfold AF at kk
  have k1 : AM V M' d 0 0 [x1] (hp S) (fun r' h' => AW V M (d + 1) kc ks (pc + 3) L (r'.toList ++ st) h' R) := by
    refine AM.weaken ?_ kk
    intro r' h' z
    rw [z.1, z.2]
    exact k
  have k2 := aw_callSN (V := V) (M := M) (M' := M') (d := d) (kc := kc) (ks := ks) (pc := pc) (kc' := 0) (ks' := 0) (as := [x1]) (st := st) (L := L) (h := hp S) (R := R) (b := 0) (ci := 0) (q := (RX0, TX0, 12)) (fs := []) hd hl ho hn rfl hw k1
  rw [Nat.zero_add, Nat.zero_add] at k2
  exact k2
theorem ax_callSN1l {M' : am_M} {idx : Nat} {host : String} {x1 : Value} {r : Int64} {S' : fm} (hd : decode M.2.1 pc = .ok (.invokestatic idx, 3)) (hl : Cond.methodLinkNest M.1.cls idx M'.1 host ∈ am_nest) (ho : am_okS M') (hn : (parseMethodDescriptor M'.1.desc).map (fun d => d.parameters.length) = some 1) (hw : (st.map fun v => v.category).sum ≤ 8) (kk : AF V M' d [x1] S (some (.long r)) S') (k : AW V M (d + 1) kc ks (pc + 3) L (.long r :: st) (hp S') R) : AW V M (d + 1) kc ks pc L (x1 :: st) (hp S) R := by
  unfold AF at kk
  have k1 : AM V M' d 0 0 [x1] (hp S) (fun r' h' => AW V M (d + 1) kc ks (pc + 3) L (r'.toList ++ st) h' R) := by
    refine AM.weaken ?_ kk
    intro r' h' z
    rw [z.1, z.2]
    exact k
  have k2 := aw_callSN (V := V) (M := M) (M' := M') (d := d) (kc := kc) (ks := ks) (pc := pc) (kc' := 0) (ks' := 0) (as := [x1]) (st := st) (L := L) (h := hp S) (R := R) (b := 0) (ci := 0) (q := (RX0, TX0, 12)) (fs := []) hd hl ho hn rfl hw k1
  rw [Nat.zero_add, Nat.zero_add] at k2
  exact k2
theorem ax_callSN1r {M' : am_M} {idx : Nat} {host : String} {x1 : Value} {r : Nat} {S' : fm} (hd : decode M.2.1 pc = .ok (.invokestatic idx, 3)) (hl : Cond.methodLinkNest M.1.cls idx M'.1 host ∈ am_nest) (ho : am_okS M') (hn : (parseMethodDescriptor M'.1.desc).map (fun d => d.parameters.length) = some 1) (hw : (st.map fun v => v.category).sum ≤ 8) (kk : AF V M' d [x1] S (some (.ref r)) S') (k : AW V M (d + 1) kc ks (pc + 3) L (.ref r :: st) (hp S') R) : AW V M (d + 1) kc ks pc L (x1 :: st) (hp S) R := by
  unfold AF at kk
  have k1 : AM V M' d 0 0 [x1] (hp S) (fun r' h' => AW V M (d + 1) kc ks (pc + 3) L (r'.toList ++ st) h' R) := by
    refine AM.weaken ?_ kk
    intro r' h' z
    rw [z.1, z.2]
    exact k
  have k2 := aw_callSN (V := V) (M := M) (M' := M') (d := d) (kc := kc) (ks := ks) (pc := pc) (kc' := 0) (ks' := 0) (as := [x1]) (st := st) (L := L) (h := hp S) (R := R) (b := 0) (ci := 0) (q := (RX0, TX0, 12)) (fs := []) hd hl ho hn rfl hw k1
  rw [Nat.zero_add, Nat.zero_add] at k2
  exact k2
theorem ax_callSN2i {M' : am_M} {idx : Nat} {host : String} {x1 x2 : Value} {r : Int32} {S' : fm} (hd : decode M.2.1 pc = .ok (.invokestatic idx, 3)) (hl : Cond.methodLinkNest M.1.cls idx M'.1 host ∈ am_nest) (ho : am_okS M') (hn : (parseMethodDescriptor M'.1.desc).map (fun d => d.parameters.length) = some 2) (hw : (st.map fun v => v.category).sum ≤ 8) (kk : AF V M' d [x1, x2] S (some (.int r)) S') (k : AW V M (d + 1) kc ks (pc + 3) L (.int r :: st) (hp S') R) : AW V M (d + 1) kc ks pc L (x2 :: x1 :: st) (hp S) R := by
  unfold AF at kk
  have k1 : AM V M' d 0 0 [x1, x2] (hp S) (fun r' h' => AW V M (d + 1) kc ks (pc + 3) L (r'.toList ++ st) h' R) := by
    refine AM.weaken ?_ kk
    intro r' h' z
    rw [z.1, z.2]
    exact k
  have k2 := aw_callSN (V := V) (M := M) (M' := M') (d := d) (kc := kc) (ks := ks) (pc := pc) (kc' := 0) (ks' := 0) (as := [x1, x2]) (st := st) (L := L) (h := hp S) (R := R) (b := 0) (ci := 0) (q := (RX0, TX0, 12)) (fs := []) hd hl ho hn rfl hw k1
  rw [Nat.zero_add, Nat.zero_add] at k2
  exact k2
theorem ax_callSN2v {M' : am_M} {idx : Nat} {host : String} {x1 x2 : Value} {S' : fm} (hd : decode M.2.1 pc = .ok (.invokestatic idx, 3)) (hl : Cond.methodLinkNest M.1.cls idx M'.1 host ∈ am_nest) (ho : am_okS M') (hn : (parseMethodDescriptor M'.1.desc).map (fun d => d.parameters.length) = some 2) (hw : (st.map fun v => v.category).sum ≤ 8) (kk : AF V M' d [x1, x2] S none S') (k : AW V M (d + 1) kc ks (pc + 3) L (st) (hp S') R) : AW V M (d + 1) kc ks pc L (x2 :: x1 :: st) (hp S) R := by
  unfold AF at kk
  have k1 : AM V M' d 0 0 [x1, x2] (hp S) (fun r' h' => AW V M (d + 1) kc ks (pc + 3) L (r'.toList ++ st) h' R) := by
    refine AM.weaken ?_ kk
    intro r' h' z
    rw [z.1, z.2]
    exact k
  have k2 := aw_callSN (V := V) (M := M) (M' := M') (d := d) (kc := kc) (ks := ks) (pc := pc) (kc' := 0) (ks' := 0) (as := [x1, x2]) (st := st) (L := L) (h := hp S) (R := R) (b := 0) (ci := 0) (q := (RX0, TX0, 12)) (fs := []) hd hl ho hn rfl hw k1
  rw [Nat.zero_add, Nat.zero_add] at k2
  exact k2
theorem ax_callSN2l {M' : am_M} {idx : Nat} {host : String} {x1 x2 : Value} {r : Int64} {S' : fm} (hd : decode M.2.1 pc = .ok (.invokestatic idx, 3)) (hl : Cond.methodLinkNest M.1.cls idx M'.1 host ∈ am_nest) (ho : am_okS M') (hn : (parseMethodDescriptor M'.1.desc).map (fun d => d.parameters.length) = some 2) (hw : (st.map fun v => v.category).sum ≤ 8) (kk : AF V M' d [x1, x2] S (some (.long r)) S') (k : AW V M (d + 1) kc ks (pc + 3) L (.long r :: st) (hp S') R) : AW V M (d + 1) kc ks pc L (x2 :: x1 :: st) (hp S) R := by
  unfold AF at kk
  have k1 : AM V M' d 0 0 [x1, x2] (hp S) (fun r' h' => AW V M (d + 1) kc ks (pc + 3) L (r'.toList ++ st) h' R) := by
    refine AM.weaken ?_ kk
    intro r' h' z
    rw [z.1, z.2]
    exact k
  have k2 := aw_callSN (V := V) (M := M) (M' := M') (d := d) (kc := kc) (ks := ks) (pc := pc) (kc' := 0) (ks' := 0) (as := [x1, x2]) (st := st) (L := L) (h := hp S) (R := R) (b := 0) (ci := 0) (q := (RX0, TX0, 12)) (fs := []) hd hl ho hn rfl hw k1
  rw [Nat.zero_add, Nat.zero_add] at k2
  exact k2
theorem ax_callSN2r {M' : am_M} {idx : Nat} {host : String} {x1 x2 : Value} {r : Nat} {S' : fm} (hd : decode M.2.1 pc = .ok (.invokestatic idx, 3)) (hl : Cond.methodLinkNest M.1.cls idx M'.1 host ∈ am_nest) (ho : am_okS M') (hn : (parseMethodDescriptor M'.1.desc).map (fun d => d.parameters.length) = some 2) (hw : (st.map fun v => v.category).sum ≤ 8) (kk : AF V M' d [x1, x2] S (some (.ref r)) S') (k : AW V M (d + 1) kc ks (pc + 3) L (.ref r :: st) (hp S') R) : AW V M (d + 1) kc ks pc L (x2 :: x1 :: st) (hp S) R := by
  unfold AF at kk
  have k1 : AM V M' d 0 0 [x1, x2] (hp S) (fun r' h' => AW V M (d + 1) kc ks (pc + 3) L (r'.toList ++ st) h' R) := by
    refine AM.weaken ?_ kk
    intro r' h' z
    rw [z.1, z.2]
    exact k
  have k2 := aw_callSN (V := V) (M := M) (M' := M') (d := d) (kc := kc) (ks := ks) (pc := pc) (kc' := 0) (ks' := 0) (as := [x1, x2]) (st := st) (L := L) (h := hp S) (R := R) (b := 0) (ci := 0) (q := (RX0, TX0, 12)) (fs := []) hd hl ho hn rfl hw k1
  rw [Nat.zero_add, Nat.zero_add] at k2
  exact k2
theorem ax_callSN3i {M' : am_M} {idx : Nat} {host : String} {x1 x2 x3 : Value} {r : Int32} {S' : fm} (hd : decode M.2.1 pc = .ok (.invokestatic idx, 3)) (hl : Cond.methodLinkNest M.1.cls idx M'.1 host ∈ am_nest) (ho : am_okS M') (hn : (parseMethodDescriptor M'.1.desc).map (fun d => d.parameters.length) = some 3) (hw : (st.map fun v => v.category).sum ≤ 8) (kk : AF V M' d [x1, x2, x3] S (some (.int r)) S') (k : AW V M (d + 1) kc ks (pc + 3) L (.int r :: st) (hp S') R) : AW V M (d + 1) kc ks pc L (x3 :: x2 :: x1 :: st) (hp S) R := by
  unfold AF at kk
  have k1 : AM V M' d 0 0 [x1, x2, x3] (hp S) (fun r' h' => AW V M (d + 1) kc ks (pc + 3) L (r'.toList ++ st) h' R) := by
    refine AM.weaken ?_ kk
    intro r' h' z
    rw [z.1, z.2]
    exact k
  have k2 := aw_callSN (V := V) (M := M) (M' := M') (d := d) (kc := kc) (ks := ks) (pc := pc) (kc' := 0) (ks' := 0) (as := [x1, x2, x3]) (st := st) (L := L) (h := hp S) (R := R) (b := 0) (ci := 0) (q := (RX0, TX0, 12)) (fs := []) hd hl ho hn rfl hw k1
  rw [Nat.zero_add, Nat.zero_add] at k2
  exact k2
theorem ax_callSN3v {M' : am_M} {idx : Nat} {host : String} {x1 x2 x3 : Value} {S' : fm} (hd : decode M.2.1 pc = .ok (.invokestatic idx, 3)) (hl : Cond.methodLinkNest M.1.cls idx M'.1 host ∈ am_nest) (ho : am_okS M') (hn : (parseMethodDescriptor M'.1.desc).map (fun d => d.parameters.length) = some 3) (hw : (st.map fun v => v.category).sum ≤ 8) (kk : AF V M' d [x1, x2, x3] S none S') (k : AW V M (d + 1) kc ks (pc + 3) L (st) (hp S') R) : AW V M (d + 1) kc ks pc L (x3 :: x2 :: x1 :: st) (hp S) R := by
  unfold AF at kk
  have k1 : AM V M' d 0 0 [x1, x2, x3] (hp S) (fun r' h' => AW V M (d + 1) kc ks (pc + 3) L (r'.toList ++ st) h' R) := by
    refine AM.weaken ?_ kk
    intro r' h' z
    rw [z.1, z.2]
    exact k
  have k2 := aw_callSN (V := V) (M := M) (M' := M') (d := d) (kc := kc) (ks := ks) (pc := pc) (kc' := 0) (ks' := 0) (as := [x1, x2, x3]) (st := st) (L := L) (h := hp S) (R := R) (b := 0) (ci := 0) (q := (RX0, TX0, 12)) (fs := []) hd hl ho hn rfl hw k1
  rw [Nat.zero_add, Nat.zero_add] at k2
  exact k2
theorem ax_callSN3l {M' : am_M} {idx : Nat} {host : String} {x1 x2 x3 : Value} {r : Int64} {S' : fm} (hd : decode M.2.1 pc = .ok (.invokestatic idx, 3)) (hl : Cond.methodLinkNest M.1.cls idx M'.1 host ∈ am_nest) (ho : am_okS M') (hn : (parseMethodDescriptor M'.1.desc).map (fun d => d.parameters.length) = some 3) (hw : (st.map fun v => v.category).sum ≤ 8) (kk : AF V M' d [x1, x2, x3] S (some (.long r)) S') (k : AW V M (d + 1) kc ks (pc + 3) L (.long r :: st) (hp S') R) : AW V M (d + 1) kc ks pc L (x3 :: x2 :: x1 :: st) (hp S) R := by
  unfold AF at kk
  have k1 : AM V M' d 0 0 [x1, x2, x3] (hp S) (fun r' h' => AW V M (d + 1) kc ks (pc + 3) L (r'.toList ++ st) h' R) := by
    refine AM.weaken ?_ kk
    intro r' h' z
    rw [z.1, z.2]
    exact k
  have k2 := aw_callSN (V := V) (M := M) (M' := M') (d := d) (kc := kc) (ks := ks) (pc := pc) (kc' := 0) (ks' := 0) (as := [x1, x2, x3]) (st := st) (L := L) (h := hp S) (R := R) (b := 0) (ci := 0) (q := (RX0, TX0, 12)) (fs := []) hd hl ho hn rfl hw k1
  rw [Nat.zero_add, Nat.zero_add] at k2
  exact k2
theorem ax_callSN3r {M' : am_M} {idx : Nat} {host : String} {x1 x2 x3 : Value} {r : Nat} {S' : fm} (hd : decode M.2.1 pc = .ok (.invokestatic idx, 3)) (hl : Cond.methodLinkNest M.1.cls idx M'.1 host ∈ am_nest) (ho : am_okS M') (hn : (parseMethodDescriptor M'.1.desc).map (fun d => d.parameters.length) = some 3) (hw : (st.map fun v => v.category).sum ≤ 8) (kk : AF V M' d [x1, x2, x3] S (some (.ref r)) S') (k : AW V M (d + 1) kc ks (pc + 3) L (.ref r :: st) (hp S') R) : AW V M (d + 1) kc ks pc L (x3 :: x2 :: x1 :: st) (hp S) R := by
  unfold AF at kk
  have k1 : AM V M' d 0 0 [x1, x2, x3] (hp S) (fun r' h' => AW V M (d + 1) kc ks (pc + 3) L (r'.toList ++ st) h' R) := by
    refine AM.weaken ?_ kk
    intro r' h' z
    rw [z.1, z.2]
    exact k
  have k2 := aw_callSN (V := V) (M := M) (M' := M') (d := d) (kc := kc) (ks := ks) (pc := pc) (kc' := 0) (ks' := 0) (as := [x1, x2, x3]) (st := st) (L := L) (h := hp S) (R := R) (b := 0) (ci := 0) (q := (RX0, TX0, 12)) (fs := []) hd hl ho hn rfl hw k1
  rw [Nat.zero_add, Nat.zero_add] at k2
  exact k2
theorem ax_callSN4i {M' : am_M} {idx : Nat} {host : String} {x1 x2 x3 x4 : Value} {r : Int32} {S' : fm} (hd : decode M.2.1 pc = .ok (.invokestatic idx, 3)) (hl : Cond.methodLinkNest M.1.cls idx M'.1 host ∈ am_nest) (ho : am_okS M') (hn : (parseMethodDescriptor M'.1.desc).map (fun d => d.parameters.length) = some 4) (hw : (st.map fun v => v.category).sum ≤ 8) (kk : AF V M' d [x1, x2, x3, x4] S (some (.int r)) S') (k : AW V M (d + 1) kc ks (pc + 3) L (.int r :: st) (hp S') R) : AW V M (d + 1) kc ks pc L (x4 :: x3 :: x2 :: x1 :: st) (hp S) R := by
  unfold AF at kk
  have k1 : AM V M' d 0 0 [x1, x2, x3, x4] (hp S) (fun r' h' => AW V M (d + 1) kc ks (pc + 3) L (r'.toList ++ st) h' R) := by
    refine AM.weaken ?_ kk
    intro r' h' z
    rw [z.1, z.2]
    exact k
  have k2 := aw_callSN (V := V) (M := M) (M' := M') (d := d) (kc := kc) (ks := ks) (pc := pc) (kc' := 0) (ks' := 0) (as := [x1, x2, x3, x4]) (st := st) (L := L) (h := hp S) (R := R) (b := 0) (ci := 0) (q := (RX0, TX0, 12)) (fs := []) hd hl ho hn rfl hw k1
  rw [Nat.zero_add, Nat.zero_add] at k2
  exact k2
theorem ax_callSN4v {M' : am_M} {idx : Nat} {host : String} {x1 x2 x3 x4 : Value} {S' : fm} (hd : decode M.2.1 pc = .ok (.invokestatic idx, 3)) (hl : Cond.methodLinkNest M.1.cls idx M'.1 host ∈ am_nest) (ho : am_okS M') (hn : (parseMethodDescriptor M'.1.desc).map (fun d => d.parameters.length) = some 4) (hw : (st.map fun v => v.category).sum ≤ 8) (kk : AF V M' d [x1, x2, x3, x4] S none S') (k : AW V M (d + 1) kc ks (pc + 3) L (st) (hp S') R) : AW V M (d + 1) kc ks pc L (x4 :: x3 :: x2 :: x1 :: st) (hp S) R := by
  unfold AF at kk
  have k1 : AM V M' d 0 0 [x1, x2, x3, x4] (hp S) (fun r' h' => AW V M (d + 1) kc ks (pc + 3) L (r'.toList ++ st) h' R) := by
    refine AM.weaken ?_ kk
    intro r' h' z
    rw [z.1, z.2]
    exact k
  have k2 := aw_callSN (V := V) (M := M) (M' := M') (d := d) (kc := kc) (ks := ks) (pc := pc) (kc' := 0) (ks' := 0) (as := [x1, x2, x3, x4]) (st := st) (L := L) (h := hp S) (R := R) (b := 0) (ci := 0) (q := (RX0, TX0, 12)) (fs := []) hd hl ho hn rfl hw k1
  rw [Nat.zero_add, Nat.zero_add] at k2
  exact k2
theorem ax_callSN4l {M' : am_M} {idx : Nat} {host : String} {x1 x2 x3 x4 : Value} {r : Int64} {S' : fm} (hd : decode M.2.1 pc = .ok (.invokestatic idx, 3)) (hl : Cond.methodLinkNest M.1.cls idx M'.1 host ∈ am_nest) (ho : am_okS M') (hn : (parseMethodDescriptor M'.1.desc).map (fun d => d.parameters.length) = some 4) (hw : (st.map fun v => v.category).sum ≤ 8) (kk : AF V M' d [x1, x2, x3, x4] S (some (.long r)) S') (k : AW V M (d + 1) kc ks (pc + 3) L (.long r :: st) (hp S') R) : AW V M (d + 1) kc ks pc L (x4 :: x3 :: x2 :: x1 :: st) (hp S) R := by
  unfold AF at kk
  have k1 : AM V M' d 0 0 [x1, x2, x3, x4] (hp S) (fun r' h' => AW V M (d + 1) kc ks (pc + 3) L (r'.toList ++ st) h' R) := by
    refine AM.weaken ?_ kk
    intro r' h' z
    rw [z.1, z.2]
    exact k
  have k2 := aw_callSN (V := V) (M := M) (M' := M') (d := d) (kc := kc) (ks := ks) (pc := pc) (kc' := 0) (ks' := 0) (as := [x1, x2, x3, x4]) (st := st) (L := L) (h := hp S) (R := R) (b := 0) (ci := 0) (q := (RX0, TX0, 12)) (fs := []) hd hl ho hn rfl hw k1
  rw [Nat.zero_add, Nat.zero_add] at k2
  exact k2
theorem ax_callSN4r {M' : am_M} {idx : Nat} {host : String} {x1 x2 x3 x4 : Value} {r : Nat} {S' : fm} (hd : decode M.2.1 pc = .ok (.invokestatic idx, 3)) (hl : Cond.methodLinkNest M.1.cls idx M'.1 host ∈ am_nest) (ho : am_okS M') (hn : (parseMethodDescriptor M'.1.desc).map (fun d => d.parameters.length) = some 4) (hw : (st.map fun v => v.category).sum ≤ 8) (kk : AF V M' d [x1, x2, x3, x4] S (some (.ref r)) S') (k : AW V M (d + 1) kc ks (pc + 3) L (.ref r :: st) (hp S') R) : AW V M (d + 1) kc ks pc L (x4 :: x3 :: x2 :: x1 :: st) (hp S) R := by
  unfold AF at kk
  have k1 : AM V M' d 0 0 [x1, x2, x3, x4] (hp S) (fun r' h' => AW V M (d + 1) kc ks (pc + 3) L (r'.toList ++ st) h' R) := by
    refine AM.weaken ?_ kk
    intro r' h' z
    rw [z.1, z.2]
    exact k
  have k2 := aw_callSN (V := V) (M := M) (M' := M') (d := d) (kc := kc) (ks := ks) (pc := pc) (kc' := 0) (ks' := 0) (as := [x1, x2, x3, x4]) (st := st) (L := L) (h := hp S) (R := R) (b := 0) (ci := 0) (q := (RX0, TX0, 12)) (fs := []) hd hl ho hn rfl hw k1
  rw [Nat.zero_add, Nat.zero_add] at k2
  exact k2
theorem ax_callSN5i {M' : am_M} {idx : Nat} {host : String} {x1 x2 x3 x4 x5 : Value} {r : Int32} {S' : fm} (hd : decode M.2.1 pc = .ok (.invokestatic idx, 3)) (hl : Cond.methodLinkNest M.1.cls idx M'.1 host ∈ am_nest) (ho : am_okS M') (hn : (parseMethodDescriptor M'.1.desc).map (fun d => d.parameters.length) = some 5) (hw : (st.map fun v => v.category).sum ≤ 8) (kk : AF V M' d [x1, x2, x3, x4, x5] S (some (.int r)) S') (k : AW V M (d + 1) kc ks (pc + 3) L (.int r :: st) (hp S') R) : AW V M (d + 1) kc ks pc L (x5 :: x4 :: x3 :: x2 :: x1 :: st) (hp S) R := by
  unfold AF at kk
  have k1 : AM V M' d 0 0 [x1, x2, x3, x4, x5] (hp S) (fun r' h' => AW V M (d + 1) kc ks (pc + 3) L (r'.toList ++ st) h' R) := by
    refine AM.weaken ?_ kk
    intro r' h' z
    rw [z.1, z.2]
    exact k
  have k2 := aw_callSN (V := V) (M := M) (M' := M') (d := d) (kc := kc) (ks := ks) (pc := pc) (kc' := 0) (ks' := 0) (as := [x1, x2, x3, x4, x5]) (st := st) (L := L) (h := hp S) (R := R) (b := 0) (ci := 0) (q := (RX0, TX0, 12)) (fs := []) hd hl ho hn rfl hw k1
  rw [Nat.zero_add, Nat.zero_add] at k2
  exact k2
theorem ax_callSN5v {M' : am_M} {idx : Nat} {host : String} {x1 x2 x3 x4 x5 : Value} {S' : fm} (hd : decode M.2.1 pc = .ok (.invokestatic idx, 3)) (hl : Cond.methodLinkNest M.1.cls idx M'.1 host ∈ am_nest) (ho : am_okS M') (hn : (parseMethodDescriptor M'.1.desc).map (fun d => d.parameters.length) = some 5) (hw : (st.map fun v => v.category).sum ≤ 8) (kk : AF V M' d [x1, x2, x3, x4, x5] S none S') (k : AW V M (d + 1) kc ks (pc + 3) L (st) (hp S') R) : AW V M (d + 1) kc ks pc L (x5 :: x4 :: x3 :: x2 :: x1 :: st) (hp S) R := by
  unfold AF at kk
  have k1 : AM V M' d 0 0 [x1, x2, x3, x4, x5] (hp S) (fun r' h' => AW V M (d + 1) kc ks (pc + 3) L (r'.toList ++ st) h' R) := by
    refine AM.weaken ?_ kk
    intro r' h' z
    rw [z.1, z.2]
    exact k
  have k2 := aw_callSN (V := V) (M := M) (M' := M') (d := d) (kc := kc) (ks := ks) (pc := pc) (kc' := 0) (ks' := 0) (as := [x1, x2, x3, x4, x5]) (st := st) (L := L) (h := hp S) (R := R) (b := 0) (ci := 0) (q := (RX0, TX0, 12)) (fs := []) hd hl ho hn rfl hw k1
  rw [Nat.zero_add, Nat.zero_add] at k2
  exact k2
theorem ax_callSN5l {M' : am_M} {idx : Nat} {host : String} {x1 x2 x3 x4 x5 : Value} {r : Int64} {S' : fm} (hd : decode M.2.1 pc = .ok (.invokestatic idx, 3)) (hl : Cond.methodLinkNest M.1.cls idx M'.1 host ∈ am_nest) (ho : am_okS M') (hn : (parseMethodDescriptor M'.1.desc).map (fun d => d.parameters.length) = some 5) (hw : (st.map fun v => v.category).sum ≤ 8) (kk : AF V M' d [x1, x2, x3, x4, x5] S (some (.long r)) S') (k : AW V M (d + 1) kc ks (pc + 3) L (.long r :: st) (hp S') R) : AW V M (d + 1) kc ks pc L (x5 :: x4 :: x3 :: x2 :: x1 :: st) (hp S) R := by
  unfold AF at kk
  have k1 : AM V M' d 0 0 [x1, x2, x3, x4, x5] (hp S) (fun r' h' => AW V M (d + 1) kc ks (pc + 3) L (r'.toList ++ st) h' R) := by
    refine AM.weaken ?_ kk
    intro r' h' z
    rw [z.1, z.2]
    exact k
  have k2 := aw_callSN (V := V) (M := M) (M' := M') (d := d) (kc := kc) (ks := ks) (pc := pc) (kc' := 0) (ks' := 0) (as := [x1, x2, x3, x4, x5]) (st := st) (L := L) (h := hp S) (R := R) (b := 0) (ci := 0) (q := (RX0, TX0, 12)) (fs := []) hd hl ho hn rfl hw k1
  rw [Nat.zero_add, Nat.zero_add] at k2
  exact k2
theorem ax_callSN5r {M' : am_M} {idx : Nat} {host : String} {x1 x2 x3 x4 x5 : Value} {r : Nat} {S' : fm} (hd : decode M.2.1 pc = .ok (.invokestatic idx, 3)) (hl : Cond.methodLinkNest M.1.cls idx M'.1 host ∈ am_nest) (ho : am_okS M') (hn : (parseMethodDescriptor M'.1.desc).map (fun d => d.parameters.length) = some 5) (hw : (st.map fun v => v.category).sum ≤ 8) (kk : AF V M' d [x1, x2, x3, x4, x5] S (some (.ref r)) S') (k : AW V M (d + 1) kc ks (pc + 3) L (.ref r :: st) (hp S') R) : AW V M (d + 1) kc ks pc L (x5 :: x4 :: x3 :: x2 :: x1 :: st) (hp S) R := by
  unfold AF at kk
  have k1 : AM V M' d 0 0 [x1, x2, x3, x4, x5] (hp S) (fun r' h' => AW V M (d + 1) kc ks (pc + 3) L (r'.toList ++ st) h' R) := by
    refine AM.weaken ?_ kk
    intro r' h' z
    rw [z.1, z.2]
    exact k
  have k2 := aw_callSN (V := V) (M := M) (M' := M') (d := d) (kc := kc) (ks := ks) (pc := pc) (kc' := 0) (ks' := 0) (as := [x1, x2, x3, x4, x5]) (st := st) (L := L) (h := hp S) (R := R) (b := 0) (ci := 0) (q := (RX0, TX0, 12)) (fs := []) hd hl ho hn rfl hw k1
  rw [Nat.zero_add, Nat.zero_add] at k2
  exact k2
end AXR
end
section
def am_isB (b : Nat) : Prop := b = 2 ∨ b = 14 ∨ b = 28 ∨ b = 40
theorem tb_B {b : Nat} (h : am_isB b) : am_tab[b]? = some (.inl (0, [b + 3, 0, b + 8, b + 9, b + 10, 0, 0, 0, b + 11, b + 12, b + 13, 0])) := by rcases h with rfl | rfl | rfl | rfl <;> rfl
theorem tb_Bk {b : Nat} (h : am_isB b) : am_tab[b + 1]? = some (.inr (.inr (3, [b + 2, b + 3, b + 4, b + 5]))) := by rcases h with rfl | rfl | rfl | rfl <;> rfl
theorem tb_K {b k : Nat} (h : am_isB b) (hk : k < 4) : am_tab[b + 2 + k]? = some (.inl (1, [0, 0, 0, 0, 0, 0, 0, 0, 0])) := by
  rcases (show k = 0 ∨ k = 1 ∨ k = 2 ∨ k = 3 by omega) with rfl | rfl | rfl | rfl <;> rcases h with rfl | rfl | rfl | rfl <;> rfl
theorem tb_B6 {b : Nat} (h : am_isB b) : am_tab[b + 6]? = some (.inr (.inl (0, 8))) := by rcases h with rfl | rfl | rfl | rfl <;> rfl
theorem tb_B7 {b : Nat} (h : am_isB b) : am_tab[b + 7]? = some (.inr (.inl (0, 8))) := by rcases h with rfl | rfl | rfl | rfl <;> rfl
theorem tb_B8 {b : Nat} (h : am_isB b) : am_tab[b + 8]? = some (.inr (.inl (0, 8))) := by rcases h with rfl | rfl | rfl | rfl <;> rfl
theorem tb_B9 {b : Nat} (h : am_isB b) : am_tab[b + 9]? = some (.inr (.inl (0, 6))) := by rcases h with rfl | rfl | rfl | rfl <;> rfl
theorem tb_B10 {b : Nat} (h : am_isB b) : am_tab[b + 10]? = some (.inr (.inl (0, 6))) := by rcases h with rfl | rfl | rfl | rfl <;> rfl
theorem tb_B11 {b : Nat} (h : am_isB b) : am_tab[b + 11]? = some (.inr (.inl (0, 6))) := by rcases h with rfl | rfl | rfl | rfl <;> rfl
end
section
section AMSW
variable {V : am_V} {M : am_M} {d kc ks pc : Nat} {L : List (Option Value)} {st : List Value} {h : List va_E} {R : Option Value → List va_E → Prop}
theorem aw_tab3 {dflt o0 o1 o2 : Int} {len : Nat} {x : Int32} {td t0 t1 t2 : Nat} (hd : decode M.2.1 pc = .ok (.tableswitch dflt 0 2 #[o0, o1, o2], len)) (hdf : (pc : Int) + dflt = (td : Int)) (h0 : (pc : Int) + o0 = (t0 : Int)) (h1 : (pc : Int) + o1 = (t1 : Int)) (h2 : (pc : Int) + o2 = (t2 : Int)) (k0 : x = 0 → AW V M d kc ks t0 L st h R) (k1 : x = 1 → AW V M d kc ks t1 L st h R) (k2 : x = 2 → AW V M d kc ks t2 L st h R) (kd : ¬ x = 0 → ¬ x = 1 → ¬ x = 2 → AW V M d kc ks td L st h R) : AW V M d kc ks pc L (.int x :: st) h R := by
  by_cases c0 : x = 0
  · exact aw_tableIn (off := o0) hd (by rw [c0]; decide) (by rw [c0]; decide) (by rw [c0]; rfl) h0 (k0 c0)
  by_cases c1 : x = 1
  · exact aw_tableIn (off := o1) hd (by rw [c1]; decide) (by rw [c1]; decide) (by rw [c1]; rfl) h1 (k1 c1)
  by_cases c2 : x = 2
  · exact aw_tableIn (off := o2) hd (by rw [c2]; decide) (by rw [c2]; decide) (by rw [c2]; rfl) h2 (k2 c2)
  refine aw_tableOut hd ?_ hdf (kd c0 c1 c2)
  rcases (show x.toInt < 0 ∨ 2 < x.toInt ∨ x.toInt = 0 ∨ x.toInt = 1 ∨ x.toInt = 2 by omega) with q | q | q | q | q
  · exact Or.inl q
  · exact Or.inr q
  · exact absurd (Int32.toInt_inj.mp (by rw [q]; rfl)) c0
  · exact absurd (Int32.toInt_inj.mp (by rw [q]; rfl)) c1
  · exact absurd (Int32.toInt_inj.mp (by rw [q]; rfl)) c2
theorem aw_tab5 {dflt o0 o1 o2 o3 o4 : Int} {len : Nat} {x : Int32} {td t0 t1 t2 t3 t4 : Nat} (hd : decode M.2.1 pc = .ok (.tableswitch dflt 0 4 #[o0, o1, o2, o3, o4], len)) (hdf : (pc : Int) + dflt = (td : Int)) (h0 : (pc : Int) + o0 = (t0 : Int)) (h1 : (pc : Int) + o1 = (t1 : Int)) (h2 : (pc : Int) + o2 = (t2 : Int)) (h3 : (pc : Int) + o3 = (t3 : Int)) (h4 : (pc : Int) + o4 = (t4 : Int)) (k0 : x = 0 → AW V M d kc ks t0 L st h R) (k1 : x = 1 → AW V M d kc ks t1 L st h R) (k2 : x = 2 → AW V M d kc ks t2 L st h R) (k3 : x = 3 → AW V M d kc ks t3 L st h R) (k4 : x = 4 → AW V M d kc ks t4 L st h R) (kd : ¬ x = 0 → ¬ x = 1 → ¬ x = 2 → ¬ x = 3 → ¬ x = 4 → AW V M d kc ks td L st h R) : AW V M d kc ks pc L (.int x :: st) h R := by
  by_cases c0 : x = 0
  · exact aw_tableIn (off := o0) hd (by rw [c0]; decide) (by rw [c0]; decide) (by rw [c0]; rfl) h0 (k0 c0)
  by_cases c1 : x = 1
  · exact aw_tableIn (off := o1) hd (by rw [c1]; decide) (by rw [c1]; decide) (by rw [c1]; rfl) h1 (k1 c1)
  by_cases c2 : x = 2
  · exact aw_tableIn (off := o2) hd (by rw [c2]; decide) (by rw [c2]; decide) (by rw [c2]; rfl) h2 (k2 c2)
  by_cases c3 : x = 3
  · exact aw_tableIn (off := o3) hd (by rw [c3]; decide) (by rw [c3]; decide) (by rw [c3]; rfl) h3 (k3 c3)
  by_cases c4 : x = 4
  · exact aw_tableIn (off := o4) hd (by rw [c4]; decide) (by rw [c4]; decide) (by rw [c4]; rfl) h4 (k4 c4)
  refine aw_tableOut hd ?_ hdf (kd c0 c1 c2 c3 c4)
  rcases (show x.toInt < 0 ∨ 4 < x.toInt ∨ x.toInt = 0 ∨ x.toInt = 1 ∨ x.toInt = 2 ∨ x.toInt = 3 ∨ x.toInt = 4 by omega) with q | q | q | q | q | q | q
  · exact Or.inl q
  · exact Or.inr q
  · exact absurd (Int32.toInt_inj.mp (by rw [q]; rfl)) c0
  · exact absurd (Int32.toInt_inj.mp (by rw [q]; rfl)) c1
  · exact absurd (Int32.toInt_inj.mp (by rw [q]; rfl)) c2
  · exact absurd (Int32.toInt_inj.mp (by rw [q]; rfl)) c3
  · exact absurd (Int32.toInt_inj.mp (by rw [q]; rfl)) c4
theorem aw_tab6 {dflt o0 o1 o2 o3 o4 o5 : Int} {len : Nat} {x : Int32} {td t0 t1 t2 t3 t4 t5 : Nat} (hd : decode M.2.1 pc = .ok (.tableswitch dflt 0 5 #[o0, o1, o2, o3, o4, o5], len)) (hdf : (pc : Int) + dflt = (td : Int)) (h0 : (pc : Int) + o0 = (t0 : Int)) (h1 : (pc : Int) + o1 = (t1 : Int)) (h2 : (pc : Int) + o2 = (t2 : Int)) (h3 : (pc : Int) + o3 = (t3 : Int)) (h4 : (pc : Int) + o4 = (t4 : Int)) (h5 : (pc : Int) + o5 = (t5 : Int)) (k0 : x = 0 → AW V M d kc ks t0 L st h R) (k1 : x = 1 → AW V M d kc ks t1 L st h R) (k2 : x = 2 → AW V M d kc ks t2 L st h R) (k3 : x = 3 → AW V M d kc ks t3 L st h R) (k4 : x = 4 → AW V M d kc ks t4 L st h R) (k5 : x = 5 → AW V M d kc ks t5 L st h R) (kd : ¬ x = 0 → ¬ x = 1 → ¬ x = 2 → ¬ x = 3 → ¬ x = 4 → ¬ x = 5 → AW V M d kc ks td L st h R) : AW V M d kc ks pc L (.int x :: st) h R := by
  by_cases c0 : x = 0
  · exact aw_tableIn (off := o0) hd (by rw [c0]; decide) (by rw [c0]; decide) (by rw [c0]; rfl) h0 (k0 c0)
  by_cases c1 : x = 1
  · exact aw_tableIn (off := o1) hd (by rw [c1]; decide) (by rw [c1]; decide) (by rw [c1]; rfl) h1 (k1 c1)
  by_cases c2 : x = 2
  · exact aw_tableIn (off := o2) hd (by rw [c2]; decide) (by rw [c2]; decide) (by rw [c2]; rfl) h2 (k2 c2)
  by_cases c3 : x = 3
  · exact aw_tableIn (off := o3) hd (by rw [c3]; decide) (by rw [c3]; decide) (by rw [c3]; rfl) h3 (k3 c3)
  by_cases c4 : x = 4
  · exact aw_tableIn (off := o4) hd (by rw [c4]; decide) (by rw [c4]; decide) (by rw [c4]; rfl) h4 (k4 c4)
  by_cases c5 : x = 5
  · exact aw_tableIn (off := o5) hd (by rw [c5]; decide) (by rw [c5]; decide) (by rw [c5]; rfl) h5 (k5 c5)
  refine aw_tableOut hd ?_ hdf (kd c0 c1 c2 c3 c4 c5)
  rcases (show x.toInt < 0 ∨ 5 < x.toInt ∨ x.toInt = 0 ∨ x.toInt = 1 ∨ x.toInt = 2 ∨ x.toInt = 3 ∨ x.toInt = 4 ∨ x.toInt = 5 by omega) with q | q | q | q | q | q | q | q
  · exact Or.inl q
  · exact Or.inr q
  · exact absurd (Int32.toInt_inj.mp (by rw [q]; rfl)) c0
  · exact absurd (Int32.toInt_inj.mp (by rw [q]; rfl)) c1
  · exact absurd (Int32.toInt_inj.mp (by rw [q]; rfl)) c2
  · exact absurd (Int32.toInt_inj.mp (by rw [q]; rfl)) c3
  · exact absurd (Int32.toInt_inj.mp (by rw [q]; rfl)) c4
  · exact absurd (Int32.toInt_inj.mp (by rw [q]; rfl)) c5
theorem aw_tab7 {dflt o0 o1 o2 o3 o4 o5 o6 : Int} {len : Nat} {x : Int32} {td t0 t1 t2 t3 t4 t5 t6 : Nat} (hd : decode M.2.1 pc = .ok (.tableswitch dflt 0 6 #[o0, o1, o2, o3, o4, o5, o6], len)) (hdf : (pc : Int) + dflt = (td : Int)) (h0 : (pc : Int) + o0 = (t0 : Int)) (h1 : (pc : Int) + o1 = (t1 : Int)) (h2 : (pc : Int) + o2 = (t2 : Int)) (h3 : (pc : Int) + o3 = (t3 : Int)) (h4 : (pc : Int) + o4 = (t4 : Int)) (h5 : (pc : Int) + o5 = (t5 : Int)) (h6 : (pc : Int) + o6 = (t6 : Int)) (k0 : x = 0 → AW V M d kc ks t0 L st h R) (k1 : x = 1 → AW V M d kc ks t1 L st h R) (k2 : x = 2 → AW V M d kc ks t2 L st h R) (k3 : x = 3 → AW V M d kc ks t3 L st h R) (k4 : x = 4 → AW V M d kc ks t4 L st h R) (k5 : x = 5 → AW V M d kc ks t5 L st h R) (k6 : x = 6 → AW V M d kc ks t6 L st h R) (kd : ¬ x = 0 → ¬ x = 1 → ¬ x = 2 → ¬ x = 3 → ¬ x = 4 → ¬ x = 5 → ¬ x = 6 → AW V M d kc ks td L st h R) : AW V M d kc ks pc L (.int x :: st) h R := by
  by_cases c0 : x = 0
  · exact aw_tableIn (off := o0) hd (by rw [c0]; decide) (by rw [c0]; decide) (by rw [c0]; rfl) h0 (k0 c0)
  by_cases c1 : x = 1
  · exact aw_tableIn (off := o1) hd (by rw [c1]; decide) (by rw [c1]; decide) (by rw [c1]; rfl) h1 (k1 c1)
  by_cases c2 : x = 2
  · exact aw_tableIn (off := o2) hd (by rw [c2]; decide) (by rw [c2]; decide) (by rw [c2]; rfl) h2 (k2 c2)
  by_cases c3 : x = 3
  · exact aw_tableIn (off := o3) hd (by rw [c3]; decide) (by rw [c3]; decide) (by rw [c3]; rfl) h3 (k3 c3)
  by_cases c4 : x = 4
  · exact aw_tableIn (off := o4) hd (by rw [c4]; decide) (by rw [c4]; decide) (by rw [c4]; rfl) h4 (k4 c4)
  by_cases c5 : x = 5
  · exact aw_tableIn (off := o5) hd (by rw [c5]; decide) (by rw [c5]; decide) (by rw [c5]; rfl) h5 (k5 c5)
  by_cases c6 : x = 6
  · exact aw_tableIn (off := o6) hd (by rw [c6]; decide) (by rw [c6]; decide) (by rw [c6]; rfl) h6 (k6 c6)
  refine aw_tableOut hd ?_ hdf (kd c0 c1 c2 c3 c4 c5 c6)
  rcases (show x.toInt < 0 ∨ 6 < x.toInt ∨ x.toInt = 0 ∨ x.toInt = 1 ∨ x.toInt = 2 ∨ x.toInt = 3 ∨ x.toInt = 4 ∨ x.toInt = 5 ∨ x.toInt = 6 by omega) with q | q | q | q | q | q | q | q | q
  · exact Or.inl q
  · exact Or.inr q
  · exact absurd (Int32.toInt_inj.mp (by rw [q]; rfl)) c0
  · exact absurd (Int32.toInt_inj.mp (by rw [q]; rfl)) c1
  · exact absurd (Int32.toInt_inj.mp (by rw [q]; rfl)) c2
  · exact absurd (Int32.toInt_inj.mp (by rw [q]; rfl)) c3
  · exact absurd (Int32.toInt_inj.mp (by rw [q]; rfl)) c4
  · exact absurd (Int32.toInt_inj.mp (by rw [q]; rfl)) c5
  · exact absurd (Int32.toInt_inj.mp (by rw [q]; rfl)) c6
theorem aw_look2 {dflt a1 o1 a2 o2 : Int} {len : Nat} {x : Int32} {td t1 t2 : Nat} (v1 v2 : Int32) (hd : decode M.2.1 pc = .ok (.lookupswitch dflt #[(a1, o1), (a2, o2)], len)) (e1 : v1.toInt = a1) (e2 : v2.toInt = a2) (hlt : a1 < a2) (hdf : (pc : Int) + dflt = (td : Int)) (h1 : (pc : Int) + o1 = (t1 : Int)) (h2 : (pc : Int) + o2 = (t2 : Int)) (k1 : x = v1 → AW V M d kc ks t1 L st h R) (k2 : ¬ x = v1 → x = v2 → AW V M d kc ks t2 L st h R) (kd : ¬ x = v1 → ¬ x = v2 → AW V M d kc ks td L st h R) : AW V M d kc ks pc L (.int x :: st) h R := by
  have hp : ((#[(a1, o1), (a2, o2)] : Array (Int × Int)).toList.zip ((#[(a1, o1), (a2, o2)] : Array (Int × Int)).toList.drop 1)).all (fun (a, next) => a.1 < next.1) = true := by simp [hlt]
  by_cases c1 : x = v1
  · refine aw_lookup (off := o1) hd hp ?_ h1 (k1 c1)
    show Op.lookupswitch.offset [(a1, o1), (a2, o2)] dflt x.toInt = o1
    rw [Op.lookupswitch.offset_cons, if_pos (by rw [c1, e1])]
  by_cases c2 : x = v2
  · refine aw_lookup (off := o2) hd hp ?_ h2 (k2 c1 c2)
    show Op.lookupswitch.offset [(a1, o1), (a2, o2)] dflt x.toInt = o2
    rw [lv_osw c1 e1, Op.lookupswitch.offset_cons, if_pos (by rw [c2, e2])]
  · refine aw_lookup (off := dflt) hd hp ?_ hdf (kd c1 c2)
    show Op.lookupswitch.offset [(a1, o1), (a2, o2)] dflt x.toInt = dflt
    rw [lv_osw c1 e1, lv_osw c2 e2]
    rfl
theorem aw_tE {x : Int32} (y : Int32) (e : x = y) (k : AW V M d kc ks pc L (.int y :: st) h R) : AW V M d kc ks pc L (.int x :: st) h R := by rw [e]; exact k
theorem aw_tEl {x : Int64} (y : Int64) (e : x = y) (k : AW V M d kc ks pc L (.long y :: st) h R) : AW V M d kc ks pc L (.long x :: st) h R := by rw [e]; exact k
end AMSW
/-- a cell of the flat memory as a whole -/
def upk (f : Nat → Nat → Int32) (a : Nat) (g : Nat → Int32) : Nat → Nat → Int32 := fun b j => if b = a then g j else f b j
theorem upk_at (f : Nat → Nat → Int32) (a : Nat) (g : Nat → Int32) (k : Nat) : upk f a g a k = g k := by simp [upk]
theorem upk_ne {f : Nat → Nat → Int32} {a b : Nat} {g : Nat → Int32} (h : b ≠ a) (k : Nat) : upk f a g b k = f b k := by simp [upk, h]
theorem upk_row (f : Nat → Nat → Int32) (a : Nat) (g : Nat → Int32) : upk f a g a = g := by funext k; simp [upk]
theorem upk_rne {f : Nat → Nat → Int32} {a b : Nat} {g : Nat → Int32} (h : b ≠ a) : upk f a g b = f b := by funext k; simp [upk, h]
theorem upk_self (f : Nat → Nat → Int32) (a : Nat) : upk f a (f a) = f := by
  funext b j
  by_cases h : b = a
  · subst h; simp [upk]
  · simp [upk, h]
theorem upk_upk (f : Nat → Nat → Int32) (a : Nat) (g g' : Nat → Int32) : upk (upk f a g) a g' = upk f a g' := by
  funext b j
  by_cases h : b = a <;> simp [upk, h]
theorem up2_upk (f : Nat → Nat → Int32) (a k : Nat) (g : Nat → Int32) (x : Int32) : up2 (upk f a g) a k x = upk f a (upd g k x) := by
  funext b j
  by_cases h : b = a
  · subst h
    by_cases hj : j = k <;> simp [up2, upk, upd, hj]
  · simp [up2, upk, h]
theorem up2_eq (f : Nat → Nat → Int32) (a k : Nat) (x : Int32) : up2 f a k x = upk f a (upd (f a) k x) := by
  funext b j
  by_cases h : b = a
  · subst h
    by_cases hj : j = k <;> simp [up2, upk, upd, hj]
  · simp [up2, upk, h]
theorem upk_comm (f : Nat → Nat → Int32) {a b : Nat} (g g' : Nat → Int32) (h : a ≠ b) : upk (upk f a g) b g' = upk (upk f b g') a g := by
  funext c j
  by_cases h1 : c = a
  · subst h1; simp [upk, h]
  · by_cases h2 : c = b
    · subst h2; simp [upk, h1]
    · simp [upk, h1, h2]
section AXK
variable {V : am_V} {M : am_M} {d kc ks pc : Nat} {L : List (Option Value)} {st : List Value} {R : Option Value → List va_E → Prop} {f : Nat → Nat → Int32} {g : Nat → Int32} {τ : Nat → Nat → Int64}
theorem ax_getK {a ci idx : Nat} {q : vw_C} {ts : List Nat} (k : Nat) (hd : decode M.2.1 pc = .ok (.getfield idx, 3)) (hq : am_cl[ci]? = some q) (hl : Cond.fieldLink M.1.cls idx (q.2.1 k).1 (q.2.1 k).2.1 (q.2.1 k).2.2.1 ∈ am_T) (hk : k < q.2.2) (ht : am_tab[a]? = some (.inl (ci, ts))) (hv : ts[k]? = some 0) (kk : AW V M d kc ks (pc + 3) L (.int (g k) :: st) (hp (upk f a g, τ)) R) : AW V M d kc ks pc L (.ref a :: st) (hp (upk f a g, τ)) R := by
  refine ax_geti k hd hq hl hk ht hv ?_
  rw [show (upk f a g, τ).1 a k = g k from upk_at f a g k]
  exact kk
theorem ax_putK {a ci idx : Nat} {q : vw_C} {ts : List Nat} {x : Int32} (k : Nat) (hd : decode M.2.1 pc = .ok (.putfield idx, 3)) (hq : am_cl[ci]? = some q) (hl : Cond.fieldLink M.1.cls idx (q.2.1 k).1 (q.2.1 k).2.1 (q.2.1 k).2.2.1 ∈ am_T) (hk : k < q.2.2) (ht : am_tab[a]? = some (.inl (ci, ts))) (hv : ts[k]? = some 0) (hf : (q.2.1 k).2.2.2 = false) (hty : am_fty ci k = .int) (kk : AW V M d kc ks (pc + 3) L st (hp (upk f a (upd g k x), τ)) R) : AW V M d kc ks pc L (.int x :: .ref a :: st) (hp (upk f a g, τ)) R := by
  refine ax_puti k hd hq hl hk ht hv hf hty ?_
  rw [show up2 (upk f a g, τ).1 a k x = upk f a (upd g k x) from up2_upk f a k g x]
  exact kk
end AXK
end
section
def b2i (c : Prop) [Decidable c] : Int32 := if c then 1 else 0
theorem b2i_z (c : Prop) [Decidable c] : narrow .boolean (.int (b2i c)) = .int (b2i c) := by unfold b2i; split <;> rfl
theorem b2i_t {c : Prop} [Decidable c] (h : c) : b2i c = 1 := by simp [b2i, h]
theorem b2i_f {c : Prop} [Decidable c] (h : ¬ c) : b2i c = 0 := by simp [b2i, h]
def imin (x y : Int32) : Int32 := if y < x then y else x
def imax (x y : Int32) : Int32 := if x < y then y else x
set_option maxRecDepth 100000 in
set_option maxHeartbeats 4000000 in
theorem f_X4_within {V : am_V} {d : Nat} {S : fm} (v lo hi : Int32) : AF V MX4_within d [.int v, .int lo, .int hi] S (some (.int (b2i (lo ≤ v ∧ v ≤ hi)))) S := by
  refine AM.of (L := [some (.int v), some (.int lo), some (.int hi)]) (by decide +kernel) (Nat.le_of_ble_eq_true rfl) rfl ?_
  refine aw_iload_n (i := 0) dX4_within_0 rfl rfl ?_
  refine aw_iload_n (i := 1) dX4_within_1 rfl rfl ?_
  refine aw_icmp_lt (tgt := 14) dX4_within_2 (by decide) (fun c2 => ?_) (fun c2 => ?_)
  · refine aw_iconst (v := 0) dX4_within_14 (by decide) ?_
    refine aw_ireturn (ty := .boolean) dX4_within_15 rfl (by decide) ?_
    first | exact ⟨congrArg (fun z => some (Value.int z)) (b2i_t ⟨Int32.not_lt.mp c2, Int32.not_lt.mp c7⟩).symm, rfl⟩ | exact ⟨congrArg (fun z => some (Value.int z)) (b2i_f (fun z => absurd c2 (Int32.not_lt.mpr z.1))).symm, rfl⟩ | exact ⟨congrArg (fun z => some (Value.int z)) (b2i_f (fun z => absurd c7 (Int32.not_lt.mpr z.2))).symm, rfl⟩
  · refine aw_iload_n (i := 0) dX4_within_5 rfl rfl ?_
    refine aw_iload_n (i := 2) dX4_within_6 rfl rfl ?_
    refine aw_icmp_gt (tgt := 14) dX4_within_7 (by decide) (fun c7 => ?_) (fun c7 => ?_)
    · refine aw_iconst (v := 0) dX4_within_14 (by decide) ?_
      refine aw_ireturn (ty := .boolean) dX4_within_15 rfl (by decide) ?_
      first | exact ⟨congrArg (fun z => some (Value.int z)) (b2i_t ⟨Int32.not_lt.mp c2, Int32.not_lt.mp c7⟩).symm, rfl⟩ | exact ⟨congrArg (fun z => some (Value.int z)) (b2i_f (fun z => absurd c2 (Int32.not_lt.mpr z.1))).symm, rfl⟩ | exact ⟨congrArg (fun z => some (Value.int z)) (b2i_f (fun z => absurd c7 (Int32.not_lt.mpr z.2))).symm, rfl⟩
    · refine aw_iconst (v := 1) dX4_within_10 (by decide) ?_
      refine aw_goto (tgt := 15) dX4_within_11 (by decide) ?_
      refine aw_ireturn (ty := .boolean) dX4_within_15 rfl (by decide) ?_
      first | exact ⟨congrArg (fun z => some (Value.int z)) (b2i_t ⟨Int32.not_lt.mp c2, Int32.not_lt.mp c7⟩).symm, rfl⟩ | exact ⟨congrArg (fun z => some (Value.int z)) (b2i_f (fun z => absurd c2 (Int32.not_lt.mpr z.1))).symm, rfl⟩ | exact ⟨congrArg (fun z => some (Value.int z)) (b2i_f (fun z => absurd c7 (Int32.not_lt.mpr z.2))).symm, rfl⟩
def k_start (g : Nat → Int32) : Nat → Int32 := upd (upd g 7 0) 8 0
set_option maxRecDepth 100000 in
set_option maxHeartbeats 4000000 in
theorem f_X1_startRun {V : am_V} {d a : Nat} {f : Nat → Nat → Int32} {g : Nat → Int32} {τ : Nat → Nat → Int64} (ht : am_tab[a]? = some (.inl (1, [0, 0, 0, 0, 0, 0, 0, 0, 0]))) : AF V MX1_startRun d [.ref a] (upk f a g, τ) none (upk f a (k_start g), τ) := by
  refine AM.of (L := [some (.ref a)]) (by decide +kernel) (Nat.le_of_ble_eq_true rfl) rfl ?_
  refine aw_aload_n (i := 0) dX1_startRun_0 rfl rfl ?_
  refine aw_iconst (v := 0) dX1_startRun_1 (by decide) ?_
  refine ax_putK (ci := 1) 7 dX1_startRun_2 rfl lfX1_36 (by decide) (by assumption) (by rfl) rfl rfl ?_
  refine aw_aload_n (i := 0) dX1_startRun_5 rfl rfl ?_
  refine aw_iconst (v := 0) dX1_startRun_6 (by decide) ?_
  refine ax_putK (ci := 1) 8 dX1_startRun_7 rfl lfX1_39 (by decide) (by assumption) (by rfl) rfl rfl ?_
  refine aw_return dX1_startRun_10 rfl ?_
  exact ⟨rfl, rfl⟩
def k_begin (g : Nat → Int32) (kind bounce number : Int32) : Nat → Int32 := k_start (upd (upd (upd (upd (upd (upd (upd g 0 bounce) 1 kind) 2 number) 3 0) 4 0) 5 0) 6 0)
set_option maxRecDepth 100000 in
set_option maxHeartbeats 4000000 in
theorem f_X1_begin {V : am_V} {d a : Nat} {f : Nat → Nat → Int32} {g : Nat → Int32} {τ : Nat → Nat → Int64} (ht : am_tab[a]? = some (.inl (1, [0, 0, 0, 0, 0, 0, 0, 0, 0]))) (kind bounce number : Int32) : AF V MX1_begin (d + 1) [.ref a, .int kind, .int bounce, .int number] (upk f a g, τ) none (upk f a (k_begin g kind bounce number), τ) := by
  refine AM.of (L := [some (.ref a), some (.int kind), some (.int bounce), some (.int number)]) (by decide +kernel) (Nat.le_of_ble_eq_true rfl) rfl ?_
  refine aw_aload_n (i := 0) dX1_begin_0 rfl rfl ?_
  refine aw_iload_n (i := 2) dX1_begin_1 rfl rfl ?_
  refine ax_putK (ci := 1) 0 dX1_begin_2 rfl lfX1_9 (by decide) (by assumption) (by rfl) rfl rfl ?_
  refine aw_aload_n (i := 0) dX1_begin_5 rfl rfl ?_
  refine aw_iload_n (i := 1) dX1_begin_6 rfl rfl ?_
  refine ax_putK (ci := 1) 1 dX1_begin_7 rfl lfX1_15 (by decide) (by assumption) (by rfl) rfl rfl ?_
  refine aw_aload_n (i := 0) dX1_begin_10 rfl rfl ?_
  refine aw_iload_n (i := 3) dX1_begin_11 rfl rfl ?_
  refine ax_putK (ci := 1) 2 dX1_begin_12 rfl lfX1_18 (by decide) (by assumption) (by rfl) rfl rfl ?_
  refine aw_aload_n (i := 0) dX1_begin_15 rfl rfl ?_
  refine aw_iconst (v := 0) dX1_begin_16 (by decide) ?_
  refine ax_putK (ci := 1) 3 dX1_begin_17 rfl lfX1_21 (by decide) (by assumption) (by rfl) rfl rfl ?_
  refine aw_aload_n (i := 0) dX1_begin_20 rfl rfl ?_
  refine aw_iconst (v := 0) dX1_begin_21 (by decide) ?_
  refine ax_putK (ci := 1) 4 dX1_begin_22 rfl lfX1_24 (by decide) (by assumption) (by rfl) rfl rfl ?_
  refine aw_aload_n (i := 0) dX1_begin_25 rfl rfl ?_
  refine aw_iconst (v := 0) dX1_begin_26 (by decide) ?_
  refine ax_putK (ci := 1) 5 dX1_begin_27 rfl lfX1_27 (by decide) (by assumption) (by rfl) rfl rfl ?_
  refine aw_aload_n (i := 0) dX1_begin_30 rfl rfl ?_
  refine aw_iconst (v := 0) dX1_begin_31 (by decide) ?_
  refine ax_putK (ci := 1) 6 dX1_begin_32 rfl lfX1_30 (by decide) (by assumption) (by rfl) rfl rfl ?_
  refine aw_aload_n (i := 0) dX1_begin_35 rfl rfl ?_
  refine ax_callV0v (M' := MX1_startRun) (ci := 1) dX1_begin_36 lmX1_33 oX1_startRun (by decide +kernel) (by assumption) rfl rfl (Nat.le_of_ble_eq_true rfl) (f_X1_startRun ht) ?_
  refine aw_return dX1_begin_39 rfl ?_
  exact ⟨rfl, rfl⟩
def k_part (g : Nat → Int32) (what : Int32) : Int32 := if what = 0 then g 0 else if what = 1 then g 1 else g 2
set_option maxRecDepth 100000 in
set_option maxHeartbeats 4000000 in
theorem f_X1_part {V : am_V} {d a : Nat} {f : Nat → Nat → Int32} {g : Nat → Int32} {τ : Nat → Nat → Int64} (ht : am_tab[a]? = some (.inl (1, [0, 0, 0, 0, 0, 0, 0, 0, 0]))) (what : Int32) : AF V MX1_part d [.ref a, .int what] (upk f a g, τ) (some (.int (k_part g what))) (upk f a g, τ) := by
  refine AM.of (L := [some (.ref a), some (.int what)]) (by decide +kernel) (Nat.le_of_ble_eq_true rfl) rfl ?_
  refine aw_iload_n (i := 1) dX1_part_0 rfl rfl ?_
  refine aw_look2 (t1 := 28) (t2 := 33) (td := 38) 0 1 dX1_part_1 rfl rfl (by decide) (by decide) (by decide) (by decide) (fun c1 => ?_) (fun c1 c2 => ?_) (fun c1 c2 => ?_)
  · refine aw_aload_n (i := 0) dX1_part_28 rfl rfl ?_
    refine ax_getK (ci := 1) 0 dX1_part_29 rfl lfX1_9 (by decide) (by assumption) (by rfl) ?_
    refine aw_ireturn (ty := .int) dX1_part_32 rfl rfl ?_
    exact ⟨by simp [k_part, *], rfl⟩
  · refine aw_aload_n (i := 0) dX1_part_33 rfl rfl ?_
    refine ax_getK (ci := 1) 1 dX1_part_34 rfl lfX1_15 (by decide) (by assumption) (by rfl) ?_
    refine aw_ireturn (ty := .int) dX1_part_37 rfl rfl ?_
    exact ⟨by simp [k_part, *], rfl⟩
  · refine aw_aload_n (i := 0) dX1_part_38 rfl rfl ?_
    refine ax_getK (ci := 1) 2 dX1_part_39 rfl lfX1_18 (by decide) (by assumption) (by rfl) ?_
    refine aw_ireturn (ty := .int) dX1_part_42 rfl rfl ?_
    exact ⟨by simp [k_part, *], rfl⟩
def k_become (g : Nat → Int32) (part v : Int32) : Nat → Int32 := upd (upd g (if part = 0 then 0 else if part = 1 then 1 else 2) v) 4 (imin (upd g (if part = 0 then 0 else if part = 1 then 1 else 2) v 4) (upd g (if part = 0 then 0 else if part = 1 then 1 else 2) v 2))
set_option maxRecDepth 100000 in
set_option maxHeartbeats 4000000 in
theorem f_X1_become {V : am_V} {d a : Nat} {f : Nat → Nat → Int32} {g : Nat → Int32} {τ : Nat → Nat → Int64} (ht : am_tab[a]? = some (.inl (1, [0, 0, 0, 0, 0, 0, 0, 0, 0]))) (part v : Int32) : AF V MX1_become (d + 1) [.ref a, .int part, .int v] (upk f a g, τ) none (upk f a (k_become g part v), τ) := by
  refine AM.of (L := [some (.ref a), some (.int part), some (.int v)]) (by decide +kernel) (Nat.le_of_ble_eq_true rfl) rfl ?_
  refine aw_iload_n (i := 1) dX1_become_0 rfl rfl ?_
  refine aw_look2 (t1 := 28) (t2 := 36) (td := 44) 0 1 dX1_become_1 rfl rfl (by decide) (by decide) (by decide) (by decide) (fun c1 => ?_) (fun c1 c2 => ?_) (fun c1 c2 => ?_)
  · refine aw_aload_n (i := 0) dX1_become_28 rfl rfl ?_
    refine aw_iload_n (i := 2) dX1_become_29 rfl rfl ?_
    refine ax_putK (ci := 1) 0 dX1_become_30 rfl lfX1_9 (by decide) (by assumption) (by rfl) rfl rfl ?_
    refine aw_goto (tgt := 49) dX1_become_33 (by decide) ?_
    refine aw_aload_n (i := 0) dX1_become_49 rfl rfl ?_
    refine aw_aload_n (i := 0) dX1_become_50 rfl rfl ?_
    refine ax_getK (ci := 1) 4 dX1_become_51 rfl lfX1_24 (by decide) (by assumption) (by rfl) ?_
    refine aw_aload_n (i := 0) dX1_become_54 rfl rfl ?_
    refine ax_getK (ci := 1) 2 dX1_become_55 rfl lfX1_18 (by decide) (by assumption) (by rfl) ?_
    refine aw_mmin dX1_become_58 lmX1_46 (Nat.le_of_ble_eq_true rfl) ?_
    refine ax_putK (ci := 1) 4 dX1_become_61 rfl lfX1_24 (by decide) (by assumption) (by rfl) rfl rfl ?_
    refine aw_return dX1_become_64 rfl ?_
    exact ⟨rfl, by simp only [k_become, if_pos, if_neg, c1, not_false_eq_true, *]; rfl⟩
  · refine aw_aload_n (i := 0) dX1_become_36 rfl rfl ?_
    refine aw_iload_n (i := 2) dX1_become_37 rfl rfl ?_
    refine ax_putK (ci := 1) 1 dX1_become_38 rfl lfX1_15 (by decide) (by assumption) (by rfl) rfl rfl ?_
    refine aw_goto (tgt := 49) dX1_become_41 (by decide) ?_
    refine aw_aload_n (i := 0) dX1_become_49 rfl rfl ?_
    refine aw_aload_n (i := 0) dX1_become_50 rfl rfl ?_
    refine ax_getK (ci := 1) 4 dX1_become_51 rfl lfX1_24 (by decide) (by assumption) (by rfl) ?_
    refine aw_aload_n (i := 0) dX1_become_54 rfl rfl ?_
    refine ax_getK (ci := 1) 2 dX1_become_55 rfl lfX1_18 (by decide) (by assumption) (by rfl) ?_
    refine aw_mmin dX1_become_58 lmX1_46 (Nat.le_of_ble_eq_true rfl) ?_
    refine ax_putK (ci := 1) 4 dX1_become_61 rfl lfX1_24 (by decide) (by assumption) (by rfl) rfl rfl ?_
    refine aw_return dX1_become_64 rfl ?_
    exact ⟨rfl, by simp only [k_become, if_pos, if_neg, c1, not_false_eq_true, *]; rfl⟩
  · refine aw_aload_n (i := 0) dX1_become_44 rfl rfl ?_
    refine aw_iload_n (i := 2) dX1_become_45 rfl rfl ?_
    refine ax_putK (ci := 1) 2 dX1_become_46 rfl lfX1_18 (by decide) (by assumption) (by rfl) rfl rfl ?_
    refine aw_aload_n (i := 0) dX1_become_49 rfl rfl ?_
    refine aw_aload_n (i := 0) dX1_become_50 rfl rfl ?_
    refine ax_getK (ci := 1) 4 dX1_become_51 rfl lfX1_24 (by decide) (by assumption) (by rfl) ?_
    refine aw_aload_n (i := 0) dX1_become_54 rfl rfl ?_
    refine ax_getK (ci := 1) 2 dX1_become_55 rfl lfX1_18 (by decide) (by assumption) (by rfl) ?_
    refine aw_mmin dX1_become_58 lmX1_46 (Nat.le_of_ble_eq_true rfl) ?_
    refine ax_putK (ci := 1) 4 dX1_become_61 rfl lfX1_24 (by decide) (by assumption) (by rfl) rfl rfl ?_
    refine aw_return dX1_become_64 rfl ?_
    exact ⟨rfl, by simp only [k_become, if_pos, if_neg, c1, not_false_eq_true, *]; rfl⟩
def k_may (part v : Int32) : Prop := (part = 0 ∧ 0 ≤ v ∧ v ≤ 9) ∨ (part = 1 ∧ 0 ≤ v ∧ v ≤ 3) ∨ (part = 2 ∧ 1 ≤ v ∧ v ≤ 9)
def k_mayI (part v : Int32) : Int32 := if part = 0 then b2i (0 ≤ v ∧ v ≤ 9) else if part = 1 then b2i (0 ≤ v ∧ v ≤ 3) else if part = 2 then b2i (1 ≤ v ∧ v ≤ 9) else 0
set_option maxRecDepth 100000 in
set_option maxHeartbeats 4000000 in
theorem f_X1_mayBe {V : am_V} {d : Nat} {S : fm} (part v : Int32) : AF V MX1_mayBe (d + 1) [.int part, .int v] S (some (.int (k_mayI part v))) S := by
  refine AM.of (L := [some (.int part), some (.int v)]) (by decide +kernel) (Nat.le_of_ble_eq_true rfl) rfl ?_
  refine aw_iload_n (i := 0) dX1_mayBe_0 rfl rfl ?_
  refine aw_tab3 (t0 := 28) (t1 := 36) (t2 := 43) (td := 51) dX1_mayBe_1 (by decide) (by decide) (by decide) (by decide) (fun c0 => ?_) (fun c1 => ?_) (fun c2 => ?_) (fun c0 c1 c2 => ?_)
  · refine aw_iload_n (i := 1) dX1_mayBe_28 rfl rfl ?_
    refine aw_iconst (v := 0) dX1_mayBe_29 (by decide) ?_
    refine aw_bipush (v := 9) dX1_mayBe_30 (by decide) ?_
    refine ax_callSN3i (M' := MX4_within) dX1_mayBe_32 (List.mem_of_getElem? (i := 3) rfl) oX4_within (by decide +kernel) (Nat.le_of_ble_eq_true rfl) (f_X4_within _ _ _) ?_
    refine aw_ireturn (ty := .boolean) dX1_mayBe_35 rfl (b2i_z _) ?_
    exact ⟨by simp [k_mayI, *], rfl⟩
  · refine aw_iload_n (i := 1) dX1_mayBe_36 rfl rfl ?_
    refine aw_iconst (v := 0) dX1_mayBe_37 (by decide) ?_
    refine aw_iconst (v := 3) dX1_mayBe_38 (by decide) ?_
    refine ax_callSN3i (M' := MX4_within) dX1_mayBe_39 (List.mem_of_getElem? (i := 3) rfl) oX4_within (by decide +kernel) (Nat.le_of_ble_eq_true rfl) (f_X4_within _ _ _) ?_
    refine aw_ireturn (ty := .boolean) dX1_mayBe_42 rfl (b2i_z _) ?_
    exact ⟨by simp [k_mayI, *], rfl⟩
  · refine aw_iload_n (i := 1) dX1_mayBe_43 rfl rfl ?_
    refine aw_iconst (v := 1) dX1_mayBe_44 (by decide) ?_
    refine aw_bipush (v := 9) dX1_mayBe_45 (by decide) ?_
    refine ax_callSN3i (M' := MX4_within) dX1_mayBe_47 (List.mem_of_getElem? (i := 3) rfl) oX4_within (by decide +kernel) (Nat.le_of_ble_eq_true rfl) (f_X4_within _ _ _) ?_
    refine aw_ireturn (ty := .boolean) dX1_mayBe_50 rfl (b2i_z _) ?_
    exact ⟨by simp [k_mayI, *], rfl⟩
  · refine aw_iconst (v := 0) dX1_mayBe_51 (by decide) ?_
    refine aw_ireturn (ty := .boolean) dX1_mayBe_52 rfl (by decide) ?_
    exact ⟨by simp [k_mayI, *], rfl⟩
def k_copy (g g2 : Nat → Int32) : Nat → Int32 := upd (upd (upd (upd (upd (upd (upd g 0 (g2 0)) 1 (g2 1)) 2 (g2 2)) 3 (g2 3)) 4 (g2 4)) 5 (g2 5)) 6 (g2 6)
def k_sum (g : Nat → Int32) (seen : Int32) : Int32 := if seen = 1 then imin (g 4 + 1) (g 2) else imax (g 4 - 1) 0
def k_weigh (g : Nat → Int32) (seen : Int32) : Nat → Int32 := upd g 4 (k_sum g seen)
def k_weighR (g : Nat → Int32) (seen : Int32) : Int32 := if k_sum g seen = g 2 then 1 else if k_sum g seen = 0 then 0 else g 3
set_option maxRecDepth 100000 in
set_option maxHeartbeats 4000000 in
theorem f_X1_weigh {V : am_V} {d a : Nat} {f : Nat → Nat → Int32} {g : Nat → Int32} {τ : Nat → Nat → Int64} (ht : am_tab[a]? = some (.inl (1, [0, 0, 0, 0, 0, 0, 0, 0, 0]))) (seen : Int32) : AF V MX1_weigh (d + 1) [.ref a, .int seen] (upk f a g, τ) (some (.int (k_weighR g seen))) (upk f a (k_weigh g seen), τ) := by
  refine AM.of (L := [some (.ref a), some (.int seen)]) (by decide +kernel) (Nat.le_of_ble_eq_true rfl) rfl ?_
  refine aw_aload_n (i := 0) dX1_weigh_0 rfl rfl ?_
  refine aw_iload_n (i := 1) dX1_weigh_1 rfl rfl ?_
  refine aw_iconst (v := 1) dX1_weigh_2 (by decide) ?_
  refine aw_icmp_ne (tgt := 22) dX1_weigh_3 (by decide) (fun c3 => ?_) (fun c3 => ?_)
  · refine aw_aload_n (i := 0) dX1_weigh_22 rfl rfl ?_
    refine ax_getK (ci := 1) 4 dX1_weigh_23 rfl lfX1_24 (by decide) (by assumption) (by rfl) ?_
    refine aw_iconst (v := 1) dX1_weigh_26 (by decide) ?_
    refine aw_isub dX1_weigh_27 ?_
    refine aw_iconst (v := 0) dX1_weigh_28 (by decide) ?_
    refine aw_mmax dX1_weigh_29 lmX1_63 (Nat.le_of_ble_eq_true rfl) ?_
    first | refine aw_tE (k_sum g seen) (if_pos c3).symm ?_ | refine aw_tE (k_sum g seen) (if_neg c3).symm ?_
    refine ax_putK (ci := 1) 4 dX1_weigh_32 rfl lfX1_24 (by decide) (by assumption) (by rfl) rfl rfl ?_
    refine aw_aload_n (i := 0) dX1_weigh_35 rfl rfl ?_
    refine ax_getK (ci := 1) 4 dX1_weigh_36 rfl lfX1_24 (by decide) (by assumption) (by rfl) ?_
    refine aw_aload_n (i := 0) dX1_weigh_39 rfl rfl ?_
    refine ax_getK (ci := 1) 2 dX1_weigh_40 rfl lfX1_18 (by decide) (by assumption) (by rfl) ?_
    refine aw_icmp_ne (tgt := 48) dX1_weigh_43 (by decide) (fun c43 => ?_) (fun c43 => ?_)
    · refine aw_aload_n (i := 0) dX1_weigh_48 rfl rfl ?_
      refine ax_getK (ci := 1) 4 dX1_weigh_49 rfl lfX1_24 (by decide) (by assumption) (by rfl) ?_
      refine aw_if_ne (tgt := 59) dX1_weigh_52 (by decide) (fun c52 => ?_) (fun c52 => ?_)
      · refine aw_aload_n (i := 0) dX1_weigh_59 rfl rfl ?_
        refine ax_getK (ci := 1) 3 dX1_weigh_60 rfl lfX1_21 (by decide) (by assumption) (by rfl) ?_
        refine aw_ireturn (ty := .int) dX1_weigh_63 rfl rfl ?_
        exact ⟨congrArg (fun z => some (Value.int z)) (by unfold k_weighR; first | exact (if_pos c43).symm | exact ((if_neg c43).trans (if_pos c52)).symm | exact ((if_neg c43).trans (if_neg c52)).symm), rfl⟩
      · refine aw_iconst (v := 0) dX1_weigh_55 (by decide) ?_
        refine aw_goto (tgt := 63) dX1_weigh_56 (by decide) ?_
        refine aw_ireturn (ty := .int) dX1_weigh_63 rfl rfl ?_
        exact ⟨congrArg (fun z => some (Value.int z)) (by unfold k_weighR; first | exact (if_pos c43).symm | exact ((if_neg c43).trans (if_pos c52)).symm | exact ((if_neg c43).trans (if_neg c52)).symm), rfl⟩
    · refine aw_iconst (v := 1) dX1_weigh_46 (by decide) ?_
      refine aw_ireturn (ty := .int) dX1_weigh_47 rfl rfl ?_
      exact ⟨congrArg (fun z => some (Value.int z)) (by unfold k_weighR; first | exact (if_pos c43).symm | exact ((if_neg c43).trans (if_pos c52)).symm | exact ((if_neg c43).trans (if_neg c52)).symm), rfl⟩
  · refine aw_aload_n (i := 0) dX1_weigh_6 rfl rfl ?_
    refine ax_getK (ci := 1) 4 dX1_weigh_7 rfl lfX1_24 (by decide) (by assumption) (by rfl) ?_
    refine aw_iconst (v := 1) dX1_weigh_10 (by decide) ?_
    refine aw_iadd dX1_weigh_11 ?_
    refine aw_aload_n (i := 0) dX1_weigh_12 rfl rfl ?_
    refine ax_getK (ci := 1) 2 dX1_weigh_13 rfl lfX1_18 (by decide) (by assumption) (by rfl) ?_
    refine aw_mmin dX1_weigh_16 lmX1_46 (Nat.le_of_ble_eq_true rfl) ?_
    refine aw_goto (tgt := 32) dX1_weigh_19 (by decide) ?_
    first | refine aw_tE (k_sum g seen) (if_pos c3).symm ?_ | refine aw_tE (k_sum g seen) (if_neg c3).symm ?_
    refine ax_putK (ci := 1) 4 dX1_weigh_32 rfl lfX1_24 (by decide) (by assumption) (by rfl) rfl rfl ?_
    refine aw_aload_n (i := 0) dX1_weigh_35 rfl rfl ?_
    refine ax_getK (ci := 1) 4 dX1_weigh_36 rfl lfX1_24 (by decide) (by assumption) (by rfl) ?_
    refine aw_aload_n (i := 0) dX1_weigh_39 rfl rfl ?_
    refine ax_getK (ci := 1) 2 dX1_weigh_40 rfl lfX1_18 (by decide) (by assumption) (by rfl) ?_
    refine aw_icmp_ne (tgt := 48) dX1_weigh_43 (by decide) (fun c43 => ?_) (fun c43 => ?_)
    · refine aw_aload_n (i := 0) dX1_weigh_48 rfl rfl ?_
      refine ax_getK (ci := 1) 4 dX1_weigh_49 rfl lfX1_24 (by decide) (by assumption) (by rfl) ?_
      refine aw_if_ne (tgt := 59) dX1_weigh_52 (by decide) (fun c52 => ?_) (fun c52 => ?_)
      · refine aw_aload_n (i := 0) dX1_weigh_59 rfl rfl ?_
        refine ax_getK (ci := 1) 3 dX1_weigh_60 rfl lfX1_21 (by decide) (by assumption) (by rfl) ?_
        refine aw_ireturn (ty := .int) dX1_weigh_63 rfl rfl ?_
        exact ⟨congrArg (fun z => some (Value.int z)) (by unfold k_weighR; first | exact (if_pos c43).symm | exact ((if_neg c43).trans (if_pos c52)).symm | exact ((if_neg c43).trans (if_neg c52)).symm), rfl⟩
      · refine aw_iconst (v := 0) dX1_weigh_55 (by decide) ?_
        refine aw_goto (tgt := 63) dX1_weigh_56 (by decide) ?_
        refine aw_ireturn (ty := .int) dX1_weigh_63 rfl rfl ?_
        exact ⟨congrArg (fun z => some (Value.int z)) (by unfold k_weighR; first | exact (if_pos c43).symm | exact ((if_neg c43).trans (if_pos c52)).symm | exact ((if_neg c43).trans (if_neg c52)).symm), rfl⟩
    · refine aw_iconst (v := 1) dX1_weigh_46 (by decide) ?_
      refine aw_ireturn (ty := .int) dX1_weigh_47 rfl rfl ?_
      exact ⟨congrArg (fun z => some (Value.int z)) (by unfold k_weighR; first | exact (if_pos c43).symm | exact ((if_neg c43).trans (if_pos c52)).symm | exact ((if_neg c43).trans (if_neg c52)).symm), rfl⟩
def k_wants (g : Nat → Int32) : Int32 := if g 1 = 2 then 1 else g 2
def k_comp (g : Nat → Int32) (seen : Int32) : Nat → Int32 := if seen = g 3 then upd g 4 0 else if g 4 + 1 < k_wants g then upd g 4 (g 4 + 1) else upd (upd (upd g 4 (g 4 + 1)) 4 0) 5 (if g 1 = 0 then 0 else g 2)
def k_compR (g : Nat → Int32) (seen : Int32) : Int32 := if seen = g 3 then g 3 else if g 4 + 1 < k_wants g then g 3 else seen
set_option maxRecDepth 100000 in
set_option maxHeartbeats 4000000 in
theorem f_X1_compare {V : am_V} {d a : Nat} {f : Nat → Nat → Int32} {g : Nat → Int32} {τ : Nat → Nat → Int64} (ht : am_tab[a]? = some (.inl (1, [0, 0, 0, 0, 0, 0, 0, 0, 0]))) (seen : Int32) : AF V MX1_compare d [.ref a, .int seen] (upk f a g, τ) (some (.int (k_compR g seen))) (upk f a (k_comp g seen), τ) := by
  refine AM.of (L := [some (.ref a), some (.int seen), none]) (by decide +kernel) (Nat.le_of_ble_eq_true rfl) rfl ?_
  refine aw_iload_n (i := 1) dX1_compare_0 rfl rfl ?_
  refine aw_aload_n (i := 0) dX1_compare_1 rfl rfl ?_
  refine ax_getK (ci := 1) 3 dX1_compare_2 rfl lfX1_21 (by decide) (by assumption) (by rfl) ?_
  refine aw_icmp_ne (tgt := 18) dX1_compare_5 (by decide) (fun c5 => ?_) (fun c5 => ?_)
  · refine aw_aload_n (i := 0) dX1_compare_18 rfl rfl ?_
    refine aw_dup dX1_compare_19 rfl ?_
    refine ax_getK (ci := 1) 4 dX1_compare_20 rfl lfX1_24 (by decide) (by assumption) (by rfl) ?_
    refine aw_iconst (v := 1) dX1_compare_23 (by decide) ?_
    refine aw_iadd dX1_compare_24 ?_
    refine ax_putK (ci := 1) 4 dX1_compare_25 rfl lfX1_24 (by decide) (by assumption) (by rfl) rfl rfl ?_
    refine aw_aload_n (i := 0) dX1_compare_28 rfl rfl ?_
    refine ax_getK (ci := 1) 1 dX1_compare_29 rfl lfX1_15 (by decide) (by assumption) (by rfl) ?_
    refine aw_iconst (v := 2) dX1_compare_32 (by decide) ?_
    refine aw_icmp_ne (tgt := 40) dX1_compare_33 (by decide) (fun c33 => ?_) (fun c33 => ?_)
    · refine aw_aload_n (i := 0) dX1_compare_40 rfl rfl ?_
      refine ax_getK (ci := 1) 2 dX1_compare_41 rfl lfX1_18 (by decide) (by assumption) (by rfl) ?_
      first | refine aw_tE (k_wants g) (if_pos c33).symm ?_ | refine aw_tE (k_wants g) (if_neg c33).symm ?_
      refine aw_istore_n (i := 2) (L' := [_, _, _]) dX1_compare_44 rfl (Nat.le_of_ble_eq_true rfl) rfl rfl ?_
      refine aw_aload_n (i := 0) dX1_compare_45 rfl rfl ?_
      refine ax_getK (ci := 1) 4 dX1_compare_46 rfl lfX1_24 (by decide) (by assumption) (by rfl) ?_
      refine aw_iload_n (i := 2) dX1_compare_49 rfl rfl ?_
      refine aw_icmp_ge (tgt := 58) dX1_compare_50 (by decide) (fun c50 => ?_) (fun c50 => ?_)
      · refine aw_aload_n (i := 0) dX1_compare_58 rfl rfl ?_
        refine aw_iconst (v := 0) dX1_compare_59 (by decide) ?_
        refine ax_putK (ci := 1) 4 dX1_compare_60 rfl lfX1_24 (by decide) (by assumption) (by rfl) rfl rfl ?_
        refine aw_aload_n (i := 0) dX1_compare_63 rfl rfl ?_
        refine aw_aload_n (i := 0) dX1_compare_64 rfl rfl ?_
        refine ax_getK (ci := 1) 1 dX1_compare_65 rfl lfX1_15 (by decide) (by assumption) (by rfl) ?_
        refine aw_if_ne (tgt := 75) dX1_compare_68 (by decide) (fun c68 => ?_) (fun c68 => ?_)
        · refine aw_aload_n (i := 0) dX1_compare_75 rfl rfl ?_
          refine ax_getK (ci := 1) 2 dX1_compare_76 rfl lfX1_18 (by decide) (by assumption) (by rfl) ?_
          first | refine aw_tE (if g 1 = 0 then 0 else g 2) (if_pos c68).symm ?_ | refine aw_tE (if g 1 = 0 then 0 else g 2) (if_neg c68).symm ?_
          refine ax_putK (ci := 1) 5 dX1_compare_79 rfl lfX1_27 (by decide) (by assumption) (by rfl) rfl rfl ?_
          refine aw_iload_n (i := 1) dX1_compare_82 rfl rfl ?_
          refine aw_ireturn (ty := .int) dX1_compare_83 rfl rfl ?_
          exact ⟨congrArg (fun z => some (Value.int z)) (by unfold k_compR; first | exact ((if_neg c5).trans (if_neg (Int32.not_lt.mpr c50))).symm | exact ((if_neg c5).trans (if_pos (Int32.not_le.mp c50))).symm), congrArg (fun z => hp (upk f a z, τ)) (by unfold k_comp; first | exact ((if_neg c5).trans (if_pos (Int32.not_le.mp c50))).symm | exact ((if_neg c5).trans (if_neg (Int32.not_lt.mpr c50))).symm)⟩
        · refine aw_iconst (v := 0) dX1_compare_71 (by decide) ?_
          refine aw_goto (tgt := 79) dX1_compare_72 (by decide) ?_
          first | refine aw_tE (if g 1 = 0 then 0 else g 2) (if_pos c68).symm ?_ | refine aw_tE (if g 1 = 0 then 0 else g 2) (if_neg c68).symm ?_
          refine ax_putK (ci := 1) 5 dX1_compare_79 rfl lfX1_27 (by decide) (by assumption) (by rfl) rfl rfl ?_
          refine aw_iload_n (i := 1) dX1_compare_82 rfl rfl ?_
          refine aw_ireturn (ty := .int) dX1_compare_83 rfl rfl ?_
          exact ⟨congrArg (fun z => some (Value.int z)) (by unfold k_compR; first | exact ((if_neg c5).trans (if_neg (Int32.not_lt.mpr c50))).symm | exact ((if_neg c5).trans (if_pos (Int32.not_le.mp c50))).symm), congrArg (fun z => hp (upk f a z, τ)) (by unfold k_comp; first | exact ((if_neg c5).trans (if_pos (Int32.not_le.mp c50))).symm | exact ((if_neg c5).trans (if_neg (Int32.not_lt.mpr c50))).symm)⟩
      · refine aw_aload_n (i := 0) dX1_compare_53 rfl rfl ?_
        refine ax_getK (ci := 1) 3 dX1_compare_54 rfl lfX1_21 (by decide) (by assumption) (by rfl) ?_
        refine aw_ireturn (ty := .int) dX1_compare_57 rfl rfl ?_
        exact ⟨congrArg (fun z => some (Value.int z)) (by unfold k_compR; first | exact ((if_neg c5).trans (if_neg (Int32.not_lt.mpr c50))).symm | exact ((if_neg c5).trans (if_pos (Int32.not_le.mp c50))).symm), congrArg (fun z => hp (upk f a z, τ)) (by unfold k_comp; first | exact ((if_neg c5).trans (if_pos (Int32.not_le.mp c50))).symm | exact ((if_neg c5).trans (if_neg (Int32.not_lt.mpr c50))).symm)⟩
    · refine aw_iconst (v := 1) dX1_compare_36 (by decide) ?_
      refine aw_goto (tgt := 44) dX1_compare_37 (by decide) ?_
      first | refine aw_tE (k_wants g) (if_pos c33).symm ?_ | refine aw_tE (k_wants g) (if_neg c33).symm ?_
      refine aw_istore_n (i := 2) (L' := [_, _, _]) dX1_compare_44 rfl (Nat.le_of_ble_eq_true rfl) rfl rfl ?_
      refine aw_aload_n (i := 0) dX1_compare_45 rfl rfl ?_
      refine ax_getK (ci := 1) 4 dX1_compare_46 rfl lfX1_24 (by decide) (by assumption) (by rfl) ?_
      refine aw_iload_n (i := 2) dX1_compare_49 rfl rfl ?_
      refine aw_icmp_ge (tgt := 58) dX1_compare_50 (by decide) (fun c50 => ?_) (fun c50 => ?_)
      · refine aw_aload_n (i := 0) dX1_compare_58 rfl rfl ?_
        refine aw_iconst (v := 0) dX1_compare_59 (by decide) ?_
        refine ax_putK (ci := 1) 4 dX1_compare_60 rfl lfX1_24 (by decide) (by assumption) (by rfl) rfl rfl ?_
        refine aw_aload_n (i := 0) dX1_compare_63 rfl rfl ?_
        refine aw_aload_n (i := 0) dX1_compare_64 rfl rfl ?_
        refine ax_getK (ci := 1) 1 dX1_compare_65 rfl lfX1_15 (by decide) (by assumption) (by rfl) ?_
        refine aw_if_ne (tgt := 75) dX1_compare_68 (by decide) (fun c68 => ?_) (fun c68 => ?_)
        · refine aw_aload_n (i := 0) dX1_compare_75 rfl rfl ?_
          refine ax_getK (ci := 1) 2 dX1_compare_76 rfl lfX1_18 (by decide) (by assumption) (by rfl) ?_
          first | refine aw_tE (if g 1 = 0 then 0 else g 2) (if_pos c68).symm ?_ | refine aw_tE (if g 1 = 0 then 0 else g 2) (if_neg c68).symm ?_
          refine ax_putK (ci := 1) 5 dX1_compare_79 rfl lfX1_27 (by decide) (by assumption) (by rfl) rfl rfl ?_
          refine aw_iload_n (i := 1) dX1_compare_82 rfl rfl ?_
          refine aw_ireturn (ty := .int) dX1_compare_83 rfl rfl ?_
          exact ⟨congrArg (fun z => some (Value.int z)) (by unfold k_compR; first | exact ((if_neg c5).trans (if_neg (Int32.not_lt.mpr c50))).symm | exact ((if_neg c5).trans (if_pos (Int32.not_le.mp c50))).symm), congrArg (fun z => hp (upk f a z, τ)) (by unfold k_comp; first | exact ((if_neg c5).trans (if_pos (Int32.not_le.mp c50))).symm | exact ((if_neg c5).trans (if_neg (Int32.not_lt.mpr c50))).symm)⟩
        · refine aw_iconst (v := 0) dX1_compare_71 (by decide) ?_
          refine aw_goto (tgt := 79) dX1_compare_72 (by decide) ?_
          first | refine aw_tE (if g 1 = 0 then 0 else g 2) (if_pos c68).symm ?_ | refine aw_tE (if g 1 = 0 then 0 else g 2) (if_neg c68).symm ?_
          refine ax_putK (ci := 1) 5 dX1_compare_79 rfl lfX1_27 (by decide) (by assumption) (by rfl) rfl rfl ?_
          refine aw_iload_n (i := 1) dX1_compare_82 rfl rfl ?_
          refine aw_ireturn (ty := .int) dX1_compare_83 rfl rfl ?_
          exact ⟨congrArg (fun z => some (Value.int z)) (by unfold k_compR; first | exact ((if_neg c5).trans (if_neg (Int32.not_lt.mpr c50))).symm | exact ((if_neg c5).trans (if_pos (Int32.not_le.mp c50))).symm), congrArg (fun z => hp (upk f a z, τ)) (by unfold k_comp; first | exact ((if_neg c5).trans (if_pos (Int32.not_le.mp c50))).symm | exact ((if_neg c5).trans (if_neg (Int32.not_lt.mpr c50))).symm)⟩
      · refine aw_aload_n (i := 0) dX1_compare_53 rfl rfl ?_
        refine ax_getK (ci := 1) 3 dX1_compare_54 rfl lfX1_21 (by decide) (by assumption) (by rfl) ?_
        refine aw_ireturn (ty := .int) dX1_compare_57 rfl rfl ?_
        exact ⟨congrArg (fun z => some (Value.int z)) (by unfold k_compR; first | exact ((if_neg c5).trans (if_neg (Int32.not_lt.mpr c50))).symm | exact ((if_neg c5).trans (if_pos (Int32.not_le.mp c50))).symm), congrArg (fun z => hp (upk f a z, τ)) (by unfold k_comp; first | exact ((if_neg c5).trans (if_pos (Int32.not_le.mp c50))).symm | exact ((if_neg c5).trans (if_neg (Int32.not_lt.mpr c50))).symm)⟩
  · refine aw_aload_n (i := 0) dX1_compare_8 rfl rfl ?_
    refine aw_iconst (v := 0) dX1_compare_9 (by decide) ?_
    refine ax_putK (ci := 1) 4 dX1_compare_10 rfl lfX1_24 (by decide) (by assumption) (by rfl) rfl rfl ?_
    refine aw_aload_n (i := 0) dX1_compare_13 rfl rfl ?_
    refine ax_getK (ci := 1) 3 dX1_compare_14 rfl lfX1_21 (by decide) (by assumption) (by rfl) ?_
    refine aw_ireturn (ty := .int) dX1_compare_17 rfl rfl ?_
    exact ⟨congrArg (fun z => some (Value.int z)) (if_pos c5).symm, congrArg (fun z => hp (upk f a z, τ)) (if_pos c5).symm⟩
def k_say (g : Nat → Int32) (v : Int32) : Nat → Int32 := if v = g 3 then g else if v = 1 then upd (upd (upd (upd g 3 v) 8 (g 8 + 1)) 7 (g 7 + 1)) 6 (imin (g 6 + 1) 999) else upd (upd g 3 v) 8 (g 8 + 1)
set_option maxRecDepth 100000 in
set_option maxHeartbeats 4000000 in
theorem f_X1_say {V : am_V} {d a : Nat} {f : Nat → Nat → Int32} {g : Nat → Int32} {τ : Nat → Nat → Int64} (ht : am_tab[a]? = some (.inl (1, [0, 0, 0, 0, 0, 0, 0, 0, 0]))) (v : Int32) : AF V MX1_say (d + 1) [.ref a, .int v] (upk f a g, τ) none (upk f a (k_say g v), τ) := by
  refine AM.of (L := [some (.ref a), some (.int v)]) (by decide +kernel) (Nat.le_of_ble_eq_true rfl) rfl ?_
  refine aw_iload_n (i := 1) dX1_say_0 rfl rfl ?_
  refine aw_aload_n (i := 0) dX1_say_1 rfl rfl ?_
  refine ax_getK (ci := 1) 3 dX1_say_2 rfl lfX1_21 (by decide) (by assumption) (by rfl) ?_
  refine aw_icmp_ne (tgt := 9) dX1_say_5 (by decide) (fun c5 => ?_) (fun c5 => ?_)
  · refine aw_aload_n (i := 0) dX1_say_9 rfl rfl ?_
    refine aw_iload_n (i := 1) dX1_say_10 rfl rfl ?_
    refine ax_putK (ci := 1) 3 dX1_say_11 rfl lfX1_21 (by decide) (by assumption) (by rfl) rfl rfl ?_
    refine aw_aload_n (i := 0) dX1_say_14 rfl rfl ?_
    refine aw_dup dX1_say_15 rfl ?_
    refine ax_getK (ci := 1) 8 dX1_say_16 rfl lfX1_39 (by decide) (by assumption) (by rfl) ?_
    refine aw_iconst (v := 1) dX1_say_19 (by decide) ?_
    refine aw_iadd dX1_say_20 ?_
    refine ax_putK (ci := 1) 8 dX1_say_21 rfl lfX1_39 (by decide) (by assumption) (by rfl) rfl rfl ?_
    refine aw_iload_n (i := 1) dX1_say_24 rfl rfl ?_
    refine aw_iconst (v := 1) dX1_say_25 (by decide) ?_
    refine aw_icmp_ne (tgt := 55) dX1_say_26 (by decide) (fun c26 => ?_) (fun c26 => ?_)
    · refine aw_return dX1_say_55 rfl ?_
      exact ⟨rfl, congrArg (fun z => hp (upk f a z, τ)) (by unfold k_say; first | exact (if_pos c5).symm | exact ((if_neg c5).trans (if_pos c26)).symm | exact ((if_neg c5).trans (if_neg c26)).symm)⟩
    · refine aw_aload_n (i := 0) dX1_say_29 rfl rfl ?_
      refine aw_dup dX1_say_30 rfl ?_
      refine ax_getK (ci := 1) 7 dX1_say_31 rfl lfX1_36 (by decide) (by assumption) (by rfl) ?_
      refine aw_iconst (v := 1) dX1_say_34 (by decide) ?_
      refine aw_iadd dX1_say_35 ?_
      refine ax_putK (ci := 1) 7 dX1_say_36 rfl lfX1_36 (by decide) (by assumption) (by rfl) rfl rfl ?_
      refine aw_aload_n (i := 0) dX1_say_39 rfl rfl ?_
      refine aw_aload_n (i := 0) dX1_say_40 rfl rfl ?_
      refine ax_getK (ci := 1) 6 dX1_say_41 rfl lfX1_30 (by decide) (by assumption) (by rfl) ?_
      refine aw_iconst (v := 1) dX1_say_44 (by decide) ?_
      refine aw_iadd dX1_say_45 ?_
      refine aw_sipush (v := 999) dX1_say_46 (by decide) ?_
      refine aw_mmin dX1_say_49 lmX1_46 (Nat.le_of_ble_eq_true rfl) ?_
      refine ax_putK (ci := 1) 6 dX1_say_52 rfl lfX1_30 (by decide) (by assumption) (by rfl) rfl rfl ?_
      refine aw_return dX1_say_55 rfl ?_
      exact ⟨rfl, congrArg (fun z => hp (upk f a z, τ)) (by unfold k_say; first | exact (if_pos c5).symm | exact ((if_neg c5).trans (if_pos c26)).symm | exact ((if_neg c5).trans (if_neg c26)).symm)⟩
  · refine aw_return dX1_say_8 rfl ?_
    exact ⟨rfl, congrArg (fun z => hp (upk f a z, τ)) (by unfold k_say; first | exact (if_pos c5).symm | exact ((if_neg c5).trans (if_pos c26)).symm | exact ((if_neg c5).trans (if_neg c26)).symm)⟩
def k_look (g : Nat → Int32) (seen : Int32) : Nat → Int32 := if 0 < g 5 then upd g 5 (g 5 - 1) else if g 1 = 1 then k_say (k_weigh g seen) (k_weighR g seen) else k_say (k_comp g seen) (k_compR g seen)
set_option maxRecDepth 100000 in
set_option maxHeartbeats 4000000 in
theorem f_X1_look {V : am_V} {d a : Nat} {f : Nat → Nat → Int32} {g : Nat → Int32} {τ : Nat → Nat → Int64} (ht : am_tab[a]? = some (.inl (1, [0, 0, 0, 0, 0, 0, 0, 0, 0]))) (seen : Int32) : AF V MX1_look (d + 2) [.ref a, .int seen] (upk f a g, τ) none (upk f a (k_look g seen), τ) := by
  refine AM.of (L := [some (.ref a), some (.int seen)]) (by decide +kernel) (Nat.le_of_ble_eq_true rfl) rfl ?_
  refine aw_aload_n (i := 0) dX1_look_0 rfl rfl ?_
  refine ax_getK (ci := 1) 5 dX1_look_1 rfl lfX1_27 (by decide) (by assumption) (by rfl) ?_
  refine aw_if_le (tgt := 20) dX1_look_4 (by decide) (fun c4 => ?_) (fun c4 => ?_)
  · refine aw_aload_n (i := 0) dX1_look_20 rfl rfl ?_
    refine aw_aload_n (i := 0) dX1_look_21 rfl rfl ?_
    refine ax_getK (ci := 1) 1 dX1_look_22 rfl lfX1_15 (by decide) (by assumption) (by rfl) ?_
    refine aw_iconst (v := 1) dX1_look_25 (by decide) ?_
    refine aw_icmp_ne (tgt := 37) dX1_look_26 (by decide) (fun c26 => ?_) (fun c26 => ?_)
    · refine aw_aload_n (i := 0) dX1_look_37 rfl rfl ?_
      refine aw_iload_n (i := 1) dX1_look_38 rfl rfl ?_
      refine ax_callV1i (M' := MX1_compare) (ci := 1) dX1_look_39 lmX1_56 oX1_compare (by decide +kernel) (by assumption) rfl rfl (Nat.le_of_ble_eq_true rfl) (f_X1_compare ht _) ?_
      refine ax_callV1v (M' := MX1_say) (ci := 1) dX1_look_42 lmX1_59 oX1_say (by decide +kernel) (by assumption) rfl rfl (Nat.le_of_ble_eq_true rfl) (f_X1_say ht _) ?_
      refine aw_return dX1_look_45 rfl ?_
      exact ⟨rfl, congrArg (fun z => hp (upk f a z, τ)) (by unfold k_look; first | exact (if_pos (Int32.not_le.mp c4)).symm | exact ((if_neg (Int32.not_lt.mpr c4)).trans (if_pos c26)).symm | exact ((if_neg (Int32.not_lt.mpr c4)).trans (if_neg c26)).symm)⟩
    · refine aw_aload_n (i := 0) dX1_look_29 rfl rfl ?_
      refine aw_iload_n (i := 1) dX1_look_30 rfl rfl ?_
      refine ax_callV1i (M' := MX1_weigh) (ci := 1) dX1_look_31 lmX1_52 oX1_weigh (by decide +kernel) (by assumption) rfl rfl (Nat.le_of_ble_eq_true rfl) (f_X1_weigh ht _) ?_
      refine aw_goto (tgt := 42) dX1_look_34 (by decide) ?_
      refine ax_callV1v (M' := MX1_say) (ci := 1) dX1_look_42 lmX1_59 oX1_say (by decide +kernel) (by assumption) rfl rfl (Nat.le_of_ble_eq_true rfl) (f_X1_say ht _) ?_
      refine aw_return dX1_look_45 rfl ?_
      exact ⟨rfl, congrArg (fun z => hp (upk f a z, τ)) (by unfold k_look; first | exact (if_pos (Int32.not_le.mp c4)).symm | exact ((if_neg (Int32.not_lt.mpr c4)).trans (if_pos c26)).symm | exact ((if_neg (Int32.not_lt.mpr c4)).trans (if_neg c26)).symm)⟩
  · refine aw_aload_n (i := 0) dX1_look_7 rfl rfl ?_
    refine aw_dup dX1_look_8 rfl ?_
    refine ax_getK (ci := 1) 5 dX1_look_9 rfl lfX1_27 (by decide) (by assumption) (by rfl) ?_
    refine aw_iconst (v := 1) dX1_look_12 (by decide) ?_
    refine aw_isub dX1_look_13 ?_
    refine ax_putK (ci := 1) 5 dX1_look_14 rfl lfX1_27 (by decide) (by assumption) (by rfl) rfl rfl ?_
    refine aw_goto (tgt := 45) dX1_look_17 (by decide) ?_
    refine aw_return dX1_look_45 rfl ?_
    exact ⟨rfl, congrArg (fun z => hp (upk f a z, τ)) (by unfold k_look; first | exact (if_pos (Int32.not_le.mp c4)).symm | exact ((if_neg (Int32.not_lt.mpr c4)).trans (if_pos c26)).symm | exact ((if_neg (Int32.not_lt.mpr c4)).trans (if_neg c26)).symm)⟩
end
