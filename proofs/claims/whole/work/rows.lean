section
-- ===== PART A: goes FIRST, ahead of the names: the tables' words, and 'selects' of the private methods out of them =====
/-- a private method of a class that the tables say can be made, by its rows of tables_1 -/
def lw_okq (q : MethodName × Nat) : Prop := (q.1.cls ≠ "java/lang/invoke/MethodHandle" ∧ q.1.cls ≠ "java/lang/invoke/VarHandle") ∧ Cond.instantiable q.1.cls q.2 ∈ tables_1 ∧ Cond.privateMethod q.1 ∈ tables_1 ∧ Cond.instanceMethod q.1 ∈ tables_1
theorem lw_p0 : lw_okq (⟨"KeySieves$TextReader", "nextToken", "()V"⟩, 10) := ⟨⟨by decide +kernel, by decide +kernel⟩, List.mem_of_getElem? (i := 144) (by decide +kernel), List.mem_of_getElem? (i := 246) (by decide +kernel), List.mem_of_getElem? (i := 247) (by decide +kernel)⟩
theorem lw_p1 : lw_okq (⟨"KeySieves$TextReader", "takeName", "()V"⟩, 10) := ⟨⟨by decide +kernel, by decide +kernel⟩, List.mem_of_getElem? (i := 144) (by decide +kernel), List.mem_of_getElem? (i := 253) (by decide +kernel), List.mem_of_getElem? (i := 254) (by decide +kernel)⟩
theorem lw_p2 : lw_okq (⟨"KeySieves$TextReader", "takeNumber", "()V"⟩, 10) := ⟨⟨by decide +kernel, by decide +kernel⟩, List.mem_of_getElem? (i := 144) (by decide +kernel), List.mem_of_getElem? (i := 260) (by decide +kernel), List.mem_of_getElem? (i := 261) (by decide +kernel)⟩
theorem lw_p3 : lw_okq (⟨"KeySieves$TextReader", "fail", "(II)V"⟩, 10) := ⟨⟨by decide +kernel, by decide +kernel⟩, List.mem_of_getElem? (i := 144) (by decide +kernel), List.mem_of_getElem? (i := 264) (by decide +kernel), List.mem_of_getElem? (i := 265) (by decide +kernel)⟩
theorem lw_p4 : lw_okq (⟨"KeySieves$TextReader", "readLine", "()V"⟩, 10) := ⟨⟨by decide +kernel, by decide +kernel⟩, List.mem_of_getElem? (i := 144) (by decide +kernel), List.mem_of_getElem? (i := 268) (by decide +kernel), List.mem_of_getElem? (i := 269) (by decide +kernel)⟩
theorem lw_p5 : lw_okq (⟨"KeySieves$TextReader", "lineNamed", "()I"⟩, 10) := ⟨⟨by decide +kernel, by decide +kernel⟩, List.mem_of_getElem? (i := 144) (by decide +kernel), List.mem_of_getElem? (i := 272) (by decide +kernel), List.mem_of_getElem? (i := 273) (by decide +kernel)⟩
theorem lw_p6 : lw_okq (⟨"KeySieves$TextReader", "nameIs", "(Ljava/lang/String;)Z"⟩, 10) := ⟨⟨by decide +kernel, by decide +kernel⟩, List.mem_of_getElem? (i := 144) (by decide +kernel), List.mem_of_getElem? (i := 285) (by decide +kernel), List.mem_of_getElem? (i := 286) (by decide +kernel)⟩
theorem lw_p7 : lw_okq (⟨"KeySieves$TextReader", "readEvery", "()V"⟩, 10) := ⟨⟨by decide +kernel, by decide +kernel⟩, List.mem_of_getElem? (i := 144) (by decide +kernel), List.mem_of_getElem? (i := 337) (by decide +kernel), List.mem_of_getElem? (i := 338) (by decide +kernel)⟩
theorem lw_p8 : lw_okq (⟨"KeySieves$TextReader", "readNumber", "(II)I"⟩, 10) := ⟨⟨by decide +kernel, by decide +kernel⟩, List.mem_of_getElem? (i := 144) (by decide +kernel), List.mem_of_getElem? (i := 341) (by decide +kernel), List.mem_of_getElem? (i := 342) (by decide +kernel)⟩
theorem lw_p9 : lw_okq (⟨"KeySieves$TextReader", "readPress", "()V"⟩, 10) := ⟨⟨by decide +kernel, by decide +kernel⟩, List.mem_of_getElem? (i := 144) (by decide +kernel), List.mem_of_getElem? (i := 346) (by decide +kernel), List.mem_of_getElem? (i := 347) (by decide +kernel)⟩
theorem lw_p10 : lw_okq (⟨"KeySieves$TextReader", "readKey", "(I)V"⟩, 10) := ⟨⟨by decide +kernel, by decide +kernel⟩, List.mem_of_getElem? (i := 144) (by decide +kernel), List.mem_of_getElem? (i := 354) (by decide +kernel), List.mem_of_getElem? (i := 355) (by decide +kernel)⟩
theorem lw_p11 : lw_okq (⟨"KeySieves$TextReader", "readSemicolon", "()V"⟩, 10) := ⟨⟨by decide +kernel, by decide +kernel⟩, List.mem_of_getElem? (i := 144) (by decide +kernel), List.mem_of_getElem? (i := 370) (by decide +kernel), List.mem_of_getElem? (i := 371) (by decide +kernel)⟩
theorem lw_p12 : lw_okq (⟨"KeySieves$Board", "latestPress", "(II)I"⟩, 12) := ⟨⟨by decide +kernel, by decide +kernel⟩, List.mem_of_getElem? (i := 22) (by decide +kernel), List.mem_of_getElem? (i := 415) (by decide +kernel), List.mem_of_getElem? (i := 416) (by decide +kernel)⟩
theorem lw_p13 : lw_okq (⟨"KeySieves", "putPress", "(III)I"⟩, 12) := ⟨⟨by decide +kernel, by decide +kernel⟩, List.mem_of_getElem? (i := 14) (by decide +kernel), List.mem_of_getElem? (i := 462) (by decide +kernel), List.mem_of_getElem? (i := 463) (by decide +kernel)⟩
theorem lw_p14 : lw_okq (⟨"KeySieves$Key", "weigh", "(I)I"⟩, 9) := ⟨⟨by decide +kernel, by decide +kernel⟩, List.mem_of_getElem? (i := 29) (by decide +kernel), List.mem_of_getElem? (i := 493) (by decide +kernel), List.mem_of_getElem? (i := 494) (by decide +kernel)⟩
theorem lw_p15 : lw_okq (⟨"KeySieves$Key", "compare", "(I)I"⟩, 9) := ⟨⟨by decide +kernel, by decide +kernel⟩, List.mem_of_getElem? (i := 29) (by decide +kernel), List.mem_of_getElem? (i := 500) (by decide +kernel), List.mem_of_getElem? (i := 501) (by decide +kernel)⟩
def lw_privs_1 : List (MethodName × Nat) := [(⟨"KeySieves$TextReader", "nextToken", "()V"⟩, 10), (⟨"KeySieves$TextReader", "takeName", "()V"⟩, 10), (⟨"KeySieves$TextReader", "takeNumber", "()V"⟩, 10), (⟨"KeySieves$TextReader", "fail", "(II)V"⟩, 10), (⟨"KeySieves$TextReader", "readLine", "()V"⟩, 10), (⟨"KeySieves$TextReader", "lineNamed", "()I"⟩, 10), (⟨"KeySieves$TextReader", "nameIs", "(Ljava/lang/String;)Z"⟩, 10), (⟨"KeySieves$TextReader", "readEvery", "()V"⟩, 10), (⟨"KeySieves$TextReader", "readNumber", "(II)I"⟩, 10), (⟨"KeySieves$TextReader", "readPress", "()V"⟩, 10), (⟨"KeySieves$TextReader", "readKey", "(I)V"⟩, 10), (⟨"KeySieves$TextReader", "readSemicolon", "()V"⟩, 10), (⟨"KeySieves$Board", "latestPress", "(II)I"⟩, 12), (⟨"KeySieves", "putPress", "(III)I"⟩, 12), (⟨"KeySieves$Key", "weigh", "(I)I"⟩, 9), (⟨"KeySieves$Key", "compare", "(I)I"⟩, 9)]
theorem lw_r1 : ∀ q ∈ lw_privs_1, lw_okq q := List.forall_mem_cons.mpr ⟨lw_p0, List.forall_mem_cons.mpr ⟨lw_p1, List.forall_mem_cons.mpr ⟨lw_p2, List.forall_mem_cons.mpr ⟨lw_p3, List.forall_mem_cons.mpr ⟨lw_p4, List.forall_mem_cons.mpr ⟨lw_p5, List.forall_mem_cons.mpr ⟨lw_p6, List.forall_mem_cons.mpr ⟨lw_p7, List.forall_mem_cons.mpr ⟨lw_p8, List.forall_mem_cons.mpr ⟨lw_p9, List.forall_mem_cons.mpr ⟨lw_p10, List.forall_mem_cons.mpr ⟨lw_p11, List.forall_mem_cons.mpr ⟨lw_p12, List.forall_mem_cons.mpr ⟨lw_p13, List.forall_mem_cons.mpr ⟨lw_p14, List.forall_mem_cons.mpr ⟨lw_p15, fun _ h => absurd h List.not_mem_nil⟩⟩⟩⟩⟩⟩⟩⟩⟩⟩⟩⟩⟩⟩⟩⟩
theorem lw_p16 : lw_okq (⟨"KeySieves$Key", "say", "(I)V"⟩, 9) := ⟨⟨by decide +kernel, by decide +kernel⟩, List.mem_of_getElem? (i := 29) (by decide +kernel), List.mem_of_getElem? (i := 504) (by decide +kernel), List.mem_of_getElem? (i := 505) (by decide +kernel)⟩
theorem lw_p17 : lw_okq (⟨"KeySieves", "copyToTry", "()LKeySieves$Board;"⟩, 12) := ⟨⟨by decide +kernel, by decide +kernel⟩, List.mem_of_getElem? (i := 14) (by decide +kernel), List.mem_of_getElem? (i := 519) (by decide +kernel), List.mem_of_getElem? (i := 520) (by decide +kernel)⟩
theorem lw_p18 : lw_okq (⟨"KeySieves", "strokesOfOne", "(IIII)I"⟩, 12) := ⟨⟨by decide +kernel, by decide +kernel⟩, List.mem_of_getElem? (i := 14) (by decide +kernel), List.mem_of_getElem? (i := 552) (by decide +kernel), List.mem_of_getElem? (i := 553) (by decide +kernel)⟩
theorem lw_p19 : lw_okq (⟨"KeySieves", "copyAltered", "(III)LKeySieves$Board;"⟩, 12) := ⟨⟨by decide +kernel, by decide +kernel⟩, List.mem_of_getElem? (i := 14) (by decide +kernel), List.mem_of_getElem? (i := 556) (by decide +kernel), List.mem_of_getElem? (i := 557) (by decide +kernel)⟩
theorem lw_p20 : lw_okq (⟨"KeySieves", "listenQuietly", "(I)V"⟩, 12) := ⟨⟨by decide +kernel, by decide +kernel⟩, List.mem_of_getElem? (i := 14) (by decide +kernel), List.mem_of_getElem? (i := 598) (by decide +kernel), List.mem_of_getElem? (i := 599) (by decide +kernel)⟩
theorem lw_p21 : lw_okq (⟨"KeySieves", "runNoisily", "(II)LKeySieves$Board;"⟩, 12) := ⟨⟨by decide +kernel, by decide +kernel⟩, List.mem_of_getElem? (i := 14) (by decide +kernel), List.mem_of_getElem? (i := 614) (by decide +kernel), List.mem_of_getElem? (i := 615) (by decide +kernel)⟩
theorem lw_p22 : lw_okq (⟨"KeySieves", "fitting", "(II)I"⟩, 12) := ⟨⟨by decide +kernel, by decide +kernel⟩, List.mem_of_getElem? (i := 14) (by decide +kernel), List.mem_of_getElem? (i := 646) (by decide +kernel), List.mem_of_getElem? (i := 647) (by decide +kernel)⟩
theorem lw_p23 : lw_okq (⟨"KeySieves$Board", "lastSeenTicks", "()I"⟩, 12) := ⟨⟨by decide +kernel, by decide +kernel⟩, List.mem_of_getElem? (i := 22) (by decide +kernel), List.mem_of_getElem? (i := 654) (by decide +kernel), List.mem_of_getElem? (i := 655) (by decide +kernel)⟩
theorem lw_p24 : lw_okq (⟨"KeySieves$Board", "saysAsSeenBehind", "(I)Z"⟩, 12) := ⟨⟨by decide +kernel, by decide +kernel⟩, List.mem_of_getElem? (i := 22) (by decide +kernel), List.mem_of_getElem? (i := 659) (by decide +kernel), List.mem_of_getElem? (i := 660) (by decide +kernel)⟩
theorem lw_p25 : lw_okq (⟨"KeySieves", "countSayers", "(II)V"⟩, 12) := ⟨⟨by decide +kernel, by decide +kernel⟩, List.mem_of_getElem? (i := 14) (by decide +kernel), List.mem_of_getElem? (i := 676) (by decide +kernel), List.mem_of_getElem? (i := 677) (by decide +kernel)⟩
theorem lw_p26 : lw_okq (⟨"KeySieves", "addSayings", "(LKeySieves$Board;I)V"⟩, 12) := ⟨⟨by decide +kernel, by decide +kernel⟩, List.mem_of_getElem? (i := 14) (by decide +kernel), List.mem_of_getElem? (i := 680) (by decide +kernel), List.mem_of_getElem? (i := 681) (by decide +kernel)⟩
theorem lw_p27 : lw_okq (⟨"KeySieves$Sheet", "faultAs", "(I)I"⟩, 3) := ⟨⟨by decide +kernel, by decide +kernel⟩, List.mem_of_getElem? (i := 126) (by decide +kernel), List.mem_of_getElem? (i := 739) (by decide +kernel), List.mem_of_getElem? (i := 740) (by decide +kernel)⟩
theorem lw_p28 : lw_okq (⟨"KeySievesModel", "firstDraft", "()V"⟩, 29) := ⟨⟨by decide +kernel, by decide +kernel⟩, List.mem_of_getElem? (i := 761) (by decide +kernel), List.mem_of_getElem? (i := 767) (by decide +kernel), List.mem_of_getElem? (i := 768) (by decide +kernel)⟩
theorem lw_p29 : lw_okq (⟨"KeySievesModel", "keepDraft", "()V"⟩, 29) := ⟨⟨by decide +kernel, by decide +kernel⟩, List.mem_of_getElem? (i := 761) (by decide +kernel), List.mem_of_getElem? (i := 771) (by decide +kernel), List.mem_of_getElem? (i := 772) (by decide +kernel)⟩
theorem lw_p30 : lw_okq (⟨"KeySievesModel", "reads", "()V"⟩, 29) := ⟨⟨by decide +kernel, by decide +kernel⟩, List.mem_of_getElem? (i := 761) (by decide +kernel), List.mem_of_getElem? (i := 879) (by decide +kernel), List.mem_of_getElem? (i := 880) (by decide +kernel)⟩
theorem lw_p31 : lw_okq (⟨"KeySievesModel", "byteAt", "(I)I"⟩, 29) := ⟨⟨by decide +kernel, by decide +kernel⟩, List.mem_of_getElem? (i := 761) (by decide +kernel), List.mem_of_getElem? (i := 883) (by decide +kernel), List.mem_of_getElem? (i := 884) (by decide +kernel)⟩
def lw_privs_2 : List (MethodName × Nat) := [(⟨"KeySieves$Key", "say", "(I)V"⟩, 9), (⟨"KeySieves", "copyToTry", "()LKeySieves$Board;"⟩, 12), (⟨"KeySieves", "strokesOfOne", "(IIII)I"⟩, 12), (⟨"KeySieves", "copyAltered", "(III)LKeySieves$Board;"⟩, 12), (⟨"KeySieves", "listenQuietly", "(I)V"⟩, 12), (⟨"KeySieves", "runNoisily", "(II)LKeySieves$Board;"⟩, 12), (⟨"KeySieves", "fitting", "(II)I"⟩, 12), (⟨"KeySieves$Board", "lastSeenTicks", "()I"⟩, 12), (⟨"KeySieves$Board", "saysAsSeenBehind", "(I)Z"⟩, 12), (⟨"KeySieves", "countSayers", "(II)V"⟩, 12), (⟨"KeySieves", "addSayings", "(LKeySieves$Board;I)V"⟩, 12), (⟨"KeySieves$Sheet", "faultAs", "(I)I"⟩, 3), (⟨"KeySievesModel", "firstDraft", "()V"⟩, 29), (⟨"KeySievesModel", "keepDraft", "()V"⟩, 29), (⟨"KeySievesModel", "reads", "()V"⟩, 29), (⟨"KeySievesModel", "byteAt", "(I)I"⟩, 29)]
theorem lw_r2 : ∀ q ∈ lw_privs_2, lw_okq q := List.forall_mem_cons.mpr ⟨lw_p16, List.forall_mem_cons.mpr ⟨lw_p17, List.forall_mem_cons.mpr ⟨lw_p18, List.forall_mem_cons.mpr ⟨lw_p19, List.forall_mem_cons.mpr ⟨lw_p20, List.forall_mem_cons.mpr ⟨lw_p21, List.forall_mem_cons.mpr ⟨lw_p22, List.forall_mem_cons.mpr ⟨lw_p23, List.forall_mem_cons.mpr ⟨lw_p24, List.forall_mem_cons.mpr ⟨lw_p25, List.forall_mem_cons.mpr ⟨lw_p26, List.forall_mem_cons.mpr ⟨lw_p27, List.forall_mem_cons.mpr ⟨lw_p28, List.forall_mem_cons.mpr ⟨lw_p29, List.forall_mem_cons.mpr ⟨lw_p30, List.forall_mem_cons.mpr ⟨lw_p31, fun _ h => absurd h List.not_mem_nil⟩⟩⟩⟩⟩⟩⟩⟩⟩⟩⟩⟩⟩⟩⟩⟩
theorem lw_p32 : lw_okq (⟨"KeySievesModel", "requires", "(ZI)V"⟩, 29) := ⟨⟨by decide +kernel, by decide +kernel⟩, List.mem_of_getElem? (i := 761) (by decide +kernel), List.mem_of_getElem? (i := 891) (by decide +kernel), List.mem_of_getElem? (i := 892) (by decide +kernel)⟩
theorem lw_p33 : lw_okq (⟨"KeySievesModel", "readLine", "()V"⟩, 29) := ⟨⟨by decide +kernel, by decide +kernel⟩, List.mem_of_getElem? (i := 761) (by decide +kernel), List.mem_of_getElem? (i := 895) (by decide +kernel), List.mem_of_getElem? (i := 896) (by decide +kernel)⟩
theorem lw_p34 : lw_okq (⟨"KeySievesModel", "lineNow", "()I"⟩, 29) := ⟨⟨by decide +kernel, by decide +kernel⟩, List.mem_of_getElem? (i := 761) (by decide +kernel), List.mem_of_getElem? (i := 899) (by decide +kernel), List.mem_of_getElem? (i := 900) (by decide +kernel)⟩
theorem lw_p35 : lw_okq (⟨"KeySievesModel", "is", "(IIII)Z"⟩, 29) := ⟨⟨by decide +kernel, by decide +kernel⟩, List.mem_of_getElem? (i := 761) (by decide +kernel), List.mem_of_getElem? (i := 903) (by decide +kernel), List.mem_of_getElem? (i := 904) (by decide +kernel)⟩
theorem lw_p36 : lw_okq (⟨"KeySievesModel", "endsIn", "(II)Z"⟩, 29) := ⟨⟨by decide +kernel, by decide +kernel⟩, List.mem_of_getElem? (i := 761) (by decide +kernel), List.mem_of_getElem? (i := 907) (by decide +kernel), List.mem_of_getElem? (i := 908) (by decide +kernel)⟩
theorem lw_p37 : lw_okq (⟨"KeySievesModel", "readLineOf", "(I)V"⟩, 29) := ⟨⟨by decide +kernel, by decide +kernel⟩, List.mem_of_getElem? (i := 761) (by decide +kernel), List.mem_of_getElem? (i := 911) (by decide +kernel), List.mem_of_getElem? (i := 912) (by decide +kernel)⟩
theorem lw_p38 : lw_okq (⟨"KeySievesModel", "readPress", "()V"⟩, 29) := ⟨⟨by decide +kernel, by decide +kernel⟩, List.mem_of_getElem? (i := 761) (by decide +kernel), List.mem_of_getElem? (i := 915) (by decide +kernel), List.mem_of_getElem? (i := 916) (by decide +kernel)⟩
theorem lw_p39 : lw_okq (⟨"KeySievesModel", "readNumber", "(II)I"⟩, 29) := ⟨⟨by decide +kernel, by decide +kernel⟩, List.mem_of_getElem? (i := 761) (by decide +kernel), List.mem_of_getElem? (i := 919) (by decide +kernel), List.mem_of_getElem? (i := 920) (by decide +kernel)⟩
theorem lw_p40 : lw_okq (⟨"KeySievesModel", "starts", "()V"⟩, 29) := ⟨⟨by decide +kernel, by decide +kernel⟩, List.mem_of_getElem? (i := 761) (by decide +kernel), List.mem_of_getElem? (i := 931) (by decide +kernel), List.mem_of_getElem? (i := 932) (by decide +kernel)⟩
theorem lw_p41 : lw_okq (⟨"KeySievesModel", "says", "()I"⟩, 29) := ⟨⟨by decide +kernel, by decide +kernel⟩, List.mem_of_getElem? (i := 761) (by decide +kernel), List.mem_of_getElem? (i := 935) (by decide +kernel), List.mem_of_getElem? (i := 936) (by decide +kernel)⟩
theorem lw_p42 : lw_okq (⟨"KeySievesModel", "of", "(II)I"⟩, 29) := ⟨⟨by decide +kernel, by decide +kernel⟩, List.mem_of_getElem? (i := 761) (by decide +kernel), List.mem_of_getElem? (i := 939) (by decide +kernel), List.mem_of_getElem? (i := 940) (by decide +kernel)⟩
theorem lw_p43 : lw_okq (⟨"KeySievesModel", "contactsNow", "()I"⟩, 29) := ⟨⟨by decide +kernel, by decide +kernel⟩, List.mem_of_getElem? (i := 761) (by decide +kernel), List.mem_of_getElem? (i := 943) (by decide +kernel), List.mem_of_getElem? (i := 944) (by decide +kernel)⟩
theorem lw_p44 : lw_okq (⟨"KeySievesModel", "contactOf", "(II)I"⟩, 29) := ⟨⟨by decide +kernel, by decide +kernel⟩, List.mem_of_getElem? (i := 761) (by decide +kernel), List.mem_of_getElem? (i := 947) (by decide +kernel), List.mem_of_getElem? (i := 948) (by decide +kernel)⟩
theorem lw_p45 : lw_okq (⟨"KeySievesModel", "latestPress", "(II)I"⟩, 29) := ⟨⟨by decide +kernel, by decide +kernel⟩, List.mem_of_getElem? (i := 761) (by decide +kernel), List.mem_of_getElem? (i := 951) (by decide +kernel), List.mem_of_getElem? (i := 952) (by decide +kernel)⟩
theorem lw_p46 : lw_okq (⟨"KeySievesModel", "ofPress", "(II)I"⟩, 29) := ⟨⟨by decide +kernel, by decide +kernel⟩, List.mem_of_getElem? (i := 761) (by decide +kernel), List.mem_of_getElem? (i := 955) (by decide +kernel), List.mem_of_getElem? (i := 956) (by decide +kernel)⟩
theorem lw_p47 : lw_okq (⟨"KeySievesModel", "sumOf", "(I)I"⟩, 29) := ⟨⟨by decide +kernel, by decide +kernel⟩, List.mem_of_getElem? (i := 761) (by decide +kernel), List.mem_of_getElem? (i := 959) (by decide +kernel), List.mem_of_getElem? (i := 960) (by decide +kernel)⟩
def lw_privs_3 : List (MethodName × Nat) := [(⟨"KeySievesModel", "requires", "(ZI)V"⟩, 29), (⟨"KeySievesModel", "readLine", "()V"⟩, 29), (⟨"KeySievesModel", "lineNow", "()I"⟩, 29), (⟨"KeySievesModel", "is", "(IIII)Z"⟩, 29), (⟨"KeySievesModel", "endsIn", "(II)Z"⟩, 29), (⟨"KeySievesModel", "readLineOf", "(I)V"⟩, 29), (⟨"KeySievesModel", "readPress", "()V"⟩, 29), (⟨"KeySievesModel", "readNumber", "(II)I"⟩, 29), (⟨"KeySievesModel", "starts", "()V"⟩, 29), (⟨"KeySievesModel", "says", "()I"⟩, 29), (⟨"KeySievesModel", "of", "(II)I"⟩, 29), (⟨"KeySievesModel", "contactsNow", "()I"⟩, 29), (⟨"KeySievesModel", "contactOf", "(II)I"⟩, 29), (⟨"KeySievesModel", "latestPress", "(II)I"⟩, 29), (⟨"KeySievesModel", "ofPress", "(II)I"⟩, 29), (⟨"KeySievesModel", "sumOf", "(I)I"⟩, 29)]
theorem lw_r3 : ∀ q ∈ lw_privs_3, lw_okq q := List.forall_mem_cons.mpr ⟨lw_p32, List.forall_mem_cons.mpr ⟨lw_p33, List.forall_mem_cons.mpr ⟨lw_p34, List.forall_mem_cons.mpr ⟨lw_p35, List.forall_mem_cons.mpr ⟨lw_p36, List.forall_mem_cons.mpr ⟨lw_p37, List.forall_mem_cons.mpr ⟨lw_p38, List.forall_mem_cons.mpr ⟨lw_p39, List.forall_mem_cons.mpr ⟨lw_p40, List.forall_mem_cons.mpr ⟨lw_p41, List.forall_mem_cons.mpr ⟨lw_p42, List.forall_mem_cons.mpr ⟨lw_p43, List.forall_mem_cons.mpr ⟨lw_p44, List.forall_mem_cons.mpr ⟨lw_p45, List.forall_mem_cons.mpr ⟨lw_p46, List.forall_mem_cons.mpr ⟨lw_p47, fun _ h => absurd h List.not_mem_nil⟩⟩⟩⟩⟩⟩⟩⟩⟩⟩⟩⟩⟩⟩⟩⟩
theorem lw_p48 : lw_okq (⟨"KeySievesModel", "isKey", "(I)Z"⟩, 29) := ⟨⟨by decide +kernel, by decide +kernel⟩, List.mem_of_getElem? (i := 761) (by decide +kernel), List.mem_of_getElem? (i := 967) (by decide +kernel), List.mem_of_getElem? (i := 968) (by decide +kernel)⟩
theorem lw_p49 : lw_okq (⟨"KeySievesModel", "becomes", "(II)I"⟩, 29) := ⟨⟨by decide +kernel, by decide +kernel⟩, List.mem_of_getElem? (i := 761) (by decide +kernel), List.mem_of_getElem? (i := 992) (by decide +kernel), List.mem_of_getElem? (i := 993) (by decide +kernel)⟩
theorem lw_p50 : lw_okq (⟨"KeySievesModel", "cutsSum", "(I)V"⟩, 29) := ⟨⟨by decide +kernel, by decide +kernel⟩, List.mem_of_getElem? (i := 761) (by decide +kernel), List.mem_of_getElem? (i := 996) (by decide +kernel), List.mem_of_getElem? (i := 997) (by decide +kernel)⟩
theorem lw_p51 : lw_okq (⟨"KeySievesModel", "becomesOf", "(III)V"⟩, 29) := ⟨⟨by decide +kernel, by decide +kernel⟩, List.mem_of_getElem? (i := 761) (by decide +kernel), List.mem_of_getElem? (i := 1003) (by decide +kernel), List.mem_of_getElem? (i := 1004) (by decide +kernel)⟩
theorem lw_p52 : lw_okq (⟨"KeySievesModel", "settles", "()V"⟩, 29) := ⟨⟨by decide +kernel, by decide +kernel⟩, List.mem_of_getElem? (i := 761) (by decide +kernel), List.mem_of_getElem? (i := 1007) (by decide +kernel), List.mem_of_getElem? (i := 1008) (by decide +kernel)⟩
theorem lw_p53 : lw_okq (⟨"KeySievesModel", "ticksGo", "(I)V"⟩, 29) := ⟨⟨by decide +kernel, by decide +kernel⟩, List.mem_of_getElem? (i := 761) (by decide +kernel), List.mem_of_getElem? (i := 1030) (by decide +kernel), List.mem_of_getElem? (i := 1031) (by decide +kernel)⟩
theorem lw_p54 : lw_okq (⟨"KeySievesModel", "tickGoesBy", "(I)V"⟩, 29) := ⟨⟨by decide +kernel, by decide +kernel⟩, List.mem_of_getElem? (i := 761) (by decide +kernel), List.mem_of_getElem? (i := 1034) (by decide +kernel), List.mem_of_getElem? (i := 1035) (by decide +kernel)⟩
theorem lw_p55 : lw_okq (⟨"KeySievesModel", "looks", "(II)V"⟩, 29) := ⟨⟨by decide +kernel, by decide +kernel⟩, List.mem_of_getElem? (i := 761) (by decide +kernel), List.mem_of_getElem? (i := 1038) (by decide +kernel), List.mem_of_getElem? (i := 1039) (by decide +kernel)⟩
theorem lw_p56 : lw_okq (⟨"KeySievesModel", "weighs", "(II)V"⟩, 29) := ⟨⟨by decide +kernel, by decide +kernel⟩, List.mem_of_getElem? (i := 761) (by decide +kernel), List.mem_of_getElem? (i := 1042) (by decide +kernel), List.mem_of_getElem? (i := 1043) (by decide +kernel)⟩
theorem lw_p57 : lw_okq (⟨"KeySievesModel", "comesToSay", "(II)V"⟩, 29) := ⟨⟨by decide +kernel, by decide +kernel⟩, List.mem_of_getElem? (i := 761) (by decide +kernel), List.mem_of_getElem? (i := 1046) (by decide +kernel), List.mem_of_getElem? (i := 1047) (by decide +kernel)⟩
theorem lw_p58 : lw_okq (⟨"KeySievesModel", "countsUp", "(II)V"⟩, 29) := ⟨⟨by decide +kernel, by decide +kernel⟩, List.mem_of_getElem? (i := 761) (by decide +kernel), List.mem_of_getElem? (i := 1050) (by decide +kernel), List.mem_of_getElem? (i := 1051) (by decide +kernel)⟩
theorem lw_p59 : lw_okq (⟨"KeySievesModel", "wants", "(I)I"⟩, 29) := ⟨⟨by decide +kernel, by decide +kernel⟩, List.mem_of_getElem? (i := 761) (by decide +kernel), List.mem_of_getElem? (i := 1054) (by decide +kernel), List.mem_of_getElem? (i := 1055) (by decide +kernel)⟩
theorem lw_p60 : lw_okq (⟨"KeySievesModel", "shuts", "(I)I"⟩, 29) := ⟨⟨by decide +kernel, by decide +kernel⟩, List.mem_of_getElem? (i := 761) (by decide +kernel), List.mem_of_getElem? (i := 1058) (by decide +kernel), List.mem_of_getElem? (i := 1059) (by decide +kernel)⟩
theorem lw_p61 : lw_okq (⟨"KeySievesModel", "struckByAll", "()I"⟩, 29) := ⟨⟨by decide +kernel, by decide +kernel⟩, List.mem_of_getElem? (i := 761) (by decide +kernel), List.mem_of_getElem? (i := 1062) (by decide +kernel), List.mem_of_getElem? (i := 1063) (by decide +kernel)⟩
theorem lw_p62 : lw_okq (⟨"KeySievesModel", "dueIn", "(I)I"⟩, 29) := ⟨⟨by decide +kernel, by decide +kernel⟩, List.mem_of_getElem? (i := 761) (by decide +kernel), List.mem_of_getElem? (i := 1093) (by decide +kernel), List.mem_of_getElem? (i := 1094) (by decide +kernel)⟩
theorem lw_p63 : lw_okq (⟨"KeySievesModel", "strikesJust", "(IIIII)Z"⟩, 29) := ⟨⟨by decide +kernel, by decide +kernel⟩, List.mem_of_getElem? (i := 761) (by decide +kernel), List.mem_of_getElem? (i := 1102) (by decide +kernel), List.mem_of_getElem? (i := 1103) (by decide +kernel)⟩
def lw_privs_4 : List (MethodName × Nat) := [(⟨"KeySievesModel", "isKey", "(I)Z"⟩, 29), (⟨"KeySievesModel", "becomes", "(II)I"⟩, 29), (⟨"KeySievesModel", "cutsSum", "(I)V"⟩, 29), (⟨"KeySievesModel", "becomesOf", "(III)V"⟩, 29), (⟨"KeySievesModel", "settles", "()V"⟩, 29), (⟨"KeySievesModel", "ticksGo", "(I)V"⟩, 29), (⟨"KeySievesModel", "tickGoesBy", "(I)V"⟩, 29), (⟨"KeySievesModel", "looks", "(II)V"⟩, 29), (⟨"KeySievesModel", "weighs", "(II)V"⟩, 29), (⟨"KeySievesModel", "comesToSay", "(II)V"⟩, 29), (⟨"KeySievesModel", "countsUp", "(II)V"⟩, 29), (⟨"KeySievesModel", "wants", "(I)I"⟩, 29), (⟨"KeySievesModel", "shuts", "(I)I"⟩, 29), (⟨"KeySievesModel", "struckByAll", "()I"⟩, 29), (⟨"KeySievesModel", "dueIn", "(I)I"⟩, 29), (⟨"KeySievesModel", "strikesJust", "(IIIII)Z"⟩, 29)]
theorem lw_r4 : ∀ q ∈ lw_privs_4, lw_okq q := List.forall_mem_cons.mpr ⟨lw_p48, List.forall_mem_cons.mpr ⟨lw_p49, List.forall_mem_cons.mpr ⟨lw_p50, List.forall_mem_cons.mpr ⟨lw_p51, List.forall_mem_cons.mpr ⟨lw_p52, List.forall_mem_cons.mpr ⟨lw_p53, List.forall_mem_cons.mpr ⟨lw_p54, List.forall_mem_cons.mpr ⟨lw_p55, List.forall_mem_cons.mpr ⟨lw_p56, List.forall_mem_cons.mpr ⟨lw_p57, List.forall_mem_cons.mpr ⟨lw_p58, List.forall_mem_cons.mpr ⟨lw_p59, List.forall_mem_cons.mpr ⟨lw_p60, List.forall_mem_cons.mpr ⟨lw_p61, List.forall_mem_cons.mpr ⟨lw_p62, List.forall_mem_cons.mpr ⟨lw_p63, fun _ h => absurd h List.not_mem_nil⟩⟩⟩⟩⟩⟩⟩⟩⟩⟩⟩⟩⟩⟩⟩⟩
theorem lw_p64 : lw_okq (⟨"KeySievesModel", "startsWith", "(III)V"⟩, 29) := ⟨⟨by decide +kernel, by decide +kernel⟩, List.mem_of_getElem? (i := 761) (by decide +kernel), List.mem_of_getElem? (i := 1106) (by decide +kernel), List.mem_of_getElem? (i := 1107) (by decide +kernel)⟩
theorem lw_p65 : lw_okq (⟨"KeySievesModel", "startsJudging", "(I)V"⟩, 29) := ⟨⟨by decide +kernel, by decide +kernel⟩, List.mem_of_getElem? (i := 761) (by decide +kernel), List.mem_of_getElem? (i := 1119) (by decide +kernel), List.mem_of_getElem? (i := 1120) (by decide +kernel)⟩
theorem lw_p66 : lw_okq (⟨"KeySievesModel", "offIn", "(I)I"⟩, 29) := ⟨⟨by decide +kernel, by decide +kernel⟩, List.mem_of_getElem? (i := 761) (by decide +kernel), List.mem_of_getElem? (i := 1123) (by decide +kernel), List.mem_of_getElem? (i := 1124) (by decide +kernel)⟩
theorem lw_p67 : lw_okq (⟨"KeySievesModel", "judges", "(II)V"⟩, 29) := ⟨⟨by decide +kernel, by decide +kernel⟩, List.mem_of_getElem? (i := 761) (by decide +kernel), List.mem_of_getElem? (i := 1127) (by decide +kernel), List.mem_of_getElem? (i := 1128) (by decide +kernel)⟩
theorem lw_p68 : lw_okq (⟨"KeySievesModel", "findOdds", "(III)V"⟩, 29) := ⟨⟨by decide +kernel, by decide +kernel⟩, List.mem_of_getElem? (i := 761) (by decide +kernel), List.mem_of_getElem? (i := 1146) (by decide +kernel), List.mem_of_getElem? (i := 1147) (by decide +kernel)⟩
theorem lw_p69 : lw_okq (⟨"KeySievesModel", "which", "(II)I"⟩, 29) := ⟨⟨by decide +kernel, by decide +kernel⟩, List.mem_of_getElem? (i := 761) (by decide +kernel), List.mem_of_getElem? (i := 1173) (by decide +kernel), List.mem_of_getElem? (i := 1174) (by decide +kernel)⟩
theorem lw_p70 : lw_okq (⟨"KeySievesModel", "isSoWith", "(III)Z"⟩, 29) := ⟨⟨by decide +kernel, by decide +kernel⟩, List.mem_of_getElem? (i := 761) (by decide +kernel), List.mem_of_getElem? (i := 1177) (by decide +kernel), List.mem_of_getElem? (i := 1178) (by decide +kernel)⟩
theorem lw_p71 : lw_okq (⟨"KeySievesModel", "copies", "(II)V"⟩, 29) := ⟨⟨by decide +kernel, by decide +kernel⟩, List.mem_of_getElem? (i := 761) (by decide +kernel), List.mem_of_getElem? (i := 1202) (by decide +kernel), List.mem_of_getElem? (i := 1203) (by decide +kernel)⟩
def lw_privs_5 : List (MethodName × Nat) := [(⟨"KeySievesModel", "startsWith", "(III)V"⟩, 29), (⟨"KeySievesModel", "startsJudging", "(I)V"⟩, 29), (⟨"KeySievesModel", "offIn", "(I)I"⟩, 29), (⟨"KeySievesModel", "judges", "(II)V"⟩, 29), (⟨"KeySievesModel", "findOdds", "(III)V"⟩, 29), (⟨"KeySievesModel", "which", "(II)I"⟩, 29), (⟨"KeySievesModel", "isSoWith", "(III)Z"⟩, 29), (⟨"KeySievesModel", "copies", "(II)V"⟩, 29)]
theorem lw_r5 : ∀ q ∈ lw_privs_5, lw_okq q := List.forall_mem_cons.mpr ⟨lw_p64, List.forall_mem_cons.mpr ⟨lw_p65, List.forall_mem_cons.mpr ⟨lw_p66, List.forall_mem_cons.mpr ⟨lw_p67, List.forall_mem_cons.mpr ⟨lw_p68, List.forall_mem_cons.mpr ⟨lw_p69, List.forall_mem_cons.mpr ⟨lw_p70, List.forall_mem_cons.mpr ⟨lw_p71, fun _ h => absurd h List.not_mem_nil⟩⟩⟩⟩⟩⟩⟩⟩
def lw_privs : List (MethodName × Nat) := lw_privs_1 ++ (lw_privs_2 ++ (lw_privs_3 ++ (lw_privs_4 ++ (lw_privs_5))))
def lw_tbl : List Cond := k2_sels lw_privs ++ tables_1
theorem lw_privs_ok : ∀ q ∈ lw_privs, lw_okq q := by
  show ∀ q ∈ lw_privs_1 ++ (lw_privs_2 ++ (lw_privs_3 ++ (lw_privs_4 ++ (lw_privs_5)))), lw_okq q
  exact List.forall_mem_append.mpr ⟨lw_r1, List.forall_mem_append.mpr ⟨lw_r2, List.forall_mem_append.mpr ⟨lw_r3, List.forall_mem_append.mpr ⟨lw_r4, lw_r5⟩⟩⟩⟩
end
section
def RX0 : String := "KeySieves$Board"
def TX0 : u_T := fun k => match k with
  | 0 => ("KeySieves$Board", "keys", "[LKeySieves$Key;", true)
  | 1 => ("KeySieves$Board", "keyCount", "I", false)
  | 2 => ("KeySieves$Board", "pressTick", "[I", true)
  | 3 => ("KeySieves$Board", "pressKey", "[I", true)
  | 4 => ("KeySieves$Board", "pressState", "[I", true)
  | 5 => ("KeySieves$Board", "pressCount", "I", false)
  | 6 => ("KeySieves$Board", "every", "I", false)
  | 7 => ("KeySieves$Board", "tick", "I", false)
  | 8 => ("KeySieves$Board", "seenTicks", "[I", true)
  | 9 => ("KeySieves$Board", "seenKey", "[I", true)
  | 10 => ("KeySieves$Board", "seenSays", "[I", true)
  | _ => ("KeySieves$Board", "seenCount", "I", false)
def tyX0 : Nat → FieldType := fun k => match k with
  | 0 => .array (.object "KeySieves$Key")
  | 1 => .int
  | 2 => .array .int
  | 3 => .array .int
  | 4 => .array .int
  | 5 => .int
  | 6 => .int
  | 7 => .int
  | 8 => .array .int
  | 9 => .array .int
  | 10 => .array .int
  | _ => .int
theorem nmX0 : ∀ a, a < 12 → ∀ b, b < 12 → a ≠ b → (TX0 a).2.1 ≠ (TX0 b).2.1 := by decide +kernel
theorem tyX0_ok : ∀ k, k < 12 → parseFieldDescriptor (TX0 k).2.2.1 = some (tyX0 k) := by decide +kernel
abbrev cX0_init : ByteArray := prog_2_method_1_code
def yX0_init : MethodName := ⟨RX0, "<init>", "()V"⟩
abbrev cX0_clear : ByteArray := prog_2_method_2_code
def yX0_clear : MethodName := ⟨RX0, "clear", "()V"⟩
abbrev cX0_copyFrom : ByteArray := prog_2_method_3_code
def yX0_copyFrom : MethodName := ⟨RX0, "copyFrom", "(LKeySieves$Board;)V"⟩
abbrev cX0_copySievesFrom : ByteArray := prog_2_method_4_code
def yX0_copySievesFrom : MethodName := ⟨RX0, "copySievesFrom", "(LKeySieves$Board;)V"⟩
abbrev cX0_hasKey : ByteArray := prog_2_method_5_code
def yX0_hasKey : MethodName := ⟨RX0, "hasKey", "(I)Z"⟩
abbrev cX0_addKey : ByteArray := prog_2_method_6_code
def yX0_addKey : MethodName := ⟨RX0, "addKey", "(III)V"⟩
abbrev cX0_addPress : ByteArray := prog_2_method_7_code
def yX0_addPress : MethodName := ⟨RX0, "addPress", "(III)V"⟩
abbrev cX0_removePress : ByteArray := prog_2_method_8_code
def yX0_removePress : MethodName := ⟨RX0, "removePress", "(I)V"⟩
abbrev cX0_addSeen : ByteArray := prog_2_method_9_code
def yX0_addSeen : MethodName := ⟨RX0, "addSeen", "(III)V"⟩
abbrev cX0_contactAt : ByteArray := prog_2_method_10_code
def yX0_contactAt : MethodName := ⟨RX0, "contactAt", "(II)I"⟩
abbrev cX0_latestPress : ByteArray := prog_2_method_11_code
def yX0_latestPress : MethodName := ⟨RX0, "latestPress", "(II)I"⟩
abbrev cX0_contactBits : ByteArray := prog_2_method_12_code
def yX0_contactBits : MethodName := ⟨RX0, "contactBits", "()I"⟩
abbrev cX0_saysBits : ByteArray := prog_2_method_13_code
def yX0_saysBits : MethodName := ⟨RX0, "saysBits", "()I"⟩
abbrev cX0_strokesOfAll : ByteArray := prog_2_method_14_code
def yX0_strokesOfAll : MethodName := ⟨RX0, "strokesOfAll", "()I"⟩
abbrev cX0_sumOfPart : ByteArray := prog_2_method_15_code
def yX0_sumOfPart : MethodName := ⟨RX0, "sumOfPart", "(I)I"⟩
abbrev cX0_startRun : ByteArray := prog_2_method_16_code
def yX0_startRun : MethodName := ⟨RX0, "startRun", "()V"⟩
abbrev cX0_struckInRun : ByteArray := prog_2_method_17_code
def yX0_struckInRun : MethodName := ⟨RX0, "struckInRun", "()I"⟩
abbrev cX0_changedInRun : ByteArray := prog_2_method_18_code
def yX0_changedInRun : MethodName := ⟨RX0, "changedInRun", "()I"⟩
abbrev cX0_tickWith : ByteArray := prog_2_method_19_code
def yX0_tickWith : MethodName := ⟨RX0, "tickWith", "(I)V"⟩
abbrev cX0_advance : ByteArray := prog_2_method_20_code
def yX0_advance : MethodName := ⟨RX0, "advance", "(I)V"⟩
abbrev cX0_advanceCountingWrong : ByteArray := prog_2_method_21_code
def yX0_advanceCountingWrong : MethodName := ⟨RX0, "advanceCountingWrong", "(I)I"⟩
abbrev cX0_dueIn : ByteArray := prog_2_method_22_code
def yX0_dueIn : MethodName := ⟨RX0, "dueIn", "(I)I"⟩
abbrev cX0_isAsSeen : ByteArray := prog_2_method_23_code
def yX0_isAsSeen : MethodName := ⟨RX0, "isAsSeen", "()Z"⟩
abbrev cX0_lastSeenTicks : ByteArray := prog_2_method_24_code
def yX0_lastSeenTicks : MethodName := ⟨RX0, "lastSeenTicks", "()I"⟩
abbrev cX0_saysAsSeenBehind : ByteArray := prog_2_method_25_code
def yX0_saysAsSeenBehind : MethodName := ⟨RX0, "saysAsSeenBehind", "(I)Z"⟩
abbrev cX0_hasPressOfNoKey : ByteArray := prog_2_method_26_code
def yX0_hasPressOfNoKey : MethodName := ⟨RX0, "hasPressOfNoKey", "()Z"⟩
def RX1 : String := "KeySieves$Key"
def TX1 : u_T := fun k => match k with
  | 0 => ("KeySieves$Key", "bounce", "I", false)
  | 1 => ("KeySieves$Key", "kind", "I", false)
  | 2 => ("KeySieves$Key", "number", "I", false)
  | 3 => ("KeySieves$Key", "says", "I", false)
  | 4 => ("KeySieves$Key", "sum", "I", false)
  | 5 => ("KeySieves$Key", "rest", "I", false)
  | 6 => ("KeySieves$Key", "strokes", "I", false)
  | 7 => ("KeySieves$Key", "struck", "I", false)
  | _ => ("KeySieves$Key", "changed", "I", false)
def tyX1 : Nat → FieldType := fun k => match k with
  | 0 => .int
  | 1 => .int
  | 2 => .int
  | 3 => .int
  | 4 => .int
  | 5 => .int
  | 6 => .int
  | 7 => .int
  | _ => .int
theorem nmX1 : ∀ a, a < 9 → ∀ b, b < 9 → a ≠ b → (TX1 a).2.1 ≠ (TX1 b).2.1 := by decide +kernel
theorem tyX1_ok : ∀ k, k < 9 → parseFieldDescriptor (TX1 k).2.2.1 = some (tyX1 k) := by decide +kernel
abbrev cX1_init : ByteArray := prog_3_method_1_code
def yX1_init : MethodName := ⟨RX1, "<init>", "()V"⟩
abbrev cX1_begin : ByteArray := prog_3_method_2_code
def yX1_begin : MethodName := ⟨RX1, "begin", "(III)V"⟩
abbrev cX1_startRun : ByteArray := prog_3_method_3_code
def yX1_startRun : MethodName := ⟨RX1, "startRun", "()V"⟩
abbrev cX1_copyFrom : ByteArray := prog_3_method_4_code
def yX1_copyFrom : MethodName := ⟨RX1, "copyFrom", "(LKeySieves$Key;)V"⟩
abbrev cX1_mayBe : ByteArray := prog_3_method_5_code
def yX1_mayBe : MethodName := ⟨RX1, "mayBe", "(II)Z"⟩
abbrev cX1_part : ByteArray := prog_3_method_6_code
def yX1_part : MethodName := ⟨RX1, "part", "(I)I"⟩
abbrev cX1_become : ByteArray := prog_3_method_7_code
def yX1_become : MethodName := ⟨RX1, "become", "(II)V"⟩
abbrev cX1_look : ByteArray := prog_3_method_8_code
def yX1_look : MethodName := ⟨RX1, "look", "(I)V"⟩
abbrev cX1_weigh : ByteArray := prog_3_method_9_code
def yX1_weigh : MethodName := ⟨RX1, "weigh", "(I)I"⟩
abbrev cX1_compare : ByteArray := prog_3_method_10_code
def yX1_compare : MethodName := ⟨RX1, "compare", "(I)I"⟩
abbrev cX1_say : ByteArray := prog_3_method_11_code
def yX1_say : MethodName := ⟨RX1, "say", "(I)V"⟩
def RX2 : String := "KeySieves$Sheet"
def TX2 : u_T := fun k => match k with
  | 0 => ("KeySieves$Sheet", "cells", "[I", true)
  | 1 => ("KeySieves$Sheet", "lane", "I", false)
  | _ => ("KeySieves$Sheet", "size", "I", false)
def tyX2 : Nat → FieldType := fun k => match k with
  | 0 => .array .int
  | 1 => .int
  | _ => .int
theorem nmX2 : ∀ a, a < 3 → ∀ b, b < 3 → a ≠ b → (TX2 a).2.1 ≠ (TX2 b).2.1 := by decide +kernel
theorem tyX2_ok : ∀ k, k < 3 → parseFieldDescriptor (TX2 k).2.2.1 = some (tyX2 k) := by decide +kernel
abbrev cX2_init : ByteArray := prog_4_method_1_code
def yX2_init : MethodName := ⟨RX2, "<init>", "()V"⟩
abbrev cX2_isLane : ByteArray := prog_4_method_2_code
def yX2_isLane : MethodName := ⟨RX2, "isLane", "(I)Z"⟩
abbrev cX2_isNothing : ByteArray := prog_4_method_3_code
def yX2_isNothing : MethodName := ⟨RX2, "isNothing", "()Z"⟩
abbrev cX2_renew : ByteArray := prog_4_method_4_code
def yX2_renew : MethodName := ⟨RX2, "renew", "(II)V"⟩
abbrev cX2_faultAt : ByteArray := prog_4_method_5_code
def yX2_faultAt : MethodName := ⟨RX2, "faultAt", "(I)I"⟩
abbrev cX2_faultOfThree : ByteArray := prog_4_method_6_code
def yX2_faultOfThree : MethodName := ⟨RX2, "faultOfThree", "(II)I"⟩
abbrev cX2_faultAs : ByteArray := prog_4_method_7_code
def yX2_faultAs : MethodName := ⟨RX2, "faultAs", "(I)I"⟩
abbrev cX2_get : ByteArray := prog_4_method_8_code
def yX2_get : MethodName := ⟨RX2, "get", "(I)I"⟩
abbrev cX2_put : ByteArray := prog_4_method_9_code
def yX2_put : MethodName := ⟨RX2, "put", "(II)V"⟩
def RX3 : String := "KeySieves$TextReader"
def TX3 : u_T := fun k => match k with
  | 0 => ("KeySieves$TextReader", "bytes", "[B", true)
  | 1 => ("KeySieves$TextReader", "board", "LKeySieves$Board;", true)
  | 2 => ("KeySieves$TextReader", "length", "I", false)
  | 3 => ("KeySieves$TextReader", "place", "I", false)
  | 4 => ("KeySieves$TextReader", "token", "I", false)
  | 5 => ("KeySieves$TextReader", "tokenPlace", "I", false)
  | 6 => ("KeySieves$TextReader", "value", "I", false)
  | 7 => ("KeySieves$TextReader", "everyTold", "Z", false)
  | 8 => ("KeySieves$TextReader", "fault", "I", false)
  | _ => ("KeySieves$TextReader", "faultPlace", "I", false)
def tyX3 : Nat → FieldType := fun k => match k with
  | 0 => .array .byte
  | 1 => .object "KeySieves$Board"
  | 2 => .int
  | 3 => .int
  | 4 => .int
  | 5 => .int
  | 6 => .int
  | 7 => .boolean
  | 8 => .int
  | _ => .int
theorem nmX3 : ∀ a, a < 10 → ∀ b, b < 10 → a ≠ b → (TX3 a).2.1 ≠ (TX3 b).2.1 := by decide +kernel
theorem tyX3_ok : ∀ k, k < 10 → parseFieldDescriptor (TX3 k).2.2.1 = some (tyX3 k) := by decide +kernel
abbrev cX3_init : ByteArray := prog_5_method_1_code
def yX3_init : MethodName := ⟨RX3, "<init>", "([BLKeySieves$Board;)V"⟩
abbrev cX3_readLines : ByteArray := prog_5_method_2_code
def yX3_readLines : MethodName := ⟨RX3, "readLines", "(I)I"⟩
abbrev cX3_fail : ByteArray := prog_5_method_3_code
def yX3_fail : MethodName := ⟨RX3, "fail", "(II)V"⟩
abbrev cX3_readLine : ByteArray := prog_5_method_4_code
def yX3_readLine : MethodName := ⟨RX3, "readLine", "()V"⟩
abbrev cX3_readKey : ByteArray := prog_5_method_5_code
def yX3_readKey : MethodName := ⟨RX3, "readKey", "(I)V"⟩
abbrev cX3_readPress : ByteArray := prog_5_method_6_code
def yX3_readPress : MethodName := ⟨RX3, "readPress", "()V"⟩
abbrev cX3_readEvery : ByteArray := prog_5_method_7_code
def yX3_readEvery : MethodName := ⟨RX3, "readEvery", "()V"⟩
abbrev cX3_readNumber : ByteArray := prog_5_method_8_code
def yX3_readNumber : MethodName := ⟨RX3, "readNumber", "(II)I"⟩
abbrev cX3_readSemicolon : ByteArray := prog_5_method_9_code
def yX3_readSemicolon : MethodName := ⟨RX3, "readSemicolon", "()V"⟩
abbrev cX3_nextToken : ByteArray := prog_5_method_10_code
def yX3_nextToken : MethodName := ⟨RX3, "nextToken", "()V"⟩
abbrev cX3_takeName : ByteArray := prog_5_method_11_code
def yX3_takeName : MethodName := ⟨RX3, "takeName", "()V"⟩
abbrev cX3_takeNumber : ByteArray := prog_5_method_12_code
def yX3_takeNumber : MethodName := ⟨RX3, "takeNumber", "()V"⟩
abbrev cX3_isLetter : ByteArray := prog_5_method_13_code
def yX3_isLetter : MethodName := ⟨RX3, "isLetter", "(I)Z"⟩
abbrev cX3_isFigure : ByteArray := prog_5_method_14_code
def yX3_isFigure : MethodName := ⟨RX3, "isFigure", "(I)Z"⟩
abbrev cX3_lineNamed : ByteArray := prog_5_method_15_code
def yX3_lineNamed : MethodName := ⟨RX3, "lineNamed", "()I"⟩
abbrev cX3_nameIs : ByteArray := prog_5_method_16_code
def yX3_nameIs : MethodName := ⟨RX3, "nameIs", "(Ljava/lang/String;)Z"⟩
abbrev cX3_lineName : ByteArray := prog_5_method_17_code
def yX3_lineName : MethodName := ⟨RX3, "lineName", "(I)Ljava/lang/String;"⟩
def RX4 : String := "KeySieves"
def TX4 : u_T := fun k => match k with
  | 0 => ("KeySieves", "tape", "[B", true)
  | 1 => ("KeySieves", "tapeLength", "I", false)
  | 2 => ("KeySieves", "now", "LKeySieves$Board;", true)
  | 3 => ("KeySieves", "trial", "LKeySieves$Board;", true)
  | 4 => ("KeySieves", "images", "[LKeySieves$Board;", true)
  | 5 => ("KeySieves", "kept", "[Z", true)
  | 6 => ("KeySieves", "sheets", "[LKeySieves$Sheet;", true)
  | 7 => ("KeySieves", "reader", "LKeySieves$TextReader;", true)
  | 8 => ("KeySieves", "textFault", "I", false)
  | 9 => ("KeySieves", "readFault", "I", false)
  | 10 => ("KeySieves", "quietContacts", "[I", true)
  | _ => ("KeySieves", "saidOne", "[I", true)
def tyX4 : Nat → FieldType := fun k => match k with
  | 0 => .array .byte
  | 1 => .int
  | 2 => .object "KeySieves$Board"
  | 3 => .object "KeySieves$Board"
  | 4 => .array (.object "KeySieves$Board")
  | 5 => .array .boolean
  | 6 => .array (.object "KeySieves$Sheet")
  | 7 => .object "KeySieves$TextReader"
  | 8 => .int
  | 9 => .int
  | 10 => .array .int
  | _ => .array .int
theorem nmX4 : ∀ a, a < 12 → ∀ b, b < 12 → a ≠ b → (TX4 a).2.1 ≠ (TX4 b).2.1 := by decide +kernel
theorem tyX4_ok : ∀ k, k < 12 → parseFieldDescriptor (TX4 k).2.2.1 = some (tyX4 k) := by decide +kernel
abbrev cX4_init : ByteArray := prog_1_method_1_code
def yX4_init : MethodName := ⟨RX4, "<init>", "()V"⟩
abbrev cX4_feed : ByteArray := prog_1_method_2_code
def yX4_feed : MethodName := ⟨RX4, "feed", "(I)I"⟩
abbrev cX4_end : ByteArray := prog_1_method_3_code
def yX4_end : MethodName := ⟨RX4, "end", "(I)I"⟩
abbrev cX4_text : ByteArray := prog_1_method_4_code
def yX4_text : MethodName := ⟨RX4, "text", "()I"⟩
abbrev cX4_fault : ByteArray := prog_1_method_5_code
def yX4_fault : MethodName := ⟨RX4, "fault", "()I"⟩
abbrev cX4_rule : ByteArray := prog_1_method_6_code
def yX4_rule : MethodName := ⟨RX4, "rule", "(I)I"⟩
abbrev cX4_key : ByteArray := prog_1_method_7_code
def yX4_key : MethodName := ⟨RX4, "key", "(II)I"⟩
abbrev cX4_press : ByteArray := prog_1_method_8_code
def yX4_press : MethodName := ⟨RX4, "press", "(II)I"⟩
abbrev cX4_contact : ByteArray := prog_1_method_9_code
def yX4_contact : MethodName := ⟨RX4, "contact", "(II)I"⟩
abbrev cX4_alter : ByteArray := prog_1_method_10_code
def yX4_alter : MethodName := ⟨RX4, "alter", "(III)I"⟩
abbrev cX4_every : ByteArray := prog_1_method_11_code
def yX4_every : MethodName := ⟨RX4, "every", "(I)I"⟩
abbrev cX4_strike : ByteArray := prog_1_method_12_code
def yX4_strike : MethodName := ⟨RX4, "strike", "(III)I"⟩
abbrev cX4_drop : ByteArray := prog_1_method_13_code
def yX4_drop : MethodName := ⟨RX4, "drop", "(I)I"⟩
abbrev cX4_putPress : ByteArray := prog_1_method_14_code
def yX4_putPress : MethodName := ⟨RX4, "putPress", "(III)I"⟩
abbrev cX4_ticks : ByteArray := prog_1_method_15_code
def yX4_ticks : MethodName := ⟨RX4, "ticks", "(I)I"⟩
abbrev cX4_runs : ByteArray := prog_1_method_16_code
def yX4_runs : MethodName := ⟨RX4, "runs", "(II)I"⟩
abbrev cX4_ahead : ByteArray := prog_1_method_17_code
def yX4_ahead : MethodName := ⟨RX4, "ahead", "(III)I"⟩
abbrev cX4_when : ByteArray := prog_1_method_18_code
def yX4_when : MethodName := ⟨RX4, "when", "(II)I"⟩
abbrev cX4_due : ByteArray := prog_1_method_19_code
def yX4_due : MethodName := ⟨RX4, "due", "(I)I"⟩
abbrev cX4_need : ByteArray := prog_1_method_20_code
def yX4_need : MethodName := ⟨RX4, "need", "(III)I"⟩
abbrev cX4_bear : ByteArray := prog_1_method_21_code
def yX4_bear : MethodName := ⟨RX4, "bear", "(III)I"⟩
abbrev cX4_kind : ByteArray := prog_1_method_22_code
def yX4_kind : MethodName := ⟨RX4, "kind", "(III)I"⟩
abbrev cX4_slow : ByteArray := prog_1_method_23_code
def yX4_slow : MethodName := ⟨RX4, "slow", "(II)I"⟩
abbrev cX4_lose : ByteArray := prog_1_method_24_code
def yX4_lose : MethodName := ⟨RX4, "lose", "(II)I"⟩
abbrev cX4_missOf : ByteArray := prog_1_method_25_code
def yX4_missOf : MethodName := ⟨RX4, "missOf", "(LKeySieves$Board;I)I"⟩
abbrev cX4_strokesIn : ByteArray := prog_1_method_26_code
def yX4_strokesIn : MethodName := ⟨RX4, "strokesIn", "(LKeySieves$Board;I)I"⟩
abbrev cX4_strokesOfOne : ByteArray := prog_1_method_27_code
def yX4_strokesOfOne : MethodName := ⟨RX4, "strokesOfOne", "(IIII)I"⟩
abbrev cX4_luck : ByteArray := prog_1_method_28_code
def yX4_luck : MethodName := ⟨RX4, "luck", "(IIII)J"⟩
abbrev cX4_mean : ByteArray := prog_1_method_29_code
def yX4_mean : MethodName := ⟨RX4, "mean", "(III)J"⟩
abbrev cX4_isNoise : ByteArray := prog_1_method_30_code
def yX4_isNoise : MethodName := ⟨RX4, "isNoise", "(II)Z"⟩
abbrev cX4_listenQuietly : ByteArray := prog_1_method_31_code
def yX4_listenQuietly : MethodName := ⟨RX4, "listenQuietly", "(I)V"⟩
abbrev cX4_runNoisily : ByteArray := prog_1_method_32_code
def yX4_runNoisily : MethodName := ⟨RX4, "runNoisily", "(II)LKeySieves$Board;"⟩
abbrev cX4_weightOf : ByteArray := prog_1_method_33_code
def yX4_weightOf : MethodName := ⟨RX4, "weightOf", "(III)J"⟩
abbrev cX4_power : ByteArray := prog_1_method_34_code
def yX4_power : MethodName := ⟨RX4, "power", "(II)J"⟩
abbrev cX4_partOfFraction : ByteArray := prog_1_method_35_code
def yX4_partOfFraction : MethodName := ⟨RX4, "partOfFraction", "(JJI)J"⟩
abbrev cX4_commonDivisor : ByteArray := prog_1_method_36_code
def yX4_commonDivisor : MethodName := ⟨RX4, "commonDivisor", "(JJ)J"⟩
abbrev cX4_see : ByteArray := prog_1_method_37_code
def yX4_see : MethodName := ⟨RX4, "see", "(III)I"⟩
abbrev cX4_forget : ByteArray := prog_1_method_38_code
def yX4_forget : MethodName := ⟨RX4, "forget", "(I)I"⟩
abbrev cX4_kinds : ByteArray := prog_1_method_39_code
def yX4_kinds : MethodName := ⟨RX4, "kinds", "(I)I"⟩
abbrev cX4_numbers : ByteArray := prog_1_method_40_code
def yX4_numbers : MethodName := ⟨RX4, "numbers", "(I)I"⟩
abbrev cX4_bounces : ByteArray := prog_1_method_41_code
def yX4_bounces : MethodName := ⟨RX4, "bounces", "(I)I"⟩
abbrev cX4_ask : ByteArray := prog_1_method_42_code
def yX4_ask : MethodName := ⟨RX4, "ask", "(II)I"⟩
abbrev cX4_fitting : ByteArray := prog_1_method_43_code
def yX4_fitting : MethodName := ⟨RX4, "fitting", "(II)I"⟩
abbrev cX4_countSayers : ByteArray := prog_1_method_44_code
def yX4_countSayers : MethodName := ⟨RX4, "countSayers", "(II)V"⟩
abbrev cX4_addSayings : ByteArray := prog_1_method_45_code
def yX4_addSayings : MethodName := ⟨RX4, "addSayings", "(LKeySieves$Board;I)V"⟩
abbrev cX4_drift : ByteArray := prog_1_method_46_code
def yX4_drift : MethodName := ⟨RX4, "drift", "(III)I"⟩
abbrev cX4_keep : ByteArray := prog_1_method_47_code
def yX4_keep : MethodName := ⟨RX4, "keep", "(I)I"⟩
abbrev cX4_back : ByteArray := prog_1_method_48_code
def yX4_back : MethodName := ⟨RX4, "back", "(I)I"⟩
abbrev cX4_sheet : ByteArray := prog_1_method_49_code
def yX4_sheet : MethodName := ⟨RX4, "sheet", "(III)I"⟩
abbrev cX4_lay : ByteArray := prog_1_method_50_code
def yX4_lay : MethodName := ⟨RX4, "lay", "(III)I"⟩
abbrev cX4_read : ByteArray := prog_1_method_51_code
def yX4_read : MethodName := ⟨RX4, "read", "(IIII)I"⟩
abbrev cX4_torn : ByteArray := prog_1_method_52_code
def yX4_torn : MethodName := ⟨RX4, "torn", "()I"⟩
abbrev cX4_count : ByteArray := prog_1_method_53_code
def yX4_count : MethodName := ⟨RX4, "count", "(I)I"⟩
abbrev cX4_isSheet : ByteArray := prog_1_method_54_code
def yX4_isSheet : MethodName := ⟨RX4, "isSheet", "(I)Z"⟩
abbrev cX4_within : ByteArray := prog_1_method_55_code
def yX4_within : MethodName := ⟨RX4, "within", "(III)Z"⟩
abbrev cX4_isRun : ByteArray := prog_1_method_56_code
def yX4_isRun : MethodName := ⟨RX4, "isRun", "(I)Z"⟩
abbrev cX4_copyToTry : ByteArray := prog_1_method_57_code
def yX4_copyToTry : MethodName := ⟨RX4, "copyToTry", "()LKeySieves$Board;"⟩
abbrev cX4_copyAltered : ByteArray := prog_1_method_58_code
def yX4_copyAltered : MethodName := ⟨RX4, "copyAltered", "(III)LKeySieves$Board;"⟩
def RX5 : String := "KeySievesModel"
def TX5 : u_T := fun k => match k with
  | 0 => ("KeySievesModel", "st", "[I", true)
  | 1 => ("KeySievesModel", "now", "[I", true)
  | 2 => ("KeySievesModel", "isKept", "[Z", true)
  | 3 => ("KeySievesModel", "draft", "[I", true)
  | 4 => ("KeySievesModel", "hasEvery", "Z", false)
  | 5 => ("KeySievesModel", "highest", "I", false)
  | 6 => ("KeySievesModel", "tape", "[I", true)
  | 7 => ("KeySievesModel", "taped", "I", false)
  | 8 => ("KeySievesModel", "pos", "I", false)
  | 9 => ("KeySievesModel", "begun", "I", false)
  | 10 => ("KeySievesModel", "sort", "I", false)
  | 11 => ("KeySievesModel", "value", "I", false)
  | 12 => ("KeySievesModel", "fault", "I", false)
  | 13 => ("KeySievesModel", "wrongAt", "I", false)
  | 14 => ("KeySievesModel", "struck", "[I", true)
  | 15 => ("KeySievesModel", "changes", "I", false)
  | 16 => ("KeySievesModel", "lost", "I", false)
  | 17 => ("KeySievesModel", "bestCode", "I", false)
  | 18 => ("KeySievesModel", "bestMuch", "I", false)
  | 19 => ("KeySievesModel", "saySum", "J", false)
  | 20 => ("KeySievesModel", "strokeSum", "J", false)
  | 21 => ("KeySievesModel", "allWays", "J", false)
  | 22 => ("KeySievesModel", "saidBy", "[I", true)
  | 23 => ("KeySievesModel", "sayBy", "[I", true)
  | 24 => ("KeySievesModel", "lanes", "[I", true)
  | 25 => ("KeySievesModel", "sizes", "[I", true)
  | 26 => ("KeySievesModel", "cells", "[I", true)
  | 27 => ("KeySievesModel", "torn", "I", false)
  | _ => ("KeySievesModel", "before", "[I", true)
def tyX5 : Nat → FieldType := fun k => match k with
  | 0 => .array .int
  | 1 => .array .int
  | 2 => .array .boolean
  | 3 => .array .int
  | 4 => .boolean
  | 5 => .int
  | 6 => .array .int
  | 7 => .int
  | 8 => .int
  | 9 => .int
  | 10 => .int
  | 11 => .int
  | 12 => .int
  | 13 => .int
  | 14 => .array .int
  | 15 => .int
  | 16 => .int
  | 17 => .int
  | 18 => .int
  | 19 => .long
  | 20 => .long
  | 21 => .long
  | 22 => .array .int
  | 23 => .array .int
  | 24 => .array .int
  | 25 => .array .int
  | 26 => .array .int
  | 27 => .int
  | _ => .array .int
theorem nmX5 : ∀ a, a < 29 → ∀ b, b < 29 → a ≠ b → (TX5 a).2.1 ≠ (TX5 b).2.1 := by decide +kernel
theorem tyX5_ok : ∀ k, k < 29 → parseFieldDescriptor (TX5 k).2.2.1 = some (tyX5 k) := by decide +kernel
abbrev cX5_init : ByteArray := prog_7_method_1_code
def yX5_init : MethodName := ⟨RX5, "<init>", "()V"⟩
abbrev cX5_in : ByteArray := prog_7_method_3_code
def yX5_in : MethodName := ⟨RX5, "in", "(JJJ)Z"⟩
abbrev cX5_flag : ByteArray := prog_7_method_4_code
def yX5_flag : MethodName := ⟨RX5, "flag", "(Z)I"⟩
abbrev cX5_within : ByteArray := prog_7_method_5_code
def yX5_within : MethodName := ⟨RX5, "within", "(II)I"⟩
abbrev cX5_firstDraft : ByteArray := prog_7_method_6_code
def yX5_firstDraft : MethodName := ⟨RX5, "firstDraft", "()V"⟩
abbrev cX5_keepDraft : ByteArray := prog_7_method_7_code
def yX5_keepDraft : MethodName := ⟨RX5, "keepDraft", "()V"⟩
abbrev cX5_feed : ByteArray := prog_7_method_8_code
def yX5_feed : MethodName := ⟨RX5, "feed", "(I)I"⟩
abbrev cX5_end : ByteArray := prog_7_method_9_code
def yX5_end : MethodName := ⟨RX5, "end", "(I)I"⟩
abbrev cX5_requires : ByteArray := prog_7_method_10_code
def yX5_requires : MethodName := ⟨RX5, "requires", "(ZI)V"⟩
abbrev cX5_byteAt : ByteArray := prog_7_method_11_code
def yX5_byteAt : MethodName := ⟨RX5, "byteAt", "(I)I"⟩
abbrev cX5_is : ByteArray := prog_7_method_12_code
def yX5_is : MethodName := ⟨RX5, "is", "(IIII)Z"⟩
abbrev cX5_endsIn : ByteArray := prog_7_method_13_code
def yX5_endsIn : MethodName := ⟨RX5, "endsIn", "(II)Z"⟩
abbrev cX5_lineNow : ByteArray := prog_7_method_14_code
def yX5_lineNow : MethodName := ⟨RX5, "lineNow", "()I"⟩
abbrev cX5_reads : ByteArray := prog_7_method_15_code
def yX5_reads : MethodName := ⟨RX5, "reads", "()V"⟩
abbrev cX5_readNumber : ByteArray := prog_7_method_16_code
def yX5_readNumber : MethodName := ⟨RX5, "readNumber", "(II)I"⟩
abbrev cX5_readPress : ByteArray := prog_7_method_17_code
def yX5_readPress : MethodName := ⟨RX5, "readPress", "()V"⟩
abbrev cX5_readLineOf : ByteArray := prog_7_method_18_code
def yX5_readLineOf : MethodName := ⟨RX5, "readLineOf", "(I)V"⟩
abbrev cX5_readLine : ByteArray := prog_7_method_19_code
def yX5_readLine : MethodName := ⟨RX5, "readLine", "()V"⟩
abbrev cX5_text : ByteArray := prog_7_method_20_code
def yX5_text : MethodName := ⟨RX5, "text", "()I"⟩
abbrev cX5_fault : ByteArray := prog_7_method_21_code
def yX5_fault : MethodName := ⟨RX5, "fault", "()I"⟩
abbrev cX5_isKey : ByteArray := prog_7_method_22_code
def yX5_isKey : MethodName := ⟨RX5, "isKey", "(I)Z"⟩
abbrev cX5_isPart : ByteArray := prog_7_method_23_code
def yX5_isPart : MethodName := ⟨RX5, "isPart", "(I)Z"⟩
abbrev cX5_starts : ByteArray := prog_7_method_24_code
def yX5_starts : MethodName := ⟨RX5, "starts", "()V"⟩
abbrev cX5_settles : ByteArray := prog_7_method_25_code
def yX5_settles : MethodName := ⟨RX5, "settles", "()V"⟩
abbrev cX5_of : ByteArray := prog_7_method_26_code
def yX5_of : MethodName := ⟨RX5, "of", "(II)I"⟩
abbrev cX5_becomesOf : ByteArray := prog_7_method_27_code
def yX5_becomesOf : MethodName := ⟨RX5, "becomesOf", "(III)V"⟩
abbrev cX5_ofPress : ByteArray := prog_7_method_28_code
def yX5_ofPress : MethodName := ⟨RX5, "ofPress", "(II)I"⟩
abbrev cX5_latestPress : ByteArray := prog_7_method_29_code
def yX5_latestPress : MethodName := ⟨RX5, "latestPress", "(II)I"⟩
abbrev cX5_contactOf : ByteArray := prog_7_method_30_code
def yX5_contactOf : MethodName := ⟨RX5, "contactOf", "(II)I"⟩
abbrev cX5_wants : ByteArray := prog_7_method_31_code
def yX5_wants : MethodName := ⟨RX5, "wants", "(I)I"⟩
abbrev cX5_shuts : ByteArray := prog_7_method_32_code
def yX5_shuts : MethodName := ⟨RX5, "shuts", "(I)I"⟩
abbrev cX5_comesToSay : ByteArray := prog_7_method_33_code
def yX5_comesToSay : MethodName := ⟨RX5, "comesToSay", "(II)V"⟩
abbrev cX5_weighs : ByteArray := prog_7_method_34_code
def yX5_weighs : MethodName := ⟨RX5, "weighs", "(II)V"⟩
abbrev cX5_countsUp : ByteArray := prog_7_method_35_code
def yX5_countsUp : MethodName := ⟨RX5, "countsUp", "(II)V"⟩
abbrev cX5_looks : ByteArray := prog_7_method_36_code
def yX5_looks : MethodName := ⟨RX5, "looks", "(II)V"⟩
abbrev cX5_contactsNow : ByteArray := prog_7_method_37_code
def yX5_contactsNow : MethodName := ⟨RX5, "contactsNow", "()I"⟩
abbrev cX5_says : ByteArray := prog_7_method_38_code
def yX5_says : MethodName := ⟨RX5, "says", "()I"⟩
abbrev cX5_tickGoesBy : ByteArray := prog_7_method_39_code
def yX5_tickGoesBy : MethodName := ⟨RX5, "tickGoesBy", "(I)V"⟩
abbrev cX5_ticksGo : ByteArray := prog_7_method_40_code
def yX5_ticksGo : MethodName := ⟨RX5, "ticksGo", "(I)V"⟩
abbrev cX5_struckByAll : ByteArray := prog_7_method_41_code
def yX5_struckByAll : MethodName := ⟨RX5, "struckByAll", "()I"⟩
abbrev cX5_cutsSum : ByteArray := prog_7_method_42_code
def yX5_cutsSum : MethodName := ⟨RX5, "cutsSum", "(I)V"⟩
abbrev cX5_sumOf : ByteArray := prog_7_method_43_code
def yX5_sumOf : MethodName := ⟨RX5, "sumOf", "(I)I"⟩
abbrev cX5_rule : ByteArray := prog_7_method_44_code
def yX5_rule : MethodName := ⟨RX5, "rule", "(I)I"⟩
abbrev cX5_key : ByteArray := prog_7_method_45_code
def yX5_key : MethodName := ⟨RX5, "key", "(II)I"⟩
abbrev cX5_press : ByteArray := prog_7_method_46_code
def yX5_press : MethodName := ⟨RX5, "press", "(II)I"⟩
abbrev cX5_contact : ByteArray := prog_7_method_47_code
def yX5_contact : MethodName := ⟨RX5, "contact", "(II)I"⟩
abbrev cX5_becomes : ByteArray := prog_7_method_48_code
def yX5_becomes : MethodName := ⟨RX5, "becomes", "(II)I"⟩
abbrev cX5_lowOf : ByteArray := prog_7_method_49_code
def yX5_lowOf : MethodName := ⟨RX5, "lowOf", "(I)I"⟩
abbrev cX5_mostOf : ByteArray := prog_7_method_50_code
def yX5_mostOf : MethodName := ⟨RX5, "mostOf", "(I)I"⟩
abbrev cX5_alter : ByteArray := prog_7_method_51_code
def yX5_alter : MethodName := ⟨RX5, "alter", "(III)I"⟩
abbrev cX5_every : ByteArray := prog_7_method_52_code
def yX5_every : MethodName := ⟨RX5, "every", "(I)I"⟩
abbrev cX5_strike : ByteArray := prog_7_method_53_code
def yX5_strike : MethodName := ⟨RX5, "strike", "(III)I"⟩
abbrev cX5_drop : ByteArray := prog_7_method_54_code
def yX5_drop : MethodName := ⟨RX5, "drop", "(I)I"⟩
abbrev cX5_ticks : ByteArray := prog_7_method_55_code
def yX5_ticks : MethodName := ⟨RX5, "ticks", "(I)I"⟩
abbrev cX5_isFar : ByteArray := prog_7_method_56_code
def yX5_isFar : MethodName := ⟨RX5, "isFar", "(I)Z"⟩
abbrev cX5_runs : ByteArray := prog_7_method_57_code
def yX5_runs : MethodName := ⟨RX5, "runs", "(II)I"⟩
abbrev cX5_ahead : ByteArray := prog_7_method_58_code
def yX5_ahead : MethodName := ⟨RX5, "ahead", "(III)I"⟩
abbrev cX5_when : ByteArray := prog_7_method_59_code
def yX5_when : MethodName := ⟨RX5, "when", "(II)I"⟩
abbrev cX5_dueIn : ByteArray := prog_7_method_60_code
def yX5_dueIn : MethodName := ⟨RX5, "dueIn", "(I)I"⟩
abbrev cX5_due : ByteArray := prog_7_method_61_code
def yX5_due : MethodName := ⟨RX5, "due", "(I)I"⟩
abbrev cX5_startsJudging : ByteArray := prog_7_method_62_code
def yX5_startsJudging : MethodName := ⟨RX5, "startsJudging", "(I)V"⟩
abbrev cX5_judges : ByteArray := prog_7_method_63_code
def yX5_judges : MethodName := ⟨RX5, "judges", "(II)V"⟩
abbrev cX5_startsWith : ByteArray := prog_7_method_64_code
def yX5_startsWith : MethodName := ⟨RX5, "startsWith", "(III)V"⟩
abbrev cX5_strikesJust : ByteArray := prog_7_method_65_code
def yX5_strikesJust : MethodName := ⟨RX5, "strikesJust", "(IIIII)Z"⟩
abbrev cX5_need : ByteArray := prog_7_method_66_code
def yX5_need : MethodName := ⟨RX5, "need", "(III)I"⟩
abbrev cX5_bear : ByteArray := prog_7_method_67_code
def yX5_bear : MethodName := ⟨RX5, "bear", "(III)I"⟩
abbrev cX5_offIn : ByteArray := prog_7_method_68_code
def yX5_offIn : MethodName := ⟨RX5, "offIn", "(I)I"⟩
abbrev cX5_kind : ByteArray := prog_7_method_69_code
def yX5_kind : MethodName := ⟨RX5, "kind", "(III)I"⟩
abbrev cX5_slow : ByteArray := prog_7_method_70_code
def yX5_slow : MethodName := ⟨RX5, "slow", "(II)I"⟩
abbrev cX5_lose : ByteArray := prog_7_method_71_code
def yX5_lose : MethodName := ⟨RX5, "lose", "(II)I"⟩
abbrev cX5_common : ByteArray := prog_7_method_72_code
def yX5_common : MethodName := ⟨RX5, "common", "(JJ)J"⟩
abbrev cX5_lowest : ByteArray := prog_7_method_73_code
def yX5_lowest : MethodName := ⟨RX5, "lowest", "(JJI)J"⟩
abbrev cX5_findOdds : ByteArray := prog_7_method_74_code
def yX5_findOdds : MethodName := ⟨RX5, "findOdds", "(III)V"⟩
abbrev cX5_luck : ByteArray := prog_7_method_75_code
def yX5_luck : MethodName := ⟨RX5, "luck", "(IIII)J"⟩
abbrev cX5_mean : ByteArray := prog_7_method_76_code
def yX5_mean : MethodName := ⟨RX5, "mean", "(III)J"⟩
abbrev cX5_see : ByteArray := prog_7_method_77_code
def yX5_see : MethodName := ⟨RX5, "see", "(III)I"⟩
abbrev cX5_forget : ByteArray := prog_7_method_78_code
def yX5_forget : MethodName := ⟨RX5, "forget", "(I)I"⟩
abbrev cX5_isSoWith : ByteArray := prog_7_method_79_code
def yX5_isSoWith : MethodName := ⟨RX5, "isSoWith", "(III)Z"⟩
abbrev cX5_which : ByteArray := prog_7_method_80_code
def yX5_which : MethodName := ⟨RX5, "which", "(II)I"⟩
abbrev cX5_kinds : ByteArray := prog_7_method_81_code
def yX5_kinds : MethodName := ⟨RX5, "kinds", "(I)I"⟩
abbrev cX5_numbers : ByteArray := prog_7_method_82_code
def yX5_numbers : MethodName := ⟨RX5, "numbers", "(I)I"⟩
abbrev cX5_bounces : ByteArray := prog_7_method_83_code
def yX5_bounces : MethodName := ⟨RX5, "bounces", "(I)I"⟩
abbrev cX5_ask : ByteArray := prog_7_method_84_code
def yX5_ask : MethodName := ⟨RX5, "ask", "(II)I"⟩
abbrev cX5_drift : ByteArray := prog_7_method_85_code
def yX5_drift : MethodName := ⟨RX5, "drift", "(III)I"⟩
abbrev cX5_copies : ByteArray := prog_7_method_86_code
def yX5_copies : MethodName := ⟨RX5, "copies", "(II)V"⟩
abbrev cX5_keep : ByteArray := prog_7_method_87_code
def yX5_keep : MethodName := ⟨RX5, "keep", "(I)I"⟩
abbrev cX5_back : ByteArray := prog_7_method_88_code
def yX5_back : MethodName := ⟨RX5, "back", "(I)I"⟩
abbrev cX5_isSheet : ByteArray := prog_7_method_89_code
def yX5_isSheet : MethodName := ⟨RX5, "isSheet", "(II)Z"⟩
abbrev cX5_sheet : ByteArray := prog_7_method_90_code
def yX5_sheet : MethodName := ⟨RX5, "sheet", "(III)I"⟩
abbrev cX5_lay : ByteArray := prog_7_method_91_code
def yX5_lay : MethodName := ⟨RX5, "lay", "(III)I"⟩
abbrev cX5_read : ByteArray := prog_7_method_92_code
def yX5_read : MethodName := ⟨RX5, "read", "(IIII)I"⟩
abbrev cX5_torn : ByteArray := prog_7_method_93_code
def yX5_torn : MethodName := ⟨RX5, "torn", "()I"⟩
abbrev cX5_count : ByteArray := prog_7_method_94_code
def yX5_count : MethodName := ⟨RX5, "count", "(I)I"⟩
def RJ6 : String := "java/lang/Integer"
def TJ6 : u_T := fun k => match k with
  | _ => ("", "", "", false)
def tyJ6 : Nat → FieldType := fun k => match k with
  | _ => .int
theorem nmJ6 : ∀ a, a < 0 → ∀ b, b < 0 → a ≠ b → (TJ6 a).2.1 ≠ (TJ6 b).2.1 := by decide +kernel
theorem tyJ6_ok : ∀ k, k < 0 → parseFieldDescriptor (TJ6 k).2.2.1 = some (tyJ6 k) := by decide +kernel
abbrev cJ6_bitCount_0f7a4 : ByteArray := prog_8_method_49_code
def yJ6_bitCount_0f7a4 : MethodName := ⟨RJ6, "bitCount", "(I)I"⟩
def RJ9 : String := "java/lang/Math"
def TJ9 : u_T := fun k => match k with
  | _ => ("", "", "", false)
def tyJ9 : Nat → FieldType := fun k => match k with
  | _ => .int
theorem nmJ9 : ∀ a, a < 0 → ∀ b, b < 0 → a ≠ b → (TJ9 a).2.1 ≠ (TJ9 b).2.1 := by decide +kernel
theorem tyJ9_ok : ∀ k, k < 0 → parseFieldDescriptor (TJ9 k).2.2.1 = some (tyJ9 k) := by decide +kernel
abbrev cJ9_abs_0f7a4 : ByteArray := prog_9_method_59_code
def yJ9_abs_0f7a4 : MethodName := ⟨RJ9, "abs", "(I)I"⟩
abbrev cJ9_max_7cf53 : ByteArray := prog_9_method_65_code
def yJ9_max_7cf53 : MethodName := ⟨RJ9, "max", "(II)I"⟩
abbrev cJ9_min_7cf53 : ByteArray := prog_9_method_69_code
def yJ9_min_7cf53 : MethodName := ⟨RJ9, "min", "(II)I"⟩
def RJ0 : String := "java/lang/String"
def TJ0 : u_T := fun k => match k with
  | _ => ("", "", "", false)
def tyJ0 : Nat → FieldType := fun k => match k with
  | _ => .int
theorem nmJ0 : ∀ a, a < 0 → ∀ b, b < 0 → a ≠ b → (TJ0 a).2.1 ≠ (TJ0 b).2.1 := by decide +kernel
theorem tyJ0_ok : ∀ k, k < 0 → parseFieldDescriptor (TJ0 k).2.2.1 = some (tyJ0 k) := by decide +kernel
abbrev cJ0_length_8abf5 : ByteArray := prog_10_method_54_code
def yJ0_length_8abf5 : MethodName := ⟨RJ0, "length", "()I"⟩
abbrev cJ0_charAt_5068e : ByteArray := prog_10_method_56_code
def yJ0_charAt_5068e : MethodName := ⟨RJ0, "charAt", "(I)C"⟩
abbrev cJ0_coder_7d493 : ByteArray := prog_10_method_152_code
def yJ0_coder_7d493 : MethodName := ⟨RJ0, "coder", "()B"⟩
abbrev cJ0_isLatin1_aae02 : ByteArray := prog_10_method_154_code
def yJ0_isLatin1_aae02 : MethodName := ⟨RJ0, "isLatin1", "()Z"⟩
abbrev cJ0_checkIndex_df160 : ByteArray := prog_10_method_155_code
def yJ0_checkIndex_df160 : MethodName := ⟨RJ0, "checkIndex", "(II)V"⟩
def RJ1 : String := "java/lang/StringLatin1"
def TJ1 : u_T := fun k => match k with
  | _ => ("", "", "", false)
def tyJ1 : Nat → FieldType := fun k => match k with
  | _ => .int
theorem nmJ1 : ∀ a, a < 0 → ∀ b, b < 0 → a ≠ b → (TJ1 a).2.1 ≠ (TJ1 b).2.1 := by decide +kernel
theorem tyJ1_ok : ∀ k, k < 0 → parseFieldDescriptor (TJ1 k).2.2.1 = some (tyJ1 k) := by decide +kernel
abbrev cJ1_charAt_3b067 : ByteArray := prog_11_method_2_code
def yJ1_charAt_3b067 : MethodName := ⟨RJ1, "charAt", "([BI)C"⟩
def RJ2 : String := "java/lang/StringUTF16"
def TJ2 : u_T := fun k => match k with
  | _ => ("", "", "", false)
def tyJ2 : Nat → FieldType := fun k => match k with
  | _ => .int
theorem nmJ2 : ∀ a, a < 0 → ∀ b, b < 0 → a ≠ b → (TJ2 a).2.1 ≠ (TJ2 b).2.1 := by decide +kernel
theorem tyJ2_ok : ∀ k, k < 0 → parseFieldDescriptor (TJ2 k).2.2.1 = some (tyJ2 k) := by decide +kernel
abbrev cJ2_getChar_3b067 : ByteArray := prog_12_method_5_code
def yJ2_getChar_3b067 : MethodName := ⟨RJ2, "getChar", "([BI)C"⟩
abbrev cJ2_length_9d52b : ByteArray := prog_12_method_6_code
def yJ2_length_9d52b : MethodName := ⟨RJ2, "length", "([B)I"⟩
abbrev cJ2_charAt_3b067 : ByteArray := prog_12_method_83_code
def yJ2_charAt_3b067 : MethodName := ⟨RJ2, "charAt", "([BI)C"⟩
abbrev cJ2_checkIndex_2214a : ByteArray := prog_12_method_91_code
def yJ2_checkIndex_2214a : MethodName := ⟨RJ2, "checkIndex", "(I[B)V"⟩
def RJ3 : String := "jdk/internal/util/Preconditions"
def TJ3 : u_T := fun k => match k with
  | _ => ("", "", "", false)
def tyJ3 : Nat → FieldType := fun k => match k with
  | _ => .int
theorem nmJ3 : ∀ a, a < 0 → ∀ b, b < 0 → a ≠ b → (TJ3 a).2.1 ≠ (TJ3 b).2.1 := by decide +kernel
theorem tyJ3_ok : ∀ k, k < 0 → parseFieldDescriptor (TJ3 k).2.2.1 = some (tyJ3 k) := by decide +kernel
abbrev cJ3_checkIndex_8e157 : ByteArray := prog_13_method_11_code
def yJ3_checkIndex_8e157 : MethodName := ⟨RJ3, "checkIndex", "(IILjava/util/function/BiFunction;)I"⟩
def RL : String := "KeySievesLaw"
abbrev am_cl : List vw_C := [(RX0, TX0, 12), (RX1, TX1, 9), (RX2, TX2, 3), (RX3, TX3, 10), (RX4, TX4, 12), (RX5, TX5, 29)]
def am_T : List Cond := lw_tbl.filter goodWord
theorem am_in {w : Cond} (i : Nat) (h : lw_tbl[i]? = some w) (g : goodWord w = true) : w ∈ am_T := List.mem_filter.mpr ⟨List.mem_of_getElem? h, g⟩
abbrev am_M : Type := MethodName × ByteArray × Nat × Option FieldType
/-- what the tables say of a method that is called virtually, and of its code -/
def am_okC (M : am_M) : Prop := Cond.code M.1 M.2.1 M.2.2.1 M.2.2.2 ∈ am_T ∧ Cond.initialized M.1.cls ∈ am_T ∧ M.1.cls ≠ "java/lang/invoke/MethodHandle" ∧ M.1.cls ≠ "java/lang/invoke/VarHandle" ∧ plainName M.1.cls = true ∧ M.2.2.1 ≤ 21
def am_okV (M : am_M) : Prop := am_okC M ∧ Cond.instanceMethod M.1 ∈ am_T ∧ Cond.selects M.1.cls M.1 M.1 ∈ am_T
def am_okI (M : am_M) : Prop := am_okC M ∧ Cond.instanceMethod M.1 ∈ am_T ∧ M.1.name = "<init>"
def am_okS (M : am_M) : Prop := am_okC M ∧ Cond.static M.1 ∈ am_T
def MX0_addKey : am_M := (yX0_addKey, cX0_addKey, 4, none)
theorem oX0_addKey : am_okV MX0_addKey := ⟨⟨(am_in 432 (by decide +kernel) (by decide +kernel)), (am_in 74 (by decide +kernel) (by decide +kernel)), by decide +kernel, by decide +kernel, by decide +kernel, by decide⟩, (am_in 430 (by decide +kernel) (by decide +kernel)), (am_in 431 (by decide +kernel) (by decide +kernel))⟩
def MX0_addPress : am_M := (yX0_addPress, cX0_addPress, 4, none)
theorem oX0_addPress : am_okV MX0_addPress := ⟨⟨(am_in 424 (by decide +kernel) (by decide +kernel)), (am_in 74 (by decide +kernel) (by decide +kernel)), by decide +kernel, by decide +kernel, by decide +kernel, by decide⟩, (am_in 422 (by decide +kernel) (by decide +kernel)), (am_in 423 (by decide +kernel) (by decide +kernel))⟩
def MX0_addSeen : am_M := (yX0_addSeen, cX0_addSeen, 4, none)
theorem oX0_addSeen : am_okV MX0_addSeen := ⟨⟨(am_in 708 (by decide +kernel) (by decide +kernel)), (am_in 74 (by decide +kernel) (by decide +kernel)), by decide +kernel, by decide +kernel, by decide +kernel, by decide⟩, (am_in 706 (by decide +kernel) (by decide +kernel)), (am_in 707 (by decide +kernel) (by decide +kernel))⟩
def MX0_advance : am_M := (yX0_advance, cX0_advance, 3, none)
theorem oX0_advance : am_okV MX0_advance := ⟨⟨(am_in 554 (by decide +kernel) (by decide +kernel)), (am_in 74 (by decide +kernel) (by decide +kernel)), by decide +kernel, by decide +kernel, by decide +kernel, by decide⟩, (am_in 552 (by decide +kernel) (by decide +kernel)), (am_in 553 (by decide +kernel) (by decide +kernel))⟩
def MX0_advanceCountingWrong : am_M := (yX0_advanceCountingWrong, cX0_advanceCountingWrong, 5, (some .int))
theorem oX0_advanceCountingWrong : am_okV MX0_advanceCountingWrong := ⟨⟨(am_in 597 (by decide +kernel) (by decide +kernel)), (am_in 74 (by decide +kernel) (by decide +kernel)), by decide +kernel, by decide +kernel, by decide +kernel, by decide⟩, (am_in 595 (by decide +kernel) (by decide +kernel)), (am_in 596 (by decide +kernel) (by decide +kernel))⟩
def MX0_changedInRun : am_M := (yX0_changedInRun, cX0_changedInRun, 3, (some .int))
theorem oX0_changedInRun : am_okV MX0_changedInRun := ⟨⟨(am_in 602 (by decide +kernel) (by decide +kernel)), (am_in 74 (by decide +kernel) (by decide +kernel)), by decide +kernel, by decide +kernel, by decide +kernel, by decide⟩, (am_in 600 (by decide +kernel) (by decide +kernel)), (am_in 601 (by decide +kernel) (by decide +kernel))⟩
def MX0_clear : am_M := (yX0_clear, cX0_clear, 1, none)
theorem oX0_clear : am_okV MX0_clear := ⟨⟨(am_in 313 (by decide +kernel) (by decide +kernel)), (am_in 74 (by decide +kernel) (by decide +kernel)), by decide +kernel, by decide +kernel, by decide +kernel, by decide⟩, (am_in 311 (by decide +kernel) (by decide +kernel)), (am_in 312 (by decide +kernel) (by decide +kernel))⟩
def MX0_contactAt : am_M := (yX0_contactAt, cX0_contactAt, 6, (some .int))
theorem oX0_contactAt : am_okV MX0_contactAt := ⟨⟨(am_in 485 (by decide +kernel) (by decide +kernel)), (am_in 74 (by decide +kernel) (by decide +kernel)), by decide +kernel, by decide +kernel, by decide +kernel, by decide⟩, (am_in 483 (by decide +kernel) (by decide +kernel)), (am_in 484 (by decide +kernel) (by decide +kernel))⟩
def MX0_contactBits : am_M := (yX0_contactBits, cX0_contactBits, 3, (some .int))
theorem oX0_contactBits : am_okV MX0_contactBits := ⟨⟨(am_in 481 (by decide +kernel) (by decide +kernel)), (am_in 74 (by decide +kernel) (by decide +kernel)), by decide +kernel, by decide +kernel, by decide +kernel, by decide⟩, (am_in 479 (by decide +kernel) (by decide +kernel)), (am_in 480 (by decide +kernel) (by decide +kernel))⟩
def MX0_copyFrom : am_M := (yX0_copyFrom, cX0_copyFrom, 3, none)
theorem oX0_copyFrom : am_okV MX0_copyFrom := ⟨⟨(am_in 457 (by decide +kernel) (by decide +kernel)), (am_in 74 (by decide +kernel) (by decide +kernel)), by decide +kernel, by decide +kernel, by decide +kernel, by decide⟩, (am_in 455 (by decide +kernel) (by decide +kernel)), (am_in 456 (by decide +kernel) (by decide +kernel))⟩
def MX0_copySievesFrom : am_M := (yX0_copySievesFrom, cX0_copySievesFrom, 3, none)
theorem oX0_copySievesFrom : am_okV MX0_copySievesFrom := ⟨⟨(am_in 461 (by decide +kernel) (by decide +kernel)), (am_in 74 (by decide +kernel) (by decide +kernel)), by decide +kernel, by decide +kernel, by decide +kernel, by decide⟩, (am_in 459 (by decide +kernel) (by decide +kernel)), (am_in 460 (by decide +kernel) (by decide +kernel))⟩
def MX0_dueIn : am_M := (yX0_dueIn, cX0_dueIn, 4, (some .int))
theorem oX0_dueIn : am_okV MX0_dueIn := ⟨⟨(am_in 618 (by decide +kernel) (by decide +kernel)), (am_in 74 (by decide +kernel) (by decide +kernel)), by decide +kernel, by decide +kernel, by decide +kernel, by decide⟩, (am_in 616 (by decide +kernel) (by decide +kernel)), (am_in 617 (by decide +kernel) (by decide +kernel))⟩
def MX0_hasKey : am_M := (yX0_hasKey, cX0_hasKey, 2, (some .boolean))
theorem oX0_hasKey : am_okV MX0_hasKey := ⟨⟨(am_in 452 (by decide +kernel) (by decide +kernel)), (am_in 74 (by decide +kernel) (by decide +kernel)), by decide +kernel, by decide +kernel, by decide +kernel, by decide⟩, (am_in 450 (by decide +kernel) (by decide +kernel)), (am_in 451 (by decide +kernel) (by decide +kernel))⟩
def MX0_hasPressOfNoKey : am_M := (yX0_hasPressOfNoKey, cX0_hasPressOfNoKey, 2, (some .boolean))
theorem oX0_hasPressOfNoKey : am_okV MX0_hasPressOfNoKey := ⟨⟨(am_in 448 (by decide +kernel) (by decide +kernel)), (am_in 74 (by decide +kernel) (by decide +kernel)), by decide +kernel, by decide +kernel, by decide +kernel, by decide⟩, (am_in 446 (by decide +kernel) (by decide +kernel)), (am_in 447 (by decide +kernel) (by decide +kernel))⟩
def MX0_init : am_M := (yX0_init, cX0_init, 2, none)
theorem oX0_init : am_okI MX0_init := ⟨⟨(am_in 97 (by decide +kernel) (by decide +kernel)), (am_in 74 (by decide +kernel) (by decide +kernel)), by decide +kernel, by decide +kernel, by decide +kernel, by decide⟩, (am_in 96 (by decide +kernel) (by decide +kernel)), rfl⟩
def MX0_isAsSeen : am_M := (yX0_isAsSeen, cX0_isAsSeen, 3, (some .boolean))
theorem oX0_isAsSeen : am_okV MX0_isAsSeen := ⟨⟨(am_in 724 (by decide +kernel) (by decide +kernel)), (am_in 74 (by decide +kernel) (by decide +kernel)), by decide +kernel, by decide +kernel, by decide +kernel, by decide⟩, (am_in 722 (by decide +kernel) (by decide +kernel)), (am_in 723 (by decide +kernel) (by decide +kernel))⟩
def MX0_lastSeenTicks : am_M := (yX0_lastSeenTicks, cX0_lastSeenTicks, 3, (some .int))
theorem oX0_lastSeenTicks : am_okV MX0_lastSeenTicks := ⟨⟨(am_in 728 (by decide +kernel) (by decide +kernel)), (am_in 74 (by decide +kernel) (by decide +kernel)), by decide +kernel, by decide +kernel, by decide +kernel, by decide⟩, (am_in 727 (by decide +kernel) (by decide +kernel)), (am_in 23 (by decide +kernel) (by decide +kernel))⟩
def MX0_latestPress : am_M := (yX0_latestPress, cX0_latestPress, 6, (some .int))
theorem oX0_latestPress : am_okV MX0_latestPress := ⟨⟨(am_in 489 (by decide +kernel) (by decide +kernel)), (am_in 74 (by decide +kernel) (by decide +kernel)), by decide +kernel, by decide +kernel, by decide +kernel, by decide⟩, (am_in 488 (by decide +kernel) (by decide +kernel)), (am_in 12 (by decide +kernel) (by decide +kernel))⟩
def MX0_removePress : am_M := (yX0_removePress, cX0_removePress, 3, none)
theorem oX0_removePress : am_okV MX0_removePress := ⟨⟨(am_in 660 (by decide +kernel) (by decide +kernel)), (am_in 74 (by decide +kernel) (by decide +kernel)), by decide +kernel, by decide +kernel, by decide +kernel, by decide⟩, (am_in 658 (by decide +kernel) (by decide +kernel)), (am_in 659 (by decide +kernel) (by decide +kernel))⟩
def MX0_saysAsSeenBehind : am_M := (yX0_saysAsSeenBehind, cX0_saysAsSeenBehind, 4, (some .boolean))
theorem oX0_saysAsSeenBehind : am_okV MX0_saysAsSeenBehind := ⟨⟨(am_in 733 (by decide +kernel) (by decide +kernel)), (am_in 74 (by decide +kernel) (by decide +kernel)), by decide +kernel, by decide +kernel, by decide +kernel, by decide⟩, (am_in 732 (by decide +kernel) (by decide +kernel)), (am_in 24 (by decide +kernel) (by decide +kernel))⟩
def MX0_saysBits : am_M := (yX0_saysBits, cX0_saysBits, 3, (some .int))
theorem oX0_saysBits : am_okV MX0_saysBits := ⟨⟨(am_in 477 (by decide +kernel) (by decide +kernel)), (am_in 74 (by decide +kernel) (by decide +kernel)), by decide +kernel, by decide +kernel, by decide +kernel, by decide⟩, (am_in 475 (by decide +kernel) (by decide +kernel)), (am_in 476 (by decide +kernel) (by decide +kernel))⟩
def MX0_startRun : am_M := (yX0_startRun, cX0_startRun, 2, none)
theorem oX0_startRun : am_okV MX0_startRun := ⟨⟨(am_in 549 (by decide +kernel) (by decide +kernel)), (am_in 74 (by decide +kernel) (by decide +kernel)), by decide +kernel, by decide +kernel, by decide +kernel, by decide⟩, (am_in 547 (by decide +kernel) (by decide +kernel)), (am_in 548 (by decide +kernel) (by decide +kernel))⟩
def MX0_strokesOfAll : am_M := (yX0_strokesOfAll, cX0_strokesOfAll, 3, (some .int))
theorem oX0_strokesOfAll : am_okV MX0_strokesOfAll := ⟨⟨(am_in 493 (by decide +kernel) (by decide +kernel)), (am_in 74 (by decide +kernel) (by decide +kernel)), by decide +kernel, by decide +kernel, by decide +kernel, by decide⟩, (am_in 491 (by decide +kernel) (by decide +kernel)), (am_in 492 (by decide +kernel) (by decide +kernel))⟩
def MX0_struckInRun : am_M := (yX0_struckInRun, cX0_struckInRun, 3, (some .int))
theorem oX0_struckInRun : am_okV MX0_struckInRun := ⟨⟨(am_in 582 (by decide +kernel) (by decide +kernel)), (am_in 74 (by decide +kernel) (by decide +kernel)), by decide +kernel, by decide +kernel, by decide +kernel, by decide⟩, (am_in 580 (by decide +kernel) (by decide +kernel)), (am_in 581 (by decide +kernel) (by decide +kernel))⟩
def MX0_sumOfPart : am_M := (yX0_sumOfPart, cX0_sumOfPart, 4, (some .int))
theorem oX0_sumOfPart : am_okV MX0_sumOfPart := ⟨⟨(am_in 830 (by decide +kernel) (by decide +kernel)), (am_in 74 (by decide +kernel) (by decide +kernel)), by decide +kernel, by decide +kernel, by decide +kernel, by decide⟩, (am_in 828 (by decide +kernel) (by decide +kernel)), (am_in 829 (by decide +kernel) (by decide +kernel))⟩
def MX0_tickWith : am_M := (yX0_tickWith, cX0_tickWith, 3, none)
theorem oX0_tickWith : am_okV MX0_tickWith := ⟨⟨(am_in 559 (by decide +kernel) (by decide +kernel)), (am_in 74 (by decide +kernel) (by decide +kernel)), by decide +kernel, by decide +kernel, by decide +kernel, by decide⟩, (am_in 557 (by decide +kernel) (by decide +kernel)), (am_in 558 (by decide +kernel) (by decide +kernel))⟩
def MX1_become : am_M := (yX1_become, cX1_become, 3, none)
theorem oX1_become : am_okV MX1_become := ⟨⟨(am_in 523 (by decide +kernel) (by decide +kernel)), (am_in 75 (by decide +kernel) (by decide +kernel)), by decide +kernel, by decide +kernel, by decide +kernel, by decide⟩, (am_in 521 (by decide +kernel) (by decide +kernel)), (am_in 522 (by decide +kernel) (by decide +kernel))⟩
def MX1_begin : am_M := (yX1_begin, cX1_begin, 4, none)
theorem oX1_begin : am_okV MX1_begin := ⟨⟨(am_in 436 (by decide +kernel) (by decide +kernel)), (am_in 75 (by decide +kernel) (by decide +kernel)), by decide +kernel, by decide +kernel, by decide +kernel, by decide⟩, (am_in 434 (by decide +kernel) (by decide +kernel)), (am_in 435 (by decide +kernel) (by decide +kernel))⟩
def MX1_compare : am_M := (yX1_compare, cX1_compare, 3, (some .int))
theorem oX1_compare : am_okV MX1_compare := ⟨⟨(am_in 574 (by decide +kernel) (by decide +kernel)), (am_in 75 (by decide +kernel) (by decide +kernel)), by decide +kernel, by decide +kernel, by decide +kernel, by decide⟩, (am_in 573 (by decide +kernel) (by decide +kernel)), (am_in 15 (by decide +kernel) (by decide +kernel))⟩
def MX1_copyFrom : am_M := (yX1_copyFrom, cX1_copyFrom, 2, none)
theorem oX1_copyFrom : am_okV MX1_copyFrom := ⟨⟨(am_in 465 (by decide +kernel) (by decide +kernel)), (am_in 75 (by decide +kernel) (by decide +kernel)), by decide +kernel, by decide +kernel, by decide +kernel, by decide⟩, (am_in 463 (by decide +kernel) (by decide +kernel)), (am_in 464 (by decide +kernel) (by decide +kernel))⟩
def MX1_init : am_M := (yX1_init, cX1_init, 1, none)
theorem oX1_init : am_okI MX1_init := ⟨⟨(am_in 104 (by decide +kernel) (by decide +kernel)), (am_in 75 (by decide +kernel) (by decide +kernel)), by decide +kernel, by decide +kernel, by decide +kernel, by decide⟩, (am_in 103 (by decide +kernel) (by decide +kernel)), rfl⟩
def MX1_look : am_M := (yX1_look, cX1_look, 2, none)
theorem oX1_look : am_okV MX1_look := ⟨⟨(am_in 563 (by decide +kernel) (by decide +kernel)), (am_in 75 (by decide +kernel) (by decide +kernel)), by decide +kernel, by decide +kernel, by decide +kernel, by decide⟩, (am_in 561 (by decide +kernel) (by decide +kernel)), (am_in 562 (by decide +kernel) (by decide +kernel))⟩
def MX1_mayBe : am_M := (yX1_mayBe, cX1_mayBe, 2, (some .boolean))
theorem oX1_mayBe : am_okS MX1_mayBe := ⟨⟨(am_in 518 (by decide +kernel) (by decide +kernel)), (am_in 75 (by decide +kernel) (by decide +kernel)), by decide +kernel, by decide +kernel, by decide +kernel, by decide⟩, (am_in 517 (by decide +kernel) (by decide +kernel))⟩
def MX1_part : am_M := (yX1_part, cX1_part, 2, (some .int))
theorem oX1_part : am_okV MX1_part := ⟨⟨(am_in 502 (by decide +kernel) (by decide +kernel)), (am_in 75 (by decide +kernel) (by decide +kernel)), by decide +kernel, by decide +kernel, by decide +kernel, by decide⟩, (am_in 500 (by decide +kernel) (by decide +kernel)), (am_in 501 (by decide +kernel) (by decide +kernel))⟩
def MX1_say : am_M := (yX1_say, cX1_say, 2, none)
theorem oX1_say : am_okV MX1_say := ⟨⟨(am_in 578 (by decide +kernel) (by decide +kernel)), (am_in 75 (by decide +kernel) (by decide +kernel)), by decide +kernel, by decide +kernel, by decide +kernel, by decide⟩, (am_in 577 (by decide +kernel) (by decide +kernel)), (am_in 16 (by decide +kernel) (by decide +kernel))⟩
def MX1_startRun : am_M := (yX1_startRun, cX1_startRun, 1, none)
theorem oX1_startRun : am_okV MX1_startRun := ⟨⟨(am_in 440 (by decide +kernel) (by decide +kernel)), (am_in 75 (by decide +kernel) (by decide +kernel)), by decide +kernel, by decide +kernel, by decide +kernel, by decide⟩, (am_in 438 (by decide +kernel) (by decide +kernel)), (am_in 439 (by decide +kernel) (by decide +kernel))⟩
def MX1_weigh : am_M := (yX1_weigh, cX1_weigh, 2, (some .int))
theorem oX1_weigh : am_okV MX1_weigh := ⟨⟨(am_in 567 (by decide +kernel) (by decide +kernel)), (am_in 75 (by decide +kernel) (by decide +kernel)), by decide +kernel, by decide +kernel, by decide +kernel, by decide⟩, (am_in 566 (by decide +kernel) (by decide +kernel)), (am_in 14 (by decide +kernel) (by decide +kernel))⟩
def MX2_faultAs : am_M := (yX2_faultAs, cX2_faultAs, 2, (some .int))
theorem oX2_faultAs : am_okV MX2_faultAs := ⟨⟨(am_in 813 (by decide +kernel) (by decide +kernel)), (am_in 76 (by decide +kernel) (by decide +kernel)), by decide +kernel, by decide +kernel, by decide +kernel, by decide⟩, (am_in 812 (by decide +kernel) (by decide +kernel)), (am_in 27 (by decide +kernel) (by decide +kernel))⟩
def MX2_faultAt : am_M := (yX2_faultAt, cX2_faultAt, 2, (some .int))
theorem oX2_faultAt : am_okV MX2_faultAt := ⟨⟨(am_in 792 (by decide +kernel) (by decide +kernel)), (am_in 76 (by decide +kernel) (by decide +kernel)), by decide +kernel, by decide +kernel, by decide +kernel, by decide⟩, (am_in 790 (by decide +kernel) (by decide +kernel)), (am_in 791 (by decide +kernel) (by decide +kernel))⟩
def MX2_faultOfThree : am_M := (yX2_faultOfThree, cX2_faultOfThree, 5, (some .int))
theorem oX2_faultOfThree : am_okV MX2_faultOfThree := ⟨⟨(am_in 809 (by decide +kernel) (by decide +kernel)), (am_in 76 (by decide +kernel) (by decide +kernel)), by decide +kernel, by decide +kernel, by decide +kernel, by decide⟩, (am_in 807 (by decide +kernel) (by decide +kernel)), (am_in 808 (by decide +kernel) (by decide +kernel))⟩
def MX2_get : am_M := (yX2_get, cX2_get, 2, (some .int))
theorem oX2_get : am_okV MX2_get := ⟨⟨(am_in 817 (by decide +kernel) (by decide +kernel)), (am_in 76 (by decide +kernel) (by decide +kernel)), by decide +kernel, by decide +kernel, by decide +kernel, by decide⟩, (am_in 815 (by decide +kernel) (by decide +kernel)), (am_in 816 (by decide +kernel) (by decide +kernel))⟩
def MX2_init : am_M := (yX2_init, cX2_init, 1, none)
theorem oX2_init : am_okI MX2_init := ⟨⟨(am_in 201 (by decide +kernel) (by decide +kernel)), (am_in 76 (by decide +kernel) (by decide +kernel)), by decide +kernel, by decide +kernel, by decide +kernel, by decide⟩, (am_in 200 (by decide +kernel) (by decide +kernel)), rfl⟩
def MX2_isLane : am_M := (yX2_isLane, cX2_isLane, 1, (some .boolean))
theorem oX2_isLane : am_okS MX2_isLane := ⟨⟨(am_in 778 (by decide +kernel) (by decide +kernel)), (am_in 76 (by decide +kernel) (by decide +kernel)), by decide +kernel, by decide +kernel, by decide +kernel, by decide⟩, (am_in 777 (by decide +kernel) (by decide +kernel))⟩
def MX2_isNothing : am_M := (yX2_isNothing, cX2_isNothing, 1, (some .boolean))
theorem oX2_isNothing : am_okV MX2_isNothing := ⟨⟨(am_in 796 (by decide +kernel) (by decide +kernel)), (am_in 76 (by decide +kernel) (by decide +kernel)), by decide +kernel, by decide +kernel, by decide +kernel, by decide⟩, (am_in 794 (by decide +kernel) (by decide +kernel)), (am_in 795 (by decide +kernel) (by decide +kernel))⟩
def MX2_put : am_M := (yX2_put, cX2_put, 3, none)
theorem oX2_put : am_okV MX2_put := ⟨⟨(am_in 800 (by decide +kernel) (by decide +kernel)), (am_in 76 (by decide +kernel) (by decide +kernel)), by decide +kernel, by decide +kernel, by decide +kernel, by decide⟩, (am_in 798 (by decide +kernel) (by decide +kernel)), (am_in 799 (by decide +kernel) (by decide +kernel))⟩
def MX2_renew : am_M := (yX2_renew, cX2_renew, 4, none)
theorem oX2_renew : am_okV MX2_renew := ⟨⟨(am_in 783 (by decide +kernel) (by decide +kernel)), (am_in 76 (by decide +kernel) (by decide +kernel)), by decide +kernel, by decide +kernel, by decide +kernel, by decide⟩, (am_in 781 (by decide +kernel) (by decide +kernel)), (am_in 782 (by decide +kernel) (by decide +kernel))⟩
def MX3_fail : am_M := (yX3_fail, cX3_fail, 3, none)
theorem oX3_fail : am_okV MX3_fail := ⟨⟨(am_in 338 (by decide +kernel) (by decide +kernel)), (am_in 77 (by decide +kernel) (by decide +kernel)), by decide +kernel, by decide +kernel, by decide +kernel, by decide⟩, (am_in 337 (by decide +kernel) (by decide +kernel)), (am_in 3 (by decide +kernel) (by decide +kernel))⟩
def MX3_init : am_M := (yX3_init, cX3_init, 3, none)
theorem oX3_init : am_okI MX3_init := ⟨⟨(am_in 219 (by decide +kernel) (by decide +kernel)), (am_in 77 (by decide +kernel) (by decide +kernel)), by decide +kernel, by decide +kernel, by decide +kernel, by decide⟩, (am_in 218 (by decide +kernel) (by decide +kernel)), rfl⟩
def MX3_isFigure : am_M := (yX3_isFigure, cX3_isFigure, 1, (some .boolean))
theorem oX3_isFigure : am_okS MX3_isFigure := ⟨⟨(am_in 330 (by decide +kernel) (by decide +kernel)), (am_in 77 (by decide +kernel) (by decide +kernel)), by decide +kernel, by decide +kernel, by decide +kernel, by decide⟩, (am_in 329 (by decide +kernel) (by decide +kernel))⟩
def MX3_isLetter : am_M := (yX3_isLetter, cX3_isLetter, 1, (some .boolean))
theorem oX3_isLetter : am_okS MX3_isLetter := ⟨⟨(am_in 323 (by decide +kernel) (by decide +kernel)), (am_in 77 (by decide +kernel) (by decide +kernel)), by decide +kernel, by decide +kernel, by decide +kernel, by decide⟩, (am_in 322 (by decide +kernel) (by decide +kernel))⟩
def MX3_lineName : am_M := (yX3_lineName, cX3_lineName, 1, (some (.object "java/lang/String")))
theorem oX3_lineName : am_okS MX3_lineName := ⟨⟨(am_in 349 (by decide +kernel) (by decide +kernel)), (am_in 77 (by decide +kernel) (by decide +kernel)), by decide +kernel, by decide +kernel, by decide +kernel, by decide⟩, (am_in 348 (by decide +kernel) (by decide +kernel))⟩
def MX3_lineNamed : am_M := (yX3_lineNamed, cX3_lineNamed, 2, (some .int))
theorem oX3_lineNamed : am_okV MX3_lineNamed := ⟨⟨(am_in 346 (by decide +kernel) (by decide +kernel)), (am_in 77 (by decide +kernel) (by decide +kernel)), by decide +kernel, by decide +kernel, by decide +kernel, by decide⟩, (am_in 345 (by decide +kernel) (by decide +kernel)), (am_in 5 (by decide +kernel) (by decide +kernel))⟩
def MX3_nameIs : am_M := (yX3_nameIs, cX3_nameIs, 3, (some .boolean))
theorem oX3_nameIs : am_okV MX3_nameIs := ⟨⟨(am_in 359 (by decide +kernel) (by decide +kernel)), (am_in 77 (by decide +kernel) (by decide +kernel)), by decide +kernel, by decide +kernel, by decide +kernel, by decide⟩, (am_in 358 (by decide +kernel) (by decide +kernel)), (am_in 6 (by decide +kernel) (by decide +kernel))⟩
def MX3_nextToken : am_M := (yX3_nextToken, cX3_nextToken, 1, none)
theorem oX3_nextToken : am_okV MX3_nextToken := ⟨⟨(am_in 320 (by decide +kernel) (by decide +kernel)), (am_in 77 (by decide +kernel) (by decide +kernel)), by decide +kernel, by decide +kernel, by decide +kernel, by decide⟩, (am_in 319 (by decide +kernel) (by decide +kernel)), (am_in 0 (by decide +kernel) (by decide +kernel))⟩
def MX3_readEvery : am_M := (yX3_readEvery, cX3_readEvery, 2, none)
theorem oX3_readEvery : am_okV MX3_readEvery := ⟨⟨(am_in 411 (by decide +kernel) (by decide +kernel)), (am_in 77 (by decide +kernel) (by decide +kernel)), by decide +kernel, by decide +kernel, by decide +kernel, by decide⟩, (am_in 410 (by decide +kernel) (by decide +kernel)), (am_in 7 (by decide +kernel) (by decide +kernel))⟩
def MX3_readKey : am_M := (yX3_readKey, cX3_readKey, 4, none)
theorem oX3_readKey : am_okV MX3_readKey := ⟨⟨(am_in 428 (by decide +kernel) (by decide +kernel)), (am_in 77 (by decide +kernel) (by decide +kernel)), by decide +kernel, by decide +kernel, by decide +kernel, by decide⟩, (am_in 427 (by decide +kernel) (by decide +kernel)), (am_in 10 (by decide +kernel) (by decide +kernel))⟩
def MX3_readLine : am_M := (yX3_readLine, cX3_readLine, 2, none)
theorem oX3_readLine : am_okV MX3_readLine := ⟨⟨(am_in 342 (by decide +kernel) (by decide +kernel)), (am_in 77 (by decide +kernel) (by decide +kernel)), by decide +kernel, by decide +kernel, by decide +kernel, by decide⟩, (am_in 341 (by decide +kernel) (by decide +kernel)), (am_in 4 (by decide +kernel) (by decide +kernel))⟩
def MX3_readLines : am_M := (yX3_readLines, cX3_readLines, 3, (some .int))
theorem oX3_readLines : am_okV MX3_readLines := ⟨⟨(am_in 309 (by decide +kernel) (by decide +kernel)), (am_in 77 (by decide +kernel) (by decide +kernel)), by decide +kernel, by decide +kernel, by decide +kernel, by decide⟩, (am_in 307 (by decide +kernel) (by decide +kernel)), (am_in 308 (by decide +kernel) (by decide +kernel))⟩
def MX3_readNumber : am_M := (yX3_readNumber, cX3_readNumber, 3, (some .int))
theorem oX3_readNumber : am_okV MX3_readNumber := ⟨⟨(am_in 415 (by decide +kernel) (by decide +kernel)), (am_in 77 (by decide +kernel) (by decide +kernel)), by decide +kernel, by decide +kernel, by decide +kernel, by decide⟩, (am_in 414 (by decide +kernel) (by decide +kernel)), (am_in 8 (by decide +kernel) (by decide +kernel))⟩
def MX3_readPress : am_M := (yX3_readPress, cX3_readPress, 4, none)
theorem oX3_readPress : am_okV MX3_readPress := ⟨⟨(am_in 420 (by decide +kernel) (by decide +kernel)), (am_in 77 (by decide +kernel) (by decide +kernel)), by decide +kernel, by decide +kernel, by decide +kernel, by decide⟩, (am_in 419 (by decide +kernel) (by decide +kernel)), (am_in 9 (by decide +kernel) (by decide +kernel))⟩
def MX3_readSemicolon : am_M := (yX3_readSemicolon, cX3_readSemicolon, 1, none)
theorem oX3_readSemicolon : am_okV MX3_readSemicolon := ⟨⟨(am_in 444 (by decide +kernel) (by decide +kernel)), (am_in 77 (by decide +kernel) (by decide +kernel)), by decide +kernel, by decide +kernel, by decide +kernel, by decide⟩, (am_in 443 (by decide +kernel) (by decide +kernel)), (am_in 11 (by decide +kernel) (by decide +kernel))⟩
def MX3_takeName : am_M := (yX3_takeName, cX3_takeName, 1, none)
theorem oX3_takeName : am_okV MX3_takeName := ⟨⟨(am_in 327 (by decide +kernel) (by decide +kernel)), (am_in 77 (by decide +kernel) (by decide +kernel)), by decide +kernel, by decide +kernel, by decide +kernel, by decide⟩, (am_in 326 (by decide +kernel) (by decide +kernel)), (am_in 1 (by decide +kernel) (by decide +kernel))⟩
def MX3_takeNumber : am_M := (yX3_takeNumber, cX3_takeNumber, 1, none)
theorem oX3_takeNumber : am_okV MX3_takeNumber := ⟨⟨(am_in 334 (by decide +kernel) (by decide +kernel)), (am_in 77 (by decide +kernel) (by decide +kernel)), by decide +kernel, by decide +kernel, by decide +kernel, by decide⟩, (am_in 333 (by decide +kernel) (by decide +kernel)), (am_in 2 (by decide +kernel) (by decide +kernel))⟩
def MX4_addSayings : am_M := (yX4_addSayings, cX4_addSayings, 4, none)
theorem oX4_addSayings : am_okV MX4_addSayings := ⟨⟨(am_in 754 (by decide +kernel) (by decide +kernel)), (am_in 73 (by decide +kernel) (by decide +kernel)), by decide +kernel, by decide +kernel, by decide +kernel, by decide⟩, (am_in 753 (by decide +kernel) (by decide +kernel)), (am_in 26 (by decide +kernel) (by decide +kernel))⟩
def MX4_ahead : am_M := (yX4_ahead, cX4_ahead, 5, (some .int))
theorem oX4_ahead : am_okV MX4_ahead := ⟨⟨(am_in 606 (by decide +kernel) (by decide +kernel)), (am_in 73 (by decide +kernel) (by decide +kernel)), by decide +kernel, by decide +kernel, by decide +kernel, by decide⟩, (am_in 604 (by decide +kernel) (by decide +kernel)), (am_in 605 (by decide +kernel) (by decide +kernel))⟩
def MX4_alter : am_M := (yX4_alter, cX4_alter, 5, (some .int))
theorem oX4_alter : am_okV MX4_alter := ⟨⟨(am_in 515 (by decide +kernel) (by decide +kernel)), (am_in 73 (by decide +kernel) (by decide +kernel)), by decide +kernel, by decide +kernel, by decide +kernel, by decide⟩, (am_in 513 (by decide +kernel) (by decide +kernel)), (am_in 514 (by decide +kernel) (by decide +kernel))⟩
def MX4_ask : am_M := (yX4_ask, cX4_ask, 9, (some .int))
theorem oX4_ask : am_okV MX4_ask := ⟨⟨(am_in 746 (by decide +kernel) (by decide +kernel)), (am_in 73 (by decide +kernel) (by decide +kernel)), by decide +kernel, by decide +kernel, by decide +kernel, by decide⟩, (am_in 744 (by decide +kernel) (by decide +kernel)), (am_in 745 (by decide +kernel) (by decide +kernel))⟩
def MX4_back : am_M := (yX4_back, cX4_back, 2, (some .int))
theorem oX4_back : am_okV MX4_back := ⟨⟨(am_in 768 (by decide +kernel) (by decide +kernel)), (am_in 73 (by decide +kernel) (by decide +kernel)), by decide +kernel, by decide +kernel, by decide +kernel, by decide⟩, (am_in 766 (by decide +kernel) (by decide +kernel)), (am_in 767 (by decide +kernel) (by decide +kernel))⟩
def MX4_bear : am_M := (yX4_bear, cX4_bear, 5, (some .int))
theorem oX4_bear : am_okV MX4_bear := ⟨⟨(am_in 634 (by decide +kernel) (by decide +kernel)), (am_in 73 (by decide +kernel) (by decide +kernel)), by decide +kernel, by decide +kernel, by decide +kernel, by decide⟩, (am_in 632 (by decide +kernel) (by decide +kernel)), (am_in 633 (by decide +kernel) (by decide +kernel))⟩
def MX4_bounces : am_M := (yX4_bounces, cX4_bounces, 2, (some .int))
theorem oX4_bounces : am_okV MX4_bounces := ⟨⟨(am_in 742 (by decide +kernel) (by decide +kernel)), (am_in 73 (by decide +kernel) (by decide +kernel)), by decide +kernel, by decide +kernel, by decide +kernel, by decide⟩, (am_in 740 (by decide +kernel) (by decide +kernel)), (am_in 741 (by decide +kernel) (by decide +kernel))⟩
def MX4_commonDivisor : am_M := (yX4_commonDivisor, cX4_commonDivisor, 11, (some .long))
theorem oX4_commonDivisor : am_okS MX4_commonDivisor := ⟨⟨(am_in 696 (by decide +kernel) (by decide +kernel)), (am_in 73 (by decide +kernel) (by decide +kernel)), by decide +kernel, by decide +kernel, by decide +kernel, by decide⟩, (am_in 695 (by decide +kernel) (by decide +kernel))⟩
def MX4_contact : am_M := (yX4_contact, cX4_contact, 3, (some .int))
theorem oX4_contact : am_okV MX4_contact := ⟨⟨(am_in 510 (by decide +kernel) (by decide +kernel)), (am_in 73 (by decide +kernel) (by decide +kernel)), by decide +kernel, by decide +kernel, by decide +kernel, by decide⟩, (am_in 508 (by decide +kernel) (by decide +kernel)), (am_in 509 (by decide +kernel) (by decide +kernel))⟩
def MX4_copyAltered : am_M := (yX4_copyAltered, cX4_copyAltered, 5, (some (.object "KeySieves$Board")))
theorem oX4_copyAltered : am_okV MX4_copyAltered := ⟨⟨(am_in 630 (by decide +kernel) (by decide +kernel)), (am_in 73 (by decide +kernel) (by decide +kernel)), by decide +kernel, by decide +kernel, by decide +kernel, by decide⟩, (am_in 629 (by decide +kernel) (by decide +kernel)), (am_in 19 (by decide +kernel) (by decide +kernel))⟩
def MX4_copyToTry : am_M := (yX4_copyToTry, cX4_copyToTry, 1, (some (.object "KeySieves$Board")))
theorem oX4_copyToTry : am_okV MX4_copyToTry := ⟨⟨(am_in 593 (by decide +kernel) (by decide +kernel)), (am_in 73 (by decide +kernel) (by decide +kernel)), by decide +kernel, by decide +kernel, by decide +kernel, by decide⟩, (am_in 592 (by decide +kernel) (by decide +kernel)), (am_in 17 (by decide +kernel) (by decide +kernel))⟩
def MX4_count : am_M := (yX4_count, cX4_count, 2, (some .int))
theorem oX4_count : am_okV MX4_count := ⟨⟨(am_in 825 (by decide +kernel) (by decide +kernel)), (am_in 73 (by decide +kernel) (by decide +kernel)), by decide +kernel, by decide +kernel, by decide +kernel, by decide⟩, (am_in 823 (by decide +kernel) (by decide +kernel)), (am_in 824 (by decide +kernel) (by decide +kernel))⟩
def MX4_countSayers : am_M := (yX4_countSayers, cX4_countSayers, 4, none)
theorem oX4_countSayers : am_okV MX4_countSayers := ⟨⟨(am_in 750 (by decide +kernel) (by decide +kernel)), (am_in 73 (by decide +kernel) (by decide +kernel)), by decide +kernel, by decide +kernel, by decide +kernel, by decide⟩, (am_in 749 (by decide +kernel) (by decide +kernel)), (am_in 25 (by decide +kernel) (by decide +kernel))⟩
def MX4_drift : am_M := (yX4_drift, cX4_drift, 7, (some .int))
theorem oX4_drift : am_okV MX4_drift := ⟨⟨(am_in 759 (by decide +kernel) (by decide +kernel)), (am_in 73 (by decide +kernel) (by decide +kernel)), by decide +kernel, by decide +kernel, by decide +kernel, by decide⟩, (am_in 757 (by decide +kernel) (by decide +kernel)), (am_in 758 (by decide +kernel) (by decide +kernel))⟩
def MX4_drop : am_M := (yX4_drop, cX4_drop, 3, (some .int))
theorem oX4_drop : am_okV MX4_drop := ⟨⟨(am_in 541 (by decide +kernel) (by decide +kernel)), (am_in 73 (by decide +kernel) (by decide +kernel)), by decide +kernel, by decide +kernel, by decide +kernel, by decide⟩, (am_in 539 (by decide +kernel) (by decide +kernel)), (am_in 540 (by decide +kernel) (by decide +kernel))⟩
def MX4_due : am_M := (yX4_due, cX4_due, 2, (some .int))
theorem oX4_due : am_okV MX4_due := ⟨⟨(am_in 614 (by decide +kernel) (by decide +kernel)), (am_in 73 (by decide +kernel) (by decide +kernel)), by decide +kernel, by decide +kernel, by decide +kernel, by decide⟩, (am_in 612 (by decide +kernel) (by decide +kernel)), (am_in 613 (by decide +kernel) (by decide +kernel))⟩
def MX4_end : am_M := (yX4_end, cX4_end, 3, (some .int))
theorem oX4_end : am_okV MX4_end := ⟨⟨(am_in 301 (by decide +kernel) (by decide +kernel)), (am_in 73 (by decide +kernel) (by decide +kernel)), by decide +kernel, by decide +kernel, by decide +kernel, by decide⟩, (am_in 299 (by decide +kernel) (by decide +kernel)), (am_in 300 (by decide +kernel) (by decide +kernel))⟩
def MX4_every : am_M := (yX4_every, cX4_every, 3, (some .int))
theorem oX4_every : am_okV MX4_every := ⟨⟨(am_in 528 (by decide +kernel) (by decide +kernel)), (am_in 73 (by decide +kernel) (by decide +kernel)), by decide +kernel, by decide +kernel, by decide +kernel, by decide⟩, (am_in 526 (by decide +kernel) (by decide +kernel)), (am_in 527 (by decide +kernel) (by decide +kernel))⟩
def MX4_fault : am_M := (yX4_fault, cX4_fault, 1, (some .int))
theorem oX4_fault : am_okV MX4_fault := ⟨⟨(am_in 469 (by decide +kernel) (by decide +kernel)), (am_in 73 (by decide +kernel) (by decide +kernel)), by decide +kernel, by decide +kernel, by decide +kernel, by decide⟩, (am_in 467 (by decide +kernel) (by decide +kernel)), (am_in 468 (by decide +kernel) (by decide +kernel))⟩
def MX4_feed : am_M := (yX4_feed, cX4_feed, 2, (some .int))
theorem oX4_feed : am_okV MX4_feed := ⟨⟨(am_in 294 (by decide +kernel) (by decide +kernel)), (am_in 73 (by decide +kernel) (by decide +kernel)), by decide +kernel, by decide +kernel, by decide +kernel, by decide⟩, (am_in 292 (by decide +kernel) (by decide +kernel)), (am_in 293 (by decide +kernel) (by decide +kernel))⟩
def MX4_fitting : am_M := (yX4_fitting, cX4_fitting, 5, (some .int))
theorem oX4_fitting : am_okV MX4_fitting := ⟨⟨(am_in 720 (by decide +kernel) (by decide +kernel)), (am_in 73 (by decide +kernel) (by decide +kernel)), by decide +kernel, by decide +kernel, by decide +kernel, by decide⟩, (am_in 719 (by decide +kernel) (by decide +kernel)), (am_in 22 (by decide +kernel) (by decide +kernel))⟩
def MX4_forget : am_M := (yX4_forget, cX4_forget, 3, (some .int))
theorem oX4_forget : am_okV MX4_forget := ⟨⟨(am_in 712 (by decide +kernel) (by decide +kernel)), (am_in 73 (by decide +kernel) (by decide +kernel)), by decide +kernel, by decide +kernel, by decide +kernel, by decide⟩, (am_in 710 (by decide +kernel) (by decide +kernel)), (am_in 711 (by decide +kernel) (by decide +kernel))⟩
def MX4_init : am_M := (yX4_init, cX4_init, 2, none)
theorem oX4_init : am_okI MX4_init := ⟨⟨(am_in 89 (by decide +kernel) (by decide +kernel)), (am_in 73 (by decide +kernel) (by decide +kernel)), by decide +kernel, by decide +kernel, by decide +kernel, by decide⟩, (am_in 88 (by decide +kernel) (by decide +kernel)), rfl⟩
def MX4_isNoise : am_M := (yX4_isNoise, cX4_isNoise, 2, (some .boolean))
theorem oX4_isNoise : am_okS MX4_isNoise := ⟨⟨(am_in 667 (by decide +kernel) (by decide +kernel)), (am_in 73 (by decide +kernel) (by decide +kernel)), by decide +kernel, by decide +kernel, by decide +kernel, by decide⟩, (am_in 666 (by decide +kernel) (by decide +kernel))⟩
def MX4_isRun : am_M := (yX4_isRun, cX4_isRun, 1, (some .boolean))
theorem oX4_isRun : am_okS MX4_isRun := ⟨⟨(am_in 589 (by decide +kernel) (by decide +kernel)), (am_in 73 (by decide +kernel) (by decide +kernel)), by decide +kernel, by decide +kernel, by decide +kernel, by decide⟩, (am_in 588 (by decide +kernel) (by decide +kernel))⟩
def MX4_isSheet : am_M := (yX4_isSheet, cX4_isSheet, 1, (some .boolean))
theorem oX4_isSheet : am_okS MX4_isSheet := ⟨⟨(am_in 775 (by decide +kernel) (by decide +kernel)), (am_in 73 (by decide +kernel) (by decide +kernel)), by decide +kernel, by decide +kernel, by decide +kernel, by decide⟩, (am_in 774 (by decide +kernel) (by decide +kernel))⟩
def MX4_keep : am_M := (yX4_keep, cX4_keep, 3, (some .int))
theorem oX4_keep : am_okV MX4_keep := ⟨⟨(am_in 764 (by decide +kernel) (by decide +kernel)), (am_in 73 (by decide +kernel) (by decide +kernel)), by decide +kernel, by decide +kernel, by decide +kernel, by decide⟩, (am_in 762 (by decide +kernel) (by decide +kernel)), (am_in 763 (by decide +kernel) (by decide +kernel))⟩
def MX4_key : am_M := (yX4_key, cX4_key, 4, (some .int))
theorem oX4_key : am_okV MX4_key := ⟨⟨(am_in 497 (by decide +kernel) (by decide +kernel)), (am_in 73 (by decide +kernel) (by decide +kernel)), by decide +kernel, by decide +kernel, by decide +kernel, by decide⟩, (am_in 495 (by decide +kernel) (by decide +kernel)), (am_in 496 (by decide +kernel) (by decide +kernel))⟩
def MX4_kind : am_M := (yX4_kind, cX4_kind, 8, (some .int))
theorem oX4_kind : am_okV MX4_kind := ⟨⟨(am_in 638 (by decide +kernel) (by decide +kernel)), (am_in 73 (by decide +kernel) (by decide +kernel)), by decide +kernel, by decide +kernel, by decide +kernel, by decide⟩, (am_in 636 (by decide +kernel) (by decide +kernel)), (am_in 637 (by decide +kernel) (by decide +kernel))⟩
def MX4_kinds : am_M := (yX4_kinds, cX4_kinds, 2, (some .int))
theorem oX4_kinds : am_okV MX4_kinds := ⟨⟨(am_in 716 (by decide +kernel) (by decide +kernel)), (am_in 73 (by decide +kernel) (by decide +kernel)), by decide +kernel, by decide +kernel, by decide +kernel, by decide⟩, (am_in 714 (by decide +kernel) (by decide +kernel)), (am_in 715 (by decide +kernel) (by decide +kernel))⟩
def MX4_lay : am_M := (yX4_lay, cX4_lay, 5, (some .int))
theorem oX4_lay : am_okV MX4_lay := ⟨⟨(am_in 788 (by decide +kernel) (by decide +kernel)), (am_in 73 (by decide +kernel) (by decide +kernel)), by decide +kernel, by decide +kernel, by decide +kernel, by decide⟩, (am_in 786 (by decide +kernel) (by decide +kernel)), (am_in 787 (by decide +kernel) (by decide +kernel))⟩
def MX4_listenQuietly : am_M := (yX4_listenQuietly, cX4_listenQuietly, 4, none)
theorem oX4_listenQuietly : am_okV MX4_listenQuietly := ⟨⟨(am_in 672 (by decide +kernel) (by decide +kernel)), (am_in 73 (by decide +kernel) (by decide +kernel)), by decide +kernel, by decide +kernel, by decide +kernel, by decide⟩, (am_in 671 (by decide +kernel) (by decide +kernel)), (am_in 20 (by decide +kernel) (by decide +kernel))⟩
def MX4_lose : am_M := (yX4_lose, cX4_lose, 8, (some .int))
theorem oX4_lose : am_okV MX4_lose := ⟨⟨(am_in 656 (by decide +kernel) (by decide +kernel)), (am_in 73 (by decide +kernel) (by decide +kernel)), by decide +kernel, by decide +kernel, by decide +kernel, by decide⟩, (am_in 654 (by decide +kernel) (by decide +kernel)), (am_in 655 (by decide +kernel) (by decide +kernel))⟩
def MX4_luck : am_M := (yX4_luck, cX4_luck, 10, (some .long))
theorem oX4_luck : am_okV MX4_luck := ⟨⟨(am_in 664 (by decide +kernel) (by decide +kernel)), (am_in 73 (by decide +kernel) (by decide +kernel)), by decide +kernel, by decide +kernel, by decide +kernel, by decide⟩, (am_in 662 (by decide +kernel) (by decide +kernel)), (am_in 663 (by decide +kernel) (by decide +kernel))⟩
def MX4_mean : am_M := (yX4_mean, cX4_mean, 9, (some .long))
theorem oX4_mean : am_okV MX4_mean := ⟨⟨(am_in 700 (by decide +kernel) (by decide +kernel)), (am_in 73 (by decide +kernel) (by decide +kernel)), by decide +kernel, by decide +kernel, by decide +kernel, by decide⟩, (am_in 698 (by decide +kernel) (by decide +kernel)), (am_in 699 (by decide +kernel) (by decide +kernel))⟩
def MX4_missOf : am_M := (yX4_missOf, cX4_missOf, 3, (some .int))
theorem oX4_missOf : am_okS MX4_missOf := ⟨⟨(am_in 642 (by decide +kernel) (by decide +kernel)), (am_in 73 (by decide +kernel) (by decide +kernel)), by decide +kernel, by decide +kernel, by decide +kernel, by decide⟩, (am_in 641 (by decide +kernel) (by decide +kernel))⟩
def MX4_need : am_M := (yX4_need, cX4_need, 5, (some .int))
theorem oX4_need : am_okV MX4_need := ⟨⟨(am_in 622 (by decide +kernel) (by decide +kernel)), (am_in 73 (by decide +kernel) (by decide +kernel)), by decide +kernel, by decide +kernel, by decide +kernel, by decide⟩, (am_in 620 (by decide +kernel) (by decide +kernel)), (am_in 621 (by decide +kernel) (by decide +kernel))⟩
def MX4_numbers : am_M := (yX4_numbers, cX4_numbers, 2, (some .int))
theorem oX4_numbers : am_okV MX4_numbers := ⟨⟨(am_in 738 (by decide +kernel) (by decide +kernel)), (am_in 73 (by decide +kernel) (by decide +kernel)), by decide +kernel, by decide +kernel, by decide +kernel, by decide⟩, (am_in 736 (by decide +kernel) (by decide +kernel)), (am_in 737 (by decide +kernel) (by decide +kernel))⟩
def MX4_partOfFraction : am_M := (yX4_partOfFraction, cX4_partOfFraction, 9, (some .long))
theorem oX4_partOfFraction : am_okS MX4_partOfFraction := ⟨⟨(am_in 693 (by decide +kernel) (by decide +kernel)), (am_in 73 (by decide +kernel) (by decide +kernel)), by decide +kernel, by decide +kernel, by decide +kernel, by decide⟩, (am_in 692 (by decide +kernel) (by decide +kernel))⟩
def MX4_power : am_M := (yX4_power, cX4_power, 5, (some .long))
theorem oX4_power : am_okS MX4_power := ⟨⟨(am_in 684 (by decide +kernel) (by decide +kernel)), (am_in 73 (by decide +kernel) (by decide +kernel)), by decide +kernel, by decide +kernel, by decide +kernel, by decide⟩, (am_in 683 (by decide +kernel) (by decide +kernel))⟩
def MX4_press : am_M := (yX4_press, cX4_press, 3, (some .int))
theorem oX4_press : am_okV MX4_press := ⟨⟨(am_in 506 (by decide +kernel) (by decide +kernel)), (am_in 73 (by decide +kernel) (by decide +kernel)), by decide +kernel, by decide +kernel, by decide +kernel, by decide⟩, (am_in 504 (by decide +kernel) (by decide +kernel)), (am_in 505 (by decide +kernel) (by decide +kernel))⟩
def MX4_putPress : am_M := (yX4_putPress, cX4_putPress, 4, (some .int))
theorem oX4_putPress : am_okV MX4_putPress := ⟨⟨(am_in 536 (by decide +kernel) (by decide +kernel)), (am_in 73 (by decide +kernel) (by decide +kernel)), by decide +kernel, by decide +kernel, by decide +kernel, by decide⟩, (am_in 535 (by decide +kernel) (by decide +kernel)), (am_in 13 (by decide +kernel) (by decide +kernel))⟩
def MX4_read : am_M := (yX4_read, cX4_read, 11, (some .int))
theorem oX4_read : am_okV MX4_read := ⟨⟨(am_in 805 (by decide +kernel) (by decide +kernel)), (am_in 73 (by decide +kernel) (by decide +kernel)), by decide +kernel, by decide +kernel, by decide +kernel, by decide⟩, (am_in 803 (by decide +kernel) (by decide +kernel)), (am_in 804 (by decide +kernel) (by decide +kernel))⟩
def MX4_rule : am_M := (yX4_rule, cX4_rule, 2, (some .int))
theorem oX4_rule : am_okV MX4_rule := ⟨⟨(am_in 473 (by decide +kernel) (by decide +kernel)), (am_in 73 (by decide +kernel) (by decide +kernel)), by decide +kernel, by decide +kernel, by decide +kernel, by decide⟩, (am_in 471 (by decide +kernel) (by decide +kernel)), (am_in 472 (by decide +kernel) (by decide +kernel))⟩
def MX4_runNoisily : am_M := (yX4_runNoisily, cX4_runNoisily, 5, (some (.object "KeySieves$Board")))
theorem oX4_runNoisily : am_okV MX4_runNoisily := ⟨⟨(am_in 688 (by decide +kernel) (by decide +kernel)), (am_in 73 (by decide +kernel) (by decide +kernel)), by decide +kernel, by decide +kernel, by decide +kernel, by decide⟩, (am_in 687 (by decide +kernel) (by decide +kernel)), (am_in 21 (by decide +kernel) (by decide +kernel))⟩
def MX4_runs : am_M := (yX4_runs, cX4_runs, 4, (some .int))
theorem oX4_runs : am_okV MX4_runs := ⟨⟨(am_in 586 (by decide +kernel) (by decide +kernel)), (am_in 73 (by decide +kernel) (by decide +kernel)), by decide +kernel, by decide +kernel, by decide +kernel, by decide⟩, (am_in 584 (by decide +kernel) (by decide +kernel)), (am_in 585 (by decide +kernel) (by decide +kernel))⟩
def MX4_see : am_M := (yX4_see, cX4_see, 4, (some .int))
theorem oX4_see : am_okV MX4_see := ⟨⟨(am_in 704 (by decide +kernel) (by decide +kernel)), (am_in 73 (by decide +kernel) (by decide +kernel)), by decide +kernel, by decide +kernel, by decide +kernel, by decide⟩, (am_in 702 (by decide +kernel) (by decide +kernel)), (am_in 703 (by decide +kernel) (by decide +kernel))⟩
def MX4_sheet : am_M := (yX4_sheet, cX4_sheet, 4, (some .int))
theorem oX4_sheet : am_okV MX4_sheet := ⟨⟨(am_in 772 (by decide +kernel) (by decide +kernel)), (am_in 73 (by decide +kernel) (by decide +kernel)), by decide +kernel, by decide +kernel, by decide +kernel, by decide⟩, (am_in 770 (by decide +kernel) (by decide +kernel)), (am_in 771 (by decide +kernel) (by decide +kernel))⟩
def MX4_slow : am_M := (yX4_slow, cX4_slow, 8, (some .int))
theorem oX4_slow : am_okV MX4_slow := ⟨⟨(am_in 652 (by decide +kernel) (by decide +kernel)), (am_in 73 (by decide +kernel) (by decide +kernel)), by decide +kernel, by decide +kernel, by decide +kernel, by decide⟩, (am_in 650 (by decide +kernel) (by decide +kernel)), (am_in 651 (by decide +kernel) (by decide +kernel))⟩
def MX4_strike : am_M := (yX4_strike, cX4_strike, 4, (some .int))
theorem oX4_strike : am_okV MX4_strike := ⟨⟨(am_in 532 (by decide +kernel) (by decide +kernel)), (am_in 73 (by decide +kernel) (by decide +kernel)), by decide +kernel, by decide +kernel, by decide +kernel, by decide⟩, (am_in 530 (by decide +kernel) (by decide +kernel)), (am_in 531 (by decide +kernel) (by decide +kernel))⟩
def MX4_strokesIn : am_M := (yX4_strokesIn, cX4_strokesIn, 2, (some .int))
theorem oX4_strokesIn : am_okS MX4_strokesIn := ⟨⟨(am_in 645 (by decide +kernel) (by decide +kernel)), (am_in 73 (by decide +kernel) (by decide +kernel)), by decide +kernel, by decide +kernel, by decide +kernel, by decide⟩, (am_in 644 (by decide +kernel) (by decide +kernel))⟩
def MX4_strokesOfOne : am_M := (yX4_strokesOfOne, cX4_strokesOfOne, 6, (some .int))
theorem oX4_strokesOfOne : am_okV MX4_strokesOfOne := ⟨⟨(am_in 626 (by decide +kernel) (by decide +kernel)), (am_in 73 (by decide +kernel) (by decide +kernel)), by decide +kernel, by decide +kernel, by decide +kernel, by decide⟩, (am_in 625 (by decide +kernel) (by decide +kernel)), (am_in 18 (by decide +kernel) (by decide +kernel))⟩
def MX4_text : am_M := (yX4_text, cX4_text, 3, (some .int))
theorem oX4_text : am_okV MX4_text := ⟨⟨(am_in 305 (by decide +kernel) (by decide +kernel)), (am_in 73 (by decide +kernel) (by decide +kernel)), by decide +kernel, by decide +kernel, by decide +kernel, by decide⟩, (am_in 303 (by decide +kernel) (by decide +kernel)), (am_in 304 (by decide +kernel) (by decide +kernel))⟩
def MX4_ticks : am_M := (yX4_ticks, cX4_ticks, 2, (some .int))
theorem oX4_ticks : am_okV MX4_ticks := ⟨⟨(am_in 545 (by decide +kernel) (by decide +kernel)), (am_in 73 (by decide +kernel) (by decide +kernel)), by decide +kernel, by decide +kernel, by decide +kernel, by decide⟩, (am_in 543 (by decide +kernel) (by decide +kernel)), (am_in 544 (by decide +kernel) (by decide +kernel))⟩
def MX4_torn : am_M := (yX4_torn, cX4_torn, 1, (some .int))
theorem oX4_torn : am_okV MX4_torn := ⟨⟨(am_in 821 (by decide +kernel) (by decide +kernel)), (am_in 73 (by decide +kernel) (by decide +kernel)), by decide +kernel, by decide +kernel, by decide +kernel, by decide⟩, (am_in 819 (by decide +kernel) (by decide +kernel)), (am_in 820 (by decide +kernel) (by decide +kernel))⟩
def MX4_weightOf : am_M := (yX4_weightOf, cX4_weightOf, 4, (some .long))
theorem oX4_weightOf : am_okS MX4_weightOf := ⟨⟨(am_in 675 (by decide +kernel) (by decide +kernel)), (am_in 73 (by decide +kernel) (by decide +kernel)), by decide +kernel, by decide +kernel, by decide +kernel, by decide⟩, (am_in 674 (by decide +kernel) (by decide +kernel))⟩
def MX4_when : am_M := (yX4_when, cX4_when, 5, (some .int))
theorem oX4_when : am_okV MX4_when := ⟨⟨(am_in 610 (by decide +kernel) (by decide +kernel)), (am_in 73 (by decide +kernel) (by decide +kernel)), by decide +kernel, by decide +kernel, by decide +kernel, by decide⟩, (am_in 608 (by decide +kernel) (by decide +kernel)), (am_in 609 (by decide +kernel) (by decide +kernel))⟩
def MX4_within : am_M := (yX4_within, cX4_within, 3, (some .boolean))
theorem oX4_within : am_okS MX4_within := ⟨⟨(am_in 297 (by decide +kernel) (by decide +kernel)), (am_in 73 (by decide +kernel) (by decide +kernel)), by decide +kernel, by decide +kernel, by decide +kernel, by decide⟩, (am_in 296 (by decide +kernel) (by decide +kernel))⟩
def MX5_ahead : am_M := (yX5_ahead, cX5_ahead, 4, (some .int))
theorem oX5_ahead : am_okV MX5_ahead := ⟨⟨(am_in 1152 (by decide +kernel) (by decide +kernel)), (am_in 78 (by decide +kernel) (by decide +kernel)), by decide +kernel, by decide +kernel, by decide +kernel, by decide⟩, (am_in 1150 (by decide +kernel) (by decide +kernel)), (am_in 1151 (by decide +kernel) (by decide +kernel))⟩
def MX5_alter : am_M := (yX5_alter, cX5_alter, 5, (some .int))
theorem oX5_alter : am_okV MX5_alter := ⟨⟨(am_in 1056 (by decide +kernel) (by decide +kernel)), (am_in 78 (by decide +kernel) (by decide +kernel)), by decide +kernel, by decide +kernel, by decide +kernel, by decide⟩, (am_in 1054 (by decide +kernel) (by decide +kernel)), (am_in 1055 (by decide +kernel) (by decide +kernel))⟩
def MX5_ask : am_M := (yX5_ask, cX5_ask, 6, (some .int))
theorem oX5_ask : am_okV MX5_ask := ⟨⟨(am_in 1263 (by decide +kernel) (by decide +kernel)), (am_in 78 (by decide +kernel) (by decide +kernel)), by decide +kernel, by decide +kernel, by decide +kernel, by decide⟩, (am_in 1261 (by decide +kernel) (by decide +kernel)), (am_in 1262 (by decide +kernel) (by decide +kernel))⟩
def MX5_back : am_M := (yX5_back, cX5_back, 2, (some .int))
theorem oX5_back : am_okV MX5_back := ⟨⟨(am_in 1280 (by decide +kernel) (by decide +kernel)), (am_in 78 (by decide +kernel) (by decide +kernel)), by decide +kernel, by decide +kernel, by decide +kernel, by decide⟩, (am_in 1278 (by decide +kernel) (by decide +kernel)), (am_in 1279 (by decide +kernel) (by decide +kernel))⟩
def MX5_bear : am_M := (yX5_bear, cX5_bear, 5, (some .int))
theorem oX5_bear : am_okV MX5_bear := ⟨⟨(am_in 1184 (by decide +kernel) (by decide +kernel)), (am_in 78 (by decide +kernel) (by decide +kernel)), by decide +kernel, by decide +kernel, by decide +kernel, by decide⟩, (am_in 1182 (by decide +kernel) (by decide +kernel)), (am_in 1183 (by decide +kernel) (by decide +kernel))⟩
def MX5_becomes : am_M := (yX5_becomes, cX5_becomes, 4, (some .int))
theorem oX5_becomes : am_okV MX5_becomes := ⟨⟨(am_in 1066 (by decide +kernel) (by decide +kernel)), (am_in 78 (by decide +kernel) (by decide +kernel)), by decide +kernel, by decide +kernel, by decide +kernel, by decide⟩, (am_in 1065 (by decide +kernel) (by decide +kernel)), (am_in 49 (by decide +kernel) (by decide +kernel))⟩
def MX5_becomesOf : am_M := (yX5_becomesOf, cX5_becomesOf, 4, none)
theorem oX5_becomesOf : am_okV MX5_becomesOf := ⟨⟨(am_in 1077 (by decide +kernel) (by decide +kernel)), (am_in 78 (by decide +kernel) (by decide +kernel)), by decide +kernel, by decide +kernel, by decide +kernel, by decide⟩, (am_in 1076 (by decide +kernel) (by decide +kernel)), (am_in 51 (by decide +kernel) (by decide +kernel))⟩
def MX5_bounces : am_M := (yX5_bounces, cX5_bounces, 2, (some .int))
theorem oX5_bounces : am_okV MX5_bounces := ⟨⟨(am_in 1259 (by decide +kernel) (by decide +kernel)), (am_in 78 (by decide +kernel) (by decide +kernel)), by decide +kernel, by decide +kernel, by decide +kernel, by decide⟩, (am_in 1257 (by decide +kernel) (by decide +kernel)), (am_in 1258 (by decide +kernel) (by decide +kernel))⟩
def MX5_byteAt : am_M := (yX5_byteAt, cX5_byteAt, 2, (some .int))
theorem oX5_byteAt : am_okV MX5_byteAt := ⟨⟨(am_in 957 (by decide +kernel) (by decide +kernel)), (am_in 78 (by decide +kernel) (by decide +kernel)), by decide +kernel, by decide +kernel, by decide +kernel, by decide⟩, (am_in 956 (by decide +kernel) (by decide +kernel)), (am_in 31 (by decide +kernel) (by decide +kernel))⟩
def MX5_comesToSay : am_M := (yX5_comesToSay, cX5_comesToSay, 3, none)
theorem oX5_comesToSay : am_okV MX5_comesToSay := ⟨⟨(am_in 1120 (by decide +kernel) (by decide +kernel)), (am_in 78 (by decide +kernel) (by decide +kernel)), by decide +kernel, by decide +kernel, by decide +kernel, by decide⟩, (am_in 1119 (by decide +kernel) (by decide +kernel)), (am_in 57 (by decide +kernel) (by decide +kernel))⟩
def MX5_common : am_M := (yX5_common, cX5_common, 10, (some .long))
theorem oX5_common : am_okS MX5_common := ⟨⟨(am_in 1226 (by decide +kernel) (by decide +kernel)), (am_in 78 (by decide +kernel) (by decide +kernel)), by decide +kernel, by decide +kernel, by decide +kernel, by decide⟩, (am_in 1225 (by decide +kernel) (by decide +kernel))⟩
def MX5_contact : am_M := (yX5_contact, cX5_contact, 3, (some .int))
theorem oX5_contact : am_okV MX5_contact := ⟨⟨(am_in 1051 (by decide +kernel) (by decide +kernel)), (am_in 78 (by decide +kernel) (by decide +kernel)), by decide +kernel, by decide +kernel, by decide +kernel, by decide⟩, (am_in 1049 (by decide +kernel) (by decide +kernel)), (am_in 1050 (by decide +kernel) (by decide +kernel))⟩
def MX5_contactOf : am_M := (yX5_contactOf, cX5_contactOf, 5, (some .int))
theorem oX5_contactOf : am_okV MX5_contactOf := ⟨⟨(am_in 1021 (by decide +kernel) (by decide +kernel)), (am_in 78 (by decide +kernel) (by decide +kernel)), by decide +kernel, by decide +kernel, by decide +kernel, by decide⟩, (am_in 1020 (by decide +kernel) (by decide +kernel)), (am_in 44 (by decide +kernel) (by decide +kernel))⟩
def MX5_contactsNow : am_M := (yX5_contactsNow, cX5_contactsNow, 3, (some .int))
theorem oX5_contactsNow : am_okV MX5_contactsNow := ⟨⟨(am_in 1017 (by decide +kernel) (by decide +kernel)), (am_in 78 (by decide +kernel) (by decide +kernel)), by decide +kernel, by decide +kernel, by decide +kernel, by decide⟩, (am_in 1016 (by decide +kernel) (by decide +kernel)), (am_in 43 (by decide +kernel) (by decide +kernel))⟩
def MX5_copies : am_M := (yX5_copies, cX5_copies, 4, none)
theorem oX5_copies : am_okV MX5_copies := ⟨⟨(am_in 1276 (by decide +kernel) (by decide +kernel)), (am_in 78 (by decide +kernel) (by decide +kernel)), by decide +kernel, by decide +kernel, by decide +kernel, by decide⟩, (am_in 1275 (by decide +kernel) (by decide +kernel)), (am_in 71 (by decide +kernel) (by decide +kernel))⟩
def MX5_count : am_M := (yX5_count, cX5_count, 2, (some .int))
theorem oX5_count : am_okV MX5_count := ⟨⟨(am_in 1305 (by decide +kernel) (by decide +kernel)), (am_in 78 (by decide +kernel) (by decide +kernel)), by decide +kernel, by decide +kernel, by decide +kernel, by decide⟩, (am_in 1303 (by decide +kernel) (by decide +kernel)), (am_in 1304 (by decide +kernel) (by decide +kernel))⟩
def MX5_countsUp : am_M := (yX5_countsUp, cX5_countsUp, 3, none)
theorem oX5_countsUp : am_okV MX5_countsUp := ⟨⟨(am_in 1124 (by decide +kernel) (by decide +kernel)), (am_in 78 (by decide +kernel) (by decide +kernel)), by decide +kernel, by decide +kernel, by decide +kernel, by decide⟩, (am_in 1123 (by decide +kernel) (by decide +kernel)), (am_in 58 (by decide +kernel) (by decide +kernel))⟩
def MX5_cutsSum : am_M := (yX5_cutsSum, cX5_cutsSum, 2, none)
theorem oX5_cutsSum : am_okV MX5_cutsSum := ⟨⟨(am_in 1070 (by decide +kernel) (by decide +kernel)), (am_in 78 (by decide +kernel) (by decide +kernel)), by decide +kernel, by decide +kernel, by decide +kernel, by decide⟩, (am_in 1069 (by decide +kernel) (by decide +kernel)), (am_in 50 (by decide +kernel) (by decide +kernel))⟩
def MX5_drift : am_M := (yX5_drift, cX5_drift, 6, (some .int))
theorem oX5_drift : am_okV MX5_drift := ⟨⟨(am_in 1267 (by decide +kernel) (by decide +kernel)), (am_in 78 (by decide +kernel) (by decide +kernel)), by decide +kernel, by decide +kernel, by decide +kernel, by decide⟩, (am_in 1265 (by decide +kernel) (by decide +kernel)), (am_in 1266 (by decide +kernel) (by decide +kernel))⟩
def MX5_drop : am_M := (yX5_drop, cX5_drop, 2, (some .int))
theorem oX5_drop : am_okV MX5_drop := ⟨⟨(am_in 1095 (by decide +kernel) (by decide +kernel)), (am_in 78 (by decide +kernel) (by decide +kernel)), by decide +kernel, by decide +kernel, by decide +kernel, by decide⟩, (am_in 1093 (by decide +kernel) (by decide +kernel)), (am_in 1094 (by decide +kernel) (by decide +kernel))⟩
def MX5_due : am_M := (yX5_due, cX5_due, 2, (some .int))
theorem oX5_due : am_okV MX5_due := ⟨⟨(am_in 1163 (by decide +kernel) (by decide +kernel)), (am_in 78 (by decide +kernel) (by decide +kernel)), by decide +kernel, by decide +kernel, by decide +kernel, by decide⟩, (am_in 1161 (by decide +kernel) (by decide +kernel)), (am_in 1162 (by decide +kernel) (by decide +kernel))⟩
def MX5_dueIn : am_M := (yX5_dueIn, cX5_dueIn, 5, (some .int))
theorem oX5_dueIn : am_okV MX5_dueIn := ⟨⟨(am_in 1167 (by decide +kernel) (by decide +kernel)), (am_in 78 (by decide +kernel) (by decide +kernel)), by decide +kernel, by decide +kernel, by decide +kernel, by decide⟩, (am_in 1166 (by decide +kernel) (by decide +kernel)), (am_in 62 (by decide +kernel) (by decide +kernel))⟩
def MX5_end : am_M := (yX5_end, cX5_end, 3, (some .int))
theorem oX5_end : am_okV MX5_end := ⟨⟨(am_in 945 (by decide +kernel) (by decide +kernel)), (am_in 78 (by decide +kernel) (by decide +kernel)), by decide +kernel, by decide +kernel, by decide +kernel, by decide⟩, (am_in 943 (by decide +kernel) (by decide +kernel)), (am_in 944 (by decide +kernel) (by decide +kernel))⟩
def MX5_endsIn : am_M := (yX5_endsIn, cX5_endsIn, 3, (some .boolean))
theorem oX5_endsIn : am_okV MX5_endsIn := ⟨⟨(am_in 981 (by decide +kernel) (by decide +kernel)), (am_in 78 (by decide +kernel) (by decide +kernel)), by decide +kernel, by decide +kernel, by decide +kernel, by decide⟩, (am_in 980 (by decide +kernel) (by decide +kernel)), (am_in 36 (by decide +kernel) (by decide +kernel))⟩
def MX5_every : am_M := (yX5_every, cX5_every, 2, (some .int))
theorem oX5_every : am_okV MX5_every := ⟨⟨(am_in 1085 (by decide +kernel) (by decide +kernel)), (am_in 78 (by decide +kernel) (by decide +kernel)), by decide +kernel, by decide +kernel, by decide +kernel, by decide⟩, (am_in 1083 (by decide +kernel) (by decide +kernel)), (am_in 1084 (by decide +kernel) (by decide +kernel))⟩
def MX5_fault : am_M := (yX5_fault, cX5_fault, 1, (some .int))
theorem oX5_fault : am_okV MX5_fault := ⟨⟨(am_in 997 (by decide +kernel) (by decide +kernel)), (am_in 78 (by decide +kernel) (by decide +kernel)), by decide +kernel, by decide +kernel, by decide +kernel, by decide⟩, (am_in 995 (by decide +kernel) (by decide +kernel)), (am_in 996 (by decide +kernel) (by decide +kernel))⟩
def MX5_feed : am_M := (yX5_feed, cX5_feed, 2, (some .int))
theorem oX5_feed : am_okV MX5_feed := ⟨⟨(am_in 937 (by decide +kernel) (by decide +kernel)), (am_in 78 (by decide +kernel) (by decide +kernel)), by decide +kernel, by decide +kernel, by decide +kernel, by decide⟩, (am_in 935 (by decide +kernel) (by decide +kernel)), (am_in 936 (by decide +kernel) (by decide +kernel))⟩
def MX5_findOdds : am_M := (yX5_findOdds, cX5_findOdds, 9, none)
theorem oX5_findOdds : am_okV MX5_findOdds := ⟨⟨(am_in 1220 (by decide +kernel) (by decide +kernel)), (am_in 78 (by decide +kernel) (by decide +kernel)), by decide +kernel, by decide +kernel, by decide +kernel, by decide⟩, (am_in 1219 (by decide +kernel) (by decide +kernel)), (am_in 68 (by decide +kernel) (by decide +kernel))⟩
def MX5_firstDraft : am_M := (yX5_firstDraft, cX5_firstDraft, 2, none)
theorem oX5_firstDraft : am_okV MX5_firstDraft := ⟨⟨(am_in 841 (by decide +kernel) (by decide +kernel)), (am_in 78 (by decide +kernel) (by decide +kernel)), by decide +kernel, by decide +kernel, by decide +kernel, by decide⟩, (am_in 840 (by decide +kernel) (by decide +kernel)), (am_in 28 (by decide +kernel) (by decide +kernel))⟩
def MX5_flag : am_M := (yX5_flag, cX5_flag, 1, (some .int))
theorem oX5_flag : am_okS MX5_flag := ⟨⟨(am_in 1148 (by decide +kernel) (by decide +kernel)), (am_in 78 (by decide +kernel) (by decide +kernel)), by decide +kernel, by decide +kernel, by decide +kernel, by decide⟩, (am_in 1147 (by decide +kernel) (by decide +kernel))⟩
def MX5_forget : am_M := (yX5_forget, cX5_forget, 2, (some .int))
theorem oX5_forget : am_okV MX5_forget := ⟨⟨(am_in 1239 (by decide +kernel) (by decide +kernel)), (am_in 78 (by decide +kernel) (by decide +kernel)), by decide +kernel, by decide +kernel, by decide +kernel, by decide⟩, (am_in 1237 (by decide +kernel) (by decide +kernel)), (am_in 1238 (by decide +kernel) (by decide +kernel))⟩
def MX5_in : am_M := (yX5_in, cX5_in, 6, (some .boolean))
theorem oX5_in : am_okS MX5_in := ⟨⟨(am_in 941 (by decide +kernel) (by decide +kernel)), (am_in 78 (by decide +kernel) (by decide +kernel)), by decide +kernel, by decide +kernel, by decide +kernel, by decide⟩, (am_in 940 (by decide +kernel) (by decide +kernel))⟩
def MX5_init : am_M := (yX5_init, cX5_init, 2, none)
theorem oX5_init : am_okI MX5_init := ⟨⟨(am_in 836 (by decide +kernel) (by decide +kernel)), (am_in 78 (by decide +kernel) (by decide +kernel)), by decide +kernel, by decide +kernel, by decide +kernel, by decide⟩, (am_in 835 (by decide +kernel) (by decide +kernel)), rfl⟩
def MX5_is : am_M := (yX5_is, cX5_is, 5, (some .boolean))
theorem oX5_is : am_okV MX5_is := ⟨⟨(am_in 977 (by decide +kernel) (by decide +kernel)), (am_in 78 (by decide +kernel) (by decide +kernel)), by decide +kernel, by decide +kernel, by decide +kernel, by decide⟩, (am_in 976 (by decide +kernel) (by decide +kernel)), (am_in 35 (by decide +kernel) (by decide +kernel))⟩
def MX5_isFar : am_M := (yX5_isFar, cX5_isFar, 1, (some .boolean))
theorem oX5_isFar : am_okS MX5_isFar := ⟨⟨(am_in 1143 (by decide +kernel) (by decide +kernel)), (am_in 78 (by decide +kernel) (by decide +kernel)), by decide +kernel, by decide +kernel, by decide +kernel, by decide⟩, (am_in 1142 (by decide +kernel) (by decide +kernel))⟩
def MX5_isKey : am_M := (yX5_isKey, cX5_isKey, 2, (some .boolean))
theorem oX5_isKey : am_okV MX5_isKey := ⟨⟨(am_in 1041 (by decide +kernel) (by decide +kernel)), (am_in 78 (by decide +kernel) (by decide +kernel)), by decide +kernel, by decide +kernel, by decide +kernel, by decide⟩, (am_in 1040 (by decide +kernel) (by decide +kernel)), (am_in 48 (by decide +kernel) (by decide +kernel))⟩
def MX5_isPart : am_M := (yX5_isPart, cX5_isPart, 1, (some .boolean))
theorem oX5_isPart : am_okS MX5_isPart := ⟨⟨(am_in 1155 (by decide +kernel) (by decide +kernel)), (am_in 78 (by decide +kernel) (by decide +kernel)), by decide +kernel, by decide +kernel, by decide +kernel, by decide⟩, (am_in 1154 (by decide +kernel) (by decide +kernel))⟩
def MX5_isSheet : am_M := (yX5_isSheet, cX5_isSheet, 2, (some .boolean))
theorem oX5_isSheet : am_okS MX5_isSheet := ⟨⟨(am_in 1287 (by decide +kernel) (by decide +kernel)), (am_in 78 (by decide +kernel) (by decide +kernel)), by decide +kernel, by decide +kernel, by decide +kernel, by decide⟩, (am_in 1286 (by decide +kernel) (by decide +kernel))⟩
def MX5_isSoWith : am_M := (yX5_isSoWith, cX5_isSoWith, 7, (some .boolean))
theorem oX5_isSoWith : am_okV MX5_isSoWith := ⟨⟨(am_in 1251 (by decide +kernel) (by decide +kernel)), (am_in 78 (by decide +kernel) (by decide +kernel)), by decide +kernel, by decide +kernel, by decide +kernel, by decide⟩, (am_in 1250 (by decide +kernel) (by decide +kernel)), (am_in 70 (by decide +kernel) (by decide +kernel))⟩
def MX5_judges : am_M := (yX5_judges, cX5_judges, 3, none)
theorem oX5_judges : am_okV MX5_judges := ⟨⟨(am_in 1201 (by decide +kernel) (by decide +kernel)), (am_in 78 (by decide +kernel) (by decide +kernel)), by decide +kernel, by decide +kernel, by decide +kernel, by decide⟩, (am_in 1200 (by decide +kernel) (by decide +kernel)), (am_in 67 (by decide +kernel) (by decide +kernel))⟩
def MX5_keep : am_M := (yX5_keep, cX5_keep, 3, (some .int))
theorem oX5_keep : am_okV MX5_keep := ⟨⟨(am_in 1272 (by decide +kernel) (by decide +kernel)), (am_in 78 (by decide +kernel) (by decide +kernel)), by decide +kernel, by decide +kernel, by decide +kernel, by decide⟩, (am_in 1270 (by decide +kernel) (by decide +kernel)), (am_in 1271 (by decide +kernel) (by decide +kernel))⟩
def MX5_keepDraft : am_M := (yX5_keepDraft, cX5_keepDraft, 2, none)
theorem oX5_keepDraft : am_okV MX5_keepDraft := ⟨⟨(am_in 845 (by decide +kernel) (by decide +kernel)), (am_in 78 (by decide +kernel) (by decide +kernel)), by decide +kernel, by decide +kernel, by decide +kernel, by decide⟩, (am_in 844 (by decide +kernel) (by decide +kernel)), (am_in 29 (by decide +kernel) (by decide +kernel))⟩
def MX5_key : am_M := (yX5_key, cX5_key, 3, (some .int))
theorem oX5_key : am_okV MX5_key := ⟨⟨(am_in 1037 (by decide +kernel) (by decide +kernel)), (am_in 78 (by decide +kernel) (by decide +kernel)), by decide +kernel, by decide +kernel, by decide +kernel, by decide⟩, (am_in 1035 (by decide +kernel) (by decide +kernel)), (am_in 1036 (by decide +kernel) (by decide +kernel))⟩
def MX5_kind : am_M := (yX5_kind, cX5_kind, 5, (some .int))
theorem oX5_kind : am_okV MX5_kind := ⟨⟨(am_in 1188 (by decide +kernel) (by decide +kernel)), (am_in 78 (by decide +kernel) (by decide +kernel)), by decide +kernel, by decide +kernel, by decide +kernel, by decide⟩, (am_in 1186 (by decide +kernel) (by decide +kernel)), (am_in 1187 (by decide +kernel) (by decide +kernel))⟩
def MX5_kinds : am_M := (yX5_kinds, cX5_kinds, 2, (some .int))
theorem oX5_kinds : am_okV MX5_kinds := ⟨⟨(am_in 1243 (by decide +kernel) (by decide +kernel)), (am_in 78 (by decide +kernel) (by decide +kernel)), by decide +kernel, by decide +kernel, by decide +kernel, by decide⟩, (am_in 1241 (by decide +kernel) (by decide +kernel)), (am_in 1242 (by decide +kernel) (by decide +kernel))⟩
def MX5_latestPress : am_M := (yX5_latestPress, cX5_latestPress, 6, (some .int))
theorem oX5_latestPress : am_okV MX5_latestPress := ⟨⟨(am_in 1025 (by decide +kernel) (by decide +kernel)), (am_in 78 (by decide +kernel) (by decide +kernel)), by decide +kernel, by decide +kernel, by decide +kernel, by decide⟩, (am_in 1024 (by decide +kernel) (by decide +kernel)), (am_in 45 (by decide +kernel) (by decide +kernel))⟩
def MX5_lay : am_M := (yX5_lay, cX5_lay, 4, (some .int))
theorem oX5_lay : am_okV MX5_lay := ⟨⟨(am_in 1291 (by decide +kernel) (by decide +kernel)), (am_in 78 (by decide +kernel) (by decide +kernel)), by decide +kernel, by decide +kernel, by decide +kernel, by decide⟩, (am_in 1289 (by decide +kernel) (by decide +kernel)), (am_in 1290 (by decide +kernel) (by decide +kernel))⟩
def MX5_lineNow : am_M := (yX5_lineNow, cX5_lineNow, 1, (some .int))
theorem oX5_lineNow : am_okV MX5_lineNow := ⟨⟨(am_in 973 (by decide +kernel) (by decide +kernel)), (am_in 78 (by decide +kernel) (by decide +kernel)), by decide +kernel, by decide +kernel, by decide +kernel, by decide⟩, (am_in 972 (by decide +kernel) (by decide +kernel)), (am_in 34 (by decide +kernel) (by decide +kernel))⟩
def MX5_looks : am_M := (yX5_looks, cX5_looks, 3, none)
theorem oX5_looks : am_okV MX5_looks := ⟨⟨(am_in 1112 (by decide +kernel) (by decide +kernel)), (am_in 78 (by decide +kernel) (by decide +kernel)), by decide +kernel, by decide +kernel, by decide +kernel, by decide⟩, (am_in 1111 (by decide +kernel) (by decide +kernel)), (am_in 55 (by decide +kernel) (by decide +kernel))⟩
def MX5_lose : am_M := (yX5_lose, cX5_lose, 4, (some .int))
theorem oX5_lose : am_okV MX5_lose := ⟨⟨(am_in 1209 (by decide +kernel) (by decide +kernel)), (am_in 78 (by decide +kernel) (by decide +kernel)), by decide +kernel, by decide +kernel, by decide +kernel, by decide⟩, (am_in 1207 (by decide +kernel) (by decide +kernel)), (am_in 1208 (by decide +kernel) (by decide +kernel))⟩
def MX5_lowOf : am_M := (yX5_lowOf, cX5_lowOf, 1, (some .int))
theorem oX5_lowOf : am_okS MX5_lowOf := ⟨⟨(am_in 1059 (by decide +kernel) (by decide +kernel)), (am_in 78 (by decide +kernel) (by decide +kernel)), by decide +kernel, by decide +kernel, by decide +kernel, by decide⟩, (am_in 1058 (by decide +kernel) (by decide +kernel))⟩
def MX5_lowest : am_M := (yX5_lowest, cX5_lowest, 7, (some .long))
theorem oX5_lowest : am_okS MX5_lowest := ⟨⟨(am_in 1223 (by decide +kernel) (by decide +kernel)), (am_in 78 (by decide +kernel) (by decide +kernel)), by decide +kernel, by decide +kernel, by decide +kernel, by decide⟩, (am_in 1222 (by decide +kernel) (by decide +kernel))⟩
def MX5_luck : am_M := (yX5_luck, cX5_luck, 5, (some .long))
theorem oX5_luck : am_okV MX5_luck := ⟨⟨(am_in 1213 (by decide +kernel) (by decide +kernel)), (am_in 78 (by decide +kernel) (by decide +kernel)), by decide +kernel, by decide +kernel, by decide +kernel, by decide⟩, (am_in 1211 (by decide +kernel) (by decide +kernel)), (am_in 1212 (by decide +kernel) (by decide +kernel))⟩
def MX5_mean : am_M := (yX5_mean, cX5_mean, 4, (some .long))
theorem oX5_mean : am_okV MX5_mean := ⟨⟨(am_in 1230 (by decide +kernel) (by decide +kernel)), (am_in 78 (by decide +kernel) (by decide +kernel)), by decide +kernel, by decide +kernel, by decide +kernel, by decide⟩, (am_in 1228 (by decide +kernel) (by decide +kernel)), (am_in 1229 (by decide +kernel) (by decide +kernel))⟩
def MX5_mostOf : am_M := (yX5_mostOf, cX5_mostOf, 1, (some .int))
theorem oX5_mostOf : am_okS MX5_mostOf := ⟨⟨(am_in 1062 (by decide +kernel) (by decide +kernel)), (am_in 78 (by decide +kernel) (by decide +kernel)), by decide +kernel, by decide +kernel, by decide +kernel, by decide⟩, (am_in 1061 (by decide +kernel) (by decide +kernel))⟩
def MX5_need : am_M := (yX5_need, cX5_need, 5, (some .int))
theorem oX5_need : am_okV MX5_need := ⟨⟨(am_in 1171 (by decide +kernel) (by decide +kernel)), (am_in 78 (by decide +kernel) (by decide +kernel)), by decide +kernel, by decide +kernel, by decide +kernel, by decide⟩, (am_in 1169 (by decide +kernel) (by decide +kernel)), (am_in 1170 (by decide +kernel) (by decide +kernel))⟩
def MX5_numbers : am_M := (yX5_numbers, cX5_numbers, 2, (some .int))
theorem oX5_numbers : am_okV MX5_numbers := ⟨⟨(am_in 1255 (by decide +kernel) (by decide +kernel)), (am_in 78 (by decide +kernel) (by decide +kernel)), by decide +kernel, by decide +kernel, by decide +kernel, by decide⟩, (am_in 1253 (by decide +kernel) (by decide +kernel)), (am_in 1254 (by decide +kernel) (by decide +kernel))⟩
def MX5_of : am_M := (yX5_of, cX5_of, 3, (some .int))
theorem oX5_of : am_okV MX5_of := ⟨⟨(am_in 1013 (by decide +kernel) (by decide +kernel)), (am_in 78 (by decide +kernel) (by decide +kernel)), by decide +kernel, by decide +kernel, by decide +kernel, by decide⟩, (am_in 1012 (by decide +kernel) (by decide +kernel)), (am_in 42 (by decide +kernel) (by decide +kernel))⟩
def MX5_ofPress : am_M := (yX5_ofPress, cX5_ofPress, 3, (some .int))
theorem oX5_ofPress : am_okV MX5_ofPress := ⟨⟨(am_in 1029 (by decide +kernel) (by decide +kernel)), (am_in 78 (by decide +kernel) (by decide +kernel)), by decide +kernel, by decide +kernel, by decide +kernel, by decide⟩, (am_in 1028 (by decide +kernel) (by decide +kernel)), (am_in 46 (by decide +kernel) (by decide +kernel))⟩
def MX5_offIn : am_M := (yX5_offIn, cX5_offIn, 3, (some .int))
theorem oX5_offIn : am_okV MX5_offIn := ⟨⟨(am_in 1197 (by decide +kernel) (by decide +kernel)), (am_in 78 (by decide +kernel) (by decide +kernel)), by decide +kernel, by decide +kernel, by decide +kernel, by decide⟩, (am_in 1196 (by decide +kernel) (by decide +kernel)), (am_in 66 (by decide +kernel) (by decide +kernel))⟩
def MX5_press : am_M := (yX5_press, cX5_press, 3, (some .int))
theorem oX5_press : am_okV MX5_press := ⟨⟨(am_in 1046 (by decide +kernel) (by decide +kernel)), (am_in 78 (by decide +kernel) (by decide +kernel)), by decide +kernel, by decide +kernel, by decide +kernel, by decide⟩, (am_in 1044 (by decide +kernel) (by decide +kernel)), (am_in 1045 (by decide +kernel) (by decide +kernel))⟩
def MX5_read : am_M := (yX5_read, cX5_read, 11, (some .int))
theorem oX5_read : am_okV MX5_read := ⟨⟨(am_in 1295 (by decide +kernel) (by decide +kernel)), (am_in 78 (by decide +kernel) (by decide +kernel)), by decide +kernel, by decide +kernel, by decide +kernel, by decide⟩, (am_in 1293 (by decide +kernel) (by decide +kernel)), (am_in 1294 (by decide +kernel) (by decide +kernel))⟩
def MX5_readLine : am_M := (yX5_readLine, cX5_readLine, 2, none)
theorem oX5_readLine : am_okV MX5_readLine := ⟨⟨(am_in 969 (by decide +kernel) (by decide +kernel)), (am_in 78 (by decide +kernel) (by decide +kernel)), by decide +kernel, by decide +kernel, by decide +kernel, by decide⟩, (am_in 968 (by decide +kernel) (by decide +kernel)), (am_in 33 (by decide +kernel) (by decide +kernel))⟩
def MX5_readLineOf : am_M := (yX5_readLineOf, cX5_readLineOf, 2, none)
theorem oX5_readLineOf : am_okV MX5_readLineOf := ⟨⟨(am_in 985 (by decide +kernel) (by decide +kernel)), (am_in 78 (by decide +kernel) (by decide +kernel)), by decide +kernel, by decide +kernel, by decide +kernel, by decide⟩, (am_in 984 (by decide +kernel) (by decide +kernel)), (am_in 37 (by decide +kernel) (by decide +kernel))⟩
def MX5_readNumber : am_M := (yX5_readNumber, cX5_readNumber, 4, (some .int))
theorem oX5_readNumber : am_okV MX5_readNumber := ⟨⟨(am_in 993 (by decide +kernel) (by decide +kernel)), (am_in 78 (by decide +kernel) (by decide +kernel)), by decide +kernel, by decide +kernel, by decide +kernel, by decide⟩, (am_in 992 (by decide +kernel) (by decide +kernel)), (am_in 39 (by decide +kernel) (by decide +kernel))⟩
def MX5_readPress : am_M := (yX5_readPress, cX5_readPress, 2, none)
theorem oX5_readPress : am_okV MX5_readPress := ⟨⟨(am_in 989 (by decide +kernel) (by decide +kernel)), (am_in 78 (by decide +kernel) (by decide +kernel)), by decide +kernel, by decide +kernel, by decide +kernel, by decide⟩, (am_in 988 (by decide +kernel) (by decide +kernel)), (am_in 38 (by decide +kernel) (by decide +kernel))⟩
def MX5_reads : am_M := (yX5_reads, cX5_reads, 2, none)
theorem oX5_reads : am_okV MX5_reads := ⟨⟨(am_in 953 (by decide +kernel) (by decide +kernel)), (am_in 78 (by decide +kernel) (by decide +kernel)), by decide +kernel, by decide +kernel, by decide +kernel, by decide⟩, (am_in 952 (by decide +kernel) (by decide +kernel)), (am_in 30 (by decide +kernel) (by decide +kernel))⟩
def MX5_requires : am_M := (yX5_requires, cX5_requires, 3, none)
theorem oX5_requires : am_okV MX5_requires := ⟨⟨(am_in 965 (by decide +kernel) (by decide +kernel)), (am_in 78 (by decide +kernel) (by decide +kernel)), by decide +kernel, by decide +kernel, by decide +kernel, by decide⟩, (am_in 964 (by decide +kernel) (by decide +kernel)), (am_in 32 (by decide +kernel) (by decide +kernel))⟩
def MX5_rule : am_M := (yX5_rule, cX5_rule, 2, (some .int))
theorem oX5_rule : am_okV MX5_rule := ⟨⟨(am_in 1001 (by decide +kernel) (by decide +kernel)), (am_in 78 (by decide +kernel) (by decide +kernel)), by decide +kernel, by decide +kernel, by decide +kernel, by decide⟩, (am_in 999 (by decide +kernel) (by decide +kernel)), (am_in 1000 (by decide +kernel) (by decide +kernel))⟩
def MX5_runs : am_M := (yX5_runs, cX5_runs, 6, (some .int))
theorem oX5_runs : am_okV MX5_runs := ⟨⟨(am_in 1140 (by decide +kernel) (by decide +kernel)), (am_in 78 (by decide +kernel) (by decide +kernel)), by decide +kernel, by decide +kernel, by decide +kernel, by decide⟩, (am_in 1138 (by decide +kernel) (by decide +kernel)), (am_in 1139 (by decide +kernel) (by decide +kernel))⟩
def MX5_says : am_M := (yX5_says, cX5_says, 3, (some .int))
theorem oX5_says : am_okV MX5_says := ⟨⟨(am_in 1009 (by decide +kernel) (by decide +kernel)), (am_in 78 (by decide +kernel) (by decide +kernel)), by decide +kernel, by decide +kernel, by decide +kernel, by decide⟩, (am_in 1008 (by decide +kernel) (by decide +kernel)), (am_in 41 (by decide +kernel) (by decide +kernel))⟩
def MX5_see : am_M := (yX5_see, cX5_see, 5, (some .int))
theorem oX5_see : am_okV MX5_see := ⟨⟨(am_in 1234 (by decide +kernel) (by decide +kernel)), (am_in 78 (by decide +kernel) (by decide +kernel)), by decide +kernel, by decide +kernel, by decide +kernel, by decide⟩, (am_in 1232 (by decide +kernel) (by decide +kernel)), (am_in 1233 (by decide +kernel) (by decide +kernel))⟩
def MX5_settles : am_M := (yX5_settles, cX5_settles, 2, none)
theorem oX5_settles : am_okV MX5_settles := ⟨⟨(am_in 1081 (by decide +kernel) (by decide +kernel)), (am_in 78 (by decide +kernel) (by decide +kernel)), by decide +kernel, by decide +kernel, by decide +kernel, by decide⟩, (am_in 1080 (by decide +kernel) (by decide +kernel)), (am_in 52 (by decide +kernel) (by decide +kernel))⟩
def MX5_sheet : am_M := (yX5_sheet, cX5_sheet, 5, (some .int))
theorem oX5_sheet : am_okV MX5_sheet := ⟨⟨(am_in 1284 (by decide +kernel) (by decide +kernel)), (am_in 78 (by decide +kernel) (by decide +kernel)), by decide +kernel, by decide +kernel, by decide +kernel, by decide⟩, (am_in 1282 (by decide +kernel) (by decide +kernel)), (am_in 1283 (by decide +kernel) (by decide +kernel))⟩
def MX5_shuts : am_M := (yX5_shuts, cX5_shuts, 2, (some .int))
theorem oX5_shuts : am_okV MX5_shuts := ⟨⟨(am_in 1132 (by decide +kernel) (by decide +kernel)), (am_in 78 (by decide +kernel) (by decide +kernel)), by decide +kernel, by decide +kernel, by decide +kernel, by decide⟩, (am_in 1131 (by decide +kernel) (by decide +kernel)), (am_in 60 (by decide +kernel) (by decide +kernel))⟩
def MX5_slow : am_M := (yX5_slow, cX5_slow, 4, (some .int))
theorem oX5_slow : am_okV MX5_slow := ⟨⟨(am_in 1205 (by decide +kernel) (by decide +kernel)), (am_in 78 (by decide +kernel) (by decide +kernel)), by decide +kernel, by decide +kernel, by decide +kernel, by decide⟩, (am_in 1203 (by decide +kernel) (by decide +kernel)), (am_in 1204 (by decide +kernel) (by decide +kernel))⟩
def MX5_starts : am_M := (yX5_starts, cX5_starts, 2, none)
theorem oX5_starts : am_okV MX5_starts := ⟨⟨(am_in 1005 (by decide +kernel) (by decide +kernel)), (am_in 78 (by decide +kernel) (by decide +kernel)), by decide +kernel, by decide +kernel, by decide +kernel, by decide⟩, (am_in 1004 (by decide +kernel) (by decide +kernel)), (am_in 40 (by decide +kernel) (by decide +kernel))⟩
def MX5_startsJudging : am_M := (yX5_startsJudging, cX5_startsJudging, 2, none)
theorem oX5_startsJudging : am_okV MX5_startsJudging := ⟨⟨(am_in 1193 (by decide +kernel) (by decide +kernel)), (am_in 78 (by decide +kernel) (by decide +kernel)), by decide +kernel, by decide +kernel, by decide +kernel, by decide⟩, (am_in 1192 (by decide +kernel) (by decide +kernel)), (am_in 65 (by decide +kernel) (by decide +kernel))⟩
def MX5_startsWith : am_M := (yX5_startsWith, cX5_startsWith, 4, none)
theorem oX5_startsWith : am_okV MX5_startsWith := ⟨⟨(am_in 1180 (by decide +kernel) (by decide +kernel)), (am_in 78 (by decide +kernel) (by decide +kernel)), by decide +kernel, by decide +kernel, by decide +kernel, by decide⟩, (am_in 1179 (by decide +kernel) (by decide +kernel)), (am_in 64 (by decide +kernel) (by decide +kernel))⟩
def MX5_strike : am_M := (yX5_strike, cX5_strike, 5, (some .int))
theorem oX5_strike : am_okV MX5_strike := ⟨⟨(am_in 1090 (by decide +kernel) (by decide +kernel)), (am_in 78 (by decide +kernel) (by decide +kernel)), by decide +kernel, by decide +kernel, by decide +kernel, by decide⟩, (am_in 1088 (by decide +kernel) (by decide +kernel)), (am_in 1089 (by decide +kernel) (by decide +kernel))⟩
def MX5_strikesJust : am_M := (yX5_strikesJust, cX5_strikesJust, 6, (some .boolean))
theorem oX5_strikesJust : am_okV MX5_strikesJust := ⟨⟨(am_in 1176 (by decide +kernel) (by decide +kernel)), (am_in 78 (by decide +kernel) (by decide +kernel)), by decide +kernel, by decide +kernel, by decide +kernel, by decide⟩, (am_in 1175 (by decide +kernel) (by decide +kernel)), (am_in 63 (by decide +kernel) (by decide +kernel))⟩
def MX5_struckByAll : am_M := (yX5_struckByAll, cX5_struckByAll, 3, (some .int))
theorem oX5_struckByAll : am_okV MX5_struckByAll := ⟨⟨(am_in 1136 (by decide +kernel) (by decide +kernel)), (am_in 78 (by decide +kernel) (by decide +kernel)), by decide +kernel, by decide +kernel, by decide +kernel, by decide⟩, (am_in 1135 (by decide +kernel) (by decide +kernel)), (am_in 61 (by decide +kernel) (by decide +kernel))⟩
def MX5_sumOf : am_M := (yX5_sumOf, cX5_sumOf, 4, (some .int))
theorem oX5_sumOf : am_okV MX5_sumOf := ⟨⟨(am_in 1033 (by decide +kernel) (by decide +kernel)), (am_in 78 (by decide +kernel) (by decide +kernel)), by decide +kernel, by decide +kernel, by decide +kernel, by decide⟩, (am_in 1032 (by decide +kernel) (by decide +kernel)), (am_in 47 (by decide +kernel) (by decide +kernel))⟩
def MX5_text : am_M := (yX5_text, cX5_text, 2, (some .int))
theorem oX5_text : am_okV MX5_text := ⟨⟨(am_in 949 (by decide +kernel) (by decide +kernel)), (am_in 78 (by decide +kernel) (by decide +kernel)), by decide +kernel, by decide +kernel, by decide +kernel, by decide⟩, (am_in 947 (by decide +kernel) (by decide +kernel)), (am_in 948 (by decide +kernel) (by decide +kernel))⟩
def MX5_tickGoesBy : am_M := (yX5_tickGoesBy, cX5_tickGoesBy, 3, none)
theorem oX5_tickGoesBy : am_okV MX5_tickGoesBy := ⟨⟨(am_in 1108 (by decide +kernel) (by decide +kernel)), (am_in 78 (by decide +kernel) (by decide +kernel)), by decide +kernel, by decide +kernel, by decide +kernel, by decide⟩, (am_in 1107 (by decide +kernel) (by decide +kernel)), (am_in 54 (by decide +kernel) (by decide +kernel))⟩
def MX5_ticks : am_M := (yX5_ticks, cX5_ticks, 2, (some .int))
theorem oX5_ticks : am_okV MX5_ticks := ⟨⟨(am_in 1099 (by decide +kernel) (by decide +kernel)), (am_in 78 (by decide +kernel) (by decide +kernel)), by decide +kernel, by decide +kernel, by decide +kernel, by decide⟩, (am_in 1097 (by decide +kernel) (by decide +kernel)), (am_in 1098 (by decide +kernel) (by decide +kernel))⟩
def MX5_ticksGo : am_M := (yX5_ticksGo, cX5_ticksGo, 3, none)
theorem oX5_ticksGo : am_okV MX5_ticksGo := ⟨⟨(am_in 1104 (by decide +kernel) (by decide +kernel)), (am_in 78 (by decide +kernel) (by decide +kernel)), by decide +kernel, by decide +kernel, by decide +kernel, by decide⟩, (am_in 1103 (by decide +kernel) (by decide +kernel)), (am_in 53 (by decide +kernel) (by decide +kernel))⟩
def MX5_torn : am_M := (yX5_torn, cX5_torn, 1, (some .int))
theorem oX5_torn : am_okV MX5_torn := ⟨⟨(am_in 1301 (by decide +kernel) (by decide +kernel)), (am_in 78 (by decide +kernel) (by decide +kernel)), by decide +kernel, by decide +kernel, by decide +kernel, by decide⟩, (am_in 1299 (by decide +kernel) (by decide +kernel)), (am_in 1300 (by decide +kernel) (by decide +kernel))⟩
def MX5_wants : am_M := (yX5_wants, cX5_wants, 2, (some .int))
theorem oX5_wants : am_okV MX5_wants := ⟨⟨(am_in 1128 (by decide +kernel) (by decide +kernel)), (am_in 78 (by decide +kernel) (by decide +kernel)), by decide +kernel, by decide +kernel, by decide +kernel, by decide⟩, (am_in 1127 (by decide +kernel) (by decide +kernel)), (am_in 59 (by decide +kernel) (by decide +kernel))⟩
def MX5_weighs : am_M := (yX5_weighs, cX5_weighs, 4, none)
theorem oX5_weighs : am_okV MX5_weighs := ⟨⟨(am_in 1116 (by decide +kernel) (by decide +kernel)), (am_in 78 (by decide +kernel) (by decide +kernel)), by decide +kernel, by decide +kernel, by decide +kernel, by decide⟩, (am_in 1115 (by decide +kernel) (by decide +kernel)), (am_in 56 (by decide +kernel) (by decide +kernel))⟩
def MX5_when : am_M := (yX5_when, cX5_when, 4, (some .int))
theorem oX5_when : am_okV MX5_when := ⟨⟨(am_in 1159 (by decide +kernel) (by decide +kernel)), (am_in 78 (by decide +kernel) (by decide +kernel)), by decide +kernel, by decide +kernel, by decide +kernel, by decide⟩, (am_in 1157 (by decide +kernel) (by decide +kernel)), (am_in 1158 (by decide +kernel) (by decide +kernel))⟩
def MX5_which : am_M := (yX5_which, cX5_which, 5, (some .int))
theorem oX5_which : am_okV MX5_which := ⟨⟨(am_in 1247 (by decide +kernel) (by decide +kernel)), (am_in 78 (by decide +kernel) (by decide +kernel)), by decide +kernel, by decide +kernel, by decide +kernel, by decide⟩, (am_in 1246 (by decide +kernel) (by decide +kernel)), (am_in 69 (by decide +kernel) (by decide +kernel))⟩
def MX5_within : am_M := (yX5_within, cX5_within, 2, (some .int))
theorem oX5_within : am_okS MX5_within := ⟨⟨(am_in 1073 (by decide +kernel) (by decide +kernel)), (am_in 78 (by decide +kernel) (by decide +kernel)), by decide +kernel, by decide +kernel, by decide +kernel, by decide⟩, (am_in 1072 (by decide +kernel) (by decide +kernel))⟩
theorem lmL_9 : Cond.methodLink RL 9 yX4_init ∈ am_T := (am_in 87 (by decide +kernel) (by decide +kernel))
-- methodLink RX4 1 ('java/lang/Object', '<init>', '()V')
theorem lmX4_15 : Cond.methodLink RX4 15 yX0_init ∈ am_T := (am_in 95 (by decide +kernel) (by decide +kernel))
-- methodLink RX0 3 ('java/lang/Object', '<init>', '()V')
-- methodLink RX1 3 ('java/lang/Object', '<init>', '()V')
theorem lfX1_9 : Cond.fieldLink RX1 9 "KeySieves$Key" "bounce" "I" ∈ am_T := (am_in 106 (by decide +kernel) (by decide +kernel))
theorem lfX0_73 : Cond.fieldLink RX0 73 "KeySieves$Key" "bounce" "I" ∈ am_T := (am_in 107 (by decide +kernel) (by decide +kernel))
theorem lfX1_15 : Cond.fieldLink RX1 15 "KeySieves$Key" "kind" "I" ∈ am_T := (am_in 108 (by decide +kernel) (by decide +kernel))
theorem lfX1_18 : Cond.fieldLink RX1 18 "KeySieves$Key" "number" "I" ∈ am_T := (am_in 109 (by decide +kernel) (by decide +kernel))
theorem lfX1_21 : Cond.fieldLink RX1 21 "KeySieves$Key" "says" "I" ∈ am_T := (am_in 110 (by decide +kernel) (by decide +kernel))
theorem lfX4_114 : Cond.fieldLink RX4 114 "KeySieves$Key" "says" "I" ∈ am_T := (am_in 111 (by decide +kernel) (by decide +kernel))
theorem lfX0_79 : Cond.fieldLink RX0 79 "KeySieves$Key" "says" "I" ∈ am_T := (am_in 112 (by decide +kernel) (by decide +kernel))
theorem lfX1_24 : Cond.fieldLink RX1 24 "KeySieves$Key" "sum" "I" ∈ am_T := (am_in 113 (by decide +kernel) (by decide +kernel))
theorem lfX4_117 : Cond.fieldLink RX4 117 "KeySieves$Key" "sum" "I" ∈ am_T := (am_in 114 (by decide +kernel) (by decide +kernel))
theorem lfX1_27 : Cond.fieldLink RX1 27 "KeySieves$Key" "rest" "I" ∈ am_T := (am_in 115 (by decide +kernel) (by decide +kernel))
theorem lfX4_120 : Cond.fieldLink RX4 120 "KeySieves$Key" "rest" "I" ∈ am_T := (am_in 116 (by decide +kernel) (by decide +kernel))
theorem lfX1_30 : Cond.fieldLink RX1 30 "KeySieves$Key" "strokes" "I" ∈ am_T := (am_in 117 (by decide +kernel) (by decide +kernel))
theorem lfX4_123 : Cond.fieldLink RX4 123 "KeySieves$Key" "strokes" "I" ∈ am_T := (am_in 118 (by decide +kernel) (by decide +kernel))
theorem lfX0_82 : Cond.fieldLink RX0 82 "KeySieves$Key" "strokes" "I" ∈ am_T := (am_in 119 (by decide +kernel) (by decide +kernel))
theorem lfX1_36 : Cond.fieldLink RX1 36 "KeySieves$Key" "struck" "I" ∈ am_T := (am_in 120 (by decide +kernel) (by decide +kernel))
theorem lfX0_92 : Cond.fieldLink RX0 92 "KeySieves$Key" "struck" "I" ∈ am_T := (am_in 121 (by decide +kernel) (by decide +kernel))
theorem lfX4_178 : Cond.fieldLink RX4 178 "KeySieves$Key" "struck" "I" ∈ am_T := (am_in 122 (by decide +kernel) (by decide +kernel))
theorem lfX1_39 : Cond.fieldLink RX1 39 "KeySieves$Key" "changed" "I" ∈ am_T := (am_in 123 (by decide +kernel) (by decide +kernel))
theorem lfX0_95 : Cond.fieldLink RX0 95 "KeySieves$Key" "changed" "I" ∈ am_T := (am_in 124 (by decide +kernel) (by decide +kernel))
theorem lfX0_11 : Cond.fieldLink RX0 11 "KeySieves$Board" "keys" "[LKeySieves$Key;" ∈ am_T := (am_in 145 (by decide +kernel) (by decide +kernel))
theorem lfX4_105 : Cond.fieldLink RX4 105 "KeySieves$Board" "keys" "[LKeySieves$Key;" ∈ am_T := (am_in 146 (by decide +kernel) (by decide +kernel))
theorem lfX0_41 : Cond.fieldLink RX0 41 "KeySieves$Board" "keyCount" "I" ∈ am_T := (am_in 147 (by decide +kernel) (by decide +kernel))
theorem lfX3_84 : Cond.fieldLink RX3 84 "KeySieves$Board" "keyCount" "I" ∈ am_T := (am_in 148 (by decide +kernel) (by decide +kernel))
theorem lfX4_79 : Cond.fieldLink RX4 79 "KeySieves$Board" "keyCount" "I" ∈ am_T := (am_in 149 (by decide +kernel) (by decide +kernel))
theorem lfX0_18 : Cond.fieldLink RX0 18 "KeySieves$Board" "pressTick" "[I" ∈ am_T := (am_in 150 (by decide +kernel) (by decide +kernel))
theorem lfX4_126 : Cond.fieldLink RX4 126 "KeySieves$Board" "pressTick" "[I" ∈ am_T := (am_in 151 (by decide +kernel) (by decide +kernel))
theorem lfX0_22 : Cond.fieldLink RX0 22 "KeySieves$Board" "pressKey" "[I" ∈ am_T := (am_in 152 (by decide +kernel) (by decide +kernel))
theorem lfX4_129 : Cond.fieldLink RX4 129 "KeySieves$Board" "pressKey" "[I" ∈ am_T := (am_in 153 (by decide +kernel) (by decide +kernel))
theorem lfX0_25 : Cond.fieldLink RX0 25 "KeySieves$Board" "pressState" "[I" ∈ am_T := (am_in 154 (by decide +kernel) (by decide +kernel))
theorem lfX4_132 : Cond.fieldLink RX4 132 "KeySieves$Board" "pressState" "[I" ∈ am_T := (am_in 155 (by decide +kernel) (by decide +kernel))
theorem lfX0_44 : Cond.fieldLink RX0 44 "KeySieves$Board" "pressCount" "I" ∈ am_T := (am_in 156 (by decide +kernel) (by decide +kernel))
theorem lfX3_94 : Cond.fieldLink RX3 94 "KeySieves$Board" "pressCount" "I" ∈ am_T := (am_in 157 (by decide +kernel) (by decide +kernel))
theorem lfX4_82 : Cond.fieldLink RX4 82 "KeySieves$Board" "pressCount" "I" ∈ am_T := (am_in 158 (by decide +kernel) (by decide +kernel))
theorem lfX0_37 : Cond.fieldLink RX0 37 "KeySieves$Board" "every" "I" ∈ am_T := (am_in 159 (by decide +kernel) (by decide +kernel))
theorem lfX4_88 : Cond.fieldLink RX4 88 "KeySieves$Board" "every" "I" ∈ am_T := (am_in 160 (by decide +kernel) (by decide +kernel))
theorem lfX3_100 : Cond.fieldLink RX3 100 "KeySieves$Board" "every" "I" ∈ am_T := (am_in 161 (by decide +kernel) (by decide +kernel))
theorem lfX0_47 : Cond.fieldLink RX0 47 "KeySieves$Board" "tick" "I" ∈ am_T := (am_in 162 (by decide +kernel) (by decide +kernel))
theorem lfX4_85 : Cond.fieldLink RX4 85 "KeySieves$Board" "tick" "I" ∈ am_T := (am_in 163 (by decide +kernel) (by decide +kernel))
theorem lfX0_28 : Cond.fieldLink RX0 28 "KeySieves$Board" "seenTicks" "[I" ∈ am_T := (am_in 164 (by decide +kernel) (by decide +kernel))
theorem lfX0_31 : Cond.fieldLink RX0 31 "KeySieves$Board" "seenKey" "[I" ∈ am_T := (am_in 165 (by decide +kernel) (by decide +kernel))
theorem lfX0_34 : Cond.fieldLink RX0 34 "KeySieves$Board" "seenSays" "[I" ∈ am_T := (am_in 166 (by decide +kernel) (by decide +kernel))
theorem lfX0_50 : Cond.fieldLink RX0 50 "KeySieves$Board" "seenCount" "I" ∈ am_T := (am_in 167 (by decide +kernel) (by decide +kernel))
theorem lfX4_247 : Cond.fieldLink RX4 247 "KeySieves$Board" "seenCount" "I" ∈ am_T := (am_in 168 (by decide +kernel) (by decide +kernel))
theorem lmX4_37 : Cond.methodLink RX4 37 yX2_init ∈ am_T := (am_in 199 (by decide +kernel) (by decide +kernel))
-- methodLink RX2 3 ('java/lang/Object', '<init>', '()V')
theorem lfX2_9 : Cond.fieldLink RX2 9 "KeySieves$Sheet" "cells" "[I" ∈ am_T := (am_in 203 (by decide +kernel) (by decide +kernel))
theorem lfX2_15 : Cond.fieldLink RX2 15 "KeySieves$Sheet" "lane" "I" ∈ am_T := (am_in 204 (by decide +kernel) (by decide +kernel))
theorem lfX2_29 : Cond.fieldLink RX2 29 "KeySieves$Sheet" "size" "I" ∈ am_T := (am_in 205 (by decide +kernel) (by decide +kernel))
theorem lfX4_298 : Cond.fieldLink RX4 298 "KeySieves$Sheet" "size" "I" ∈ am_T := (am_in 206 (by decide +kernel) (by decide +kernel))
theorem lmX4_40 : Cond.methodLink RX4 40 yX3_init ∈ am_T := (am_in 217 (by decide +kernel) (by decide +kernel))
-- methodLink RX3 3 ('java/lang/Object', '<init>', '()V')
theorem lfX3_9 : Cond.fieldLink RX3 9 "KeySieves$TextReader" "bytes" "[B" ∈ am_T := (am_in 221 (by decide +kernel) (by decide +kernel))
theorem lfX3_15 : Cond.fieldLink RX3 15 "KeySieves$TextReader" "board" "LKeySieves$Board;" ∈ am_T := (am_in 222 (by decide +kernel) (by decide +kernel))
theorem lfX3_30 : Cond.fieldLink RX3 30 "KeySieves$TextReader" "length" "I" ∈ am_T := (am_in 223 (by decide +kernel) (by decide +kernel))
theorem lfX3_34 : Cond.fieldLink RX3 34 "KeySieves$TextReader" "place" "I" ∈ am_T := (am_in 224 (by decide +kernel) (by decide +kernel))
theorem lfX3_50 : Cond.fieldLink RX3 50 "KeySieves$TextReader" "token" "I" ∈ am_T := (am_in 225 (by decide +kernel) (by decide +kernel))
theorem lfX3_68 : Cond.fieldLink RX3 68 "KeySieves$TextReader" "tokenPlace" "I" ∈ am_T := (am_in 226 (by decide +kernel) (by decide +kernel))
theorem lfX3_103 : Cond.fieldLink RX3 103 "KeySieves$TextReader" "value" "I" ∈ am_T := (am_in 227 (by decide +kernel) (by decide +kernel))
theorem lfX3_37 : Cond.fieldLink RX3 37 "KeySieves$TextReader" "everyTold" "Z" ∈ am_T := (am_in 228 (by decide +kernel) (by decide +kernel))
theorem lfX3_41 : Cond.fieldLink RX3 41 "KeySieves$TextReader" "fault" "I" ∈ am_T := (am_in 229 (by decide +kernel) (by decide +kernel))
theorem lfX4_66 : Cond.fieldLink RX4 66 "KeySieves$TextReader" "fault" "I" ∈ am_T := (am_in 230 (by decide +kernel) (by decide +kernel))
theorem lfX3_44 : Cond.fieldLink RX3 44 "KeySieves$TextReader" "faultPlace" "I" ∈ am_T := (am_in 231 (by decide +kernel) (by decide +kernel))
theorem lfX4_72 : Cond.fieldLink RX4 72 "KeySieves$TextReader" "faultPlace" "I" ∈ am_T := (am_in 232 (by decide +kernel) (by decide +kernel))
theorem lfX4_9 : Cond.fieldLink RX4 9 "KeySieves" "tape" "[B" ∈ am_T := (am_in 254 (by decide +kernel) (by decide +kernel))
theorem lfX4_58 : Cond.fieldLink RX4 58 "KeySieves" "tapeLength" "I" ∈ am_T := (am_in 255 (by decide +kernel) (by decide +kernel))
theorem lfX4_16 : Cond.fieldLink RX4 16 "KeySieves" "now" "LKeySieves$Board;" ∈ am_T := (am_in 256 (by decide +kernel) (by decide +kernel))
theorem lfX4_20 : Cond.fieldLink RX4 20 "KeySieves" "trial" "LKeySieves$Board;" ∈ am_T := (am_in 257 (by decide +kernel) (by decide +kernel))
theorem lfX4_23 : Cond.fieldLink RX4 23 "KeySieves" "images" "[LKeySieves$Board;" ∈ am_T := (am_in 258 (by decide +kernel) (by decide +kernel))
theorem lfX4_27 : Cond.fieldLink RX4 27 "KeySieves" "kept" "[Z" ∈ am_T := (am_in 259 (by decide +kernel) (by decide +kernel))
theorem lfX4_33 : Cond.fieldLink RX4 33 "KeySieves" "sheets" "[LKeySieves$Sheet;" ∈ am_T := (am_in 260 (by decide +kernel) (by decide +kernel))
theorem lfX4_43 : Cond.fieldLink RX4 43 "KeySieves" "reader" "LKeySieves$TextReader;" ∈ am_T := (am_in 261 (by decide +kernel) (by decide +kernel))
theorem lfX4_69 : Cond.fieldLink RX4 69 "KeySieves" "textFault" "I" ∈ am_T := (am_in 262 (by decide +kernel) (by decide +kernel))
theorem lfX4_292 : Cond.fieldLink RX4 292 "KeySieves" "readFault" "I" ∈ am_T := (am_in 263 (by decide +kernel) (by decide +kernel))
theorem lfX4_47 : Cond.fieldLink RX4 47 "KeySieves" "quietContacts" "[I" ∈ am_T := (am_in 264 (by decide +kernel) (by decide +kernel))
theorem lfX4_51 : Cond.fieldLink RX4 51 "KeySieves" "saidOne" "[I" ∈ am_T := (am_in 265 (by decide +kernel) (by decide +kernel))
theorem lmL_13 : Cond.methodLink RL 13 yX4_feed ∈ am_T := (am_in 291 (by decide +kernel) (by decide +kernel))
theorem lmX4_54 : Cond.methodLink RX4 54 yX4_within ∈ am_T := (am_in 295 (by decide +kernel) (by decide +kernel))
theorem lmL_18 : Cond.methodLink RL 18 yX4_end ∈ am_T := (am_in 298 (by decide +kernel) (by decide +kernel))
theorem lmL_22 : Cond.methodLink RL 22 yX4_text ∈ am_T := (am_in 302 (by decide +kernel) (by decide +kernel))
theorem lmX4_62 : Cond.methodLink RX4 62 yX3_readLines ∈ am_T := (am_in 306 (by decide +kernel) (by decide +kernel))
theorem lmX3_19 : Cond.methodLink RX3 19 yX0_clear ∈ am_T := (am_in 310 (by decide +kernel) (by decide +kernel))
theorem lmX3_24 : Cond.methodLink RX3 24 yJ9_min_7cf53 ∈ am_T := (am_in 314 (by decide +kernel) (by decide +kernel))
theorem lmX3_47 : Cond.methodLink RX3 47 yX3_nextToken ∈ am_T := (am_in 317 (by decide +kernel) (by decide +kernel))
theorem lmX3_110 : Cond.methodLink RX3 110 yX3_isLetter ∈ am_T := (am_in 321 (by decide +kernel) (by decide +kernel))
theorem lmX3_114 : Cond.methodLink RX3 114 yX3_takeName ∈ am_T := (am_in 324 (by decide +kernel) (by decide +kernel))
theorem lmX3_117 : Cond.methodLink RX3 117 yX3_isFigure ∈ am_T := (am_in 328 (by decide +kernel) (by decide +kernel))
theorem lmX3_120 : Cond.methodLink RX3 120 yX3_takeNumber ∈ am_T := (am_in 331 (by decide +kernel) (by decide +kernel))
theorem lmX3_60 : Cond.methodLink RX3 60 yX3_fail ∈ am_T := (am_in 335 (by decide +kernel) (by decide +kernel))
theorem lmX3_53 : Cond.methodLink RX3 53 yX3_readLine ∈ am_T := (am_in 339 (by decide +kernel) (by decide +kernel))
theorem lmX3_64 : Cond.methodLink RX3 64 yX3_lineNamed ∈ am_T := (am_in 343 (by decide +kernel) (by decide +kernel))
theorem lmX3_123 : Cond.methodLink RX3 123 yX3_lineName ∈ am_T := (am_in 347 (by decide +kernel) (by decide +kernel))
theorem lmX3_127 : Cond.methodLink RX3 127 yX3_nameIs ∈ am_T := (am_in 356 (by decide +kernel) (by decide +kernel))
theorem lmX3_131 : Cond.methodLink RX3 131 yJ0_length_8abf5 ∈ am_T := (am_in 360 (by decide +kernel) (by decide +kernel))
theorem lmX3_135 : Cond.methodLink RX3 135 yJ0_charAt_5068e ∈ am_T := (am_in 370 (by decide +kernel) (by decide +kernel))
theorem lmX3_71 : Cond.methodLink RX3 71 yX3_readEvery ∈ am_T := (am_in 408 (by decide +kernel) (by decide +kernel))
theorem lmX3_87 : Cond.methodLink RX3 87 yX3_readNumber ∈ am_T := (am_in 412 (by decide +kernel) (by decide +kernel))
theorem lmX3_74 : Cond.methodLink RX3 74 yX3_readPress ∈ am_T := (am_in 417 (by decide +kernel) (by decide +kernel))
theorem lmX3_97 : Cond.methodLink RX3 97 yX0_addPress ∈ am_T := (am_in 421 (by decide +kernel) (by decide +kernel))
theorem lmX3_77 : Cond.methodLink RX3 77 yX3_readKey ∈ am_T := (am_in 425 (by decide +kernel) (by decide +kernel))
theorem lmX3_90 : Cond.methodLink RX3 90 yX0_addKey ∈ am_T := (am_in 429 (by decide +kernel) (by decide +kernel))
theorem lmX0_65 : Cond.methodLink RX0 65 yX1_begin ∈ am_T := (am_in 433 (by decide +kernel) (by decide +kernel))
theorem lmX1_33 : Cond.methodLink RX1 33 yX1_startRun ∈ am_T := (am_in 437 (by decide +kernel) (by decide +kernel))
theorem lmX3_81 : Cond.methodLink RX3 81 yX3_readSemicolon ∈ am_T := (am_in 441 (by decide +kernel) (by decide +kernel))
theorem lmX3_56 : Cond.methodLink RX3 56 yX0_hasPressOfNoKey ∈ am_T := (am_in 445 (by decide +kernel) (by decide +kernel))
theorem lmX0_127 : Cond.methodLink RX0 127 yX0_hasKey ∈ am_T := (am_in 449 (by decide +kernel) (by decide +kernel))
theorem lmX4_75 : Cond.methodLink RX4 75 yX0_copyFrom ∈ am_T := (am_in 454 (by decide +kernel) (by decide +kernel))
theorem lmX0_53 : Cond.methodLink RX0 53 yX0_copySievesFrom ∈ am_T := (am_in 458 (by decide +kernel) (by decide +kernel))
theorem lmX0_57 : Cond.methodLink RX0 57 yX1_copyFrom ∈ am_T := (am_in 462 (by decide +kernel) (by decide +kernel))
theorem lmL_27 : Cond.methodLink RL 27 yX4_fault ∈ am_T := (am_in 466 (by decide +kernel) (by decide +kernel))
theorem lmL_31 : Cond.methodLink RL 31 yX4_rule ∈ am_T := (am_in 470 (by decide +kernel) (by decide +kernel))
theorem lmX4_91 : Cond.methodLink RX4 91 yX0_saysBits ∈ am_T := (am_in 474 (by decide +kernel) (by decide +kernel))
theorem lmX4_95 : Cond.methodLink RX4 95 yX0_contactBits ∈ am_T := (am_in 478 (by decide +kernel) (by decide +kernel))
theorem lmX0_76 : Cond.methodLink RX0 76 yX0_contactAt ∈ am_T := (am_in 482 (by decide +kernel) (by decide +kernel))
theorem lmX0_69 : Cond.methodLink RX0 69 yX0_latestPress ∈ am_T := (am_in 486 (by decide +kernel) (by decide +kernel))
theorem lmX4_98 : Cond.methodLink RX4 98 yX0_strokesOfAll ∈ am_T := (am_in 490 (by decide +kernel) (by decide +kernel))
theorem lmL_35 : Cond.methodLink RL 35 yX4_key ∈ am_T := (am_in 494 (by decide +kernel) (by decide +kernel))
theorem lmX4_101 : Cond.methodLink RX4 101 yX0_hasKey ∈ am_T := (am_in 498 (by decide +kernel) (by decide +kernel))
theorem lmX4_109 : Cond.methodLink RX4 109 yX1_part ∈ am_T := (am_in 499 (by decide +kernel) (by decide +kernel))
theorem lmL_40 : Cond.methodLink RL 40 yX4_press ∈ am_T := (am_in 503 (by decide +kernel) (by decide +kernel))
theorem lmL_44 : Cond.methodLink RL 44 yX4_contact ∈ am_T := (am_in 507 (by decide +kernel) (by decide +kernel))
theorem lmX4_135 : Cond.methodLink RX4 135 yX0_contactAt ∈ am_T := (am_in 511 (by decide +kernel) (by decide +kernel))
theorem lmL_48 : Cond.methodLink RL 48 yX4_alter ∈ am_T := (am_in 512 (by decide +kernel) (by decide +kernel))
theorem lmX4_139 : Cond.methodLink RX4 139 yX1_mayBe ∈ am_T := (am_in 516 (by decide +kernel) (by decide +kernel))
theorem lmX4_143 : Cond.methodLink RX4 143 yX1_become ∈ am_T := (am_in 520 (by decide +kernel) (by decide +kernel))
theorem lmX1_46 : Cond.methodLink RX1 46 yJ9_min_7cf53 ∈ am_T := (am_in 524 (by decide +kernel) (by decide +kernel))
theorem lmL_53 : Cond.methodLink RL 53 yX4_every ∈ am_T := (am_in 525 (by decide +kernel) (by decide +kernel))
theorem lmL_57 : Cond.methodLink RL 57 yX4_strike ∈ am_T := (am_in 529 (by decide +kernel) (by decide +kernel))
theorem lmX4_147 : Cond.methodLink RX4 147 yX4_putPress ∈ am_T := (am_in 533 (by decide +kernel) (by decide +kernel))
theorem lmX4_151 : Cond.methodLink RX4 151 yX0_addPress ∈ am_T := (am_in 537 (by decide +kernel) (by decide +kernel))
theorem lmL_61 : Cond.methodLink RL 61 yX4_drop ∈ am_T := (am_in 538 (by decide +kernel) (by decide +kernel))
theorem lmL_65 : Cond.methodLink RL 65 yX4_ticks ∈ am_T := (am_in 542 (by decide +kernel) (by decide +kernel))
theorem lmX4_155 : Cond.methodLink RX4 155 yX0_startRun ∈ am_T := (am_in 546 (by decide +kernel) (by decide +kernel))
theorem lmX0_89 : Cond.methodLink RX0 89 yX1_startRun ∈ am_T := (am_in 550 (by decide +kernel) (by decide +kernel))
theorem lmX4_158 : Cond.methodLink RX4 158 yX0_advance ∈ am_T := (am_in 551 (by decide +kernel) (by decide +kernel))
theorem lmX0_102 : Cond.methodLink RX0 102 yX0_contactBits ∈ am_T := (am_in 555 (by decide +kernel) (by decide +kernel))
theorem lmX0_106 : Cond.methodLink RX0 106 yX0_tickWith ∈ am_T := (am_in 556 (by decide +kernel) (by decide +kernel))
theorem lmX0_98 : Cond.methodLink RX0 98 yX1_look ∈ am_T := (am_in 560 (by decide +kernel) (by decide +kernel))
theorem lmX1_52 : Cond.methodLink RX1 52 yX1_weigh ∈ am_T := (am_in 564 (by decide +kernel) (by decide +kernel))
theorem lmX1_63 : Cond.methodLink RX1 63 yJ9_max_7cf53 ∈ am_T := (am_in 568 (by decide +kernel) (by decide +kernel))
theorem lmX1_56 : Cond.methodLink RX1 56 yX1_compare ∈ am_T := (am_in 571 (by decide +kernel) (by decide +kernel))
theorem lmX1_59 : Cond.methodLink RX1 59 yX1_say ∈ am_T := (am_in 575 (by decide +kernel) (by decide +kernel))
theorem lmX4_162 : Cond.methodLink RX4 162 yX0_struckInRun ∈ am_T := (am_in 579 (by decide +kernel) (by decide +kernel))
theorem lmL_69 : Cond.methodLink RL 69 yX4_runs ∈ am_T := (am_in 583 (by decide +kernel) (by decide +kernel))
theorem lmX4_165 : Cond.methodLink RX4 165 yX4_isRun ∈ am_T := (am_in 587 (by decide +kernel) (by decide +kernel))
theorem lmX4_168 : Cond.methodLink RX4 168 yX4_copyToTry ∈ am_T := (am_in 590 (by decide +kernel) (by decide +kernel))
theorem lmX4_172 : Cond.methodLink RX4 172 yX0_advanceCountingWrong ∈ am_T := (am_in 594 (by decide +kernel) (by decide +kernel))
theorem lmX0_109 : Cond.methodLink RX0 109 yX0_saysBits ∈ am_T := (am_in 598 (by decide +kernel) (by decide +kernel))
theorem lmX4_175 : Cond.methodLink RX4 175 yX0_changedInRun ∈ am_T := (am_in 599 (by decide +kernel) (by decide +kernel))
theorem lmL_73 : Cond.methodLink RL 73 yX4_ahead ∈ am_T := (am_in 603 (by decide +kernel) (by decide +kernel))
theorem lmL_77 : Cond.methodLink RL 77 yX4_when ∈ am_T := (am_in 607 (by decide +kernel) (by decide +kernel))
theorem lmL_81 : Cond.methodLink RL 81 yX4_due ∈ am_T := (am_in 611 (by decide +kernel) (by decide +kernel))
theorem lmX4_181 : Cond.methodLink RX4 181 yX0_dueIn ∈ am_T := (am_in 615 (by decide +kernel) (by decide +kernel))
theorem lmL_85 : Cond.methodLink RL 85 yX4_need ∈ am_T := (am_in 619 (by decide +kernel) (by decide +kernel))
theorem lmX4_184 : Cond.methodLink RX4 184 yX4_strokesOfOne ∈ am_T := (am_in 623 (by decide +kernel) (by decide +kernel))
theorem lmX4_189 : Cond.methodLink RX4 189 yX4_copyAltered ∈ am_T := (am_in 627 (by decide +kernel) (by decide +kernel))
theorem lmL_89 : Cond.methodLink RL 89 yX4_bear ∈ am_T := (am_in 631 (by decide +kernel) (by decide +kernel))
theorem lmL_93 : Cond.methodLink RL 93 yX4_kind ∈ am_T := (am_in 635 (by decide +kernel) (by decide +kernel))
theorem lkX4_188 : Cond.constant RX4 188 (1000000) ∈ am_T := (am_in 639 (by decide +kernel) (by decide +kernel))
theorem lmX4_193 : Cond.methodLink RX4 193 yX4_missOf ∈ am_T := (am_in 640 (by decide +kernel) (by decide +kernel))
theorem lmX4_197 : Cond.methodLink RX4 197 yX4_strokesIn ∈ am_T := (am_in 643 (by decide +kernel) (by decide +kernel))
theorem lmX4_203 : Cond.methodLink RX4 203 yJ9_abs_0f7a4 ∈ am_T := (am_in 646 (by decide +kernel) (by decide +kernel))
theorem lmL_97 : Cond.methodLink RL 97 yX4_slow ∈ am_T := (am_in 649 (by decide +kernel) (by decide +kernel))
theorem lmL_101 : Cond.methodLink RL 101 yX4_lose ∈ am_T := (am_in 653 (by decide +kernel) (by decide +kernel))
theorem lmX4_200 : Cond.methodLink RX4 200 yX0_removePress ∈ am_T := (am_in 657 (by decide +kernel) (by decide +kernel))
theorem lmL_105 : Cond.methodLink RL 105 yX4_luck ∈ am_T := (am_in 661 (by decide +kernel) (by decide +kernel))
theorem lmX4_208 : Cond.methodLink RX4 208 yX4_isNoise ∈ am_T := (am_in 665 (by decide +kernel) (by decide +kernel))
theorem lkX4_211 : Cond.constantLong RX4 211 (-1) ∈ am_T := (am_in 668 (by decide +kernel) (by decide +kernel))
theorem lmX4_213 : Cond.methodLink RX4 213 yX4_listenQuietly ∈ am_T := (am_in 669 (by decide +kernel) (by decide +kernel))
theorem lmX4_216 : Cond.methodLink RX4 216 yX4_weightOf ∈ am_T := (am_in 673 (by decide +kernel) (by decide +kernel))
theorem lmX4_238 : Cond.methodLink RX4 238 yJ6_bitCount_0f7a4 ∈ am_T := (am_in 676 (by decide +kernel) (by decide +kernel))
theorem lmX4_224 : Cond.methodLink RX4 224 yX4_power ∈ am_T := (am_in 682 (by decide +kernel) (by decide +kernel))
theorem lmX4_220 : Cond.methodLink RX4 220 yX4_runNoisily ∈ am_T := (am_in 685 (by decide +kernel) (by decide +kernel))
theorem lmX4_232 : Cond.methodLink RX4 232 yX0_copySievesFrom ∈ am_T := (am_in 689 (by decide +kernel) (by decide +kernel))
theorem lmX4_235 : Cond.methodLink RX4 235 yX0_tickWith ∈ am_T := (am_in 690 (by decide +kernel) (by decide +kernel))
theorem lmX4_228 : Cond.methodLink RX4 228 yX4_partOfFraction ∈ am_T := (am_in 691 (by decide +kernel) (by decide +kernel))
theorem lmX4_243 : Cond.methodLink RX4 243 yX4_commonDivisor ∈ am_T := (am_in 694 (by decide +kernel) (by decide +kernel))
theorem lmL_110 : Cond.methodLink RL 110 yX4_mean ∈ am_T := (am_in 697 (by decide +kernel) (by decide +kernel))
theorem lmL_115 : Cond.methodLink RL 115 yX4_see ∈ am_T := (am_in 701 (by decide +kernel) (by decide +kernel))
theorem lmX4_250 : Cond.methodLink RX4 250 yX0_addSeen ∈ am_T := (am_in 705 (by decide +kernel) (by decide +kernel))
theorem lmL_119 : Cond.methodLink RL 119 yX4_forget ∈ am_T := (am_in 709 (by decide +kernel) (by decide +kernel))
theorem lmL_123 : Cond.methodLink RL 123 yX4_kinds ∈ am_T := (am_in 713 (by decide +kernel) (by decide +kernel))
theorem lmX4_253 : Cond.methodLink RX4 253 yX4_fitting ∈ am_T := (am_in 717 (by decide +kernel) (by decide +kernel))
theorem lmX4_262 : Cond.methodLink RX4 262 yX0_isAsSeen ∈ am_T := (am_in 721 (by decide +kernel) (by decide +kernel))
theorem lmX0_112 : Cond.methodLink RX0 112 yX0_lastSeenTicks ∈ am_T := (am_in 725 (by decide +kernel) (by decide +kernel))
theorem lmX0_122 : Cond.methodLink RX0 122 yJ9_max_7cf53 ∈ am_T := (am_in 729 (by decide +kernel) (by decide +kernel))
theorem lmX0_115 : Cond.methodLink RX0 115 yX0_saysAsSeenBehind ∈ am_T := (am_in 730 (by decide +kernel) (by decide +kernel))
theorem lmX0_119 : Cond.methodLink RX0 119 yX0_advance ∈ am_T := (am_in 734 (by decide +kernel) (by decide +kernel))
theorem lmL_127 : Cond.methodLink RL 127 yX4_numbers ∈ am_T := (am_in 735 (by decide +kernel) (by decide +kernel))
theorem lmL_131 : Cond.methodLink RL 131 yX4_bounces ∈ am_T := (am_in 739 (by decide +kernel) (by decide +kernel))
theorem lmL_135 : Cond.methodLink RL 135 yX4_ask ∈ am_T := (am_in 743 (by decide +kernel) (by decide +kernel))
theorem lmX4_256 : Cond.methodLink RX4 256 yX4_countSayers ∈ am_T := (am_in 747 (by decide +kernel) (by decide +kernel))
theorem lmX4_266 : Cond.methodLink RX4 266 yX4_addSayings ∈ am_T := (am_in 751 (by decide +kernel) (by decide +kernel))
theorem lmX4_259 : Cond.methodLink RX4 259 yJ9_max_7cf53 ∈ am_T := (am_in 755 (by decide +kernel) (by decide +kernel))
theorem lmL_139 : Cond.methodLink RL 139 yX4_drift ∈ am_T := (am_in 756 (by decide +kernel) (by decide +kernel))
theorem lkX4_270 : Cond.constant RX4 270 (1103515245) ∈ am_T := (am_in 760 (by decide +kernel) (by decide +kernel))
theorem lmL_143 : Cond.methodLink RL 143 yX4_keep ∈ am_T := (am_in 761 (by decide +kernel) (by decide +kernel))
theorem lmL_147 : Cond.methodLink RL 147 yX4_back ∈ am_T := (am_in 765 (by decide +kernel) (by decide +kernel))
theorem lmL_151 : Cond.methodLink RL 151 yX4_sheet ∈ am_T := (am_in 769 (by decide +kernel) (by decide +kernel))
theorem lmX4_271 : Cond.methodLink RX4 271 yX4_isSheet ∈ am_T := (am_in 773 (by decide +kernel) (by decide +kernel))
theorem lmX4_274 : Cond.methodLink RX4 274 yX2_isLane ∈ am_T := (am_in 776 (by decide +kernel) (by decide +kernel))
theorem lmX4_277 : Cond.methodLink RX4 277 yX2_renew ∈ am_T := (am_in 780 (by decide +kernel) (by decide +kernel))
theorem lmX2_23 : Cond.methodLink RX2 23 yJ9_min_7cf53 ∈ am_T := (am_in 784 (by decide +kernel) (by decide +kernel))
theorem lmL_155 : Cond.methodLink RL 155 yX4_lay ∈ am_T := (am_in 785 (by decide +kernel) (by decide +kernel))
theorem lmX4_280 : Cond.methodLink RX4 280 yX2_faultAt ∈ am_T := (am_in 789 (by decide +kernel) (by decide +kernel))
theorem lmX2_32 : Cond.methodLink RX2 32 yX2_isNothing ∈ am_T := (am_in 793 (by decide +kernel) (by decide +kernel))
theorem lmX4_283 : Cond.methodLink RX4 283 yX2_put ∈ am_T := (am_in 797 (by decide +kernel) (by decide +kernel))
theorem lmX2_40 : Cond.methodLink RX2 40 yX2_faultAt ∈ am_T := (am_in 801 (by decide +kernel) (by decide +kernel))
theorem lmL_159 : Cond.methodLink RL 159 yX4_read ∈ am_T := (am_in 802 (by decide +kernel) (by decide +kernel))
theorem lmX4_286 : Cond.methodLink RX4 286 yX2_faultOfThree ∈ am_T := (am_in 806 (by decide +kernel) (by decide +kernel))
theorem lmX2_36 : Cond.methodLink RX2 36 yX2_faultAs ∈ am_T := (am_in 810 (by decide +kernel) (by decide +kernel))
theorem lmX4_289 : Cond.methodLink RX4 289 yX2_get ∈ am_T := (am_in 814 (by decide +kernel) (by decide +kernel))
theorem lmL_164 : Cond.methodLink RL 164 yX4_torn ∈ am_T := (am_in 818 (by decide +kernel) (by decide +kernel))
theorem lmL_168 : Cond.methodLink RL 168 yX4_count ∈ am_T := (am_in 822 (by decide +kernel) (by decide +kernel))
theorem lmX4_295 : Cond.methodLink RX4 295 yX2_isNothing ∈ am_T := (am_in 826 (by decide +kernel) (by decide +kernel))
theorem lmX4_301 : Cond.methodLink RX4 301 yX0_sumOfPart ∈ am_T := (am_in 827 (by decide +kernel) (by decide +kernel))
theorem lmX0_85 : Cond.methodLink RX0 85 yX1_part ∈ am_T := (am_in 831 (by decide +kernel) (by decide +kernel))
theorem lmL_12 : Cond.methodLink RL 12 yX5_init ∈ am_T := (am_in 834 (by decide +kernel) (by decide +kernel))
-- methodLink RX5 1 ('java/lang/Object', '<init>', '()V')
theorem lmX5_47 : Cond.methodLink RX5 47 yX5_firstDraft ∈ am_T := (am_in 838 (by decide +kernel) (by decide +kernel))
theorem lmX5_50 : Cond.methodLink RX5 50 yX5_keepDraft ∈ am_T := (am_in 842 (by decide +kernel) (by decide +kernel))
theorem lfX5_7 : Cond.fieldLink RX5 7 "KeySievesModel" "st" "[I" ∈ am_T := (am_in 846 (by decide +kernel) (by decide +kernel))
theorem lfX5_13 : Cond.fieldLink RX5 13 "KeySievesModel" "now" "[I" ∈ am_T := (am_in 847 (by decide +kernel) (by decide +kernel))
theorem lfX5_16 : Cond.fieldLink RX5 16 "KeySievesModel" "isKept" "[Z" ∈ am_T := (am_in 848 (by decide +kernel) (by decide +kernel))
theorem lfX5_20 : Cond.fieldLink RX5 20 "KeySievesModel" "draft" "[I" ∈ am_T := (am_in 849 (by decide +kernel) (by decide +kernel))
theorem lfX5_53 : Cond.fieldLink RX5 53 "KeySievesModel" "hasEvery" "Z" ∈ am_T := (am_in 850 (by decide +kernel) (by decide +kernel))
theorem lfX5_57 : Cond.fieldLink RX5 57 "KeySievesModel" "highest" "I" ∈ am_T := (am_in 851 (by decide +kernel) (by decide +kernel))
theorem lfX5_23 : Cond.fieldLink RX5 23 "KeySievesModel" "tape" "[I" ∈ am_T := (am_in 852 (by decide +kernel) (by decide +kernel))
theorem lfX5_67 : Cond.fieldLink RX5 67 "KeySievesModel" "taped" "I" ∈ am_T := (am_in 853 (by decide +kernel) (by decide +kernel))
theorem lfX5_79 : Cond.fieldLink RX5 79 "KeySievesModel" "pos" "I" ∈ am_T := (am_in 854 (by decide +kernel) (by decide +kernel))
theorem lfX5_73 : Cond.fieldLink RX5 73 "KeySievesModel" "begun" "I" ∈ am_T := (am_in 855 (by decide +kernel) (by decide +kernel))
theorem lfX5_94 : Cond.fieldLink RX5 94 "KeySievesModel" "sort" "I" ∈ am_T := (am_in 856 (by decide +kernel) (by decide +kernel))
theorem lfX5_105 : Cond.fieldLink RX5 105 "KeySievesModel" "value" "I" ∈ am_T := (am_in 857 (by decide +kernel) (by decide +kernel))
theorem lfX5_70 : Cond.fieldLink RX5 70 "KeySievesModel" "fault" "I" ∈ am_T := (am_in 858 (by decide +kernel) (by decide +kernel))
theorem lfX5_76 : Cond.fieldLink RX5 76 "KeySievesModel" "wrongAt" "I" ∈ am_T := (am_in 859 (by decide +kernel) (by decide +kernel))
theorem lfX5_26 : Cond.fieldLink RX5 26 "KeySievesModel" "struck" "[I" ∈ am_T := (am_in 860 (by decide +kernel) (by decide +kernel))
theorem lfX5_133 : Cond.fieldLink RX5 133 "KeySievesModel" "changes" "I" ∈ am_T := (am_in 861 (by decide +kernel) (by decide +kernel))
theorem lfX5_136 : Cond.fieldLink RX5 136 "KeySievesModel" "lost" "I" ∈ am_T := (am_in 862 (by decide +kernel) (by decide +kernel))
theorem lfX5_246 : Cond.fieldLink RX5 246 "KeySievesModel" "bestCode" "I" ∈ am_T := (am_in 863 (by decide +kernel) (by decide +kernel))
theorem lfX5_249 : Cond.fieldLink RX5 249 "KeySievesModel" "bestMuch" "I" ∈ am_T := (am_in 864 (by decide +kernel) (by decide +kernel))
theorem lfX5_275 : Cond.fieldLink RX5 275 "KeySievesModel" "saySum" "J" ∈ am_T := (am_in 865 (by decide +kernel) (by decide +kernel))
theorem lfX5_279 : Cond.fieldLink RX5 279 "KeySievesModel" "strokeSum" "J" ∈ am_T := (am_in 866 (by decide +kernel) (by decide +kernel))
theorem lfX5_282 : Cond.fieldLink RX5 282 "KeySievesModel" "allWays" "J" ∈ am_T := (am_in 867 (by decide +kernel) (by decide +kernel))
theorem lfX5_29 : Cond.fieldLink RX5 29 "KeySievesModel" "saidBy" "[I" ∈ am_T := (am_in 868 (by decide +kernel) (by decide +kernel))
theorem lfX5_32 : Cond.fieldLink RX5 32 "KeySievesModel" "sayBy" "[I" ∈ am_T := (am_in 869 (by decide +kernel) (by decide +kernel))
theorem lfX5_35 : Cond.fieldLink RX5 35 "KeySievesModel" "lanes" "[I" ∈ am_T := (am_in 870 (by decide +kernel) (by decide +kernel))
theorem lfX5_38 : Cond.fieldLink RX5 38 "KeySievesModel" "sizes" "[I" ∈ am_T := (am_in 871 (by decide +kernel) (by decide +kernel))
theorem lfX5_41 : Cond.fieldLink RX5 41 "KeySievesModel" "cells" "[I" ∈ am_T := (am_in 872 (by decide +kernel) (by decide +kernel))
theorem lfX5_320 : Cond.fieldLink RX5 320 "KeySievesModel" "torn" "I" ∈ am_T := (am_in 873 (by decide +kernel) (by decide +kernel))
theorem lfX5_44 : Cond.fieldLink RX5 44 "KeySievesModel" "before" "[I" ∈ am_T := (am_in 874 (by decide +kernel) (by decide +kernel))
theorem lmL_17 : Cond.methodLink RL 17 yX5_feed ∈ am_T := (am_in 934 (by decide +kernel) (by decide +kernel))
theorem lkX5_61 : Cond.constantLong RX5 61 (127) ∈ am_T := (am_in 938 (by decide +kernel) (by decide +kernel))
theorem lmX5_63 : Cond.methodLink RX5 63 yX5_in ∈ am_T := (am_in 939 (by decide +kernel) (by decide +kernel))
theorem lmL_21 : Cond.methodLink RL 21 yX5_end ∈ am_T := (am_in 942 (by decide +kernel) (by decide +kernel))
theorem lmL_26 : Cond.methodLink RL 26 yX5_text ∈ am_T := (am_in 946 (by decide +kernel) (by decide +kernel))
theorem lmX5_112 : Cond.methodLink RX5 112 yX5_reads ∈ am_T := (am_in 950 (by decide +kernel) (by decide +kernel))
theorem lmX5_82 : Cond.methodLink RX5 82 yX5_byteAt ∈ am_T := (am_in 954 (by decide +kernel) (by decide +kernel))
theorem lkX5_97 : Cond.constantLong RX5 97 (97) ∈ am_T := (am_in 958 (by decide +kernel) (by decide +kernel))
theorem lkX5_99 : Cond.constantLong RX5 99 (122) ∈ am_T := (am_in 959 (by decide +kernel) (by decide +kernel))
theorem lkX5_101 : Cond.constantLong RX5 101 (48) ∈ am_T := (am_in 960 (by decide +kernel) (by decide +kernel))
theorem lkX5_103 : Cond.constantLong RX5 103 (57) ∈ am_T := (am_in 961 (by decide +kernel) (by decide +kernel))
theorem lmX5_108 : Cond.methodLink RX5 108 yX5_requires ∈ am_T := (am_in 962 (by decide +kernel) (by decide +kernel))
theorem lmX5_130 : Cond.methodLink RX5 130 yX5_readLine ∈ am_T := (am_in 966 (by decide +kernel) (by decide +kernel))
theorem lmX5_122 : Cond.methodLink RX5 122 yX5_lineNow ∈ am_T := (am_in 970 (by decide +kernel) (by decide +kernel))
theorem lmX5_86 : Cond.methodLink RX5 86 yX5_is ∈ am_T := (am_in 974 (by decide +kernel) (by decide +kernel))
theorem lmX5_90 : Cond.methodLink RX5 90 yX5_endsIn ∈ am_T := (am_in 978 (by decide +kernel) (by decide +kernel))
theorem lmX5_126 : Cond.methodLink RX5 126 yX5_readLineOf ∈ am_T := (am_in 982 (by decide +kernel) (by decide +kernel))
theorem lmX5_119 : Cond.methodLink RX5 119 yX5_readPress ∈ am_T := (am_in 986 (by decide +kernel) (by decide +kernel))
theorem lmX5_115 : Cond.methodLink RX5 115 yX5_readNumber ∈ am_T := (am_in 990 (by decide +kernel) (by decide +kernel))
theorem lmL_30 : Cond.methodLink RL 30 yX5_fault ∈ am_T := (am_in 994 (by decide +kernel) (by decide +kernel))
theorem lmL_34 : Cond.methodLink RL 34 yX5_rule ∈ am_T := (am_in 998 (by decide +kernel) (by decide +kernel))
theorem lmX5_183 : Cond.methodLink RX5 183 yX5_starts ∈ am_T := (am_in 1002 (by decide +kernel) (by decide +kernel))
theorem lmX5_186 : Cond.methodLink RX5 186 yX5_says ∈ am_T := (am_in 1006 (by decide +kernel) (by decide +kernel))
theorem lmX5_145 : Cond.methodLink RX5 145 yX5_of ∈ am_T := (am_in 1010 (by decide +kernel) (by decide +kernel))
theorem lmX5_177 : Cond.methodLink RX5 177 yX5_contactsNow ∈ am_T := (am_in 1014 (by decide +kernel) (by decide +kernel))
theorem lmX5_171 : Cond.methodLink RX5 171 yX5_contactOf ∈ am_T := (am_in 1018 (by decide +kernel) (by decide +kernel))
theorem lmX5_142 : Cond.methodLink RX5 142 yX5_latestPress ∈ am_T := (am_in 1022 (by decide +kernel) (by decide +kernel))
theorem lmX5_139 : Cond.methodLink RX5 139 yX5_ofPress ∈ am_T := (am_in 1026 (by decide +kernel) (by decide +kernel))
theorem lmX5_189 : Cond.methodLink RX5 189 yX5_sumOf ∈ am_T := (am_in 1030 (by decide +kernel) (by decide +kernel))
theorem lmL_39 : Cond.methodLink RL 39 yX5_key ∈ am_T := (am_in 1034 (by decide +kernel) (by decide +kernel))
theorem lmX5_192 : Cond.methodLink RX5 192 yX5_isKey ∈ am_T := (am_in 1038 (by decide +kernel) (by decide +kernel))
theorem lkX5_196 : Cond.constantLong RX5 196 (6) ∈ am_T := (am_in 1042 (by decide +kernel) (by decide +kernel))
theorem lmL_43 : Cond.methodLink RL 43 yX5_press ∈ am_T := (am_in 1043 (by decide +kernel) (by decide +kernel))
theorem lkX5_198 : Cond.constantLong RX5 198 (2) ∈ am_T := (am_in 1047 (by decide +kernel) (by decide +kernel))
theorem lmL_47 : Cond.methodLink RL 47 yX5_contact ∈ am_T := (am_in 1048 (by decide +kernel) (by decide +kernel))
theorem lkX5_200 : Cond.constantLong RX5 200 (999) ∈ am_T := (am_in 1052 (by decide +kernel) (by decide +kernel))
theorem lmL_52 : Cond.methodLink RL 52 yX5_alter ∈ am_T := (am_in 1053 (by decide +kernel) (by decide +kernel))
theorem lmX5_202 : Cond.methodLink RX5 202 yX5_lowOf ∈ am_T := (am_in 1057 (by decide +kernel) (by decide +kernel))
theorem lmX5_205 : Cond.methodLink RX5 205 yX5_mostOf ∈ am_T := (am_in 1060 (by decide +kernel) (by decide +kernel))
theorem lmX5_208 : Cond.methodLink RX5 208 yX5_becomes ∈ am_T := (am_in 1063 (by decide +kernel) (by decide +kernel))
theorem lmX5_211 : Cond.methodLink RX5 211 yX5_cutsSum ∈ am_T := (am_in 1067 (by decide +kernel) (by decide +kernel))
theorem lmX5_152 : Cond.methodLink RX5 152 yX5_within ∈ am_T := (am_in 1071 (by decide +kernel) (by decide +kernel))
theorem lmX5_148 : Cond.methodLink RX5 148 yX5_becomesOf ∈ am_T := (am_in 1074 (by decide +kernel) (by decide +kernel))
theorem lmX5_214 : Cond.methodLink RX5 214 yX5_settles ∈ am_T := (am_in 1078 (by decide +kernel) (by decide +kernel))
theorem lmL_56 : Cond.methodLink RL 56 yX5_every ∈ am_T := (am_in 1082 (by decide +kernel) (by decide +kernel))
theorem lkX5_217 : Cond.constantLong RX5 217 (4) ∈ am_T := (am_in 1086 (by decide +kernel) (by decide +kernel))
theorem lmL_60 : Cond.methodLink RL 60 yX5_strike ∈ am_T := (am_in 1087 (by decide +kernel) (by decide +kernel))
theorem lkX5_219 : Cond.constantLong RX5 219 (99) ∈ am_T := (am_in 1091 (by decide +kernel) (by decide +kernel))
theorem lmL_64 : Cond.methodLink RL 64 yX5_drop ∈ am_T := (am_in 1092 (by decide +kernel) (by decide +kernel))
theorem lmL_68 : Cond.methodLink RL 68 yX5_ticks ∈ am_T := (am_in 1096 (by decide +kernel) (by decide +kernel))
theorem lkX5_221 : Cond.constantLong RX5 221 (100) ∈ am_T := (am_in 1100 (by decide +kernel) (by decide +kernel))
theorem lmX5_223 : Cond.methodLink RX5 223 yX5_ticksGo ∈ am_T := (am_in 1101 (by decide +kernel) (by decide +kernel))
theorem lmX5_180 : Cond.methodLink RX5 180 yX5_tickGoesBy ∈ am_T := (am_in 1105 (by decide +kernel) (by decide +kernel))
theorem lmX5_174 : Cond.methodLink RX5 174 yX5_looks ∈ am_T := (am_in 1109 (by decide +kernel) (by decide +kernel))
theorem lmX5_165 : Cond.methodLink RX5 165 yX5_weighs ∈ am_T := (am_in 1113 (by decide +kernel) (by decide +kernel))
theorem lmX5_155 : Cond.methodLink RX5 155 yX5_comesToSay ∈ am_T := (am_in 1117 (by decide +kernel) (by decide +kernel))
theorem lmX5_168 : Cond.methodLink RX5 168 yX5_countsUp ∈ am_T := (am_in 1121 (by decide +kernel) (by decide +kernel))
theorem lmX5_159 : Cond.methodLink RX5 159 yX5_wants ∈ am_T := (am_in 1125 (by decide +kernel) (by decide +kernel))
theorem lmX5_162 : Cond.methodLink RX5 162 yX5_shuts ∈ am_T := (am_in 1129 (by decide +kernel) (by decide +kernel))
theorem lmX5_226 : Cond.methodLink RX5 226 yX5_struckByAll ∈ am_T := (am_in 1133 (by decide +kernel) (by decide +kernel))
theorem lmL_72 : Cond.methodLink RL 72 yX5_runs ∈ am_T := (am_in 1137 (by decide +kernel) (by decide +kernel))
theorem lmX5_231 : Cond.methodLink RX5 231 yX5_isFar ∈ am_T := (am_in 1141 (by decide +kernel) (by decide +kernel))
theorem lkX5_229 : Cond.constantLong RX5 229 (200) ∈ am_T := (am_in 1144 (by decide +kernel) (by decide +kernel))
theorem lkX5_234 : Cond.constantLong RX5 234 (3) ∈ am_T := (am_in 1145 (by decide +kernel) (by decide +kernel))
theorem lmX5_236 : Cond.methodLink RX5 236 yX5_flag ∈ am_T := (am_in 1146 (by decide +kernel) (by decide +kernel))
theorem lmL_76 : Cond.methodLink RL 76 yX5_ahead ∈ am_T := (am_in 1149 (by decide +kernel) (by decide +kernel))
theorem lmX5_240 : Cond.methodLink RX5 240 yX5_isPart ∈ am_T := (am_in 1153 (by decide +kernel) (by decide +kernel))
theorem lmL_80 : Cond.methodLink RL 80 yX5_when ∈ am_T := (am_in 1156 (by decide +kernel) (by decide +kernel))
theorem lmL_84 : Cond.methodLink RL 84 yX5_due ∈ am_T := (am_in 1160 (by decide +kernel) (by decide +kernel))
theorem lmX5_243 : Cond.methodLink RX5 243 yX5_dueIn ∈ am_T := (am_in 1164 (by decide +kernel) (by decide +kernel))
theorem lmL_88 : Cond.methodLink RL 88 yX5_need ∈ am_T := (am_in 1168 (by decide +kernel) (by decide +kernel))
theorem lkX5_255 : Cond.constantLong RX5 255 (20) ∈ am_T := (am_in 1172 (by decide +kernel) (by decide +kernel))
theorem lmX5_257 : Cond.methodLink RX5 257 yX5_strikesJust ∈ am_T := (am_in 1173 (by decide +kernel) (by decide +kernel))
theorem lmX5_252 : Cond.methodLink RX5 252 yX5_startsWith ∈ am_T := (am_in 1177 (by decide +kernel) (by decide +kernel))
theorem lmL_92 : Cond.methodLink RL 92 yX5_bear ∈ am_T := (am_in 1181 (by decide +kernel) (by decide +kernel))
theorem lmL_96 : Cond.methodLink RL 96 yX5_kind ∈ am_T := (am_in 1185 (by decide +kernel) (by decide +kernel))
theorem lkX5_261 : Cond.constant RX5 261 (1000000) ∈ am_T := (am_in 1189 (by decide +kernel) (by decide +kernel))
theorem lmX5_262 : Cond.methodLink RX5 262 yX5_startsJudging ∈ am_T := (am_in 1190 (by decide +kernel) (by decide +kernel))
theorem lmX5_265 : Cond.methodLink RX5 265 yX5_offIn ∈ am_T := (am_in 1194 (by decide +kernel) (by decide +kernel))
theorem lmX5_268 : Cond.methodLink RX5 268 yX5_judges ∈ am_T := (am_in 1198 (by decide +kernel) (by decide +kernel))
theorem lmL_100 : Cond.methodLink RL 100 yX5_slow ∈ am_T := (am_in 1202 (by decide +kernel) (by decide +kernel))
theorem lmL_104 : Cond.methodLink RL 104 yX5_lose ∈ am_T := (am_in 1206 (by decide +kernel) (by decide +kernel))
theorem lmL_109 : Cond.methodLink RL 109 yX5_luck ∈ am_T := (am_in 1210 (by decide +kernel) (by decide +kernel))
theorem lkX5_285 : Cond.constantLong RX5 285 (10) ∈ am_T := (am_in 1214 (by decide +kernel) (by decide +kernel))
theorem lkX5_287 : Cond.constantLong RX5 287 (8) ∈ am_T := (am_in 1215 (by decide +kernel) (by decide +kernel))
theorem lkX5_289 : Cond.constantLong RX5 289 (-1) ∈ am_T := (am_in 1216 (by decide +kernel) (by decide +kernel))
theorem lmX5_291 : Cond.methodLink RX5 291 yX5_findOdds ∈ am_T := (am_in 1217 (by decide +kernel) (by decide +kernel))
theorem lmX5_294 : Cond.methodLink RX5 294 yX5_lowest ∈ am_T := (am_in 1221 (by decide +kernel) (by decide +kernel))
theorem lmX5_271 : Cond.methodLink RX5 271 yX5_common ∈ am_T := (am_in 1224 (by decide +kernel) (by decide +kernel))
theorem lmL_114 : Cond.methodLink RL 114 yX5_mean ∈ am_T := (am_in 1227 (by decide +kernel) (by decide +kernel))
theorem lmL_118 : Cond.methodLink RL 118 yX5_see ∈ am_T := (am_in 1231 (by decide +kernel) (by decide +kernel))
theorem lkX5_298 : Cond.constantLong RX5 298 (40) ∈ am_T := (am_in 1235 (by decide +kernel) (by decide +kernel))
theorem lmL_122 : Cond.methodLink RL 122 yX5_forget ∈ am_T := (am_in 1236 (by decide +kernel) (by decide +kernel))
theorem lmL_126 : Cond.methodLink RL 126 yX5_kinds ∈ am_T := (am_in 1240 (by decide +kernel) (by decide +kernel))
theorem lmX5_304 : Cond.methodLink RX5 304 yX5_which ∈ am_T := (am_in 1244 (by decide +kernel) (by decide +kernel))
theorem lmX5_300 : Cond.methodLink RX5 300 yX5_isSoWith ∈ am_T := (am_in 1248 (by decide +kernel) (by decide +kernel))
theorem lmL_130 : Cond.methodLink RL 130 yX5_numbers ∈ am_T := (am_in 1252 (by decide +kernel) (by decide +kernel))
theorem lmL_134 : Cond.methodLink RL 134 yX5_bounces ∈ am_T := (am_in 1256 (by decide +kernel) (by decide +kernel))
theorem lmL_138 : Cond.methodLink RL 138 yX5_ask ∈ am_T := (am_in 1260 (by decide +kernel) (by decide +kernel))
theorem lmL_142 : Cond.methodLink RL 142 yX5_drift ∈ am_T := (am_in 1264 (by decide +kernel) (by decide +kernel))
theorem lkX5_307 : Cond.constant RX5 307 (1103515245) ∈ am_T := (am_in 1268 (by decide +kernel) (by decide +kernel))
theorem lmL_146 : Cond.methodLink RL 146 yX5_keep ∈ am_T := (am_in 1269 (by decide +kernel) (by decide +kernel))
theorem lmX5_308 : Cond.methodLink RX5 308 yX5_copies ∈ am_T := (am_in 1273 (by decide +kernel) (by decide +kernel))
theorem lmL_150 : Cond.methodLink RL 150 yX5_back ∈ am_T := (am_in 1277 (by decide +kernel) (by decide +kernel))
theorem lmL_154 : Cond.methodLink RL 154 yX5_sheet ∈ am_T := (am_in 1281 (by decide +kernel) (by decide +kernel))
theorem lmX5_311 : Cond.methodLink RX5 311 yX5_isSheet ∈ am_T := (am_in 1285 (by decide +kernel) (by decide +kernel))
theorem lmL_158 : Cond.methodLink RL 158 yX5_lay ∈ am_T := (am_in 1288 (by decide +kernel) (by decide +kernel))
theorem lmL_163 : Cond.methodLink RL 163 yX5_read ∈ am_T := (am_in 1292 (by decide +kernel) (by decide +kernel))
theorem lkX5_314 : Cond.constantLong RX5 314 (13) ∈ am_T := (am_in 1296 (by decide +kernel) (by decide +kernel))
theorem lmX5_316 : Cond.methodLink RX5 316 yX5_strike ∈ am_T := (am_in 1297 (by decide +kernel) (by decide +kernel))
theorem lmL_167 : Cond.methodLink RL 167 yX5_torn ∈ am_T := (am_in 1298 (by decide +kernel) (by decide +kernel))
theorem lmL_171 : Cond.methodLink RL 171 yX5_count ∈ am_T := (am_in 1302 (by decide +kernel) (by decide +kernel))
theorem am_lay0 : ∀ w ∈ u_ws RX0 TX0 12, w ∈ am_T := by
  have h : u_ws RX0 TX0 12 = [169, 171, 173, 175, 177, 179, 181, 183, 185, 187, 189, 191].filterMap (fun i => lw_tbl[i]?) := by decide +kernel
  have g : (u_ws RX0 TX0 12).all goodWord = true := by decide +kernel
  intro w hw
  refine List.mem_filter.mpr ⟨?_, List.all_eq_true.mp g w hw⟩
  rw [h] at hw
  obtain ⟨i, -, hi⟩ := List.mem_filterMap.mp hw
  exact List.mem_of_getElem? hi
theorem am_lay1 : ∀ w ∈ u_ws RX1 TX1 9, w ∈ am_T := by
  have h : u_ws RX1 TX1 9 = [125, 127, 129, 131, 133, 135, 137, 139, 141].filterMap (fun i => lw_tbl[i]?) := by decide +kernel
  have g : (u_ws RX1 TX1 9).all goodWord = true := by decide +kernel
  intro w hw
  refine List.mem_filter.mpr ⟨?_, List.all_eq_true.mp g w hw⟩
  rw [h] at hw
  obtain ⟨i, -, hi⟩ := List.mem_filterMap.mp hw
  exact List.mem_of_getElem? hi
theorem am_lay2 : ∀ w ∈ u_ws RX2 TX2 3, w ∈ am_T := by
  have h : u_ws RX2 TX2 3 = [207, 209, 211].filterMap (fun i => lw_tbl[i]?) := by decide +kernel
  have g : (u_ws RX2 TX2 3).all goodWord = true := by decide +kernel
  intro w hw
  refine List.mem_filter.mpr ⟨?_, List.all_eq_true.mp g w hw⟩
  rw [h] at hw
  obtain ⟨i, -, hi⟩ := List.mem_filterMap.mp hw
  exact List.mem_of_getElem? hi
theorem am_lay3 : ∀ w ∈ u_ws RX3 TX3 10, w ∈ am_T := by
  have h : u_ws RX3 TX3 10 = [233, 235, 237, 239, 241, 243, 245, 247, 249, 251].filterMap (fun i => lw_tbl[i]?) := by decide +kernel
  have g : (u_ws RX3 TX3 10).all goodWord = true := by decide +kernel
  intro w hw
  refine List.mem_filter.mpr ⟨?_, List.all_eq_true.mp g w hw⟩
  rw [h] at hw
  obtain ⟨i, -, hi⟩ := List.mem_filterMap.mp hw
  exact List.mem_of_getElem? hi
theorem am_lay4 : ∀ w ∈ u_ws RX4 TX4 12, w ∈ am_T := by
  have h : u_ws RX4 TX4 12 = [266, 268, 270, 272, 274, 276, 278, 280, 282, 284, 286, 288].filterMap (fun i => lw_tbl[i]?) := by decide +kernel
  have g : (u_ws RX4 TX4 12).all goodWord = true := by decide +kernel
  intro w hw
  refine List.mem_filter.mpr ⟨?_, List.all_eq_true.mp g w hw⟩
  rw [h] at hw
  obtain ⟨i, -, hi⟩ := List.mem_filterMap.mp hw
  exact List.mem_of_getElem? hi
theorem am_lay5 : ∀ w ∈ u_ws RX5 TX5 29, w ∈ am_T := by
  have h : u_ws RX5 TX5 29 = [875, 877, 879, 881, 883, 885, 887, 889, 891, 893, 895, 897, 899, 901, 903, 905, 907, 909, 911, 913, 915, 917, 919, 921, 923, 925, 927, 929, 931].filterMap (fun i => lw_tbl[i]?) := by decide +kernel
  have g : (u_ws RX5 TX5 29).all goodWord = true := by decide +kernel
  intro w hw
  refine List.mem_filter.mpr ⟨?_, List.all_eq_true.mp g w hw⟩
  rw [h] at hw
  obtain ⟨i, -, hi⟩ := List.mem_filterMap.mp hw
  exact List.mem_of_getElem? hi
end
section
/-! THE JUDGEMENTS. A value, a heap, a frame have their own addresses 0, 1, 2 ..; the machine's are s0 + these.
V = (launch, class ids and slots, ids of array classes by kind, s0, addresses of texts). -/
abbrev am_V : Type := Launch × va_G × (Nat → ClassId) × Nat × (Nat → Nat)
def am_ad (V : am_V) (a : Nat) : Nat := if a < 1000000 then V.2.2.2.1 + a else V.2.2.2.2 (a - 1000000)
def am_cv (V : am_V) (v : Value) : Value := match v with
  | .ref a => .ref (am_ad V a)
  | v => v
def am_ca (V : am_V) (x : vp_A) : vp_A := match x with
  | (n, .inr (.inr (.inr (.inr g)))) => (n, .inr (.inr (.inr (.inr (fun j => (g j).map (am_ad V))))))
  | x => x
def am_ce (V : am_V) (e : va_E) : va_E := match e with
  | .inl (k, x) => .inl (V.2.2.1 k, am_ca V x)
  | .inr (ci, fs) => .inr (ci, fs.map (am_cv V))
def am_tys (V : am_V) : List (ClassId × FieldType) := [(V.2.2.1 0, .int), (V.2.2.1 1, .byte), (V.2.2.1 2, .boolean), (V.2.2.1 3, .object "KeySieves$Key"), (V.2.2.1 4, .object "KeySieves$Board"), (V.2.2.1 5, .object "KeySieves$Sheet")]
def am_S (V : am_V) (h : List va_E) (H : Heap) : Prop := h.length ≤ 1000000 ∧ H.size = V.2.2.2.1 + h.length ∧ ∀ (a : Nat) (e : va_E), h[a]? = some e → va_at V.2.1 am_cl (V.2.2.2.1 + a, am_ce V e) H
def am_A (V : am_V) : Nat → Prop := fun q => V.2.2.2.1 ≤ q
def am_nest : List Cond := [.methodLinkNest "KeySieves$Board" 17 yX1_init "KeySieves", .methodLinkNest "KeySieves$TextReader" 106 yX4_within "KeySieves", .methodLinkNest "KeySieves$Board" 61 yX4_within "KeySieves", .methodLinkNest "KeySieves$Key" 42 yX4_within "KeySieves", .methodLinkNest "KeySieves$Sheet" 19 yX4_within "KeySieves"]
def am_N (U : State) : Prop := (∀ w ∈ am_nest, va_Nw w U) ∧ va_AO "KeySieves$Key" U ∧ va_AO "KeySieves$Board" U ∧ va_AO "KeySieves$Sheet" U
def am_al (V : am_V) : Nat → List (Option Value) → List (Nat × Value)
  | _, [] => []
  | i, none :: L => am_al V (i + 1) L
  | i, some v :: L => (i, am_cv V v) :: am_al V (i + 1) L
def am_L (V : am_V) (ls : Array Slot) (nL : Nat) (L : List (Option Value)) : Prop := L.length = nL ∧ lv_has ls nL (am_al V 0 L)
def am_rm (d mc ms : Nat) : Room := { frames := d, cells := mc, slots := ms, locals := 40 * d }
def am_P (V : am_V) (h : List va_E) (U : State) : Prop := am_N U ∧ va_K V.2.1 am_cl (am_tys V) U ∧ am_S V h U.heap
def am_Q (V : am_V) (R : Option Value → List va_E → Prop) : Array Value → State → Outcome → State → Prop := fun _ st oc t => (∃ (r : Option Value) (h' : List va_E), oc = .returned (r.map (am_cv V)) ∧ R r h' ∧ am_S V h' t.heap) ∧ va_F (am_A V) st t
def am_ws (M : am_M) : List Cond := .code M.1 M.2.1 M.2.2.1 M.2.2.2 :: am_T
/-- a contract: method M with these arguments, over this heap, returns, and R holds of its answer and the heap behind it; d frames, kc new cells of ks slots at most -/
def AM (V : am_V) (M : am_M) (d kc ks : Nat) (args : List Value) (h : List va_E) (R : Option Value → List va_E → Prop) : Prop :=
  Met V.1 M.1 (am_ws M) (am_rm d kc ks) (va_Pc (args.map (am_cv V)) (am_P V h)) (am_Q V R) kc ks (am_A V)
def am_C (V : am_V) (M : am_M) (p : Program) (s : State) (m : MethodId) (args : Array Value) (meth : Method) (c : Code) : Prop :=
  p.tables.exec = Jvm.exec ∧ c.code = M.2.1 ∧ c.maxLocals = M.2.2.1 ∧ meth.sig.returnType = M.2.2.2 ∧ s.vm.findClass M.1.cls = some m.cls ∧ (∀ w ∈ am_T, w.before args s = true) ∧ am_N s ∧ va_K V.2.1 am_cl (am_tys V) s ∧ meth.locks = false ∧ meth.name = M.1.name ∧ V.2.2.2.1 ≤ s.heap.size
/-- a walk: the machine, at pc of method M, with these locals, this stack and heap, comes to M's return with R -/
def AW (V : am_V) (M : am_M) (d kc ks pc : Nat) (L : List (Option Value)) (st : List Value) (h : List va_E) (R : Option Value → List va_E → Prop) : Prop :=
  ∀ (p : Program) (e : Env) (s : State) (m : MethodId) (args : Array Value) (below : List Frame) (meth : Method) (c : Code), am_C V M p s m args meth c →
    ∀ (H : Heap) (locs : List Loc) (ls : Array Slot) (cells slots mc ms : Nat), cells + kc = mc → slots + ks = ms → am_S V h H → va_S (am_A V) s.heap H locs → am_L V ls M.2.2.1 L →
      W p V.1 e (am_rm d mc ms) s m args below meth c H locs cells slots (MQ below (am_Q V R) args s mc ms (am_A V)) (F0 m pc ls (st.map (am_cv V)))
theorem am_cat (V : am_V) (v : Value) : (am_cv V v).category = v.category := by cases v <;> rfl
theorem am_ad_lt {V : am_V} {a : Nat} (h : a < 1000000) : am_ad V a = V.2.2.2.1 + a := by unfold am_ad; rw [if_pos h]
theorem am_al_mem {V : am_V} : ∀ (L : List (Option Value)) (i j : Nat) (x : Value), (j, x) ∈ am_al V i L ↔ ∃ (k : Nat) (v : Value), j = i + k ∧ L[k]? = some (some v) ∧ x = am_cv V v := by
  intro L
  induction L with
  | nil => intro i j x; simp [am_al]
  | cons o L ih =>
    intro i j x
    cases o with
    | none =>
      simp only [am_al]
      rw [ih]
      constructor
      · rintro ⟨k, v, h1, h2, h3⟩
        exact ⟨k + 1, v, by omega, by simpa using h2, h3⟩
      · rintro ⟨k, v, h1, h2, h3⟩
        cases k with
        | zero => simp at h2
        | succ k => exact ⟨k, v, by omega, by simpa using h2, h3⟩
    | some u =>
      simp only [am_al, List.mem_cons, Prod.mk.injEq]
      rw [ih]
      constructor
      · rintro (⟨rfl, rfl⟩ | ⟨k, v, h1, h2, h3⟩)
        · exact ⟨0, u, rfl, rfl, rfl⟩
        · exact ⟨k + 1, v, by omega, by simpa using h2, h3⟩
      · rintro ⟨k, v, h1, h2, h3⟩
        cases k with
        | zero =>
          simp at h2
          subst h2
          exact Or.inl ⟨h1, h3⟩
        | succ k => exact Or.inr ⟨k, v, by omega, by simpa using h2, h3⟩
theorem am_L.at {V : am_V} {ls : Array Slot} {nL : Nat} {L : List (Option Value)} (h : am_L V ls nL L) {i : Nat} {v : Value} (hi : L[i]? = some (some v)) : ls[i]? = some (.val (am_cv V v)) :=
  h.2.2.2 (i, am_cv V v) ((am_al_mem L 0 i _).mpr ⟨i, v, by omega, hi, rfl⟩)
/-- may a value be stored at place i: what stands ahead of it is no long -/
def am_ok1 (L : List (Option Value)) (i : Nat) : Bool := match i with
  | 0 => true
  | j + 1 => match L[j]? with
    | some (some v) => v.category != 2
    | _ => true
theorem am_ok1_ne {L : List (Option Value)} {i j : Nat} {v : Value} (h : am_ok1 L i = true) (hj : j + 1 = i) (hv : L[j]? = some (some v)) : ¬ v.category = 2 := by
  subst hj
  simp [am_ok1, hv] at h
  exact h
theorem am_L.st1 {V : am_V} {ls : Array Slot} {nL : Nat} {L : List (Option Value)} (h : am_L V ls nL L) {i : Nat} {v : Value} (hi : i < nL) (hc : v.category = 1) (hk : am_ok1 L i = true) {ls' : Array Slot}
    (h' : lv_has ls' nL ((i, am_cv V v) :: (am_al V 0 L).filter (fun q => !(q.1 == i) && !(q.1 + 1 == i && q.2.category == 2)))) : am_L V ls' nL (L.set i (some v)) := by
  refine ⟨by rw [List.length_set]; exact h.1, h'.1, h'.2.1, ?_⟩
  rintro ⟨j, x⟩ hq
  obtain ⟨k, u, h1, h2, h3⟩ := (am_al_mem _ _ _ _).mp hq
  have hjk : j = k := by omega
  subst hjk
  by_cases hji : j = i
  · subst hji
    rw [List.getElem?_set_self (by rw [h.1]; exact hi)] at h2
    cases h2
    rw [h3]
    exact h'.2.2 _ List.mem_cons_self
  · rw [List.getElem?_set_ne (Ne.symm hji)] at h2
    refine h'.2.2 (j, x) (List.mem_cons_of_mem _ (List.mem_filter.mpr ⟨(am_al_mem _ _ _ _).mpr ⟨j, u, by omega, h2, h3⟩, ?_⟩))
    have : ¬ (j + 1 = i ∧ x.category = 2) := by
      rintro ⟨e1, e2⟩
      rw [h3, am_cat] at e2
      exact am_ok1_ne hk e1 h2 e2
    simp [hji]
    by_cases e1 : j + 1 = i
    · exact Or.inr (fun e2 => this ⟨e1, e2⟩)
    · exact Or.inl e1
theorem am_L.st2 {V : am_V} {ls : Array Slot} {nL : Nat} {L : List (Option Value)} (h : am_L V ls nL L) {i : Nat} {v : Value} (hi : i + 1 < nL) (hc : v.category = 2) (hk : am_ok1 L i = true) {ls' : Array Slot}
    (h' : lv_has ls' nL ((i, am_cv V v) :: (am_al V 0 L).filter (fun q => !(q.1 == i) && (!(q.1 == i + 1) && !(q.1 + 1 == i && q.2.category == 2))))) : am_L V ls' nL ((L.set i (some v)).set (i + 1) none) := by
  refine ⟨by rw [List.length_set, List.length_set]; exact h.1, h'.1, h'.2.1, ?_⟩
  rintro ⟨j, x⟩ hq
  obtain ⟨k, u, h1, h2, h3⟩ := (am_al_mem _ _ _ _).mp hq
  have hjk : j = k := by omega
  subst hjk
  by_cases hj1 : j = i + 1
  · subst hj1
    rw [List.getElem?_set_self (by rw [List.length_set, h.1]; exact hi)] at h2
    cases h2
  rw [List.getElem?_set_ne (Ne.symm hj1)] at h2
  by_cases hji : j = i
  · subst hji
    rw [List.getElem?_set_self (by rw [h.1]; omega)] at h2
    cases h2
    rw [h3]
    exact h'.2.2 _ List.mem_cons_self
  · rw [List.getElem?_set_ne (Ne.symm hji)] at h2
    refine h'.2.2 (j, x) (List.mem_cons_of_mem _ (List.mem_filter.mpr ⟨(am_al_mem _ _ _ _).mpr ⟨j, u, by omega, h2, h3⟩, ?_⟩))
    have : ¬ (j + 1 = i ∧ x.category = 2) := by
      rintro ⟨e1, e2⟩
      rw [h3, am_cat] at e2
      exact am_ok1_ne hk e1 h2 e2
    simp [hji, hj1]
    by_cases e1 : j + 1 = i
    · exact Or.inr (fun e2 => this ⟨e1, e2⟩)
    · exact Or.inl e1
/-- the locals at a method's entry -/
def am_exp (vs : List Value) : List (Option Value) := vs.flatMap fun v => if v.category = 2 then [some v, none] else [some v]
def am_ent (vs : List Value) (n : Nat) : List (Option Value) := am_exp vs ++ List.replicate (n - (am_exp vs).length) none
theorem am_exp_len (V : am_V) (vs : List Value) : (am_exp vs).length = (lg_sl (vs.map (am_cv V))).length := by
  induction vs with
  | nil => rfl
  | cons v vs ih =>
    simp only [am_exp, lg_sl, List.flatMap_cons, List.map_cons, List.length_append, am_cat] at ih ⊢
    rw [ih]
    by_cases hc : v.category = 2 <;> simp [hc]
theorem am_ent_mem (V : am_V) : ∀ (vs : List Value) (n i j : Nat) (x : Value), (j, x) ∈ am_al V i (am_exp vs ++ List.replicate n none) → (j, x) ∈ lv_args i (vs.map (am_cv V)) := by
  intro vs
  induction vs with
  | nil =>
    intro n i j x hm
    exfalso
    obtain ⟨k, v, -, h2, -⟩ := (am_al_mem _ _ _ _).mp hm
    simp only [am_exp, List.flatMap_nil, List.nil_append, List.getElem?_replicate] at h2
    split at h2 <;> cases h2
  | cons v vs ih =>
    intro n i j x hm
    by_cases hc : v.category = 2
    · have e : am_exp (v :: vs) ++ List.replicate n none = some v :: none :: (am_exp vs ++ List.replicate n none) := by simp [am_exp, hc]
      rw [e] at hm
      simp only [am_al, List.mem_cons] at hm
      simp only [List.map_cons, lv_args, am_cat, hc, List.mem_cons]
      rcases hm with hm | hm
      · exact Or.inl hm
      · exact Or.inr (ih n _ j x hm)
    · have e : am_exp (v :: vs) ++ List.replicate n none = some v :: (am_exp vs ++ List.replicate n none) := by simp [am_exp, hc]
      rw [e] at hm
      simp only [am_al, List.mem_cons] at hm
      simp only [List.map_cons, lv_args, am_cat, hc, List.mem_cons]
      rcases hm with hm | hm
      · exact Or.inl hm
      · exact Or.inr (ih n _ j x hm)
theorem am_L.entry (V : am_V) (vs : List Value) {n : Nat} (h : (am_exp vs).length ≤ n) : am_L V ((lg_sl (vs.map (am_cv V)) ++ List.replicate (n - (lg_sl (vs.map (am_cv V))).length) Slot.unset).toArray) n (am_ent vs n) := by
  have e := lv_entry (vs.map (am_cv V)) (n := n) (by rw [← am_exp_len]; exact h)
  refine ⟨by simp [am_ent]; omega, e.1, e.2.1, ?_⟩
  rintro ⟨j, x⟩ hq
  exact e.2.2 (j, x) (am_ent_mem V vs _ 0 j x hq)
theorem am_P.blind {V : am_V} {h : List va_E} {av : List Value} : FrameBlind (va_Pc av (am_P V h)) := by
  intro a U g mk q
  obtain ⟨q0, ⟨q1, q2, q3, q4⟩, qK, qS⟩ := q
  exact ⟨q0, ⟨fun w hw => va_Nw.same (u := U) (U := U.calling g mk a) (by revert w; decide +kernel) rfl (q1 w hw), va_AO.moved (u := U) (U := U.calling g mk a) (Vm.Alike.refl U.vm) q2, va_AO.moved (u := U) (U := U.calling g mk a) (Vm.Alike.refl U.vm) q3, va_AO.moved (u := U) (U := U.calling g mk a) (Vm.Alike.refl U.vm) q4⟩, va_K.moved (u := U) (U := U.calling g mk a) (Vm.Alike.refl U.vm) qK, qS⟩
theorem am_N.warm {s U : State} (hW : s.WarmedH U.vm) (h : am_N s) : am_N U := by
  obtain ⟨q1, q2, q3, q4⟩ := h
  refine ⟨?_, va_AO.moved hW.alike q2, va_AO.moved hW.alike q3, va_AO.moved hW.alike q4⟩
  intro w hw
  have hZ := q1 w hw
  simp only [am_nest, List.mem_cons, List.not_mem_nil, or_false] at hw
  rcases hw with rfl | rfl | rfl | rfl | rfl <;> exact va_Nw.warmM hW hZ
/-- a contract out of a walk from the method's first instruction -/
theorem AM.of {V : am_V} {M : am_M} {d kc ks : Nat} {args : List Value} {h : List va_E} {R : Option Value → List va_E → Prop} (hy : plainName M.1.cls = true) (hn : (am_exp args).length ≤ M.2.2.1) {L : List (Option Value)} (hL : am_ent args M.2.2.1 = L) (k : AW V M d kc ks 0 L [] h R) : AM V M d kc ks args h R := by
  subst hL
  refine Met.ofW (cc := M.2.1) (maxL := M.2.2.1) (ret := M.2.2.2) hy rfl ?_
  intro p e s m args' below meth c s₁ B hml hv
  obtain ⟨rfl, hN, hK, hS⟩ := hv
  have hts := atoms_spec (ws := am_ws M) B.pre
  have hown : s.vm.findClass M.1.cls = some m.cls := findClass_of_methodNamed B.named
  rw [lg_entry_eq]
  exact k p e s m _ below meth c ⟨B.exec, B.bytes, hml, B.returns, hown, fun w hw => hts w (List.mem_cons_of_mem _ hw), hN, hK, B.notSynchronized, (name_of_methodNamed B.named B.method).1, by rw [hS.2.1]; exact Nat.le_add_right _ _⟩
    s.heap [] _ 0 0 kc ks (Nat.zero_add _) (Nat.zero_add _) hS va_S.rf (am_L.entry V args hn)
theorem AM.weaken {V : am_V} {M : am_M} {d kc ks : Nat} {args : List Value} {h : List va_E} {R R' : Option Value → List va_E → Prop} (hR : ∀ r h', R r h' → R' r h') (k : AM V M d kc ks args h R) : AM V M d kc ks args h R' := by
  intro p e ha hc hk s m args' below hf hfit hP hC
  obtain ⟨t, o, h1, h2, h3, ⟨⟨r, h', e1, e2, e3⟩, e4⟩, h5⟩ := k p e ha hc hk s m args' below hf hfit hP hC
  exact ⟨t, o, h1, h2, h3, ⟨⟨r, h', e1, hR r h' e2, e3⟩, e4⟩, h5⟩
theorem AW.weaken {V : am_V} {M : am_M} {d kc ks pc : Nat} {L : List (Option Value)} {st : List Value} {h : List va_E} {R R' : Option Value → List va_E → Prop} (hR : ∀ r h', R r h' → R' r h') (k : AW V M d kc ks pc L st h R) : AW V M d kc ks pc L st h R' := by
  intro p e s m args below meth c C H locs ls cells slots mc ms hc hs hS hF hL T hT X
  obtain ⟨t, a, o, b1, b2, ⟨⟨r, h', e1, e2, e3⟩, e4⟩, b4⟩ := k p e s m args below meth c C H locs ls cells slots mc ms hc hs hS hF hL T hT X
  exact ⟨t, a, o, b1, b2, ⟨⟨r, h', e1, hR r h' e2, e3⟩, e4⟩, b4⟩
end
section
section AMR
variable {V : am_V} {M : am_M} {d kc ks pc : Nat} {L : List (Option Value)} {st : List Value} {h : List va_E} {R : Option Value → List va_E → Prop}
theorem aw_iconst {n : Int} {v : Int32} (hd : decode M.2.1 pc = .ok (.iconst n, 1)) (hv : Int32.ofInt n = v) (k : AW V M d kc ks (pc + 1) L (.int v :: st) h R) : AW V M d kc ks pc L (st) h R := by
  intro p e s m args below meth c C H locs ls cells slots mc ms hc hs hS hF hL
  exact lv_iconst C.1 C.2.1 hd hv (k p e s m args below meth c C H locs ls cells slots mc ms hc hs hS hF hL)
theorem aw_bipush {n : Int} {v : Int32} (hd : decode M.2.1 pc = .ok (.bipush n, 2)) (hv : (Int8.ofInt n).toInt32 = v) (k : AW V M d kc ks (pc + 2) L (.int v :: st) h R) : AW V M d kc ks pc L (st) h R := by
  intro p e s m args below meth c C H locs ls cells slots mc ms hc hs hS hF hL
  exact lv_bipush C.1 C.2.1 hd hv (k p e s m args below meth c C H locs ls cells slots mc ms hc hs hS hF hL)
theorem aw_sipush {n : Int} {v : Int32} (hd : decode M.2.1 pc = .ok (.sipush n, 3)) (hv : (Int16.ofInt n).toInt32 = v) (k : AW V M d kc ks (pc + 3) L (.int v :: st) h R) : AW V M d kc ks pc L (st) h R := by
  intro p e s m args below meth c C H locs ls cells slots mc ms hc hs hS hF hL
  exact lv_sipush C.1 C.2.1 hd hv (k p e s m args below meth c C H locs ls cells slots mc ms hc hs hS hF hL)
theorem aw_lconst {n : Fin 2} {v : Int64} (hd : decode M.2.1 pc = .ok (.lconst n, 1)) (hv : Int64.ofNat (n : Nat) = v) (k : AW V M d kc ks (pc + 1) L (.long v :: st) h R) : AW V M d kc ks pc L (st) h R := by
  intro p e s m args below meth c C H locs ls cells slots mc ms hc hs hS hF hL
  exact lv_lconst C.1 C.2.1 hd hv (k p e s m args below meth c C H locs ls cells slots mc ms hc hs hS hF hL)
theorem aw_ldc {idx : Nat} {v : Int32} (hd : decode M.2.1 pc = .ok (.ldc idx, 2)) (hk : Cond.constant M.1.cls idx v ∈ am_T) (k : AW V M d kc ks (pc + 2) L (.int v :: st) h R) : AW V M d kc ks pc L st h R := by
  intro p e s m args below meth c C H locs ls cells slots mc ms hc hs hS hF hL
  exact lv_ldc C.1 C.2.1 C.2.2.2.2.1 (C.2.2.2.2.2.1 _ hk) hd (k p e s m args below meth c C H locs ls cells slots mc ms hc hs hS hF hL)
theorem aw_ldcw {idx : Nat} {v : Int32} (hd : decode M.2.1 pc = .ok (.ldc_w idx, 3)) (hk : Cond.constant M.1.cls idx v ∈ am_T) (k : AW V M d kc ks (pc + 3) L (.int v :: st) h R) : AW V M d kc ks pc L st h R := by
  intro p e s m args below meth c C H locs ls cells slots mc ms hc hs hS hF hL
  exact lv_ldcw C.1 C.2.1 C.2.2.2.2.1 (C.2.2.2.2.2.1 _ hk) hd (k p e s m args below meth c C H locs ls cells slots mc ms hc hs hS hF hL)
theorem aw_ldc2 {idx : Nat} {v : Int64} (hd : decode M.2.1 pc = .ok (.ldc2_w idx, 3)) (hk : Cond.constantLong M.1.cls idx v ∈ am_T) (k : AW V M d kc ks (pc + 3) L (.long v :: st) h R) : AW V M d kc ks pc L st h R := by
  intro p e s m args below meth c C H locs ls cells slots mc ms hc hs hS hF hL
  exact lv_ldc2 C.1 C.2.1 C.2.2.2.2.1 (C.2.2.2.2.2.1 _ hk) hd (k p e s m args below meth c C H locs ls cells slots mc ms hc hs hS hF hL)
theorem aw_iload_n {n : Fin 4} {i : Nat} {x : Int32} (hd : decode M.2.1 pc = .ok (.iload_n n, 1)) (hi : (n : Nat) = i) (hl : L[i]? = some (some (.int x))) (k : AW V M d kc ks (pc + 1) L (.int x :: st) h R) : AW V M d kc ks pc L st h R := by
  intro p e s m args below meth c C H locs ls cells slots mc ms hc hs hS hF hL
  exact lv_iload_n C.1 C.2.1 hd hi (hL.at hl) (k p e s m args below meth c C H locs ls cells slots mc ms hc hs hS hF hL)
theorem aw_iload {i : Nat} {x : Int32} (hd : decode M.2.1 pc = .ok (.iload i, 2)) (hl : L[i]? = some (some (.int x))) (k : AW V M d kc ks (pc + 2) L (.int x :: st) h R) : AW V M d kc ks pc L st h R := by
  intro p e s m args below meth c C H locs ls cells slots mc ms hc hs hS hF hL
  exact lv_iload C.1 C.2.1 hd (hL.at hl) (k p e s m args below meth c C H locs ls cells slots mc ms hc hs hS hF hL)
theorem aw_lload_n {n : Fin 4} {i : Nat} {x : Int64} (hd : decode M.2.1 pc = .ok (.lload_n n, 1)) (hi : (n : Nat) = i) (hl : L[i]? = some (some (.long x))) (k : AW V M d kc ks (pc + 1) L (.long x :: st) h R) : AW V M d kc ks pc L st h R := by
  intro p e s m args below meth c C H locs ls cells slots mc ms hc hs hS hF hL
  exact lv_lload_n C.1 C.2.1 hd hi (hL.at hl) (k p e s m args below meth c C H locs ls cells slots mc ms hc hs hS hF hL)
theorem aw_lload {i : Nat} {x : Int64} (hd : decode M.2.1 pc = .ok (.lload i, 2)) (hl : L[i]? = some (some (.long x))) (k : AW V M d kc ks (pc + 2) L (.long x :: st) h R) : AW V M d kc ks pc L st h R := by
  intro p e s m args below meth c C H locs ls cells slots mc ms hc hs hS hF hL
  exact lv_lload C.1 C.2.1 hd (hL.at hl) (k p e s m args below meth c C H locs ls cells slots mc ms hc hs hS hF hL)
theorem aw_aload_n {n : Fin 4} {i : Nat} {x : Nat} (hd : decode M.2.1 pc = .ok (.aload_n n, 1)) (hi : (n : Nat) = i) (hl : L[i]? = some (some (.ref x))) (k : AW V M d kc ks (pc + 1) L (.ref x :: st) h R) : AW V M d kc ks pc L st h R := by
  intro p e s m args below meth c C H locs ls cells slots mc ms hc hs hS hF hL
  exact lv_aload_n C.1 C.2.1 hd hi (hL.at hl) (k p e s m args below meth c C H locs ls cells slots mc ms hc hs hS hF hL)
theorem aw_aload {i : Nat} {x : Nat} (hd : decode M.2.1 pc = .ok (.aload i, 2)) (hl : L[i]? = some (some (.ref x))) (k : AW V M d kc ks (pc + 2) L (.ref x :: st) h R) : AW V M d kc ks pc L st h R := by
  intro p e s m args below meth c C H locs ls cells slots mc ms hc hs hS hF hL
  exact lv_aload C.1 C.2.1 hd (hL.at hl) (k p e s m args below meth c C H locs ls cells slots mc ms hc hs hS hF hL)
theorem aw_istore_n {n : Fin 4} {i : Nat} {x : Int32} {L' : List (Option Value)} (hd : decode M.2.1 pc = .ok (.istore_n n, 1)) (hi : (n : Nat) = i) (hn : i < M.2.2.1) (ho : am_ok1 L i = true) (hl : L.set i (some (.int x)) = L') (k : AW V M d kc ks (pc + 1) L' st h R) : AW V M d kc ks pc L (.int x :: st) h R := by
  subst hl
  intro p e s m args below meth c C H locs ls cells slots mc ms hc hs hS hF hL
  exact lv_istore_n C.1 C.2.1 hd hi hL.2 hn rfl (fun ls' h' => k p e s m args below meth c C H locs ls' cells slots mc ms hc hs hS hF (hL.st1 (v := .int x) hn rfl ho h'))
theorem aw_lstore_n {n : Fin 4} {i : Nat} {x : Int64} {L' : List (Option Value)} (hd : decode M.2.1 pc = .ok (.lstore_n n, 1)) (hi : (n : Nat) = i) (hn : i + 1 < M.2.2.1) (ho : am_ok1 L i = true) (hl : (L.set i (some (.long x))).set (i + 1) none = L') (k : AW V M d kc ks (pc + 1) L' st h R) : AW V M d kc ks pc L (.long x :: st) h R := by
  subst hl
  intro p e s m args below meth c C H locs ls cells slots mc ms hc hs hS hF hL
  exact lv_lstore_n C.1 C.2.1 hd hi hL.2 hn rfl (fun ls' h' => k p e s m args below meth c C H locs ls' cells slots mc ms hc hs hS hF (hL.st2 (v := .long x) hn rfl ho h'))
theorem aw_astore_n {n : Fin 4} {i : Nat} {x : Nat} {L' : List (Option Value)} (hd : decode M.2.1 pc = .ok (.astore_n n, 1)) (hi : (n : Nat) = i) (hn : i < M.2.2.1) (ho : am_ok1 L i = true) (hl : L.set i (some (.ref x)) = L') (k : AW V M d kc ks (pc + 1) L' st h R) : AW V M d kc ks pc L (.ref x :: st) h R := by
  subst hl
  intro p e s m args below meth c C H locs ls cells slots mc ms hc hs hS hF hL
  exact lv_astore_n C.1 C.2.1 hd hi hL.2 hn rfl (fun ls' h' => k p e s m args below meth c C H locs ls' cells slots mc ms hc hs hS hF (hL.st1 (v := .ref x) hn rfl ho h'))
theorem aw_istore {i : Nat} {x : Int32} {L' : List (Option Value)} (hd : decode M.2.1 pc = .ok (.istore i, 2)) (hn : i < M.2.2.1) (ho : am_ok1 L i = true) (hl : L.set i (some (.int x)) = L') (k : AW V M d kc ks (pc + 2) L' st h R) : AW V M d kc ks pc L (.int x :: st) h R := by
  subst hl
  intro p e s m args below meth c C H locs ls cells slots mc ms hc hs hS hF hL
  exact lv_istore C.1 C.2.1 hd hL.2 hn rfl (fun ls' h' => k p e s m args below meth c C H locs ls' cells slots mc ms hc hs hS hF (hL.st1 (v := .int x) hn rfl ho h'))
theorem aw_lstore {i : Nat} {x : Int64} {L' : List (Option Value)} (hd : decode M.2.1 pc = .ok (.lstore i, 2)) (hn : i + 1 < M.2.2.1) (ho : am_ok1 L i = true) (hl : (L.set i (some (.long x))).set (i + 1) none = L') (k : AW V M d kc ks (pc + 2) L' st h R) : AW V M d kc ks pc L (.long x :: st) h R := by
  subst hl
  intro p e s m args below meth c C H locs ls cells slots mc ms hc hs hS hF hL
  exact lv_lstore C.1 C.2.1 hd hL.2 hn rfl (fun ls' h' => k p e s m args below meth c C H locs ls' cells slots mc ms hc hs hS hF (hL.st2 (v := .long x) hn rfl ho h'))
theorem aw_astore {i : Nat} {x : Nat} {L' : List (Option Value)} (hd : decode M.2.1 pc = .ok (.astore i, 2)) (hn : i < M.2.2.1) (ho : am_ok1 L i = true) (hl : L.set i (some (.ref x)) = L') (k : AW V M d kc ks (pc + 2) L' st h R) : AW V M d kc ks pc L (.ref x :: st) h R := by
  subst hl
  intro p e s m args below meth c C H locs ls cells slots mc ms hc hs hS hF hL
  exact lv_astore C.1 C.2.1 hd hL.2 hn rfl (fun ls' h' => k p e s m args below meth c C H locs ls' cells slots mc ms hc hs hS hF (hL.st1 (v := .ref x) hn rfl ho h'))
theorem aw_iinc {i : Nat} {n : Int} {x v : Int32} {L' : List (Option Value)} (hd : decode M.2.1 pc = .ok (.iinc i n, 3)) (hx : L[i]? = some (some (.int x))) (hv : x + Int32.ofInt n = v) (hn : i < M.2.2.1) (ho : am_ok1 L i = true) (hl : L.set i (some (.int v)) = L') (k : AW V M d kc ks (pc + 3) L' st h R) : AW V M d kc ks pc L st h R := by
  subst hl
  intro p e s m args below meth c C H locs ls cells slots mc ms hc hs hS hF hL
  obtain ⟨q, hq⟩ := List.getElem?_of_mem ((am_al_mem (V := V) L 0 i _).mpr ⟨i, .int x, by omega, hx, rfl⟩)
  exact lv_iinc C.1 C.2.1 hd hL.2 hq hv hn rfl (fun ls' h' => k p e s m args below meth c C H locs ls' cells slots mc ms hc hs hS hF (hL.st1 (v := .int v) hn rfl ho h'))
theorem aw_iadd {x y : Int32} (hd : decode M.2.1 pc = .ok (.iadd, 1)) (k : AW V M d kc ks (pc + 1) L (.int (x + y) :: st) h R) : AW V M d kc ks pc L (.int y :: .int x :: st) h R := by
  intro p e s m args below meth c C H locs ls cells slots mc ms hc hs hS hF hL
  exact lv_iadd C.1 C.2.1 hd (k p e s m args below meth c C H locs ls cells slots mc ms hc hs hS hF hL)
theorem aw_isub {x y : Int32} (hd : decode M.2.1 pc = .ok (.isub, 1)) (k : AW V M d kc ks (pc + 1) L (.int (x - y) :: st) h R) : AW V M d kc ks pc L (.int y :: .int x :: st) h R := by
  intro p e s m args below meth c C H locs ls cells slots mc ms hc hs hS hF hL
  exact lv_isub C.1 C.2.1 hd (k p e s m args below meth c C H locs ls cells slots mc ms hc hs hS hF hL)
theorem aw_imul {x y : Int32} (hd : decode M.2.1 pc = .ok (.imul, 1)) (k : AW V M d kc ks (pc + 1) L (.int (x * y) :: st) h R) : AW V M d kc ks pc L (.int y :: .int x :: st) h R := by
  intro p e s m args below meth c C H locs ls cells slots mc ms hc hs hS hF hL
  exact lv_imul C.1 C.2.1 hd (k p e s m args below meth c C H locs ls cells slots mc ms hc hs hS hF hL)
theorem aw_iand {x y : Int32} (hd : decode M.2.1 pc = .ok (.iand, 1)) (k : AW V M d kc ks (pc + 1) L (.int (x &&& y) :: st) h R) : AW V M d kc ks pc L (.int y :: .int x :: st) h R := by
  intro p e s m args below meth c C H locs ls cells slots mc ms hc hs hS hF hL
  exact lv_iand C.1 C.2.1 hd (k p e s m args below meth c C H locs ls cells slots mc ms hc hs hS hF hL)
theorem aw_ior {x y : Int32} (hd : decode M.2.1 pc = .ok (.ior, 1)) (k : AW V M d kc ks (pc + 1) L (.int (x ||| y) :: st) h R) : AW V M d kc ks pc L (.int y :: .int x :: st) h R := by
  intro p e s m args below meth c C H locs ls cells slots mc ms hc hs hS hF hL
  exact lv_ior C.1 C.2.1 hd (k p e s m args below meth c C H locs ls cells slots mc ms hc hs hS hF hL)
theorem aw_ixor {x y : Int32} (hd : decode M.2.1 pc = .ok (.ixor, 1)) (k : AW V M d kc ks (pc + 1) L (.int (x ^^^ y) :: st) h R) : AW V M d kc ks pc L (.int y :: .int x :: st) h R := by
  intro p e s m args below meth c C H locs ls cells slots mc ms hc hs hS hF hL
  exact lv_ixor C.1 C.2.1 hd (k p e s m args below meth c C H locs ls cells slots mc ms hc hs hS hF hL)
theorem aw_irem {x y : Int32} (hd : decode M.2.1 pc = .ok (.irem, 1)) (hne : ¬ y = 0) (k : AW V M d kc ks (pc + 1) L (.int (x - x / y * y) :: st) h R) : AW V M d kc ks pc L (.int y :: .int x :: st) h R := by
  intro p e s m args below meth c C H locs ls cells slots mc ms hc hs hS hF hL
  exact lv_irem C.1 C.2.1 hd hne (k p e s m args below meth c C H locs ls cells slots mc ms hc hs hS hF hL)
theorem aw_ineg {x : Int32} (hd : decode M.2.1 pc = .ok (.ineg, 1)) (k : AW V M d kc ks (pc + 1) L (.int (-x) :: st) h R) : AW V M d kc ks pc L (.int x :: st) h R := by
  intro p e s m args below meth c C H locs ls cells slots mc ms hc hs hS hF hL
  exact lv_ineg C.1 C.2.1 hd (k p e s m args below meth c C H locs ls cells slots mc ms hc hs hS hF hL)
theorem aw_ishl {x y : Int32} (hd : decode M.2.1 pc = .ok (.ishl, 1)) (k : AW V M d kc ks (pc + 1) L (.int (x <<< (y &&& 31)) :: st) h R) : AW V M d kc ks pc L (.int y :: .int x :: st) h R := by
  intro p e s m args below meth c C H locs ls cells slots mc ms hc hs hS hF hL
  exact lv_ishl C.1 C.2.1 hd (k p e s m args below meth c C H locs ls cells slots mc ms hc hs hS hF hL)
theorem aw_ishr {x y : Int32} (hd : decode M.2.1 pc = .ok (.ishr, 1)) (k : AW V M d kc ks (pc + 1) L (.int (x >>> (y &&& 31)) :: st) h R) : AW V M d kc ks pc L (.int y :: .int x :: st) h R := by
  intro p e s m args below meth c C H locs ls cells slots mc ms hc hs hS hF hL
  exact lv_ishr C.1 C.2.1 hd (k p e s m args below meth c C H locs ls cells slots mc ms hc hs hS hF hL)
theorem aw_ladd {x y : Int64} (hd : decode M.2.1 pc = .ok (.ladd, 1)) (k : AW V M d kc ks (pc + 1) L (.long (x + y) :: st) h R) : AW V M d kc ks pc L (.long y :: .long x :: st) h R := by
  intro p e s m args below meth c C H locs ls cells slots mc ms hc hs hS hF hL
  exact lv_ladd C.1 C.2.1 hd (k p e s m args below meth c C H locs ls cells slots mc ms hc hs hS hF hL)
theorem aw_lmul {x y : Int64} (hd : decode M.2.1 pc = .ok (.lmul, 1)) (k : AW V M d kc ks (pc + 1) L (.long (x * y) :: st) h R) : AW V M d kc ks pc L (.long y :: .long x :: st) h R := by
  intro p e s m args below meth c C H locs ls cells slots mc ms hc hs hS hF hL
  exact lv_lmul C.1 C.2.1 hd (k p e s m args below meth c C H locs ls cells slots mc ms hc hs hS hF hL)
theorem aw_ldiv {x y : Int64} (hd : decode M.2.1 pc = .ok (.ldiv, 1)) (hne : ¬ y = 0) (k : AW V M d kc ks (pc + 1) L (.long (x / y) :: st) h R) : AW V M d kc ks pc L (.long y :: .long x :: st) h R := by
  intro p e s m args below meth c C H locs ls cells slots mc ms hc hs hS hF hL
  exact lv_ldiv C.1 C.2.1 hd hne (k p e s m args below meth c C H locs ls cells slots mc ms hc hs hS hF hL)
theorem aw_lrem {x y : Int64} (hd : decode M.2.1 pc = .ok (.lrem, 1)) (hne : ¬ y = 0) (k : AW V M d kc ks (pc + 1) L (.long (x - x / y * y) :: st) h R) : AW V M d kc ks pc L (.long y :: .long x :: st) h R := by
  intro p e s m args below meth c C H locs ls cells slots mc ms hc hs hS hF hL
  exact lv_lrem C.1 C.2.1 hd hne (k p e s m args below meth c C H locs ls cells slots mc ms hc hs hS hF hL)
theorem aw_lcmp {x y : Int64} (hd : decode M.2.1 pc = .ok (.lcmp, 1)) (k : AW V M d kc ks (pc + 1) L (.int (lg_cmp x y) :: st) h R) : AW V M d kc ks pc L (.long y :: .long x :: st) h R := by
  intro p e s m args below meth c C H locs ls cells slots mc ms hc hs hS hF hL
  exact W.lcmp C.1 C.2.1 hd (k p e s m args below meth c C H locs ls cells slots mc ms hc hs hS hF hL)
theorem aw_i2l {x : Int32} (hd : decode M.2.1 pc = .ok (.i2l, 1)) (k : AW V M d kc ks (pc + 1) L (.long x.toInt64 :: st) h R) : AW V M d kc ks pc L (.int x :: st) h R := by
  intro p e s m args below meth c C H locs ls cells slots mc ms hc hs hS hF hL
  exact lv_i2l C.1 C.2.1 hd rfl (k p e s m args below meth c C H locs ls cells slots mc ms hc hs hS hF hL)
theorem aw_i2b {x : Int32} (hd : decode M.2.1 pc = .ok (.i2b, 1)) (k : AW V M d kc ks (pc + 1) L (.int x.toInt8.toInt32 :: st) h R) : AW V M d kc ks pc L (.int x :: st) h R := by
  intro p e s m args below meth c C H locs ls cells slots mc ms hc hs hS hF hL
  exact lv_i2b C.1 C.2.1 hd rfl (k p e s m args below meth c C H locs ls cells slots mc ms hc hs hS hF hL)
theorem aw_i2s {x : Int32} (hd : decode M.2.1 pc = .ok (.i2s, 1)) (k : AW V M d kc ks (pc + 1) L (.int x.toInt16.toInt32 :: st) h R) : AW V M d kc ks pc L (.int x :: st) h R := by
  intro p e s m args below meth c C H locs ls cells slots mc ms hc hs hS hF hL
  exact lv_i2s C.1 C.2.1 hd rfl (k p e s m args below meth c C H locs ls cells slots mc ms hc hs hS hF hL)
theorem aw_dup {v : Value} (hd : decode M.2.1 pc = .ok (.dup, 1)) (hv : v.category = 1) (k : AW V M d kc ks (pc + 1) L (v :: v :: st) h R) : AW V M d kc ks pc L (v :: st) h R := by
  intro p e s m args below meth c C H locs ls cells slots mc ms hc hs hS hF hL
  exact lv_dup C.1 C.2.1 hd (by rw [am_cat]; exact hv) (k p e s m args below meth c C H locs ls cells slots mc ms hc hs hS hF hL)
theorem aw_pop {v : Value} (hd : decode M.2.1 pc = .ok (.pop, 1)) (hv : v.category = 1) (k : AW V M d kc ks (pc + 1) L st h R) : AW V M d kc ks pc L (v :: st) h R := by
  intro p e s m args below meth c C H locs ls cells slots mc ms hc hs hS hF hL
  exact lv_pop C.1 C.2.1 hd (va := am_cv V v) (by rw [am_cat]; exact hv) (k p e s m args below meth c C H locs ls cells slots mc ms hc hs hS hF hL)
theorem aw_dup2 {v u : Value} (hd : decode M.2.1 pc = .ok (.dup2, 1)) (hv : v.category = 1) (hu : u.category = 1) (k : AW V M d kc ks (pc + 1) L (v :: u :: v :: u :: st) h R) : AW V M d kc ks pc L (v :: u :: st) h R := by
  intro p e s m args below meth c C H locs ls cells slots mc ms hc hs hS hF hL
  exact lv_dup2_11 C.1 C.2.1 hd (by rw [am_cat]; exact hv) (by rw [am_cat]; exact hu) (k p e s m args below meth c C H locs ls cells slots mc ms hc hs hS hF hL)
theorem aw_if_eq {x : Int32} {off : Int} {tgt : Nat} (hd : decode M.2.1 pc = .ok (.ifCond .eq off, 3)) (ht : (pc : Int) + off = (tgt : Int)) (kt : x = 0 → AW V M d kc ks tgt L st h R) (kf : ¬ x = 0 → AW V M d kc ks (pc + 3) L st h R) : AW V M d kc ks pc L (.int x :: st) h R := by
  intro p e s m args below meth c C H locs ls cells slots mc ms hc hs hS hF hL
  exact lv_if_eq C.1 C.2.1 hd ht (fun z => kt z p e s m args below meth c C H locs ls cells slots mc ms hc hs hS hF hL) (fun z => kf z p e s m args below meth c C H locs ls cells slots mc ms hc hs hS hF hL)
theorem aw_icmp_eq {x y : Int32} {off : Int} {tgt : Nat} (hd : decode M.2.1 pc = .ok (.if_icmp .eq off, 3)) (ht : (pc : Int) + off = (tgt : Int)) (kt : x = y → AW V M d kc ks tgt L st h R) (kf : ¬ x = y → AW V M d kc ks (pc + 3) L st h R) : AW V M d kc ks pc L (.int y :: .int x :: st) h R := by
  intro p e s m args below meth c C H locs ls cells slots mc ms hc hs hS hF hL
  exact lv_icmp_eq C.1 C.2.1 hd ht (fun z => kt z p e s m args below meth c C H locs ls cells slots mc ms hc hs hS hF hL) (fun z => kf z p e s m args below meth c C H locs ls cells slots mc ms hc hs hS hF hL)
theorem aw_if_ne {x : Int32} {off : Int} {tgt : Nat} (hd : decode M.2.1 pc = .ok (.ifCond .ne off, 3)) (ht : (pc : Int) + off = (tgt : Int)) (kt : ¬ x = 0 → AW V M d kc ks tgt L st h R) (kf : x = 0 → AW V M d kc ks (pc + 3) L st h R) : AW V M d kc ks pc L (.int x :: st) h R := by
  intro p e s m args below meth c C H locs ls cells slots mc ms hc hs hS hF hL
  exact lv_if_ne C.1 C.2.1 hd ht (fun z => kt z p e s m args below meth c C H locs ls cells slots mc ms hc hs hS hF hL) (fun z => kf z p e s m args below meth c C H locs ls cells slots mc ms hc hs hS hF hL)
theorem aw_icmp_ne {x y : Int32} {off : Int} {tgt : Nat} (hd : decode M.2.1 pc = .ok (.if_icmp .ne off, 3)) (ht : (pc : Int) + off = (tgt : Int)) (kt : ¬ x = y → AW V M d kc ks tgt L st h R) (kf : x = y → AW V M d kc ks (pc + 3) L st h R) : AW V M d kc ks pc L (.int y :: .int x :: st) h R := by
  intro p e s m args below meth c C H locs ls cells slots mc ms hc hs hS hF hL
  exact lv_icmp_ne C.1 C.2.1 hd ht (fun z => kt z p e s m args below meth c C H locs ls cells slots mc ms hc hs hS hF hL) (fun z => kf z p e s m args below meth c C H locs ls cells slots mc ms hc hs hS hF hL)
theorem aw_if_lt {x : Int32} {off : Int} {tgt : Nat} (hd : decode M.2.1 pc = .ok (.ifCond .lt off, 3)) (ht : (pc : Int) + off = (tgt : Int)) (kt : x < 0 → AW V M d kc ks tgt L st h R) (kf : ¬ x < 0 → AW V M d kc ks (pc + 3) L st h R) : AW V M d kc ks pc L (.int x :: st) h R := by
  intro p e s m args below meth c C H locs ls cells slots mc ms hc hs hS hF hL
  exact lv_if_lt C.1 C.2.1 hd ht (fun z => kt z p e s m args below meth c C H locs ls cells slots mc ms hc hs hS hF hL) (fun z => kf z p e s m args below meth c C H locs ls cells slots mc ms hc hs hS hF hL)
theorem aw_icmp_lt {x y : Int32} {off : Int} {tgt : Nat} (hd : decode M.2.1 pc = .ok (.if_icmp .lt off, 3)) (ht : (pc : Int) + off = (tgt : Int)) (kt : x < y → AW V M d kc ks tgt L st h R) (kf : ¬ x < y → AW V M d kc ks (pc + 3) L st h R) : AW V M d kc ks pc L (.int y :: .int x :: st) h R := by
  intro p e s m args below meth c C H locs ls cells slots mc ms hc hs hS hF hL
  exact lv_icmp_lt C.1 C.2.1 hd ht (fun z => kt z p e s m args below meth c C H locs ls cells slots mc ms hc hs hS hF hL) (fun z => kf z p e s m args below meth c C H locs ls cells slots mc ms hc hs hS hF hL)
theorem aw_if_ge {x : Int32} {off : Int} {tgt : Nat} (hd : decode M.2.1 pc = .ok (.ifCond .ge off, 3)) (ht : (pc : Int) + off = (tgt : Int)) (kt : 0 ≤ x → AW V M d kc ks tgt L st h R) (kf : ¬ 0 ≤ x → AW V M d kc ks (pc + 3) L st h R) : AW V M d kc ks pc L (.int x :: st) h R := by
  intro p e s m args below meth c C H locs ls cells slots mc ms hc hs hS hF hL
  exact lv_if_ge C.1 C.2.1 hd ht (fun z => kt z p e s m args below meth c C H locs ls cells slots mc ms hc hs hS hF hL) (fun z => kf z p e s m args below meth c C H locs ls cells slots mc ms hc hs hS hF hL)
theorem aw_icmp_ge {x y : Int32} {off : Int} {tgt : Nat} (hd : decode M.2.1 pc = .ok (.if_icmp .ge off, 3)) (ht : (pc : Int) + off = (tgt : Int)) (kt : y ≤ x → AW V M d kc ks tgt L st h R) (kf : ¬ y ≤ x → AW V M d kc ks (pc + 3) L st h R) : AW V M d kc ks pc L (.int y :: .int x :: st) h R := by
  intro p e s m args below meth c C H locs ls cells slots mc ms hc hs hS hF hL
  exact lv_icmp_ge C.1 C.2.1 hd ht (fun z => kt z p e s m args below meth c C H locs ls cells slots mc ms hc hs hS hF hL) (fun z => kf z p e s m args below meth c C H locs ls cells slots mc ms hc hs hS hF hL)
theorem aw_if_gt {x : Int32} {off : Int} {tgt : Nat} (hd : decode M.2.1 pc = .ok (.ifCond .gt off, 3)) (ht : (pc : Int) + off = (tgt : Int)) (kt : 0 < x → AW V M d kc ks tgt L st h R) (kf : ¬ 0 < x → AW V M d kc ks (pc + 3) L st h R) : AW V M d kc ks pc L (.int x :: st) h R := by
  intro p e s m args below meth c C H locs ls cells slots mc ms hc hs hS hF hL
  exact lv_if_gt C.1 C.2.1 hd ht (fun z => kt z p e s m args below meth c C H locs ls cells slots mc ms hc hs hS hF hL) (fun z => kf z p e s m args below meth c C H locs ls cells slots mc ms hc hs hS hF hL)
theorem aw_icmp_gt {x y : Int32} {off : Int} {tgt : Nat} (hd : decode M.2.1 pc = .ok (.if_icmp .gt off, 3)) (ht : (pc : Int) + off = (tgt : Int)) (kt : y < x → AW V M d kc ks tgt L st h R) (kf : ¬ y < x → AW V M d kc ks (pc + 3) L st h R) : AW V M d kc ks pc L (.int y :: .int x :: st) h R := by
  intro p e s m args below meth c C H locs ls cells slots mc ms hc hs hS hF hL
  exact lv_icmp_gt C.1 C.2.1 hd ht (fun z => kt z p e s m args below meth c C H locs ls cells slots mc ms hc hs hS hF hL) (fun z => kf z p e s m args below meth c C H locs ls cells slots mc ms hc hs hS hF hL)
theorem aw_if_le {x : Int32} {off : Int} {tgt : Nat} (hd : decode M.2.1 pc = .ok (.ifCond .le off, 3)) (ht : (pc : Int) + off = (tgt : Int)) (kt : x ≤ 0 → AW V M d kc ks tgt L st h R) (kf : ¬ x ≤ 0 → AW V M d kc ks (pc + 3) L st h R) : AW V M d kc ks pc L (.int x :: st) h R := by
  intro p e s m args below meth c C H locs ls cells slots mc ms hc hs hS hF hL
  exact lv_if_le C.1 C.2.1 hd ht (fun z => kt z p e s m args below meth c C H locs ls cells slots mc ms hc hs hS hF hL) (fun z => kf z p e s m args below meth c C H locs ls cells slots mc ms hc hs hS hF hL)
theorem aw_icmp_le {x y : Int32} {off : Int} {tgt : Nat} (hd : decode M.2.1 pc = .ok (.if_icmp .le off, 3)) (ht : (pc : Int) + off = (tgt : Int)) (kt : x ≤ y → AW V M d kc ks tgt L st h R) (kf : ¬ x ≤ y → AW V M d kc ks (pc + 3) L st h R) : AW V M d kc ks pc L (.int y :: .int x :: st) h R := by
  intro p e s m args below meth c C H locs ls cells slots mc ms hc hs hS hF hL
  exact lv_icmp_le C.1 C.2.1 hd ht (fun z => kt z p e s m args below meth c C H locs ls cells slots mc ms hc hs hS hF hL) (fun z => kf z p e s m args below meth c C H locs ls cells slots mc ms hc hs hS hF hL)
theorem aw_goto {off : Int} {tgt : Nat} (hd : decode M.2.1 pc = .ok (.goto off, 3)) (ht : (pc : Int) + off = (tgt : Int)) (k : AW V M d kc ks tgt L st h R) : AW V M d kc ks pc L st h R := by
  intro p e s m args below meth c C H locs ls cells slots mc ms hc hs hS hF hL
  exact lv_goto C.1 C.2.1 hd ht (k p e s m args below meth c C H locs ls cells slots mc ms hc hs hS hF hL)
theorem aw_tableOut {dflt lo hi : Int} {offs : Array Int} {len : Nat} {x : Int32} {tgt : Nat} (hd : decode M.2.1 pc = .ok (.tableswitch dflt lo hi offs, len)) (hx : x.toInt < lo ∨ hi < x.toInt) (ht : (pc : Int) + dflt = (tgt : Int)) (k : AW V M d kc ks tgt L st h R) : AW V M d kc ks pc L (.int x :: st) h R := by
  intro p e s m args below meth c C H locs ls cells slots mc ms hc hs hS hF hL
  exact lv_tableOut C.1 C.2.1 hd hx ht (k p e s m args below meth c C H locs ls cells slots mc ms hc hs hS hF hL)
theorem aw_tableIn {dflt lo hi : Int} {offs : Array Int} {len : Nat} {x : Int32} {off : Int} {tgt : Nat} (hd : decode M.2.1 pc = .ok (.tableswitch dflt lo hi offs, len)) (h1 : ¬ x.toInt < lo) (h2 : ¬ hi < x.toInt) (ho : offs[(x.toInt - lo).toNat]? = some off) (ht : (pc : Int) + off = (tgt : Int)) (k : AW V M d kc ks tgt L st h R) : AW V M d kc ks pc L (.int x :: st) h R := by
  intro p e s m args below meth c C H locs ls cells slots mc ms hc hs hS hF hL
  exact lv_tableIn C.1 C.2.1 hd h1 h2 ho ht (k p e s m args below meth c C H locs ls cells slots mc ms hc hs hS hF hL)
theorem aw_lookup {dflt : Int} {ps : Array (Int × Int)} {len : Nat} {x : Int32} {off : Int} {tgt : Nat} (hd : decode M.2.1 pc = .ok (.lookupswitch dflt ps, len)) (hp : (ps.toList.zip (ps.toList.drop 1)).all (fun (a, next) => a.1 < next.1) = true) (ho : Op.lookupswitch.offset ps.toList dflt x.toInt = off) (ht : (pc : Int) + off = (tgt : Int)) (k : AW V M d kc ks tgt L st h R) : AW V M d kc ks pc L (.int x :: st) h R := by
  intro p e s m args below meth c C H locs ls cells slots mc ms hc hs hS hF hL
  exact lv_lookup C.1 C.2.1 hd hp ho ht (k p e s m args below meth c C H locs ls cells slots mc ms hc hs hS hF hL)
theorem aw_ireturn {v : Int32} {ty : FieldType} (hd : decode M.2.1 pc = .ok (.ireturn, 1)) (hr : M.2.2.2 = some ty) (hn : narrow ty (.int v) = .int v) (hR : R (some (.int v)) h) : AW V M d kc ks pc L [.int v] h R := by
  intro p e s m args below meth c C H locs ls cells slots mc ms hc hs hS hF hL
  refine W.widen (k := mc) (n := ms) (by omega) (by omega) ?_
  exact W.zret (Qc := am_Q V R) (free := am_A V) C.1 C.2.1 (C.2.2.2.1.trans hr) hn (fun t ht _ => ⟨⟨some (.int v), h, rfl, hR, by rw [ht]; exact hS⟩, hF.F ht⟩) hF.2.2 hd (hlocks := C.2.2.2.2.2.2.2.2.1)
theorem aw_lreturn {v : Int64} (hd : decode M.2.1 pc = .ok (.lreturn, 1)) (hr : M.2.2.2 = some .long) (hR : R (some (.long v)) h) : AW V M d kc ks pc L [.long v] h R := by
  intro p e s m args below meth c C H locs ls cells slots mc ms hc hs hS hF hL
  refine W.widen (k := mc) (n := ms) (by omega) (by omega) ?_
  exact W.lret (Qc := am_Q V R) (free := am_A V) C.1 C.2.1 (C.2.2.2.1.trans hr) (fun t ht _ => ⟨⟨some (.long v), h, rfl, hR, by rw [ht]; exact hS⟩, hF.F ht⟩) hF.2.2 hd (hlocks := C.2.2.2.2.2.2.2.2.1)
theorem aw_areturn {a : Nat} {nm : String} (hd : decode M.2.1 pc = .ok (.areturn, 1)) (hr : M.2.2.2 = some (.object nm)) (hR : R (some (.ref a)) h) : AW V M d kc ks pc L [.ref a] h R := by
  intro p e s m args below meth c C H locs ls cells slots mc ms hc hs hS hF hL
  refine W.widen (k := mc) (n := ms) (by omega) (by omega) ?_
  exact W.aret (Qc := am_Q V R) (free := am_A V) (v := .ref (am_ad V a)) C.1 C.2.1 (C.2.2.2.1.trans hr) (Or.inl ⟨nm, rfl⟩) (Or.inr ⟨_, rfl⟩) (fun t ht _ => ⟨⟨some (.ref a), h, rfl, hR, by rw [ht]; exact hS⟩, hF.F ht⟩) hF.2.2 hd (hlocks := C.2.2.2.2.2.2.2.2.1)
theorem aw_return (hd : decode M.2.1 pc = .ok (.return_, 1)) (hr : M.2.2.2 = none) (hR : R none h) : AW V M d kc ks pc L [] h R := by
  intro p e s m args below meth c C H locs ls cells slots mc ms hc hs hS hF hL
  refine W.widen (k := mc) (n := ms) (by omega) (by omega) ?_
  exact W.vret (Qc := am_Q V R) (free := am_A V) C.1 C.2.1 (C.2.2.2.1.trans hr) (fun t ht _ => ⟨⟨none, h, rfl, hR, by rw [ht]; exact hS⟩, hF.F ht⟩) hF.2.2 hd (hlocks := C.2.2.2.2.2.2.2.2.1)
end AMR
end
section
theorem am_math_in : Cond.initialized "java/lang/Math" ∈ am_T := am_in 79 (by decide +kernel) (by decide +kernel)
theorem am_mmin_st : Cond.static Lib.Math.min.name ∈ am_T := am_in 315 (by decide +kernel) (by decide +kernel)
theorem am_mmin_co : Cond.code Lib.Math.min.name Lib.Math.min.code 2 (some .int) ∈ am_T := am_in 316 (by decide +kernel) (by decide +kernel)
theorem am_mmax_st : Cond.static Lib.Math.max.name ∈ am_T := am_in 569 (by decide +kernel) (by decide +kernel)
theorem am_mmax_co : Cond.code Lib.Math.max.name Lib.Math.max.code 2 (some .int) ∈ am_T := am_in 570 (by decide +kernel) (by decide +kernel)
theorem am_mabs_st : Cond.static Lib.Math.abs.name ∈ am_T := am_in 647 (by decide +kernel) (by decide +kernel)
theorem am_mabs_co : Cond.code Lib.Math.abs.name Lib.Math.abs.code 1 (some .int) ∈ am_T := am_in 648 (by decide +kernel) (by decide +kernel)
def am_fty (ci k : Nat) : FieldType := match ci with
  | 0 => tyX0 k
  | 1 => tyX1 k
  | 2 => tyX2 k
  | 3 => tyX3 k
  | 4 => tyX4 k
  | _ => tyX5 k
theorem am_cl_in {ci : Nat} {q : vw_C} (hq : am_cl[ci]? = some q) : ∀ x ∈ u_ws q.1 q.2.1 q.2.2, x ∈ am_T := by
  match ci, hq with
  | 0, hq => cases hq; exact am_lay0
  | 1, hq => cases hq; exact am_lay1
  | 2, hq => cases hq; exact am_lay2
  | 3, hq => cases hq; exact am_lay3
  | 4, hq => cases hq; exact am_lay4
  | 5, hq => cases hq; exact am_lay5
  | k + 6, hq => simp [am_cl] at hq
theorem am_cl_ty {ci : Nat} {q : vw_C} (hq : am_cl[ci]? = some q) : ∀ k, k < q.2.2 → parseFieldDescriptor (q.2.1 k).2.2.1 = some (am_fty ci k) := by
  match ci, hq with
  | 0, hq => cases hq; exact tyX0_ok
  | 1, hq => cases hq; exact tyX1_ok
  | 2, hq => cases hq; exact tyX2_ok
  | 3, hq => cases hq; exact tyX3_ok
  | 4, hq => cases hq; exact tyX4_ok
  | 5, hq => cases hq; exact tyX5_ok
  | k + 6, hq => simp [am_cl] at hq
theorem am_cl_nm {ci : Nat} {q : vw_C} (hq : am_cl[ci]? = some q) : ∀ a, a < q.2.2 → ∀ b, b < q.2.2 → a ≠ b → (q.2.1 a).2.1 ≠ (q.2.1 b).2.1 := by
  match ci, hq with
  | 0, hq => cases hq; exact nmX0
  | 1, hq => cases hq; exact nmX1
  | 2, hq => cases hq; exact nmX2
  | 3, hq => cases hq; exact nmX3
  | 4, hq => cases hq; exact nmX4
  | 5, hq => cases hq; exact nmX5
  | k + 6, hq => simp [am_cl] at hq
theorem am_good {w : Cond} (hw : w ∈ am_T) : w ∈ am_T ∧ ((w.onTables && w.keeps) = true ∨ ∃ ty, w = .arrayClass ty) := ⟨hw, good_of_word (List.mem_filter.mp hw).2⟩
theorem am_ws_good {M : am_M} (h : am_okC M) : GoodIn am_T (am_ws M) := by
  intro w hw
  rcases List.mem_cons.mp hw with rfl | hw
  · exact am_good h.1
  · exact am_good hw
section AMH
variable {V : am_V} {h : List va_E} {H H1 : Heap}
theorem am_S.at (hS : am_S V h H) {a : Nat} {e : va_E} (he : h[a]? = some e) : va_at V.2.1 am_cl (am_ad V a, am_ce V e) H := by
  have hl : a < h.length := (List.getElem?_eq_some_iff.mp he).1
  rw [am_ad_lt (by have := hS.1; omega)]
  exact hS.2.2 a e he
theorem am_S.one (hS : am_S V h H) {a : Nat} {e : va_E} (he : h[a]? = some e) : va_P V.2.1 am_cl [(am_ad V a, am_ce V e)] H := by
  intro k q hk
  cases k with
  | zero => cases hk; exact hS.at he
  | succ k => simp at hk
theorem am_S.in (hS : am_S V h H) {a : Nat} {e : va_E} (he : h[a]? = some e) : am_A V (am_ad V a) := by
  have hl : a < h.length := (List.getElem?_eq_some_iff.mp he).1
  rw [am_ad_lt (by have := hS.1; omega)]
  exact Nat.le_add_right _ _
theorem am_S.set (hS : am_S V h H) {a : Nat} {e0 e : va_E} (he : h[a]? = some e0) (h1 : va_at V.2.1 am_cl (am_ad V a, am_ce V e) H1) (z : H1.size = H.size) (oq : ∀ q : Nat, q ≠ am_ad V a → H1[q]? = H[q]?) : am_S V (h.set a e) H1 := by
  have hl : a < h.length := (List.getElem?_eq_some_iff.mp he).1
  have hm := hS.1
  have ha : am_ad V a = V.2.2.2.1 + a := am_ad_lt (by omega)
  refine ⟨by rw [List.length_set]; exact hS.1, by rw [z, List.length_set]; exact hS.2.1, fun b e' hb => ?_⟩
  by_cases hba : b = a
  · subst hba
    rw [List.getElem?_set_self hl] at hb
    cases hb
    rw [← ha]
    exact h1
  · rw [List.getElem?_set_ne (Ne.symm hba)] at hb
    exact (hS.2.2 b e' hb).kept (oq _ (by rw [ha]; omega))
theorem am_S.push (hS : am_S V h H) {e : va_E} (hm : h.length < 1000000) (h1 : va_at V.2.1 am_cl (H.size, am_ce V e) H1) (z : H1.size = H.size + 1) (oq : ∀ q : Nat, q < H.size → H1[q]? = H[q]?) : am_S V (h ++ [e]) H1 := by
  refine ⟨by simp; omega, by rw [z, hS.2.1]; simp; omega, fun b e' hb => ?_⟩
  by_cases hl : b < h.length
  · rw [List.getElem?_append_left hl] at hb
    exact (hS.2.2 b e' hb).kept (oq _ (by show V.2.2.2.1 + b < H.size; rw [hS.2.1]; omega))
  · rw [List.getElem?_append_right (by omega)] at hb
    have hz : b - h.length < 1 := (List.getElem?_eq_some_iff.mp hb).1
    have hbl : b = h.length := by omega
    subst hbl
    rw [Nat.sub_self] at hb
    cases hb
    rw [← hS.2.1]
    exact h1
end AMH
section AMF
variable {V : am_V} {M : am_M} {d kc ks pc : Nat} {L : List (Option Value)} {st : List Value} {h : List va_E} {R : Option Value → List va_E → Prop}

theorem aw_get {a ci idx : Nat} {q : vw_C} {fs : List Value} {v : Value} (k : Nat) (hd : decode M.2.1 pc = .ok (.getfield idx, 3)) (hq : am_cl[ci]? = some q) (hl : Cond.fieldLink M.1.cls idx (q.2.1 k).1 (q.2.1 k).2.1 (q.2.1 k).2.2.1 ∈ am_T) (hk : k < q.2.2) (he : h[a]? = some (.inr (ci, fs))) (hv : fs[k]? = some v) (kk : AW V M d kc ks (pc + 3) L (v :: st) h R) : AW V M d kc ks pc L (.ref a :: st) h R := by
  intro p e s m args below meth c C H locs ls cells slots mc ms hc hs hS hF hL
  have hts := C.2.2.2.2.2.1
  have hown := C.2.2.2.2.1
  have hK := C.2.2.2.2.2.2.2.1
  exact va_get (D := V.2.1) (cl := am_cl) (tys := am_tys V) (ws := [(am_ad V a, am_ce V (.inr (ci, fs)))]) (ci := ci) (C := q.1) (T := q.2.1) (N := q.2.2) (fs := fs.map (am_cv V)) (v := am_cv V v) C.1 C.2.1 hts (am_cl_in hq) hown hK (hS.one he) 0 rfl hq k hk (hts _ hl) (fun _ z => z) (by rw [List.getElem?_map, hv]; rfl) hd (kk p e s m args below meth c C H locs ls cells slots mc ms hc hs hS hF hL)
theorem aw_put {a ci idx : Nat} {q : vw_C} {fs : List Value} {v : Value} {h' : List va_E} (k : Nat) (hd : decode M.2.1 pc = .ok (.putfield idx, 3)) (hq : am_cl[ci]? = some q) (hl : Cond.fieldLink M.1.cls idx (q.2.1 k).1 (q.2.1 k).2.1 (q.2.1 k).2.2.1 ∈ am_T) (hk : k < q.2.2) (hf : (q.2.1 k).2.2.2 = false) (he : h[a]? = some (.inr (ci, fs))) (hn : narrow (am_fty ci k) (am_cv V v) = am_cv V v) (hfit : fits (am_fty ci k) (am_cv V v) = true) (hlen : k < fs.length) (hh : h.set a (.inr (ci, fs.set k v)) = h') (kk : AW V M d kc ks (pc + 3) L st h' R) : AW V M d kc ks pc L (v :: .ref a :: st) h R := by
  subst hh
  intro p e s m args below meth c C H locs ls cells slots mc ms hc hs hS hF hL
  have hts := C.2.2.2.2.2.1
  have hown := C.2.2.2.2.1
  have hK := C.2.2.2.2.2.2.2.1
  have hap := va_apart (own := M.1.cls) (D := V.2.1) (cl := am_cl) (tys := am_tys V) (ci := ci) (C := q.1) (T := q.2.1) (N := q.2.2) hts (am_cl_in hq) (am_fty ci) (am_cl_ty hq) (am_cl_nm hq) hK hq
  have hat := hS.at he
  obtain ⟨r, h1, cell, q1, q2, q3, q4⟩ := hat
  have hr : r = q := Option.some.inj (h1.symm.trans hq)
  subst hr
  obtain ⟨hSl, hfc, kC, hkC, hkind⟩ := hK.1 ci _ hq
  obtain ⟨cf, kf, fi, f, hi, hsl⟩ := hSl k hk
  have hlay := hts _ (am_cl_in hq _ (u_in_lay hk))
  unfold u_lay at hlay
  rw [if_neg (by rw [hf]; decide)] at hlay
  have hst := (u_facts hfc hkC (u_lays hts (am_cl_in hq) hk) hi).1
  have h6 := u_store hfc hkC hkind hlay hi (am_cl_ty hq k hk) hn hfit
  refine W.putK C.1 C.2.1 (f := f) ⟨hown, hts _ hl, ⟨_, _, _, hi⟩, hst⟩ (by rw [q2]; exact h6) q1 q3 (by rw [hsl]; exact k2_hasslot (q4 k hk)) rfl rfl hd fun H' e1 e2 e3 => ?_
  rw [hsl] at e1 ⊢
  exact kk p e s m args below meth c C H' _ ls cells slots mc ms hc hs (hS.set he ⟨_, hq, t_OB.to (V := updV (vp_V (fs.map (am_cv V))) k (am_cv V v)) ⟨_, e1, q2, q3, t_set q4 hap hk (am_cv V v)⟩ (fun j _ => by rw [List.map_set]; exact vp_updV_set (by rw [List.length_map]; exact hlen) (am_cv V v) j)⟩ e2 e3) (hF.put e2 e3 (hS.in he)) hL
theorem aw_putF {a ci idx : Nat} {q : vw_C} {fs : List Value} {v : Value} {h' : List va_E} (k : Nat) (hd : decode M.2.1 pc = .ok (.putfield idx, 3)) (hq : am_cl[ci]? = some q) (hl : Cond.fieldLink M.1.cls idx (q.2.1 k).1 (q.2.1 k).2.1 (q.2.1 k).2.2.1 ∈ am_T) (hk : k < q.2.2) (hf : (q.2.1 k).2.2.2 = true) (hini : M.1.name = "<init>") (hdecl : (q.2.1 k).1 = M.1.cls) (he : h[a]? = some (.inr (ci, fs))) (hn : narrow (am_fty ci k) (am_cv V v) = am_cv V v) (hfit : fits (am_fty ci k) (am_cv V v) = true) (hlen : k < fs.length) (hh : h.set a (.inr (ci, fs.set k v)) = h') (kk : AW V M d kc ks (pc + 3) L st h' R) : AW V M d kc ks pc L (v :: .ref a :: st) h R := by
  subst hh
  intro p e s m args below meth c C H locs ls cells slots mc ms hc hs hS hF hL
  have hts := C.2.2.2.2.2.1
  have hown := C.2.2.2.2.1
  have hK := C.2.2.2.2.2.2.2.1
  have hap := va_apart (own := M.1.cls) (D := V.2.1) (cl := am_cl) (tys := am_tys V) (ci := ci) (C := q.1) (T := q.2.1) (N := q.2.2) hts (am_cl_in hq) (am_fty ci) (am_cl_ty hq) (am_cl_nm hq) hK hq
  have hat := hS.at he
  obtain ⟨r, h1, cell, q1, q2, q3, q4⟩ := hat
  have hr : r = q := Option.some.inj (h1.symm.trans hq)
  subst hr
  obtain ⟨hSl, hfc, kC, hkC, hkind⟩ := hK.1 ci _ hq
  obtain ⟨cf, kf, fi, f, hi, hsl⟩ := hSl k hk
  have hlay := hts _ (am_cl_in hq _ (u_in_lay hk))
  unfold u_lay at hlay
  rw [if_pos hf] at hlay
  have hst := (u_facts hfc hkC (u_lays hts (am_cl_in hq) hk) hi).1
  have hcf : m.cls = cf := by
    obtain ⟨_, _, c', _, _, _, -, -, hf', -, -, -, hown2, -⟩ := Cond.laysFinal_spec hlay
    have e1 : c' = cf := by have := hi.symm.trans hf'; simp at this; exact this.1.symm
    rw [hdecl] at hown2
    rw [← e1]; exact Option.some.inj (hown.symm.trans hown2)
  have h6 := u_fits hfc hkC hkind (Or.inr hlay) hi (am_cl_ty hq k hk) hn hfit
  refine W.putFinK C.1 C.2.1 hown (hts _ hl) hi hst hcf (C.2.2.2.2.2.2.2.2.2.1.trans hini) (by rw [q2]; exact h6) q1 q3 (by rw [hsl]; exact k2_hasslot (q4 k hk)) rfl rfl hd fun H' e1 e2 e3 => ?_
  rw [hsl] at e1 ⊢
  exact kk p e s m args below meth c C H' _ ls cells slots mc ms hc hs (hS.set he ⟨_, hq, t_OB.to (V := updV (vp_V (fs.map (am_cv V))) k (am_cv V v)) ⟨_, e1, q2, q3, t_set q4 hap hk (am_cv V v)⟩ (fun j _ => by rw [List.map_set]; exact vp_updV_set (by rw [List.length_map]; exact hlen) (am_cv V v) j)⟩ e2 e3) (hF.put e2 e3 (hS.in he)) hL
theorem aw_iald {a n : Nat} {f : Nat → Int32} {i : Int32} (hd : decode M.2.1 pc = .ok (.iaload, 1)) (he : h[a]? = some (.inl (0, n, .inl f))) (hin : vp_in i n) (kk : AW V M d kc ks (pc + 1) L (.int (f i.toNatClampNeg) :: st) h R) : AW V M d kc ks pc L (.int i :: .ref a :: st) h R := by
  intro p e s m args below meth c C H locs ls cells slots mc ms hc hs hS hF hL
  have hts := C.2.2.2.2.2.1
  have hown := C.2.2.2.2.1
  have hK := C.2.2.2.2.2.2.2.1
  exact va_iald (D := V.2.1) (cl := am_cl) (tys := am_tys V) (ws := [(am_ad V a, am_ce V (.inl (0, n, .inl f)))]) C.1 C.2.1 hK (hS.one he) 0 0 rfl rfl hin hd (kk p e s m args below meth c C H locs ls cells slots mc ms hc hs hS hF hL)
theorem aw_bald {a n : Nat} {f : Nat → Int32} {i : Int32} (hd : decode M.2.1 pc = .ok (.baload, 1)) (he : h[a]? = some (.inl (1, n, .inl f))) (hin : vp_in i n) (kk : AW V M d kc ks (pc + 1) L (.int (f i.toNatClampNeg) :: st) h R) : AW V M d kc ks pc L (.int i :: .ref a :: st) h R := by
  intro p e s m args below meth c C H locs ls cells slots mc ms hc hs hS hF hL
  have hts := C.2.2.2.2.2.1
  have hown := C.2.2.2.2.1
  have hK := C.2.2.2.2.2.2.2.1
  exact va_bald (D := V.2.1) (cl := am_cl) (tys := am_tys V) (ws := [(am_ad V a, am_ce V (.inl (1, n, .inl f)))]) C.1 C.2.1 hK (hS.one he) 0 1 rfl rfl hin hd (kk p e s m args below meth c C H locs ls cells slots mc ms hc hs hS hF hL)
theorem aw_zald {a n : Nat} {f : Nat → Int32} {i : Int32} (hd : decode M.2.1 pc = .ok (.baload, 1)) (he : h[a]? = some (.inl (2, n, .inl f))) (hin : vp_in i n) (kk : AW V M d kc ks (pc + 1) L (.int (f i.toNatClampNeg) :: st) h R) : AW V M d kc ks pc L (.int i :: .ref a :: st) h R := by
  intro p e s m args below meth c C H locs ls cells slots mc ms hc hs hS hF hL
  have hts := C.2.2.2.2.2.1
  have hown := C.2.2.2.2.1
  have hK := C.2.2.2.2.2.2.2.1
  exact va_zald (D := V.2.1) (cl := am_cl) (tys := am_tys V) (ws := [(am_ad V a, am_ce V (.inl (2, n, .inl f)))]) C.1 C.2.1 hK (hS.one he) 0 2 rfl rfl hin hd (kk p e s m args below meth c C H locs ls cells slots mc ms hc hs hS hF hL)
theorem aw_aald {a n t b : Nat} {g : Nat → Option Nat} {i : Int32} {cn : String} (hd : decode M.2.1 pc = .ok (.aaload, 1)) (he : h[a]? = some (.inl (t, n, .inr (.inr (.inr (.inr g)))))) (ht : (am_tys V)[t]? = some (V.2.2.1 t, .object cn)) (hin : vp_in i n) (hg : g i.toNatClampNeg = some b) (kk : AW V M d kc ks (pc + 1) L (.ref b :: st) h R) : AW V M d kc ks pc L (.int i :: .ref a :: st) h R := by
  intro p e s m args below meth c C H locs ls cells slots mc ms hc hs hS hF hL
  have hts := C.2.2.2.2.2.1
  have hown := C.2.2.2.2.1
  have hK := C.2.2.2.2.2.2.2.1
  refine va_aldq (D := V.2.1) (cl := am_cl) (tys := am_tys V) (ws := [(am_ad V a, am_ce V (.inl (t, n, .inr (.inr (.inr (.inr g))))))]) (C := cn) C.1 C.2.1 hK (hS.one he) 0 t rfl ht hin hd ?_
  have e1 : va_rf ((fun j => (g j).map (am_ad V)) i.toNatClampNeg) = Value.ref (am_ad V b) := by simp [hg, va_rf]
  rw [e1]
  exact kk p e s m args below meth c C H locs ls cells slots mc ms hc hs hS hF hL
theorem aw_iast {a n : Nat} {f : Nat → Int32} {i x : Int32} {h' : List va_E} (hd : decode M.2.1 pc = .ok (.iastore, 1)) (he : h[a]? = some (.inl (0, n, .inl f))) (hin : vp_in i n) (hh : h.set a (.inl (0, n, .inl (upd f i.toNatClampNeg x))) = h') (kk : AW V M d kc ks (pc + 1) L st h' R) : AW V M d kc ks pc L (.int x :: .int i :: .ref a :: st) h R := by
  subst hh
  intro p e s m args below meth c C H locs ls cells slots mc ms hc hs hS hF hL
  have hts := C.2.2.2.2.2.1
  have hown := C.2.2.2.2.1
  have hK := C.2.2.2.2.2.2.2.1
  have hat : H[am_ad V a]? = some (vp_cell (V.2.2.1 0) (n, .inl f)) := hS.at he
  refine W.iast C.1 C.2.1 hat ((hK.2 0 _ rfl).1 n (fun j => .int (f j))) (fun q => by cases q) (by show ¬ (i < 0 ∨ (arrV _ _ _).slots.size ≤ _); rw [arrV_size]; exact hin) rfl rfl hd fun H1 e1 z oq => ?_
  refine kk p e s m args below meth c C H1 _ ls cells slots mc ms hc hs (hS.set he ?_ z oq) (hF.put z oq (hS.in he)) hL
  show H1[am_ad V a]? = some (vp_cell _ _)
  rw [e1]
  simp only [am_ca]
  rw [vp_cell_i, vp_cell_i, arrV_store]
  congr 2
  funext q
  by_cases hq : q = i.toNatClampNeg
  · subst hq
    simp [updV, upd, vp_nar]
    try rfl
  · simp [updV, upd, hq]
theorem aw_bast {a n : Nat} {f : Nat → Int32} {i x : Int32} {h' : List va_E} (hd : decode M.2.1 pc = .ok (.bastore, 1)) (he : h[a]? = some (.inl (1, n, .inl f))) (hin : vp_in i n) (hh : h.set a (.inl (1, n, .inl (upd f i.toNatClampNeg (vp_nar .byte x)))) = h') (kk : AW V M d kc ks (pc + 1) L st h' R) : AW V M d kc ks pc L (.int x :: .int i :: .ref a :: st) h R := by
  subst hh
  intro p e s m args below meth c C H locs ls cells slots mc ms hc hs hS hF hL
  have hts := C.2.2.2.2.2.1
  have hown := C.2.2.2.2.1
  have hK := C.2.2.2.2.2.2.2.1
  have hat : H[am_ad V a]? = some (vp_cell (V.2.2.1 1) (n, .inl f)) := hS.at he
  refine W.bast C.1 C.2.1 hat ((hK.2 1 _ rfl).1 n (fun j => .int (f j))) (fun q => by cases q) (by show ¬ (i < 0 ∨ (arrV _ _ _).slots.size ≤ _); rw [arrV_size]; exact hin) rfl rfl hd fun H1 e1 z oq => ?_
  refine kk p e s m args below meth c C H1 _ ls cells slots mc ms hc hs (hS.set he ?_ z oq) (hF.put z oq (hS.in he)) hL
  show H1[am_ad V a]? = some (vp_cell _ _)
  rw [e1]
  simp only [am_ca]
  rw [vp_cell_i, vp_cell_i, arrV_store]
  congr 2
  funext q
  by_cases hq : q = i.toNatClampNeg
  · subst hq
    simp [updV, upd, vp_nar]
    try rfl
  · simp [updV, upd, hq]
theorem aw_zast {a n : Nat} {f : Nat → Int32} {i x : Int32} {h' : List va_E} (hd : decode M.2.1 pc = .ok (.bastore, 1)) (he : h[a]? = some (.inl (2, n, .inl f))) (hin : vp_in i n) (hh : h.set a (.inl (2, n, .inl (upd f i.toNatClampNeg (vp_nar .boolean x)))) = h') (kk : AW V M d kc ks (pc + 1) L st h' R) : AW V M d kc ks pc L (.int x :: .int i :: .ref a :: st) h R := by
  subst hh
  intro p e s m args below meth c C H locs ls cells slots mc ms hc hs hS hF hL
  have hts := C.2.2.2.2.2.1
  have hown := C.2.2.2.2.1
  have hK := C.2.2.2.2.2.2.2.1
  have hat : H[am_ad V a]? = some (vp_cell (V.2.2.1 2) (n, .inl f)) := hS.at he
  refine W.zast C.1 C.2.1 hat ((hK.2 2 _ rfl).1 n (fun j => .int (f j))) (fun q => by cases q) (by show ¬ (i < 0 ∨ (arrV _ _ _).slots.size ≤ _); rw [arrV_size]; exact hin) rfl rfl hd fun H1 e1 z oq => ?_
  refine kk p e s m args below meth c C H1 _ ls cells slots mc ms hc hs (hS.set he ?_ z oq) (hF.put z oq (hS.in he)) hL
  show H1[am_ad V a]? = some (vp_cell _ _)
  rw [e1]
  simp only [am_ca]
  rw [vp_cell_i, vp_cell_i, arrV_store]
  congr 2
  funext q
  by_cases hq : q = i.toNatClampNeg
  · subst hq
    simp [updV, upd, vp_nar]
    try rfl
  · simp [updV, upd, hq]
theorem aw_alen {a n t : Nat} {x : (Nat → Int32) ⊕ (Nat → Int64) ⊕ (Nat → UInt32) ⊕ (Nat → UInt64) ⊕ (Nat → Option Nat)} {ty : FieldType} (hd : decode M.2.1 pc = .ok (.arraylength, 1)) (he : h[a]? = some (.inl (t, n, x))) (ht : (am_tys V)[t]? = some (V.2.2.1 t, ty)) (kk : AW V M d kc ks (pc + 1) L (.int (Int32.ofNat n) :: st) h R) : AW V M d kc ks pc L (.ref a :: st) h R := by
  intro p e s m args below meth c C H locs ls cells slots mc ms hc hs hS hF hL
  have hts := C.2.2.2.2.2.1
  have hown := C.2.2.2.2.1
  have hK := C.2.2.2.2.2.2.2.1
  have hn : (am_ca V (n, x)).1 = n := by
    rcases x with x | x | x | x | x <;> rfl
  exact va_alen (D := V.2.1) (cl := am_cl) (tys := am_tys V) (ws := [(am_ad V a, am_ce V (.inl (t, n, x)))]) C.1 C.2.1 hK (hS.one he) 0 t rfl ht (by rw [hn]) hd (kk p e s m args below meth c C H locs ls cells slots mc ms hc hs hS hF hL)
theorem aw_mmin {idx : Nat} {x y : Int32} (hd : decode M.2.1 pc = .ok (.invokestatic idx, 3)) (hl : Cond.methodLink M.1.cls idx Lib.Math.min.name ∈ am_T) (hw : (st.map fun v => v.category).sum ≤ 8) (kk : AW V M (d + 1) kc ks (pc + 3) L (.int (if y < x then y else x) :: st) h R) : AW V M (d + 1) kc ks pc L (.int y :: .int x :: st) h R := by
  intro p e s m args below meth c C H locs ls cells slots mc ms hc hs hS hF hL
  have hts := C.2.2.2.2.2.1
  have hown := C.2.2.2.2.1
  have hK := C.2.2.2.2.2.2.2.1
  have hcat : ((st.map (am_cv V)).map fun v => v.category).sum ≤ 8 := by
    rw [List.map_map, show ((fun v : Value => v.category) ∘ am_cv V) = (fun v => v.category) from funext (am_cat V)]
    exact hw
  exact va_mmin C.1 C.2.1 (C.2.2.1.trans hL.2.1.symm) hown (hts _ hl) (hts _ am_mmin_st) (hts _ am_math_in) (hts _ am_mmin_co) (Nat.succ_le_succ (Nat.zero_le d)) (by show _ + 13 ≤ 40 * (d + 1); omega) (by show cells ≤ mc; omega) (by show slots ≤ ms; omega) hd (kk p e s m args below meth c C H locs ls cells slots mc ms hc hs hS hF hL)
theorem aw_mmax {idx : Nat} {x y : Int32} (hd : decode M.2.1 pc = .ok (.invokestatic idx, 3)) (hl : Cond.methodLink M.1.cls idx Lib.Math.max.name ∈ am_T) (hw : (st.map fun v => v.category).sum ≤ 8) (kk : AW V M (d + 1) kc ks (pc + 3) L (.int (if x < y then y else x) :: st) h R) : AW V M (d + 1) kc ks pc L (.int y :: .int x :: st) h R := by
  intro p e s m args below meth c C H locs ls cells slots mc ms hc hs hS hF hL
  have hts := C.2.2.2.2.2.1
  have hown := C.2.2.2.2.1
  have hK := C.2.2.2.2.2.2.2.1
  have hcat : ((st.map (am_cv V)).map fun v => v.category).sum ≤ 8 := by
    rw [List.map_map, show ((fun v : Value => v.category) ∘ am_cv V) = (fun v => v.category) from funext (am_cat V)]
    exact hw
  exact va_mmax C.1 C.2.1 (C.2.2.1.trans hL.2.1.symm) hown (hts _ hl) (hts _ am_mmax_st) (hts _ am_math_in) (hts _ am_mmax_co) (Nat.succ_le_succ (Nat.zero_le d)) (by show _ + 13 ≤ 40 * (d + 1); omega) (by show cells ≤ mc; omega) (by show slots ≤ ms; omega) hd (kk p e s m args below meth c C H locs ls cells slots mc ms hc hs hS hF hL)
theorem aw_mabs {idx : Nat} {x : Int32} (hd : decode M.2.1 pc = .ok (.invokestatic idx, 3)) (hl : Cond.methodLink M.1.cls idx Lib.Math.abs.name ∈ am_T) (hw : (st.map fun v => v.category).sum ≤ 8) (kk : AW V M (d + 1) kc ks (pc + 3) L (.int (if 0 ≤ x then x else 0 - x) :: st) h R) : AW V M (d + 1) kc ks pc L (.int x :: st) h R := by
  intro p e s m args below meth c C H locs ls cells slots mc ms hc hs hS hF hL
  have hts := C.2.2.2.2.2.1
  have hown := C.2.2.2.2.1
  have hK := C.2.2.2.2.2.2.2.1
  have hcat : ((st.map (am_cv V)).map fun v => v.category).sum ≤ 8 := by
    rw [List.map_map, show ((fun v : Value => v.category) ∘ am_cv V) = (fun v => v.category) from funext (am_cat V)]
    exact hw
  exact va_mabs C.1 C.2.1 (C.2.2.1.trans hL.2.1.symm) hown (hts _ hl) (hts _ am_mabs_st) (hts _ am_math_in) (hts _ am_mabs_co) (Nat.succ_le_succ (Nat.zero_le d)) (by show _ + 13 ≤ 40 * (d + 1); omega) (by show cells ≤ mc; omega) (by show slots ≤ ms; omega) hd (kk p e s m args below meth c C H locs ls cells slots mc ms hc hs hS hF hL)
theorem am_call {p : Program} {l : Launch} {e : Env} {Rm : Room} {s : State} {m : MethodId} {args : Array Value} {below : List Frame} {meth : Method} {c : Code} {H H0 : Heap} {locs : List Loc} {cells slots mc ms : Nat} {Q : State → Prop} {ls : Array Slot} {rest st0 : List Value} {a : Array Value} {R' : Option Value → List va_E → Prop}
    (hr : va_Run p l e Rm s m args below meth c H locs cells slots mc ms (F0 m pc ls st0) rest (am_Q V R' a) (am_A V)) (hS : va_S (am_A V) H0 H locs)
    (kk : ∀ (r : Option Value) (h' : List va_E) (H1 : Heap) (locs1 : List Loc), R' r h' → am_S V h' H1 → va_S (am_A V) H0 H1 locs1 → W p l e Rm s m args below meth c H1 locs1 (cells + mc) (slots + ms) Q (F0 m (pc + 3) ls ((r.map (am_cv V)).toList ++ rest))) : W p l e Rm s m args below meth c H locs cells slots Q (F0 m pc ls st0) := by
  intro T hT X
  obtain ⟨v, st₀, t, T', L', h0, X', hL, e1, e2, ⟨⟨r, h', hv, hp, hb⟩, hz, hk⟩, st⟩ := hr T hT X
  cases hv
  rw [h0] at hz hk
  obtain ⟨t2, a1, b1⟩ := kk r h' T'.heap (locs ++ L') hp (by rw [e1]; exact hb)
    ⟨Nat.le_trans hS.1 (by rw [e1]; exact hz), fun q h1 h2 => by rw [e1, hk q (Nat.lt_of_lt_of_le h1 hS.1) h2]; exact hS.2.1 q h1 h2, fun q hq => by
      rcases List.mem_append.mp hq with h | h
      · exact hS.2.2 q h
      · exact hL q h⟩ T' rfl X'
  exact ⟨t2, st t2 a1, b1⟩
theorem am_restL {r : Option Value} : (r.map (am_cv V)).toList ++ st.map (am_cv V) = (r.toList ++ st).map (am_cv V) := by cases r <;> rfl
theorem am_restC (hw : (st.map fun v => v.category).sum ≤ 8) : ((st.map (am_cv V)).map fun v => v.category).sum ≤ 8 := by
  rw [List.map_map, show ((fun v : Value => v.category) ∘ am_cv V) = (fun v => v.category) from funext (am_cat V)]
  exact hw
theorem aw_callV {M' : am_M} {b ci idx kc' ks' : Nat} {q : vw_C} {fs : List Value} {host : String} {as stk : List Value} (hd : decode M.2.1 pc = .ok (.invokevirtual idx, 3)) (hl : Cond.methodLink M.1.cls idx M'.1 ∈ am_T) (ho : am_okV M') (hn : (parseMethodDescriptor M'.1.desc).map (fun d => d.parameters.length) = some as.length) (he : h[b]? = some (.inr (ci, fs))) (hq : am_cl[ci]? = some q) (hqc : q.1 = M'.1.cls) (hst : as.reverse ++ .ref b :: st = stk) (hw : (st.map fun v => v.category).sum ≤ 8) (kk : AM V M' d kc' ks' (.ref b :: as) h (fun r h' => AW V M (d + 1) kc ks (pc + 3) L (r.toList ++ st) h' R)) : AW V M (d + 1) (kc' + kc) (ks' + ks) pc L stk h R := by
  subst hst
  intro p e s m args below meth c C H locs ls cells slots mc ms hc hs hS hF hL
  have hts := C.2.2.2.2.2.1
  have hown := C.2.2.2.2.1
  have hK := C.2.2.2.2.2.2.2.1
  have hrm : (am_rm d kc' ks').frames + 1 ≤ (am_rm (d + 1) mc ms).frames ∧ 8 + (M'.2.2.1 + 11) + (am_rm d kc' ks').locals ≤ (am_rm (d + 1) mc ms).locals := ⟨Nat.le_refl _, by show 8 + (M'.2.2.1 + 11) + 40 * d ≤ 40 * (d + 1); have := ho.1.2.2.2.2.2; omega⟩
  refine am_call (R' := fun r h' => AW V M (d + 1) kc ks (pc + 3) L (r.toList ++ st) h' R) (va_runV (As := as.map (am_cv V)) (rest := st.map (am_cv V)) (b := am_ad V b) ⟨C.1, C.2.1, C.2.2.1, hown, hts⟩ kk ⟨callB_of as.length hts (am_ws_good ho.1) rfl rfl rfl (hts _ ho.1.2.1) (hts _ hl) ⟨ho.1.2.2.1, ho.1.2.2.2.1, hn⟩ hrm, hts _ ho.2.1, hts _ ho.2.2⟩ ⟨am_P.blind, by rw [← hqc]; exact va_recv hK (hS.one he) hq (q0 := 0) rfl, fun U hU hW => ⟨rfl, C.2.2.2.2.2.2.1.warm hW, va_K.moved hW.alike hK, by rw [hU]; exact hS⟩⟩ rfl (by rw [List.length_map]) hL.2.1 (by simp [am_cv]) (lv_room (am_restC hw)) hd ⟨by show cells + kc' ≤ mc; omega, by show slots + ks' ≤ ms; omega⟩) hF (fun r h' H1 locs1 hR hS1 hF1 => ?_)
  rw [am_restL]
  exact hR p e s m args below meth c C H1 locs1 ls (cells + kc') (slots + ks') mc ms (by omega) (by omega) hS1 hF1 hL
theorem aw_callS {M' : am_M} {b ci idx kc' ks' : Nat} {q : vw_C} {fs : List Value} {host : String} {as stk : List Value} (hd : decode M.2.1 pc = .ok (.invokestatic idx, 3)) (hl : Cond.methodLink M.1.cls idx M'.1 ∈ am_T) (ho : am_okS M') (hn : (parseMethodDescriptor M'.1.desc).map (fun d => d.parameters.length) = some as.length) (hst : as.reverse ++ st = stk) (hw : (st.map fun v => v.category).sum ≤ 8) (kk : AM V M' d kc' ks' as h (fun r h' => AW V M (d + 1) kc ks (pc + 3) L (r.toList ++ st) h' R)) : AW V M (d + 1) (kc' + kc) (ks' + ks) pc L stk h R := by
  subst hst
  intro p e s m args below meth c C H locs ls cells slots mc ms hc hs hS hF hL
  have hts := C.2.2.2.2.2.1
  have hown := C.2.2.2.2.1
  have hK := C.2.2.2.2.2.2.2.1
  have hrm : (am_rm d kc' ks').frames + 1 ≤ (am_rm (d + 1) mc ms).frames ∧ 8 + (M'.2.2.1 + 11) + (am_rm d kc' ks').locals ≤ (am_rm (d + 1) mc ms).locals := ⟨Nat.le_refl _, by show 8 + (M'.2.2.1 + 11) + 40 * d ≤ 40 * (d + 1); have := ho.1.2.2.2.2.2; omega⟩
  refine am_call (R' := fun r h' => AW V M (d + 1) kc ks (pc + 3) L (r.toList ++ st) h' R) (va_runS (As := as.map (am_cv V)) (rest := st.map (am_cv V)) ⟨C.1, C.2.1, C.2.2.1, hown, hts⟩ kk ⟨callB_of as.length hts (am_ws_good ho.1) rfl rfl rfl (hts _ ho.1.2.1) (hts _ hl) ⟨ho.1.2.2.1, ho.1.2.2.2.1, hn⟩ hrm, hts _ ho.2⟩ ⟨am_P.blind, fun U hU hW => ⟨rfl, C.2.2.2.2.2.2.1.warm hW, va_K.moved hW.alike hK, by rw [hU]; exact hS⟩⟩ rfl (by rw [List.length_map]) hL.2.1 (by simp [am_cv]) (lv_room (am_restC hw)) hd ⟨by show cells + kc' ≤ mc; omega, by show slots + ks' ≤ ms; omega⟩) hF (fun r h' H1 locs1 hR hS1 hF1 => ?_)
  rw [am_restL]
  exact hR p e s m args below meth c C H1 locs1 ls (cells + kc') (slots + ks') mc ms (by omega) (by omega) hS1 hF1 hL
theorem aw_callSN {M' : am_M} {b ci idx kc' ks' : Nat} {q : vw_C} {fs : List Value} {host : String} {as stk : List Value} (hd : decode M.2.1 pc = .ok (.invokestatic idx, 3)) (hl : Cond.methodLinkNest M.1.cls idx M'.1 host ∈ am_nest) (ho : am_okS M') (hn : (parseMethodDescriptor M'.1.desc).map (fun d => d.parameters.length) = some as.length) (hst : as.reverse ++ st = stk) (hw : (st.map fun v => v.category).sum ≤ 8) (kk : AM V M' d kc' ks' as h (fun r h' => AW V M (d + 1) kc ks (pc + 3) L (r.toList ++ st) h' R)) : AW V M (d + 1) (kc' + kc) (ks' + ks) pc L stk h R := by
  subst hst
  intro p e s m args below meth c C H locs ls cells slots mc ms hc hs hS hF hL
  have hts := C.2.2.2.2.2.1
  have hown := C.2.2.2.2.1
  have hK := C.2.2.2.2.2.2.2.1
  have hrm : (am_rm d kc' ks').frames + 1 ≤ (am_rm (d + 1) mc ms).frames ∧ 8 + (M'.2.2.1 + 11) + (am_rm d kc' ks').locals ≤ (am_rm (d + 1) mc ms).locals := ⟨Nat.le_refl _, by show 8 + (M'.2.2.1 + 11) + 40 * d ≤ 40 * (d + 1); have := ho.1.2.2.2.2.2; omega⟩
  refine am_call (R' := fun r h' => AW V M (d + 1) kc ks (pc + 3) L (r.toList ++ st) h' R) (va_runSN (As := as.map (am_cv V)) (rest := st.map (am_cv V)) ⟨C.1, C.2.1, C.2.2.1, hown, hts⟩ kk ⟨va_cnB as.length hts (am_ws_good ho.1) rfl rfl rfl (C.2.2.2.2.2.2.1.1 _ hl) (hts _ ho.1.2.1) ⟨ho.1.2.2.1, ho.1.2.2.2.1, hn⟩ hrm, hts _ ho.2, trivial⟩ ⟨am_P.blind, fun U hU hW => ⟨rfl, C.2.2.2.2.2.2.1.warm hW, va_K.moved hW.alike hK, by rw [hU]; exact hS⟩⟩ rfl (by rw [List.length_map]) hL.2.1 (by simp [am_cv]) (lv_room (am_restC hw)) hd ⟨by show cells + kc' ≤ mc; omega, by show slots + ks' ≤ ms; omega⟩) hF (fun r h' H1 locs1 hR hS1 hF1 => ?_)
  rw [am_restL]
  exact hR p e s m args below meth c C H1 locs1 ls (cells + kc') (slots + ks') mc ms (by omega) (by omega) hS1 hF1 hL
theorem aw_callI {M' : am_M} {b ci idx kc' ks' : Nat} {q : vw_C} {fs : List Value} {host : String} {as stk : List Value} (hd : decode M.2.1 pc = .ok (.invokespecial idx, 3)) (hl : Cond.methodLink M.1.cls idx M'.1 ∈ am_T) (hrt : M'.2.2.2 = none) (ho : am_okI M') (hn : (parseMethodDescriptor M'.1.desc).map (fun d => d.parameters.length) = some as.length) (hst : as.reverse ++ .ref b :: st = stk) (hw : (st.map fun v => v.category).sum ≤ 8) (kk : AM V M' d kc' ks' (.ref b :: as) h (fun r h' => AW V M (d + 1) kc ks (pc + 3) L (r.toList ++ st) h' R)) : AW V M (d + 1) (kc' + kc) (ks' + ks) pc L stk h R := by
  subst hst
  intro p e s m args below meth c C H locs ls cells slots mc ms hc hs hS hF hL
  have hts := C.2.2.2.2.2.1
  have hown := C.2.2.2.2.1
  have hK := C.2.2.2.2.2.2.2.1
  have hrm : (am_rm d kc' ks').frames + 1 ≤ (am_rm (d + 1) mc ms).frames ∧ 8 + (M'.2.2.1 + 11) + (am_rm d kc' ks').locals ≤ (am_rm (d + 1) mc ms).locals := ⟨Nat.le_refl _, by show 8 + (M'.2.2.1 + 11) + 40 * d ≤ 40 * (d + 1); have := ho.1.2.2.2.2.2; omega⟩
  refine am_call (R' := fun r h' => AW V M (d + 1) kc ks (pc + 3) L (r.toList ++ st) h' R) (va_runI (As := as.map (am_cv V)) (rest := st.map (am_cv V)) (b := am_ad V b) ⟨C.1, C.2.1, C.2.2.1, hown, hts⟩ kk ⟨callB_of as.length hts (am_ws_good ho.1) (show am_ws M' = Cond.code M'.1 M'.2.1 M'.2.2.1 none :: am_T by rw [am_ws, hrt]) rfl rfl (hts _ ho.1.2.1) (hts _ hl) ⟨ho.1.2.2.1, ho.1.2.2.2.1, hn⟩ hrm, ho.2.2, hts _ ho.2.1⟩ ⟨am_P.blind, fun U hU hW => ⟨rfl, C.2.2.2.2.2.2.1.warm hW, va_K.moved hW.alike hK, by rw [hU]; exact hS⟩⟩ rfl (by rw [List.length_map]) hL.2.1 (by simp [am_cv]) (lv_room (am_restC hw)) hd ⟨by show cells + kc' ≤ mc; omega, by show slots + ks' ≤ ms; omega⟩) hF (fun r h' H1 locs1 hR hS1 hF1 => ?_)
  rw [am_restL]
  exact hR p e s m args below meth c C H1 locs1 ls (cells + kc') (slots + ks') mc ms (by omega) (by omega) hS1 hF1 hL
theorem aw_callIN {M' : am_M} {b ci idx kc' ks' : Nat} {q : vw_C} {fs : List Value} {host : String} {as stk : List Value} (hd : decode M.2.1 pc = .ok (.invokespecial idx, 3)) (hl : Cond.methodLinkNest M.1.cls idx M'.1 host ∈ am_nest) (hrt : M'.2.2.2 = none) (ho : am_okI M') (hn : (parseMethodDescriptor M'.1.desc).map (fun d => d.parameters.length) = some as.length) (hst : as.reverse ++ .ref b :: st = stk) (hw : (st.map fun v => v.category).sum ≤ 8) (kk : AM V M' d kc' ks' (.ref b :: as) h (fun r h' => AW V M (d + 1) kc ks (pc + 3) L (r.toList ++ st) h' R)) : AW V M (d + 1) (kc' + kc) (ks' + ks) pc L stk h R := by
  subst hst
  intro p e s m args below meth c C H locs ls cells slots mc ms hc hs hS hF hL
  have hts := C.2.2.2.2.2.1
  have hown := C.2.2.2.2.1
  have hK := C.2.2.2.2.2.2.2.1
  have hrm : (am_rm d kc' ks').frames + 1 ≤ (am_rm (d + 1) mc ms).frames ∧ 8 + (M'.2.2.1 + 11) + (am_rm d kc' ks').locals ≤ (am_rm (d + 1) mc ms).locals := ⟨Nat.le_refl _, by show 8 + (M'.2.2.1 + 11) + 40 * d ≤ 40 * (d + 1); have := ho.1.2.2.2.2.2; omega⟩
  refine am_call (R' := fun r h' => AW V M (d + 1) kc ks (pc + 3) L (r.toList ++ st) h' R) (va_runIN (As := as.map (am_cv V)) (rest := st.map (am_cv V)) (b := am_ad V b) ⟨C.1, C.2.1, C.2.2.1, hown, hts⟩ kk ⟨va_cnB as.length hts (am_ws_good ho.1) (show am_ws M' = Cond.code M'.1 M'.2.1 M'.2.2.1 none :: am_T by rw [am_ws, hrt]) rfl rfl (C.2.2.2.2.2.2.1.1 _ hl) (hts _ ho.1.2.1) ⟨ho.1.2.2.1, ho.1.2.2.2.1, hn⟩ hrm, ho.2.2, hts _ ho.2.1⟩ ⟨am_P.blind, fun U hU hW => ⟨rfl, C.2.2.2.2.2.2.1.warm hW, va_K.moved hW.alike hK, by rw [hU]; exact hS⟩⟩ rfl (by rw [List.length_map]) hL.2.1 (by simp [am_cv]) (lv_room (am_restC hw)) hd ⟨by show cells + kc' ≤ mc; omega, by show slots + ks' ≤ ms; omega⟩) hF (fun r h' H1 locs1 hR hS1 hF1 => ?_)
  rw [am_restL]
  exact hR p e s m args below meth c C H1 locs1 ls (cells + kc') (slots + ks') mc ms (by omega) (by omega) hS1 hF1 hL
end AMF
end
