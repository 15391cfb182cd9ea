section
-- ===== PART A: goes FIRST, ahead of the names: the tables' words, and 'selects' of the private methods out of them =====
/-- a private method of a class that the tables say can be made, by its rows of tables_1 -/
def lw_okq (q : MethodName × Nat) : Prop := (q.1.cls ≠ "java/lang/invoke/MethodHandle" ∧ q.1.cls ≠ "java/lang/invoke/VarHandle") ∧ Cond.instantiable q.1.cls q.2 ∈ tables_1 ∧ Cond.privateMethod q.1 ∈ tables_1 ∧ Cond.instanceMethod q.1 ∈ tables_1
theorem lw_p0 : lw_okq (⟨"ServiceApiary", "countOf", "(I)I"⟩, 12) := ⟨⟨by decide +kernel, by decide +kernel⟩, List.mem_of_getElem? (i := 32) (by decide +kernel), List.mem_of_getElem? (i := 142) (by decide +kernel), List.mem_of_getElem? (i := 143) (by decide +kernel)⟩
theorem lw_p1 : lw_okq (⟨"ServiceApiary", "countVersions", "(I)I"⟩, 12) := ⟨⟨by decide +kernel, by decide +kernel⟩, List.mem_of_getElem? (i := 32) (by decide +kernel), List.mem_of_getElem? (i := 146) (by decide +kernel), List.mem_of_getElem? (i := 147) (by decide +kernel)⟩
theorem lw_p2 : lw_okq (⟨"ServiceApiary", "versionAt", "(II)LServiceApiary$Version;"⟩, 12) := ⟨⟨by decide +kernel, by decide +kernel⟩, List.mem_of_getElem? (i := 32) (by decide +kernel), List.mem_of_getElem? (i := 150) (by decide +kernel), List.mem_of_getElem? (i := 151) (by decide +kernel)⟩
theorem lw_p3 : lw_okq (⟨"ServiceApiary", "faceAt", "(I)LServiceApiary$Face;"⟩, 12) := ⟨⟨by decide +kernel, by decide +kernel⟩, List.mem_of_getElem? (i := 32) (by decide +kernel), List.mem_of_getElem? (i := 154) (by decide +kernel), List.mem_of_getElem? (i := 155) (by decide +kernel)⟩
theorem lw_p4 : lw_okq (⟨"ServiceApiary", "digestVersion", "(JLServiceApiary$Version;)J"⟩, 12) := ⟨⟨by decide +kernel, by decide +kernel⟩, List.mem_of_getElem? (i := 32) (by decide +kernel), List.mem_of_getElem? (i := 162) (by decide +kernel), List.mem_of_getElem? (i := 163) (by decide +kernel)⟩
theorem lw_p5 : lw_okq (⟨"ServiceApiary", "versionFact", "(LServiceApiary$Version;I)I"⟩, 12) := ⟨⟨by decide +kernel, by decide +kernel⟩, List.mem_of_getElem? (i := 32) (by decide +kernel), List.mem_of_getElem? (i := 166) (by decide +kernel), List.mem_of_getElem? (i := 167) (by decide +kernel)⟩
theorem lw_p6 : lw_okq (⟨"ServiceApiary", "countCallers", "(LServiceApiary$Version;)I"⟩, 12) := ⟨⟨by decide +kernel, by decide +kernel⟩, List.mem_of_getElem? (i := 32) (by decide +kernel), List.mem_of_getElem? (i := 170) (by decide +kernel), List.mem_of_getElem? (i := 171) (by decide +kernel)⟩
theorem lw_p7 : lw_okq (⟨"ServiceApiary", "countHinderers", "(LServiceApiary$Version;LServiceApiary$Retirement;IZ)I"⟩, 12) := ⟨⟨by decide +kernel, by decide +kernel⟩, List.mem_of_getElem? (i := 32) (by decide +kernel), List.mem_of_getElem? (i := 182) (by decide +kernel), List.mem_of_getElem? (i := 183) (by decide +kernel)⟩
theorem lw_p8 : lw_okq (⟨"ServiceApiary", "isCallerThen", "(LServiceApiary$Client;LServiceApiary$Version;IZ)Z"⟩, 12) := ⟨⟨by decide +kernel, by decide +kernel⟩, List.mem_of_getElem? (i := 32) (by decide +kernel), List.mem_of_getElem? (i := 198) (by decide +kernel), List.mem_of_getElem? (i := 199) (by decide +kernel)⟩
theorem lw_p9 : lw_okq (⟨"ServiceApiary", "findRoute", "(LServiceApiary$Client;LServiceApiary$Version;LServiceApiary$Version;)Z"⟩, 12) := ⟨⟨by decide +kernel, by decide +kernel⟩, List.mem_of_getElem? (i := 32) (by decide +kernel), List.mem_of_getElem? (i := 202) (by decide +kernel), List.mem_of_getElem? (i := 203) (by decide +kernel)⟩
theorem lw_p10 : lw_okq (⟨"ServiceApiary", "countGeneratedFor", "(LServiceApiary$Version;)I"⟩, 12) := ⟨⟨by decide +kernel, by decide +kernel⟩, List.mem_of_getElem? (i := 32) (by decide +kernel), List.mem_of_getElem? (i := 216) (by decide +kernel), List.mem_of_getElem? (i := 217) (by decide +kernel)⟩
theorem lw_p11 : lw_okq (⟨"ServiceApiary", "hoursLeft", "(LServiceApiary$Version;)I"⟩, 12) := ⟨⟨by decide +kernel, by decide +kernel⟩, List.mem_of_getElem? (i := 32) (by decide +kernel), List.mem_of_getElem? (i := 220) (by decide +kernel), List.mem_of_getElem? (i := 221) (by decide +kernel)⟩
theorem lw_p12 : lw_okq (⟨"ServiceApiary", "hoursTillGone", "(LServiceApiary$Version;LServiceApiary$Retirement;Z)I"⟩, 12) := ⟨⟨by decide +kernel, by decide +kernel⟩, List.mem_of_getElem? (i := 32) (by decide +kernel), List.mem_of_getElem? (i := 224) (by decide +kernel), List.mem_of_getElem? (i := 225) (by decide +kernel)⟩
theorem lw_p13 : lw_okq (⟨"ServiceApiary", "askedState", "(ILServiceApiary$Version;)I"⟩, 12) := ⟨⟨by decide +kernel, by decide +kernel⟩, List.mem_of_getElem? (i := 32) (by decide +kernel), List.mem_of_getElem? (i := 228) (by decide +kernel), List.mem_of_getElem? (i := 229) (by decide +kernel)⟩
theorem lw_p14 : lw_okq (⟨"ServiceApiary", "digestClient", "(JLServiceApiary$Client;)J"⟩, 12) := ⟨⟨by decide +kernel, by decide +kernel⟩, List.mem_of_getElem? (i := 32) (by decide +kernel), List.mem_of_getElem? (i := 234) (by decide +kernel), List.mem_of_getElem? (i := 235) (by decide +kernel)⟩
theorem lw_p15 : lw_okq (⟨"ServiceApiary", "clientFact", "(LServiceApiary$Client;I)I"⟩, 12) := ⟨⟨by decide +kernel, by decide +kernel⟩, List.mem_of_getElem? (i := 32) (by decide +kernel), List.mem_of_getElem? (i := 238) (by decide +kernel), List.mem_of_getElem? (i := 239) (by decide +kernel)⟩
def lw_privs_1 : List (MethodName × Nat) := [(⟨"ServiceApiary", "countOf", "(I)I"⟩, 12), (⟨"ServiceApiary", "countVersions", "(I)I"⟩, 12), (⟨"ServiceApiary", "versionAt", "(II)LServiceApiary$Version;"⟩, 12), (⟨"ServiceApiary", "faceAt", "(I)LServiceApiary$Face;"⟩, 12), (⟨"ServiceApiary", "digestVersion", "(JLServiceApiary$Version;)J"⟩, 12), (⟨"ServiceApiary", "versionFact", "(LServiceApiary$Version;I)I"⟩, 12), (⟨"ServiceApiary", "countCallers", "(LServiceApiary$Version;)I"⟩, 12), (⟨"ServiceApiary", "countHinderers", "(LServiceApiary$Version;LServiceApiary$Retirement;IZ)I"⟩, 12), (⟨"ServiceApiary", "isCallerThen", "(LServiceApiary$Client;LServiceApiary$Version;IZ)Z"⟩, 12), (⟨"ServiceApiary", "findRoute", "(LServiceApiary$Client;LServiceApiary$Version;LServiceApiary$Version;)Z"⟩, 12), (⟨"ServiceApiary", "countGeneratedFor", "(LServiceApiary$Version;)I"⟩, 12), (⟨"ServiceApiary", "hoursLeft", "(LServiceApiary$Version;)I"⟩, 12), (⟨"ServiceApiary", "hoursTillGone", "(LServiceApiary$Version;LServiceApiary$Retirement;Z)I"⟩, 12), (⟨"ServiceApiary", "askedState", "(ILServiceApiary$Version;)I"⟩, 12), (⟨"ServiceApiary", "digestClient", "(JLServiceApiary$Client;)J"⟩, 12), (⟨"ServiceApiary", "clientFact", "(LServiceApiary$Client;I)I"⟩, 12)]
theorem lw_r1 : ∀ q ∈ lw_privs_1, lw_okq q := List.forall_mem_cons.mpr ⟨lw_p0, List.forall_mem_cons.mpr ⟨lw_p1, List.forall_mem_cons.mpr ⟨lw_p2, List.forall_mem_cons.mpr ⟨lw_p3, List.forall_mem_cons.mpr ⟨lw_p4, List.forall_mem_cons.mpr ⟨lw_p5, List.forall_mem_cons.mpr ⟨lw_p6, List.forall_mem_cons.mpr ⟨lw_p7, List.forall_mem_cons.mpr ⟨lw_p8, List.forall_mem_cons.mpr ⟨lw_p9, List.forall_mem_cons.mpr ⟨lw_p10, List.forall_mem_cons.mpr ⟨lw_p11, List.forall_mem_cons.mpr ⟨lw_p12, List.forall_mem_cons.mpr ⟨lw_p13, List.forall_mem_cons.mpr ⟨lw_p14, List.forall_mem_cons.mpr ⟨lw_p15, fun _ h => absurd h List.not_mem_nil⟩⟩⟩⟩⟩⟩⟩⟩⟩⟩⟩⟩⟩⟩⟩⟩
theorem lw_p16 : lw_okq (⟨"ServiceApiary", "findOwnRoute", "(LServiceApiary$Client;)Z"⟩, 12) := ⟨⟨by decide +kernel, by decide +kernel⟩, List.mem_of_getElem? (i := 32) (by decide +kernel), List.mem_of_getElem? (i := 242) (by decide +kernel), List.mem_of_getElem? (i := 243) (by decide +kernel)⟩
theorem lw_p17 : lw_okq (⟨"ServiceApiary", "hoursSinceCall", "(LServiceApiary$Client;LServiceApiary$Version;)I"⟩, 12) := ⟨⟨by decide +kernel, by decide +kernel⟩, List.mem_of_getElem? (i := 32) (by decide +kernel), List.mem_of_getElem? (i := 246) (by decide +kernel), List.mem_of_getElem? (i := 247) (by decide +kernel)⟩
theorem lw_p18 : lw_okq (⟨"ServiceApiary", "outcomeIn", "(LServiceApiary$Client;I)I"⟩, 12) := ⟨⟨by decide +kernel, by decide +kernel⟩, List.mem_of_getElem? (i := 32) (by decide +kernel), List.mem_of_getElem? (i := 251) (by decide +kernel), List.mem_of_getElem? (i := 252) (by decide +kernel)⟩
theorem lw_p19 : lw_okq (⟨"ServiceApiary", "outcomeOf", "(LServiceApiary$Client;III)I"⟩, 12) := ⟨⟨by decide +kernel, by decide +kernel⟩, List.mem_of_getElem? (i := 32) (by decide +kernel), List.mem_of_getElem? (i := 259) (by decide +kernel), List.mem_of_getElem? (i := 260) (by decide +kernel)⟩
theorem lw_p20 : lw_okq (⟨"ServiceApiary", "nearestOpen", "(LServiceApiary$Client;)I"⟩, 12) := ⟨⟨by decide +kernel, by decide +kernel⟩, List.mem_of_getElem? (i := 32) (by decide +kernel), List.mem_of_getElem? (i := 274) (by decide +kernel), List.mem_of_getElem? (i := 275) (by decide +kernel)⟩
theorem lw_p21 : lw_okq (⟨"java/lang/Throwable", "fillInStackTrace", "(I)Ljava/lang/Throwable;"⟩, 6) := ⟨⟨by decide +kernel, by decide +kernel⟩, List.mem_of_getElem? (i := 334) (by decide +kernel), List.mem_of_getElem? (i := 332) (by decide +kernel), List.mem_of_getElem? (i := 333) (by decide +kernel)⟩
theorem lw_p22 : lw_okq (⟨"ServiceApiary", "clientAt", "(I)LServiceApiary$Client;"⟩, 12) := ⟨⟨by decide +kernel, by decide +kernel⟩, List.mem_of_getElem? (i := 32) (by decide +kernel), List.mem_of_getElem? (i := 555) (by decide +kernel), List.mem_of_getElem? (i := 556) (by decide +kernel)⟩
theorem lw_p23 : lw_okq (⟨"ServiceApiary", "isServedCall", "(LServiceApiary$Client;)Z"⟩, 12) := ⟨⟨by decide +kernel, by decide +kernel⟩, List.mem_of_getElem? (i := 32) (by decide +kernel), List.mem_of_getElem? (i := 615) (by decide +kernel), List.mem_of_getElem? (i := 616) (by decide +kernel)⟩
theorem lw_p24 : lw_okq (⟨"ServiceApiary", "beginHour", "()I"⟩, 12) := ⟨⟨by decide +kernel, by decide +kernel⟩, List.mem_of_getElem? (i := 32) (by decide +kernel), List.mem_of_getElem? (i := 635) (by decide +kernel), List.mem_of_getElem? (i := 636) (by decide +kernel)⟩
theorem lw_p25 : lw_okq (⟨"ServiceApiary", "isGoneAtEnd", "(LServiceApiary$Version;)Z"⟩, 12) := ⟨⟨by decide +kernel, by decide +kernel⟩, List.mem_of_getElem? (i := 32) (by decide +kernel), List.mem_of_getElem? (i := 640) (by decide +kernel), List.mem_of_getElem? (i := 641) (by decide +kernel)⟩
theorem lw_p26 : lw_okq (⟨"ServiceApiary", "startRetirement", "(LServiceApiary$Version;LServiceApiary$Retirement;I)I"⟩, 12) := ⟨⟨by decide +kernel, by decide +kernel⟩, List.mem_of_getElem? (i := 32) (by decide +kernel), List.mem_of_getElem? (i := 659) (by decide +kernel), List.mem_of_getElem? (i := 660) (by decide +kernel)⟩
theorem lw_p27 : lw_okq (⟨"ServiceApiaryModel", "start", "(ZI)Z"⟩, 2) := ⟨⟨by decide +kernel, by decide +kernel⟩, List.mem_of_getElem? (i := 739) (by decide +kernel), List.mem_of_getElem? (i := 820) (by decide +kernel), List.mem_of_getElem? (i := 821) (by decide +kernel)⟩
theorem lw_p28 : lw_okq (⟨"ServiceApiaryModel", "refuse", "(ZI)Z"⟩, 2) := ⟨⟨by decide +kernel, by decide +kernel⟩, List.mem_of_getElem? (i := 739) (by decide +kernel), List.mem_of_getElem? (i := 824) (by decide +kernel), List.mem_of_getElem? (i := 825) (by decide +kernel)⟩
theorem lw_p29 : lw_okq (⟨"java/util/ArrayList", "add", "(Ljava/lang/Object;[Ljava/lang/Object;I)V"⟩, 3) := ⟨⟨by decide +kernel, by decide +kernel⟩, List.mem_of_getElem? (i := 751) (by decide +kernel), List.mem_of_getElem? (i := 834) (by decide +kernel), List.mem_of_getElem? (i := 835) (by decide +kernel)⟩
theorem lw_p30 : lw_okq (⟨"java/util/ArrayList", "grow", "()[Ljava/lang/Object;"⟩, 3) := ⟨⟨by decide +kernel, by decide +kernel⟩, List.mem_of_getElem? (i := 751) (by decide +kernel), List.mem_of_getElem? (i := 838) (by decide +kernel), List.mem_of_getElem? (i := 839) (by decide +kernel)⟩
theorem lw_p31 : lw_okq (⟨"java/util/ArrayList", "grow", "(I)[Ljava/lang/Object;"⟩, 3) := ⟨⟨by decide +kernel, by decide +kernel⟩, List.mem_of_getElem? (i := 751) (by decide +kernel), List.mem_of_getElem? (i := 842) (by decide +kernel), List.mem_of_getElem? (i := 843) (by decide +kernel)⟩
def lw_privs_2 : List (MethodName × Nat) := [(⟨"ServiceApiary", "findOwnRoute", "(LServiceApiary$Client;)Z"⟩, 12), (⟨"ServiceApiary", "hoursSinceCall", "(LServiceApiary$Client;LServiceApiary$Version;)I"⟩, 12), (⟨"ServiceApiary", "outcomeIn", "(LServiceApiary$Client;I)I"⟩, 12), (⟨"ServiceApiary", "outcomeOf", "(LServiceApiary$Client;III)I"⟩, 12), (⟨"ServiceApiary", "nearestOpen", "(LServiceApiary$Client;)I"⟩, 12), (⟨"java/lang/Throwable", "fillInStackTrace", "(I)Ljava/lang/Throwable;"⟩, 6), (⟨"ServiceApiary", "clientAt", "(I)LServiceApiary$Client;"⟩, 12), (⟨"ServiceApiary", "isServedCall", "(LServiceApiary$Client;)Z"⟩, 12), (⟨"ServiceApiary", "beginHour", "()I"⟩, 12), (⟨"ServiceApiary", "isGoneAtEnd", "(LServiceApiary$Version;)Z"⟩, 12), (⟨"ServiceApiary", "startRetirement", "(LServiceApiary$Version;LServiceApiary$Retirement;I)I"⟩, 12), (⟨"ServiceApiaryModel", "start", "(ZI)Z"⟩, 2), (⟨"ServiceApiaryModel", "refuse", "(ZI)Z"⟩, 2), (⟨"java/util/ArrayList", "add", "(Ljava/lang/Object;[Ljava/lang/Object;I)V"⟩, 3), (⟨"java/util/ArrayList", "grow", "()[Ljava/lang/Object;"⟩, 3), (⟨"java/util/ArrayList", "grow", "(I)[Ljava/lang/Object;"⟩, 3)]
theorem lw_r2 : ∀ q ∈ lw_privs_2, lw_okq q := List.forall_mem_cons.mpr ⟨lw_p16, List.forall_mem_cons.mpr ⟨lw_p17, List.forall_mem_cons.mpr ⟨lw_p18, List.forall_mem_cons.mpr ⟨lw_p19, List.forall_mem_cons.mpr ⟨lw_p20, List.forall_mem_cons.mpr ⟨lw_p21, List.forall_mem_cons.mpr ⟨lw_p22, List.forall_mem_cons.mpr ⟨lw_p23, List.forall_mem_cons.mpr ⟨lw_p24, List.forall_mem_cons.mpr ⟨lw_p25, List.forall_mem_cons.mpr ⟨lw_p26, List.forall_mem_cons.mpr ⟨lw_p27, List.forall_mem_cons.mpr ⟨lw_p28, List.forall_mem_cons.mpr ⟨lw_p29, List.forall_mem_cons.mpr ⟨lw_p30, List.forall_mem_cons.mpr ⟨lw_p31, fun _ h => absurd h List.not_mem_nil⟩⟩⟩⟩⟩⟩⟩⟩⟩⟩⟩⟩⟩⟩⟩⟩
theorem lw_p32 : lw_okq (⟨"ServiceApiaryModel", "isNoFace", "(I)Z"⟩, 2) := ⟨⟨by decide +kernel, by decide +kernel⟩, List.mem_of_getElem? (i := 739) (by decide +kernel), List.mem_of_getElem? (i := 897) (by decide +kernel), List.mem_of_getElem? (i := 898) (by decide +kernel)⟩
theorem lw_p33 : lw_okq (⟨"ServiceApiaryModel", "isNoVersion", "(II)Z"⟩, 2) := ⟨⟨by decide +kernel, by decide +kernel⟩, List.mem_of_getElem? (i := 739) (by decide +kernel), List.mem_of_getElem? (i := 1022) (by decide +kernel), List.mem_of_getElem? (i := 1023) (by decide +kernel)⟩
theorem lw_p34 : lw_okq (⟨"ServiceApiaryModel", "isNo", "(II)Z"⟩, 2) := ⟨⟨by decide +kernel, by decide +kernel⟩, List.mem_of_getElem? (i := 739) (by decide +kernel), List.mem_of_getElem? (i := 1026) (by decide +kernel), List.mem_of_getElem? (i := 1027) (by decide +kernel)⟩
theorem lw_p35 : lw_okq (⟨"ServiceApiaryModel", "ofVersionNow", "(III)I"⟩, 2) := ⟨⟨by decide +kernel, by decide +kernel⟩, List.mem_of_getElem? (i := 739) (by decide +kernel), List.mem_of_getElem? (i := 1030) (by decide +kernel), List.mem_of_getElem? (i := 1031) (by decide +kernel)⟩
theorem lw_p36 : lw_okq (⟨"ServiceApiaryModel", "of", "(II)LServiceApiaryModel$Version;"⟩, 2) := ⟨⟨by decide +kernel, by decide +kernel⟩, List.mem_of_getElem? (i := 739) (by decide +kernel), List.mem_of_getElem? (i := 1034) (by decide +kernel), List.mem_of_getElem? (i := 1035) (by decide +kernel)⟩
theorem lw_p37 : lw_okq (⟨"ServiceApiaryModel", "callers", "(II)I"⟩, 2) := ⟨⟨by decide +kernel, by decide +kernel⟩, List.mem_of_getElem? (i := 739) (by decide +kernel), List.mem_of_getElem? (i := 1044) (by decide +kernel), List.mem_of_getElem? (i := 1045) (by decide +kernel)⟩
theorem lw_p38 : lw_okq (⟨"ServiceApiaryModel$Registry", "route", "(IIII)[I"⟩, 5) := ⟨⟨by decide +kernel, by decide +kernel⟩, List.mem_of_getElem? (i := 745) (by decide +kernel), List.mem_of_getElem? (i := 1077) (by decide +kernel), List.mem_of_getElem? (i := 1078) (by decide +kernel)⟩
theorem lw_p39 : lw_okq (⟨"ServiceApiaryModel", "calls", "(IIZ)I"⟩, 2) := ⟨⟨by decide +kernel, by decide +kernel⟩, List.mem_of_getElem? (i := 739) (by decide +kernel), List.mem_of_getElem? (i := 1091) (by decide +kernel), List.mem_of_getElem? (i := 1092) (by decide +kernel)⟩
theorem lw_p40 : lw_okq (⟨"ServiceApiaryModel", "clientsOf", "(II)I"⟩, 2) := ⟨⟨by decide +kernel, by decide +kernel⟩, List.mem_of_getElem? (i := 739) (by decide +kernel), List.mem_of_getElem? (i := 1101) (by decide +kernel), List.mem_of_getElem? (i := 1102) (by decide +kernel)⟩
theorem lw_p41 : lw_okq (⟨"ServiceApiaryModel", "isNoPair", "(II)Z"⟩, 2) := ⟨⟨by decide +kernel, by decide +kernel⟩, List.mem_of_getElem? (i := 739) (by decide +kernel), List.mem_of_getElem? (i := 1144) (by decide +kernel), List.mem_of_getElem? (i := 1145) (by decide +kernel)⟩
theorem lw_p42 : lw_okq (⟨"ServiceApiaryModel", "isNoOne", "(I)Z"⟩, 2) := ⟨⟨by decide +kernel, by decide +kernel⟩, List.mem_of_getElem? (i := 739) (by decide +kernel), List.mem_of_getElem? (i := 1148) (by decide +kernel), List.mem_of_getElem? (i := 1149) (by decide +kernel)⟩
theorem lw_p43 : lw_okq (⟨"ServiceApiaryModel", "usesFor", "(LServiceApiaryModel$Client;I)I"⟩, 2) := ⟨⟨by decide +kernel, by decide +kernel⟩, List.mem_of_getElem? (i := 739) (by decide +kernel), List.mem_of_getElem? (i := 1152) (by decide +kernel), List.mem_of_getElem? (i := 1153) (by decide +kernel)⟩
theorem lw_p44 : lw_okq (⟨"ServiceApiaryModel", "isNoClient", "(I)Z"⟩, 2) := ⟨⟨by decide +kernel, by decide +kernel⟩, List.mem_of_getElem? (i := 739) (by decide +kernel), List.mem_of_getElem? (i := 1190) (by decide +kernel), List.mem_of_getElem? (i := 1191) (by decide +kernel)⟩
theorem lw_p45 : lw_okq (⟨"ServiceApiaryModel", "ofClientNow", "(II)I"⟩, 2) := ⟨⟨by decide +kernel, by decide +kernel⟩, List.mem_of_getElem? (i := 739) (by decide +kernel), List.mem_of_getElem? (i := 1194) (by decide +kernel), List.mem_of_getElem? (i := 1195) (by decide +kernel)⟩
theorem lw_p46 : lw_okq (⟨"ServiceApiaryModel", "callsOf", "(IZ)I"⟩, 2) := ⟨⟨by decide +kernel, by decide +kernel⟩, List.mem_of_getElem? (i := 739) (by decide +kernel), List.mem_of_getElem? (i := 1198) (by decide +kernel), List.mem_of_getElem? (i := 1199) (by decide +kernel)⟩
theorem lw_p47 : lw_okq (⟨"ServiceApiaryModel$Registry", "servedNow", "(II)I"⟩, 5) := ⟨⟨by decide +kernel, by decide +kernel⟩, List.mem_of_getElem? (i := 745) (by decide +kernel), List.mem_of_getElem? (i := 1233) (by decide +kernel), List.mem_of_getElem? (i := 1234) (by decide +kernel)⟩
def lw_privs_3 : List (MethodName × Nat) := [(⟨"ServiceApiaryModel", "isNoFace", "(I)Z"⟩, 2), (⟨"ServiceApiaryModel", "isNoVersion", "(II)Z"⟩, 2), (⟨"ServiceApiaryModel", "isNo", "(II)Z"⟩, 2), (⟨"ServiceApiaryModel", "ofVersionNow", "(III)I"⟩, 2), (⟨"ServiceApiaryModel", "of", "(II)LServiceApiaryModel$Version;"⟩, 2), (⟨"ServiceApiaryModel", "callers", "(II)I"⟩, 2), (⟨"ServiceApiaryModel$Registry", "route", "(IIII)[I"⟩, 5), (⟨"ServiceApiaryModel", "calls", "(IIZ)I"⟩, 2), (⟨"ServiceApiaryModel", "clientsOf", "(II)I"⟩, 2), (⟨"ServiceApiaryModel", "isNoPair", "(II)Z"⟩, 2), (⟨"ServiceApiaryModel", "isNoOne", "(I)Z"⟩, 2), (⟨"ServiceApiaryModel", "usesFor", "(LServiceApiaryModel$Client;I)I"⟩, 2), (⟨"ServiceApiaryModel", "isNoClient", "(I)Z"⟩, 2), (⟨"ServiceApiaryModel", "ofClientNow", "(II)I"⟩, 2), (⟨"ServiceApiaryModel", "callsOf", "(IZ)I"⟩, 2), (⟨"ServiceApiaryModel$Registry", "servedNow", "(II)I"⟩, 5)]
theorem lw_r3 : ∀ q ∈ lw_privs_3, lw_okq q := List.forall_mem_cons.mpr ⟨lw_p32, List.forall_mem_cons.mpr ⟨lw_p33, List.forall_mem_cons.mpr ⟨lw_p34, List.forall_mem_cons.mpr ⟨lw_p35, List.forall_mem_cons.mpr ⟨lw_p36, List.forall_mem_cons.mpr ⟨lw_p37, List.forall_mem_cons.mpr ⟨lw_p38, List.forall_mem_cons.mpr ⟨lw_p39, List.forall_mem_cons.mpr ⟨lw_p40, List.forall_mem_cons.mpr ⟨lw_p41, List.forall_mem_cons.mpr ⟨lw_p42, List.forall_mem_cons.mpr ⟨lw_p43, List.forall_mem_cons.mpr ⟨lw_p44, List.forall_mem_cons.mpr ⟨lw_p45, List.forall_mem_cons.mpr ⟨lw_p46, List.forall_mem_cons.mpr ⟨lw_p47, fun _ h => absurd h List.not_mem_nil⟩⟩⟩⟩⟩⟩⟩⟩⟩⟩⟩⟩⟩⟩⟩⟩
theorem lw_p48 : lw_okq (⟨"ServiceApiaryModel$Registry", "look", "(II)I"⟩, 5) := ⟨⟨by decide +kernel, by decide +kernel⟩, List.mem_of_getElem? (i := 745) (by decide +kernel), List.mem_of_getElem? (i := 1275) (by decide +kernel), List.mem_of_getElem? (i := 1276) (by decide +kernel)⟩
theorem lw_p49 : lw_okq (⟨"ServiceApiaryModel", "isNoAsk", "(III)Z"⟩, 2) := ⟨⟨by decide +kernel, by decide +kernel⟩, List.mem_of_getElem? (i := 739) (by decide +kernel), List.mem_of_getElem? (i := 1297) (by decide +kernel), List.mem_of_getElem? (i := 1298) (by decide +kernel)⟩
theorem lw_p50 : lw_okq (⟨"ServiceApiaryModel", "askedNow", "(III)I"⟩, 2) := ⟨⟨by decide +kernel, by decide +kernel⟩, List.mem_of_getElem? (i := 739) (by decide +kernel), List.mem_of_getElem? (i := 1314) (by decide +kernel), List.mem_of_getElem? (i := 1315) (by decide +kernel)⟩
theorem lw_p51 : lw_okq (⟨"ServiceApiaryModel", "count", "(I)I"⟩, 2) := ⟨⟨by decide +kernel, by decide +kernel⟩, List.mem_of_getElem? (i := 739) (by decide +kernel), List.mem_of_getElem? (i := 1322) (by decide +kernel), List.mem_of_getElem? (i := 1323) (by decide +kernel)⟩
theorem lw_p52 : lw_okq (⟨"ServiceApiaryModel", "versionsIn", "(I)I"⟩, 2) := ⟨⟨by decide +kernel, by decide +kernel⟩, List.mem_of_getElem? (i := 739) (by decide +kernel), List.mem_of_getElem? (i := 1326) (by decide +kernel), List.mem_of_getElem? (i := 1327) (by decide +kernel)⟩
theorem lw_p53 : lw_okq (⟨"ServiceApiaryModel", "callsThat", "(II)I"⟩, 2) := ⟨⟨by decide +kernel, by decide +kernel⟩, List.mem_of_getElem? (i := 739) (by decide +kernel), List.mem_of_getElem? (i := 1330) (by decide +kernel), List.mem_of_getElem? (i := 1331) (by decide +kernel)⟩
theorem lw_p54 : lw_okq (⟨"ServiceApiaryModel", "wouldComeNow", "(II)I"⟩, 2) := ⟨⟨by decide +kernel, by decide +kernel⟩, List.mem_of_getElem? (i := 739) (by decide +kernel), List.mem_of_getElem? (i := 1346) (by decide +kernel), List.mem_of_getElem? (i := 1347) (by decide +kernel)⟩
theorem lw_p55 : lw_okq (⟨"ServiceApiaryModel", "goneInNow", "(II)I"⟩, 2) := ⟨⟨by decide +kernel, by decide +kernel⟩, List.mem_of_getElem? (i := 739) (by decide +kernel), List.mem_of_getElem? (i := 1383) (by decide +kernel), List.mem_of_getElem? (i := 1384) (by decide +kernel)⟩
theorem lw_p56 : lw_okq (⟨"ServiceApiaryModel$Registry", "touch", "(ILServiceApiaryModel$Version;)V"⟩, 5) := ⟨⟨by decide +kernel, by decide +kernel⟩, List.mem_of_getElem? (i := 745) (by decide +kernel), List.mem_of_getElem? (i := 1391) (by decide +kernel), List.mem_of_getElem? (i := 1392) (by decide +kernel)⟩
theorem lw_p57 : lw_okq (⟨"ServiceApiaryModel", "targetNow", "(I)I"⟩, 2) := ⟨⟨by decide +kernel, by decide +kernel⟩, List.mem_of_getElem? (i := 739) (by decide +kernel), List.mem_of_getElem? (i := 1403) (by decide +kernel), List.mem_of_getElem? (i := 1404) (by decide +kernel)⟩
def lw_privs_4 : List (MethodName × Nat) := [(⟨"ServiceApiaryModel$Registry", "look", "(II)I"⟩, 5), (⟨"ServiceApiaryModel", "isNoAsk", "(III)Z"⟩, 2), (⟨"ServiceApiaryModel", "askedNow", "(III)I"⟩, 2), (⟨"ServiceApiaryModel", "count", "(I)I"⟩, 2), (⟨"ServiceApiaryModel", "versionsIn", "(I)I"⟩, 2), (⟨"ServiceApiaryModel", "callsThat", "(II)I"⟩, 2), (⟨"ServiceApiaryModel", "wouldComeNow", "(II)I"⟩, 2), (⟨"ServiceApiaryModel", "goneInNow", "(II)I"⟩, 2), (⟨"ServiceApiaryModel$Registry", "touch", "(ILServiceApiaryModel$Version;)V"⟩, 5), (⟨"ServiceApiaryModel", "targetNow", "(I)I"⟩, 2)]
theorem lw_r4 : ∀ q ∈ lw_privs_4, lw_okq q := List.forall_mem_cons.mpr ⟨lw_p48, List.forall_mem_cons.mpr ⟨lw_p49, List.forall_mem_cons.mpr ⟨lw_p50, List.forall_mem_cons.mpr ⟨lw_p51, List.forall_mem_cons.mpr ⟨lw_p52, List.forall_mem_cons.mpr ⟨lw_p53, List.forall_mem_cons.mpr ⟨lw_p54, List.forall_mem_cons.mpr ⟨lw_p55, List.forall_mem_cons.mpr ⟨lw_p56, List.forall_mem_cons.mpr ⟨lw_p57, fun _ h => absurd h List.not_mem_nil⟩⟩⟩⟩⟩⟩⟩⟩⟩⟩
def lw_privs : List (MethodName × Nat) := lw_privs_1 ++ (lw_privs_2 ++ (lw_privs_3 ++ (lw_privs_4)))
def lw_tbl : List Cond := k2_sels lw_privs ++ tables_1
theorem lw_privs_ok : ∀ q ∈ lw_privs, lw_okq q := by
  show ∀ q ∈ lw_privs_1 ++ (lw_privs_2 ++ (lw_privs_3 ++ (lw_privs_4))), lw_okq q
  exact List.forall_mem_append.mpr ⟨lw_r1, List.forall_mem_append.mpr ⟨lw_r2, List.forall_mem_append.mpr ⟨lw_r3, lw_r4⟩⟩⟩
/-- the streams that the claim lets the run draw from -/
abbrev lw_cs : List Choice := [Jvm.Choice.named "NaN.bits"]
theorem lw_bits : nanBits ∈ lw_cs := by first | decide | exact List.mem_cons_self | simp [lw_cs, nanBits]
end
section
/-! ===== BEGIN words of one list among another's, by their places ===== -/
theorem goodIn_r {big : List Cond} (ws : List Cond) (ps : List Nat) (hp : ws = ps.filterMap (fun i => big[i]?)) (h : ws.all goodWord = true) : GoodIn big ws := by
  intro w hw
  have h1 := List.all_eq_true.mp h w hw
  rw [hp] at hw
  obtain ⟨i, -, hi⟩ := List.mem_filterMap.mp hw
  have hm : w ∈ big := by first | exact List.mem_of_getElem? hi | exact List.getElem?_mem hi
  exact ⟨hm, good_of_word h1⟩
theorem goodIn_app {big a b : List Cond} (ha : GoodIn big a) (hb : GoodIn big b) : GoodIn big (a ++ b) := fun w h => (List.mem_append.mp h).elim (ha w) (hb w)
theorem goodIn_ca {big a b : List Cond} {c : Cond} (ha : GoodIn big (c :: a)) (hb : GoodIn big b) : GoodIn big (c :: (a ++ b)) := fun w h => (List.mem_cons.mp h).elim (fun e => ha w (List.mem_cons.mpr (Or.inl e))) (fun h => (List.mem_append.mp h).elim (fun h => ha w (List.mem_cons.mpr (Or.inr h))) (hb w))
theorem goodIn_sub {big ws : List Cond} (hm : ∀ w ∈ ws, w ∈ big) (h : ws.all goodWord = true) : GoodIn big ws := fun w hw => ⟨hm w hw, good_of_word (List.all_eq_true.mp h w hw)⟩
/-! ===== END ===== -/
/-! ===== BEGIN exceptions that leave a method, and their catching by the caller (launches without stack traces) ===== -/
section VXA
/-! The laws vx_back, vx_callV, vx_callS, vx_callSW, vx_throw0, vx_throwS follow proofs of the library, with one case more: JvmDerived/Free/Laws.lean (Back.of_free), Shelf42/LK1.lean (callV, callS), Shelf/KitTraced.lean (throwNew0V, throwNewS). -/
/-- where a method has thrown q: the class by its name, the cell, what was written, the world -/
def vx_T (XC : String → State → State → Prop) (st : State) (q : Addr) (t : State) (mc ms : Nat) (free : Addr → Prop) : Prop :=
  ∃ (E : String) (ce : Cell) (L : List Loc), XC E st t ∧ t.heap[q]? = some ce ∧ ce.vm = .none ∧ st.vm.findClass E = some ce.cls ∧ st.WarmedH t.vm ∧ st.sameButNew ({ t with vm := st.vm } : State) L mc ms ∧ ∀ z ∈ L, free z.base
def vx_Q (Qc : Array Value → State → Outcome → State → Prop) (XC : String → State → State → Prop) (mc ms : Nat) (free : Addr → Prop) : Array Value → State → Outcome → State → Prop := fun a st o t =>
  (Qc a st o t ∧ ∃ L, FrameEnd st o t L mc ms ∧ ∀ q ∈ L, free q.base) ∨ ∃ q, o = .threw q ∧ vx_T XC st q t mc ms free
/-- a callee that returns or throws -/
def vx_Met (l : Launch) (y : MethodName) (ws : List Cond) (rm : Room) (Pc : Array Value → State → Prop) (Qc : Array Value → State → Outcome → State → Prop) (XC : String → State → State → Prop) (mc ms : Nat) (free : Addr → Prop) : Prop :=
  MetFree l y (headSpec ws rm) Pc (fun _ _ _ _ _ => True) (vx_Q Qc XC mc ms free)
def vx_Post (XC : String → State → State → Prop) (mc ms : Nat) (free : Addr → Prop) : Pt → Array Value → Addr → Pt → Prop := fun A a q B =>
  ∃ (g : JFrame) (mk : MethodId) (t : State) (L : List Loc) (E : String) (ce : Cell), B.U.heap = t.heap ∧ B.U.vm = t.vm ∧ XC E (A.U.calling g mk a) t ∧ t.heap[q]? = some ce ∧ ce.vm = .none ∧ A.U.vm.findClass E = some ce.cls ∧ B.locs = A.locs ++ L ∧ (∀ z ∈ L, free z.base) ∧ B.cells = A.cells + mc ∧ B.slots = A.slots + ms
def vx_Back (l : Launch) (R : Room) (p : Program) (e : Env) (below : List Frame) (s : State) (sargs : Array Value) (y : MethodName) (len W9 : Nat)
    (Pre : Pt → Array Value → Prop) (Post : Pt → Array Value → Option Value → Pt → Prop) (PostX : Pt → Array Value → Addr → Pt → Prop) : Prop :=
  ∀ (m : MethodId) (meth : Method) (c : Code) (A : Pt) (g : JFrame) (ig : Instr) (mk : MethodId) (a : Array Value),
    Stand p l e R s m sargs below meth c A.U A.locs A.cells A.slots → g.method = m → g.locals.size = c.maxLocals → decode c.code g.pc = .ok (ig, len) →
    2 * g.monitorRoom + (g.stack.map fun v => v.category).sum ≤ W9 → A.U.methodNamed? y = some mk → Pre A a →
    (∃ (v : Option Value) (B : Pt), Stand p l e R s m sargs below meth c B.U B.locs B.cells B.slots ∧ Post A a v B ∧
      Steps p.tables e below (doInvoke e (A.U.setTop g) [] mk a).1 (B.U.setTop { g with pc := g.pc + len, stack := v.toList ++ g.stack })) ∨
    (∃ (q : Addr) (B : Pt), Stand p l e R s m sargs below meth c B.U B.locs B.cells B.slots ∧ PostX A a q B ∧
      Steps p.tables e below (doInvoke e (A.U.setTop g) [] mk a).1 ((B.U.setTop g).pushFrame (.throwing q)))
section Payer
variable {l : Launch} {R : Room} {p : Program} {e : Env} {below : List Frame} {s : State} {sargs : Array Value} {y : MethodName} {len W9 : Nat}
theorem vx_back {ws : List Cond} {rm : Room} {Pc : Array Value → State → Prop} {Qc : Array Value → State → Outcome → State → Prop} {XC : String → State → State → Prop} {mc ms : Nat} {free : Addr → Prop} {bytes : ByteArray} {maxL : Nat} {ret : Option FieldType}
    (hM : vx_Met l y ws rm Pc Qc XC mc ms free) (hblind : FrameBlind Pc) (hrc : rm.cells = mc) (hrs : rm.slots = ms)
    (hframes : rm.frames + 1 ≤ R.frames) (hlocals : W9 + (maxL + 11) + rm.locals ≤ R.locals)
    (hws : ∀ w ∈ ws, ∀ a' U, s.WarmedH U.vm → w.before a' U = true) (hcode : Cond.code y bytes maxL ret ∈ ws) (hinit : ∀ a' U, s.WarmedH U.vm → (Cond.initialized y.cls).before a' U = true) :
    vx_Back l R p e below s sargs y len W9 (PreOf R mc ms Pc) (PostOf Qc mc ms free) (vx_Post XC mc ms free) := by
  intro m meth c A g ig mk a X hg hsize hdg hW hn hp
  have h1 : (headSpec ws rm).pre.before a A.U = true := atoms_intro fun w hw => hws w hw _ _ X.warmed
  have h2 : (Cond.code y bytes maxL ret).before a A.U = true := hws _ hcode _ _ X.warmed
  have h3 : (Cond.initialized y.cls).before a A.U = true := hinit _ _ X.warmed
  have h4 : A.cells + (headSpec ws rm).room.cells ≤ R.cells := by rw [show (headSpec ws rm).room.cells = mc from hrc]; exact hp.1
  have h5 : A.slots + (headSpec ws rm).room.slots ≤ R.slots := by rw [show (headSpec ws rm).room.slots = ms from hrs]; exact hp.2.1
  have hPc : Pc a (A.U.calling g mk a) := hblind _ _ _ _ hp.2.2
  obtain ⟨U, Ls, c0, s0⟩ := A
  dsimp only [Pt.U, Pt.locs, Pt.cells, Pt.slots] at h1 h2 h3 h4 h5 X hn hPc ⊢
  obtain ⟨methY, cY, hmY, hcY, -, hlY, -, -, -, -⟩ := Cond.code_spec hn h2
  obtain ⟨kY, hkY, -⟩ := className_of_methodNamed hn
  have hinitY : kY.init = .initialized := Cond.initialized_spec (findClass_of_methodNamed hn) hkY h3
  have h : At U g.method c below := by rw [hg]; exact X.here
  have hlocals9 : W9 + (maxL + 11) + (headSpec ws rm).room.locals ≤ R.locals := hlocals
  have happ : (headSpec ws rm).appliesLoose y e.platform (U.calling g mk a) = true :=
    Spec.appliesLoose_calling (g := g) h hdg hn hkY hinitY
      (X.room_calling (g := g) (R' := (headSpec ws rm).room) hsize hmY hcY hframes (by rw [hlY]; omega) h4 h5) h1
  obtain ⟨mid, hmid⟩ := h.above
  have hfr : (U.setTop g).frames = (.java g :: mid) ++ below := by rw [State.frames_setTop' g h.top, hmid]; rfl
  obtain ⟨o, s₂, hsteps, -, hend, hq⟩ := Steps.callFree hM p X.admits X.cas X.clock (acts := []) hfr happ hPc trivial
  have hq' : vx_Q Qc XC mc ms free a (U.calling g mk a) o s₂ := hq
  rw [State.frames_setTop' g h.top] at hend
  obtain ⟨g₀, hg0⟩ := Option.isSome_iff_exists.mp h.top
  obtain ⟨r, hr⟩ := State.topJava?_eq_some.mp hg0
  have hr' : (({ U with heap := s₂.heap, slotsUsed := s₂.slotsUsed } : State).setVm s₂.vm).frames = .java g₀ :: r := hr
  rcases hq' with ⟨hqc, L, hfe, hL⟩ | ⟨q, rfl, E, ce, L, hx, hce, hcv, hcl, hW₂, hsm, hL⟩
  · obtain ⟨⟨v, rfl⟩, hW₂, e2, q2, q3, q4, q5, q6⟩ := id hfe
    have e3 : s₂ = ({ (U.calling g mk a).setFrames s₂.frames with heap := s₂.heap, slotsUsed := s₂.slotsUsed } : State).setVm s₂.vm := by
      have : s₂ = ({ s₂ with vm := (U.calling g mk a).vm } : State).setVm s₂.vm := rfl
      rw [e2] at this
      exact this
    obtain ⟨c₂, i₂, len₂, hc₂, hd₂, hf₂⟩ := hend
    have hW' : U.WarmedH s₂.vm := hW₂
    have hcc : c₂ = c := by
      have h1 : s₂.code? g.method = U.code? g.method := by
        rw [State.code?_eq, State.code?_eq, hW'.alike.method?]
      exact Option.some.inj (hc₂.symm.trans (h1.trans h.code))
    subst hcc
    have hlen : len₂ = len := by rw [hdg] at hd₂; cases hd₂; rfl
    subst hlen
    have hs₂ : s₂ = (({ U with heap := s₂.heap, slotsUsed := s₂.slotsUsed } : State).setVm s₂.vm).setTop { g with pc := g.pc + len₂, stack := v.toList ++ g.stack } := by
      refine e3.trans ?_
      rw [hf₂, State.calling_eq h.top, State.setFrames_setFrames, State.setTop_of_frames _ hr', hr]
      rfl
    have hsame : U.sameButNew ({ U with heap := s₂.heap, slotsUsed := s₂.slotsUsed } : State) L mc ms := by
      refine ⟨?_, q2, q3, q4, q5, q6⟩
      obtain ⟨t, ht, -⟩ := State.frames_cons hr
      show ({ U with heap := s₂.heap, slotsUsed := s₂.slotsUsed } : State) = { U.setFrames U.frames with heap := s₂.heap, slotsUsed := s₂.slotsUsed }
      rw [State.setFrames_self ht]
    subst hg
    refine Or.inl ⟨v, ⟨(({ U with heap := s₂.heap, slotsUsed := s₂.slotsUsed } : State).setVm s₂.vm), Ls ++ L, c0 + mc, s0 + ms⟩,
      ⟨X.admits, X.cas, X.clock, X.frames, X.room, X.hears, X.method, X.code, (X.here.setHeapUsed s₂.heap s₂.slotsUsed).setVm hW'.alike, X.tail, State.WarmedH.trans X.warmed hW', X.limits, X.bytes, X.same.trans (hsame.setVm s.vm)⟩,
      ⟨g, mk, s₂, L, rfl, rfl, hqc, rfl, hL, rfl, rfl⟩, ?_⟩
    show Steps p.tables e below _ ((({ U with heap := s₂.heap, slotsUsed := s₂.slotsUsed } : State).setVm s₂.vm).setTop { g with pc := g.pc + len₂, stack := v.toList ++ g.stack })
    rw [← hs₂]
    exact hsteps
  · obtain ⟨e2, q2, q3, q4, q5, q6⟩ := id hsm
    have e3 : s₂ = ({ (U.calling g mk a).setFrames s₂.frames with heap := s₂.heap, slotsUsed := s₂.slotsUsed } : State).setVm s₂.vm := by
      have : s₂ = ({ s₂ with vm := (U.calling g mk a).vm } : State).setVm s₂.vm := rfl
      rw [e2] at this
      exact this
    have hf₂ : s₂.frames = .throwing q :: .java g :: U.frames.tail := hend
    have hW' : U.WarmedH s₂.vm := hW₂
    have hs₂ : s₂ = ((({ U with heap := s₂.heap, slotsUsed := s₂.slotsUsed } : State).setVm s₂.vm).setTop g).pushFrame (.throwing q) := by
      refine e3.trans ?_
      rw [hf₂, State.calling_eq h.top, State.setFrames_setFrames, State.pushFrame, State.frames_setTop _ hr', State.setTop_of_frames _ hr', State.setFrames_setFrames, hr]
      rfl
    have hsame : U.sameButNew ({ U with heap := s₂.heap, slotsUsed := s₂.slotsUsed } : State) L mc ms := by
      refine ⟨?_, q2, q3, q4, q5, q6⟩
      obtain ⟨t, ht, -⟩ := State.frames_cons hr
      show ({ U with heap := s₂.heap, slotsUsed := s₂.slotsUsed } : State) = { U.setFrames U.frames with heap := s₂.heap, slotsUsed := s₂.slotsUsed }
      rw [State.setFrames_self ht]
    subst hg
    refine Or.inr ⟨q, ⟨(({ U with heap := s₂.heap, slotsUsed := s₂.slotsUsed } : State).setVm s₂.vm), Ls ++ L, c0 + mc, s0 + ms⟩,
      ⟨X.admits, X.cas, X.clock, X.frames, X.room, X.hears, X.method, X.code, (X.here.setHeapUsed s₂.heap s₂.slotsUsed).setVm hW'.alike, X.tail, State.WarmedH.trans X.warmed hW', X.limits, X.bytes, X.same.trans (hsame.setVm s.vm)⟩,
      ⟨g, mk, s₂, L, E, ce, rfl, rfl, hx, hce, hcv, hcl, rfl, hL, rfl, rfl⟩, ?_⟩
    show Steps p.tables e below _ (((({ U with heap := s₂.heap, slotsUsed := s₂.slotsUsed } : State).setVm s₂.vm).setTop g).pushFrame (.throwing q))
    rw [← hs₂]
    exact hsteps
end Payer
section Calls
variable {p : Program} {l : Launch} {e : Env} {R : Room} {s : State} {m : MethodId} {args : Array Value} {below : List Frame} {meth : Method} {c : Code} {T : State} {locs : List Loc} {cells slots : Nat}
theorem vx_callV (X : Stand p l e R s m args below meth c T locs cells slots) (hexec : p.tables.exec = Jvm.exec) {own C : String} {index : Nat} {y : MethodName} {bytes : ByteArray} {maxL : Nat} {ret : Option FieldType}
    (hown : s.vm.findClass own = some m.cls) (hlink : (Cond.methodLink own index y).before args s = true) (hinst : (Cond.instanceMethod y).before args s = true) (hsel : (Cond.selects C y y).before args s = true)
    (hcode : (Cond.code y bytes maxL ret).before args s = true) (hy : y.cls ≠ "java/lang/invoke/MethodHandle" ∧ y.cls ≠ "java/lang/invoke/VarHandle")
    {W9 : Nat} {Pre : Pt → Array Value → Prop} {Post : Pt → Array Value → Option Value → Pt → Prop} {PostX : Pt → Array Value → Addr → Pt → Prop} (hK : vx_Back l R p e below s args y 3 W9 Pre Post PostX)
    {b : Addr} {cellB : Cell} (hcell : T.heap[b]? = some cellB) (hobj : cellB.vm.isStatics = false) (hcls : s.vm.findClass C = some cellB.cls)
    {g : JFrame} (hg : g.method = m) (hsize : g.locals.size = c.maxLocals) {argsL rest : List Value} (hlen : ∀ sig, parseMethodDescriptor y.desc = some sig → argsL.length = sig.parameters.length)
    (hstack : g.stack = argsL.reverse ++ .ref b :: rest) (hW : 2 * g.monitorRoom + (rest.map fun v => v.category).sum ≤ W9) (hdg : decode c.code g.pc = .ok (.invokevirtual index, 3))
    (hpre : ∀ vm₁, s.WarmedH vm₁ → Pre ⟨T.setVm vm₁, locs, cells, slots⟩ (Value.ref b :: argsL).toArray) :
    (∃ (v : Option Value) (vm₁ : Vm) (B : Pt), s.WarmedH vm₁ ∧ Stand p l e R s m args below meth c B.U B.locs B.cells B.slots ∧ Post ⟨T.setVm vm₁, locs, cells, slots⟩ (Value.ref b :: argsL).toArray v B ∧
      ∀ target, Steps p.tables e below (B.U.setTop { g with pc := g.pc + 3, stack := v.toList ++ rest }) target → Steps p.tables e below (T.setTop g) target) ∨
    (∃ (q : Addr) (vm₁ : Vm) (B : Pt), s.WarmedH vm₁ ∧ Stand p l e R s m args below meth c B.U B.locs B.cells B.slots ∧ PostX ⟨T.setVm vm₁, locs, cells, slots⟩ (Value.ref b :: argsL).toArray q B ∧
      Steps p.tables e below (T.setTop g) ((B.U.setTop { g with stack := rest }).pushFrame (.throwing q))) := by
  obtain ⟨mk, methM, hnamed, hmethM, hstM, habM⟩ := Cond.instanceMethod_spec hinst
  obtain ⟨methM', cM, hmethM', -, -, -, -, -, -, hsigM⟩ := Cond.code_spec hnamed hcode
  cases hmethM.symm.trans hmethM'
  obtain ⟨c2, r2, m2, q1, q2, q3, q4, kP, hkP, hkPi⟩ := Cond.selects_spec hsel
  cases hcls.symm.trans q1
  cases (State.methodFound?_of_named hnamed hy).symm.trans q2
  cases hnamed.symm.trans q3
  have hselP : selectMethod e.platform s.vm cellB.cls mk = .method mk := by rw [Launch.admits_selectMethod X.admits]; exact q4
  obtain ⟨vm₁, X₁, hstep₁⟩ := X.invokevirtual hexec hown hlink hnamed hmethM hstM hkP hkPi hy (a := b) (cell := cellB) hcell
    (fun z h => by rw [h] at hobj; cases hobj) hselP hmethM habM hkP hkPi (g := g) hg (argsL := argsL) (rest := rest) (hlen _ hsigM) hstack hdg
  rcases hK m meth c ⟨T.setVm vm₁, locs, cells, slots⟩ { g with stack := rest } (.invokevirtual index) mk (Value.ref b :: argsL).toArray X₁ hg hsize hdg hW (X₁.named hnamed) (hpre vm₁ X₁.warmed) with ⟨v, B, X', hpost, hsteps⟩ | ⟨q, B, X', hpost, hsteps⟩
  · exact Or.inl ⟨v, vm₁, B, X₁.warmed, X', hpost, fun target h => hstep₁ _ fun acts => by rw [doInvoke_state]; exact hsteps.trans h⟩
  · exact Or.inr ⟨q, vm₁, B, X₁.warmed, X', hpost, hstep₁ _ fun acts => by rw [doInvoke_state]; exact hsteps⟩
theorem vx_callS (X : Stand p l e R s m args below meth c T locs cells slots) (hexec : p.tables.exec = Jvm.exec) {own : String} {index : Nat} {y : MethodName} {bytes : ByteArray} {maxL : Nat} {ret : Option FieldType}
    (hown : s.vm.findClass own = some m.cls) (hlink : (Cond.methodLink own index y).before args s = true) (hstat : (Cond.static y).before args s = true) (hinit : (Cond.initialized y.cls).before args s = true)
    (hcode : (Cond.code y bytes maxL ret).before args s = true) (hy : y.cls ≠ "java/lang/invoke/MethodHandle" ∧ y.cls ≠ "java/lang/invoke/VarHandle")
    {W9 : Nat} {Pre : Pt → Array Value → Prop} {Post : Pt → Array Value → Option Value → Pt → Prop} {PostX : Pt → Array Value → Addr → Pt → Prop} (hK : vx_Back l R p e below s args y 3 W9 Pre Post PostX)
    {g : JFrame} (hg : g.method = m) (hsize : g.locals.size = c.maxLocals) {argsL rest : List Value} (hlen : ∀ sig, parseMethodDescriptor y.desc = some sig → argsL.length = sig.parameters.length)
    (hstack : g.stack = argsL.reverse ++ rest) (hW : 2 * g.monitorRoom + (rest.map fun v => v.category).sum ≤ W9) (hdg : decode c.code g.pc = .ok (.invokestatic index, 3))
    (hpre : ∀ vm₁, s.WarmedH vm₁ → Pre ⟨T.setVm vm₁, locs, cells, slots⟩ argsL.toArray) :
    (∃ (v : Option Value) (vm₁ : Vm) (B : Pt), s.WarmedH vm₁ ∧ Stand p l e R s m args below meth c B.U B.locs B.cells B.slots ∧ Post ⟨T.setVm vm₁, locs, cells, slots⟩ argsL.toArray v B ∧
      ∀ target, Steps p.tables e below (B.U.setTop { g with pc := g.pc + 3, stack := v.toList ++ rest }) target → Steps p.tables e below (T.setTop g) target) ∨
    (∃ (q : Addr) (vm₁ : Vm) (B : Pt), s.WarmedH vm₁ ∧ Stand p l e R s m args below meth c B.U B.locs B.cells B.slots ∧ PostX ⟨T.setVm vm₁, locs, cells, slots⟩ argsL.toArray q B ∧
      Steps p.tables e below (T.setTop g) ((B.U.setTop { g with stack := rest }).pushFrame (.throwing q))) := by
  obtain ⟨mk, hnamed⟩ := Cond.code_named hcode
  obtain ⟨methM, cM, hmethM, -, -, -, -, -, -, hsigM⟩ := Cond.code_spec hnamed hcode
  have hstatic : methM.isStatic = true := Cond.static_spec hnamed hmethM hstat
  obtain ⟨kP, hkP, -⟩ := className_of_methodNamed hnamed
  have hinitP : kP.init = .initialized := Cond.initialized_spec (findClass_of_methodNamed hnamed) hkP hinit
  obtain ⟨vm₁, X₁, hstep₁⟩ := X.invokestatic hexec hown hlink hnamed hmethM hstatic hkP hinitP hy (g := g) hg (argsL := argsL) (rest := rest) (hlen _ hsigM) hstack hdg
  rcases hK m meth c ⟨T.setVm vm₁, locs, cells, slots⟩ { g with stack := rest } (.invokestatic index) mk argsL.toArray X₁ hg hsize hdg hW (X₁.named hnamed) (hpre vm₁ X₁.warmed) with ⟨v, B, X', hpost, hsteps⟩ | ⟨q, B, X', hpost, hsteps⟩
  · exact Or.inl ⟨v, vm₁, B, X₁.warmed, X', hpost, fun target h => hstep₁ _ fun acts => by rw [doInvoke_state]; exact hsteps.trans h⟩
  · exact Or.inr ⟨q, vm₁, B, X₁.warmed, X', hpost, hstep₁ _ fun acts => by rw [doInvoke_state]; exact hsteps⟩
end Calls
theorem vx_cls {s : State} {T : State} {vm₁ : Vm} {E : String} {k : ClassId} (hW : s.WarmedH vm₁) (h : (T.setVm vm₁).vm.findClass E = some k) : s.vm.findClass E = some k := by
  have h1 : vm₁.findClass E = some k := h
  rw [hW.alike.findClass] at h1
  exact h1
/-- the method's frame g, with q thrown over it -/
def vx_W (p : Program) (l : Launch) (e : Env) (R : Room) (s : State) (m : MethodId) (args : Array Value) (below : List Frame) (meth : Method) (c : Code) (H : Heap) (locs : List Loc) (cells slots : Nat) (Q : State → Prop) (g : JFrame) (q : Addr) : Prop :=
  ∀ T : State, T.heap = H → Stand p l e R s m args below meth c T locs cells slots → ∃ t, Steps p.tables e below ((T.setTop g).pushFrame (.throwing q)) t ∧ Q t
def vx_Run (p : Program) (l : Launch) (e : Env) (R : Room) (s : State) (m : MethodId) (args : Array Value) (below : List Frame) (meth : Method) (c : Code) (H : Heap) (locs : List Loc) (cells slots mc ms : Nat) (g : JFrame) (rest : List Value) (Qa : State → Outcome → State → Prop) (XC : String → State → State → Prop) (free : Addr → Prop) : Prop :=
  ∀ T : State, T.heap = H → Stand p l e R s m args below meth c T locs cells slots →
    (∃ (v : Option Value) (st₀ t T' : State) (L : List Loc), st₀.heap = H ∧ Stand p l e R s m args below meth c T' (locs ++ L) (cells + mc) (slots + ms) ∧ (∀ q ∈ L, free q.base) ∧ T'.heap = t.heap ∧ T'.vm = t.vm ∧ Qa st₀ (.returned v) t ∧
      Goes p e below T g T' { g with pc := g.pc + 3, stack := v.toList ++ rest }) ∨
    (∃ (q : Addr) (st₀ t T' : State) (L : List Loc) (E : String) (ce : Cell), st₀.heap = H ∧ Stand p l e R s m args below meth c T' (locs ++ L) (cells + mc) (slots + ms) ∧ (∀ z ∈ L, free z.base) ∧ T'.heap = t.heap ∧ T'.vm = t.vm ∧ XC E st₀ t ∧ t.heap[q]? = some ce ∧ ce.vm = .none ∧ s.vm.findClass E = some ce.cls ∧
      Steps p.tables e below (T.setTop g) ((T'.setTop { g with stack := rest }).pushFrame (.throwing q)))
def vx_X {S : Type} (px : S → Prop) (B : String → S → State → Prop) (A : Nat → Prop) : String → State → State → Prop := fun E st t => ∃ u : S, px u ∧ B E u t ∧ va_F A st t
section Runs
variable {p : Program} {l : Launch} {e : Env} {R : Room} {s : State} {m : MethodId} {args : Array Value} {below : List Frame} {meth : Method} {c : Code} {H : Heap} {locs : List Loc} {cells slots : Nat}
variable {y : MethodName} {bytes cc : ByteArray} {maxL nL mc ms n index : Nat} {ret : Option FieldType} {ws : List Cond} {rm : Room} {Pc : Array Value → State → Prop} {Qc : Array Value → State → Outcome → State → Prop} {XC : String → State → State → Prop} {free : Addr → Prop} {Ts : List Cond} {own C : String} {b : Addr} {As rest : List Value} {g : JFrame}
theorem vx_callBack (cb : CallB R s args own index y bytes maxL ret ws rm mc ms n) (hM : vx_Met l y ws rm Pc Qc XC mc ms free) (hbl : FrameBlind Pc) : vx_Back l R p e below s args y 3 8 (PreOf R mc ms Pc) (PostOf Qc mc ms free) (vx_Post XC mc ms free) := by
  obtain ⟨hrc, hrs, hfr, hlo, hws, hcw, -, hini, -⟩ := cb
  exact vx_back (bytes := bytes) (maxL := maxL) (ret := ret) hM hbl hrc hrs hfr hlo hws hcw (fun a' U hW => word_at hW (Or.inl (by first | rfl | simp [Cond.onTables, Cond.keeps, Cond.steady])) hini)
theorem vx_runV (S : CallFix p m c cc nL s args Ts own) (hM : vx_Met l y ws rm Pc Qc XC mc ms free) (cw : CallW R s args own C index y bytes maxL ret ws rm mc ms n) (hp : PreV s H C b Pc As)
    (hg : g.method = m) (hn : As.length = n) (hsize : g.locals.size = nL) (hstack : g.stack = As.reverse ++ .ref b :: rest) (hW : 2 * g.monitorRoom + (rest.map fun v => v.category).sum ≤ 8) (hdg : decode cc g.pc = .ok (.invokevirtual index, 3)) (hf : cells + mc ≤ R.cells ∧ slots + ms ≤ R.slots) :
    vx_Run p l e R s m args below meth c H locs cells slots mc ms g rest (Qc (Value.ref b :: As).toArray) XC free := by
  have hK : vx_Back l R p e below s args y 3 8 (PreOf R mc ms Pc) (PostOf Qc mc ms free) (vx_Post XC mc ms free) := vx_callBack cw.1 hM hp.1
  obtain ⟨⟨-, -, -, -, -, -, hcode, -, hy, hlen, hl⟩, hin, hse⟩ := cw
  obtain ⟨hx, hb, hml, ho, -⟩ := S
  obtain ⟨-, ⟨cellB, hcB, hoB, hclB⟩, hPc⟩ := hp
  intro T hT X
  rcases vx_callV X hx (C := C) (bytes := bytes) (maxL := maxL) (ret := ret) ho hl hin hse hcode hy hK (by rw [hT]; exact hcB) hoB hclB hg (hsize.trans hml.symm) (argsL := As) (rest := rest) (fun sig h => hn.trans (hlen sig h)) hstack hW (by rw [hb]; exact hdg)
    (fun vm₁ hW₁ => ⟨hf.1, hf.2, hPc (T.setVm vm₁) hT hW₁⟩) with ⟨v, vm₁, ⟨U', l2, c2, s2⟩, hW₁, X', ⟨g', mk, t, L, e1, e2, hq, h1, hL, h2, h3⟩, st⟩ | ⟨q, vm₁, ⟨U', l2, c2, s2⟩, hW₁, X', ⟨g', mk, t, L, E, ce, e1, e2, hq, hce, hcv, hcl, h1, hL, h2, h3⟩, st⟩
  · dsimp only [Pt.U, Pt.locs, Pt.cells, Pt.slots] at X' e1 e2 h1 h2 h3 st
    subst h1; subst h2; subst h3
    exact Or.inl ⟨v, (T.setVm vm₁).calling g' mk (Value.ref b :: As).toArray, t, U', L, hT, X', hL, e1, e2, hq, st⟩
  · dsimp only [Pt.U, Pt.locs, Pt.cells, Pt.slots] at X' e1 e2 h1 h2 h3 st hcl
    subst h1; subst h2; subst h3
    exact Or.inr ⟨q, (T.setVm vm₁).calling g' mk (Value.ref b :: As).toArray, t, U', L, E, ce, hT, X', hL, e1, e2, hq, hce, hcv, vx_cls hW₁ hcl, st⟩
theorem vx_runS (S : CallFix p m c cc nL s args Ts own) (hM : vx_Met l y ws rm Pc Qc XC mc ms free) (cw : CallB R s args own index y bytes maxL ret ws rm mc ms n ∧ (Cond.static y).before args s = true) (hp : PreS s H Pc As)
    (hg : g.method = m) (hn : As.length = n) (hsize : g.locals.size = nL) (hstack : g.stack = As.reverse ++ rest) (hW : 2 * g.monitorRoom + (rest.map fun v => v.category).sum ≤ 8) (hdg : decode cc g.pc = .ok (.invokestatic index, 3)) (hf : cells + mc ≤ R.cells ∧ slots + ms ≤ R.slots) :
    vx_Run p l e R s m args below meth c H locs cells slots mc ms g rest (Qc As.toArray) XC free := by
  have hK : vx_Back l R p e below s args y 3 8 (PreOf R mc ms Pc) (PostOf Qc mc ms free) (vx_Post XC mc ms free) := vx_callBack cw.1 hM hp.1
  obtain ⟨⟨-, -, -, -, -, -, hcode, hini, hy, hlen, hl⟩, hstt⟩ := cw
  obtain ⟨hx, hb, hml, ho, -⟩ := S
  intro T hT X
  rcases vx_callS X hx (bytes := bytes) (maxL := maxL) (ret := ret) ho hl hstt hini hcode hy hK hg (hsize.trans hml.symm) (argsL := As) (rest := rest) (fun sig h => hn.trans (hlen sig h)) hstack hW (by rw [hb]; exact hdg)
    (fun vm₁ hW₁ => ⟨hf.1, hf.2, hp.2 (T.setVm vm₁) hT hW₁⟩) with ⟨v, vm₁, ⟨U', l2, c2, s2⟩, hW₁, X', ⟨g', mk, t, L, e1, e2, hq, h1, hL, h2, h3⟩, st⟩ | ⟨q, vm₁, ⟨U', l2, c2, s2⟩, hW₁, X', ⟨g', mk, t, L, E, ce, e1, e2, hq, hce, hcv, hcl, h1, hL, h2, h3⟩, st⟩
  · dsimp only [Pt.U, Pt.locs, Pt.cells, Pt.slots] at X' e1 e2 h1 h2 h3 st
    subst h1; subst h2; subst h3
    exact Or.inl ⟨v, (T.setVm vm₁).calling g' mk As.toArray, t, U', L, hT, X', hL, e1, e2, hq, st⟩
  · dsimp only [Pt.U, Pt.locs, Pt.cells, Pt.slots] at X' e1 e2 h1 h2 h3 st hcl
    subst h1; subst h2; subst h3
    exact Or.inr ⟨q, (T.setVm vm₁).calling g' mk As.toArray, t, U', L, E, ce, hT, X', hL, e1, e2, hq, hce, hcv, vx_cls hW₁ hcl, st⟩
end Runs
section Rows
variable {p : Program} {l : Launch} {e : Env} {R : Room} {s : State} {m : MethodId} {args : Array Value} {below : List Frame} {meth : Method} {c : Code} {H : Heap} {locs : List Loc} {cells slots : Nat} {Q : State → Prop}
variable {mc ms : Nat} {free : Addr → Prop} {A0 A1 : Nat → Prop} {H0 : Heap} {a : Array Value} {pc : Nat} {ls : Array Slot} {st0 rest : List Value}
theorem vx_keep {st₀ t T' : State} {L : List Loc} (h0 : st₀.heap = H) (e1 : T'.heap = t.heap) (hS : va_S A0 H0 H locs) (hA : ∀ q, q < H.size → A1 q → A0 q) (hf : ∀ q, free q → A0 q) (hL : ∀ q ∈ L, free q.base) (hF : va_F A1 st₀ t) :
    H.size ≤ T'.heap.size ∧ (∀ q : Nat, q < H.size → ¬ A1 q → T'.heap[q]? = H[q]?) ∧ va_S A0 H0 T'.heap (locs ++ L) := by
  obtain ⟨hz, hk⟩ := hF
  rw [h0] at hz hk
  exact ⟨by rw [e1]; exact hz, fun q h1 h2 => by rw [e1]; exact hk q h1 h2,
    ⟨Nat.le_trans hS.1 (by rw [e1]; exact hz), fun q h1 h2 => by rw [e1, hk q (Nat.lt_of_lt_of_le h1 hS.1) (fun z => h2 (hA q (Nat.lt_of_lt_of_le h1 hS.1) z))]; exact hS.2.1 q h1 h2, fun q hq => by
      rcases List.mem_append.mp hq with h | h
      · exact hS.2.2 q h
      · exact hf _ (hL q h)⟩⟩
theorem vx_calli {S SX : Type} {post : Int32 → S → Prop} {px : SX → Prop} {B : S → State → Prop} {BX : String → SX → State → Prop} {AX : Nat → Prop} (hr : vx_Run p l e R s m args below meth c H locs cells slots mc ms (F0 m pc ls st0) rest (va_Qi post B A1 a) (vx_X px BX AX) free) (hS : va_S A0 H0 H locs) (hA : ∀ q, q < H.size → A1 q → A0 q) (hf : ∀ q, free q → A0 q) (hAX : ∀ q, q < H.size → AX q → A0 q)
    (kx : ∀ (E : String) (ce : Cell) (q9 : Addr) (u : SX) (t : State) (H1 : Heap) (locs1 : List Loc), t.heap = H1 → s.vm.Alike t.vm → px u → BX E u t → H.size ≤ H1.size → (∀ q : Nat, q < H.size → ¬ AX q → H1[q]? = H[q]?) → va_S A0 H0 H1 locs1 → H1[q9]? = some ce → ce.vm = .none → s.vm.findClass E = some ce.cls → vx_W p l e R s m args below meth c H1 locs1 (cells + mc) (slots + ms) Q (F0 m pc ls rest) q9)
    (kk : ∀ (r : Int32) (u : S) (t : State) (H1 : Heap) (locs1 : List Loc), t.heap = H1 → s.vm.Alike t.vm → post r u → B u t → H.size ≤ H1.size → (∀ q : Nat, q < H.size → ¬ A1 q → H1[q]? = H[q]?) → va_S A0 H0 H1 locs1 → W p l e R s m args below meth c H1 locs1 (cells + mc) (slots + ms) Q (F0 m (pc + 3) ls (.int r :: rest))) : W p l e R s m args below meth c H locs cells slots Q (F0 m pc ls st0) := by
  intro T hT X
  rcases hr T hT X with ⟨v, st₀, t, T', L, h0, X', hL, e1, e2, ⟨⟨r, u, hv, hp, hb⟩, hF⟩, st⟩ | ⟨q, st₀, t, T', L, E, ce, h0, X', hL, e1, e2, ⟨u, hp, hb, hF⟩, hce, hcv, hcl, st⟩
  · cases hv
    obtain ⟨k1, k2, k3⟩ := vx_keep h0 e1 hS hA hf hL hF
    obtain ⟨t2, a1, b1⟩ := kk r u t T'.heap (locs ++ L) e1.symm (by rw [← e2]; exact X'.warmed.alike) hp hb k1 k2 k3 T' rfl X'
    exact ⟨t2, st t2 a1, b1⟩
  · obtain ⟨k1, k2, k3⟩ := vx_keep h0 e1 hS hAX hf hL hF
    obtain ⟨t2, a1, b1⟩ := kx E ce q u t T'.heap (locs ++ L) e1.symm (by rw [← e2]; exact X'.warmed.alike) hp hb k1 k2 k3 (by rw [e1]; exact hce) hcv hcl T' rfl X'
    exact ⟨t2, st.trans a1, b1⟩
theorem vx_calll {S SX : Type} {post : Int64 → S → Prop} {px : SX → Prop} {B : S → State → Prop} {BX : String → SX → State → Prop} {AX : Nat → Prop} (hr : vx_Run p l e R s m args below meth c H locs cells slots mc ms (F0 m pc ls st0) rest (va_Ql post B A1 a) (vx_X px BX AX) free) (hS : va_S A0 H0 H locs) (hA : ∀ q, q < H.size → A1 q → A0 q) (hf : ∀ q, free q → A0 q) (hAX : ∀ q, q < H.size → AX q → A0 q)
    (kx : ∀ (E : String) (ce : Cell) (q9 : Addr) (u : SX) (t : State) (H1 : Heap) (locs1 : List Loc), t.heap = H1 → s.vm.Alike t.vm → px u → BX E u t → H.size ≤ H1.size → (∀ q : Nat, q < H.size → ¬ AX q → H1[q]? = H[q]?) → va_S A0 H0 H1 locs1 → H1[q9]? = some ce → ce.vm = .none → s.vm.findClass E = some ce.cls → vx_W p l e R s m args below meth c H1 locs1 (cells + mc) (slots + ms) Q (F0 m pc ls rest) q9)
    (kk : ∀ (r : Int64) (u : S) (t : State) (H1 : Heap) (locs1 : List Loc), t.heap = H1 → s.vm.Alike t.vm → post r u → B u t → H.size ≤ H1.size → (∀ q : Nat, q < H.size → ¬ A1 q → H1[q]? = H[q]?) → va_S A0 H0 H1 locs1 → W p l e R s m args below meth c H1 locs1 (cells + mc) (slots + ms) Q (F0 m (pc + 3) ls (.long r :: rest))) : W p l e R s m args below meth c H locs cells slots Q (F0 m pc ls st0) := by
  intro T hT X
  rcases hr T hT X with ⟨v, st₀, t, T', L, h0, X', hL, e1, e2, ⟨⟨r, u, hv, hp, hb⟩, hF⟩, st⟩ | ⟨q, st₀, t, T', L, E, ce, h0, X', hL, e1, e2, ⟨u, hp, hb, hF⟩, hce, hcv, hcl, st⟩
  · cases hv
    obtain ⟨k1, k2, k3⟩ := vx_keep h0 e1 hS hA hf hL hF
    obtain ⟨t2, a1, b1⟩ := kk r u t T'.heap (locs ++ L) e1.symm (by rw [← e2]; exact X'.warmed.alike) hp hb k1 k2 k3 T' rfl X'
    exact ⟨t2, st t2 a1, b1⟩
  · obtain ⟨k1, k2, k3⟩ := vx_keep h0 e1 hS hAX hf hL hF
    obtain ⟨t2, a1, b1⟩ := kx E ce q u t T'.heap (locs ++ L) e1.symm (by rw [← e2]; exact X'.warmed.alike) hp hb k1 k2 k3 (by rw [e1]; exact hce) hcv hcl T' rfl X'
    exact ⟨t2, st.trans a1, b1⟩
theorem vx_callf {S SX : Type} {post : UInt32 → S → Prop} {px : SX → Prop} {B : S → State → Prop} {BX : String → SX → State → Prop} {AX : Nat → Prop} (hr : vx_Run p l e R s m args below meth c H locs cells slots mc ms (F0 m pc ls st0) rest (va_Qf post B A1 a) (vx_X px BX AX) free) (hS : va_S A0 H0 H locs) (hA : ∀ q, q < H.size → A1 q → A0 q) (hf : ∀ q, free q → A0 q) (hAX : ∀ q, q < H.size → AX q → A0 q)
    (kx : ∀ (E : String) (ce : Cell) (q9 : Addr) (u : SX) (t : State) (H1 : Heap) (locs1 : List Loc), t.heap = H1 → s.vm.Alike t.vm → px u → BX E u t → H.size ≤ H1.size → (∀ q : Nat, q < H.size → ¬ AX q → H1[q]? = H[q]?) → va_S A0 H0 H1 locs1 → H1[q9]? = some ce → ce.vm = .none → s.vm.findClass E = some ce.cls → vx_W p l e R s m args below meth c H1 locs1 (cells + mc) (slots + ms) Q (F0 m pc ls rest) q9)
    (kk : ∀ (r : UInt32) (u : S) (t : State) (H1 : Heap) (locs1 : List Loc), t.heap = H1 → s.vm.Alike t.vm → post r u → B u t → H.size ≤ H1.size → (∀ q : Nat, q < H.size → ¬ A1 q → H1[q]? = H[q]?) → va_S A0 H0 H1 locs1 → W p l e R s m args below meth c H1 locs1 (cells + mc) (slots + ms) Q (F0 m (pc + 3) ls (.float r :: rest))) : W p l e R s m args below meth c H locs cells slots Q (F0 m pc ls st0) := by
  intro T hT X
  rcases hr T hT X with ⟨v, st₀, t, T', L, h0, X', hL, e1, e2, ⟨⟨r, u, hv, hp, hb⟩, hF⟩, st⟩ | ⟨q, st₀, t, T', L, E, ce, h0, X', hL, e1, e2, ⟨u, hp, hb, hF⟩, hce, hcv, hcl, st⟩
  · cases hv
    obtain ⟨k1, k2, k3⟩ := vx_keep h0 e1 hS hA hf hL hF
    obtain ⟨t2, a1, b1⟩ := kk r u t T'.heap (locs ++ L) e1.symm (by rw [← e2]; exact X'.warmed.alike) hp hb k1 k2 k3 T' rfl X'
    exact ⟨t2, st t2 a1, b1⟩
  · obtain ⟨k1, k2, k3⟩ := vx_keep h0 e1 hS hAX hf hL hF
    obtain ⟨t2, a1, b1⟩ := kx E ce q u t T'.heap (locs ++ L) e1.symm (by rw [← e2]; exact X'.warmed.alike) hp hb k1 k2 k3 (by rw [e1]; exact hce) hcv hcl T' rfl X'
    exact ⟨t2, st.trans a1, b1⟩
theorem vx_calld {S SX : Type} {post : UInt64 → S → Prop} {px : SX → Prop} {B : S → State → Prop} {BX : String → SX → State → Prop} {AX : Nat → Prop} (hr : vx_Run p l e R s m args below meth c H locs cells slots mc ms (F0 m pc ls st0) rest (va_Qd post B A1 a) (vx_X px BX AX) free) (hS : va_S A0 H0 H locs) (hA : ∀ q, q < H.size → A1 q → A0 q) (hf : ∀ q, free q → A0 q) (hAX : ∀ q, q < H.size → AX q → A0 q)
    (kx : ∀ (E : String) (ce : Cell) (q9 : Addr) (u : SX) (t : State) (H1 : Heap) (locs1 : List Loc), t.heap = H1 → s.vm.Alike t.vm → px u → BX E u t → H.size ≤ H1.size → (∀ q : Nat, q < H.size → ¬ AX q → H1[q]? = H[q]?) → va_S A0 H0 H1 locs1 → H1[q9]? = some ce → ce.vm = .none → s.vm.findClass E = some ce.cls → vx_W p l e R s m args below meth c H1 locs1 (cells + mc) (slots + ms) Q (F0 m pc ls rest) q9)
    (kk : ∀ (r : UInt64) (u : S) (t : State) (H1 : Heap) (locs1 : List Loc), t.heap = H1 → s.vm.Alike t.vm → post r u → B u t → H.size ≤ H1.size → (∀ q : Nat, q < H.size → ¬ A1 q → H1[q]? = H[q]?) → va_S A0 H0 H1 locs1 → W p l e R s m args below meth c H1 locs1 (cells + mc) (slots + ms) Q (F0 m (pc + 3) ls (.double r :: rest))) : W p l e R s m args below meth c H locs cells slots Q (F0 m pc ls st0) := by
  intro T hT X
  rcases hr T hT X with ⟨v, st₀, t, T', L, h0, X', hL, e1, e2, ⟨⟨r, u, hv, hp, hb⟩, hF⟩, st⟩ | ⟨q, st₀, t, T', L, E, ce, h0, X', hL, e1, e2, ⟨u, hp, hb, hF⟩, hce, hcv, hcl, st⟩
  · cases hv
    obtain ⟨k1, k2, k3⟩ := vx_keep h0 e1 hS hA hf hL hF
    obtain ⟨t2, a1, b1⟩ := kk r u t T'.heap (locs ++ L) e1.symm (by rw [← e2]; exact X'.warmed.alike) hp hb k1 k2 k3 T' rfl X'
    exact ⟨t2, st t2 a1, b1⟩
  · obtain ⟨k1, k2, k3⟩ := vx_keep h0 e1 hS hAX hf hL hF
    obtain ⟨t2, a1, b1⟩ := kx E ce q u t T'.heap (locs ++ L) e1.symm (by rw [← e2]; exact X'.warmed.alike) hp hb k1 k2 k3 (by rw [e1]; exact hce) hcv hcl T' rfl X'
    exact ⟨t2, st.trans a1, b1⟩
theorem vx_callv {S SX : Type} {post : S → Prop} {px : SX → Prop} {B : S → State → Prop} {BX : String → SX → State → Prop} {AX : Nat → Prop} (hr : vx_Run p l e R s m args below meth c H locs cells slots mc ms (F0 m pc ls st0) rest (va_Qv post B A1 a) (vx_X px BX AX) free) (hS : va_S A0 H0 H locs) (hA : ∀ q, q < H.size → A1 q → A0 q) (hf : ∀ q, free q → A0 q) (hAX : ∀ q, q < H.size → AX q → A0 q)
    (kx : ∀ (E : String) (ce : Cell) (q9 : Addr) (u : SX) (t : State) (H1 : Heap) (locs1 : List Loc), t.heap = H1 → s.vm.Alike t.vm → px u → BX E u t → H.size ≤ H1.size → (∀ q : Nat, q < H.size → ¬ AX q → H1[q]? = H[q]?) → va_S A0 H0 H1 locs1 → H1[q9]? = some ce → ce.vm = .none → s.vm.findClass E = some ce.cls → vx_W p l e R s m args below meth c H1 locs1 (cells + mc) (slots + ms) Q (F0 m pc ls rest) q9)
    (kk : ∀ (u : S) (t : State) (H1 : Heap) (locs1 : List Loc), t.heap = H1 → s.vm.Alike t.vm → post u → B u t → H.size ≤ H1.size → (∀ q : Nat, q < H.size → ¬ A1 q → H1[q]? = H[q]?) → va_S A0 H0 H1 locs1 → W p l e R s m args below meth c H1 locs1 (cells + mc) (slots + ms) Q (F0 m (pc + 3) ls (rest))) : W p l e R s m args below meth c H locs cells slots Q (F0 m pc ls st0) := by
  intro T hT X
  rcases hr T hT X with ⟨v, st₀, t, T', L, h0, X', hL, e1, e2, ⟨⟨u, hv, hp, hb⟩, hF⟩, st⟩ | ⟨q, st₀, t, T', L, E, ce, h0, X', hL, e1, e2, ⟨u, hp, hb, hF⟩, hce, hcv, hcl, st⟩
  · cases hv
    obtain ⟨k1, k2, k3⟩ := vx_keep h0 e1 hS hA hf hL hF
    obtain ⟨t2, a1, b1⟩ := kk u t T'.heap (locs ++ L) e1.symm (by rw [← e2]; exact X'.warmed.alike) hp hb k1 k2 k3 T' rfl X'
    exact ⟨t2, st t2 a1, b1⟩
  · obtain ⟨k1, k2, k3⟩ := vx_keep h0 e1 hS hAX hf hL hF
    obtain ⟨t2, a1, b1⟩ := kx E ce q u t T'.heap (locs ++ L) e1.symm (by rw [← e2]; exact X'.warmed.alike) hp hb k1 k2 k3 (by rw [e1]; exact hce) hcv hcl T' rfl X'
    exact ⟨t2, st.trans a1, b1⟩
/-- caught by the row x of this method's table; the rows ahead don't take it -/
theorem vx_catch {own name : String} {E : String} {ce : Cell} {q : Addr} (hown : s.vm.findClass own = some m.cls) (pre : List ExceptionTableEntry) (x : ExceptionTableEntry) (suf : List ExceptionTableEntry) (hsplit : c.exceptionTable.toList = pre ++ x :: suf)
    (hpass : ∀ z ∈ pre, covers z pc = false ∨ (z.catchType ≠ 0 ∧ ∃ nm : String, (Cond.classLink own z.catchType nm).before args s = true ∧ va_Nc E nm s)) (hx : covers x pc = true) (h0 : x.catchType ≠ 0)
    (hlink : (Cond.classLink own x.catchType name).before args s = true) (hcast : (Cond.castable E name).before args s = true) (hcell : H[q]? = some ce) (hv : ce.vm = .none) (hcl : s.vm.findClass E = some ce.cls)
    (kk : W p l e R s m args below meth c H locs cells slots Q (F0 m x.handlerPc ls [.ref q])) : vx_W p l e R s m args below meth c H locs cells slots Q (F0 m pc ls rest) q := by
  intro T hT X
  have hpl : e.platform.magicAccessors = ({} : Platform).magicAccessors := by rw [X.admits.platform]
  obtain ⟨c3, c4, hc3, hc4, hasg⟩ := Cond.castable_spec hcast
  cases Option.some.inj (hc3.symm.trans hcl)
  obtain ⟨c5, hc5, hcl5⟩ := Cond.classLink_spec hown hlink e.platform hpl
  cases Option.some.inj (hc4.symm.trans hc5)
  obtain ⟨vm', X', st⟩ := X.thenCaughtThrough q (g := F0 m pc ls rest) rfl (Steps.refl _) (by rw [hT]; exact hcell) (by rw [hv]; rfl) (by obtain ⟨k9, h9, -⟩ := Vm.findClass_spec hcl; exact ⟨k9, h9⟩) pre x suf hsplit
    (fun z hz => by
      rcases hpass z hz with h | ⟨hz0, nm, hl1, hn1⟩
      · exact Or.inl h
      · obtain ⟨c6, hc6, hcl6⟩ := Cond.classLink_spec hown hl1 e.platform hpl
        obtain ⟨a8, b8, h1, h2, h3⟩ := hn1
        cases Option.some.inj (h1.symm.trans hcl)
        cases Option.some.inj (h2.symm.trans hc6)
        exact Or.inr ⟨hz0, _, hcl6, h3⟩) hx (Or.inr ⟨h0, c4, hcl5, hasg⟩)
  obtain ⟨t, a1, b1⟩ := kk (T.setVm vm') hT X'
  exact ⟨t, st.trans a1, b1⟩
end Rows
section Ends
variable {p : Program} {l : Launch} {e : Env} {R : Room} {s : State} {m : MethodId} {args : Array Value} {below : List Frame} {meth : Method} {c : Code} {H : Heap} {locs : List Loc} {cells slots : Nat} {Q : State → Prop}
variable {mc ms : Nat} {free : Addr → Prop} {A0 A1 : Nat → Prop} {H0 : Heap} {a : Array Value} {ls : Array Slot} {st0 rest : List Value}
variable {Qc : Array Value → State → Outcome → State → Prop} {XC : String → State → State → Prop}
/-- what a body that may throw owes at its end -/
def vx_MQ (below : List Frame) (Qc : Array Value → State → Outcome → State → Prop) (XC : String → State → State → Prop) (a : Array Value) (s : State) (mc ms : Nat) (free : Addr → Prop) : State → Prop := fun t =>
  ∃ o, t.status = .running ∧ Ended t below o ∧ vx_Q Qc XC mc ms free a s o t
theorem vx_ret {g : JFrame} {mc ms : Nat} (k : W p l e R s m args below meth c H locs cells slots (MQ below Qc args s mc ms free) g) : W p l e R s m args below meth c H locs cells slots (vx_MQ below Qc XC args s mc ms free) g := by
  intro T hT X
  obtain ⟨t, a1, o, b1, b2, b3, b4⟩ := k T hT X
  exact ⟨t, a1, o, b1, b2, Or.inl ⟨b3, b4⟩⟩
/-- not caught here: it goes on to the caller -/
theorem vx_widen {g : JFrame} {q : Addr} {k n : Nat} (h1 : cells ≤ k) (h2 : slots ≤ n) (kk : vx_W p l e R s m args below meth c H locs k n Q g q) : vx_W p l e R s m args below meth c H locs cells slots Q g q := fun T hT X => kk T hT (stand_widen X h1 h2)
theorem vx_out {pc : Nat} {E : String} {ce : Cell} {q : Addr} {mc ms : Nat} (hout : ∀ x ∈ c.exceptionTable.toList, covers x pc = false) (hlocks : meth.locks = false) (hcell : H[q]? = some ce) (hv : ce.vm = .none) (hcl : s.vm.findClass E = some ce.cls)
    (hx : ∀ t : State, t.heap = H → s.vm.Alike t.vm → XC E s t) (hf : ∀ z ∈ locs, free z.base) (hc : cells ≤ mc) (hs : slots ≤ ms) :
    vx_W p l e R s m args below meth c H locs cells slots (vx_MQ below Qc XC args s mc ms free) (F0 m pc ls rest) q := by
  intro T hT X
  obtain ⟨st1, hrun, hend, hW, hsm⟩ := X.leaveThrown q (g := F0 m pc ls rest) rfl rfl rfl hout hlocks
  have hcell9 : (T.setFrames (.throwing q :: below)).heap[q]? = some ce := by
    show T.heap[q]? = some ce
    rw [hT]; exact hcell
  exact ⟨_, st1, .threw q, hrun, hend, Or.inr ⟨q, rfl, E, ce, locs, hx _ hT hW.alike, hcell9, hv, hcl, hW, hsm.mono hc hs, hf⟩⟩
theorem vx_frame {U : State} {k n : Nat} (h : s.sameButNew ({ U with vm := s.vm } : State) locs k n) : s.heap.size ≤ U.heap.size ∧ ∀ q : Nat, q < s.heap.size → (∀ z ∈ locs, z.base ≠ q) → U.heap[q]? = s.heap[q]? := by
  obtain ⟨-, h2, -, -, -, h6⟩ := h
  refine ⟨h2, fun q hq hz => ?_⟩
  obtain ⟨c9, e1, e2, e3, e4⟩ := h6 q _ (Array.getElem?_eq_getElem hq)
  have hs : c9.slots = (s.heap[q]).slots := Array.ext_getElem? fun i => e4 i fun hm => hz _ hm rfl
  have h9 : c9 = s.heap[q] := by
    rw [hs] at e2
    exact e2
  have e5 : U.heap[q]? = some c9 := e1
  rw [e5, h9, Array.getElem?_eq_getElem hq]
/-- the words of a throw but the four that speak of the heap -/
def vx_no (w : Cond) : Bool := decide (w ≠ .isRef (.static Bundle.tN "UNASSIGNED_STACK" Bundle.steD)) && decide (w ≠ .isRef (.static Bundle.tN "SUPPRESSED_SENTINEL" Bundle.listD)) && decide (w ≠ .laysStatic Bundle.tN "UNASSIGNED_STACK" Bundle.steD) && decide (w ≠ .laysStatic Bundle.tN "SUPPRESSED_SENTINEL" Bundle.listD)
def vx_at0 (own : String) (ic : Nat) (X : String) (names : List String) : List Cond := (Bundle.ownAtoms0 own ic X names).filter vx_no
def vx_atS (own : String) (ic : Nat) (X : String) (names : List String) : List Cond := (Bundle.ownAtoms own ic X names).filter vx_no
/-- a word that the tables alone decide, or a good one -/
def vx_ot (w : Cond) : Bool := w.onTables || goodWord w
theorem vx_ot_at {args a' : Array Value} {s U : State} {w : Cond} (hW : s.WarmedH U.vm) (hvm : s.vm = U.vm) (hg : vx_ot w = true) (h : w.before args s = true) : w.before a' U = true := by
  simp only [vx_ot, Bool.or_eq_true] at hg
  rcases hg with hg | hg
  · exact va_tabs hg hvm h
  · exact word_at hW (good_of_word hg) h
/-- a list's words: the good ones out of the method's own list, the others by premises of their own -/
theorem vx_hat {args : Array Value} {s : State} {L B : List Cond} (h1 : ∀ w ∈ L.filter goodWord, w.before args s = true) (h2 : ∀ w ∈ L.filter (fun w => !goodWord w), w ∈ B) (h3 : ∀ w ∈ B, w.before args s = true) : ∀ w ∈ L, w.before args s = true := by
  intro w hw
  by_cases g : goodWord w = true
  · exact h1 w (List.mem_filter.mpr ⟨hw, g⟩)
  · refine h3 w (h2 w (List.mem_filter.mpr ⟨hw, ?_⟩))
    show (!goodWord w) = true
    cases hgw : goodWord w
    · rfl
    · exact absurd hgw g
theorem vx_c {args : Array Value} {s : State} {w : Cond} {B : List Cond} (h : w.before args s = true) (t : ∀ w ∈ B, w.before args s = true) : ∀ w' ∈ w :: B, w'.before args s = true := fun w' h' => (List.mem_cons.mp h').elim (fun e => by rw [e]; exact h) (t w')
theorem vx_n {args : Array Value} {s : State} : ∀ w ∈ ([] : List Cond), w.before args s = true := fun _ h => nomatch h
theorem vx_own {args : Array Value} {s : State} {L : List Cond} (h1 : ∀ w ∈ L.filter vx_no, w.before args s = true)
    (hU : (Cond.isRef (.static Bundle.tN "UNASSIGNED_STACK" Bundle.steD)).before args s = true) (hN : (Cond.isRef (.static Bundle.tN "SUPPRESSED_SENTINEL" Bundle.listD)).before args s = true)
    (lU : (Cond.laysStatic Bundle.tN "UNASSIGNED_STACK" Bundle.steD).before args s = true) (lN : (Cond.laysStatic Bundle.tN "SUPPRESSED_SENTINEL" Bundle.listD).before args s = true) : ∀ w ∈ L, w.before args s = true := by
  intro w hw
  by_cases e1 : w = .isRef (.static Bundle.tN "UNASSIGNED_STACK" Bundle.steD)
  · rw [e1]; exact hU
  · by_cases e2 : w = .isRef (.static Bundle.tN "SUPPRESSED_SENTINEL" Bundle.listD)
    · rw [e2]; exact hN
    · by_cases e3 : w = .laysStatic Bundle.tN "UNASSIGNED_STACK" Bundle.steD
      · rw [e3]; exact lU
      · by_cases e4 : w = .laysStatic Bundle.tN "SUPPRESSED_SENTINEL" Bundle.listD
        · rw [e4]; exact lN
        · exact h1 w (List.mem_filter.mpr ⟨hw, by unfold vx_no; rw [decide_eq_true e1, decide_eq_true e2, decide_eq_true e3, decide_eq_true e4]; rfl⟩)
/-- where a static field lies, its class's statics cell in H -/
def vx_L (C n d : String) (A : Nat → Prop) (U : State) (H : Heap) : Prop := ∃ (c : ClassId) (k : Class) (i : Nat) (f : Field) (a : Nat) (cell : Cell), U.vm.findClass C = some c ∧ U.fieldFound? C n d = some (c, k, i, f) ∧ f.isStatic = true ∧ k.statics = some a ∧ H[a]? = some cell ∧ cell.vm.isStatics = true ∧ cell.cls = c ∧ f.slot < cell.slots.size ∧ k.staticTypes[f.slot]? = some f.type ∧ ¬ A a
theorem vx_L.moved {C n d : String} {A : Nat → Prop} {u U : State} {H : Heap} (hvm : u.vm.Alike U.vm) (h : vx_L C n d A u H) : vx_L C n d A U H := by
  obtain ⟨c, k, i, f, a, cell, h1, h2, h3, h4, h5, h6, h7, h8, h9, h10⟩ := h
  obtain ⟨k', hi', he⟩ := State.fieldFound?_setVm hvm h2
  exact ⟨c, k', i, f, a, cell, by rw [hvm.findClass]; exact h1, hi', h3, by rw [he]; exact h4, h5, h6, h7, h8, by rw [he]; exact h9, h10⟩
theorem vx_L.kept {C n d : String} {A : Nat → Prop} {U : State} {H H1 : Heap} (h : vx_L C n d A U H) (hq : ∀ a : Nat, a < H.size → ¬ A a → H1[a]? = H[a]?) : vx_L C n d A U H1 := by
  obtain ⟨c, k, i, f, a, cell, h1, h2, h3, h4, h5, h6, h7, h8, h9, h10⟩ := h
  exact ⟨c, k, i, f, a, cell, h1, h2, h3, h4, by rw [hq a (Array.getElem?_eq_some_iff.mp h5).1 h10]; exact h5, h6, h7, h8, h9, h10⟩
theorem vx_L.narrow {C n d : String} {A B : Nat → Prop} {U : State} {H : Heap} (h : vx_L C n d A U H) (hAB : ∀ q, B q → A q) : vx_L C n d B U H := by
  obtain ⟨c, k, i, f, a, cell, h1, h2, h3, h4, h5, h6, h7, h8, h9, h10⟩ := h
  exact ⟨c, k, i, f, a, cell, h1, h2, h3, h4, h5, h6, h7, h8, h9, fun z => h10 (hAB _ z)⟩
theorem vx_L.word {C n d : String} {A : Nat → Prop} {s : State} {args : Array Value} (h : vx_L C n d A s s.heap) : (Cond.laysStatic C n d).before args s = true := by
  obtain ⟨c, k, i, f, a, cell, h1, h2, h3, h4, h5, h6, h7, h8, h9, -⟩ := h
  show (Cond.laysStatic C n d).holds args s none s [] = true
  exact Cond.laysStatic_of h1 h2 h3 h4 h5 h6 h7 h8 h9
/-- .. and what it holds: null or some reference -/
def vx_Zq (C n d : String) (A : Nat → Prop) (U : State) (H : Heap) : Prop := va_Zq C n d A U H ∧ vx_L C n d A U H
theorem vx_Zq.moved {C n d : String} {A : Nat → Prop} {u U : State} {H : Heap} (hvm : u.vm.Alike U.vm) (h : vx_Zq C n d A u H) : vx_Zq C n d A U H := ⟨va_Zq.moved hvm h.1, vx_L.moved hvm h.2⟩
theorem vx_Zq.kept {C n d : String} {A : Nat → Prop} {U : State} {H H1 : Heap} (h : vx_Zq C n d A U H) (hq : ∀ a : Nat, a < H.size → ¬ A a → H1[a]? = H[a]?) : vx_Zq C n d A U H1 := ⟨va_Zq.kept h.1 hq, vx_L.kept h.2 hq⟩
theorem vx_Zq.narrow {C n d : String} {A B : Nat → Prop} {U : State} {H : Heap} (h : vx_Zq C n d A U H) (hAB : ∀ q, B q → A q) : vx_Zq C n d B U H := ⟨va_Zq.narrow h.1 hAB, vx_L.narrow h.2 hAB⟩
theorem vx_Zqof {args : Array Value} {s : State} {C n d : String} {A : Nat → Prop} (hl : (Cond.laysStatic C n d).before args s = true) (hini : (Cond.initialized C).before args s = true) (h : (Cond.isRef (.static C n d)).before args s = true) (hA : ∀ a : Nat, a < s.heap.size → ¬ A a) : vx_Zq C n d A s s.heap := by
  refine ⟨va_Zqof hl hini h hA, ?_⟩
  obtain ⟨c, k, i, f, a, cell, h1, h2, h3, h4, h5, h6, h7, h8, h9⟩ := Cond.laysStatic_spec hl
  exact ⟨c, k, i, f, a, cell, h1, h2, h3, h4, h5, h6, h7, h8, h9, hA a (Array.getElem?_eq_some_iff.mp h5).1⟩
theorem vx_isRef {C n d : String} {v : Value} {A : Nat → Prop} {s : State} {args : Array Value} (h : va_Z C n d v A s s.heap) (hv : v.isRef = true) : (Cond.isRef (.static C n d)).before args s = true := by
  obtain ⟨cf, kf, fi, f, a, cell, h1, h2, h3, h4, h5, h6, h7, -⟩ := h
  have he : (Term.static C n d).eval args s none [] s = some v := by
    simp [Term.eval, State.fieldNamed?, h1, h2, h4, h5, h6, h7]
  simp only [Cond.before, Cond.holds, Cond.value, he]
  cases v <;> simp_all [Value.isRef]
theorem vx_isRefq {C n d : String} {A : Nat → Prop} {s : State} {args : Array Value} (h : va_Zq C n d A s s.heap) : (Cond.isRef (.static C n d)).before args s = true := by
  rcases h with h | ⟨t, h⟩
  · exact vx_isRef h rfl
  · exact vx_isRef h rfl
/-- the same frame, seen from here: as if the method were called anew in this heap -/
theorem vx_rebase {T : State} (X : Stand p l e R s m args below meth c T locs cells slots) {R' : Room} (hf : R'.frames ≤ R.frames) (hl : R'.locals ≤ R.locals) (hc : cells + R'.cells ≤ R.cells) (hs : slots + R'.slots ≤ R.slots) :
    Stand p l e R' ((T.setVm s.vm).setFrames (.invoking m args :: below)) m args below meth c T [] 0 0 := by
  have htop : (T.setVm s.vm).topJava?.isSome := X.here.top
  have hF : ((T.setVm s.vm).setFrames (.invoking m args :: below)).frames = .invoking m args :: below := State.frames_setFrames _ (State.cur_lt_of_top htop)
  obtain ⟨g₀, hg0⟩ := Option.isSome_iff_exists.mp htop
  obtain ⟨r, hr⟩ := State.topJava?_eq_some.mp hg0
  have hl9 : e.platform.stackLimits (T.setVm s.vm).me = e.platform.stackLimits s.me := X.limits
  have hb9 : (T.setVm s.vm).me.stackBytes = s.me.stackBytes := X.bytes
  refine ⟨X.admits, X.cas, X.clock, hF, ?_, X.hears, X.method, X.code, X.here, X.tail, X.warmed, ?_, ?_, ?_⟩
  · have h := X.room
    have hU : ((T.setVm s.vm).setFrames (.invoking m args :: below)).localsInUse = s.localsInUse := by
      rw [State.localsInUse_invoking hF (meth := meth) (c := c) X.method X.code, State.localsInUse_invoking X.frames X.method X.code]
    simp only [State.hasRoom, Bool.and_eq_true, decide_eq_true_eq] at h ⊢
    obtain ⟨⟨⟨⟨h1, h2, h3, h4, h5, h6⟩, h7⟩, h8⟩, h9⟩ := h
    rw [X.frames, List.length_cons] at h2 h3
    have q1 := X.heapSize
    have q2 := X.used
    simp only [hF, hU, List.length_cons, State.stackLimits_setFrames, State.stackBytes_setFrames, hl9, hb9]
    refine ⟨⟨⟨⟨by omega, by omega, by omega, by omega, by omega, h6⟩, ?_⟩, ?_⟩, X.book⟩
    · show T.heap.size + R'.cells ≤ e.platform.maxCells
      omega
    · show T.slotsUsed + R'.slots ≤ e.platform.maxSlots
      omega
  · rw [State.stackLimits_setFrames]; rfl
  · rw [State.stackBytes_setFrames]; rfl
  · refine ⟨?_, Nat.le_refl _, Nat.le_refl _, ?_, ?_, fun a c9 h9 => ⟨c9, h9, rfl, rfl, fun _ _ => rfl⟩⟩
    · obtain ⟨t, ht, -⟩ := State.frames_cons hr
      show T.setVm s.vm = { ((T.setVm s.vm).setFrames (.invoking m args :: below)).setFrames (T.setVm s.vm).frames with heap := T.heap, slotsUsed := T.slotsUsed }
      rw [State.setFrames_setFrames, State.setFrames_self ht]
      rfl
    · show T.slotsUsed = T.slotsUsed + ((T.heap.toList.drop T.heap.size).map (·.slots.size)).sum
      rw [List.drop_eq_nil_of_le (Nat.le_of_eq Array.length_toList)]
      rfl
    · show ((T.heap.toList.drop T.heap.size).map (·.slots.size)).sum ≤ 0
      rw [List.drop_eq_nil_of_le (Nat.le_of_eq Array.length_toList)]
      exact Nat.le_refl _
/-- 'throw new E()': new; dup; invokespecial; athrow -/
theorem vx_throw0 {cc : ByteArray} {pc : Nat} (hexec : p.tables.exec = Jvm.exec) (hb : c.code = cc) (hl : l.stackTraces = false) {own cls : String} {names : List String} {ik ic mc ms : Nat} {A : Nat → Prop}
    (hown : s.vm.findClass own = some m.cls) (hcls : Bundle.fit cls = true) (hnames : ∀ n ∈ names, Bundle.fit n = true)
    (hk : (Cond.classLink own ik cls).before args s = true) (hini : (Cond.initialized cls).before args s = true) (hat : ∀ w ∈ vx_at0 own ic cls names, w.before args s = true)
    (hgood : ∀ w ∈ Cond.classLink own ik cls :: Cond.initialized cls :: vx_at0 own ic cls names, vx_ot w = true)
    (hU : vx_Zq Bundle.tN "UNASSIGNED_STACK" Bundle.steD A s s.heap) (hN : vx_Zq Bundle.tN "SUPPRESSED_SENTINEL" Bundle.listD A s s.heap) (hS : va_S A s.heap H locs) (hsize : ls.size = c.maxLocals)
    (d0 : decode cc pc = .ok (.new ik, 3)) (d3 : decode cc (pc + 3) = .ok (.dup, 1)) (d4 : decode cc (pc + 4) = .ok (.invokespecial ic, 3)) (d7 : decode cc (pc + 7) = .ok (.athrow, 1))
    (hout : ∀ x ∈ c.exceptionTable.toList, covers x (pc + 7) = false)
    (hRframes : names.length + 3 < R.frames) (hRlocals : (rest.map fun v => v.category).sum + (13 * (names.length + 1) + 42) ≤ R.locals) (hRcells : cells + 1 ≤ R.cells) (hRslots : slots + 6 ≤ R.slots) (hlocks : meth.locks = false)
    (hx : ∀ t : State, s.vm.Alike t.vm → H.size ≤ t.heap.size → (∀ q : Nat, q < H.size → t.heap[q]? = H[q]?) → XC cls s t)
    (hf : ∀ z ∈ locs, free z.base) (hc : cells + 1 ≤ mc) (hs : slots + 6 ≤ ms) :
    W p l e R s m args below meth c H locs cells slots (vx_MQ below Qc XC args s mc ms free) (F0 m pc ls rest) := by
  intro T hT X
  have htr : e.platform.stackTraces = false := (show e.platform.stackTraces = l.stackTraces by rw [X.admits.platform]).trans hl
  have Y := vx_rebase X (R' := { frames := R.frames, locals := R.locals, cells := 1, slots := 6 }) (Nat.le_refl _) (Nat.le_refl _) hRcells hRslots
  obtain ⟨s', hA⟩ : ∃ z, z = (T.setVm s.vm).setFrames (.invoking m args :: below) := ⟨_, rfl⟩
  rw [← hA] at Y
  have hvm : s'.vm = s.vm := by rw [hA]; rfl
  have hhp : s'.heap = H := by rw [hA]; exact hT
  have hW0 : s.WarmedH s'.vm := by rw [hvm]; exact State.WarmedH.refl s
  have hat' : ∀ w ∈ vx_at0 own ic cls names, w.before args s' = true := fun w hw => vx_ot_at hW0 hvm.symm (hgood w (List.mem_cons_of_mem _ (List.mem_cons_of_mem _ hw))) (hat w hw)
  have hk' : (Cond.classLink own ik cls).before args s' = true := vx_ot_at hW0 hvm.symm (hgood _ List.mem_cons_self) hk
  have hini' : (Cond.initialized cls).before args s' = true := vx_ot_at hW0 hvm.symm (hgood _ (List.mem_cons_of_mem _ List.mem_cons_self)) hini
  have hU' : vx_Zq Bundle.tN "UNASSIGNED_STACK" Bundle.steD A s' s'.heap := by rw [hhp]; exact vx_Zq.moved hW0.alike (hU.kept hS.2.1)
  have hN' : vx_Zq Bundle.tN "SUPPRESSED_SENTINEL" Bundle.listD A s' s'.heap := by rw [hhp]; exact vx_Zq.moved hW0.alike (hN.kept hS.2.1)
  have h : ∀ w ∈ Bundle.ownAtoms0 own ic cls names, w.before args s' = true := vx_own hat' (vx_isRefq hU'.1) (vx_isRefq hN'.1) hU'.2.word hN'.2.word
  have hown' : s'.vm.findClass own = some m.cls := by rw [hvm]; exact hown
  have hins : (Cond.instantiable cls 6).before args s' = true := h _ (by simp [Bundle.ownAtoms0])
  obtain ⟨vm₁, cX, kX, hfX, hkX, -, -, X₁, st1⟩ := Y.newCold hexec (own := own) (C := cls) (index := ik) (n := 6) hown' hk' hins hini'
    (g := F0 m pc ls rest) rfl (by rw [hb]; exact d0) (Nat.le_refl _) (Nat.le_refl _)
  generalize hT1 : (T.setVm vm₁).pushCell { cls := cX, slots := kX.instanceTypes.map defaultValue, vm := .none } = T1 at X₁ st1
  have hcat : (Value.ref T.heap.size).category = 1 := rfl
  have hcellA : T1.heap[T.heap.size]? = some (freshCell cX kX) := by rw [← hT1]; exact State.heap_pushCell_size _ _
  have d3' : decode c.code (pc + 3) = .ok (.dup, 1) := by rw [hb]; exact d3
  obtain ⟨U, hsteps, hrun, hend, hW, hsame, ce, hce, hO⟩ := X₁.ctorThrow0 hexec htr (own := own) (cls := cls) (names := names) (ic := ic) hown' hcls hnames h (fun x hx => nomatch hx) hfX hkX hcellA (by rw [hhp, hT]; exact Nat.le_refl _)
    (g := { method := m, pc := pc + 4, locals := ls, stack := .ref T.heap.size :: .ref T.heap.size :: rest, locked := none }) rfl hsize rfl rfl (rest := rest) rfl
    (by rw [hb]; exact d4) (by rw [hb]; exact d7) hout hRframes (by simp only [List.map_cons, List.sum_cons, hcat]; omega) hlocks
  obtain ⟨f1, f2⟩ := vx_frame hsame
  rw [hhp] at f1 f2
  have hWs : s.WarmedH U.vm := State.WarmedH.trans hW0 hW
  have hcl : s.vm.findClass cls = some ce.cls := by
    have h9 := hO.cls
    rw [hvm] at h9
    exact h9
  have hall : s.sameButNew ({ U with vm := s.vm } : State) locs mc ms := by
    subst hA
    obtain ⟨e1, e2⟩ := hsame
    rw [State.setFrames_setFrames] at e1
    have h2 : (T.setVm s.vm).sameButNew ({ U with vm := s.vm } : State) [] (0 + 1) (0 + 6) := ⟨e1, e2⟩
    have h3 := X.same.trans h2
    rw [List.append_nil] at h3
    exact h3.mono hc hs
  refine ⟨U, ?_, .threw T.heap.size, hrun, hend, Or.inr ⟨T.heap.size, rfl, cls, ce, locs, hx U hWs.alike f1 (fun q hq => f2 q hq (fun z hz => nomatch hz)), hce, hO.vm, hcl, hWs, hall, hf⟩⟩
  refine st1 _ ?_
  show Steps p.tables e below (T1.setTop { method := m, pc := pc + 3, locals := ls, stack := .ref T.heap.size :: rest, locked := none }) _
  jvm_step X₁.here [X₁.here.top, hexec, d3', Value.category]
  exact hsteps
/-- 'throw new E("text")': new; dup; ldc; invokespecial; athrow -/
theorem vx_throwS {cc : ByteArray} {pc : Nat} (hexec : p.tables.exec = Jvm.exec) (hb : c.code = cc) (hl : l.stackTraces = false) {own cls text : String} {names : List String} {ik is ic mc ms sa : Nat} {A : Nat → Prop}
    (hown : s.vm.findClass own = some m.cls) (hcls : Bundle.fit cls = true) (hnames : ∀ n ∈ names, Bundle.fit n = true)
    (hk : (Cond.classLink own ik cls).before args s = true) (hini : (Cond.initialized cls).before args s = true) (hstr : vk_R own is text sa s) (hat : ∀ w ∈ vx_atS own ic cls names, w.before args s = true)
    (hgood : ∀ w ∈ Cond.classLink own ik cls :: Cond.initialized cls :: vx_atS own ic cls names, vx_ot w = true)
    (hU : vx_Zq Bundle.tN "UNASSIGNED_STACK" Bundle.steD A s s.heap) (hN : vx_Zq Bundle.tN "SUPPRESSED_SENTINEL" Bundle.listD A s s.heap) (hS : va_S A s.heap H locs) (hsize : ls.size = c.maxLocals)
    (d0 : decode cc pc = .ok (.new ik, 3)) (d3 : decode cc (pc + 3) = .ok (.dup, 1)) (d4 : decode cc (pc + 4) = .ok (.ldc is, 2)) (d6 : decode cc (pc + 6) = .ok (.invokespecial ic, 3)) (d9 : decode cc (pc + 9) = .ok (.athrow, 1))
    (hout : ∀ x ∈ c.exceptionTable.toList, covers x (pc + 9) = false)
    (hRframes : names.length + 3 < R.frames) (hRlocals : (rest.map fun v => v.category).sum + (13 * (names.length + 1) + 43) ≤ R.locals) (hRcells : cells + 1 ≤ R.cells) (hRslots : slots + 6 ≤ R.slots) (hlocks : meth.locks = false)
    (hx : ∀ t : State, s.vm.Alike t.vm → H.size ≤ t.heap.size → (∀ q : Nat, q < H.size → t.heap[q]? = H[q]?) → XC cls s t)
    (hf : ∀ z ∈ locs, free z.base) (hc : cells + 1 ≤ mc) (hs : slots + 6 ≤ ms) :
    W p l e R s m args below meth c H locs cells slots (vx_MQ below Qc XC args s mc ms free) (F0 m pc ls rest) := by
  intro T hT X
  have htr : e.platform.stackTraces = false := (show e.platform.stackTraces = l.stackTraces by rw [X.admits.platform]).trans hl
  have Y := vx_rebase X (R' := { frames := R.frames, locals := R.locals, cells := 1, slots := 6 }) (Nat.le_refl _) (Nat.le_refl _) hRcells hRslots
  obtain ⟨s', hA⟩ : ∃ z, z = (T.setVm s.vm).setFrames (.invoking m args :: below) := ⟨_, rfl⟩
  rw [← hA] at Y
  have hvm : s'.vm = s.vm := by rw [hA]; rfl
  have hhp : s'.heap = H := by rw [hA]; exact hT
  have hW0 : s.WarmedH s'.vm := by rw [hvm]; exact State.WarmedH.refl s
  have hat' : ∀ w ∈ vx_atS own ic cls names, w.before args s' = true := fun w hw => vx_ot_at hW0 hvm.symm (hgood w (List.mem_cons_of_mem _ (List.mem_cons_of_mem _ hw))) (hat w hw)
  have hk' : (Cond.classLink own ik cls).before args s' = true := vx_ot_at hW0 hvm.symm (hgood _ List.mem_cons_self) hk
  have hini' : (Cond.initialized cls).before args s' = true := vx_ot_at hW0 hvm.symm (hgood _ (List.mem_cons_of_mem _ List.mem_cons_self)) hini
  have hU' : vx_Zq Bundle.tN "UNASSIGNED_STACK" Bundle.steD A s' s'.heap := by rw [hhp]; exact vx_Zq.moved hW0.alike (hU.kept hS.2.1)
  have hN' : vx_Zq Bundle.tN "SUPPRESSED_SENTINEL" Bundle.listD A s' s'.heap := by rw [hhp]; exact vx_Zq.moved hW0.alike (hN.kept hS.2.1)
  have h : ∀ w ∈ Bundle.ownAtoms own ic cls names, w.before args s' = true := vx_own hat' (vx_isRefq hU'.1) (vx_isRefq hN'.1) hU'.2.word hN'.2.word
  have hown' : s'.vm.findClass own = some m.cls := by rw [hvm]; exact hown
  have hins : (Cond.instantiable cls 6).before args s' = true := h _ (by simp [Bundle.ownAtoms])
  obtain ⟨vm₁, cX, kX, hfX, hkX, -, -, X₁, st1⟩ := Y.newCold hexec (own := own) (C := cls) (index := ik) (n := 6) hown' hk' hins hini'
    (g := F0 m pc ls rest) rfl (by rw [hb]; exact d0) (Nat.le_refl _) (Nat.le_refl _)
  generalize hT1 : (T.setVm vm₁).pushCell { cls := cX, slots := kX.instanceTypes.map defaultValue, vm := .none } = T1 at X₁ st1
  have hcat : (Value.ref T.heap.size).category = 1 := rfl
  have hcellA : T1.heap[T.heap.size]? = some (freshCell cX kX) := by rw [← hT1]; exact State.heap_pushCell_size _ _
  have d3' : decode c.code (pc + 3) = .ok (.dup, 1) := by rw [hb]; exact d3
  have d4' : decode c.code (pc + 4) = .ok (.ldc is, 2) := by rw [hb]; exact d4
  have hstr' : vk_R own is text sa s' := vk_R.warm hW0 hstr
  obtain ⟨U, hsteps, hrun, hend, hW, hsame, ce, hce, hO⟩ := X₁.ctorThrowS hexec htr (own := own) (cls := cls) (names := names) (ic := ic) hown' hcls hnames h (fun x hx => nomatch hx) hfX hkX hcellA (by rw [hhp, hT]; exact Nat.le_refl _) (msg := .ref sa) rfl
    (g := { method := m, pc := pc + 6, locals := ls, stack := .ref sa :: .ref T.heap.size :: .ref T.heap.size :: rest, locked := none }) rfl hsize rfl rfl (rest := rest) rfl
    (by rw [hb]; exact d6) (by rw [hb]; exact d9) hout hRframes (by simp only [List.map_cons, List.sum_cons, hcat]; omega) hlocks
  obtain ⟨f1, f2⟩ := vx_frame hsame
  rw [hhp] at f1 f2
  have hWs : s.WarmedH U.vm := State.WarmedH.trans hW0 hW
  have hcl : s.vm.findClass cls = some ce.cls := by
    have h9 := hO.cls
    rw [hvm] at h9
    exact h9
  have hall : s.sameButNew ({ U with vm := s.vm } : State) locs mc ms := by
    subst hA
    obtain ⟨e1, e2⟩ := hsame
    rw [State.setFrames_setFrames] at e1
    have h2 : (T.setVm s.vm).sameButNew ({ U with vm := s.vm } : State) [] (0 + 1) (0 + 6) := ⟨e1, e2⟩
    have h3 := X.same.trans h2
    rw [List.append_nil] at h3
    exact h3.mono hc hs
  refine ⟨U, ?_, .threw T.heap.size, hrun, hend, Or.inr ⟨T.heap.size, rfl, cls, ce, locs, hx U hWs.alike f1 (fun q hq => f2 q hq (fun z hz => nomatch hz)), hce, hO.vm, hcl, hWs, hall, hf⟩⟩
  refine st1 _ ?_
  show Steps p.tables e below (T1.setTop { method := m, pc := pc + 3, locals := ls, stack := .ref T.heap.size :: rest, locked := none }) _
  jvm_step X₁.here [X₁.here.top, hexec, d3', Value.category]
  exact X₁.ldcString hexec (own := own) (text := text) (index := is) (a := sa) hown' hstr'.1 hstr'.2
    (g := { method := m, pc := pc + 4, locals := ls, stack := .ref T.heap.size :: .ref T.heap.size :: rest, locked := none }) rfl d4' _ hsteps
/-- 'throw new E("text")', the text by a wide index -/
theorem vx_throwSW {cc : ByteArray} {pc : Nat} (hexec : p.tables.exec = Jvm.exec) (hb : c.code = cc) (hl : l.stackTraces = false) {own cls text : String} {names : List String} {ik is ic mc ms sa : Nat} {A : Nat → Prop}
    (hown : s.vm.findClass own = some m.cls) (hcls : Bundle.fit cls = true) (hnames : ∀ n ∈ names, Bundle.fit n = true)
    (hk : (Cond.classLink own ik cls).before args s = true) (hini : (Cond.initialized cls).before args s = true) (hstr : vk_R own is text sa s) (hat : ∀ w ∈ vx_atS own ic cls names, w.before args s = true)
    (hgood : ∀ w ∈ Cond.classLink own ik cls :: Cond.initialized cls :: vx_atS own ic cls names, vx_ot w = true)
    (hU : vx_Zq Bundle.tN "UNASSIGNED_STACK" Bundle.steD A s s.heap) (hN : vx_Zq Bundle.tN "SUPPRESSED_SENTINEL" Bundle.listD A s s.heap) (hS : va_S A s.heap H locs) (hsize : ls.size = c.maxLocals)
    (d0 : decode cc pc = .ok (.new ik, 3)) (d3 : decode cc (pc + 3) = .ok (.dup, 1)) (d4 : decode cc (pc + 4) = .ok (.ldc_w is, 3)) (d7 : decode cc (pc + 7) = .ok (.invokespecial ic, 3)) (d10 : decode cc (pc + 10) = .ok (.athrow, 1))
    (hout : ∀ x ∈ c.exceptionTable.toList, covers x (pc + 10) = false)
    (hRframes : names.length + 3 < R.frames) (hRlocals : (rest.map fun v => v.category).sum + (13 * (names.length + 1) + 43) ≤ R.locals) (hRcells : cells + 1 ≤ R.cells) (hRslots : slots + 6 ≤ R.slots) (hlocks : meth.locks = false)
    (hx : ∀ t : State, s.vm.Alike t.vm → H.size ≤ t.heap.size → (∀ q : Nat, q < H.size → t.heap[q]? = H[q]?) → XC cls s t)
    (hf : ∀ z ∈ locs, free z.base) (hc : cells + 1 ≤ mc) (hs : slots + 6 ≤ ms) :
    W p l e R s m args below meth c H locs cells slots (vx_MQ below Qc XC args s mc ms free) (F0 m pc ls rest) := by
  intro T hT X
  have htr : e.platform.stackTraces = false := (show e.platform.stackTraces = l.stackTraces by rw [X.admits.platform]).trans hl
  have Y := vx_rebase X (R' := { frames := R.frames, locals := R.locals, cells := 1, slots := 6 }) (Nat.le_refl _) (Nat.le_refl _) hRcells hRslots
  obtain ⟨s', hA⟩ : ∃ z, z = (T.setVm s.vm).setFrames (.invoking m args :: below) := ⟨_, rfl⟩
  rw [← hA] at Y
  have hvm : s'.vm = s.vm := by rw [hA]; rfl
  have hhp : s'.heap = H := by rw [hA]; exact hT
  have hW0 : s.WarmedH s'.vm := by rw [hvm]; exact State.WarmedH.refl s
  have hat' : ∀ w ∈ vx_atS own ic cls names, w.before args s' = true := fun w hw => vx_ot_at hW0 hvm.symm (hgood w (List.mem_cons_of_mem _ (List.mem_cons_of_mem _ hw))) (hat w hw)
  have hk' : (Cond.classLink own ik cls).before args s' = true := vx_ot_at hW0 hvm.symm (hgood _ List.mem_cons_self) hk
  have hini' : (Cond.initialized cls).before args s' = true := vx_ot_at hW0 hvm.symm (hgood _ (List.mem_cons_of_mem _ List.mem_cons_self)) hini
  have hU' : vx_Zq Bundle.tN "UNASSIGNED_STACK" Bundle.steD A s' s'.heap := by rw [hhp]; exact vx_Zq.moved hW0.alike (hU.kept hS.2.1)
  have hN' : vx_Zq Bundle.tN "SUPPRESSED_SENTINEL" Bundle.listD A s' s'.heap := by rw [hhp]; exact vx_Zq.moved hW0.alike (hN.kept hS.2.1)
  have h : ∀ w ∈ Bundle.ownAtoms own ic cls names, w.before args s' = true := vx_own hat' (vx_isRefq hU'.1) (vx_isRefq hN'.1) hU'.2.word hN'.2.word
  have hown' : s'.vm.findClass own = some m.cls := by rw [hvm]; exact hown
  have hins : (Cond.instantiable cls 6).before args s' = true := h _ (by simp [Bundle.ownAtoms])
  obtain ⟨vm₁, cX, kX, hfX, hkX, -, -, X₁, st1⟩ := Y.newCold hexec (own := own) (C := cls) (index := ik) (n := 6) hown' hk' hins hini'
    (g := F0 m pc ls rest) rfl (by rw [hb]; exact d0) (Nat.le_refl _) (Nat.le_refl _)
  generalize hT1 : (T.setVm vm₁).pushCell { cls := cX, slots := kX.instanceTypes.map defaultValue, vm := .none } = T1 at X₁ st1
  have hcat : (Value.ref T.heap.size).category = 1 := rfl
  have hcellA : T1.heap[T.heap.size]? = some (freshCell cX kX) := by rw [← hT1]; exact State.heap_pushCell_size _ _
  have d3' : decode c.code (pc + 3) = .ok (.dup, 1) := by rw [hb]; exact d3
  have d4' : decode c.code (pc + 4) = .ok (.ldc_w is, 3) := by rw [hb]; exact d4
  have hstr' : vk_R own is text sa s' := vk_R.warm hW0 hstr
  obtain ⟨U, hsteps, hrun, hend, hW, hsame, ce, hce, hO⟩ := X₁.ctorThrowS hexec htr (own := own) (cls := cls) (names := names) (ic := ic) hown' hcls hnames h (fun x hx => nomatch hx) hfX hkX hcellA (by rw [hhp, hT]; exact Nat.le_refl _) (msg := .ref sa) rfl
    (g := { method := m, pc := pc + 7, locals := ls, stack := .ref sa :: .ref T.heap.size :: .ref T.heap.size :: rest, locked := none }) rfl hsize rfl rfl (rest := rest) rfl
    (by rw [hb]; exact d7) (by rw [hb]; exact d10) hout hRframes (by simp only [List.map_cons, List.sum_cons, hcat]; omega) hlocks
  obtain ⟨f1, f2⟩ := vx_frame hsame
  rw [hhp] at f1 f2
  have hWs : s.WarmedH U.vm := State.WarmedH.trans hW0 hW
  have hcl : s.vm.findClass cls = some ce.cls := by
    have h9 := hO.cls
    rw [hvm] at h9
    exact h9
  have hall : s.sameButNew ({ U with vm := s.vm } : State) locs mc ms := by
    subst hA
    obtain ⟨e1, e2⟩ := hsame
    rw [State.setFrames_setFrames] at e1
    have h2 : (T.setVm s.vm).sameButNew ({ U with vm := s.vm } : State) [] (0 + 1) (0 + 6) := ⟨e1, e2⟩
    have h3 := X.same.trans h2
    rw [List.append_nil] at h3
    exact h3.mono hc hs
  refine ⟨U, ?_, .threw T.heap.size, hrun, hend, Or.inr ⟨T.heap.size, rfl, cls, ce, locs, hx U hWs.alike f1 (fun q hq => f2 q hq (fun z hz => nomatch hz)), hce, hO.vm, hcl, hWs, hall, hf⟩⟩
  refine st1 _ ?_
  show Steps p.tables e below (T1.setTop { method := m, pc := pc + 3, locals := ls, stack := .ref T.heap.size :: rest, locked := none }) _
  jvm_step X₁.here [X₁.here.top, hexec, d3', Value.category]
  exact X₁.ldcStringW hexec (own := own) (text := text) (index := is) (a := sa) hown' hstr'.1 hstr'.2
    (g := { method := m, pc := pc + 4, locals := ls, stack := .ref T.heap.size :: .ref T.heap.size :: rest, locked := none }) rfl d4' _ hsteps
end Ends
section Bodies
variable {l : Launch}
theorem vx_ofW {y : MethodName} {ws ws' : List Cond} {rm : Room} {Pc : Array Value → State → Prop} {Qc : Array Value → State → Outcome → State → Prop} {XC : String → State → State → Prop} {mc ms : Nat} {free : Addr → Prop} {cc : ByteArray} {maxL : Nat} {ret : Option FieldType}
    (hy : plainName y.cls = true) (hw : ws = Cond.code y cc maxL ret :: ws')
    (body : ∀ p e s m args below meth c s₁, BodyLoose p l y (headSpec ws rm) cc maxL ret e s m args below meth c s₁ → c.maxLocals = maxL → (∀ x ∈ c.exceptionTable.toList, False) → Pc args s →
      W p l e (headSpec ws rm).room s m args below meth c s.heap [] 0 0 (vx_MQ below Qc XC args s mc ms free) (entryFrame m args maxL)) : vx_Met l y ws rm Pc Qc XC mc ms free := by
  refine MetFree.of_bodyS (code := cc) (maxLocals := maxL) (ret := ret) hy ?_ ?_
  · intro args s m h hn
    obtain ⟨meth, c, h1, h2, h3, h4, h5, h6, -, -⟩ := Cond.code_spec hn (atoms_spec (ws := ws) h _ (by rw [hw]; exact List.mem_cons_self))
    exact ⟨meth, c, h1, h2, h3, h4, h5, h6⟩
  · intro p e s m args below meth c s₁ B hml hP _
    have hh0 : s₁.heap = s.heap := by rw [B.state]; rfl
    have ht : ∀ x ∈ c.exceptionTable.toList, False := by
      obtain ⟨meth9, c9, h1, h2, -, -, -, -, h7, -⟩ := Cond.code_spec B.named (atoms_spec (ws := ws) B.pre _ (by rw [hw]; exact List.mem_cons_self))
      cases Option.some.inj (h1.symm.trans B.method)
      cases Option.some.inj (h2.symm.trans (Stand.of_body B).code)
      intro x hx
      rw [Array.isEmpty_iff.mp h7] at hx
      cases hx
    obtain ⟨t, a1, o, b1, b2, b3⟩ := body p e s m args below meth c s₁ B hml ht hP s₁ hh0 (Stand.of_body B)
    exact ⟨t, o, a1, b1, b2, b3⟩
/-- the table of a body with handlers -/
theorem vx_table {p : Program} {x y : MethodName} {S : Spec} {cc bytes : ByteArray} {maxL maxL' : Nat} {ret ret' : Option FieldType} {e : Env} {s s₁ : State} {m : MethodId} {args : Array Value} {below : List Frame} {meth : Method} {c : Code} {hh : List (Nat × Nat × Nat × Nat)}
    (B : BodyLoose p l y S cc maxL ret e s m args below meth c s₁) (h : (Cond.codeWith y bytes maxL' ret' hh).before args s = true) : c.exceptionTable.toList = tableOf hh := by
  obtain ⟨m9, meth9, c9, hn9, h1, h2, -, -, h6, -⟩ := Cond.codeWith_spec h
  cases Option.some.inj (hn9.symm.trans B.named)
  cases Option.some.inj (h1.symm.trans B.method)
  cases Option.some.inj (h2.symm.trans (Stand.of_body B).code)
  rw [← h6, table_eq]
end Bodies
end VXA
/-! ===== END ===== -/
/-! ===== BEGIN a static call of a method with an exception table ===== -/
section VXS
variable {p : Program} {l : Launch} {e : Env} {R : Room} {s : State} {m : MethodId} {args : Array Value} {below : List Frame} {meth : Method} {c : Code} {T : State} {H : Heap} {locs : List Loc} {cells slots : Nat}
abbrev vx_CSW (R : Room) (s : State) (args : Array Value) (own : String) (index : Nat) (y : MethodName) (bytes : ByteArray) (maxL : Nat) (ret : Option FieldType) (hh : List (Nat × Nat × Nat × Nat)) (ws : List Cond) (rm : Room) (mc ms n : Nat) : Prop :=
  (rm.cells = mc ∧ rm.slots = ms ∧ rm.frames + 1 ≤ R.frames ∧ 8 + (maxL + 11) + rm.locals ≤ R.locals ∧ (∀ w ∈ ws, ∀ (a' : Array Value) (U : State), s.WarmedH U.vm → w.before a' U = true) ∧ Cond.codeWith y bytes maxL ret hh ∈ ws) ∧
  (Cond.codeWith y bytes maxL ret hh).before args s = true ∧ (Cond.initialized y.cls).before args s = true ∧ (y.cls ≠ "java/lang/invoke/MethodHandle" ∧ y.cls ≠ "java/lang/invoke/VarHandle") ∧
  (∀ sig, parseMethodDescriptor y.desc = some sig → n = sig.parameters.length) ∧ (Cond.methodLink own index y).before args s = true ∧ (Cond.static y).before args s = true
theorem vx_cwSW {own : String} {index maxL mc ms : Nat} {y : MethodName} {bytes : ByteArray} {ret : Option FieldType} {hh : List (Nat × Nat × Nat × Nat)} {Ts ws ws' : List Cond} {rm : Room} (n : Nat) (ht : ∀ w ∈ Ts, w.before args s = true) (hT : GoodIn Ts (va_wsS own index y ws)) (hw : ws = Cond.codeWith y bytes maxL ret hh :: ws') (hrc : rm.cells = mc) (hrs : rm.slots = ms)
    (hd : y.cls ≠ "java/lang/invoke/MethodHandle" ∧ y.cls ≠ "java/lang/invoke/VarHandle" ∧ (parseMethodDescriptor y.desc).map (fun d => d.parameters.length) = some n) (hR : rm.frames + 1 ≤ R.frames ∧ 8 + (maxL + 11) + rm.locals ≤ R.locals) :
    vx_CSW R s args own index y bytes maxL ret hh ws rm mc ms n := by
  have ok : ∀ w ∈ va_wsS own index y ws, w.before args s = true := fun w h => ht w (hT w h).1
  have hG : GoodIn Ts ws := fun w h => hT w (by unfold va_wsS; exact List.mem_append_right _ h)
  have hc : Cond.codeWith y bytes maxL ret hh ∈ ws := by rw [hw]; exact List.mem_cons_self
  refine ⟨⟨hrc, hrs, hR.1, hR.2, pay_in ht hG, hc⟩, ht _ (hG _ hc).1, ok _ (by simp [va_wsS]), ⟨hd.1, hd.2.1⟩, fun sig h => ?_, ok _ (by simp [va_wsS]), ok _ (by simp [va_wsS])⟩
  have h2 := hd.2.2
  rw [h] at h2
  exact (Option.some.inj h2).symm
theorem vx_callSW (X : Stand p l e R s m args below meth c T locs cells slots) (hexec : p.tables.exec = Jvm.exec) {own : String} {index : Nat} {y : MethodName} {bytes : ByteArray} {maxL : Nat} {ret : Option FieldType} {hh : List (Nat × Nat × Nat × Nat)}
    (hown : s.vm.findClass own = some m.cls) (hlink : (Cond.methodLink own index y).before args s = true) (hstat : (Cond.static y).before args s = true) (hinit : (Cond.initialized y.cls).before args s = true)
    (hcode : (Cond.codeWith y bytes maxL ret hh).before args s = true) (hy : y.cls ≠ "java/lang/invoke/MethodHandle" ∧ y.cls ≠ "java/lang/invoke/VarHandle")
    {W9 : Nat} {Pre : Pt → Array Value → Prop} {Post : Pt → Array Value → Option Value → Pt → Prop} (hK : Back l R p e below s args y 3 W9 Pre Post)
    {g : JFrame} (hg : g.method = m) (hsize : g.locals.size = c.maxLocals) {argsL rest : List Value} (hlen : ∀ sig, parseMethodDescriptor y.desc = some sig → argsL.length = sig.parameters.length)
    (hstack : g.stack = argsL.reverse ++ rest) (hW : 2 * g.monitorRoom + (rest.map fun v => v.category).sum ≤ W9) (hdg : decode c.code g.pc = .ok (.invokestatic index, 3))
    (hpre : ∀ vm₁, s.WarmedH vm₁ → Pre ⟨T.setVm vm₁, locs, cells, slots⟩ argsL.toArray) :
    ∃ (v : Option Value) (vm₁ : Vm) (B : Pt), s.WarmedH vm₁ ∧ Stand p l e R s m args below meth c B.U B.locs B.cells B.slots ∧ Post ⟨T.setVm vm₁, locs, cells, slots⟩ argsL.toArray v B ∧
      ∀ target, Steps p.tables e below (B.U.setTop { g with pc := g.pc + 3, stack := v.toList ++ rest }) target → Steps p.tables e below (T.setTop g) target := by
  obtain ⟨mk, methM, cM, hnamed, hmethM, -, -, -, -, -, -, hsigM⟩ := Cond.codeWith_spec hcode
  have hstatic : methM.isStatic = true := Cond.static_spec hnamed hmethM hstat
  obtain ⟨kP, hkP, -⟩ := className_of_methodNamed hnamed
  have hinitP : kP.init = .initialized := Cond.initialized_spec (findClass_of_methodNamed hnamed) hkP hinit
  obtain ⟨vm₁, X₁, hstep₁⟩ := X.invokestatic hexec hown hlink hnamed hmethM hstatic hkP hinitP hy (g := g) hg (argsL := argsL) (rest := rest) (hlen _ hsigM) hstack hdg
  obtain ⟨v, B, X', hpost, hsteps⟩ := hK m meth c ⟨T.setVm vm₁, locs, cells, slots⟩ { g with stack := rest } (.invokestatic index) mk argsL.toArray X₁ hg hsize hdg hW (X₁.named hnamed) (hpre vm₁ X₁.warmed)
  exact ⟨v, vm₁, B, X₁.warmed, X', hpost, fun target h => hstep₁ _ fun acts => by rw [doInvoke_state]; exact hsteps.trans h⟩
theorem vx_runSW {y : MethodName} {bytes cc : ByteArray} {maxL nL mc ms n index : Nat} {ret : Option FieldType} {hh : List (Nat × Nat × Nat × Nat)} {ws : List Cond} {rm : Room} {Pc : Array Value → State → Prop} {Qc : Array Value → State → Outcome → State → Prop} {free : Addr → Prop} {Ts : List Cond} {own : String} {As rest : List Value} {g : JFrame}
    (S : CallFix p m c cc nL s args Ts own) (hM : Met l y ws rm Pc Qc mc ms free) (cw : vx_CSW R s args own index y bytes maxL ret hh ws rm mc ms n) (hp : PreS s H Pc As)
    (hg : g.method = m) (hn : As.length = n) (hsize : g.locals.size = nL) (hstack : g.stack = As.reverse ++ rest) (hW : 2 * g.monitorRoom + (rest.map fun v => v.category).sum ≤ 8) (hdg : decode cc g.pc = .ok (.invokestatic index, 3)) (hf : cells + mc ≤ R.cells ∧ slots + ms ≤ R.slots) :
    va_Run p l e R s m args below meth c H locs cells slots mc ms g rest (Qc As.toArray) (free) := by
  obtain ⟨⟨hrc, hrs, hfr, hlo, hws, hcw⟩, hcode, hini, hy, hlen, hl, hstt⟩ := cw
  have hK : Back l R p e below s args y 3 8 (PreOf R mc ms Pc) (PostOf Qc mc ms free) := va_backW (hh := hh) (bytes := bytes) (maxL := maxL) (ret := ret) hM hp.1 hrc hrs hfr hlo hws hcw (fun a' U hW => word_at hW (Or.inl (by first | rfl | simp [Cond.onTables, Cond.keeps, Cond.steady])) hini)
  obtain ⟨hx, hb, hml, ho, -⟩ := S
  intro T hT X
  obtain ⟨v, vm₁, ⟨U', l2, c2, s2⟩, hW₁, X', ⟨g', mk, t, L, e1, e2, hq, h1, hL, h2, h3⟩, st⟩ := vx_callSW X hx (hh := hh) (bytes := bytes) (maxL := maxL) (ret := ret) ho hl hstt hini hcode hy hK hg (hsize.trans hml.symm) (argsL := As) (rest := rest) (fun sig h => hn.trans (hlen sig h)) hstack hW (by rw [hb]; exact hdg)
    (fun vm₁ hW₁ => ⟨hf.1, hf.2, hp.2 (T.setVm vm₁) hT hW₁⟩)
  dsimp only [Pt.U, Pt.locs, Pt.cells, Pt.slots] at X' e1 e2 h1 h2 h3 st
  subst h1; subst h2; subst h3
  exact ⟨v, (T.setVm vm₁).calling g' mk As.toArray, t, U', L, hT, X', hL, e1, e2, hq, st⟩
/-- not caught here, past rows that name other classes: it goes on to the caller -/
theorem vx_outP {p : Program} {l : Launch} {e : Env} {R : Room} {s : State} {m : MethodId} {args : Array Value} {below : List Frame} {meth : Method} {c : Code} {H : Heap} {locs : List Loc} {cells slots : Nat} {free : Addr → Prop} {ls : Array Slot} {rest : List Value} {Qc : Array Value → State → Outcome → State → Prop} {XC : String → State → State → Prop}
    {pc : Nat} {own E : String} {ce : Cell} {q : Addr} {mc ms : Nat} (hown : s.vm.findClass own = some m.cls) (hlocks : meth.locks = false)
    (hpass : ∀ z ∈ c.exceptionTable.toList, covers z pc = false ∨ (z.catchType ≠ 0 ∧ ∃ nm : String, (Cond.classLink own z.catchType nm).before args s = true ∧ va_Nc E nm s)) (hcell : H[q]? = some ce) (hv : ce.vm = .none) (hcl : s.vm.findClass E = some ce.cls)
    (hx : ∀ t : State, t.heap = H → s.vm.Alike t.vm → XC E s t) (hf : ∀ z ∈ locs, free z.base) (hc : cells ≤ mc) (hs : slots ≤ ms) :
    vx_W p l e R s m args below meth c H locs cells slots (vx_MQ below Qc XC args s mc ms free) (F0 m pc ls rest) q := by
  intro T hT X
  have hpl : e.platform.magicAccessors = ({} : Platform).magicAccessors := by rw [X.admits.platform]
  obtain ⟨vm', hW', X', st⟩ := X.outThrough hlocks q (g := F0 m pc ls rest) rfl rfl rfl (cell := ce) (by rw [hT]; exact hcell) (by rw [hv]; rfl)
    (by obtain ⟨k9, h9, -⟩ := Vm.findClass_spec hcl; exact ⟨k9, h9⟩) (fun z hz => by
      rcases hpass z hz with h | ⟨hz0, nm, hl1, hn1⟩
      · exact Or.inl h
      · obtain ⟨c6, hc6, hcl6⟩ := Cond.classLink_spec hown hl1 e.platform hpl
        obtain ⟨a8, b8, h1, h2, h3⟩ := hn1
        cases Option.some.inj (h1.symm.trans hcl)
        cases Option.some.inj (h2.symm.trans hc6)
        exact Or.inr ⟨hz0, _, hcl6, h3⟩)
  obtain ⟨g₀, hfr⟩ := X'.frames_eq
  have hcell9 : ((T.setVm vm').setFrames (.throwing q :: below)).heap[q]? = some ce := by
    show T.heap[q]? = some ce
    rw [hT]; exact hcell
  have hend : Ended ((T.setVm vm').setFrames (.throwing q :: below)) below (.threw q) := State.frames_setFrames _ (State.cur_lt_of_frames hfr)
  refine ⟨(T.setVm vm').setFrames (.throwing q :: below), ?_, .threw q, X'.here.running, hend, Or.inr ⟨q, rfl, E, ce, locs, hx _ hT (X'.ends _).1.alike, hcell9, hv, hcl, (X'.ends _).1, (X'.ends _).2.mono hc hs, hf⟩⟩
  rw [X.pushThrowing_eq]
  exact st
/-- a thing of a world lies in the heap -/
theorem vx_lt {D : va_G} {cl : List vw_C} {ws : va_W} {H1 : Heap} (h : va_P D cl ws H1) {k : Nat} {q : Nat × va_E} (hk : ws[k]? = some q) : q.1 < H1.size := (h k q hk).lt
end VXS
/-! ===== END ===== -/
/-! ===== BEGIN methods with a table of their own: called by a name, returning or throwing ===== -/
section VXH
/-! vx_backW, vx_callVX, vx_callSX, vx_callVW, vx_runVW, vx_runVX, vx_runSX, vx_ofWH follow the same proofs as their sisters above (Free/Laws.lean, Shelf42/LK1.lean); vx_outP calls Shelf42/NT130.lean (outThrough). -/
section
variable {l : Launch} {R : Room} {p : Program} {e : Env} {below : List Frame} {s : State} {sargs : Array Value} {y : MethodName} {len W9 : Nat}
theorem vx_backW {ws : List Cond} {rm : Room} {Pc : Array Value → State → Prop} {Qc : Array Value → State → Outcome → State → Prop} {XC : String → State → State → Prop} {mc ms : Nat} {free : Addr → Prop} {bytes : ByteArray} {maxL : Nat} {ret : Option FieldType} {hh : List (Nat × Nat × Nat × Nat)}
    (hM : vx_Met l y ws rm Pc Qc XC mc ms free) (hblind : FrameBlind Pc) (hrc : rm.cells = mc) (hrs : rm.slots = ms)
    (hframes : rm.frames + 1 ≤ R.frames) (hlocals : W9 + (maxL + 11) + rm.locals ≤ R.locals)
    (hws : ∀ w ∈ ws, ∀ a' U, s.WarmedH U.vm → w.before a' U = true) (hcode : Cond.codeWith y bytes maxL ret hh ∈ ws) (hinit : ∀ a' U, s.WarmedH U.vm → (Cond.initialized y.cls).before a' U = true) :
    vx_Back l R p e below s sargs y len W9 (PreOf R mc ms Pc) (PostOf Qc mc ms free) (vx_Post XC mc ms free) := by
  intro m meth c A g ig mk a X hg hsize hdg hW hn hp
  have h1 : (headSpec ws rm).pre.before a A.U = true := atoms_intro fun w hw => hws w hw _ _ X.warmed
  have h2 : (Cond.codeWith y bytes maxL ret hh).before a A.U = true := hws _ hcode _ _ X.warmed
  have h3 : (Cond.initialized y.cls).before a A.U = true := hinit _ _ X.warmed
  have h4 : A.cells + (headSpec ws rm).room.cells ≤ R.cells := by rw [show (headSpec ws rm).room.cells = mc from hrc]; exact hp.1
  have h5 : A.slots + (headSpec ws rm).room.slots ≤ R.slots := by rw [show (headSpec ws rm).room.slots = ms from hrs]; exact hp.2.1
  have hPc : Pc a (A.U.calling g mk a) := hblind _ _ _ _ hp.2.2
  obtain ⟨U, Ls, c0, s0⟩ := A
  dsimp only [Pt.U, Pt.locs, Pt.cells, Pt.slots] at h1 h2 h3 h4 h5 X hn hPc ⊢
  obtain ⟨m9, methY, cY, hn9, hmY, hcY, -, hlY, -⟩ := Cond.codeWith_spec h2
  cases Option.some.inj (hn9.symm.trans hn)
  obtain ⟨kY, hkY, -⟩ := className_of_methodNamed hn
  have hinitY : kY.init = .initialized := Cond.initialized_spec (findClass_of_methodNamed hn) hkY h3
  have h : At U g.method c below := by rw [hg]; exact X.here
  have hlocals9 : W9 + (maxL + 11) + (headSpec ws rm).room.locals ≤ R.locals := hlocals
  have happ : (headSpec ws rm).appliesLoose y e.platform (U.calling g mk a) = true :=
    Spec.appliesLoose_calling (g := g) h hdg hn hkY hinitY
      (X.room_calling (g := g) (R' := (headSpec ws rm).room) hsize hmY hcY hframes (by rw [hlY]; omega) h4 h5) h1
  obtain ⟨mid, hmid⟩ := h.above
  have hfr : (U.setTop g).frames = (.java g :: mid) ++ below := by rw [State.frames_setTop' g h.top, hmid]; rfl
  obtain ⟨o, s₂, hsteps, -, hend, hq⟩ := Steps.callFree hM p X.admits X.cas X.clock (acts := []) hfr happ hPc trivial
  have hq' : vx_Q Qc XC mc ms free a (U.calling g mk a) o s₂ := hq
  rw [State.frames_setTop' g h.top] at hend
  obtain ⟨g₀, hg0⟩ := Option.isSome_iff_exists.mp h.top
  obtain ⟨r, hr⟩ := State.topJava?_eq_some.mp hg0
  have hr' : (({ U with heap := s₂.heap, slotsUsed := s₂.slotsUsed } : State).setVm s₂.vm).frames = .java g₀ :: r := hr
  rcases hq' with ⟨hqc, L, hfe, hL⟩ | ⟨q, rfl, E, ce, L, hx, hce, hcv, hcl, hW₂, hsm, hL⟩
  · obtain ⟨⟨v, rfl⟩, hW₂, e2, q2, q3, q4, q5, q6⟩ := id hfe
    have e3 : s₂ = ({ (U.calling g mk a).setFrames s₂.frames with heap := s₂.heap, slotsUsed := s₂.slotsUsed } : State).setVm s₂.vm := by
      have : s₂ = ({ s₂ with vm := (U.calling g mk a).vm } : State).setVm s₂.vm := rfl
      rw [e2] at this
      exact this
    obtain ⟨c₂, i₂, len₂, hc₂, hd₂, hf₂⟩ := hend
    have hW' : U.WarmedH s₂.vm := hW₂
    have hcc : c₂ = c := by
      have h1 : s₂.code? g.method = U.code? g.method := by
        rw [State.code?_eq, State.code?_eq, hW'.alike.method?]
      exact Option.some.inj (hc₂.symm.trans (h1.trans h.code))
    subst hcc
    have hlen : len₂ = len := by rw [hdg] at hd₂; cases hd₂; rfl
    subst hlen
    have hs₂ : s₂ = (({ U with heap := s₂.heap, slotsUsed := s₂.slotsUsed } : State).setVm s₂.vm).setTop { g with pc := g.pc + len₂, stack := v.toList ++ g.stack } := by
      refine e3.trans ?_
      rw [hf₂, State.calling_eq h.top, State.setFrames_setFrames, State.setTop_of_frames _ hr', hr]
      rfl
    have hsame : U.sameButNew ({ U with heap := s₂.heap, slotsUsed := s₂.slotsUsed } : State) L mc ms := by
      refine ⟨?_, q2, q3, q4, q5, q6⟩
      obtain ⟨t, ht, -⟩ := State.frames_cons hr
      show ({ U with heap := s₂.heap, slotsUsed := s₂.slotsUsed } : State) = { U.setFrames U.frames with heap := s₂.heap, slotsUsed := s₂.slotsUsed }
      rw [State.setFrames_self ht]
    subst hg
    refine Or.inl ⟨v, ⟨(({ U with heap := s₂.heap, slotsUsed := s₂.slotsUsed } : State).setVm s₂.vm), Ls ++ L, c0 + mc, s0 + ms⟩,
      ⟨X.admits, X.cas, X.clock, X.frames, X.room, X.hears, X.method, X.code, (X.here.setHeapUsed s₂.heap s₂.slotsUsed).setVm hW'.alike, X.tail, State.WarmedH.trans X.warmed hW', X.limits, X.bytes, X.same.trans (hsame.setVm s.vm)⟩,
      ⟨g, mk, s₂, L, rfl, rfl, hqc, rfl, hL, rfl, rfl⟩, ?_⟩
    show Steps p.tables e below _ ((({ U with heap := s₂.heap, slotsUsed := s₂.slotsUsed } : State).setVm s₂.vm).setTop { g with pc := g.pc + len₂, stack := v.toList ++ g.stack })
    rw [← hs₂]
    exact hsteps
  · obtain ⟨e2, q2, q3, q4, q5, q6⟩ := id hsm
    have e3 : s₂ = ({ (U.calling g mk a).setFrames s₂.frames with heap := s₂.heap, slotsUsed := s₂.slotsUsed } : State).setVm s₂.vm := by
      have : s₂ = ({ s₂ with vm := (U.calling g mk a).vm } : State).setVm s₂.vm := rfl
      rw [e2] at this
      exact this
    have hf₂ : s₂.frames = .throwing q :: .java g :: U.frames.tail := hend
    have hW' : U.WarmedH s₂.vm := hW₂
    have hs₂ : s₂ = ((({ U with heap := s₂.heap, slotsUsed := s₂.slotsUsed } : State).setVm s₂.vm).setTop g).pushFrame (.throwing q) := by
      refine e3.trans ?_
      rw [hf₂, State.calling_eq h.top, State.setFrames_setFrames, State.pushFrame, State.frames_setTop _ hr', State.setTop_of_frames _ hr', State.setFrames_setFrames, hr]
      rfl
    have hsame : U.sameButNew ({ U with heap := s₂.heap, slotsUsed := s₂.slotsUsed } : State) L mc ms := by
      refine ⟨?_, q2, q3, q4, q5, q6⟩
      obtain ⟨t, ht, -⟩ := State.frames_cons hr
      show ({ U with heap := s₂.heap, slotsUsed := s₂.slotsUsed } : State) = { U.setFrames U.frames with heap := s₂.heap, slotsUsed := s₂.slotsUsed }
      rw [State.setFrames_self ht]
    subst hg
    refine Or.inr ⟨q, ⟨(({ U with heap := s₂.heap, slotsUsed := s₂.slotsUsed } : State).setVm s₂.vm), Ls ++ L, c0 + mc, s0 + ms⟩,
      ⟨X.admits, X.cas, X.clock, X.frames, X.room, X.hears, X.method, X.code, (X.here.setHeapUsed s₂.heap s₂.slotsUsed).setVm hW'.alike, X.tail, State.WarmedH.trans X.warmed hW', X.limits, X.bytes, X.same.trans (hsame.setVm s.vm)⟩,
      ⟨g, mk, s₂, L, E, ce, rfl, rfl, hx, hce, hcv, hcl, rfl, hL, rfl, rfl⟩, ?_⟩
    show Steps p.tables e below _ (((({ U with heap := s₂.heap, slotsUsed := s₂.slotsUsed } : State).setVm s₂.vm).setTop g).pushFrame (.throwing q))
    rw [← hs₂]
    exact hsteps
end
variable {p : Program} {l : Launch} {e : Env} {R : Room} {s : State} {m : MethodId} {args : Array Value} {below : List Frame} {meth : Method} {c : Code} {T : State} {H : Heap} {locs : List Loc} {cells slots : Nat}
theorem vx_callVX (X : Stand p l e R s m args below meth c T locs cells slots) (hexec : p.tables.exec = Jvm.exec) {own C : String} {index : Nat} {y : MethodName} {bytes : ByteArray} {maxL : Nat} {ret : Option FieldType} {hh : List (Nat × Nat × Nat × Nat)}
    (hown : s.vm.findClass own = some m.cls) (hlink : (Cond.methodLink own index y).before args s = true) (hinst : (Cond.instanceMethod y).before args s = true) (hsel : (Cond.selects C y y).before args s = true)
    (hcode : (Cond.codeWith y bytes maxL ret hh).before args s = true) (hy : y.cls ≠ "java/lang/invoke/MethodHandle" ∧ y.cls ≠ "java/lang/invoke/VarHandle")
    {W9 : Nat} {Pre : Pt → Array Value → Prop} {Post : Pt → Array Value → Option Value → Pt → Prop} {PostX : Pt → Array Value → Addr → Pt → Prop} (hK : vx_Back l R p e below s args y 3 W9 Pre Post PostX)
    {b : Addr} {cellB : Cell} (hcell : T.heap[b]? = some cellB) (hobj : cellB.vm.isStatics = false) (hcls : s.vm.findClass C = some cellB.cls)
    {g : JFrame} (hg : g.method = m) (hsize : g.locals.size = c.maxLocals) {argsL rest : List Value} (hlen : ∀ sig, parseMethodDescriptor y.desc = some sig → argsL.length = sig.parameters.length)
    (hstack : g.stack = argsL.reverse ++ .ref b :: rest) (hW : 2 * g.monitorRoom + (rest.map fun v => v.category).sum ≤ W9) (hdg : decode c.code g.pc = .ok (.invokevirtual index, 3))
    (hpre : ∀ vm₁, s.WarmedH vm₁ → Pre ⟨T.setVm vm₁, locs, cells, slots⟩ (Value.ref b :: argsL).toArray) :
    (∃ (v : Option Value) (vm₁ : Vm) (B : Pt), s.WarmedH vm₁ ∧ Stand p l e R s m args below meth c B.U B.locs B.cells B.slots ∧ Post ⟨T.setVm vm₁, locs, cells, slots⟩ (Value.ref b :: argsL).toArray v B ∧
      ∀ target, Steps p.tables e below (B.U.setTop { g with pc := g.pc + 3, stack := v.toList ++ rest }) target → Steps p.tables e below (T.setTop g) target) ∨
    (∃ (q : Addr) (vm₁ : Vm) (B : Pt), s.WarmedH vm₁ ∧ Stand p l e R s m args below meth c B.U B.locs B.cells B.slots ∧ PostX ⟨T.setVm vm₁, locs, cells, slots⟩ (Value.ref b :: argsL).toArray q B ∧
      Steps p.tables e below (T.setTop g) ((B.U.setTop { g with stack := rest }).pushFrame (.throwing q))) := by
  obtain ⟨mk, methM, hnamed, hmethM, hstM, habM⟩ := Cond.instanceMethod_spec hinst
  obtain ⟨m8, methM', cM, hn8, hmethM', -, -, -, -, -, -, hsigM⟩ := Cond.codeWith_spec hcode
  cases Option.some.inj (hn8.symm.trans hnamed)
  cases hmethM.symm.trans hmethM'
  obtain ⟨c2, r2, m2, q1, q2, q3, q4, kP, hkP, hkPi⟩ := Cond.selects_spec hsel
  cases hcls.symm.trans q1
  cases (State.methodFound?_of_named hnamed hy).symm.trans q2
  cases hnamed.symm.trans q3
  have hselP : selectMethod e.platform s.vm cellB.cls mk = .method mk := by rw [Launch.admits_selectMethod X.admits]; exact q4
  obtain ⟨vm₁, X₁, hstep₁⟩ := X.invokevirtual hexec hown hlink hnamed hmethM hstM hkP hkPi hy (a := b) (cell := cellB) hcell
    (fun z h => by rw [h] at hobj; cases hobj) hselP hmethM habM hkP hkPi (g := g) hg (argsL := argsL) (rest := rest) (hlen _ hsigM) hstack hdg
  rcases hK m meth c ⟨T.setVm vm₁, locs, cells, slots⟩ { g with stack := rest } (.invokevirtual index) mk (Value.ref b :: argsL).toArray X₁ hg hsize hdg hW (X₁.named hnamed) (hpre vm₁ X₁.warmed) with ⟨v, B, X', hpost, hsteps⟩ | ⟨q, B, X', hpost, hsteps⟩
  · exact Or.inl ⟨v, vm₁, B, X₁.warmed, X', hpost, fun target h => hstep₁ _ fun acts => by rw [doInvoke_state]; exact hsteps.trans h⟩
  · exact Or.inr ⟨q, vm₁, B, X₁.warmed, X', hpost, hstep₁ _ fun acts => by rw [doInvoke_state]; exact hsteps⟩
theorem vx_callSX (X : Stand p l e R s m args below meth c T locs cells slots) (hexec : p.tables.exec = Jvm.exec) {own : String} {index : Nat} {y : MethodName} {bytes : ByteArray} {maxL : Nat} {ret : Option FieldType} {hh : List (Nat × Nat × Nat × Nat)}
    (hown : s.vm.findClass own = some m.cls) (hlink : (Cond.methodLink own index y).before args s = true) (hstat : (Cond.static y).before args s = true) (hinit : (Cond.initialized y.cls).before args s = true)
    (hcode : (Cond.codeWith y bytes maxL ret hh).before args s = true) (hy : y.cls ≠ "java/lang/invoke/MethodHandle" ∧ y.cls ≠ "java/lang/invoke/VarHandle")
    {W9 : Nat} {Pre : Pt → Array Value → Prop} {Post : Pt → Array Value → Option Value → Pt → Prop} {PostX : Pt → Array Value → Addr → Pt → Prop} (hK : vx_Back l R p e below s args y 3 W9 Pre Post PostX)
    {g : JFrame} (hg : g.method = m) (hsize : g.locals.size = c.maxLocals) {argsL rest : List Value} (hlen : ∀ sig, parseMethodDescriptor y.desc = some sig → argsL.length = sig.parameters.length)
    (hstack : g.stack = argsL.reverse ++ rest) (hW : 2 * g.monitorRoom + (rest.map fun v => v.category).sum ≤ W9) (hdg : decode c.code g.pc = .ok (.invokestatic index, 3))
    (hpre : ∀ vm₁, s.WarmedH vm₁ → Pre ⟨T.setVm vm₁, locs, cells, slots⟩ argsL.toArray) :
    (∃ (v : Option Value) (vm₁ : Vm) (B : Pt), s.WarmedH vm₁ ∧ Stand p l e R s m args below meth c B.U B.locs B.cells B.slots ∧ Post ⟨T.setVm vm₁, locs, cells, slots⟩ argsL.toArray v B ∧
      ∀ target, Steps p.tables e below (B.U.setTop { g with pc := g.pc + 3, stack := v.toList ++ rest }) target → Steps p.tables e below (T.setTop g) target) ∨
    (∃ (q : Addr) (vm₁ : Vm) (B : Pt), s.WarmedH vm₁ ∧ Stand p l e R s m args below meth c B.U B.locs B.cells B.slots ∧ PostX ⟨T.setVm vm₁, locs, cells, slots⟩ argsL.toArray q B ∧
      Steps p.tables e below (T.setTop g) ((B.U.setTop { g with stack := rest }).pushFrame (.throwing q))) := by
  obtain ⟨mk, methM, cM, hnamed, hmethM, -, -, -, -, -, -, hsigM⟩ := Cond.codeWith_spec hcode
  have hstatic : methM.isStatic = true := Cond.static_spec hnamed hmethM hstat
  obtain ⟨kP, hkP, -⟩ := className_of_methodNamed hnamed
  have hinitP : kP.init = .initialized := Cond.initialized_spec (findClass_of_methodNamed hnamed) hkP hinit
  obtain ⟨vm₁, X₁, hstep₁⟩ := X.invokestatic hexec hown hlink hnamed hmethM hstatic hkP hinitP hy (g := g) hg (argsL := argsL) (rest := rest) (hlen _ hsigM) hstack hdg
  rcases hK m meth c ⟨T.setVm vm₁, locs, cells, slots⟩ { g with stack := rest } (.invokestatic index) mk argsL.toArray X₁ hg hsize hdg hW (X₁.named hnamed) (hpre vm₁ X₁.warmed) with ⟨v, B, X', hpost, hsteps⟩ | ⟨q, B, X', hpost, hsteps⟩
  · exact Or.inl ⟨v, vm₁, B, X₁.warmed, X', hpost, fun target h => hstep₁ _ fun acts => by rw [doInvoke_state]; exact hsteps.trans h⟩
  · exact Or.inr ⟨q, vm₁, B, X₁.warmed, X', hpost, hstep₁ _ fun acts => by rw [doInvoke_state]; exact hsteps⟩
theorem vx_callVW (X : Stand p l e R s m args below meth c T locs cells slots) (hexec : p.tables.exec = Jvm.exec) {own C : String} {index : Nat} {y : MethodName} {bytes : ByteArray} {maxL : Nat} {ret : Option FieldType} {hh : List (Nat × Nat × Nat × Nat)}
    (hown : s.vm.findClass own = some m.cls) (hlink : (Cond.methodLink own index y).before args s = true) (hinst : (Cond.instanceMethod y).before args s = true) (hsel : (Cond.selects C y y).before args s = true)
    (hcode : (Cond.codeWith y bytes maxL ret hh).before args s = true) (hy : y.cls ≠ "java/lang/invoke/MethodHandle" ∧ y.cls ≠ "java/lang/invoke/VarHandle")
    {W9 : Nat} {Pre : Pt → Array Value → Prop} {Post : Pt → Array Value → Option Value → Pt → Prop} (hK : Back l R p e below s args y 3 W9 Pre Post)
    {b : Addr} {cellB : Cell} (hcell : T.heap[b]? = some cellB) (hobj : cellB.vm.isStatics = false) (hcls : s.vm.findClass C = some cellB.cls)
    {g : JFrame} (hg : g.method = m) (hsize : g.locals.size = c.maxLocals) {argsL rest : List Value} (hlen : ∀ sig, parseMethodDescriptor y.desc = some sig → argsL.length = sig.parameters.length)
    (hstack : g.stack = argsL.reverse ++ .ref b :: rest) (hW : 2 * g.monitorRoom + (rest.map fun v => v.category).sum ≤ W9) (hdg : decode c.code g.pc = .ok (.invokevirtual index, 3))
    (hpre : ∀ vm₁, s.WarmedH vm₁ → Pre ⟨T.setVm vm₁, locs, cells, slots⟩ (Value.ref b :: argsL).toArray) :
    ∃ (v : Option Value) (vm₁ : Vm) (B : Pt), s.WarmedH vm₁ ∧ Stand p l e R s m args below meth c B.U B.locs B.cells B.slots ∧ Post ⟨T.setVm vm₁, locs, cells, slots⟩ (Value.ref b :: argsL).toArray v B ∧
      ∀ target, Steps p.tables e below (B.U.setTop { g with pc := g.pc + 3, stack := v.toList ++ rest }) target → Steps p.tables e below (T.setTop g) target := by
  obtain ⟨mk, methM, hnamed, hmethM, hstM, habM⟩ := Cond.instanceMethod_spec hinst
  obtain ⟨m8, methM', cM, hn8, hmethM', -, -, -, -, -, -, hsigM⟩ := Cond.codeWith_spec hcode
  cases Option.some.inj (hn8.symm.trans hnamed)
  cases hmethM.symm.trans hmethM'
  obtain ⟨c2, r2, m2, q1, q2, q3, q4, kP, hkP, hkPi⟩ := Cond.selects_spec hsel
  cases hcls.symm.trans q1
  cases (State.methodFound?_of_named hnamed hy).symm.trans q2
  cases hnamed.symm.trans q3
  have hselP : selectMethod e.platform s.vm cellB.cls mk = .method mk := by rw [Launch.admits_selectMethod X.admits]; exact q4
  obtain ⟨vm₁, X₁, hstep₁⟩ := X.invokevirtual hexec hown hlink hnamed hmethM hstM hkP hkPi hy (a := b) (cell := cellB) hcell
    (fun z h => by rw [h] at hobj; cases hobj) hselP hmethM habM hkP hkPi (g := g) hg (argsL := argsL) (rest := rest) (hlen _ hsigM) hstack hdg
  obtain ⟨v, B, X', hpost, hsteps⟩ := hK m meth c ⟨T.setVm vm₁, locs, cells, slots⟩ { g with stack := rest } (.invokevirtual index) mk (Value.ref b :: argsL).toArray X₁ hg hsize hdg hW (X₁.named hnamed) (hpre vm₁ X₁.warmed)
  exact ⟨v, vm₁, B, X₁.warmed, X', hpost, fun target h => hstep₁ _ fun acts => by rw [doInvoke_state]; exact hsteps.trans h⟩
abbrev vx_CVW (R : Room) (s : State) (args : Array Value) (own C : String) (index : Nat) (y : MethodName) (bytes : ByteArray) (maxL : Nat) (ret : Option FieldType) (hh : List (Nat × Nat × Nat × Nat)) (ws : List Cond) (rm : Room) (mc ms n : Nat) : Prop :=
  (rm.cells = mc ∧ rm.slots = ms ∧ rm.frames + 1 ≤ R.frames ∧ 8 + (maxL + 11) + rm.locals ≤ R.locals ∧ (∀ w ∈ ws, ∀ (a' : Array Value) (U : State), s.WarmedH U.vm → w.before a' U = true) ∧ Cond.codeWith y bytes maxL ret hh ∈ ws) ∧
  (Cond.codeWith y bytes maxL ret hh).before args s = true ∧ (Cond.initialized y.cls).before args s = true ∧ (y.cls ≠ "java/lang/invoke/MethodHandle" ∧ y.cls ≠ "java/lang/invoke/VarHandle") ∧
  (∀ sig, parseMethodDescriptor y.desc = some sig → n = sig.parameters.length) ∧ (Cond.methodLink own index y).before args s = true ∧ (Cond.instanceMethod y).before args s = true ∧ (Cond.selects C y y).before args s = true
theorem vx_cwVW {own C : String} {index maxL mc ms : Nat} {y : MethodName} {bytes : ByteArray} {ret : Option FieldType} {hh : List (Nat × Nat × Nat × Nat)} {Ts ws ws' : List Cond} {rm : Room} (n : Nat) (ht : ∀ w ∈ Ts, w.before args s = true) (hT : GoodIn Ts (wsV own index C y ws)) (hw : ws = Cond.codeWith y bytes maxL ret hh :: ws') (hrc : rm.cells = mc) (hrs : rm.slots = ms)
    (hd : y.cls = C ∧ y.cls ≠ "java/lang/invoke/MethodHandle" ∧ y.cls ≠ "java/lang/invoke/VarHandle" ∧ (parseMethodDescriptor y.desc).map (fun d => d.parameters.length) = some n) (hR : rm.frames + 1 ≤ R.frames ∧ 8 + (maxL + 11) + rm.locals ≤ R.locals) :
    vx_CVW R s args own C index y bytes maxL ret hh ws rm mc ms n := by
  obtain ⟨hC, hd⟩ := hd
  subst hC
  have ok : ∀ w ∈ wsV own index y.cls y ws, w.before args s = true := fun w h => ht w (hT w h).1
  have hG : GoodIn Ts ws := fun w h => hT w (by unfold wsV; exact List.mem_append_right _ h)
  have hc : Cond.codeWith y bytes maxL ret hh ∈ ws := by rw [hw]; exact List.mem_cons_self
  refine ⟨⟨hrc, hrs, hR.1, hR.2, pay_in ht hG, hc⟩, ht _ (hG _ hc).1, ok _ (by simp [wsV]), ⟨hd.1, hd.2.1⟩, fun sig h => ?_, ok _ (by simp [wsV]), ok _ (by simp [wsV]), ok _ (by simp [wsV])⟩
  have h2 := hd.2.2
  rw [h] at h2
  exact (Option.some.inj h2).symm
theorem vx_runVW {y : MethodName} {bytes cc : ByteArray} {maxL nL mc ms n index : Nat} {ret : Option FieldType} {hh : List (Nat × Nat × Nat × Nat)} {ws : List Cond} {rm : Room} {Pc : Array Value → State → Prop} {Qc : Array Value → State → Outcome → State → Prop} {free : Addr → Prop} {Ts : List Cond} {own C : String} {b : Addr} {As rest : List Value} {g : JFrame}
    (S : CallFix p m c cc nL s args Ts own) (hM : Met l y ws rm Pc Qc mc ms free) (cw : vx_CVW R s args own C index y bytes maxL ret hh ws rm mc ms n) (hp : PreV s H C b Pc As)
    (hg : g.method = m) (hn : As.length = n) (hsize : g.locals.size = nL) (hstack : g.stack = As.reverse ++ .ref b :: rest) (hW : 2 * g.monitorRoom + (rest.map fun v => v.category).sum ≤ 8) (hdg : decode cc g.pc = .ok (.invokevirtual index, 3)) (hf : cells + mc ≤ R.cells ∧ slots + ms ≤ R.slots) :
    va_Run p l e R s m args below meth c H locs cells slots mc ms g rest (Qc (Value.ref b :: As).toArray) free := by
  obtain ⟨⟨hrc, hrs, hfr, hlo, hws, hcw⟩, hcode, hini, hy, hlen, hl, hin, hse⟩ := cw
  have hK : Back l R p e below s args y 3 8 (PreOf R mc ms Pc) (PostOf Qc mc ms free) := va_backW (hh := hh) (bytes := bytes) (maxL := maxL) (ret := ret) hM hp.1 hrc hrs hfr hlo hws hcw (fun a' U hW => word_at hW (Or.inl (by first | rfl | simp [Cond.onTables, Cond.keeps, Cond.steady])) hini)
  obtain ⟨hx, hb, hml, ho, -⟩ := S
  obtain ⟨-, ⟨cellB, hcB, hoB, hclB⟩, hPc⟩ := hp
  intro T hT X
  obtain ⟨v, vm₁, ⟨U', l2, c2, s2⟩, hW₁, X', ⟨g', mk, t, L, e1, e2, hq, h1, hL, h2, h3⟩, st⟩ := vx_callVW X hx (C := C) (hh := hh) (bytes := bytes) (maxL := maxL) (ret := ret) ho hl hin hse hcode hy hK (by rw [hT]; exact hcB) hoB hclB hg (hsize.trans hml.symm) (argsL := As) (rest := rest) (fun sig h => hn.trans (hlen sig h)) hstack hW (by rw [hb]; exact hdg)
    (fun vm₁ hW₁ => ⟨hf.1, hf.2, hPc (T.setVm vm₁) hT hW₁⟩)
  dsimp only [Pt.U, Pt.locs, Pt.cells, Pt.slots] at X' e1 e2 h1 h2 h3 st
  subst h1; subst h2; subst h3
  exact ⟨v, (T.setVm vm₁).calling g' mk (Value.ref b :: As).toArray, t, U', L, hT, X', hL, e1, e2, hq, st⟩
section
variable {y : MethodName} {bytes cc : ByteArray} {maxL nL mc ms n index : Nat} {ret : Option FieldType} {ws : List Cond} {rm : Room} {Pc : Array Value → State → Prop} {Qc : Array Value → State → Outcome → State → Prop} {XC : String → State → State → Prop} {free : Addr → Prop} {Ts : List Cond} {own C : String} {b : Addr} {As rest : List Value} {g : JFrame}
theorem vx_runVX {hh : List (Nat × Nat × Nat × Nat)} (S : CallFix p m c cc nL s args Ts own) (hM : vx_Met l y ws rm Pc Qc XC mc ms free) (cw : vx_CVW R s args own C index y bytes maxL ret hh ws rm mc ms n) (hp : PreV s H C b Pc As)
    (hg : g.method = m) (hn : As.length = n) (hsize : g.locals.size = nL) (hstack : g.stack = As.reverse ++ .ref b :: rest) (hW : 2 * g.monitorRoom + (rest.map fun v => v.category).sum ≤ 8) (hdg : decode cc g.pc = .ok (.invokevirtual index, 3)) (hf : cells + mc ≤ R.cells ∧ slots + ms ≤ R.slots) :
    vx_Run p l e R s m args below meth c H locs cells slots mc ms g rest (Qc (Value.ref b :: As).toArray) XC free := by
  obtain ⟨⟨hrc, hrs, hfr, hlo, hws, hcw⟩, hcode, hini, hy, hlen, hl, hin, hse⟩ := cw
  have hK : vx_Back l R p e below s args y 3 8 (PreOf R mc ms Pc) (PostOf Qc mc ms free) (vx_Post XC mc ms free) := vx_backW (hh := hh) (bytes := bytes) (maxL := maxL) (ret := ret) hM hp.1 hrc hrs hfr hlo hws hcw (fun a' U hW => word_at hW (Or.inl (by first | rfl | simp [Cond.onTables, Cond.keeps, Cond.steady])) hini)
  obtain ⟨hx, hb, hml, ho, -⟩ := S
  obtain ⟨-, ⟨cellB, hcB, hoB, hclB⟩, hPc⟩ := hp
  intro T hT X
  rcases vx_callVX X hx (C := C) (hh := hh) (bytes := bytes) (maxL := maxL) (ret := ret) ho hl hin hse hcode hy hK (by rw [hT]; exact hcB) hoB hclB hg (hsize.trans hml.symm) (argsL := As) (rest := rest) (fun sig h => hn.trans (hlen sig h)) hstack hW (by rw [hb]; exact hdg)
    (fun vm₁ hW₁ => ⟨hf.1, hf.2, hPc (T.setVm vm₁) hT hW₁⟩) with ⟨v, vm₁, ⟨U', l2, c2, s2⟩, hW₁, X', ⟨g', mk, t, L, e1, e2, hq, h1, hL, h2, h3⟩, st⟩ | ⟨q, vm₁, ⟨U', l2, c2, s2⟩, hW₁, X', ⟨g', mk, t, L, E, ce, e1, e2, hq, hce, hcv, hcl, h1, hL, h2, h3⟩, st⟩
  · dsimp only [Pt.U, Pt.locs, Pt.cells, Pt.slots] at X' e1 e2 h1 h2 h3 st
    subst h1; subst h2; subst h3
    exact Or.inl ⟨v, (T.setVm vm₁).calling g' mk (Value.ref b :: As).toArray, t, U', L, hT, X', hL, e1, e2, hq, st⟩
  · dsimp only [Pt.U, Pt.locs, Pt.cells, Pt.slots] at X' e1 e2 h1 h2 h3 st hcl
    subst h1; subst h2; subst h3
    exact Or.inr ⟨q, (T.setVm vm₁).calling g' mk (Value.ref b :: As).toArray, t, U', L, E, ce, hT, X', hL, e1, e2, hq, hce, hcv, vx_cls hW₁ hcl, st⟩
theorem vx_runSX {hh : List (Nat × Nat × Nat × Nat)} (S : CallFix p m c cc nL s args Ts own) (hM : vx_Met l y ws rm Pc Qc XC mc ms free) (cw : vx_CSW R s args own index y bytes maxL ret hh ws rm mc ms n) (hp : PreS s H Pc As)
    (hg : g.method = m) (hn : As.length = n) (hsize : g.locals.size = nL) (hstack : g.stack = As.reverse ++ rest) (hW : 2 * g.monitorRoom + (rest.map fun v => v.category).sum ≤ 8) (hdg : decode cc g.pc = .ok (.invokestatic index, 3)) (hf : cells + mc ≤ R.cells ∧ slots + ms ≤ R.slots) :
    vx_Run p l e R s m args below meth c H locs cells slots mc ms g rest (Qc As.toArray) XC free := by
  obtain ⟨⟨hrc, hrs, hfr, hlo, hws, hcw⟩, hcode, hini, hy, hlen, hl, hstt⟩ := cw
  have hK : vx_Back l R p e below s args y 3 8 (PreOf R mc ms Pc) (PostOf Qc mc ms free) (vx_Post XC mc ms free) := vx_backW (hh := hh) (bytes := bytes) (maxL := maxL) (ret := ret) hM hp.1 hrc hrs hfr hlo hws hcw (fun a' U hW => word_at hW (Or.inl (by first | rfl | simp [Cond.onTables, Cond.keeps, Cond.steady])) hini)
  obtain ⟨hx, hb, hml, ho, -⟩ := S
  intro T hT X
  rcases vx_callSX X hx (hh := hh) (bytes := bytes) (maxL := maxL) (ret := ret) ho hl hstt hini hcode hy hK hg (hsize.trans hml.symm) (argsL := As) (rest := rest) (fun sig h => hn.trans (hlen sig h)) hstack hW (by rw [hb]; exact hdg)
    (fun vm₁ hW₁ => ⟨hf.1, hf.2, hp.2 (T.setVm vm₁) hT hW₁⟩) with ⟨v, vm₁, ⟨U', l2, c2, s2⟩, hW₁, X', ⟨g', mk, t, L, e1, e2, hq, h1, hL, h2, h3⟩, st⟩ | ⟨q, vm₁, ⟨U', l2, c2, s2⟩, hW₁, X', ⟨g', mk, t, L, E, ce, e1, e2, hq, hce, hcv, hcl, h1, hL, h2, h3⟩, st⟩
  · dsimp only [Pt.U, Pt.locs, Pt.cells, Pt.slots] at X' e1 e2 h1 h2 h3 st
    subst h1; subst h2; subst h3
    exact Or.inl ⟨v, (T.setVm vm₁).calling g' mk As.toArray, t, U', L, hT, X', hL, e1, e2, hq, st⟩
  · dsimp only [Pt.U, Pt.locs, Pt.cells, Pt.slots] at X' e1 e2 h1 h2 h3 st hcl
    subst h1; subst h2; subst h3
    exact Or.inr ⟨q, (T.setVm vm₁).calling g' mk As.toArray, t, U', L, E, ce, hT, X', hL, e1, e2, hq, hce, hcv, vx_cls hW₁ hcl, st⟩
end
end VXH
theorem vx_ofWH {l : Launch} {y : MethodName} {ws ws' : List Cond} {rm : Room} {Pc : Array Value → State → Prop} {Qc : Array Value → State → Outcome → State → Prop} {XC : String → State → State → Prop} {mc ms : Nat} {free : Addr → Prop} {cc : ByteArray} {maxL : Nat} {ret : Option FieldType} {hh : List (Nat × Nat × Nat × Nat)}
    (hy : plainName y.cls = true) (hw : ws = Cond.codeWith y cc maxL ret hh :: ws')
    (body : ∀ p e s m args below meth c s₁, BodyLoose p l y (headSpec ws rm) cc maxL ret e s m args below meth c s₁ → c.maxLocals = maxL → Pc args s →
      W p l e (headSpec ws rm).room s m args below meth c s.heap [] 0 0 (vx_MQ below Qc XC args s mc ms free) (entryFrame m args maxL)) : vx_Met l y ws rm Pc Qc XC mc ms free := by
  refine MetFree.of_bodyS (code := cc) (maxLocals := maxL) (ret := ret) hy ?_ ?_
  · intro args s m h hn
    obtain ⟨m9, meth, c, hn9, h1, h2, h3, h4, -, h5, h6, -⟩ := Cond.codeWith_spec (atoms_spec (ws := ws) h _ (by rw [hw]; exact List.mem_cons_self))
    cases hn.symm.trans hn9
    exact ⟨meth, c, h1, h2, h3, h4, h5, h6⟩
  · intro p e s m args below meth c s₁ B hml hP _
    have hh0 : s₁.heap = s.heap := by rw [B.state]; rfl
    obtain ⟨t, a1, o, b1, b2, b3⟩ := body p e s m args below meth c s₁ B hml hP s₁ hh0 (Stand.of_body B)
    exact ⟨t, o, a1, b1, b2, b3⟩
/-! ===== END ===== -/
end
section
def RX0 : String := "ServiceApiary$Adapter"
def TX0 : u_T := fun k => match k with
  | 0 => ("ServiceApiary$Adapter", "from", "LServiceApiary$Version;", true)
  | 1 => ("ServiceApiary$Adapter", "to", "LServiceApiary$Version;", true)
  | 2 => ("ServiceApiary$Adapter", "adds", "I", true)
  | _ => ("ServiceApiary$Adapter", "drops", "I", true)
def tyX0 : Nat → FieldType := fun k => match k with
  | 0 => .object "ServiceApiary$Version"
  | 1 => .object "ServiceApiary$Version"
  | 2 => .int
  | _ => .int
theorem nmX0 : ∀ a, a < 4 → ∀ b, b < 4 → a ≠ b → (TX0 a).2.1 ≠ (TX0 b).2.1 := by decide +kernel
theorem tyX0_ok : ∀ k, k < 4 → parseFieldDescriptor (TX0 k).2.2.1 = some (tyX0 k) := by decide +kernel
abbrev cX0_init : ByteArray := prog_2_method_1_code
def yX0_init : MethodName := ⟨RX0, "<init>", "(LServiceApiary$Version;LServiceApiary$Version;II)V"⟩
abbrev cX0_makesOf : ByteArray := prog_2_method_2_code
def yX0_makesOf : MethodName := ⟨RX0, "makesOf", "(I)I"⟩
def RX1 : String := "ServiceApiary$Client"
def TX1 : u_T := fun k => match k with
  | 0 => ("ServiceApiary$Client", "owner", "I", true)
  | 1 => ("ServiceApiary$Client", "face", "LServiceApiary$Face;", true)
  | 2 => ("ServiceApiary$Client", "calledAt", "[I", true)
  | 3 => ("ServiceApiary$Client", "servedThisHour", "[I", true)
  | 4 => ("ServiceApiary$Client", "version", "LServiceApiary$Version;", false)
  | 5 => ("ServiceApiary$Client", "uses", "I", false)
  | 6 => ("ServiceApiary$Client", "callCount", "I", false)
  | _ => ("ServiceApiary$Client", "refusedCount", "I", false)
def tyX1 : Nat → FieldType := fun k => match k with
  | 0 => .int
  | 1 => .object "ServiceApiary$Face"
  | 2 => .array .int
  | 3 => .array .int
  | 4 => .object "ServiceApiary$Version"
  | 5 => .int
  | 6 => .int
  | _ => .int
theorem nmX1 : ∀ a, a < 8 → ∀ b, b < 8 → a ≠ b → (TX1 a).2.1 ≠ (TX1 b).2.1 := by decide +kernel
theorem tyX1_ok : ∀ k, k < 8 → parseFieldDescriptor (TX1 k).2.2.1 = some (tyX1 k) := by decide +kernel
abbrev cX1_init : ByteArray := prog_3_method_1_code
def yX1_init : MethodName := ⟨RX1, "<init>", "(ILServiceApiary$Version;I)V"⟩
abbrev cX1_calledAtOf : ByteArray := prog_3_method_2_code
def yX1_calledAtOf : MethodName := ⟨RX1, "calledAtOf", "(LServiceApiary$Version;)I"⟩
abbrev cX1_isCallerOf : ByteArray := prog_3_method_3_code
def yX1_isCallerOf : MethodName := ⟨RX1, "isCallerOf", "(LServiceApiary$Version;I)Z"⟩
abbrev cX1_servedThisHourBy : ByteArray := prog_3_method_4_code
def yX1_servedThisHourBy : MethodName := ⟨RX1, "servedThisHourBy", "(LServiceApiary$Version;)I"⟩
abbrev cX1_noteCall : ByteArray := prog_3_method_5_code
def yX1_noteCall : MethodName := ⟨RX1, "noteCall", "(IZ)V"⟩
def RX2 : String := "ServiceApiary$Face"
def TX2 : u_T := fun k => match k with
  | 0 => ("ServiceApiary$Face", "number", "I", true)
  | 1 => ("ServiceApiary$Face", "versions", "[LServiceApiary$Version;", true)
  | _ => ("ServiceApiary$Face", "count", "I", false)
def tyX2 : Nat → FieldType := fun k => match k with
  | 0 => .int
  | 1 => .array (.object "ServiceApiary$Version")
  | _ => .int
theorem nmX2 : ∀ a, a < 3 → ∀ b, b < 3 → a ≠ b → (TX2 a).2.1 ≠ (TX2 b).2.1 := by decide +kernel
theorem tyX2_ok : ∀ k, k < 3 → parseFieldDescriptor (TX2 k).2.2.1 = some (tyX2 k) := by decide +kernel
abbrev cX2_init : ByteArray := prog_4_method_1_code
def yX2_init : MethodName := ⟨RX2, "<init>", "(I)V"⟩
abbrev cX2_versionAt : ByteArray := prog_4_method_2_code
def yX2_versionAt : MethodName := ⟨RX2, "versionAt", "(I)LServiceApiary$Version;"⟩
def RX3 : String := "ServiceApiary$Retirement"
def TX3 : u_T := fun k => match k with
  | 0 => ("ServiceApiary$Retirement", "askedAt", "[I", true)
  | 1 => ("ServiceApiary$Retirement", "began", "I", false)
  | 2 => ("ServiceApiary$Retirement", "end", "I", false)
  | _ => ("ServiceApiary$Retirement", "answered", "I", false)
def tyX3 : Nat → FieldType := fun k => match k with
  | 0 => .array .int
  | 1 => .int
  | 2 => .int
  | _ => .int
theorem nmX3 : ∀ a, a < 4 → ∀ b, b < 4 → a ≠ b → (TX3 a).2.1 ≠ (TX3 b).2.1 := by decide +kernel
theorem tyX3_ok : ∀ k, k < 4 → parseFieldDescriptor (TX3 k).2.2.1 = some (tyX3 k) := by decide +kernel
abbrev cX3_init : ByteArray := prog_5_method_1_code
def yX3_init : MethodName := ⟨RX3, "<init>", "()V"⟩
abbrev cX3_start : ByteArray := prog_5_method_2_code
def yX3_start : MethodName := ⟨RX3, "start", "(II)V"⟩
abbrev cX3_clear : ByteArray := prog_5_method_3_code
def yX3_clear : MethodName := ⟨RX3, "clear", "()V"⟩
abbrev cX3_askedAtOf : ByteArray := prog_5_method_4_code
def yX3_askedAtOf : MethodName := ⟨RX3, "askedAtOf", "(I)I"⟩
abbrev cX3_ask : ByteArray := prog_5_method_5_code
def yX3_ask : MethodName := ⟨RX3, "ask", "(II)Z"⟩
abbrev cX3_hasAnswered : ByteArray := prog_5_method_6_code
def yX3_hasAnswered : MethodName := ⟨RX3, "hasAnswered", "(I)Z"⟩
abbrev cX3_isWarned : ByteArray := prog_5_method_7_code
def yX3_isWarned : MethodName := ⟨RX3, "isWarned", "(II)Z"⟩
abbrev cX3_isBrownedOut : ByteArray := prog_5_method_8_code
def yX3_isBrownedOut : MethodName := ⟨RX3, "isBrownedOut", "(I)Z"⟩
abbrev cX3_quota : ByteArray := prog_5_method_9_code
def yX3_quota : MethodName := ⟨RX3, "quota", "(I)I"⟩
def RX4 : String := "ServiceApiary$Route"
def TX4 : u_T := fun k => match k with
  | 0 => ("ServiceApiary$Route", "steps", "[I", true)
  | 1 => ("ServiceApiary$Route", "length", "I", false)
  | 2 => ("ServiceApiary$Route", "leadsTo", "I", false)
  | 3 => ("ServiceApiary$Route", "makes", "I", false)
  | _ => ("ServiceApiary$Route", "shut", "LServiceApiary$Version;", false)
def tyX4 : Nat → FieldType := fun k => match k with
  | 0 => .array .int
  | 1 => .int
  | 2 => .int
  | 3 => .int
  | _ => .object "ServiceApiary$Version"
theorem nmX4 : ∀ a, a < 5 → ∀ b, b < 5 → a ≠ b → (TX4 a).2.1 ≠ (TX4 b).2.1 := by decide +kernel
theorem tyX4_ok : ∀ k, k < 5 → parseFieldDescriptor (TX4 k).2.2.1 = some (tyX4 k) := by decide +kernel
abbrev cX4_init : ByteArray := prog_6_method_1_code
def yX4_init : MethodName := ⟨RX4, "<init>", "()V"⟩
def RX5 : String := "ServiceApiary$Version"
def TX5 : u_T := fun k => match k with
  | 0 => ("ServiceApiary$Version", "face", "LServiceApiary$Face;", true)
  | 1 => ("ServiceApiary$Version", "number", "I", true)
  | 2 => ("ServiceApiary$Version", "has", "I", true)
  | 3 => ("ServiceApiary$Version", "needs", "I", true)
  | 4 => ("ServiceApiary$Version", "retirement", "LServiceApiary$Retirement;", true)
  | 5 => ("ServiceApiary$Version", "state", "I", false)
  | 6 => ("ServiceApiary$Version", "putOffCount", "I", false)
  | 7 => ("ServiceApiary$Version", "callCount", "I", false)
  | _ => ("ServiceApiary$Version", "refusedCount", "I", false)
def tyX5 : Nat → FieldType := fun k => match k with
  | 0 => .object "ServiceApiary$Face"
  | 1 => .int
  | 2 => .int
  | 3 => .int
  | 4 => .object "ServiceApiary$Retirement"
  | 5 => .int
  | 6 => .int
  | 7 => .int
  | _ => .int
theorem nmX5 : ∀ a, a < 9 → ∀ b, b < 9 → a ≠ b → (TX5 a).2.1 ≠ (TX5 b).2.1 := by decide +kernel
theorem tyX5_ok : ∀ k, k < 9 → parseFieldDescriptor (TX5 k).2.2.1 = some (tyX5 k) := by decide +kernel
abbrev cX5_init : ByteArray := prog_7_method_1_code
def yX5_init : MethodName := ⟨RX5, "<init>", "(LServiceApiary$Face;III)V"⟩
abbrev cX5_suits : ByteArray := prog_7_method_2_code
def yX5_suits : MethodName := ⟨RX5, "suits", "(LServiceApiary$Version;)Z"⟩
abbrev cX5_usesAgain : ByteArray := prog_7_method_3_code
def yX5_usesAgain : MethodName := ⟨RX5, "usesAgain", "(I)I"⟩
def RX6 : String := "ServiceApiary"
def TX6 : u_T := fun k => match k with
  | 0 => ("ServiceApiary", "faces", "[LServiceApiary$Face;", true)
  | 1 => ("ServiceApiary", "clients", "[LServiceApiary$Client;", true)
  | 2 => ("ServiceApiary", "adapters", "[LServiceApiary$Adapter;", true)
  | 3 => ("ServiceApiary", "faceCount", "I", false)
  | 4 => ("ServiceApiary", "clientCount", "I", false)
  | 5 => ("ServiceApiary", "adapterCount", "I", false)
  | 6 => ("ServiceApiary", "now", "I", false)
  | 7 => ("ServiceApiary", "callCount", "I", false)
  | 8 => ("ServiceApiary", "refusedCount", "I", false)
  | 9 => ("ServiceApiary", "byRouteCount", "I", false)
  | 10 => ("ServiceApiary", "route", "LServiceApiary$Route;", true)
  | _ => ("ServiceApiary", "trial", "LServiceApiary$Retirement;", true)
def tyX6 : Nat → FieldType := fun k => match k with
  | 0 => .array (.object "ServiceApiary$Face")
  | 1 => .array (.object "ServiceApiary$Client")
  | 2 => .array (.object "ServiceApiary$Adapter")
  | 3 => .int
  | 4 => .int
  | 5 => .int
  | 6 => .int
  | 7 => .int
  | 8 => .int
  | 9 => .int
  | 10 => .object "ServiceApiary$Route"
  | _ => .object "ServiceApiary$Retirement"
theorem nmX6 : ∀ a, a < 12 → ∀ b, b < 12 → a ≠ b → (TX6 a).2.1 ≠ (TX6 b).2.1 := by decide +kernel
theorem tyX6_ok : ∀ k, k < 12 → parseFieldDescriptor (TX6 k).2.2.1 = some (tyX6 k) := by decide +kernel
abbrev cX6_init : ByteArray := prog_1_method_1_code
def yX6_init : MethodName := ⟨RX6, "<init>", "()V"⟩
abbrev cX6_open : ByteArray := prog_1_method_2_code
def yX6_open : MethodName := ⟨RX6, "open", "()I"⟩
abbrev cX6_publish : ByteArray := prog_1_method_3_code
def yX6_publish : MethodName := ⟨RX6, "publish", "(III)I"⟩
abbrev cX6_ofVersion : ByteArray := prog_1_method_4_code
def yX6_ofVersion : MethodName := ⟨RX6, "ofVersion", "(III)I"⟩
abbrev cX6_isCompatible : ByteArray := prog_1_method_5_code
def yX6_isCompatible : MethodName := ⟨RX6, "isCompatible", "(III)Z"⟩
abbrev cX6_client : ByteArray := prog_1_method_6_code
def yX6_client : MethodName := ⟨RX6, "client", "(IIII)I"⟩
abbrev cX6_again : ByteArray := prog_1_method_7_code
def yX6_again : MethodName := ⟨RX6, "again", "(II)I"⟩
abbrev cX6_adapter : ByteArray := prog_1_method_8_code
def yX6_adapter : MethodName := ⟨RX6, "adapter", "(IIIII)I"⟩
abbrev cX6_ofClient : ByteArray := prog_1_method_9_code
def yX6_ofClient : MethodName := ⟨RX6, "ofClient", "(II)I"⟩
abbrev cX6_routed : ByteArray := prog_1_method_10_code
def yX6_routed : MethodName := ⟨RX6, "routed", "(II)I"⟩
abbrev cX6_call : ByteArray := prog_1_method_11_code
def yX6_call : MethodName := ⟨RX6, "call", "(II)I"⟩
abbrev cX6_pass : ByteArray := prog_1_method_12_code
def yX6_pass : MethodName := ⟨RX6, "pass", "(I)I"⟩
abbrev cX6_lastCall : ByteArray := prog_1_method_13_code
def yX6_lastCall : MethodName := ⟨RX6, "lastCall", "(II)I"⟩
abbrev cX6_retire : ByteArray := prog_1_method_14_code
def yX6_retire : MethodName := ⟨RX6, "retire", "(III)I"⟩
abbrev cX6_answer : ByteArray := prog_1_method_15_code
def yX6_answer : MethodName := ⟨RX6, "answer", "(III)Z"⟩
abbrev cX6_recall : ByteArray := prog_1_method_16_code
def yX6_recall : MethodName := ⟨RX6, "recall", "(II)I"⟩
abbrev cX6_asked : ByteArray := prog_1_method_17_code
def yX6_asked : MethodName := ⟨RX6, "asked", "(III)I"⟩
abbrev cX6_many : ByteArray := prog_1_method_18_code
def yX6_many : MethodName := ⟨RX6, "many", "(I)I"⟩
abbrev cX6_servedShare : ByteArray := prog_1_method_19_code
def yX6_servedShare : MethodName := ⟨RX6, "servedShare", "()D"⟩
abbrev cX6_wouldCome : ByteArray := prog_1_method_20_code
def yX6_wouldCome : MethodName := ⟨RX6, "wouldCome", "(II)I"⟩
abbrev cX6_goneIn : ByteArray := prog_1_method_21_code
def yX6_goneIn : MethodName := ⟨RX6, "goneIn", "(II)I"⟩
abbrev cX6_wouldBreak : ByteArray := prog_1_method_22_code
def yX6_wouldBreak : MethodName := ⟨RX6, "wouldBreak", "(III)I"⟩
abbrev cX6_target : ByteArray := prog_1_method_23_code
def yX6_target : MethodName := ⟨RX6, "target", "(I)I"⟩
abbrev cX6_goneBy : ByteArray := prog_1_method_24_code
def yX6_goneBy : MethodName := ⟨RX6, "goneBy", "(III)I"⟩
abbrev cX6_digest : ByteArray := prog_1_method_25_code
def yX6_digest : MethodName := ⟨RX6, "digest", "()J"⟩
abbrev cX6_faceAt : ByteArray := prog_1_method_26_code
def yX6_faceAt : MethodName := ⟨RX6, "faceAt", "(I)LServiceApiary$Face;"⟩
abbrev cX6_versionAt : ByteArray := prog_1_method_27_code
def yX6_versionAt : MethodName := ⟨RX6, "versionAt", "(II)LServiceApiary$Version;"⟩
abbrev cX6_clientAt : ByteArray := prog_1_method_28_code
def yX6_clientAt : MethodName := ⟨RX6, "clientAt", "(I)LServiceApiary$Client;"⟩
abbrev cX6_isOwner : ByteArray := prog_1_method_29_code
def yX6_isOwner : MethodName := ⟨RX6, "isOwner", "(I)Z"⟩
abbrev cX6_isFieldSet : ByteArray := prog_1_method_30_code
def yX6_isFieldSet : MethodName := ⟨RX6, "isFieldSet", "(I)Z"⟩
abbrev cX6_isShape : ByteArray := prog_1_method_31_code
def yX6_isShape : MethodName := ⟨RX6, "isShape", "(II)Z"⟩
abbrev cX6_fits : ByteArray := prog_1_method_32_code
def yX6_fits : MethodName := ⟨RX6, "fits", "(III)Z"⟩
abbrev cX6_countSuited : ByteArray := prog_1_method_33_code
def yX6_countSuited : MethodName := ⟨RX6, "countSuited", "(LServiceApiary$Version;)I"⟩
abbrev cX6_versionFact : ByteArray := prog_1_method_34_code
def yX6_versionFact : MethodName := ⟨RX6, "versionFact", "(LServiceApiary$Version;I)I"⟩
abbrev cX6_clientFact : ByteArray := prog_1_method_35_code
def yX6_clientFact : MethodName := ⟨RX6, "clientFact", "(LServiceApiary$Client;I)I"⟩
abbrev cX6_countOf : ByteArray := prog_1_method_36_code
def yX6_countOf : MethodName := ⟨RX6, "countOf", "(I)I"⟩
abbrev cX6_countVersions : ByteArray := prog_1_method_37_code
def yX6_countVersions : MethodName := ⟨RX6, "countVersions", "(I)I"⟩
abbrev cX6_countCallers : ByteArray := prog_1_method_38_code
def yX6_countCallers : MethodName := ⟨RX6, "countCallers", "(LServiceApiary$Version;)I"⟩
abbrev cX6_countGeneratedFor : ByteArray := prog_1_method_39_code
def yX6_countGeneratedFor : MethodName := ⟨RX6, "countGeneratedFor", "(LServiceApiary$Version;)I"⟩
abbrev cX6_hoursSinceCall : ByteArray := prog_1_method_40_code
def yX6_hoursSinceCall : MethodName := ⟨RX6, "hoursSinceCall", "(LServiceApiary$Client;LServiceApiary$Version;)I"⟩
abbrev cX6_askedState : ByteArray := prog_1_method_41_code
def yX6_askedState : MethodName := ⟨RX6, "askedState", "(ILServiceApiary$Version;)I"⟩
abbrev cX6_nearestOpen : ByteArray := prog_1_method_42_code
def yX6_nearestOpen : MethodName := ⟨RX6, "nearestOpen", "(LServiceApiary$Client;)I"⟩
abbrev cX6_findOwnRoute : ByteArray := prog_1_method_43_code
def yX6_findOwnRoute : MethodName := ⟨RX6, "findOwnRoute", "(LServiceApiary$Client;)Z"⟩
abbrev cX6_findRoute : ByteArray := prog_1_method_44_code
def yX6_findRoute : MethodName := ⟨RX6, "findRoute", "(LServiceApiary$Client;LServiceApiary$Version;LServiceApiary$Version;)Z"⟩
abbrev cX6_completes : ByteArray := prog_1_method_45_code
def yX6_completes : MethodName := ⟨RX6, "completes", "(LServiceApiary$Route;[LServiceApiary$Adapter;LServiceApiary$Version;II)Z"⟩
abbrev cX6_isServedCall : ByteArray := prog_1_method_46_code
def yX6_isServedCall : MethodName := ⟨RX6, "isServedCall", "(LServiceApiary$Client;)Z"⟩
abbrev cX6_outcomeOf : ByteArray := prog_1_method_47_code
def yX6_outcomeOf : MethodName := ⟨RX6, "outcomeOf", "(LServiceApiary$Client;III)I"⟩
abbrev cX6_outcomeIn : ByteArray := prog_1_method_48_code
def yX6_outcomeIn : MethodName := ⟨RX6, "outcomeIn", "(LServiceApiary$Client;I)I"⟩
abbrev cX6_beginHour : ByteArray := prog_1_method_49_code
def yX6_beginHour : MethodName := ⟨RX6, "beginHour", "()I"⟩
abbrev cX6_isGoneAtEnd : ByteArray := prog_1_method_50_code
def yX6_isGoneAtEnd : MethodName := ⟨RX6, "isGoneAtEnd", "(LServiceApiary$Version;)Z"⟩
abbrev cX6_startRetirement : ByteArray := prog_1_method_51_code
def yX6_startRetirement : MethodName := ⟨RX6, "startRetirement", "(LServiceApiary$Version;LServiceApiary$Retirement;I)I"⟩
abbrev cX6_countHinderers : ByteArray := prog_1_method_52_code
def yX6_countHinderers : MethodName := ⟨RX6, "countHinderers", "(LServiceApiary$Version;LServiceApiary$Retirement;IZ)I"⟩
abbrev cX6_isCallerThen : ByteArray := prog_1_method_53_code
def yX6_isCallerThen : MethodName := ⟨RX6, "isCallerThen", "(LServiceApiary$Client;LServiceApiary$Version;IZ)Z"⟩
abbrev cX6_hoursTillGone : ByteArray := prog_1_method_54_code
def yX6_hoursTillGone : MethodName := ⟨RX6, "hoursTillGone", "(LServiceApiary$Version;LServiceApiary$Retirement;Z)I"⟩
abbrev cX6_hoursLeft : ByteArray := prog_1_method_55_code
def yX6_hoursLeft : MethodName := ⟨RX6, "hoursLeft", "(LServiceApiary$Version;)I"⟩
abbrev cX6_digestVersion : ByteArray := prog_1_method_56_code
def yX6_digestVersion : MethodName := ⟨RX6, "digestVersion", "(JLServiceApiary$Version;)J"⟩
abbrev cX6_digestClient : ByteArray := prog_1_method_57_code
def yX6_digestClient : MethodName := ⟨RX6, "digestClient", "(JLServiceApiary$Client;)J"⟩
def RX7 : String := "ServiceApiaryModel$Adapter"
def TX7 : u_T := fun k => match k with
  | 0 => ("ServiceApiaryModel$Adapter", "face", "I", true)
  | 1 => ("ServiceApiaryModel$Adapter", "from", "I", true)
  | 2 => ("ServiceApiaryModel$Adapter", "to", "I", true)
  | 3 => ("ServiceApiaryModel$Adapter", "adds", "I", true)
  | _ => ("ServiceApiaryModel$Adapter", "drops", "I", true)
def tyX7 : Nat → FieldType := fun k => match k with
  | 0 => .int
  | 1 => .int
  | 2 => .int
  | 3 => .int
  | _ => .int
theorem nmX7 : ∀ a, a < 5 → ∀ b, b < 5 → a ≠ b → (TX7 a).2.1 ≠ (TX7 b).2.1 := by decide +kernel
theorem tyX7_ok : ∀ k, k < 5 → parseFieldDescriptor (TX7 k).2.2.1 = some (tyX7 k) := by decide +kernel
abbrev cX7_init : ByteArray := prog_10_method_1_code
def yX7_init : MethodName := ⟨RX7, "<init>", "(IIIII)V"⟩
abbrev cX7_make : ByteArray := prog_10_method_2_code
def yX7_make : MethodName := ⟨RX7, "make", "(I)I"⟩
def RX8 : String := "ServiceApiaryModel$Call"
def TX8 : u_T := fun k => match k with
  | 0 => ("ServiceApiaryModel$Call", "client", "I", true)
  | 1 => ("ServiceApiaryModel$Call", "version", "I", true)
  | 2 => ("ServiceApiaryModel$Call", "at", "I", true)
  | _ => ("ServiceApiaryModel$Call", "came", "I", true)
def tyX8 : Nat → FieldType := fun k => match k with
  | 0 => .int
  | 1 => .int
  | 2 => .int
  | _ => .int
theorem nmX8 : ∀ a, a < 4 → ∀ b, b < 4 → a ≠ b → (TX8 a).2.1 ≠ (TX8 b).2.1 := by decide +kernel
theorem tyX8_ok : ∀ k, k < 4 → parseFieldDescriptor (TX8 k).2.2.1 = some (tyX8 k) := by decide +kernel
abbrev cX8_init : ByteArray := prog_11_method_1_code
def yX8_init : MethodName := ⟨RX8, "<init>", "(IIII)V"⟩
abbrev cX8_isServed : ByteArray := prog_11_method_2_code
def yX8_isServed : MethodName := ⟨RX8, "isServed", "()Z"⟩
def RX9 : String := "ServiceApiaryModel$Client"
def TX9 : u_T := fun k => match k with
  | 0 => ("ServiceApiaryModel$Client", "owner", "I", true)
  | 1 => ("ServiceApiaryModel$Client", "face", "I", true)
  | 2 => ("ServiceApiaryModel$Client", "version", "I", false)
  | _ => ("ServiceApiaryModel$Client", "uses", "I", false)
def tyX9 : Nat → FieldType := fun k => match k with
  | 0 => .int
  | 1 => .int
  | 2 => .int
  | _ => .int
theorem nmX9 : ∀ a, a < 4 → ∀ b, b < 4 → a ≠ b → (TX9 a).2.1 ≠ (TX9 b).2.1 := by decide +kernel
theorem tyX9_ok : ∀ k, k < 4 → parseFieldDescriptor (TX9 k).2.2.1 = some (tyX9 k) := by decide +kernel
abbrev cX9_init : ByteArray := prog_12_method_1_code
def yX9_init : MethodName := ⟨RX9, "<init>", "(IIII)V"⟩
def RX10 : String := "ServiceApiaryModel$Registry"
def TX10 : u_T := fun k => match k with
  | 0 => ("ServiceApiaryModel$Registry", "faces", "Ljava/util/ArrayList;", true)
  | 1 => ("ServiceApiaryModel$Registry", "clients", "Ljava/util/ArrayList;", true)
  | 2 => ("ServiceApiaryModel$Registry", "adapters", "Ljava/util/ArrayList;", true)
  | 3 => ("ServiceApiaryModel$Registry", "calls", "Ljava/util/ArrayList;", true)
  | _ => ("ServiceApiaryModel$Registry", "now", "I", false)
def tyX10 : Nat → FieldType := fun k => match k with
  | 0 => .object "java/util/ArrayList"
  | 1 => .object "java/util/ArrayList"
  | 2 => .object "java/util/ArrayList"
  | 3 => .object "java/util/ArrayList"
  | _ => .int
theorem nmX10 : ∀ a, a < 5 → ∀ b, b < 5 → a ≠ b → (TX10 a).2.1 ≠ (TX10 b).2.1 := by decide +kernel
theorem tyX10_ok : ∀ k, k < 5 → parseFieldDescriptor (TX10 k).2.2.1 = some (tyX10 k) := by decide +kernel
abbrev cX10_init : ByteArray := prog_13_method_1_code
def yX10_init : MethodName := ⟨RX10, "<init>", "()V"⟩
abbrev cX10_copy : ByteArray := prog_13_method_2_code
def yX10_copy : MethodName := ⟨RX10, "copy", "()LServiceApiaryModel$Registry;"⟩
abbrev cX10_of : ByteArray := prog_13_method_3_code
def yX10_of : MethodName := ⟨RX10, "of", "(II)LServiceApiaryModel$Version;"⟩
abbrev cX10_route : ByteArray := prog_13_method_4_code
def yX10_route : MethodName := ⟨RX10, "route", "(IIII)[I"⟩
abbrev cX10_route_ : ByteArray := prog_13_method_5_code
def yX10_route_ : MethodName := ⟨RX10, "route", "(LServiceApiaryModel$Client;I)[I"⟩
abbrev cX10_lastCall : ByteArray := prog_13_method_6_code
def yX10_lastCall : MethodName := ⟨RX10, "lastCall", "(II)I"⟩
abbrev cX10_isCaller : ByteArray := prog_13_method_7_code
def yX10_isCaller : MethodName := ⟨RX10, "isCaller", "(III)Z"⟩
abbrev cX10_servedNow : ByteArray := prog_13_method_8_code
def yX10_servedNow : MethodName := ⟨RX10, "servedNow", "(II)I"⟩
abbrev cX10_comes : ByteArray := prog_13_method_9_code
def yX10_comes : MethodName := ⟨RX10, "comes", "(I)I"⟩
abbrev cX10_call : ByteArray := prog_13_method_10_code
def yX10_call : MethodName := ⟨RX10, "call", "(I)Z"⟩
abbrev cX10_hinders : ByteArray := prog_13_method_11_code
def yX10_hinders : MethodName := ⟨RX10, "hinders", "(III)Z"⟩
abbrev cX10_hindering : ByteArray := prog_13_method_12_code
def yX10_hindering : MethodName := ⟨RX10, "hindering", "(II)I"⟩
abbrev cX10_retire : ByteArray := prog_13_method_13_code
def yX10_retire : MethodName := ⟨RX10, "retire", "(III)V"⟩
abbrev cX10_look : ByteArray := prog_13_method_14_code
def yX10_look : MethodName := ⟨RX10, "look", "(II)I"⟩
abbrev cX10_begin : ByteArray := prog_13_method_15_code
def yX10_begin : MethodName := ⟨RX10, "begin", "()I"⟩
abbrev cX10_touch : ByteArray := prog_13_method_16_code
def yX10_touch : MethodName := ⟨RX10, "touch", "(ILServiceApiaryModel$Version;)V"⟩
abbrev cX10_goneIn : ByteArray := prog_13_method_17_code
def yX10_goneIn : MethodName := ⟨RX10, "goneIn", "(II)I"⟩
def RX11 : String := "ServiceApiaryModel$Version"
def TX11 : u_T := fun k => match k with
  | 0 => ("ServiceApiaryModel$Version", "has", "I", true)
  | 1 => ("ServiceApiaryModel$Version", "needs", "I", true)
  | 2 => ("ServiceApiaryModel$Version", "state", "I", false)
  | 3 => ("ServiceApiaryModel$Version", "began", "I", false)
  | 4 => ("ServiceApiaryModel$Version", "end", "I", false)
  | 5 => ("ServiceApiaryModel$Version", "putOff", "I", false)
  | 6 => ("ServiceApiaryModel$Version", "askedAt", "[I", true)
  | _ => ("ServiceApiaryModel$Version", "answered", "[Z", true)
def tyX11 : Nat → FieldType := fun k => match k with
  | 0 => .int
  | 1 => .int
  | 2 => .int
  | 3 => .int
  | 4 => .int
  | 5 => .int
  | 6 => .array .int
  | _ => .array .boolean
theorem nmX11 : ∀ a, a < 8 → ∀ b, b < 8 → a ≠ b → (TX11 a).2.1 ≠ (TX11 b).2.1 := by decide +kernel
theorem tyX11_ok : ∀ k, k < 8 → parseFieldDescriptor (TX11 k).2.2.1 = some (tyX11 k) := by decide +kernel
abbrev cX11_init : ByteArray := prog_14_method_1_code
def yX11_init : MethodName := ⟨RX11, "<init>", "(II)V"⟩
abbrev cX11_copy : ByteArray := prog_14_method_2_code
def yX11_copy : MethodName := ⟨RX11, "copy", "()LServiceApiaryModel$Version;"⟩
abbrev cX11_fits : ByteArray := prog_14_method_3_code
def yX11_fits : MethodName := ⟨RX11, "fits", "(I)Z"⟩
abbrev cX11_isCompatible : ByteArray := prog_14_method_4_code
def yX11_isCompatible : MethodName := ⟨RX11, "isCompatible", "(LServiceApiaryModel$Version;)Z"⟩
abbrev cX11_ask : ByteArray := prog_14_method_5_code
def yX11_ask : MethodName := ⟨RX11, "ask", "(II)V"⟩
abbrev cX11_isWarned : ByteArray := prog_14_method_6_code
def yX11_isWarned : MethodName := ⟨RX11, "isWarned", "(II)Z"⟩
abbrev cX11_open : ByteArray := prog_14_method_7_code
def yX11_open : MethodName := ⟨RX11, "open", "()V"⟩
abbrev cX11_days : ByteArray := prog_14_method_8_code
def yX11_days : MethodName := ⟨RX11, "days", "(I)I"⟩
abbrev cX11_isBrowned : ByteArray := prog_14_method_9_code
def yX11_isBrowned : MethodName := ⟨RX11, "isBrowned", "(I)Z"⟩
abbrev cX11_quota : ByteArray := prog_14_method_10_code
def yX11_quota : MethodName := ⟨RX11, "quota", "(I)I"⟩
def RX12 : String := "ServiceApiaryModel"
def TX12 : u_T := fun k => match k with
  | 0 => ("ServiceApiaryModel", "thrown", "I", false)
  | _ => ("ServiceApiaryModel", "registry", "LServiceApiaryModel$Registry;", true)
def tyX12 : Nat → FieldType := fun k => match k with
  | 0 => .int
  | _ => .object "ServiceApiaryModel$Registry"
theorem nmX12 : ∀ a, a < 2 → ∀ b, b < 2 → a ≠ b → (TX12 a).2.1 ≠ (TX12 b).2.1 := by decide +kernel
theorem tyX12_ok : ∀ k, k < 2 → parseFieldDescriptor (TX12 k).2.2.1 = some (tyX12 k) := by decide +kernel
abbrev cX12_init : ByteArray := prog_9_method_1_code
def yX12_init : MethodName := ⟨RX12, "<init>", "()V"⟩
abbrev cX12_thrown : ByteArray := prog_9_method_2_code
def yX12_thrown : MethodName := ⟨RX12, "thrown", "()I"⟩
abbrev cX12_isIn : ByteArray := prog_9_method_3_code
def yX12_isIn : MethodName := ⟨RX12, "isIn", "(III)Z"⟩
abbrev cX12_refuse : ByteArray := prog_9_method_4_code
def yX12_refuse : MethodName := ⟨RX12, "refuse", "(ZI)Z"⟩
abbrev cX12_start : ByteArray := prog_9_method_5_code
def yX12_start : MethodName := ⟨RX12, "start", "(ZI)Z"⟩
abbrev cX12_isNoFace : ByteArray := prog_9_method_6_code
def yX12_isNoFace : MethodName := ⟨RX12, "isNoFace", "(I)Z"⟩
abbrev cX12_isNo : ByteArray := prog_9_method_7_code
def yX12_isNo : MethodName := ⟨RX12, "isNo", "(II)Z"⟩
abbrev cX12_isNoVersion : ByteArray := prog_9_method_8_code
def yX12_isNoVersion : MethodName := ⟨RX12, "isNoVersion", "(II)Z"⟩
abbrev cX12_isNoOne : ByteArray := prog_9_method_9_code
def yX12_isNoOne : MethodName := ⟨RX12, "isNoOne", "(I)Z"⟩
abbrev cX12_isNoClient : ByteArray := prog_9_method_10_code
def yX12_isNoClient : MethodName := ⟨RX12, "isNoClient", "(I)Z"⟩
abbrev cX12_isNoPair : ByteArray := prog_9_method_11_code
def yX12_isNoPair : MethodName := ⟨RX12, "isNoPair", "(II)Z"⟩
abbrev cX12_isNoSet : ByteArray := prog_9_method_12_code
def yX12_isNoSet : MethodName := ⟨RX12, "isNoSet", "(I)Z"⟩
abbrev cX12_isNoShape : ByteArray := prog_9_method_13_code
def yX12_isNoShape : MethodName := ⟨RX12, "isNoShape", "(II)Z"⟩
abbrev cX12_of : ByteArray := prog_9_method_14_code
def yX12_of : MethodName := ⟨RX12, "of", "(II)LServiceApiaryModel$Version;"⟩
abbrev cX12_open : ByteArray := prog_9_method_15_code
def yX12_open : MethodName := ⟨RX12, "open", "()I"⟩
abbrev cX12_publish : ByteArray := prog_9_method_16_code
def yX12_publish : MethodName := ⟨RX12, "publish", "(III)I"⟩
abbrev cX12_callers : ByteArray := prog_9_method_17_code
def yX12_callers : MethodName := ⟨RX12, "callers", "(II)I"⟩
abbrev cX12_calls : ByteArray := prog_9_method_18_code
def yX12_calls : MethodName := ⟨RX12, "calls", "(IIZ)I"⟩
abbrev cX12_clientsOf : ByteArray := prog_9_method_19_code
def yX12_clientsOf : MethodName := ⟨RX12, "clientsOf", "(II)I"⟩
abbrev cX12_ofVersionNow : ByteArray := prog_9_method_20_code
def yX12_ofVersionNow : MethodName := ⟨RX12, "ofVersionNow", "(III)I"⟩
abbrev cX12_ofVersion : ByteArray := prog_9_method_21_code
def yX12_ofVersion : MethodName := ⟨RX12, "ofVersion", "(III)I"⟩
abbrev cX12_isCompatible : ByteArray := prog_9_method_22_code
def yX12_isCompatible : MethodName := ⟨RX12, "isCompatible", "(III)Z"⟩
abbrev cX12_client : ByteArray := prog_9_method_23_code
def yX12_client : MethodName := ⟨RX12, "client", "(IIII)I"⟩
abbrev cX12_usesFor : ByteArray := prog_9_method_24_code
def yX12_usesFor : MethodName := ⟨RX12, "usesFor", "(LServiceApiaryModel$Client;I)I"⟩
abbrev cX12_again : ByteArray := prog_9_method_25_code
def yX12_again : MethodName := ⟨RX12, "again", "(II)I"⟩
abbrev cX12_adapter : ByteArray := prog_9_method_26_code
def yX12_adapter : MethodName := ⟨RX12, "adapter", "(IIIII)I"⟩
abbrev cX12_callsOf : ByteArray := prog_9_method_27_code
def yX12_callsOf : MethodName := ⟨RX12, "callsOf", "(IZ)I"⟩
abbrev cX12_ofClientNow : ByteArray := prog_9_method_28_code
def yX12_ofClientNow : MethodName := ⟨RX12, "ofClientNow", "(II)I"⟩
abbrev cX12_ofClient : ByteArray := prog_9_method_29_code
def yX12_ofClient : MethodName := ⟨RX12, "ofClient", "(II)I"⟩
abbrev cX12_routed : ByteArray := prog_9_method_30_code
def yX12_routed : MethodName := ⟨RX12, "routed", "(II)I"⟩
abbrev cX12_call : ByteArray := prog_9_method_31_code
def yX12_call : MethodName := ⟨RX12, "call", "(II)I"⟩
abbrev cX12_pass : ByteArray := prog_9_method_32_code
def yX12_pass : MethodName := ⟨RX12, "pass", "(I)I"⟩
abbrev cX12_lastCall : ByteArray := prog_9_method_33_code
def yX12_lastCall : MethodName := ⟨RX12, "lastCall", "(II)I"⟩
abbrev cX12_retire : ByteArray := prog_9_method_34_code
def yX12_retire : MethodName := ⟨RX12, "retire", "(III)I"⟩
abbrev cX12_isNoAsk : ByteArray := prog_9_method_35_code
def yX12_isNoAsk : MethodName := ⟨RX12, "isNoAsk", "(III)Z"⟩
abbrev cX12_answer : ByteArray := prog_9_method_36_code
def yX12_answer : MethodName := ⟨RX12, "answer", "(III)Z"⟩
abbrev cX12_recall : ByteArray := prog_9_method_37_code
def yX12_recall : MethodName := ⟨RX12, "recall", "(II)I"⟩
abbrev cX12_askedNow : ByteArray := prog_9_method_38_code
def yX12_askedNow : MethodName := ⟨RX12, "askedNow", "(III)I"⟩
abbrev cX12_asked : ByteArray := prog_9_method_39_code
def yX12_asked : MethodName := ⟨RX12, "asked", "(III)I"⟩
abbrev cX12_versionsIn : ByteArray := prog_9_method_40_code
def yX12_versionsIn : MethodName := ⟨RX12, "versionsIn", "(I)I"⟩
abbrev cX12_callsThat : ByteArray := prog_9_method_41_code
def yX12_callsThat : MethodName := ⟨RX12, "callsThat", "(II)I"⟩
abbrev cX12_count : ByteArray := prog_9_method_42_code
def yX12_count : MethodName := ⟨RX12, "count", "(I)I"⟩
abbrev cX12_many : ByteArray := prog_9_method_43_code
def yX12_many : MethodName := ⟨RX12, "many", "(I)I"⟩
abbrev cX12_servedShare : ByteArray := prog_9_method_44_code
def yX12_servedShare : MethodName := ⟨RX12, "servedShare", "()D"⟩
abbrev cX12_wouldComeNow : ByteArray := prog_9_method_45_code
def yX12_wouldComeNow : MethodName := ⟨RX12, "wouldComeNow", "(II)I"⟩
abbrev cX12_wouldCome : ByteArray := prog_9_method_46_code
def yX12_wouldCome : MethodName := ⟨RX12, "wouldCome", "(II)I"⟩
abbrev cX12_goneInNow : ByteArray := prog_9_method_47_code
def yX12_goneInNow : MethodName := ⟨RX12, "goneInNow", "(II)I"⟩
abbrev cX12_goneIn : ByteArray := prog_9_method_48_code
def yX12_goneIn : MethodName := ⟨RX12, "goneIn", "(II)I"⟩
abbrev cX12_wouldBreak : ByteArray := prog_9_method_49_code
def yX12_wouldBreak : MethodName := ⟨RX12, "wouldBreak", "(III)I"⟩
abbrev cX12_targetNow : ByteArray := prog_9_method_50_code
def yX12_targetNow : MethodName := ⟨RX12, "targetNow", "(I)I"⟩
abbrev cX12_target : ByteArray := prog_9_method_51_code
def yX12_target : MethodName := ⟨RX12, "target", "(I)I"⟩
abbrev cX12_goneBy : ByteArray := prog_9_method_52_code
def yX12_goneBy : MethodName := ⟨RX12, "goneBy", "(III)I"⟩
abbrev cX12_add : ByteArray := prog_9_method_53_code
def yX12_add : MethodName := ⟨RX12, "add", "(JJ)J"⟩
abbrev cX12_digest : ByteArray := prog_9_method_54_code
def yX12_digest : MethodName := ⟨RX12, "digest", "()J"⟩
def RJx145de : String := "java/io/Serializable"
def TJx145de : u_T := fun k => match k with
  | _ => ("", "", "", false)
def tyJx145de : Nat → FieldType := fun k => match k with
  | _ => .int
theorem nmJx145de : ∀ a, a < 0 → ∀ b, b < 0 → a ≠ b → (TJx145de a).2.1 ≠ (TJx145de b).2.1 := by decide +kernel
theorem tyJx145de_ok : ∀ k, k < 0 → parseFieldDescriptor (TJx145de k).2.2.1 = some (tyJx145de k) := by decide +kernel
def RJx8e188 : String := "java/lang/Cloneable"
def TJx8e188 : u_T := fun k => match k with
  | _ => ("", "", "", false)
def tyJx8e188 : Nat → FieldType := fun k => match k with
  | _ => .int
theorem nmJx8e188 : ∀ a, a < 0 → ∀ b, b < 0 → a ≠ b → (TJx8e188 a).2.1 ≠ (TJx8e188 b).2.1 := by decide +kernel
theorem tyJx8e188_ok : ∀ k, k < 0 → parseFieldDescriptor (TJx8e188 k).2.2.1 = some (tyJx8e188 k) := by decide +kernel
def RJ6 : String := "java/lang/Integer"
def TJ6 : u_T := fun k => match k with
  | _ => ("", "", "", false)
def tyJ6 : Nat → FieldType := fun k => match k with
  | _ => .int
theorem nmJ6 : ∀ a, a < 0 → ∀ b, b < 0 → a ≠ b → (TJ6 a).2.1 ≠ (TJ6 b).2.1 := by decide +kernel
theorem tyJ6_ok : ∀ k, k < 0 → parseFieldDescriptor (TJ6 k).2.2.1 = some (tyJ6 k) := by decide +kernel
abbrev cJ6_bitCount_0f7a4 : ByteArray := prog_21_method_49_code
def yJ6_bitCount_0f7a4 : MethodName := ⟨RJ6, "bitCount", "(I)I"⟩
def RJxab1ab : String := "java/lang/Iterable"
def TJxab1ab : u_T := fun k => match k with
  | _ => ("", "", "", false)
def tyJxab1ab : Nat → FieldType := fun k => match k with
  | _ => .int
theorem nmJxab1ab : ∀ a, a < 0 → ∀ b, b < 0 → a ≠ b → (TJxab1ab a).2.1 ≠ (TJxab1ab b).2.1 := by decide +kernel
theorem tyJxab1ab_ok : ∀ k, k < 0 → parseFieldDescriptor (TJxab1ab k).2.2.1 = some (tyJxab1ab k) := by decide +kernel
def RJ9 : String := "java/lang/Math"
def TJ9 : u_T := fun k => match k with
  | _ => ("", "", "", false)
def tyJ9 : Nat → FieldType := fun k => match k with
  | _ => .int
theorem nmJ9 : ∀ a, a < 0 → ∀ b, b < 0 → a ≠ b → (TJ9 a).2.1 ≠ (TJ9 b).2.1 := by decide +kernel
theorem tyJ9_ok : ∀ k, k < 0 → parseFieldDescriptor (TJ9 k).2.2.1 = some (tyJ9 k) := by decide +kernel
abbrev cJ9_max_7cf53 : ByteArray := prog_23_method_65_code
def yJ9_max_7cf53 : MethodName := ⟨RJ9, "max", "(II)I"⟩
abbrev cJ9_min_7cf53 : ByteArray := prog_23_method_69_code
def yJ9_min_7cf53 : MethodName := ⟨RJ9, "min", "(II)I"⟩
def RJ0 : String := "java/lang/String"
def TJ0 : u_T := fun k => match k with
  | _ => ("", "", "", false)
def tyJ0 : Nat → FieldType := fun k => match k with
  | _ => .int
theorem nmJ0 : ∀ a, a < 0 → ∀ b, b < 0 → a ≠ b → (TJ0 a).2.1 ≠ (TJ0 b).2.1 := by decide +kernel
theorem tyJ0_ok : ∀ k, k < 0 → parseFieldDescriptor (TJ0 k).2.2.1 = some (tyJ0 k) := by decide +kernel
def RJ10 : String := "java/lang/System"
def TJ10 : u_T := fun k => match k with
  | _ => ("", "", "", false)
def tyJ10 : Nat → FieldType := fun k => match k with
  | _ => .int
theorem nmJ10 : ∀ a, a < 0 → ∀ b, b < 0 → a ≠ b → (TJ10 a).2.1 ≠ (TJ10 b).2.1 := by decide +kernel
theorem tyJ10_ok : ∀ k, k < 0 → parseFieldDescriptor (TJ10 k).2.2.1 = some (tyJ10 k) := by decide +kernel
def RJxa1e45 : String := "java/util/AbstractCollection"
def TJxa1e45 : u_T := fun k => match k with
  | _ => ("", "", "", false)
def tyJxa1e45 : Nat → FieldType := fun k => match k with
  | _ => .int
theorem nmJxa1e45 : ∀ a, a < 0 → ∀ b, b < 0 → a ≠ b → (TJxa1e45 a).2.1 ≠ (TJxa1e45 b).2.1 := by decide +kernel
theorem tyJxa1e45_ok : ∀ k, k < 0 → parseFieldDescriptor (TJxa1e45 k).2.2.1 = some (tyJxa1e45 k) := by decide +kernel
abbrev cJxa1e45_init_da8c8 : ByteArray := prog_28_method_1_code
def yJxa1e45_init_da8c8 : MethodName := ⟨RJxa1e45, "<init>", "()V"⟩
def RJxc12de : String := "java/util/AbstractList"
def TJxc12de : u_T := fun k => match k with
  | _ => ("", "", "", false)
def tyJxc12de : Nat → FieldType := fun k => match k with
  | _ => .int
theorem nmJxc12de : ∀ a, a < 0 → ∀ b, b < 0 → a ≠ b → (TJxc12de a).2.1 ≠ (TJxc12de b).2.1 := by decide +kernel
theorem tyJxc12de_ok : ∀ k, k < 0 → parseFieldDescriptor (TJxc12de k).2.2.1 = some (tyJxc12de k) := by decide +kernel
abbrev cJxc12de_init_da8c8 : ByteArray := prog_29_method_1_code
def yJxc12de_init_da8c8 : MethodName := ⟨RJxc12de, "<init>", "()V"⟩
def RJx35411 : String := "java/util/ArrayList$Itr"
def TJx35411 : u_T := fun k => match k with
  | 0 => ("java/util/ArrayList$Itr", "cursor", "I", false)
  | 1 => ("java/util/ArrayList$Itr", "lastRet", "I", false)
  | 2 => ("java/util/ArrayList$Itr", "expectedModCount", "I", false)
  | _ => ("java/util/ArrayList$Itr", "this$0", "Ljava/util/ArrayList;", true)
def tyJx35411 : Nat → FieldType := fun k => match k with
  | 0 => .int
  | 1 => .int
  | 2 => .int
  | _ => .object "java/util/ArrayList"
theorem nmJx35411 : ∀ a, a < 4 → ∀ b, b < 4 → a ≠ b → (TJx35411 a).2.1 ≠ (TJx35411 b).2.1 := by decide +kernel
theorem tyJx35411_ok : ∀ k, k < 4 → parseFieldDescriptor (TJx35411 k).2.2.1 = some (tyJx35411 k) := by decide +kernel
abbrev cJx35411_init_45d68 : ByteArray := prog_31_method_1_code
def yJx35411_init_45d68 : MethodName := ⟨RJx35411, "<init>", "(Ljava/util/ArrayList;)V"⟩
abbrev cJx35411_hasNext_aae02 : ByteArray := prog_31_method_2_code
def yJx35411_hasNext_aae02 : MethodName := ⟨RJx35411, "hasNext", "()Z"⟩
abbrev cJx35411_next_0502b : ByteArray := prog_31_method_3_code
def yJx35411_next_0502b : MethodName := ⟨RJx35411, "next", "()Ljava/lang/Object;"⟩
abbrev cJx35411_checkForComodification_da8c8 : ByteArray := prog_31_method_6_code
def yJx35411_checkForComodification_da8c8 : MethodName := ⟨RJx35411, "checkForComodification", "()V"⟩
def RJx4a65c : String := "java/util/ArrayList"
def TJx4a65c : u_T := fun k => match k with
  | 0 => ("java/util/AbstractList", "modCount", "I", false)
  | 1 => ("java/util/ArrayList", "elementData", "[Ljava/lang/Object;", false)
  | _ => ("java/util/ArrayList", "size", "I", false)
def tyJx4a65c : Nat → FieldType := fun k => match k with
  | 0 => .int
  | 1 => .array (.object "java/lang/Object")
  | _ => .int
theorem nmJx4a65c : ∀ a, a < 3 → ∀ b, b < 3 → a ≠ b → (TJx4a65c a).2.1 ≠ (TJx4a65c b).2.1 := by decide +kernel
theorem tyJx4a65c_ok : ∀ k, k < 3 → parseFieldDescriptor (TJx4a65c k).2.2.1 = some (tyJx4a65c k) := by decide +kernel
abbrev cJx4a65c_init_da8c8 : ByteArray := prog_30_method_2_code
def yJx4a65c_init_da8c8 : MethodName := ⟨RJx4a65c, "<init>", "()V"⟩
abbrev cJx4a65c_grow_92f84 : ByteArray := prog_30_method_6_code
def yJx4a65c_grow_92f84 : MethodName := ⟨RJx4a65c, "grow", "(I)[Ljava/lang/Object;"⟩
abbrev cJx4a65c_grow_d5877 : ByteArray := prog_30_method_7_code
def yJx4a65c_grow_d5877 : MethodName := ⟨RJx4a65c, "grow", "()[Ljava/lang/Object;"⟩
abbrev cJx4a65c_size_8abf5 : ByteArray := prog_30_method_8_code
def yJx4a65c_size_8abf5 : MethodName := ⟨RJx4a65c, "size", "()I"⟩
abbrev cJx4a65c_isEmpty_aae02 : ByteArray := prog_30_method_9_code
def yJx4a65c_isEmpty_aae02 : MethodName := ⟨RJx4a65c, "isEmpty", "()Z"⟩
abbrev cJx4a65c_toArray_d5877 : ByteArray := prog_30_method_16_code
def yJx4a65c_toArray_d5877 : MethodName := ⟨RJx4a65c, "toArray", "()[Ljava/lang/Object;"⟩
abbrev cJx4a65c_elementData_915e3 : ByteArray := prog_30_method_18_code
def yJx4a65c_elementData_915e3 : MethodName := ⟨RJx4a65c, "elementData", "(I)Ljava/lang/Object;"⟩
abbrev cJx4a65c_get_915e3 : ByteArray := prog_30_method_20_code
def yJx4a65c_get_915e3 : MethodName := ⟨RJx4a65c, "get", "(I)Ljava/lang/Object;"⟩
abbrev cJx4a65c_add_72be8 : ByteArray := prog_30_method_24_code
def yJx4a65c_add_72be8 : MethodName := ⟨RJx4a65c, "add", "(Ljava/lang/Object;[Ljava/lang/Object;I)V"⟩
abbrev cJx4a65c_add_9ea2d : ByteArray := prog_30_method_25_code
def yJx4a65c_add_9ea2d : MethodName := ⟨RJx4a65c, "add", "(Ljava/lang/Object;)Z"⟩
abbrev cJx4a65c_addAll_f0b43 : ByteArray := prog_30_method_41_code
def yJx4a65c_addAll_f0b43 : MethodName := ⟨RJx4a65c, "addAll", "(Ljava/util/Collection;)Z"⟩
abbrev cJx4a65c_iterator_32c93 : ByteArray := prog_30_method_55_code
def yJx4a65c_iterator_32c93 : MethodName := ⟨RJx4a65c, "iterator", "()Ljava/util/Iterator;"⟩
def RJ7 : String := "java/util/Arrays"
def TJ7 : u_T := fun k => match k with
  | _ => ("", "", "", false)
def tyJ7 : Nat → FieldType := fun k => match k with
  | _ => .int
theorem nmJ7 : ∀ a, a < 0 → ∀ b, b < 0 → a ≠ b → (TJ7 a).2.1 ≠ (TJ7 b).2.1 := by decide +kernel
theorem tyJ7_ok : ∀ k, k < 0 → parseFieldDescriptor (TJ7 k).2.2.1 = some (tyJ7 k) := by decide +kernel
abbrev cJ7_fill_53178 : ByteArray := prog_32_method_103_code
def yJ7_fill_53178 : MethodName := ⟨RJ7, "fill", "([II)V"⟩
abbrev cJ7_copyOf_1904c : ByteArray := prog_32_method_119_code
def yJ7_copyOf_1904c : MethodName := ⟨RJ7, "copyOf", "([Ljava/lang/Object;I)[Ljava/lang/Object;"⟩
abbrev cJ7_copyOf_6403c : ByteArray := prog_32_method_120_code
def yJ7_copyOf_6403c : MethodName := ⟨RJ7, "copyOf", "([Ljava/lang/Object;ILjava/lang/Class;)[Ljava/lang/Object;"⟩
def RJx5ef63 : String := "java/util/Collection"
def TJx5ef63 : u_T := fun k => match k with
  | _ => ("", "", "", false)
def tyJx5ef63 : Nat → FieldType := fun k => match k with
  | _ => .int
theorem nmJx5ef63 : ∀ a, a < 0 → ∀ b, b < 0 → a ≠ b → (TJx5ef63 a).2.1 ≠ (TJx5ef63 b).2.1 := by decide +kernel
theorem tyJx5ef63_ok : ∀ k, k < 0 → parseFieldDescriptor (TJx5ef63 k).2.2.1 = some (tyJx5ef63 k) := by decide +kernel
def RJx4d0d8 : String := "java/util/Iterator"
def TJx4d0d8 : u_T := fun k => match k with
  | _ => ("", "", "", false)
def tyJx4d0d8 : Nat → FieldType := fun k => match k with
  | _ => .int
theorem nmJx4d0d8 : ∀ a, a < 0 → ∀ b, b < 0 → a ≠ b → (TJx4d0d8 a).2.1 ≠ (TJx4d0d8 b).2.1 := by decide +kernel
theorem tyJx4d0d8_ok : ∀ k, k < 0 → parseFieldDescriptor (TJx4d0d8 k).2.2.1 = some (tyJx4d0d8 k) := by decide +kernel
def RJxbd725 : String := "java/util/List"
def TJxbd725 : u_T := fun k => match k with
  | _ => ("", "", "", false)
def tyJxbd725 : Nat → FieldType := fun k => match k with
  | _ => .int
theorem nmJxbd725 : ∀ a, a < 0 → ∀ b, b < 0 → a ≠ b → (TJxbd725 a).2.1 ≠ (TJxbd725 b).2.1 := by decide +kernel
theorem tyJxbd725_ok : ∀ k, k < 0 → parseFieldDescriptor (TJxbd725 k).2.2.1 = some (tyJxbd725 k) := by decide +kernel
def RJ15 : String := "java/util/Objects"
def TJ15 : u_T := fun k => match k with
  | _ => ("", "", "", false)
def tyJ15 : Nat → FieldType := fun k => match k with
  | _ => .int
theorem nmJ15 : ∀ a, a < 0 → ∀ b, b < 0 → a ≠ b → (TJ15 a).2.1 ≠ (TJ15 b).2.1 := by decide +kernel
theorem tyJ15_ok : ∀ k, k < 0 → parseFieldDescriptor (TJ15 k).2.2.1 = some (tyJ15 k) := by decide +kernel
abbrev cJ15_checkIndex_7cf53 : ByteArray := prog_36_method_17_code
def yJ15_checkIndex_7cf53 : MethodName := ⟨RJ15, "checkIndex", "(II)I"⟩
def RJxf0a74 : String := "java/util/RandomAccess"
def TJxf0a74 : u_T := fun k => match k with
  | _ => ("", "", "", false)
def tyJxf0a74 : Nat → FieldType := fun k => match k with
  | _ => .int
theorem nmJxf0a74 : ∀ a, a < 0 → ∀ b, b < 0 → a ≠ b → (TJxf0a74 a).2.1 ≠ (TJxf0a74 b).2.1 := by decide +kernel
theorem tyJxf0a74_ok : ∀ k, k < 0 → parseFieldDescriptor (TJxf0a74 k).2.2.1 = some (tyJxf0a74 k) := by decide +kernel
def RJxa66e6 : String := "java/util/SequencedCollection"
def TJxa66e6 : u_T := fun k => match k with
  | _ => ("", "", "", false)
def tyJxa66e6 : Nat → FieldType := fun k => match k with
  | _ => .int
theorem nmJxa66e6 : ∀ a, a < 0 → ∀ b, b < 0 → a ≠ b → (TJxa66e6 a).2.1 ≠ (TJxa66e6 b).2.1 := by decide +kernel
theorem tyJxa66e6_ok : ∀ k, k < 0 → parseFieldDescriptor (TJxa66e6 k).2.2.1 = some (tyJxa66e6 k) := by decide +kernel
def RJ8 : String := "jdk/internal/util/ArraysSupport"
def TJ8 : u_T := fun k => match k with
  | _ => ("", "", "", false)
def tyJ8 : Nat → FieldType := fun k => match k with
  | _ => .int
theorem nmJ8 : ∀ a, a < 0 → ∀ b, b < 0 → a ≠ b → (TJ8 a).2.1 ≠ (TJ8 b).2.1 := by decide +kernel
theorem tyJ8_ok : ∀ k, k < 0 → parseFieldDescriptor (TJ8 k).2.2.1 = some (tyJ8 k) := by decide +kernel
abbrev cJ8_newLength_cabcc : ByteArray := prog_39_method_27_code
def yJ8_newLength_cabcc : MethodName := ⟨RJ8, "newLength", "(III)I"⟩
abbrev cJ8_hugeLength_7cf53 : ByteArray := prog_39_method_28_code
def yJ8_hugeLength_7cf53 : MethodName := ⟨RJ8, "hugeLength", "(II)I"⟩
def RJ3 : String := "jdk/internal/util/Preconditions"
def TJ3 : u_T := fun k => match k with
  | _ => ("", "", "", false)
def tyJ3 : Nat → FieldType := fun k => match k with
  | _ => .int
theorem nmJ3 : ∀ a, a < 0 → ∀ b, b < 0 → a ≠ b → (TJ3 a).2.1 ≠ (TJ3 b).2.1 := by decide +kernel
theorem tyJ3_ok : ∀ k, k < 0 → parseFieldDescriptor (TJ3 k).2.2.1 = some (tyJ3 k) := by decide +kernel
abbrev cJ3_checkIndex_8e157 : ByteArray := prog_40_method_11_code
def yJ3_checkIndex_8e157 : MethodName := ⟨RJ3, "checkIndex", "(IILjava/util/function/BiFunction;)I"⟩
def RL : String := "ServiceApiaryLaw"
abbrev cL_open : ByteArray := method_3_code
def yL_open : MethodName := ⟨RL, "open", "(LServiceApiary;[J)I"⟩
abbrev cL_publish : ByteArray := method_4_code
def yL_publish : MethodName := ⟨RL, "publish", "(LServiceApiary;III[J)I"⟩
abbrev cL_ofVersion : ByteArray := method_5_code
def yL_ofVersion : MethodName := ⟨RL, "ofVersion", "(LServiceApiary;III[J)I"⟩
abbrev cL_isCompatible : ByteArray := method_6_code
def yL_isCompatible : MethodName := ⟨RL, "isCompatible", "(LServiceApiary;III[J)I"⟩
abbrev cL_client : ByteArray := method_7_code
def yL_client : MethodName := ⟨RL, "client", "(LServiceApiary;IIII[J)I"⟩
abbrev cL_again : ByteArray := method_8_code
def yL_again : MethodName := ⟨RL, "again", "(LServiceApiary;II[J)I"⟩
abbrev cL_adapter : ByteArray := method_9_code
def yL_adapter : MethodName := ⟨RL, "adapter", "(LServiceApiary;IIIII[J)I"⟩
abbrev cL_ofClient : ByteArray := method_10_code
def yL_ofClient : MethodName := ⟨RL, "ofClient", "(LServiceApiary;II[J)I"⟩
abbrev cL_routed : ByteArray := method_11_code
def yL_routed : MethodName := ⟨RL, "routed", "(LServiceApiary;II[J)I"⟩
abbrev cL_call : ByteArray := method_12_code
def yL_call : MethodName := ⟨RL, "call", "(LServiceApiary;II[J)I"⟩
abbrev cL_pass : ByteArray := method_13_code
def yL_pass : MethodName := ⟨RL, "pass", "(LServiceApiary;I[J)I"⟩
abbrev cL_lastCall : ByteArray := method_14_code
def yL_lastCall : MethodName := ⟨RL, "lastCall", "(LServiceApiary;II[J)I"⟩
abbrev cL_retire : ByteArray := method_15_code
def yL_retire : MethodName := ⟨RL, "retire", "(LServiceApiary;III[J)I"⟩
abbrev cL_answer : ByteArray := method_16_code
def yL_answer : MethodName := ⟨RL, "answer", "(LServiceApiary;III[J)I"⟩
abbrev cL_recall : ByteArray := method_17_code
def yL_recall : MethodName := ⟨RL, "recall", "(LServiceApiary;II[J)I"⟩
abbrev cL_asked : ByteArray := method_18_code
def yL_asked : MethodName := ⟨RL, "asked", "(LServiceApiary;III[J)I"⟩
abbrev cL_many : ByteArray := method_19_code
def yL_many : MethodName := ⟨RL, "many", "(LServiceApiary;I[J)I"⟩
abbrev cL_wouldCome : ByteArray := method_20_code
def yL_wouldCome : MethodName := ⟨RL, "wouldCome", "(LServiceApiary;II[J)I"⟩
abbrev cL_goneIn : ByteArray := method_21_code
def yL_goneIn : MethodName := ⟨RL, "goneIn", "(LServiceApiary;II[J)I"⟩
abbrev cL_wouldBreak : ByteArray := method_22_code
def yL_wouldBreak : MethodName := ⟨RL, "wouldBreak", "(LServiceApiary;III[J)I"⟩
abbrev cL_target : ByteArray := method_23_code
def yL_target : MethodName := ⟨RL, "target", "(LServiceApiary;I[J)I"⟩
abbrev cL_goneBy : ByteArray := method_24_code
def yL_goneBy : MethodName := ⟨RL, "goneBy", "(LServiceApiary;III[J)I"⟩
abbrev cL_law : ByteArray := code
def yL_law : MethodName := ⟨RL, "law", "([I)Z"⟩
abbrev vwC1 : List vw_C := [(RJx35411, TJx35411, 4), (RJx4a65c, TJx4a65c, 3), (RX2, TX2, 3), (RX3, TX3, 4), (RX4, TX4, 5), (RX6, TX6, 12), (RX10, TX10, 5), (RX12, TX12, 2)]
end
section
/-! the words that a program's rows rest on: those of the tables that the tables alone decide -/
def xTs : List Cond := lw_tbl.filter goodWord
theorem xTs_1 {w : Cond} {i : Nat} (h : tables_1_1[i]? = some w) (g : goodWord w = true) : w ∈ xTs := List.mem_filter.mpr ⟨List.mem_append_right _ (List.mem_append_left _ (List.mem_of_getElem? h)), g⟩
theorem xTs_2 {w : Cond} {i : Nat} (h : tables_1_2[i]? = some w) (g : goodWord w = true) : w ∈ xTs := List.mem_filter.mpr ⟨List.mem_append_right _ (List.mem_append_right _ (List.mem_append_left _ (List.mem_of_getElem? h))), g⟩
theorem xTs_3 {w : Cond} {i : Nat} (h : tables_1_3[i]? = some w) (g : goodWord w = true) : w ∈ xTs := List.mem_filter.mpr ⟨List.mem_append_right _ (List.mem_append_right _ (List.mem_append_right _ (List.mem_append_left _ (List.mem_of_getElem? h)))), g⟩
theorem xTs_4 {w : Cond} {i : Nat} (h : tables_1_4[i]? = some w) (g : goodWord w = true) : w ∈ xTs := List.mem_filter.mpr ⟨List.mem_append_right _ (List.mem_append_right _ (List.mem_append_right _ (List.mem_append_right _ (List.mem_append_left _ (List.mem_of_getElem? h))))), g⟩
theorem xTs_5 {w : Cond} {i : Nat} (h : tables_1_5[i]? = some w) (g : goodWord w = true) : w ∈ xTs := List.mem_filter.mpr ⟨List.mem_append_right _ (List.mem_append_right _ (List.mem_append_right _ (List.mem_append_right _ (List.mem_append_right _ (List.mem_append_left _ (List.mem_of_getElem? h)))))), g⟩
theorem xTs_6 {w : Cond} {i : Nat} (h : tables_1_6[i]? = some w) (g : goodWord w = true) : w ∈ xTs := List.mem_filter.mpr ⟨List.mem_append_right _ (List.mem_append_right _ (List.mem_append_right _ (List.mem_append_right _ (List.mem_append_right _ (List.mem_append_right _ (List.mem_append_left _ (List.mem_of_getElem? h))))))), g⟩
theorem xTs_7 {w : Cond} {i : Nat} (h : tables_1_7[i]? = some w) (g : goodWord w = true) : w ∈ xTs := List.mem_filter.mpr ⟨List.mem_append_right _ (List.mem_append_right _ (List.mem_append_right _ (List.mem_append_right _ (List.mem_append_right _ (List.mem_append_right _ (List.mem_append_right _ (List.mem_of_getElem? h))))))), g⟩
theorem xTs_0 {w : Cond} {i : Nat} (h : (k2_sels lw_privs)[i]? = some w) (g : goodWord w = true) : w ∈ xTs := List.mem_filter.mpr ⟨List.mem_append_left _ (List.mem_of_getElem? h), g⟩
theorem xTs_sub : ∀ w ∈ xTs, w ∈ lw_tbl := fun w h => (List.mem_filter.mp h).1
theorem xTs_good : GoodIn xTs xTs := fun w h => ⟨h, good_of_word (List.mem_filter.mp h).2⟩
def yIt : MethodName := ⟨"java/util/Iterator", "hasNext", "()Z"⟩
set_option maxRecDepth 20000 in
theorem q0 : (Cond.initialized RL) ∈ xTs := xTs_1 (i := 0) rfl rfl
set_option maxRecDepth 20000 in
theorem q1 : (Cond.initialized RX6) ∈ xTs := xTs_1 (i := 1) rfl rfl
set_option maxRecDepth 20000 in
theorem q2 : (Cond.initialized RX4) ∈ xTs := xTs_1 (i := 2) rfl rfl
set_option maxRecDepth 20000 in
theorem q3 : (Cond.initialized RX3) ∈ xTs := xTs_1 (i := 3) rfl rfl
set_option maxRecDepth 20000 in
theorem q4 : (Cond.initialized RJ7) ∈ xTs := xTs_1 (i := 4) rfl rfl
set_option maxRecDepth 20000 in
theorem q5 : (Cond.initialized RX12) ∈ xTs := xTs_1 (i := 5) rfl rfl
set_option maxRecDepth 20000 in
theorem q6 : (Cond.initialized RX10) ∈ xTs := xTs_1 (i := 6) rfl rfl
set_option maxRecDepth 20000 in
theorem q7 : (Cond.initialized RJxa1e45) ∈ xTs := xTs_1 (i := 7) rfl rfl
set_option maxRecDepth 20000 in
theorem q8 : (Cond.initialized RJxc12de) ∈ xTs := xTs_1 (i := 8) rfl rfl
set_option maxRecDepth 20000 in
theorem q9 : (Cond.initialized RJx4a65c) ∈ xTs := xTs_1 (i := 9) rfl rfl
set_option maxRecDepth 20000 in
theorem q10 : (Cond.initialized "java/lang/Throwable") ∈ xTs := xTs_1 (i := 10) rfl rfl
set_option maxRecDepth 20000 in
theorem q11 : (Cond.initialized "java/lang/Exception") ∈ xTs := xTs_1 (i := 11) rfl rfl
set_option maxRecDepth 20000 in
theorem q12 : (Cond.initialized "java/lang/RuntimeException") ∈ xTs := xTs_1 (i := 12) rfl rfl
set_option maxRecDepth 20000 in
theorem q13 : (Cond.initialized "java/lang/IllegalStateException") ∈ xTs := xTs_1 (i := 13) rfl rfl
set_option maxRecDepth 20000 in
theorem q14 : (Cond.initialized RX2) ∈ xTs := xTs_1 (i := 14) rfl rfl
set_option maxRecDepth 20000 in
theorem q15 : (Cond.initialized RJ8) ∈ xTs := xTs_1 (i := 15) rfl rfl
set_option maxRecDepth 20000 in
theorem q16 : (Cond.initialized RJ9) ∈ xTs := xTs_1 (i := 16) rfl rfl
set_option maxRecDepth 20000 in
theorem q17 : (Cond.initialized RJ10) ∈ xTs := xTs_1 (i := 17) rfl rfl
set_option maxRecDepth 20000 in
theorem q18 : (Cond.initialized "java/lang/IndexOutOfBoundsException") ∈ xTs := xTs_1 (i := 18) rfl rfl
set_option maxRecDepth 20000 in
theorem q19 : (Cond.initialized "java/lang/IllegalArgumentException") ∈ xTs := xTs_1 (i := 19) rfl rfl
set_option maxRecDepth 20000 in
theorem q20 : (Cond.initialized RX5) ∈ xTs := xTs_1 (i := 20) rfl rfl
set_option maxRecDepth 20000 in
theorem q21 : (Cond.initialized RJ15) ∈ xTs := xTs_1 (i := 21) rfl rfl
set_option maxRecDepth 20000 in
theorem q22 : (Cond.initialized RJ3) ∈ xTs := xTs_1 (i := 22) rfl rfl
set_option maxRecDepth 20000 in
theorem q23 : (Cond.initialized RX11) ∈ xTs := xTs_1 (i := 23) rfl rfl
set_option maxRecDepth 20000 in
theorem q24 : (Cond.initialized RJx35411) ∈ xTs := xTs_1 (i := 24) rfl rfl
set_option maxRecDepth 20000 in
theorem q25 : (Cond.initialized RX1) ∈ xTs := xTs_1 (i := 25) rfl rfl
set_option maxRecDepth 20000 in
theorem q26 : (Cond.initialized RX9) ∈ xTs := xTs_1 (i := 26) rfl rfl
set_option maxRecDepth 20000 in
theorem q27 : (Cond.initialized RX0) ∈ xTs := xTs_1 (i := 27) rfl rfl
set_option maxRecDepth 20000 in
theorem q28 : (Cond.initialized RX7) ∈ xTs := xTs_1 (i := 28) rfl rfl
set_option maxRecDepth 20000 in
theorem q29 : (Cond.initialized RX8) ∈ xTs := xTs_1 (i := 29) rfl rfl
set_option maxRecDepth 20000 in
theorem q30 : (Cond.initialized RJ6) ∈ xTs := xTs_1 (i := 30) rfl rfl
set_option maxRecDepth 20000 in
theorem q31 : (Cond.classLink RL 8 RX6) ∈ xTs := xTs_1 (i := 31) rfl rfl
set_option maxRecDepth 20000 in
theorem q32 : (Cond.instantiable RX6 12) ∈ xTs := xTs_1 (i := 32) rfl rfl
set_option maxRecDepth 20000 in
theorem q33 : (Cond.methodLink RL 88 yX6_init) ∈ xTs := xTs_1 (i := 33) rfl rfl
set_option maxRecDepth 20000 in
theorem q34 : (Cond.instanceMethod yX6_init) ∈ xTs := xTs_1 (i := 34) rfl rfl
set_option maxRecDepth 20000 in
theorem q35 : (Cond.code yX6_init cX6_init 1 (Option.none : Option Jvm.ClassFile.FieldType)) ∈ xTs := xTs_1 (i := 35) rfl rfl
set_option maxRecDepth 20000 in
theorem q36 : (Cond.methodLink RX6 1 objectInit) ∈ xTs := xTs_1 (i := 36) rfl rfl
set_option maxRecDepth 20000 in
theorem q37 : (Cond.instanceMethod objectInit) ∈ xTs := xTs_1 (i := 37) rfl rfl
set_option maxRecDepth 20000 in
theorem q38 : (Cond.code objectInit ⟨#[0xb1]⟩ 1 none) ∈ xTs := xTs_1 (i := 38) rfl rfl
set_option maxRecDepth 20000 in
theorem q39 : (Cond.classLink RX6 9 RX2) ∈ xTs := xTs_1 (i := 39) rfl rfl
set_option maxRecDepth 20000 in
theorem q40 : (Cond.classLink RX6 15 RX1) ∈ xTs := xTs_1 (i := 41) rfl rfl
set_option maxRecDepth 20000 in
theorem q41 : (Cond.classLink RX6 21 RX0) ∈ xTs := xTs_1 (i := 43) rfl rfl
set_option maxRecDepth 20000 in
theorem q42 : (Cond.classLink RX6 27 RX4) ∈ xTs := xTs_1 (i := 45) rfl rfl
set_option maxRecDepth 20000 in
theorem q43 : (Cond.instantiable RX4 5) ∈ xTs := xTs_1 (i := 46) rfl rfl
set_option maxRecDepth 20000 in
theorem q44 : (Cond.instanceMethod yX4_init) ∈ xTs := xTs_1 (i := 48) rfl rfl
set_option maxRecDepth 20000 in
theorem q45 : (Cond.code yX4_init cX4_init 1 (Option.none : Option Jvm.ClassFile.FieldType)) ∈ xTs := xTs_1 (i := 49) rfl rfl
set_option maxRecDepth 20000 in
theorem q46 : (Cond.methodLink RX4 3 objectInit) ∈ xTs := xTs_1 (i := 50) rfl rfl
set_option maxRecDepth 20000 in
theorem q47 : (Cond.fieldLink RX4 9 "ServiceApiary$Route" "steps" "[I") ∈ xTs := xTs_1 (i := 51) rfl rfl
set_option maxRecDepth 20000 in
theorem q48 : (Cond.fieldLink RX6 188 "ServiceApiary$Route" "steps" "[I") ∈ xTs := xTs_1 (i := 52) rfl rfl
set_option maxRecDepth 20000 in
theorem q49 : (Cond.fieldLink RX6 185 "ServiceApiary$Route" "length" "I") ∈ xTs := xTs_1 (i := 53) rfl rfl
set_option maxRecDepth 20000 in
theorem q50 : (Cond.fieldLink RX6 311 "ServiceApiary$Route" "leadsTo" "I") ∈ xTs := xTs_1 (i := 54) rfl rfl
set_option maxRecDepth 20000 in
theorem q51 : (Cond.fieldLink RX6 314 "ServiceApiary$Route" "makes" "I") ∈ xTs := xTs_1 (i := 55) rfl rfl
set_option maxRecDepth 20000 in
theorem q52 : (Cond.fieldLink RX6 342 "ServiceApiary$Route" "shut" "LServiceApiary$Version;") ∈ xTs := xTs_1 (i := 56) rfl rfl
set_option maxRecDepth 20000 in
theorem q53 : (Cond.laysFinal "ServiceApiary$Route" "ServiceApiary$Route" "steps" "[I") ∈ xTs := xTs_1 (i := 57) rfl rfl
set_option maxRecDepth 20000 in
theorem q54 : (Cond.lays "ServiceApiary$Route" "ServiceApiary$Route" "length" "I") ∈ xTs := xTs_1 (i := 59) rfl rfl
set_option maxRecDepth 20000 in
theorem q55 : (Cond.lays "ServiceApiary$Route" "ServiceApiary$Route" "leadsTo" "I") ∈ xTs := xTs_1 (i := 61) rfl rfl
set_option maxRecDepth 20000 in
theorem q56 : (Cond.lays "ServiceApiary$Route" "ServiceApiary$Route" "makes" "I") ∈ xTs := xTs_1 (i := 63) rfl rfl
set_option maxRecDepth 20000 in
theorem q57 : (Cond.lays "ServiceApiary$Route" "ServiceApiary$Route" "shut" "LServiceApiary$Version;") ∈ xTs := xTs_1 (i := 65) rfl rfl
set_option maxRecDepth 20000 in
theorem q58 : (Cond.arrayClass FieldType.int) ∈ xTs := xTs_1 (i := 68) rfl rfl
set_option maxRecDepth 20000 in
theorem q59 : (Cond.classLink RX6 34 RX3) ∈ xTs := xTs_1 (i := 69) rfl rfl
set_option maxRecDepth 20000 in
theorem q60 : (Cond.instantiable RX3 4) ∈ xTs := xTs_1 (i := 70) rfl rfl
set_option maxRecDepth 20000 in
theorem q61 : (Cond.methodLink RX6 36 yX3_init) ∈ xTs := xTs_1 (i := 71) rfl rfl
set_option maxRecDepth 20000 in
theorem q62 : (Cond.instanceMethod yX3_init) ∈ xTs := xTs_1 (i := 72) rfl rfl
set_option maxRecDepth 20000 in
theorem q63 : (Cond.code yX3_init cX3_init 1 (Option.none : Option Jvm.ClassFile.FieldType)) ∈ xTs := xTs_1 (i := 73) rfl rfl
set_option maxRecDepth 20000 in
theorem q64 : (Cond.methodLink RX3 3 objectInit) ∈ xTs := xTs_1 (i := 74) rfl rfl
set_option maxRecDepth 20000 in
theorem q65 : (Cond.methodLink RX3 22 yJ7_fill_53178) ∈ xTs := xTs_1 (i := 75) rfl rfl
set_option maxRecDepth 20000 in
theorem q66 : (Cond.static yJ7_fill_53178) ∈ xTs := xTs_1 (i := 76) rfl rfl
set_option maxRecDepth 20000 in
theorem q67 : (Cond.code yJ7_fill_53178 cJ7_fill_53178 4 (Option.none : Option Jvm.ClassFile.FieldType)) ∈ xTs := xTs_1 (i := 77) rfl rfl
set_option maxRecDepth 20000 in
theorem q68 : (Cond.fieldLink RX3 9 "ServiceApiary$Retirement" "askedAt" "[I") ∈ xTs := xTs_1 (i := 78) rfl rfl
set_option maxRecDepth 20000 in
theorem q69 : (Cond.fieldLink RX3 15 "ServiceApiary$Retirement" "began" "I") ∈ xTs := xTs_1 (i := 79) rfl rfl
set_option maxRecDepth 20000 in
theorem q70 : (Cond.fieldLink RX6 287 "ServiceApiary$Retirement" "began" "I") ∈ xTs := xTs_1 (i := 80) rfl rfl
set_option maxRecDepth 20000 in
theorem q71 : (Cond.fieldLink RX3 19 "ServiceApiary$Retirement" "end" "I") ∈ xTs := xTs_1 (i := 81) rfl rfl
set_option maxRecDepth 20000 in
theorem q72 : (Cond.fieldLink RX6 236 "ServiceApiary$Retirement" "end" "I") ∈ xTs := xTs_1 (i := 82) rfl rfl
set_option maxRecDepth 20000 in
theorem q73 : (Cond.fieldLink RX3 31 "ServiceApiary$Retirement" "answered" "I") ∈ xTs := xTs_1 (i := 83) rfl rfl
set_option maxRecDepth 20000 in
theorem q74 : (Cond.fieldLink RX6 231 "ServiceApiary$Retirement" "answered" "I") ∈ xTs := xTs_1 (i := 84) rfl rfl
set_option maxRecDepth 20000 in
theorem q75 : (Cond.laysFinal "ServiceApiary$Retirement" "ServiceApiary$Retirement" "askedAt" "[I") ∈ xTs := xTs_1 (i := 85) rfl rfl
set_option maxRecDepth 20000 in
theorem q76 : (Cond.lays "ServiceApiary$Retirement" "ServiceApiary$Retirement" "began" "I") ∈ xTs := xTs_1 (i := 87) rfl rfl
set_option maxRecDepth 20000 in
theorem q77 : (Cond.lays "ServiceApiary$Retirement" "ServiceApiary$Retirement" "end" "I") ∈ xTs := xTs_1 (i := 89) rfl rfl
set_option maxRecDepth 20000 in
theorem q78 : (Cond.lays "ServiceApiary$Retirement" "ServiceApiary$Retirement" "answered" "I") ∈ xTs := xTs_1 (i := 91) rfl rfl
set_option maxRecDepth 20000 in
theorem q79 : (Cond.fieldLink RX6 11 "ServiceApiary" "faces" "[LServiceApiary$Face;") ∈ xTs := xTs_1 (i := 94) rfl rfl
set_option maxRecDepth 20000 in
theorem q80 : (Cond.fieldLink RX6 17 "ServiceApiary" "clients" "[LServiceApiary$Client;") ∈ xTs := xTs_1 (i := 95) rfl rfl
set_option maxRecDepth 20000 in
theorem q81 : (Cond.fieldLink RX6 23 "ServiceApiary" "adapters" "[LServiceApiary$Adapter;") ∈ xTs := xTs_1 (i := 96) rfl rfl
set_option maxRecDepth 20000 in
theorem q82 : (Cond.fieldLink RX6 41 "ServiceApiary" "faceCount" "I") ∈ xTs := xTs_1 (i := 97) rfl rfl
set_option maxRecDepth 20000 in
theorem q83 : (Cond.fieldLink RX6 126 "ServiceApiary" "clientCount" "I") ∈ xTs := xTs_1 (i := 98) rfl rfl
set_option maxRecDepth 20000 in
theorem q84 : (Cond.fieldLink RX6 165 "ServiceApiary" "adapterCount" "I") ∈ xTs := xTs_1 (i := 99) rfl rfl
set_option maxRecDepth 20000 in
theorem q85 : (Cond.fieldLink RX6 225 "ServiceApiary" "now" "I") ∈ xTs := xTs_1 (i := 100) rfl rfl
set_option maxRecDepth 20000 in
theorem q86 : (Cond.fieldLink RX6 249 "ServiceApiary" "callCount" "I") ∈ xTs := xTs_1 (i := 101) rfl rfl
set_option maxRecDepth 20000 in
theorem q87 : (Cond.fieldLink RX6 252 "ServiceApiary" "refusedCount" "I") ∈ xTs := xTs_1 (i := 102) rfl rfl
set_option maxRecDepth 20000 in
theorem q88 : (Cond.fieldLink RX6 320 "ServiceApiary" "byRouteCount" "I") ∈ xTs := xTs_1 (i := 103) rfl rfl
set_option maxRecDepth 20000 in
theorem q89 : (Cond.fieldLink RX6 30 "ServiceApiary" "route" "LServiceApiary$Route;") ∈ xTs := xTs_1 (i := 104) rfl rfl
set_option maxRecDepth 20000 in
theorem q90 : (Cond.fieldLink RX6 37 "ServiceApiary" "trial" "LServiceApiary$Retirement;") ∈ xTs := xTs_1 (i := 105) rfl rfl
set_option maxRecDepth 20000 in
theorem q91 : (Cond.laysFinal "ServiceApiary" "ServiceApiary" "faces" "[LServiceApiary$Face;") ∈ xTs := xTs_1 (i := 106) rfl rfl
set_option maxRecDepth 20000 in
theorem q92 : (Cond.laysFinal "ServiceApiary" "ServiceApiary" "clients" "[LServiceApiary$Client;") ∈ xTs := xTs_1 (i := 108) rfl rfl
set_option maxRecDepth 20000 in
theorem q93 : (Cond.laysFinal "ServiceApiary" "ServiceApiary" "adapters" "[LServiceApiary$Adapter;") ∈ xTs := xTs_1 (i := 110) rfl rfl
set_option maxRecDepth 20000 in
theorem q94 : (Cond.lays "ServiceApiary" "ServiceApiary" "faceCount" "I") ∈ xTs := xTs_1 (i := 112) rfl rfl
set_option maxRecDepth 20000 in
theorem q95 : (Cond.lays "ServiceApiary" "ServiceApiary" "clientCount" "I") ∈ xTs := xTs_1 (i := 114) rfl rfl
set_option maxRecDepth 20000 in
theorem q96 : (Cond.lays "ServiceApiary" "ServiceApiary" "adapterCount" "I") ∈ xTs := xTs_1 (i := 116) rfl rfl
set_option maxRecDepth 20000 in
theorem q97 : (Cond.lays "ServiceApiary" "ServiceApiary" "now" "I") ∈ xTs := xTs_1 (i := 118) rfl rfl
set_option maxRecDepth 20000 in
theorem q98 : (Cond.lays "ServiceApiary" "ServiceApiary" "callCount" "I") ∈ xTs := xTs_1 (i := 120) rfl rfl
set_option maxRecDepth 20000 in
theorem q99 : (Cond.lays "ServiceApiary" "ServiceApiary" "refusedCount" "I") ∈ xTs := xTs_1 (i := 122) rfl rfl
set_option maxRecDepth 20000 in
theorem q100 : (Cond.lays "ServiceApiary" "ServiceApiary" "byRouteCount" "I") ∈ xTs := xTs_1 (i := 124) rfl rfl
set_option maxRecDepth 20000 in
theorem q101 : (Cond.laysFinal "ServiceApiary" "ServiceApiary" "route" "LServiceApiary$Route;") ∈ xTs := xTs_1 (i := 126) rfl rfl
set_option maxRecDepth 20000 in
theorem q102 : (Cond.laysFinal "ServiceApiary" "ServiceApiary" "trial" "LServiceApiary$Retirement;") ∈ xTs := xTs_1 (i := 128) rfl rfl
set_option maxRecDepth 20000 in
theorem q103 : (Cond.methodLink RL 154 yX6_servedShare) ∈ xTs := xTs_1 (i := 131) rfl rfl
set_option maxRecDepth 20000 in
theorem q104 : (Cond.instanceMethod yX6_servedShare) ∈ xTs := xTs_1 (i := 132) rfl rfl
set_option maxRecDepth 20000 in
theorem q105 : (Cond.selects RX6 yX6_servedShare yX6_servedShare) ∈ xTs := xTs_1 (i := 133) rfl rfl
set_option maxRecDepth 20000 in
theorem q106 : (Cond.code yX6_servedShare cX6_servedShare 1 (Option.some Jvm.ClassFile.FieldType.double)) ∈ xTs := xTs_1 (i := 134) rfl rfl
set_option maxRecDepth 20000 in
theorem q107 : (Cond.methodLink RL 174 yX6_digest) ∈ xTs := xTs_1 (i := 135) rfl rfl
set_option maxRecDepth 20000 in
theorem q108 : (Cond.instanceMethod yX6_digest) ∈ xTs := xTs_1 (i := 136) rfl rfl
set_option maxRecDepth 20000 in
theorem q109 : (Cond.selects RX6 yX6_digest yX6_digest) ∈ xTs := xTs_1 (i := 137) rfl rfl
set_option maxRecDepth 20000 in
theorem q110 : (Cond.code yX6_digest cX6_digest 6 (Option.some Jvm.ClassFile.FieldType.long)) ∈ xTs := xTs_1 (i := 138) rfl rfl
set_option maxRecDepth 20000 in
theorem q111 : (Cond.constantLong RX6 271 58106) ∈ xTs := xTs_1 (i := 139) rfl rfl
set_option maxRecDepth 20000 in
theorem q112 : (Cond.constantLong RX6 273 31) ∈ xTs := xTs_1 (i := 140) rfl rfl
set_option maxRecDepth 20000 in
theorem q113 : (Cond.methodLink RX6 246 yX6_countOf) ∈ xTs := xTs_1 (i := 141) rfl rfl
set_option maxRecDepth 20000 in
theorem q114 : (Cond.instanceMethod yX6_countOf) ∈ xTs := xTs_1 (i := 143) rfl rfl
set_option maxRecDepth 20000 in
theorem q115 : (Cond.code yX6_countOf cX6_countOf 2 (Option.some Jvm.ClassFile.FieldType.int)) ∈ xTs := xTs_1 (i := 144) rfl rfl
set_option maxRecDepth 20000 in
theorem q116 : (Cond.methodLink RX6 317 yX6_countVersions) ∈ xTs := xTs_1 (i := 145) rfl rfl
set_option maxRecDepth 20000 in
theorem q117 : (Cond.instanceMethod yX6_countVersions) ∈ xTs := xTs_1 (i := 147) rfl rfl
set_option maxRecDepth 20000 in
theorem q118 : (Cond.code yX6_countVersions cX6_countVersions 6 (Option.some Jvm.ClassFile.FieldType.int)) ∈ xTs := xTs_1 (i := 148) rfl rfl
set_option maxRecDepth 20000 in
theorem q119 : (Cond.methodLink RX6 91 yX6_versionAt) ∈ xTs := xTs_1 (i := 149) rfl rfl
set_option maxRecDepth 20000 in
theorem q120 : (Cond.instanceMethod yX6_versionAt) ∈ xTs := xTs_1 (i := 151) rfl rfl
set_option maxRecDepth 20000 in
theorem q121 : (Cond.code yX6_versionAt cX6_versionAt 4 (Option.some (Jvm.ClassFile.FieldType.object "ServiceApiary$Version"))) ∈ xTs := xTs_1 (i := 152) rfl rfl
set_option maxRecDepth 20000 in
theorem q122 : (Cond.methodLink RX6 55 yX6_faceAt) ∈ xTs := xTs_1 (i := 153) rfl rfl
set_option maxRecDepth 20000 in
theorem q123 : (Cond.instanceMethod yX6_faceAt) ∈ xTs := xTs_1 (i := 155) rfl rfl
set_option maxRecDepth 20000 in
theorem q124 : (Cond.code yX6_faceAt cX6_faceAt 2 (Option.some (Jvm.ClassFile.FieldType.object "ServiceApiary$Face"))) ∈ xTs := xTs_1 (i := 156) rfl rfl
set_option maxRecDepth 20000 in
theorem q125 : (Cond.methodLink RX3 42 Lib.Math.max.name) ∈ xTs := xTs_2 (i := 30) rfl rfl
set_option maxRecDepth 20000 in
theorem q126 : (Cond.static Lib.Math.max.name) ∈ xTs := xTs_2 (i := 31) rfl rfl
set_option maxRecDepth 20000 in
theorem q127 : (Cond.code Lib.Math.max.name Lib.Math.max.code 2 (some .int)) ∈ xTs := xTs_2 (i := 32) rfl rfl
set_option maxRecDepth 20000 in
theorem q128 : (Cond.methodLink RL 92 yL_open) ∈ xTs := xTs_2 (i := 47) rfl rfl
set_option maxRecDepth 20000 in
theorem q129 : (Cond.static yL_open) ∈ xTs := xTs_2 (i := 48) rfl rfl
set_option maxRecDepth 20000 in
theorem q130 : (Cond.codeWith yL_open cL_open 3 (Option.some Jvm.ClassFile.FieldType.int) [(0, 8, 11, 13)]) ∈ xTs := xTs_2 (i := 49) rfl rfl
set_option maxRecDepth 20000 in
theorem q131 : (Cond.classLink RL 13 "java/lang/IllegalStateException") ∈ xTs := xTs_2 (i := 50) rfl rfl
set_option maxRecDepth 20000 in
theorem q132 : (Cond.methodLink RL 7 yX6_open) ∈ xTs := xTs_2 (i := 51) rfl rfl
set_option maxRecDepth 20000 in
theorem q133 : (Cond.instanceMethod yX6_open) ∈ xTs := xTs_2 (i := 52) rfl rfl
set_option maxRecDepth 20000 in
theorem q134 : (Cond.selects RX6 yX6_open yX6_open) ∈ xTs := xTs_2 (i := 53) rfl rfl
set_option maxRecDepth 20000 in
theorem q135 : (Cond.code yX6_open cX6_open 1 (Option.some Jvm.ClassFile.FieldType.int)) ∈ xTs := xTs_2 (i := 54) rfl rfl
set_option maxRecDepth 20000 in
theorem q136 : (Cond.classLink RX6 45 "java/lang/IllegalStateException") ∈ xTs := xTs_2 (i := 55) rfl rfl
set_option maxRecDepth 20000 in
theorem q137 : (Cond.instantiable "java/lang/IllegalStateException" 6) ∈ xTs := xTs_2 (i := 56) rfl rfl
set_option maxRecDepth 20000 in
theorem q138 : (Cond.instantiable "java/lang/Throwable" 6) ∈ xTs := xTs_2 (i := 94) rfl rfl
set_option maxRecDepth 20000 in
theorem q139 : (Cond.arrayClass FieldType.byte) ∈ xTs := xTs_2 (i := 122) rfl rfl
set_option maxRecDepth 20000 in
theorem q140 : (Cond.instantiable RX2 3) ∈ xTs := xTs_2 (i := 123) rfl rfl
set_option maxRecDepth 20000 in
theorem q141 : (Cond.methodLink RX6 52 yX2_init) ∈ xTs := xTs_2 (i := 124) rfl rfl
set_option maxRecDepth 20000 in
theorem q142 : (Cond.instanceMethod yX2_init) ∈ xTs := xTs_2 (i := 125) rfl rfl
set_option maxRecDepth 20000 in
theorem q143 : (Cond.code yX2_init cX2_init 2 (Option.none : Option Jvm.ClassFile.FieldType)) ∈ xTs := xTs_2 (i := 126) rfl rfl
set_option maxRecDepth 20000 in
theorem q144 : (Cond.methodLink RX2 3 objectInit) ∈ xTs := xTs_2 (i := 127) rfl rfl
set_option maxRecDepth 20000 in
theorem q145 : (Cond.classLink RX2 9 RX5) ∈ xTs := xTs_2 (i := 128) rfl rfl
set_option maxRecDepth 20000 in
theorem q146 : (Cond.fieldLink RX2 17 "ServiceApiary$Face" "number" "I") ∈ xTs := xTs_2 (i := 130) rfl rfl
set_option maxRecDepth 20000 in
theorem q147 : (Cond.fieldLink RX6 308 "ServiceApiary$Face" "number" "I") ∈ xTs := xTs_2 (i := 131) rfl rfl
set_option maxRecDepth 20000 in
theorem q148 : (Cond.fieldLink RX2 11 "ServiceApiary$Face" "versions" "[LServiceApiary$Version;") ∈ xTs := xTs_2 (i := 132) rfl rfl
set_option maxRecDepth 20000 in
theorem q149 : (Cond.fieldLink RX6 76 "ServiceApiary$Face" "versions" "[LServiceApiary$Version;") ∈ xTs := xTs_2 (i := 133) rfl rfl
set_option maxRecDepth 20000 in
theorem q150 : (Cond.fieldLink RX6 73 "ServiceApiary$Face" "count" "I") ∈ xTs := xTs_2 (i := 134) rfl rfl
set_option maxRecDepth 20000 in
theorem q151 : (Cond.laysFinal "ServiceApiary$Face" "ServiceApiary$Face" "number" "I") ∈ xTs := xTs_2 (i := 135) rfl rfl
set_option maxRecDepth 20000 in
theorem q152 : (Cond.laysFinal "ServiceApiary$Face" "ServiceApiary$Face" "versions" "[LServiceApiary$Version;") ∈ xTs := xTs_2 (i := 137) rfl rfl
set_option maxRecDepth 20000 in
theorem q153 : (Cond.lays "ServiceApiary$Face" "ServiceApiary$Face" "count" "I") ∈ xTs := xTs_2 (i := 139) rfl rfl
set_option maxRecDepth 20000 in
theorem q154 : (Cond.methodLink RL 101 yL_publish) ∈ xTs := xTs_2 (i := 142) rfl rfl
set_option maxRecDepth 20000 in
theorem q155 : (Cond.static yL_publish) ∈ xTs := xTs_2 (i := 143) rfl rfl
set_option maxRecDepth 20000 in
theorem q156 : (Cond.codeWith yL_publish cL_publish 6 (Option.some Jvm.ClassFile.FieldType.int) [(0, 12, 15, 19), (0, 12, 19, 21), (0, 12, 23, 13)]) ∈ xTs := xTs_2 (i := 144) rfl rfl
set_option maxRecDepth 20000 in
theorem q157 : (Cond.classLink RL 19 "java/lang/IndexOutOfBoundsException") ∈ xTs := xTs_2 (i := 145) rfl rfl
set_option maxRecDepth 20000 in
theorem q158 : (Cond.classLink RL 21 "java/lang/IllegalArgumentException") ∈ xTs := xTs_2 (i := 146) rfl rfl
set_option maxRecDepth 20000 in
theorem q159 : (Cond.methodLink RL 15 yX6_publish) ∈ xTs := xTs_2 (i := 147) rfl rfl
set_option maxRecDepth 20000 in
theorem q160 : (Cond.instanceMethod yX6_publish) ∈ xTs := xTs_2 (i := 148) rfl rfl
set_option maxRecDepth 20000 in
theorem q161 : (Cond.selects RX6 yX6_publish yX6_publish) ∈ xTs := xTs_2 (i := 149) rfl rfl
set_option maxRecDepth 20000 in
theorem q162 : (Cond.code yX6_publish cX6_publish 8 (Option.some Jvm.ClassFile.FieldType.int)) ∈ xTs := xTs_2 (i := 150) rfl rfl
set_option maxRecDepth 20000 in
theorem q163 : (Cond.classLink RX6 59 "java/lang/IndexOutOfBoundsException") ∈ xTs := xTs_2 (i := 151) rfl rfl
set_option maxRecDepth 20000 in
theorem q164 : (Cond.instantiable "java/lang/IndexOutOfBoundsException" 6) ∈ xTs := xTs_2 (i := 152) rfl rfl
set_option maxRecDepth 20000 in
theorem q165 : (Cond.classLink RX6 68 "java/lang/IllegalArgumentException") ∈ xTs := xTs_2 (i := 173) rfl rfl
set_option maxRecDepth 20000 in
theorem q166 : (Cond.instantiable "java/lang/IllegalArgumentException" 6) ∈ xTs := xTs_2 (i := 174) rfl rfl
set_option maxRecDepth 20000 in
theorem q167 : (Cond.classLink RX6 82 RX5) ∈ xTs := xTs_2 (i := 190) rfl rfl
set_option maxRecDepth 20000 in
theorem q168 : (Cond.instantiable RX5 9) ∈ xTs := xTs_2 (i := 191) rfl rfl
set_option maxRecDepth 20000 in
theorem q169 : (Cond.fieldLink RX6 286 "ServiceApiary$Version" "face" "LServiceApiary$Face;") ∈ xTs := xTs_2 (i := 200) rfl rfl
set_option maxRecDepth 20000 in
theorem q170 : (Cond.fieldLink RX6 283 "ServiceApiary$Version" "number" "I") ∈ xTs := xTs_2 (i := 203) rfl rfl
set_option maxRecDepth 20000 in
theorem q171 : (Cond.fieldLink RX6 114 "ServiceApiary$Version" "has" "I") ∈ xTs := xTs_2 (i := 205) rfl rfl
set_option maxRecDepth 20000 in
theorem q172 : (Cond.fieldLink RX6 117 "ServiceApiary$Version" "needs" "I") ∈ xTs := xTs_2 (i := 207) rfl rfl
set_option maxRecDepth 20000 in
theorem q173 : (Cond.fieldLink RX6 211 "ServiceApiary$Version" "retirement" "LServiceApiary$Retirement;") ∈ xTs := xTs_2 (i := 209) rfl rfl
set_option maxRecDepth 20000 in
theorem q174 : (Cond.fieldLink RX6 129 "ServiceApiary$Version" "state" "I") ∈ xTs := xTs_2 (i := 211) rfl rfl
set_option maxRecDepth 20000 in
theorem q175 : (Cond.fieldLink RX6 297 "ServiceApiary$Version" "putOffCount" "I") ∈ xTs := xTs_2 (i := 212) rfl rfl
set_option maxRecDepth 20000 in
theorem q176 : (Cond.fieldLink RX6 300 "ServiceApiary$Version" "callCount" "I") ∈ xTs := xTs_2 (i := 213) rfl rfl
set_option maxRecDepth 20000 in
theorem q177 : (Cond.fieldLink RX6 301 "ServiceApiary$Version" "refusedCount" "I") ∈ xTs := xTs_2 (i := 214) rfl rfl
set_option maxRecDepth 20000 in
theorem q178 : (Cond.methodLink RL 105 yL_ofVersion) ∈ xTs := xTs_3 (i := 1) rfl rfl
set_option maxRecDepth 20000 in
theorem q179 : (Cond.static yL_ofVersion) ∈ xTs := xTs_3 (i := 2) rfl rfl
set_option maxRecDepth 20000 in
theorem q180 : (Cond.codeWith yL_ofVersion cL_ofVersion 6 (Option.some Jvm.ClassFile.FieldType.int) [(0, 12, 15, 19), (0, 12, 19, 21)]) ∈ xTs := xTs_3 (i := 3) rfl rfl
set_option maxRecDepth 20000 in
theorem q181 : (Cond.methodLink RL 23 yX6_ofVersion) ∈ xTs := xTs_3 (i := 4) rfl rfl
set_option maxRecDepth 20000 in
theorem q182 : (Cond.instanceMethod yX6_ofVersion) ∈ xTs := xTs_3 (i := 5) rfl rfl
set_option maxRecDepth 20000 in
theorem q183 : (Cond.selects RX6 yX6_ofVersion yX6_ofVersion) ∈ xTs := xTs_3 (i := 6) rfl rfl
set_option maxRecDepth 20000 in
theorem q184 : (Cond.code yX6_ofVersion cX6_ofVersion 5 (Option.some Jvm.ClassFile.FieldType.int)) ∈ xTs := xTs_3 (i := 7) rfl rfl
set_option maxRecDepth 20000 in
theorem q185 : (Cond.methodLink RL 108 yL_isCompatible) ∈ xTs := xTs_3 (i := 10) rfl rfl
set_option maxRecDepth 20000 in
theorem q186 : (Cond.static yL_isCompatible) ∈ xTs := xTs_3 (i := 11) rfl rfl
set_option maxRecDepth 20000 in
theorem q187 : (Cond.codeWith yL_isCompatible cL_isCompatible 6 (Option.some Jvm.ClassFile.FieldType.int) [(0, 19, 22, 19)]) ∈ xTs := xTs_3 (i := 12) rfl rfl
set_option maxRecDepth 20000 in
theorem q188 : (Cond.methodLink RL 26 yX6_isCompatible) ∈ xTs := xTs_3 (i := 13) rfl rfl
set_option maxRecDepth 20000 in
theorem q189 : (Cond.instanceMethod yX6_isCompatible) ∈ xTs := xTs_3 (i := 14) rfl rfl
set_option maxRecDepth 20000 in
theorem q190 : (Cond.selects RX6 yX6_isCompatible yX6_isCompatible) ∈ xTs := xTs_3 (i := 15) rfl rfl
set_option maxRecDepth 20000 in
theorem q191 : (Cond.code yX6_isCompatible cX6_isCompatible 6 (Option.some Jvm.ClassFile.FieldType.boolean)) ∈ xTs := xTs_3 (i := 16) rfl rfl
set_option maxRecDepth 20000 in
theorem q192 : (Cond.methodLink RL 111 yL_client) ∈ xTs := xTs_3 (i := 17) rfl rfl
set_option maxRecDepth 20000 in
theorem q193 : (Cond.static yL_client) ∈ xTs := xTs_3 (i := 18) rfl rfl
set_option maxRecDepth 20000 in
theorem q194 : (Cond.codeWith yL_client cL_client 7 (Option.some Jvm.ClassFile.FieldType.int) [(0, 14, 17, 19), (0, 14, 21, 21), (0, 14, 25, 13)]) ∈ xTs := xTs_3 (i := 19) rfl rfl
set_option maxRecDepth 20000 in
theorem q195 : (Cond.methodLink RL 30 yX6_client) ∈ xTs := xTs_3 (i := 20) rfl rfl
set_option maxRecDepth 20000 in
theorem q196 : (Cond.instanceMethod yX6_client) ∈ xTs := xTs_3 (i := 21) rfl rfl
set_option maxRecDepth 20000 in
theorem q197 : (Cond.selects RX6 yX6_client yX6_client) ∈ xTs := xTs_3 (i := 22) rfl rfl
set_option maxRecDepth 20000 in
theorem q198 : (Cond.code yX6_client cX6_client 6 (Option.some Jvm.ClassFile.FieldType.int)) ∈ xTs := xTs_3 (i := 23) rfl rfl
set_option maxRecDepth 20000 in
theorem q199 : (Cond.instantiable RX1 8) ∈ xTs := xTs_3 (i := 29) rfl rfl
set_option maxRecDepth 20000 in
theorem q200 : (Cond.fieldLink RX6 305 "ServiceApiary$Client" "owner" "I") ∈ xTs := xTs_3 (i := 36) rfl rfl
set_option maxRecDepth 20000 in
theorem q201 : (Cond.fieldLink RX6 141 "ServiceApiary$Client" "face" "LServiceApiary$Face;") ∈ xTs := xTs_3 (i := 38) rfl rfl
set_option maxRecDepth 20000 in
theorem q202 : (Cond.fieldLink RX6 378 "ServiceApiary$Client" "servedThisHour" "[I") ∈ xTs := xTs_3 (i := 41) rfl rfl
set_option maxRecDepth 20000 in
theorem q203 : (Cond.fieldLink RX6 159 "ServiceApiary$Client" "version" "LServiceApiary$Version;") ∈ xTs := xTs_3 (i := 43) rfl rfl
set_option maxRecDepth 20000 in
theorem q204 : (Cond.fieldLink RX6 152 "ServiceApiary$Client" "uses" "I") ∈ xTs := xTs_3 (i := 45) rfl rfl
set_option maxRecDepth 20000 in
theorem q205 : (Cond.fieldLink RX6 309 "ServiceApiary$Client" "callCount" "I") ∈ xTs := xTs_3 (i := 47) rfl rfl
set_option maxRecDepth 20000 in
theorem q206 : (Cond.fieldLink RX6 310 "ServiceApiary$Client" "refusedCount" "I") ∈ xTs := xTs_3 (i := 49) rfl rfl
set_option maxRecDepth 20000 in
theorem q207 : (Cond.methodLink RL 115 yL_again) ∈ xTs := xTs_3 (i := 67) rfl rfl
set_option maxRecDepth 20000 in
theorem q208 : (Cond.static yL_again) ∈ xTs := xTs_3 (i := 68) rfl rfl
set_option maxRecDepth 20000 in
theorem q209 : (Cond.codeWith yL_again cL_again 5 (Option.some Jvm.ClassFile.FieldType.int) [(0, 10, 13, 19), (0, 10, 17, 13)]) ∈ xTs := xTs_3 (i := 69) rfl rfl
set_option maxRecDepth 20000 in
theorem q210 : (Cond.methodLink RL 34 yX6_again) ∈ xTs := xTs_3 (i := 70) rfl rfl
set_option maxRecDepth 20000 in
theorem q211 : (Cond.instanceMethod yX6_again) ∈ xTs := xTs_3 (i := 71) rfl rfl
set_option maxRecDepth 20000 in
theorem q212 : (Cond.selects RX6 yX6_again yX6_again) ∈ xTs := xTs_3 (i := 72) rfl rfl
set_option maxRecDepth 20000 in
theorem q213 : (Cond.code yX6_again cX6_again 5 (Option.some Jvm.ClassFile.FieldType.int)) ∈ xTs := xTs_3 (i := 73) rfl rfl
set_option maxRecDepth 20000 in
theorem q214 : (Cond.methodLink RX6 137 yX6_clientAt) ∈ xTs := xTs_3 (i := 74) rfl rfl
set_option maxRecDepth 20000 in
theorem q215 : (Cond.instanceMethod yX6_clientAt) ∈ xTs := xTs_3 (i := 76) rfl rfl
set_option maxRecDepth 20000 in
theorem q216 : (Cond.code yX6_clientAt cX6_clientAt 2 (Option.some (Jvm.ClassFile.FieldType.object "ServiceApiary$Client"))) ∈ xTs := xTs_3 (i := 77) rfl rfl
set_option maxRecDepth 20000 in
theorem q217 : (Cond.methodLink RL 119 yL_adapter) ∈ xTs := xTs_3 (i := 80) rfl rfl
set_option maxRecDepth 20000 in
theorem q218 : (Cond.static yL_adapter) ∈ xTs := xTs_3 (i := 81) rfl rfl
set_option maxRecDepth 20000 in
theorem q219 : (Cond.codeWith yL_adapter cL_adapter 8 (Option.some Jvm.ClassFile.FieldType.int) [(0, 16, 19, 19), (0, 16, 23, 21), (0, 16, 27, 13)]) ∈ xTs := xTs_3 (i := 82) rfl rfl
set_option maxRecDepth 20000 in
theorem q220 : (Cond.methodLink RL 38 yX6_adapter) ∈ xTs := xTs_3 (i := 83) rfl rfl
set_option maxRecDepth 20000 in
theorem q221 : (Cond.instanceMethod yX6_adapter) ∈ xTs := xTs_3 (i := 84) rfl rfl
set_option maxRecDepth 20000 in
theorem q222 : (Cond.selects RX6 yX6_adapter yX6_adapter) ∈ xTs := xTs_3 (i := 85) rfl rfl
set_option maxRecDepth 20000 in
theorem q223 : (Cond.code yX6_adapter cX6_adapter 8 (Option.some Jvm.ClassFile.FieldType.int)) ∈ xTs := xTs_3 (i := 86) rfl rfl
set_option maxRecDepth 20000 in
theorem q224 : (Cond.instantiable RX0 4) ∈ xTs := xTs_3 (i := 89) rfl rfl
set_option maxRecDepth 20000 in
theorem q225 : (Cond.fieldLink RX6 349 "ServiceApiary$Adapter" "from" "LServiceApiary$Version;") ∈ xTs := xTs_3 (i := 95) rfl rfl
set_option maxRecDepth 20000 in
theorem q226 : (Cond.fieldLink RX6 352 "ServiceApiary$Adapter" "to" "LServiceApiary$Version;") ∈ xTs := xTs_3 (i := 97) rfl rfl
set_option maxRecDepth 20000 in
theorem q227 : (Cond.methodLink RL 123 yL_ofClient) ∈ xTs := xTs_3 (i := 109) rfl rfl
set_option maxRecDepth 20000 in
theorem q228 : (Cond.static yL_ofClient) ∈ xTs := xTs_3 (i := 110) rfl rfl
set_option maxRecDepth 20000 in
theorem q229 : (Cond.codeWith yL_ofClient cL_ofClient 5 (Option.some Jvm.ClassFile.FieldType.int) [(0, 10, 13, 19), (0, 10, 17, 21)]) ∈ xTs := xTs_3 (i := 111) rfl rfl
set_option maxRecDepth 20000 in
theorem q230 : (Cond.methodLink RL 42 yX6_ofClient) ∈ xTs := xTs_3 (i := 112) rfl rfl
set_option maxRecDepth 20000 in
theorem q231 : (Cond.instanceMethod yX6_ofClient) ∈ xTs := xTs_3 (i := 113) rfl rfl
set_option maxRecDepth 20000 in
theorem q232 : (Cond.selects RX6 yX6_ofClient yX6_ofClient) ∈ xTs := xTs_3 (i := 114) rfl rfl
set_option maxRecDepth 20000 in
theorem q233 : (Cond.code yX6_ofClient cX6_ofClient 4 (Option.some Jvm.ClassFile.FieldType.int)) ∈ xTs := xTs_3 (i := 115) rfl rfl
set_option maxRecDepth 20000 in
theorem q234 : (Cond.methodLink RL 126 yL_routed) ∈ xTs := xTs_3 (i := 118) rfl rfl
set_option maxRecDepth 20000 in
theorem q235 : (Cond.static yL_routed) ∈ xTs := xTs_3 (i := 119) rfl rfl
set_option maxRecDepth 20000 in
theorem q236 : (Cond.codeWith yL_routed cL_routed 5 (Option.some Jvm.ClassFile.FieldType.int) [(0, 10, 13, 19)]) ∈ xTs := xTs_3 (i := 120) rfl rfl
set_option maxRecDepth 20000 in
theorem q237 : (Cond.methodLink RL 45 yX6_routed) ∈ xTs := xTs_3 (i := 121) rfl rfl
set_option maxRecDepth 20000 in
theorem q238 : (Cond.instanceMethod yX6_routed) ∈ xTs := xTs_3 (i := 122) rfl rfl
set_option maxRecDepth 20000 in
theorem q239 : (Cond.selects RX6 yX6_routed yX6_routed) ∈ xTs := xTs_3 (i := 123) rfl rfl
set_option maxRecDepth 20000 in
theorem q240 : (Cond.code yX6_routed cX6_routed 4 (Option.some Jvm.ClassFile.FieldType.int)) ∈ xTs := xTs_3 (i := 124) rfl rfl
set_option maxRecDepth 20000 in
theorem q241 : (Cond.methodLink RL 129 yL_call) ∈ xTs := xTs_3 (i := 126) rfl rfl
set_option maxRecDepth 20000 in
theorem q242 : (Cond.static yL_call) ∈ xTs := xTs_3 (i := 127) rfl rfl
set_option maxRecDepth 20000 in
theorem q243 : (Cond.codeWith yL_call cL_call 5 (Option.some Jvm.ClassFile.FieldType.int) [(0, 10, 13, 19), (0, 10, 17, 21)]) ∈ xTs := xTs_3 (i := 128) rfl rfl
set_option maxRecDepth 20000 in
theorem q244 : (Cond.methodLink RL 48 yX6_call) ∈ xTs := xTs_3 (i := 129) rfl rfl
set_option maxRecDepth 20000 in
theorem q245 : (Cond.instanceMethod yX6_call) ∈ xTs := xTs_3 (i := 130) rfl rfl
set_option maxRecDepth 20000 in
theorem q246 : (Cond.selects RX6 yX6_call yX6_call) ∈ xTs := xTs_3 (i := 131) rfl rfl
set_option maxRecDepth 20000 in
theorem q247 : (Cond.code yX6_call cX6_call 6 (Option.some Jvm.ClassFile.FieldType.int)) ∈ xTs := xTs_3 (i := 132) rfl rfl
set_option maxRecDepth 20000 in
theorem q248 : (Cond.methodLink RL 132 yL_pass) ∈ xTs := xTs_3 (i := 146) rfl rfl
set_option maxRecDepth 20000 in
theorem q249 : (Cond.static yL_pass) ∈ xTs := xTs_3 (i := 147) rfl rfl
set_option maxRecDepth 20000 in
theorem q250 : (Cond.codeWith yL_pass cL_pass 4 (Option.some Jvm.ClassFile.FieldType.int) [(0, 9, 12, 21)]) ∈ xTs := xTs_3 (i := 148) rfl rfl
set_option maxRecDepth 20000 in
theorem q251 : (Cond.methodLink RL 51 yX6_pass) ∈ xTs := xTs_3 (i := 149) rfl rfl
set_option maxRecDepth 20000 in
theorem q252 : (Cond.instanceMethod yX6_pass) ∈ xTs := xTs_3 (i := 150) rfl rfl
set_option maxRecDepth 20000 in
theorem q253 : (Cond.selects RX6 yX6_pass yX6_pass) ∈ xTs := xTs_3 (i := 151) rfl rfl
set_option maxRecDepth 20000 in
theorem q254 : (Cond.code yX6_pass cX6_pass 4 (Option.some Jvm.ClassFile.FieldType.int)) ∈ xTs := xTs_3 (i := 152) rfl rfl
set_option maxRecDepth 20000 in
theorem q255 : (Cond.methodLink RX6 201 yX6_beginHour) ∈ xTs := xTs_3 (i := 154) rfl rfl
set_option maxRecDepth 20000 in
theorem q256 : (Cond.instanceMethod yX6_beginHour) ∈ xTs := xTs_3 (i := 156) rfl rfl
set_option maxRecDepth 20000 in
theorem q257 : (Cond.code yX6_beginHour cX6_beginHour 5 (Option.some Jvm.ClassFile.FieldType.int)) ∈ xTs := xTs_3 (i := 157) rfl rfl
set_option maxRecDepth 20000 in
theorem q258 : (Cond.methodLink RX6 381 yJ7_fill_53178) ∈ xTs := xTs_3 (i := 158) rfl rfl
set_option maxRecDepth 20000 in
theorem q259 : (Cond.methodLink RL 136 yL_lastCall) ∈ xTs := xTs_3 (i := 163) rfl rfl
set_option maxRecDepth 20000 in
theorem q260 : (Cond.static yL_lastCall) ∈ xTs := xTs_3 (i := 164) rfl rfl
set_option maxRecDepth 20000 in
theorem q261 : (Cond.codeWith yL_lastCall cL_lastCall 5 (Option.some Jvm.ClassFile.FieldType.int) [(0, 10, 13, 19)]) ∈ xTs := xTs_3 (i := 165) rfl rfl
set_option maxRecDepth 20000 in
theorem q262 : (Cond.methodLink RL 55 yX6_lastCall) ∈ xTs := xTs_3 (i := 166) rfl rfl
set_option maxRecDepth 20000 in
theorem q263 : (Cond.instanceMethod yX6_lastCall) ∈ xTs := xTs_3 (i := 167) rfl rfl
set_option maxRecDepth 20000 in
theorem q264 : (Cond.selects RX6 yX6_lastCall yX6_lastCall) ∈ xTs := xTs_3 (i := 168) rfl rfl
set_option maxRecDepth 20000 in
theorem q265 : (Cond.code yX6_lastCall cX6_lastCall 5 (Option.some Jvm.ClassFile.FieldType.int)) ∈ xTs := xTs_3 (i := 169) rfl rfl
set_option maxRecDepth 20000 in
theorem q266 : (Cond.methodLink RL 139 yL_retire) ∈ xTs := xTs_3 (i := 170) rfl rfl
set_option maxRecDepth 20000 in
theorem q267 : (Cond.static yL_retire) ∈ xTs := xTs_3 (i := 171) rfl rfl
set_option maxRecDepth 20000 in
theorem q268 : (Cond.codeWith yL_retire cL_retire 6 (Option.some Jvm.ClassFile.FieldType.int) [(0, 12, 15, 19), (0, 12, 19, 21), (0, 12, 23, 13)]) ∈ xTs := xTs_3 (i := 172) rfl rfl
set_option maxRecDepth 20000 in
theorem q269 : (Cond.methodLink RL 58 yX6_retire) ∈ xTs := xTs_3 (i := 173) rfl rfl
set_option maxRecDepth 20000 in
theorem q270 : (Cond.instanceMethod yX6_retire) ∈ xTs := xTs_3 (i := 174) rfl rfl
set_option maxRecDepth 20000 in
theorem q271 : (Cond.selects RX6 yX6_retire yX6_retire) ∈ xTs := xTs_3 (i := 175) rfl rfl
set_option maxRecDepth 20000 in
theorem q272 : (Cond.code yX6_retire cX6_retire 5 (Option.some Jvm.ClassFile.FieldType.int)) ∈ xTs := xTs_3 (i := 176) rfl rfl
set_option maxRecDepth 20000 in
theorem q273 : (Cond.methodLink RL 142 yL_answer) ∈ xTs := xTs_3 (i := 190) rfl rfl
set_option maxRecDepth 20000 in
theorem q274 : (Cond.static yL_answer) ∈ xTs := xTs_3 (i := 191) rfl rfl
set_option maxRecDepth 20000 in
theorem q275 : (Cond.codeWith yL_answer cL_answer 6 (Option.some Jvm.ClassFile.FieldType.int) [(0, 19, 22, 19), (0, 19, 26, 13)]) ∈ xTs := xTs_3 (i := 192) rfl rfl
set_option maxRecDepth 20000 in
theorem q276 : (Cond.methodLink RL 61 yX6_answer) ∈ xTs := xTs_3 (i := 193) rfl rfl
set_option maxRecDepth 20000 in
theorem q277 : (Cond.instanceMethod yX6_answer) ∈ xTs := xTs_3 (i := 194) rfl rfl
set_option maxRecDepth 20000 in
theorem q278 : (Cond.selects RX6 yX6_answer yX6_answer) ∈ xTs := xTs_3 (i := 195) rfl rfl
set_option maxRecDepth 20000 in
theorem q279 : (Cond.code yX6_answer cX6_answer 6 (Option.some Jvm.ClassFile.FieldType.boolean)) ∈ xTs := xTs_3 (i := 196) rfl rfl
set_option maxRecDepth 20000 in
theorem q280 : (Cond.methodLink RL 145 yL_recall) ∈ xTs := xTs_3 (i := 199) rfl rfl
set_option maxRecDepth 20000 in
theorem q281 : (Cond.static yL_recall) ∈ xTs := xTs_3 (i := 200) rfl rfl
set_option maxRecDepth 20000 in
theorem q282 : (Cond.codeWith yL_recall cL_recall 5 (Option.some Jvm.ClassFile.FieldType.int) [(0, 10, 13, 19), (0, 10, 17, 13)]) ∈ xTs := xTs_3 (i := 201) rfl rfl
set_option maxRecDepth 20000 in
theorem q283 : (Cond.methodLink RL 64 yX6_recall) ∈ xTs := xTs_3 (i := 202) rfl rfl
set_option maxRecDepth 20000 in
theorem q284 : (Cond.instanceMethod yX6_recall) ∈ xTs := xTs_3 (i := 203) rfl rfl
set_option maxRecDepth 20000 in
theorem q285 : (Cond.selects RX6 yX6_recall yX6_recall) ∈ xTs := xTs_3 (i := 204) rfl rfl
set_option maxRecDepth 20000 in
theorem q286 : (Cond.code yX6_recall cX6_recall 5 (Option.some Jvm.ClassFile.FieldType.int)) ∈ xTs := xTs_3 (i := 205) rfl rfl
set_option maxRecDepth 20000 in
theorem q287 : (Cond.methodLink RL 148 yL_asked) ∈ xTs := xTs_3 (i := 208) rfl rfl
set_option maxRecDepth 20000 in
theorem q288 : (Cond.static yL_asked) ∈ xTs := xTs_3 (i := 209) rfl rfl
set_option maxRecDepth 20000 in
theorem q289 : (Cond.codeWith yL_asked cL_asked 6 (Option.some Jvm.ClassFile.FieldType.int) [(0, 12, 15, 19)]) ∈ xTs := xTs_3 (i := 210) rfl rfl
set_option maxRecDepth 20000 in
theorem q290 : (Cond.methodLink RL 67 yX6_asked) ∈ xTs := xTs_3 (i := 211) rfl rfl
set_option maxRecDepth 20000 in
theorem q291 : (Cond.instanceMethod yX6_asked) ∈ xTs := xTs_3 (i := 212) rfl rfl
set_option maxRecDepth 20000 in
theorem q292 : (Cond.selects RX6 yX6_asked yX6_asked) ∈ xTs := xTs_3 (i := 213) rfl rfl
set_option maxRecDepth 20000 in
theorem q293 : (Cond.code yX6_asked cX6_asked 5 (Option.some Jvm.ClassFile.FieldType.int)) ∈ xTs := xTs_3 (i := 214) rfl rfl
set_option maxRecDepth 20000 in
theorem q294 : (Cond.methodLink RL 151 yL_many) ∈ xTs := xTs_3 (i := 215) rfl rfl
set_option maxRecDepth 20000 in
theorem q295 : (Cond.static yL_many) ∈ xTs := xTs_3 (i := 216) rfl rfl
set_option maxRecDepth 20000 in
theorem q296 : (Cond.codeWith yL_many cL_many 4 (Option.some Jvm.ClassFile.FieldType.int) [(0, 9, 12, 21)]) ∈ xTs := xTs_3 (i := 217) rfl rfl
set_option maxRecDepth 20000 in
theorem q297 : (Cond.methodLink RL 70 yX6_many) ∈ xTs := xTs_3 (i := 218) rfl rfl
set_option maxRecDepth 20000 in
theorem q298 : (Cond.instanceMethod yX6_many) ∈ xTs := xTs_3 (i := 219) rfl rfl
set_option maxRecDepth 20000 in
theorem q299 : (Cond.selects RX6 yX6_many yX6_many) ∈ xTs := xTs_3 (i := 220) rfl rfl
set_option maxRecDepth 20000 in
theorem q300 : (Cond.code yX6_many cX6_many 2 (Option.some Jvm.ClassFile.FieldType.int)) ∈ xTs := xTs_3 (i := 221) rfl rfl
set_option maxRecDepth 20000 in
theorem q301 : (Cond.methodLink RL 159 yL_wouldCome) ∈ xTs := xTs_3 (i := 222) rfl rfl
set_option maxRecDepth 20000 in
theorem q302 : (Cond.static yL_wouldCome) ∈ xTs := xTs_3 (i := 223) rfl rfl
set_option maxRecDepth 20000 in
theorem q303 : (Cond.codeWith yL_wouldCome cL_wouldCome 5 (Option.some Jvm.ClassFile.FieldType.int) [(0, 10, 13, 19), (0, 10, 17, 21)]) ∈ xTs := xTs_3 (i := 224) rfl rfl
set_option maxRecDepth 20000 in
theorem q304 : (Cond.methodLink RL 73 yX6_wouldCome) ∈ xTs := xTs_3 (i := 225) rfl rfl
set_option maxRecDepth 20000 in
theorem q305 : (Cond.instanceMethod yX6_wouldCome) ∈ xTs := xTs_3 (i := 226) rfl rfl
set_option maxRecDepth 20000 in
theorem q306 : (Cond.selects RX6 yX6_wouldCome yX6_wouldCome) ∈ xTs := xTs_3 (i := 227) rfl rfl
set_option maxRecDepth 20000 in
theorem q307 : (Cond.code yX6_wouldCome cX6_wouldCome 4 (Option.some Jvm.ClassFile.FieldType.int)) ∈ xTs := xTs_3 (i := 228) rfl rfl
set_option maxRecDepth 20000 in
theorem q308 : (Cond.methodLink RL 162 yL_goneIn) ∈ xTs := xTs_3 (i := 230) rfl rfl
set_option maxRecDepth 20000 in
theorem q309 : (Cond.static yL_goneIn) ∈ xTs := xTs_3 (i := 231) rfl rfl
set_option maxRecDepth 20000 in
theorem q310 : (Cond.codeWith yL_goneIn cL_goneIn 5 (Option.some Jvm.ClassFile.FieldType.int) [(0, 10, 13, 19)]) ∈ xTs := xTs_3 (i := 232) rfl rfl
set_option maxRecDepth 20000 in
theorem q311 : (Cond.methodLink RL 76 yX6_goneIn) ∈ xTs := xTs_3 (i := 233) rfl rfl
set_option maxRecDepth 20000 in
theorem q312 : (Cond.instanceMethod yX6_goneIn) ∈ xTs := xTs_3 (i := 234) rfl rfl
set_option maxRecDepth 20000 in
theorem q313 : (Cond.selects RX6 yX6_goneIn yX6_goneIn) ∈ xTs := xTs_3 (i := 235) rfl rfl
set_option maxRecDepth 20000 in
theorem q314 : (Cond.code yX6_goneIn cX6_goneIn 4 (Option.some Jvm.ClassFile.FieldType.int)) ∈ xTs := xTs_3 (i := 236) rfl rfl
set_option maxRecDepth 20000 in
theorem q315 : (Cond.methodLink RL 165 yL_wouldBreak) ∈ xTs := xTs_3 (i := 237) rfl rfl
set_option maxRecDepth 20000 in
theorem q316 : (Cond.static yL_wouldBreak) ∈ xTs := xTs_3 (i := 238) rfl rfl
set_option maxRecDepth 20000 in
theorem q317 : (Cond.codeWith yL_wouldBreak cL_wouldBreak 6 (Option.some Jvm.ClassFile.FieldType.int) [(0, 12, 15, 19), (0, 12, 19, 21)]) ∈ xTs := xTs_3 (i := 239) rfl rfl
set_option maxRecDepth 20000 in
theorem q318 : (Cond.methodLink RL 79 yX6_wouldBreak) ∈ xTs := xTs_4 (i := 0) rfl rfl
set_option maxRecDepth 20000 in
theorem q319 : (Cond.instanceMethod yX6_wouldBreak) ∈ xTs := xTs_4 (i := 1) rfl rfl
set_option maxRecDepth 20000 in
theorem q320 : (Cond.selects RX6 yX6_wouldBreak yX6_wouldBreak) ∈ xTs := xTs_4 (i := 2) rfl rfl
set_option maxRecDepth 20000 in
theorem q321 : (Cond.code yX6_wouldBreak cX6_wouldBreak 8 (Option.some Jvm.ClassFile.FieldType.int)) ∈ xTs := xTs_4 (i := 3) rfl rfl
set_option maxRecDepth 20000 in
theorem q322 : (Cond.methodLink RL 168 yL_target) ∈ xTs := xTs_4 (i := 4) rfl rfl
set_option maxRecDepth 20000 in
theorem q323 : (Cond.static yL_target) ∈ xTs := xTs_4 (i := 5) rfl rfl
set_option maxRecDepth 20000 in
theorem q324 : (Cond.codeWith yL_target cL_target 4 (Option.some Jvm.ClassFile.FieldType.int) [(0, 9, 12, 19)]) ∈ xTs := xTs_4 (i := 6) rfl rfl
set_option maxRecDepth 20000 in
theorem q325 : (Cond.methodLink RL 82 yX6_target) ∈ xTs := xTs_4 (i := 7) rfl rfl
set_option maxRecDepth 20000 in
theorem q326 : (Cond.instanceMethod yX6_target) ∈ xTs := xTs_4 (i := 8) rfl rfl
set_option maxRecDepth 20000 in
theorem q327 : (Cond.selects RX6 yX6_target yX6_target) ∈ xTs := xTs_4 (i := 9) rfl rfl
set_option maxRecDepth 20000 in
theorem q328 : (Cond.code yX6_target cX6_target 3 (Option.some Jvm.ClassFile.FieldType.int)) ∈ xTs := xTs_4 (i := 10) rfl rfl
set_option maxRecDepth 20000 in
theorem q329 : (Cond.methodLink RL 171 yL_goneBy) ∈ xTs := xTs_4 (i := 11) rfl rfl
set_option maxRecDepth 20000 in
theorem q330 : (Cond.static yL_goneBy) ∈ xTs := xTs_4 (i := 12) rfl rfl
set_option maxRecDepth 20000 in
theorem q331 : (Cond.codeWith yL_goneBy cL_goneBy 6 (Option.some Jvm.ClassFile.FieldType.int) [(0, 12, 15, 19), (0, 12, 19, 21), (0, 12, 23, 13)]) ∈ xTs := xTs_4 (i := 13) rfl rfl
set_option maxRecDepth 20000 in
theorem q332 : (Cond.methodLink RL 85 yX6_goneBy) ∈ xTs := xTs_4 (i := 14) rfl rfl
set_option maxRecDepth 20000 in
theorem q333 : (Cond.instanceMethod yX6_goneBy) ∈ xTs := xTs_4 (i := 15) rfl rfl
set_option maxRecDepth 20000 in
theorem q334 : (Cond.selects RX6 yX6_goneBy yX6_goneBy) ∈ xTs := xTs_4 (i := 16) rfl rfl
set_option maxRecDepth 20000 in
theorem q335 : (Cond.code yX6_goneBy cX6_goneBy 5 (Option.some Jvm.ClassFile.FieldType.int)) ∈ xTs := xTs_4 (i := 17) rfl rfl
set_option maxRecDepth 20000 in
theorem q336 : (Cond.classLink RL 89 RX12) ∈ xTs := xTs_4 (i := 18) rfl rfl
set_option maxRecDepth 20000 in
theorem q337 : (Cond.instantiable RX12 2) ∈ xTs := xTs_4 (i := 19) rfl rfl
set_option maxRecDepth 20000 in
theorem q338 : (Cond.methodLink RL 91 yX12_init) ∈ xTs := xTs_4 (i := 20) rfl rfl
set_option maxRecDepth 20000 in
theorem q339 : (Cond.instanceMethod yX12_init) ∈ xTs := xTs_4 (i := 21) rfl rfl
set_option maxRecDepth 20000 in
theorem q340 : (Cond.code yX12_init cX12_init 1 (Option.none : Option Jvm.ClassFile.FieldType)) ∈ xTs := xTs_4 (i := 22) rfl rfl
set_option maxRecDepth 20000 in
theorem q341 : (Cond.methodLink RX12 1 objectInit) ∈ xTs := xTs_4 (i := 23) rfl rfl
set_option maxRecDepth 20000 in
theorem q342 : (Cond.classLink RX12 7 RX10) ∈ xTs := xTs_4 (i := 24) rfl rfl
set_option maxRecDepth 20000 in
theorem q343 : (Cond.instantiable RX10 5) ∈ xTs := xTs_4 (i := 25) rfl rfl
set_option maxRecDepth 20000 in
theorem q344 : (Cond.instanceMethod yX10_init) ∈ xTs := xTs_4 (i := 27) rfl rfl
set_option maxRecDepth 20000 in
theorem q345 : (Cond.code yX10_init cX10_init 1 (Option.none : Option Jvm.ClassFile.FieldType)) ∈ xTs := xTs_4 (i := 28) rfl rfl
set_option maxRecDepth 20000 in
theorem q346 : (Cond.methodLink RX10 3 objectInit) ∈ xTs := xTs_4 (i := 29) rfl rfl
set_option maxRecDepth 20000 in
theorem q347 : (Cond.classLink RX10 9 RJx4a65c) ∈ xTs := xTs_4 (i := 30) rfl rfl
set_option maxRecDepth 20000 in
theorem q348 : (Cond.instantiable RJx4a65c 3) ∈ xTs := xTs_4 (i := 31) rfl rfl
set_option maxRecDepth 20000 in
theorem q349 : (Cond.methodLink RX10 11 yJx4a65c_init_da8c8) ∈ xTs := xTs_4 (i := 32) rfl rfl
set_option maxRecDepth 20000 in
theorem q350 : (Cond.instanceMethod yJx4a65c_init_da8c8) ∈ xTs := xTs_4 (i := 33) rfl rfl
set_option maxRecDepth 20000 in
theorem q351 : (Cond.code yJx4a65c_init_da8c8 cJx4a65c_init_da8c8 1 (Option.none : Option Jvm.ClassFile.FieldType)) ∈ xTs := xTs_4 (i := 34) rfl rfl
set_option maxRecDepth 20000 in
theorem q352 : (Cond.methodLink RJx4a65c 1 yJxc12de_init_da8c8) ∈ xTs := xTs_4 (i := 35) rfl rfl
set_option maxRecDepth 20000 in
theorem q353 : (Cond.instanceMethod yJxc12de_init_da8c8) ∈ xTs := xTs_4 (i := 36) rfl rfl
set_option maxRecDepth 20000 in
theorem q354 : (Cond.code yJxc12de_init_da8c8 cJxc12de_init_da8c8 1 (Option.none : Option Jvm.ClassFile.FieldType)) ∈ xTs := xTs_4 (i := 37) rfl rfl
set_option maxRecDepth 20000 in
theorem q355 : (Cond.methodLink RJxc12de 1 yJxa1e45_init_da8c8) ∈ xTs := xTs_4 (i := 38) rfl rfl
set_option maxRecDepth 20000 in
theorem q356 : (Cond.instanceMethod yJxa1e45_init_da8c8) ∈ xTs := xTs_4 (i := 39) rfl rfl
set_option maxRecDepth 20000 in
theorem q357 : (Cond.code yJxa1e45_init_da8c8 cJxa1e45_init_da8c8 1 (Option.none : Option Jvm.ClassFile.FieldType)) ∈ xTs := xTs_4 (i := 40) rfl rfl
set_option maxRecDepth 20000 in
theorem q358 : (Cond.methodLink RJxa1e45 1 objectInit) ∈ xTs := xTs_4 (i := 41) rfl rfl
set_option maxRecDepth 20000 in
theorem q359 : (Cond.fieldLink RJx4a65c 39 "java/util/ArrayList" "DEFAULTCAPACITY_EMPTY_ELEMENTDATA" "[Ljava/lang/Object;") ∈ xTs := xTs_4 (i := 42) rfl rfl
set_option maxRecDepth 20000 in
theorem q360 : (Cond.fieldLink RJx4a65c 9 "java/util/ArrayList" "elementData" "[Ljava/lang/Object;") ∈ xTs := xTs_4 (i := 44) rfl rfl
set_option maxRecDepth 20000 in
theorem q361 : (Cond.fieldLink RJx35411 37 "java/util/ArrayList" "elementData" "[Ljava/lang/Object;") ∈ xTs := xTs_4 (i := 45) rfl rfl
set_option maxRecDepth 20000 in
theorem q362 : (Cond.fieldLink RJx4a65c 48 "java/util/ArrayList" "size" "I") ∈ xTs := xTs_4 (i := 47) rfl rfl
set_option maxRecDepth 20000 in
theorem q363 : (Cond.fieldLink RJxc12de 7 "java/util/AbstractList" "modCount" "I") ∈ xTs := xTs_4 (i := 48) rfl rfl
set_option maxRecDepth 20000 in
theorem q364 : (Cond.fieldLink RJx35411 17 "java/util/ArrayList" "modCount" "I") ∈ xTs := xTs_4 (i := 49) rfl rfl
set_option maxRecDepth 20000 in
theorem q365 : (Cond.sameField "java/util/ArrayList" "java/util/AbstractList" "modCount" "I") ∈ xTs := xTs_4 (i := 50) rfl rfl
set_option maxRecDepth 20000 in
theorem q366 : (Cond.fieldLink RJx4a65c 63 "java/util/ArrayList" "modCount" "I") ∈ xTs := xTs_4 (i := 51) rfl rfl
set_option maxRecDepth 20000 in
theorem q367 : (Cond.lays "java/util/ArrayList" "java/util/ArrayList" "elementData" "[Ljava/lang/Object;") ∈ xTs := xTs_4 (i := 52) rfl rfl
set_option maxRecDepth 20000 in
theorem q368 : (Cond.lays "java/util/ArrayList" "java/util/ArrayList" "size" "I") ∈ xTs := xTs_4 (i := 54) rfl rfl
set_option maxRecDepth 20000 in
theorem q369 : (Cond.lays "java/util/ArrayList" "java/util/AbstractList" "modCount" "I") ∈ xTs := xTs_4 (i := 56) rfl rfl
set_option maxRecDepth 20000 in
theorem q370 : (Cond.fieldLink RX10 12 "ServiceApiaryModel$Registry" "faces" "Ljava/util/ArrayList;") ∈ xTs := xTs_4 (i := 59) rfl rfl
set_option maxRecDepth 20000 in
theorem q371 : (Cond.fieldLink RX12 24 "ServiceApiaryModel$Registry" "faces" "Ljava/util/ArrayList;") ∈ xTs := xTs_4 (i := 60) rfl rfl
set_option maxRecDepth 20000 in
theorem q372 : (Cond.fieldLink RX10 18 "ServiceApiaryModel$Registry" "clients" "Ljava/util/ArrayList;") ∈ xTs := xTs_4 (i := 61) rfl rfl
set_option maxRecDepth 20000 in
theorem q373 : (Cond.fieldLink RX12 53 "ServiceApiaryModel$Registry" "clients" "Ljava/util/ArrayList;") ∈ xTs := xTs_4 (i := 62) rfl rfl
set_option maxRecDepth 20000 in
theorem q374 : (Cond.fieldLink RX10 21 "ServiceApiaryModel$Registry" "adapters" "Ljava/util/ArrayList;") ∈ xTs := xTs_4 (i := 63) rfl rfl
set_option maxRecDepth 20000 in
theorem q375 : (Cond.fieldLink RX12 175 "ServiceApiaryModel$Registry" "adapters" "Ljava/util/ArrayList;") ∈ xTs := xTs_4 (i := 64) rfl rfl
set_option maxRecDepth 20000 in
theorem q376 : (Cond.fieldLink RX10 24 "ServiceApiaryModel$Registry" "calls" "Ljava/util/ArrayList;") ∈ xTs := xTs_4 (i := 65) rfl rfl
set_option maxRecDepth 20000 in
theorem q377 : (Cond.fieldLink RX12 105 "ServiceApiaryModel$Registry" "calls" "Ljava/util/ArrayList;") ∈ xTs := xTs_4 (i := 66) rfl rfl
set_option maxRecDepth 20000 in
theorem q378 : (Cond.fieldLink RX10 50 "ServiceApiaryModel$Registry" "now" "I") ∈ xTs := xTs_4 (i := 67) rfl rfl
set_option maxRecDepth 20000 in
theorem q379 : (Cond.fieldLink RX12 227 "ServiceApiaryModel$Registry" "now" "I") ∈ xTs := xTs_4 (i := 68) rfl rfl
set_option maxRecDepth 20000 in
theorem q380 : (Cond.laysFinal "ServiceApiaryModel$Registry" "ServiceApiaryModel$Registry" "faces" "Ljava/util/ArrayList;") ∈ xTs := xTs_4 (i := 69) rfl rfl
set_option maxRecDepth 20000 in
theorem q381 : (Cond.laysFinal "ServiceApiaryModel$Registry" "ServiceApiaryModel$Registry" "clients" "Ljava/util/ArrayList;") ∈ xTs := xTs_4 (i := 71) rfl rfl
set_option maxRecDepth 20000 in
theorem q382 : (Cond.laysFinal "ServiceApiaryModel$Registry" "ServiceApiaryModel$Registry" "adapters" "Ljava/util/ArrayList;") ∈ xTs := xTs_4 (i := 73) rfl rfl
set_option maxRecDepth 20000 in
theorem q383 : (Cond.laysFinal "ServiceApiaryModel$Registry" "ServiceApiaryModel$Registry" "calls" "Ljava/util/ArrayList;") ∈ xTs := xTs_4 (i := 75) rfl rfl
set_option maxRecDepth 20000 in
theorem q384 : (Cond.lays "ServiceApiaryModel$Registry" "ServiceApiaryModel$Registry" "now" "I") ∈ xTs := xTs_4 (i := 77) rfl rfl
set_option maxRecDepth 20000 in
theorem q385 : (Cond.fieldLink RX12 16 "ServiceApiaryModel" "thrown" "I") ∈ xTs := xTs_4 (i := 80) rfl rfl
set_option maxRecDepth 20000 in
theorem q386 : (Cond.fieldLink RX12 10 "ServiceApiaryModel" "registry" "LServiceApiaryModel$Registry;") ∈ xTs := xTs_4 (i := 81) rfl rfl
set_option maxRecDepth 20000 in
theorem q387 : (Cond.lays "ServiceApiaryModel" "ServiceApiaryModel" "thrown" "I") ∈ xTs := xTs_4 (i := 82) rfl rfl
set_option maxRecDepth 20000 in
theorem q388 : (Cond.laysFinal "ServiceApiaryModel" "ServiceApiaryModel" "registry" "LServiceApiaryModel$Registry;") ∈ xTs := xTs_4 (i := 84) rfl rfl
set_option maxRecDepth 20000 in
theorem q389 : (Cond.methodLink RL 98 yX12_thrown) ∈ xTs := xTs_4 (i := 87) rfl rfl
set_option maxRecDepth 20000 in
theorem q390 : (Cond.instanceMethod yX12_thrown) ∈ xTs := xTs_4 (i := 88) rfl rfl
set_option maxRecDepth 20000 in
theorem q391 : (Cond.selects RX12 yX12_thrown yX12_thrown) ∈ xTs := xTs_4 (i := 89) rfl rfl
set_option maxRecDepth 20000 in
theorem q392 : (Cond.code yX12_thrown cX12_thrown 1 (Option.some Jvm.ClassFile.FieldType.int)) ∈ xTs := xTs_4 (i := 90) rfl rfl
set_option maxRecDepth 20000 in
theorem q393 : (Cond.methodLink RL 97 yX12_open) ∈ xTs := xTs_4 (i := 91) rfl rfl
set_option maxRecDepth 20000 in
theorem q394 : (Cond.instanceMethod yX12_open) ∈ xTs := xTs_4 (i := 92) rfl rfl
set_option maxRecDepth 20000 in
theorem q395 : (Cond.selects RX12 yX12_open yX12_open) ∈ xTs := xTs_4 (i := 93) rfl rfl
set_option maxRecDepth 20000 in
theorem q396 : (Cond.code yX12_open cX12_open 1 (Option.some Jvm.ClassFile.FieldType.int)) ∈ xTs := xTs_4 (i := 94) rfl rfl
set_option maxRecDepth 20000 in
theorem q397 : (Cond.methodLink RX12 28 yJx4a65c_size_8abf5) ∈ xTs := xTs_4 (i := 95) rfl rfl
set_option maxRecDepth 20000 in
theorem q398 : (Cond.instanceMethod yJx4a65c_size_8abf5) ∈ xTs := xTs_4 (i := 96) rfl rfl
set_option maxRecDepth 20000 in
theorem q399 : (Cond.selects RJx4a65c yJx4a65c_size_8abf5 yJx4a65c_size_8abf5) ∈ xTs := xTs_4 (i := 97) rfl rfl
set_option maxRecDepth 20000 in
theorem q400 : (Cond.code yJx4a65c_size_8abf5 cJx4a65c_size_8abf5 1 (Option.some Jvm.ClassFile.FieldType.int)) ∈ xTs := xTs_4 (i := 98) rfl rfl
set_option maxRecDepth 20000 in
theorem q401 : (Cond.methodLink RX12 50 yX12_start) ∈ xTs := xTs_4 (i := 99) rfl rfl
set_option maxRecDepth 20000 in
theorem q402 : (Cond.instanceMethod yX12_start) ∈ xTs := xTs_4 (i := 101) rfl rfl
set_option maxRecDepth 20000 in
theorem q403 : (Cond.code yX12_start cX12_start 3 (Option.some Jvm.ClassFile.FieldType.boolean)) ∈ xTs := xTs_4 (i := 102) rfl rfl
set_option maxRecDepth 20000 in
theorem q404 : (Cond.methodLink RX12 20 yX12_refuse) ∈ xTs := xTs_4 (i := 103) rfl rfl
set_option maxRecDepth 20000 in
theorem q405 : (Cond.instanceMethod yX12_refuse) ∈ xTs := xTs_4 (i := 105) rfl rfl
set_option maxRecDepth 20000 in
theorem q406 : (Cond.code yX12_refuse cX12_refuse 3 (Option.some Jvm.ClassFile.FieldType.boolean)) ∈ xTs := xTs_4 (i := 106) rfl rfl
set_option maxRecDepth 20000 in
theorem q407 : (Cond.classLink RX12 29 RJx4a65c) ∈ xTs := xTs_4 (i := 107) rfl rfl
set_option maxRecDepth 20000 in
theorem q408 : (Cond.methodLink RX12 71 yJx4a65c_init_da8c8) ∈ xTs := xTs_4 (i := 108) rfl rfl
set_option maxRecDepth 20000 in
theorem q409 : (Cond.methodLink RX12 72 yJx4a65c_add_9ea2d) ∈ xTs := xTs_4 (i := 109) rfl rfl
set_option maxRecDepth 20000 in
theorem q410 : (Cond.instanceMethod yJx4a65c_add_9ea2d) ∈ xTs := xTs_4 (i := 110) rfl rfl
set_option maxRecDepth 20000 in
theorem q411 : (Cond.selects RJx4a65c yJx4a65c_add_9ea2d yJx4a65c_add_9ea2d) ∈ xTs := xTs_4 (i := 111) rfl rfl
set_option maxRecDepth 20000 in
theorem q412 : (Cond.code yJx4a65c_add_9ea2d cJx4a65c_add_9ea2d 2 (Option.some Jvm.ClassFile.FieldType.boolean)) ∈ xTs := xTs_4 (i := 112) rfl rfl
set_option maxRecDepth 20000 in
theorem q413 : (Cond.methodLink RJx4a65c 131 yJx4a65c_add_72be8) ∈ xTs := xTs_4 (i := 113) rfl rfl
set_option maxRecDepth 20000 in
theorem q414 : (Cond.instanceMethod yJx4a65c_add_72be8) ∈ xTs := xTs_4 (i := 115) rfl rfl
set_option maxRecDepth 20000 in
theorem q415 : (Cond.code yJx4a65c_add_72be8 cJx4a65c_add_72be8 4 (Option.none : Option Jvm.ClassFile.FieldType)) ∈ xTs := xTs_4 (i := 116) rfl rfl
set_option maxRecDepth 20000 in
theorem q416 : (Cond.methodLink RJx4a65c 129 yJx4a65c_grow_d5877) ∈ xTs := xTs_4 (i := 117) rfl rfl
set_option maxRecDepth 20000 in
theorem q417 : (Cond.instanceMethod yJx4a65c_grow_d5877) ∈ xTs := xTs_4 (i := 119) rfl rfl
set_option maxRecDepth 20000 in
theorem q418 : (Cond.code yJx4a65c_grow_d5877 cJx4a65c_grow_d5877 1 (Option.some (Jvm.ClassFile.FieldType.array (Jvm.ClassFile.FieldType.object "java/lang/Object")))) ∈ xTs := xTs_4 (i := 120) rfl rfl
set_option maxRecDepth 20000 in
theorem q419 : (Cond.methodLink RJx4a65c 69 yJx4a65c_grow_92f84) ∈ xTs := xTs_4 (i := 121) rfl rfl
set_option maxRecDepth 20000 in
theorem q420 : (Cond.instanceMethod yJx4a65c_grow_92f84) ∈ xTs := xTs_4 (i := 123) rfl rfl
set_option maxRecDepth 20000 in
theorem q421 : (Cond.code yJx4a65c_grow_92f84 cJx4a65c_grow_92f84 4 (Option.some (Jvm.ClassFile.FieldType.array (Jvm.ClassFile.FieldType.object "java/lang/Object")))) ∈ xTs := xTs_4 (i := 124) rfl rfl
set_option maxRecDepth 20000 in
theorem q422 : (Cond.classLink RJ7 110 "[Ljava/lang/Object;") ∈ xTs := xTs_4 (i := 161) rfl rfl
set_option maxRecDepth 20000 in
theorem q423 : (Cond.classLink RJ7 2 "java/lang/Object") ∈ xTs := xTs_4 (i := 163) rfl rfl
set_option maxRecDepth 20000 in
theorem q424 : (Cond.methodLink RJx4a65c 79 Lib.Math.max.name) ∈ xTs := xTs_4 (i := 170) rfl rfl
set_option maxRecDepth 20000 in
theorem q425 : (Cond.classLink RJx4a65c 7 "java/lang/Object") ∈ xTs := xTs_4 (i := 171) rfl rfl
set_option maxRecDepth 20000 in
theorem q426 : (Cond.methodLink RL 104 yX12_publish) ∈ xTs := xTs_4 (i := 172) rfl rfl
set_option maxRecDepth 20000 in
theorem q427 : (Cond.instanceMethod yX12_publish) ∈ xTs := xTs_4 (i := 173) rfl rfl
set_option maxRecDepth 20000 in
theorem q428 : (Cond.selects RX12 yX12_publish yX12_publish) ∈ xTs := xTs_4 (i := 174) rfl rfl
set_option maxRecDepth 20000 in
theorem q429 : (Cond.code yX12_publish cX12_publish 8 (Option.some Jvm.ClassFile.FieldType.int)) ∈ xTs := xTs_4 (i := 175) rfl rfl
set_option maxRecDepth 20000 in
theorem q430 : (Cond.methodLink RX12 38 yX12_isNoFace) ∈ xTs := xTs_4 (i := 176) rfl rfl
set_option maxRecDepth 20000 in
theorem q431 : (Cond.instanceMethod yX12_isNoFace) ∈ xTs := xTs_4 (i := 178) rfl rfl
set_option maxRecDepth 20000 in
theorem q432 : (Cond.code yX12_isNoFace cX12_isNoFace 2 (Option.some Jvm.ClassFile.FieldType.boolean)) ∈ xTs := xTs_4 (i := 179) rfl rfl
set_option maxRecDepth 20000 in
theorem q433 : (Cond.methodLink RX12 34 yX12_isIn) ∈ xTs := xTs_4 (i := 180) rfl rfl
set_option maxRecDepth 20000 in
theorem q434 : (Cond.static yX12_isIn) ∈ xTs := xTs_4 (i := 181) rfl rfl
set_option maxRecDepth 20000 in
theorem q435 : (Cond.code yX12_isIn cX12_isIn 3 (Option.some Jvm.ClassFile.FieldType.boolean)) ∈ xTs := xTs_4 (i := 182) rfl rfl
set_option maxRecDepth 20000 in
theorem q436 : (Cond.classLink RX12 79 RX11) ∈ xTs := xTs_4 (i := 203) rfl rfl
set_option maxRecDepth 20000 in
theorem q437 : (Cond.instantiable RX11 8) ∈ xTs := xTs_4 (i := 204) rfl rfl
set_option maxRecDepth 20000 in
theorem q438 : (Cond.fieldLink RX12 121 "ServiceApiaryModel$Version" "has" "I") ∈ xTs := xTs_4 (i := 210) rfl rfl
set_option maxRecDepth 20000 in
theorem q439 : (Cond.fieldLink RX12 124 "ServiceApiaryModel$Version" "needs" "I") ∈ xTs := xTs_4 (i := 212) rfl rfl
set_option maxRecDepth 20000 in
theorem q440 : (Cond.fieldLink RX10 58 "ServiceApiaryModel$Version" "state" "I") ∈ xTs := xTs_4 (i := 214) rfl rfl
set_option maxRecDepth 20000 in
theorem q441 : (Cond.fieldLink RX12 127 "ServiceApiaryModel$Version" "state" "I") ∈ xTs := xTs_4 (i := 215) rfl rfl
set_option maxRecDepth 20000 in
theorem q442 : (Cond.fieldLink RX10 152 "ServiceApiaryModel$Version" "began" "I") ∈ xTs := xTs_4 (i := 217) rfl rfl
set_option maxRecDepth 20000 in
theorem q443 : (Cond.fieldLink RX12 130 "ServiceApiaryModel$Version" "began" "I") ∈ xTs := xTs_4 (i := 218) rfl rfl
set_option maxRecDepth 20000 in
theorem q444 : (Cond.fieldLink RX10 155 "ServiceApiaryModel$Version" "end" "I") ∈ xTs := xTs_4 (i := 220) rfl rfl
set_option maxRecDepth 20000 in
theorem q445 : (Cond.fieldLink RX12 133 "ServiceApiaryModel$Version" "end" "I") ∈ xTs := xTs_4 (i := 221) rfl rfl
set_option maxRecDepth 20000 in
theorem q446 : (Cond.fieldLink RX10 161 "ServiceApiaryModel$Version" "putOff" "I") ∈ xTs := xTs_4 (i := 223) rfl rfl
set_option maxRecDepth 20000 in
theorem q447 : (Cond.fieldLink RX12 143 "ServiceApiaryModel$Version" "putOff" "I") ∈ xTs := xTs_4 (i := 224) rfl rfl
set_option maxRecDepth 20000 in
theorem q448 : (Cond.fieldLink RX12 220 "ServiceApiaryModel$Version" "askedAt" "[I") ∈ xTs := xTs_4 (i := 226) rfl rfl
set_option maxRecDepth 20000 in
theorem q449 : (Cond.fieldLink RX12 233 "ServiceApiaryModel$Version" "answered" "[Z") ∈ xTs := xTs_4 (i := 228) rfl rfl
set_option maxRecDepth 20000 in
theorem q450 : (Cond.arrayClass FieldType.boolean) ∈ xTs := xTs_5 (i := 6) rfl rfl
set_option maxRecDepth 20000 in
theorem q451 : (Cond.methodLink RX12 84 yJx4a65c_iterator_32c93) ∈ xTs := xTs_5 (i := 7) rfl rfl
set_option maxRecDepth 20000 in
theorem q452 : (Cond.instanceMethod yJx4a65c_iterator_32c93) ∈ xTs := xTs_5 (i := 8) rfl rfl
set_option maxRecDepth 20000 in
theorem q453 : (Cond.selects RJx4a65c yJx4a65c_iterator_32c93 yJx4a65c_iterator_32c93) ∈ xTs := xTs_5 (i := 9) rfl rfl
set_option maxRecDepth 20000 in
theorem q454 : (Cond.code yJx4a65c_iterator_32c93 cJx4a65c_iterator_32c93 1 (Option.some (Jvm.ClassFile.FieldType.object "java/util/Iterator"))) ∈ xTs := xTs_5 (i := 10) rfl rfl
set_option maxRecDepth 20000 in
theorem q455 : (Cond.classLink RJx4a65c 267 RJx35411) ∈ xTs := xTs_5 (i := 11) rfl rfl
set_option maxRecDepth 20000 in
theorem q456 : (Cond.instantiable RJx35411 4) ∈ xTs := xTs_5 (i := 12) rfl rfl
set_option maxRecDepth 20000 in
theorem q457 : (Cond.methodLink RJx4a65c 269 yJx35411_init_45d68) ∈ xTs := xTs_5 (i := 13) rfl rfl
set_option maxRecDepth 20000 in
theorem q458 : (Cond.instanceMethod yJx35411_init_45d68) ∈ xTs := xTs_5 (i := 14) rfl rfl
set_option maxRecDepth 20000 in
theorem q459 : (Cond.code yJx35411_init_45d68 cJx35411_init_45d68 2 (Option.none : Option Jvm.ClassFile.FieldType)) ∈ xTs := xTs_5 (i := 15) rfl rfl
set_option maxRecDepth 20000 in
theorem q460 : (Cond.methodLink RJx35411 7 objectInit) ∈ xTs := xTs_5 (i := 16) rfl rfl
set_option maxRecDepth 20000 in
theorem q461 : (Cond.fieldLink RJx35411 25 "java/util/ArrayList$Itr" "cursor" "I") ∈ xTs := xTs_5 (i := 17) rfl rfl
set_option maxRecDepth 20000 in
theorem q462 : (Cond.fieldLink RJx35411 13 "java/util/ArrayList$Itr" "lastRet" "I") ∈ xTs := xTs_5 (i := 18) rfl rfl
set_option maxRecDepth 20000 in
theorem q463 : (Cond.fieldLink RJx35411 22 "java/util/ArrayList$Itr" "expectedModCount" "I") ∈ xTs := xTs_5 (i := 19) rfl rfl
set_option maxRecDepth 20000 in
theorem q464 : (Cond.fieldLink RJx35411 1 "java/util/ArrayList$Itr" "this$0" "Ljava/util/ArrayList;") ∈ xTs := xTs_5 (i := 20) rfl rfl
set_option maxRecDepth 20000 in
theorem q465 : (Cond.lays "java/util/ArrayList$Itr" "java/util/ArrayList$Itr" "cursor" "I") ∈ xTs := xTs_5 (i := 21) rfl rfl
set_option maxRecDepth 20000 in
theorem q466 : (Cond.lays "java/util/ArrayList$Itr" "java/util/ArrayList$Itr" "lastRet" "I") ∈ xTs := xTs_5 (i := 23) rfl rfl
set_option maxRecDepth 20000 in
theorem q467 : (Cond.lays "java/util/ArrayList$Itr" "java/util/ArrayList$Itr" "expectedModCount" "I") ∈ xTs := xTs_5 (i := 25) rfl rfl
set_option maxRecDepth 20000 in
theorem q468 : (Cond.laysFinal "java/util/ArrayList$Itr" "java/util/ArrayList$Itr" "this$0" "Ljava/util/ArrayList;") ∈ xTs := xTs_5 (i := 27) rfl rfl
set_option maxRecDepth 20000 in
theorem q469 : (Cond.methodLink RX12 88 yIt) ∈ xTs := xTs_5 (i := 31) rfl rfl
set_option maxRecDepth 20000 in
theorem q470 : (Cond.selects RJx35411 yIt yJx35411_hasNext_aae02) ∈ xTs := xTs_5 (i := 35) rfl rfl
set_option maxRecDepth 20000 in
theorem q471 : (Cond.instanceMethod yJx35411_hasNext_aae02) ∈ xTs := xTs_5 (i := 37) rfl rfl
set_option maxRecDepth 20000 in
theorem q472 : (Cond.code yJx35411_hasNext_aae02 cJx35411_hasNext_aae02 1 (Option.some Jvm.ClassFile.FieldType.boolean)) ∈ xTs := xTs_5 (i := 39) rfl rfl
set_option maxRecDepth 20000 in
theorem q473 : (Cond.methodLink RL 107 yX12_ofVersion) ∈ xTs := xTs_5 (i := 57) rfl rfl
set_option maxRecDepth 20000 in
theorem q474 : (Cond.instanceMethod yX12_ofVersion) ∈ xTs := xTs_5 (i := 58) rfl rfl
set_option maxRecDepth 20000 in
theorem q475 : (Cond.selects RX12 yX12_ofVersion yX12_ofVersion) ∈ xTs := xTs_5 (i := 59) rfl rfl
set_option maxRecDepth 20000 in
theorem q476 : (Cond.code yX12_ofVersion cX12_ofVersion 4 (Option.some Jvm.ClassFile.FieldType.int)) ∈ xTs := xTs_5 (i := 60) rfl rfl
set_option maxRecDepth 20000 in
theorem q477 : (Cond.methodLink RX12 152 yX12_isNoVersion) ∈ xTs := xTs_5 (i := 61) rfl rfl
set_option maxRecDepth 20000 in
theorem q478 : (Cond.instanceMethod yX12_isNoVersion) ∈ xTs := xTs_5 (i := 63) rfl rfl
set_option maxRecDepth 20000 in
theorem q479 : (Cond.code yX12_isNoVersion cX12_isNoVersion 3 (Option.some Jvm.ClassFile.FieldType.boolean)) ∈ xTs := xTs_5 (i := 64) rfl rfl
set_option maxRecDepth 20000 in
theorem q480 : (Cond.methodLink RX12 46 yX12_isNo) ∈ xTs := xTs_5 (i := 65) rfl rfl
set_option maxRecDepth 20000 in
theorem q481 : (Cond.instanceMethod yX12_isNo) ∈ xTs := xTs_5 (i := 67) rfl rfl
set_option maxRecDepth 20000 in
theorem q482 : (Cond.code yX12_isNo cX12_isNo 3 (Option.some Jvm.ClassFile.FieldType.boolean)) ∈ xTs := xTs_5 (i := 68) rfl rfl
set_option maxRecDepth 20000 in
theorem q483 : (Cond.classLink RX10 36 RX11) ∈ xTs := xTs_5 (i := 82) rfl rfl
set_option maxRecDepth 20000 in
theorem q484 : (Cond.classLink RX10 91 RX9) ∈ xTs := xTs_5 (i := 91) rfl rfl
set_option maxRecDepth 20000 in
theorem q485 : (Cond.methodLink RX10 28 yJx4a65c_size_8abf5) ∈ xTs := xTs_5 (i := 96) rfl rfl
set_option maxRecDepth 20000 in
theorem q486 : (Cond.classLink RX10 96 RX8) ∈ xTs := xTs_5 (i := 97) rfl rfl
set_option maxRecDepth 20000 in
theorem q487 : (Cond.classLink RX10 65 RX7) ∈ xTs := xTs_5 (i := 124) rfl rfl
set_option maxRecDepth 20000 in
theorem q488 : (Cond.classLink RX12 108 RX8) ∈ xTs := xTs_5 (i := 134) rfl rfl
set_option maxRecDepth 20000 in
theorem q489 : (Cond.classLink RX12 59 RX9) ∈ xTs := xTs_5 (i := 135) rfl rfl
set_option maxRecDepth 20000 in
theorem q490 : (Cond.methodLink RL 110 yX12_isCompatible) ∈ xTs := xTs_5 (i := 144) rfl rfl
set_option maxRecDepth 20000 in
theorem q491 : (Cond.instanceMethod yX12_isCompatible) ∈ xTs := xTs_5 (i := 145) rfl rfl
set_option maxRecDepth 20000 in
theorem q492 : (Cond.selects RX12 yX12_isCompatible yX12_isCompatible) ∈ xTs := xTs_5 (i := 146) rfl rfl
set_option maxRecDepth 20000 in
theorem q493 : (Cond.code yX12_isCompatible cX12_isCompatible 4 (Option.some Jvm.ClassFile.FieldType.boolean)) ∈ xTs := xTs_5 (i := 147) rfl rfl
set_option maxRecDepth 20000 in
theorem q494 : (Cond.methodLink RL 114 yX12_client) ∈ xTs := xTs_5 (i := 148) rfl rfl
set_option maxRecDepth 20000 in
theorem q495 : (Cond.instanceMethod yX12_client) ∈ xTs := xTs_5 (i := 149) rfl rfl
set_option maxRecDepth 20000 in
theorem q496 : (Cond.selects RX12 yX12_client yX12_client) ∈ xTs := xTs_5 (i := 150) rfl rfl
set_option maxRecDepth 20000 in
theorem q497 : (Cond.code yX12_client cX12_client 5 (Option.some Jvm.ClassFile.FieldType.int)) ∈ xTs := xTs_5 (i := 151) rfl rfl
set_option maxRecDepth 20000 in
theorem q498 : (Cond.instantiable RX9 4) ∈ xTs := xTs_5 (i := 153) rfl rfl
set_option maxRecDepth 20000 in
theorem q499 : (Cond.fieldLink RX10 128 "ServiceApiaryModel$Client" "owner" "I") ∈ xTs := xTs_5 (i := 159) rfl rfl
set_option maxRecDepth 20000 in
theorem q500 : (Cond.fieldLink RX12 183 "ServiceApiaryModel$Client" "owner" "I") ∈ xTs := xTs_5 (i := 160) rfl rfl
set_option maxRecDepth 20000 in
theorem q501 : (Cond.fieldLink RX10 90 "ServiceApiaryModel$Client" "face" "I") ∈ xTs := xTs_5 (i := 162) rfl rfl
set_option maxRecDepth 20000 in
theorem q502 : (Cond.fieldLink RX12 61 "ServiceApiaryModel$Client" "face" "I") ∈ xTs := xTs_5 (i := 163) rfl rfl
set_option maxRecDepth 20000 in
theorem q503 : (Cond.fieldLink RX10 115 "ServiceApiaryModel$Client" "version" "I") ∈ xTs := xTs_5 (i := 165) rfl rfl
set_option maxRecDepth 20000 in
theorem q504 : (Cond.fieldLink RX12 119 "ServiceApiaryModel$Client" "version" "I") ∈ xTs := xTs_5 (i := 166) rfl rfl
set_option maxRecDepth 20000 in
theorem q505 : (Cond.fieldLink RX10 93 "ServiceApiaryModel$Client" "uses" "I") ∈ xTs := xTs_5 (i := 168) rfl rfl
set_option maxRecDepth 20000 in
theorem q506 : (Cond.fieldLink RX12 165 "ServiceApiaryModel$Client" "uses" "I") ∈ xTs := xTs_5 (i := 169) rfl rfl
set_option maxRecDepth 20000 in
theorem q507 : (Cond.methodLink RL 118 yX12_again) ∈ xTs := xTs_5 (i := 179) rfl rfl
set_option maxRecDepth 20000 in
theorem q508 : (Cond.instanceMethod yX12_again) ∈ xTs := xTs_5 (i := 180) rfl rfl
set_option maxRecDepth 20000 in
theorem q509 : (Cond.selects RX12 yX12_again yX12_again) ∈ xTs := xTs_5 (i := 181) rfl rfl
set_option maxRecDepth 20000 in
theorem q510 : (Cond.code yX12_again cX12_again 4 (Option.some Jvm.ClassFile.FieldType.int)) ∈ xTs := xTs_5 (i := 182) rfl rfl
set_option maxRecDepth 20000 in
theorem q511 : (Cond.methodLink RX12 168 yX12_isNoPair) ∈ xTs := xTs_5 (i := 183) rfl rfl
set_option maxRecDepth 20000 in
theorem q512 : (Cond.instanceMethod yX12_isNoPair) ∈ xTs := xTs_5 (i := 185) rfl rfl
set_option maxRecDepth 20000 in
theorem q513 : (Cond.code yX12_isNoPair cX12_isNoPair 3 (Option.some Jvm.ClassFile.FieldType.boolean)) ∈ xTs := xTs_5 (i := 186) rfl rfl
set_option maxRecDepth 20000 in
theorem q514 : (Cond.methodLink RX12 56 yX12_isNoOne) ∈ xTs := xTs_5 (i := 187) rfl rfl
set_option maxRecDepth 20000 in
theorem q515 : (Cond.instanceMethod yX12_isNoOne) ∈ xTs := xTs_5 (i := 189) rfl rfl
set_option maxRecDepth 20000 in
theorem q516 : (Cond.code yX12_isNoOne cX12_isNoOne 2 (Option.some Jvm.ClassFile.FieldType.boolean)) ∈ xTs := xTs_5 (i := 190) rfl rfl
set_option maxRecDepth 20000 in
theorem q517 : (Cond.methodLink RL 122 yX12_adapter) ∈ xTs := xTs_5 (i := 195) rfl rfl
set_option maxRecDepth 20000 in
theorem q518 : (Cond.instanceMethod yX12_adapter) ∈ xTs := xTs_5 (i := 196) rfl rfl
set_option maxRecDepth 20000 in
theorem q519 : (Cond.selects RX12 yX12_adapter yX12_adapter) ∈ xTs := xTs_5 (i := 197) rfl rfl
set_option maxRecDepth 20000 in
theorem q520 : (Cond.code yX12_adapter cX12_adapter 6 (Option.some Jvm.ClassFile.FieldType.int)) ∈ xTs := xTs_5 (i := 198) rfl rfl
set_option maxRecDepth 20000 in
theorem q521 : (Cond.classLink RX12 178 RX7) ∈ xTs := xTs_5 (i := 199) rfl rfl
set_option maxRecDepth 20000 in
theorem q522 : (Cond.instantiable RX7 5) ∈ xTs := xTs_5 (i := 200) rfl rfl
set_option maxRecDepth 20000 in
theorem q523 : (Cond.fieldLink RX10 67 "ServiceApiaryModel$Adapter" "face" "I") ∈ xTs := xTs_5 (i := 206) rfl rfl
set_option maxRecDepth 20000 in
theorem q524 : (Cond.fieldLink RX10 70 "ServiceApiaryModel$Adapter" "from" "I") ∈ xTs := xTs_5 (i := 208) rfl rfl
set_option maxRecDepth 20000 in
theorem q525 : (Cond.fieldLink RX10 73 "ServiceApiaryModel$Adapter" "to" "I") ∈ xTs := xTs_5 (i := 210) rfl rfl
set_option maxRecDepth 20000 in
theorem q526 : (Cond.fieldLink RX12 198 "ServiceApiaryModel$Adapter" "to" "I") ∈ xTs := xTs_5 (i := 211) rfl rfl
set_option maxRecDepth 20000 in
theorem q527 : (Cond.methodLink RL 125 yX12_ofClient) ∈ xTs := xTs_5 (i := 225) rfl rfl
set_option maxRecDepth 20000 in
theorem q528 : (Cond.instanceMethod yX12_ofClient) ∈ xTs := xTs_5 (i := 226) rfl rfl
set_option maxRecDepth 20000 in
theorem q529 : (Cond.selects RX12 yX12_ofClient yX12_ofClient) ∈ xTs := xTs_5 (i := 227) rfl rfl
set_option maxRecDepth 20000 in
theorem q530 : (Cond.code yX12_ofClient cX12_ofClient 3 (Option.some Jvm.ClassFile.FieldType.int)) ∈ xTs := xTs_5 (i := 228) rfl rfl
set_option maxRecDepth 20000 in
theorem q531 : (Cond.methodLink RX12 201 yX12_isNoClient) ∈ xTs := xTs_5 (i := 229) rfl rfl
set_option maxRecDepth 20000 in
theorem q532 : (Cond.instanceMethod yX12_isNoClient) ∈ xTs := xTs_5 (i := 231) rfl rfl
set_option maxRecDepth 20000 in
theorem q533 : (Cond.code yX12_isNoClient cX12_isNoClient 2 (Option.some Jvm.ClassFile.FieldType.boolean)) ∈ xTs := xTs_5 (i := 232) rfl rfl
set_option maxRecDepth 20000 in
theorem q534 : (Cond.methodLink RL 128 yX12_routed) ∈ xTs := xTs_6 (i := 3) rfl rfl
set_option maxRecDepth 20000 in
theorem q535 : (Cond.instanceMethod yX12_routed) ∈ xTs := xTs_6 (i := 4) rfl rfl
set_option maxRecDepth 20000 in
theorem q536 : (Cond.selects RX12 yX12_routed yX12_routed) ∈ xTs := xTs_6 (i := 5) rfl rfl
set_option maxRecDepth 20000 in
theorem q537 : (Cond.code yX12_routed cX12_routed 4 (Option.some Jvm.ClassFile.FieldType.int)) ∈ xTs := xTs_6 (i := 6) rfl rfl
set_option maxRecDepth 20000 in
theorem q538 : (Cond.methodLink RL 131 yX12_call) ∈ xTs := xTs_6 (i := 7) rfl rfl
set_option maxRecDepth 20000 in
theorem q539 : (Cond.instanceMethod yX12_call) ∈ xTs := xTs_6 (i := 8) rfl rfl
set_option maxRecDepth 20000 in
theorem q540 : (Cond.selects RX12 yX12_call yX12_call) ∈ xTs := xTs_6 (i := 9) rfl rfl
set_option maxRecDepth 20000 in
theorem q541 : (Cond.code yX12_call cX12_call 5 (Option.some Jvm.ClassFile.FieldType.int)) ∈ xTs := xTs_6 (i := 10) rfl rfl
set_option maxRecDepth 20000 in
theorem q542 : (Cond.instantiable RX8 4) ∈ xTs := xTs_6 (i := 19) rfl rfl
set_option maxRecDepth 20000 in
theorem q543 : (Cond.fieldLink RX10 98 "ServiceApiaryModel$Call" "client" "I") ∈ xTs := xTs_6 (i := 47) rfl rfl
set_option maxRecDepth 20000 in
theorem q544 : (Cond.fieldLink RX12 110 "ServiceApiaryModel$Call" "client" "I") ∈ xTs := xTs_6 (i := 48) rfl rfl
set_option maxRecDepth 20000 in
theorem q545 : (Cond.fieldLink RX10 101 "ServiceApiaryModel$Call" "version" "I") ∈ xTs := xTs_6 (i := 50) rfl rfl
set_option maxRecDepth 20000 in
theorem q546 : (Cond.fieldLink RX12 113 "ServiceApiaryModel$Call" "version" "I") ∈ xTs := xTs_6 (i := 51) rfl rfl
set_option maxRecDepth 20000 in
theorem q547 : (Cond.fieldLink RX10 104 "ServiceApiaryModel$Call" "at" "I") ∈ xTs := xTs_6 (i := 53) rfl rfl
set_option maxRecDepth 20000 in
theorem q548 : (Cond.fieldLink RX12 243 "ServiceApiaryModel$Call" "came" "I") ∈ xTs := xTs_6 (i := 55) rfl rfl
set_option maxRecDepth 20000 in
theorem q549 : (Cond.methodLink RX10 42 yJx4a65c_add_9ea2d) ∈ xTs := xTs_6 (i := 65) rfl rfl
set_option maxRecDepth 20000 in
theorem q550 : (Cond.methodLink RL 135 yX12_pass) ∈ xTs := xTs_6 (i := 66) rfl rfl
set_option maxRecDepth 20000 in
theorem q551 : (Cond.instanceMethod yX12_pass) ∈ xTs := xTs_6 (i := 67) rfl rfl
set_option maxRecDepth 20000 in
theorem q552 : (Cond.selects RX12 yX12_pass yX12_pass) ∈ xTs := xTs_6 (i := 68) rfl rfl
set_option maxRecDepth 20000 in
theorem q553 : (Cond.code yX12_pass cX12_pass 4 (Option.some Jvm.ClassFile.FieldType.int)) ∈ xTs := xTs_6 (i := 69) rfl rfl
set_option maxRecDepth 20000 in
theorem q554 : (Cond.methodLink RX12 210 yX10_begin) ∈ xTs := xTs_6 (i := 70) rfl rfl
set_option maxRecDepth 20000 in
theorem q555 : (Cond.instanceMethod yX10_begin) ∈ xTs := xTs_6 (i := 71) rfl rfl
set_option maxRecDepth 20000 in
theorem q556 : (Cond.selects RX10 yX10_begin yX10_begin) ∈ xTs := xTs_6 (i := 72) rfl rfl
set_option maxRecDepth 20000 in
theorem q557 : (Cond.code yX10_begin cX10_begin 4 (Option.some Jvm.ClassFile.FieldType.int)) ∈ xTs := xTs_6 (i := 73) rfl rfl
set_option maxRecDepth 20000 in
theorem q558 : (Cond.methodLink RL 138 yX12_lastCall) ∈ xTs := xTs_6 (i := 79) rfl rfl
set_option maxRecDepth 20000 in
theorem q559 : (Cond.instanceMethod yX12_lastCall) ∈ xTs := xTs_6 (i := 80) rfl rfl
set_option maxRecDepth 20000 in
theorem q560 : (Cond.selects RX12 yX12_lastCall yX12_lastCall) ∈ xTs := xTs_6 (i := 81) rfl rfl
set_option maxRecDepth 20000 in
theorem q561 : (Cond.code yX12_lastCall cX12_lastCall 3 (Option.some Jvm.ClassFile.FieldType.int)) ∈ xTs := xTs_6 (i := 82) rfl rfl
set_option maxRecDepth 20000 in
theorem q562 : (Cond.methodLink RL 141 yX12_retire) ∈ xTs := xTs_6 (i := 84) rfl rfl
set_option maxRecDepth 20000 in
theorem q563 : (Cond.instanceMethod yX12_retire) ∈ xTs := xTs_6 (i := 85) rfl rfl
set_option maxRecDepth 20000 in
theorem q564 : (Cond.selects RX12 yX12_retire yX12_retire) ∈ xTs := xTs_6 (i := 86) rfl rfl
set_option maxRecDepth 20000 in
theorem q565 : (Cond.code yX12_retire cX12_retire 9 (Option.some Jvm.ClassFile.FieldType.int)) ∈ xTs := xTs_6 (i := 87) rfl rfl
set_option maxRecDepth 20000 in
theorem q566 : (Cond.methodLink RL 144 yX12_answer) ∈ xTs := xTs_6 (i := 92) rfl rfl
set_option maxRecDepth 20000 in
theorem q567 : (Cond.instanceMethod yX12_answer) ∈ xTs := xTs_6 (i := 93) rfl rfl
set_option maxRecDepth 20000 in
theorem q568 : (Cond.selects RX12 yX12_answer yX12_answer) ∈ xTs := xTs_6 (i := 94) rfl rfl
set_option maxRecDepth 20000 in
theorem q569 : (Cond.code yX12_answer cX12_answer 5 (Option.some Jvm.ClassFile.FieldType.boolean)) ∈ xTs := xTs_6 (i := 95) rfl rfl
set_option maxRecDepth 20000 in
theorem q570 : (Cond.methodLink RX12 224 yX12_isNoAsk) ∈ xTs := xTs_6 (i := 96) rfl rfl
set_option maxRecDepth 20000 in
theorem q571 : (Cond.instanceMethod yX12_isNoAsk) ∈ xTs := xTs_6 (i := 98) rfl rfl
set_option maxRecDepth 20000 in
theorem q572 : (Cond.code yX12_isNoAsk cX12_isNoAsk 4 (Option.some Jvm.ClassFile.FieldType.boolean)) ∈ xTs := xTs_6 (i := 99) rfl rfl
set_option maxRecDepth 20000 in
theorem q573 : (Cond.methodLink RL 147 yX12_recall) ∈ xTs := xTs_6 (i := 101) rfl rfl
set_option maxRecDepth 20000 in
theorem q574 : (Cond.instanceMethod yX12_recall) ∈ xTs := xTs_6 (i := 102) rfl rfl
set_option maxRecDepth 20000 in
theorem q575 : (Cond.selects RX12 yX12_recall yX12_recall) ∈ xTs := xTs_6 (i := 103) rfl rfl
set_option maxRecDepth 20000 in
theorem q576 : (Cond.code yX12_recall cX12_recall 4 (Option.some Jvm.ClassFile.FieldType.int)) ∈ xTs := xTs_6 (i := 104) rfl rfl
set_option maxRecDepth 20000 in
theorem q577 : (Cond.methodLink RL 150 yX12_asked) ∈ xTs := xTs_6 (i := 109) rfl rfl
set_option maxRecDepth 20000 in
theorem q578 : (Cond.instanceMethod yX12_asked) ∈ xTs := xTs_6 (i := 110) rfl rfl
set_option maxRecDepth 20000 in
theorem q579 : (Cond.selects RX12 yX12_asked yX12_asked) ∈ xTs := xTs_6 (i := 111) rfl rfl
set_option maxRecDepth 20000 in
theorem q580 : (Cond.code yX12_asked cX12_asked 4 (Option.some Jvm.ClassFile.FieldType.int)) ∈ xTs := xTs_6 (i := 112) rfl rfl
set_option maxRecDepth 20000 in
theorem q581 : (Cond.methodLink RL 153 yX12_many) ∈ xTs := xTs_6 (i := 117) rfl rfl
set_option maxRecDepth 20000 in
theorem q582 : (Cond.instanceMethod yX12_many) ∈ xTs := xTs_6 (i := 118) rfl rfl
set_option maxRecDepth 20000 in
theorem q583 : (Cond.selects RX12 yX12_many yX12_many) ∈ xTs := xTs_6 (i := 119) rfl rfl
set_option maxRecDepth 20000 in
theorem q584 : (Cond.code yX12_many cX12_many 2 (Option.some Jvm.ClassFile.FieldType.int)) ∈ xTs := xTs_6 (i := 120) rfl rfl
set_option maxRecDepth 20000 in
theorem q585 : (Cond.methodLink RX12 252 yX12_count) ∈ xTs := xTs_6 (i := 121) rfl rfl
set_option maxRecDepth 20000 in
theorem q586 : (Cond.instanceMethod yX12_count) ∈ xTs := xTs_6 (i := 123) rfl rfl
set_option maxRecDepth 20000 in
theorem q587 : (Cond.code yX12_count cX12_count 2 (Option.some Jvm.ClassFile.FieldType.int)) ∈ xTs := xTs_6 (i := 124) rfl rfl
set_option maxRecDepth 20000 in
theorem q588 : (Cond.methodLink RX12 246 yX12_versionsIn) ∈ xTs := xTs_6 (i := 125) rfl rfl
set_option maxRecDepth 20000 in
theorem q589 : (Cond.instanceMethod yX12_versionsIn) ∈ xTs := xTs_6 (i := 127) rfl rfl
set_option maxRecDepth 20000 in
theorem q590 : (Cond.code yX12_versionsIn cX12_versionsIn 7 (Option.some Jvm.ClassFile.FieldType.int)) ∈ xTs := xTs_6 (i := 128) rfl rfl
set_option maxRecDepth 20000 in
theorem q591 : (Cond.methodLink RX12 249 yX12_callsThat) ∈ xTs := xTs_6 (i := 129) rfl rfl
set_option maxRecDepth 20000 in
theorem q592 : (Cond.instanceMethod yX12_callsThat) ∈ xTs := xTs_6 (i := 131) rfl rfl
set_option maxRecDepth 20000 in
theorem q593 : (Cond.code yX12_callsThat cX12_callsThat 6 (Option.some Jvm.ClassFile.FieldType.int)) ∈ xTs := xTs_6 (i := 132) rfl rfl
set_option maxRecDepth 20000 in
theorem q594 : (Cond.methodLink RL 158 yX12_servedShare) ∈ xTs := xTs_6 (i := 133) rfl rfl
set_option maxRecDepth 20000 in
theorem q595 : (Cond.instanceMethod yX12_servedShare) ∈ xTs := xTs_6 (i := 134) rfl rfl
set_option maxRecDepth 20000 in
theorem q596 : (Cond.selects RX12 yX12_servedShare yX12_servedShare) ∈ xTs := xTs_6 (i := 135) rfl rfl
set_option maxRecDepth 20000 in
theorem q597 : (Cond.code yX12_servedShare cX12_servedShare 1 (Option.some Jvm.ClassFile.FieldType.double)) ∈ xTs := xTs_6 (i := 136) rfl rfl
set_option maxRecDepth 20000 in
theorem q598 : (Cond.methodLink RX12 255 yJx4a65c_isEmpty_aae02) ∈ xTs := xTs_6 (i := 137) rfl rfl
set_option maxRecDepth 20000 in
theorem q599 : (Cond.instanceMethod yJx4a65c_isEmpty_aae02) ∈ xTs := xTs_6 (i := 138) rfl rfl
set_option maxRecDepth 20000 in
theorem q600 : (Cond.selects RJx4a65c yJx4a65c_isEmpty_aae02 yJx4a65c_isEmpty_aae02) ∈ xTs := xTs_6 (i := 139) rfl rfl
set_option maxRecDepth 20000 in
theorem q601 : (Cond.code yJx4a65c_isEmpty_aae02 cJx4a65c_isEmpty_aae02 1 (Option.some Jvm.ClassFile.FieldType.boolean)) ∈ xTs := xTs_6 (i := 140) rfl rfl
set_option maxRecDepth 20000 in
theorem q602 : (Cond.methodLink RL 161 yX12_wouldCome) ∈ xTs := xTs_6 (i := 141) rfl rfl
set_option maxRecDepth 20000 in
theorem q603 : (Cond.instanceMethod yX12_wouldCome) ∈ xTs := xTs_6 (i := 142) rfl rfl
set_option maxRecDepth 20000 in
theorem q604 : (Cond.selects RX12 yX12_wouldCome yX12_wouldCome) ∈ xTs := xTs_6 (i := 143) rfl rfl
set_option maxRecDepth 20000 in
theorem q605 : (Cond.code yX12_wouldCome cX12_wouldCome 3 (Option.some Jvm.ClassFile.FieldType.int)) ∈ xTs := xTs_6 (i := 144) rfl rfl
set_option maxRecDepth 20000 in
theorem q606 : (Cond.classLink RX10 13 RX10) ∈ xTs := xTs_6 (i := 153) rfl rfl
set_option maxRecDepth 20000 in
theorem q607 : (Cond.methodLink RX10 27 yX10_init) ∈ xTs := xTs_6 (i := 154) rfl rfl
set_option maxRecDepth 20000 in
theorem q608 : (Cond.methodLink RL 164 yX12_goneIn) ∈ xTs := xTs_6 (i := 178) rfl rfl
set_option maxRecDepth 20000 in
theorem q609 : (Cond.instanceMethod yX12_goneIn) ∈ xTs := xTs_6 (i := 179) rfl rfl
set_option maxRecDepth 20000 in
theorem q610 : (Cond.selects RX12 yX12_goneIn yX12_goneIn) ∈ xTs := xTs_6 (i := 180) rfl rfl
set_option maxRecDepth 20000 in
theorem q611 : (Cond.code yX12_goneIn cX12_goneIn 3 (Option.some Jvm.ClassFile.FieldType.int)) ∈ xTs := xTs_6 (i := 181) rfl rfl
set_option maxRecDepth 20000 in
theorem q612 : (Cond.methodLink RL 167 yX12_wouldBreak) ∈ xTs := xTs_6 (i := 194) rfl rfl
set_option maxRecDepth 20000 in
theorem q613 : (Cond.instanceMethod yX12_wouldBreak) ∈ xTs := xTs_6 (i := 195) rfl rfl
set_option maxRecDepth 20000 in
theorem q614 : (Cond.selects RX12 yX12_wouldBreak yX12_wouldBreak) ∈ xTs := xTs_6 (i := 196) rfl rfl
set_option maxRecDepth 20000 in
theorem q615 : (Cond.code yX12_wouldBreak cX12_wouldBreak 8 (Option.some Jvm.ClassFile.FieldType.int)) ∈ xTs := xTs_6 (i := 197) rfl rfl
set_option maxRecDepth 20000 in
theorem q616 : (Cond.methodLink RL 170 yX12_target) ∈ xTs := xTs_6 (i := 198) rfl rfl
set_option maxRecDepth 20000 in
theorem q617 : (Cond.instanceMethod yX12_target) ∈ xTs := xTs_6 (i := 199) rfl rfl
set_option maxRecDepth 20000 in
theorem q618 : (Cond.selects RX12 yX12_target yX12_target) ∈ xTs := xTs_6 (i := 200) rfl rfl
set_option maxRecDepth 20000 in
theorem q619 : (Cond.code yX12_target cX12_target 2 (Option.some Jvm.ClassFile.FieldType.int)) ∈ xTs := xTs_6 (i := 201) rfl rfl
set_option maxRecDepth 20000 in
theorem q620 : (Cond.methodLink RL 173 yX12_goneBy) ∈ xTs := xTs_6 (i := 207) rfl rfl
set_option maxRecDepth 20000 in
theorem q621 : (Cond.instanceMethod yX12_goneBy) ∈ xTs := xTs_6 (i := 208) rfl rfl
set_option maxRecDepth 20000 in
theorem q622 : (Cond.selects RX12 yX12_goneBy yX12_goneBy) ∈ xTs := xTs_6 (i := 209) rfl rfl
set_option maxRecDepth 20000 in
theorem q623 : (Cond.code yX12_goneBy cX12_goneBy 5 (Option.some Jvm.ClassFile.FieldType.int)) ∈ xTs := xTs_6 (i := 210) rfl rfl
set_option maxRecDepth 20000 in
theorem q624 : (Cond.methodLink RL 178 yX12_digest) ∈ xTs := xTs_6 (i := 211) rfl rfl
set_option maxRecDepth 20000 in
theorem q625 : (Cond.instanceMethod yX12_digest) ∈ xTs := xTs_6 (i := 212) rfl rfl
set_option maxRecDepth 20000 in
theorem q626 : (Cond.selects RX12 yX12_digest yX12_digest) ∈ xTs := xTs_6 (i := 213) rfl rfl
set_option maxRecDepth 20000 in
theorem q627 : (Cond.code yX12_digest cX12_digest 7 (Option.some Jvm.ClassFile.FieldType.long)) ∈ xTs := xTs_6 (i := 214) rfl rfl
set_option maxRecDepth 20000 in
theorem q628 : (Cond.constantLong RX12 284 58106) ∈ xTs := xTs_6 (i := 215) rfl rfl
set_option maxRecDepth 20000 in
theorem q629 : (Cond.methodLink RX12 286 yX12_add) ∈ xTs := xTs_6 (i := 216) rfl rfl
set_option maxRecDepth 20000 in
theorem q630 : (Cond.static yX12_add) ∈ xTs := xTs_6 (i := 217) rfl rfl
set_option maxRecDepth 20000 in
theorem q631 : (Cond.code yX12_add cX12_add 4 (Option.some Jvm.ClassFile.FieldType.long)) ∈ xTs := xTs_6 (i := 218) rfl rfl
set_option maxRecDepth 20000 in
theorem q632 : (Cond.constantLong RX12 282 31) ∈ xTs := xTs_6 (i := 219) rfl rfl
set_option maxRecDepth 20000 in
theorem q633 : (Cond.arrayClass FieldType.long) ∈ xTs := xTs_6 (i := 220) rfl rfl
set_option maxRecDepth 20000 in
theorem q634 : (Cond.selects RX6 yX6_countOf yX6_countOf) ∈ xTs := xTs_0 (i := 0) rfl rfl
set_option maxRecDepth 20000 in
theorem q635 : (Cond.selects RX6 yX6_countVersions yX6_countVersions) ∈ xTs := xTs_0 (i := 1) rfl rfl
set_option maxRecDepth 20000 in
theorem q636 : (Cond.selects RX6 yX6_versionAt yX6_versionAt) ∈ xTs := xTs_0 (i := 2) rfl rfl
set_option maxRecDepth 20000 in
theorem q637 : (Cond.selects RX6 yX6_faceAt yX6_faceAt) ∈ xTs := xTs_0 (i := 3) rfl rfl
set_option maxRecDepth 20000 in
theorem q638 : (Cond.selects RX6 yX6_clientAt yX6_clientAt) ∈ xTs := xTs_0 (i := 22) rfl rfl
set_option maxRecDepth 20000 in
theorem q639 : (Cond.selects RX6 yX6_beginHour yX6_beginHour) ∈ xTs := xTs_0 (i := 24) rfl rfl
set_option maxRecDepth 20000 in
theorem q640 : (Cond.selects RX12 yX12_start yX12_start) ∈ xTs := xTs_0 (i := 27) rfl rfl
set_option maxRecDepth 20000 in
theorem q641 : (Cond.selects RX12 yX12_refuse yX12_refuse) ∈ xTs := xTs_0 (i := 28) rfl rfl
set_option maxRecDepth 20000 in
theorem q642 : (Cond.selects RJx4a65c yJx4a65c_add_72be8 yJx4a65c_add_72be8) ∈ xTs := xTs_0 (i := 29) rfl rfl
set_option maxRecDepth 20000 in
theorem q643 : (Cond.selects RJx4a65c yJx4a65c_grow_d5877 yJx4a65c_grow_d5877) ∈ xTs := xTs_0 (i := 30) rfl rfl
set_option maxRecDepth 20000 in
theorem q644 : (Cond.selects RJx4a65c yJx4a65c_grow_92f84 yJx4a65c_grow_92f84) ∈ xTs := xTs_0 (i := 31) rfl rfl
set_option maxRecDepth 20000 in
theorem q645 : (Cond.selects RX12 yX12_isNoFace yX12_isNoFace) ∈ xTs := xTs_0 (i := 32) rfl rfl
set_option maxRecDepth 20000 in
theorem q646 : (Cond.selects RX12 yX12_isNoVersion yX12_isNoVersion) ∈ xTs := xTs_0 (i := 33) rfl rfl
set_option maxRecDepth 20000 in
theorem q647 : (Cond.selects RX12 yX12_isNo yX12_isNo) ∈ xTs := xTs_0 (i := 34) rfl rfl
set_option maxRecDepth 20000 in
theorem q648 : (Cond.selects RX12 yX12_isNoPair yX12_isNoPair) ∈ xTs := xTs_0 (i := 41) rfl rfl
set_option maxRecDepth 20000 in
theorem q649 : (Cond.selects RX12 yX12_isNoOne yX12_isNoOne) ∈ xTs := xTs_0 (i := 42) rfl rfl
set_option maxRecDepth 20000 in
theorem q650 : (Cond.selects RX12 yX12_isNoClient yX12_isNoClient) ∈ xTs := xTs_0 (i := 44) rfl rfl
set_option maxRecDepth 20000 in
theorem q651 : (Cond.selects RX12 yX12_isNoAsk yX12_isNoAsk) ∈ xTs := xTs_0 (i := 49) rfl rfl
set_option maxRecDepth 20000 in
theorem q652 : (Cond.selects RX12 yX12_count yX12_count) ∈ xTs := xTs_0 (i := 51) rfl rfl
set_option maxRecDepth 20000 in
theorem q653 : (Cond.selects RX12 yX12_versionsIn yX12_versionsIn) ∈ xTs := xTs_0 (i := 52) rfl rfl
set_option maxRecDepth 20000 in
theorem q654 : (Cond.selects RX12 yX12_callsThat yX12_callsThat) ∈ xTs := xTs_0 (i := 53) rfl rfl
theorem x_AOm {ty : FieldType} {u U : State} (hvm : u.vm.Alike U.vm) (h : va_Nw (Cond.arrayOver ty) u) : va_Nw (Cond.arrayOver ty) U := by
  unfold va_Nw at h ⊢
  rw [← Cond.arrayOver_setVmC hvm] at h
  exact h
theorem x_AOof {ty : FieldType} {A : Array Value} {U : State} (h : (Cond.arrayOver ty).before A U = true) : va_Nw (Cond.arrayOver ty) U := h
/-- a text of the class -/
def x_St (own : String) (k : Nat) (tx : String) (U : State) : Prop := (∃ cur, U.vm.findClass own = some cur) ∧ ∃ a, vk_R own k tx a U
theorem x_St.warm {own tx : String} {k : Nat} {s U : State} (hW : s.WarmedH U.vm) (h : x_St own k tx s) : x_St own k tx U := by
  obtain ⟨⟨cur, hc⟩, a, h⟩ := h
  exact ⟨⟨cur, by rw [hW.alike.findClass]; exact hc⟩, a, vk_R.warm hW h⟩
theorem x_St.same {own tx : String} {k : Nat} {u U : State} (hv : u.vm = U.vm) (h : x_St own k tx u) : x_St own k tx U := by
  obtain ⟨⟨cur, hc⟩, a, h⟩ := h
  exact ⟨⟨cur, by rw [← hv]; exact hc⟩, a, vk_R.same hv.symm h⟩
theorem x_St.of {own tx : String} {k cur : Nat} {A : Array Value} {U : State} (hc : U.vm.findClass own = some cur) (h : (Cond.stringRef own k tx).before A U = true) : x_St own k tx U := by
  obtain ⟨-, -, -, a, -, -, -, -, -, he⟩ := Cond.stringRef_spec hc h
  exact ⟨⟨cur, hc⟩, a, vk_R.of h he⟩
/-- words of the tables that are kept in another way -/
def x_xt (U : State) : Prop := va_Nw (Cond.arrayOver (FieldType.object "ServiceApiary$Face")) U ∧ va_Nw (Cond.arrayOver (FieldType.object "ServiceApiary$Client")) U ∧ va_Nw (Cond.arrayOver (FieldType.object "ServiceApiary$Adapter")) U ∧ va_Nw (Cond.methodLinkNest RX6 29 yX4_init RX6) U ∧ va_Nw (Cond.declares (Bundle.initS "java/lang/RuntimeException")) U ∧ va_Nw (Cond.declares (Bundle.initS "java/lang/Exception")) U ∧ va_Nw (Cond.declares (Bundle.initS "java/lang/Throwable")) U ∧ va_Nw (Cond.arrayOver (FieldType.object "ServiceApiary$Version")) U ∧ va_Nw (Cond.castable "java/lang/IndexOutOfBoundsException" "java/lang/IndexOutOfBoundsException") U ∧ va_Nw (Cond.castable "java/lang/IllegalArgumentException" "java/lang/IllegalArgumentException") U ∧ va_Nw (Cond.methodLinkNest RX12 9 yX10_init RX12) U ∧ va_Nw (Cond.fieldLinkNest RJx35411 28 "java/util/ArrayList" "size" "I" RJx4a65c) U ∧ va_Nw (Cond.arrayOver (FieldType.object "java/lang/Object")) U ∧ va_Nw (Cond.castable "java/util/ArrayList" "java/lang/Object") U ∧ x_St RX6 47 "there are 4 interfaces" U ∧ x_St RX6 61 "no such interface" U ∧ x_St RX6 70 "no such sets of fields" U ∧ x_St RX6 80 "there are 6 versions" U ∧ x_St RX6 95 "no such interface or version" U ∧ x_St RX6 97 "what is not 0 to 10" U ∧ x_St RX6 124 "no such owner, or fields that do not fit" U ∧ x_St RX6 132 "there are 10 clients, or the version is not open" U ∧ x_St RX6 148 "no such client or version" U ∧ x_St RX6 150 "the version is not open" U ∧ x_St RX6 163 "the same version twice, or no set of fields" U ∧ x_St RX6 168 "there are 10 adapters" U ∧ x_St RX6 173 "no such client" U ∧ x_St RX6 175 "what is not 0 to 8" U ∧ x_St RX6 192 "no such client, route or place" U ∧ x_St RX6 194 "times is not 1 to 20" U ∧ x_St RX6 199 "hours is not 1 to 100" U ∧ x_St RX6 209 "days is not 1 to 9" U ∧ x_St RX6 218 "no such owner, interface or version" U ∧ x_St RX6 223 "the version is not retiring, or the owner was not asked" U ∧ x_St RX6 234 "the version is not retiring" U ∧ x_St RX6 255 "hours is not 0 to 100" U ∧ va_Fw RJx35411 yIt yJx35411_hasNext_aae02 U ∧ True
theorem x1 {U : State} (h : x_xt U) : va_Nw (Cond.arrayOver (FieldType.object "ServiceApiary$Face")) U := h.1
theorem x2 {U : State} (h : x_xt U) : va_Nw (Cond.arrayOver (FieldType.object "ServiceApiary$Client")) U := h.2.1
theorem x3 {U : State} (h : x_xt U) : va_Nw (Cond.arrayOver (FieldType.object "ServiceApiary$Adapter")) U := h.2.2.1
theorem x4 {U : State} (h : x_xt U) : va_Nw (Cond.methodLinkNest RX6 29 yX4_init RX6) U := h.2.2.2.1
theorem x5 {U : State} (h : x_xt U) : va_Nw (Cond.declares (Bundle.initS "java/lang/RuntimeException")) U := h.2.2.2.2.1
theorem x6 {U : State} (h : x_xt U) : va_Nw (Cond.declares (Bundle.initS "java/lang/Exception")) U := h.2.2.2.2.2.1
theorem x7 {U : State} (h : x_xt U) : va_Nw (Cond.declares (Bundle.initS "java/lang/Throwable")) U := h.2.2.2.2.2.2.1
theorem x8 {U : State} (h : x_xt U) : va_Nw (Cond.arrayOver (FieldType.object "ServiceApiary$Version")) U := h.2.2.2.2.2.2.2.1
theorem x9 {U : State} (h : x_xt U) : va_Nw (Cond.castable "java/lang/IndexOutOfBoundsException" "java/lang/IndexOutOfBoundsException") U := h.2.2.2.2.2.2.2.2.1
theorem x10 {U : State} (h : x_xt U) : va_Nw (Cond.castable "java/lang/IllegalArgumentException" "java/lang/IllegalArgumentException") U := h.2.2.2.2.2.2.2.2.2.1
theorem x11 {U : State} (h : x_xt U) : va_Nw (Cond.methodLinkNest RX12 9 yX10_init RX12) U := h.2.2.2.2.2.2.2.2.2.2.1
theorem x12 {U : State} (h : x_xt U) : va_Nw (Cond.fieldLinkNest RJx35411 28 "java/util/ArrayList" "size" "I" RJx4a65c) U := h.2.2.2.2.2.2.2.2.2.2.2.1
theorem x13 {U : State} (h : x_xt U) : va_Nw (Cond.arrayOver (FieldType.object "java/lang/Object")) U := h.2.2.2.2.2.2.2.2.2.2.2.2.1
theorem x14 {U : State} (h : x_xt U) : va_Nw (Cond.castable "java/util/ArrayList" "java/lang/Object") U := h.2.2.2.2.2.2.2.2.2.2.2.2.2.1
theorem xs47 {U : State} (h : x_xt U) : x_St RX6 47 "there are 4 interfaces" U := h.2.2.2.2.2.2.2.2.2.2.2.2.2.2.1
theorem xs61 {U : State} (h : x_xt U) : x_St RX6 61 "no such interface" U := h.2.2.2.2.2.2.2.2.2.2.2.2.2.2.2.1
theorem xs70 {U : State} (h : x_xt U) : x_St RX6 70 "no such sets of fields" U := h.2.2.2.2.2.2.2.2.2.2.2.2.2.2.2.2.1
theorem xs80 {U : State} (h : x_xt U) : x_St RX6 80 "there are 6 versions" U := h.2.2.2.2.2.2.2.2.2.2.2.2.2.2.2.2.2.1
theorem xs95 {U : State} (h : x_xt U) : x_St RX6 95 "no such interface or version" U := h.2.2.2.2.2.2.2.2.2.2.2.2.2.2.2.2.2.2.1
theorem xs97 {U : State} (h : x_xt U) : x_St RX6 97 "what is not 0 to 10" U := h.2.2.2.2.2.2.2.2.2.2.2.2.2.2.2.2.2.2.2.1
theorem xs124 {U : State} (h : x_xt U) : x_St RX6 124 "no such owner, or fields that do not fit" U := h.2.2.2.2.2.2.2.2.2.2.2.2.2.2.2.2.2.2.2.2.1
theorem xs132 {U : State} (h : x_xt U) : x_St RX6 132 "there are 10 clients, or the version is not open" U := h.2.2.2.2.2.2.2.2.2.2.2.2.2.2.2.2.2.2.2.2.2.1
theorem xs148 {U : State} (h : x_xt U) : x_St RX6 148 "no such client or version" U := h.2.2.2.2.2.2.2.2.2.2.2.2.2.2.2.2.2.2.2.2.2.2.1
theorem xs150 {U : State} (h : x_xt U) : x_St RX6 150 "the version is not open" U := h.2.2.2.2.2.2.2.2.2.2.2.2.2.2.2.2.2.2.2.2.2.2.2.1
theorem xs163 {U : State} (h : x_xt U) : x_St RX6 163 "the same version twice, or no set of fields" U := h.2.2.2.2.2.2.2.2.2.2.2.2.2.2.2.2.2.2.2.2.2.2.2.2.1
theorem xs168 {U : State} (h : x_xt U) : x_St RX6 168 "there are 10 adapters" U := h.2.2.2.2.2.2.2.2.2.2.2.2.2.2.2.2.2.2.2.2.2.2.2.2.2.1
theorem xs173 {U : State} (h : x_xt U) : x_St RX6 173 "no such client" U := h.2.2.2.2.2.2.2.2.2.2.2.2.2.2.2.2.2.2.2.2.2.2.2.2.2.2.1
theorem xs175 {U : State} (h : x_xt U) : x_St RX6 175 "what is not 0 to 8" U := h.2.2.2.2.2.2.2.2.2.2.2.2.2.2.2.2.2.2.2.2.2.2.2.2.2.2.2.1
theorem xs192 {U : State} (h : x_xt U) : x_St RX6 192 "no such client, route or place" U := h.2.2.2.2.2.2.2.2.2.2.2.2.2.2.2.2.2.2.2.2.2.2.2.2.2.2.2.2.1
theorem xs194 {U : State} (h : x_xt U) : x_St RX6 194 "times is not 1 to 20" U := h.2.2.2.2.2.2.2.2.2.2.2.2.2.2.2.2.2.2.2.2.2.2.2.2.2.2.2.2.2.1
theorem xs199 {U : State} (h : x_xt U) : x_St RX6 199 "hours is not 1 to 100" U := h.2.2.2.2.2.2.2.2.2.2.2.2.2.2.2.2.2.2.2.2.2.2.2.2.2.2.2.2.2.2.1
theorem xs209 {U : State} (h : x_xt U) : x_St RX6 209 "days is not 1 to 9" U := h.2.2.2.2.2.2.2.2.2.2.2.2.2.2.2.2.2.2.2.2.2.2.2.2.2.2.2.2.2.2.2.1
theorem xs218 {U : State} (h : x_xt U) : x_St RX6 218 "no such owner, interface or version" U := h.2.2.2.2.2.2.2.2.2.2.2.2.2.2.2.2.2.2.2.2.2.2.2.2.2.2.2.2.2.2.2.2.1
theorem xs223 {U : State} (h : x_xt U) : x_St RX6 223 "the version is not retiring, or the owner was not asked" U := h.2.2.2.2.2.2.2.2.2.2.2.2.2.2.2.2.2.2.2.2.2.2.2.2.2.2.2.2.2.2.2.2.2.1
theorem xs234 {U : State} (h : x_xt U) : x_St RX6 234 "the version is not retiring" U := h.2.2.2.2.2.2.2.2.2.2.2.2.2.2.2.2.2.2.2.2.2.2.2.2.2.2.2.2.2.2.2.2.2.2.1
theorem xs255 {U : State} (h : x_xt U) : x_St RX6 255 "hours is not 0 to 100" U := h.2.2.2.2.2.2.2.2.2.2.2.2.2.2.2.2.2.2.2.2.2.2.2.2.2.2.2.2.2.2.2.2.2.2.2.1
theorem xfw {U : State} (h : x_xt U) : va_Fw RJx35411 yIt yJx35411_hasNext_aae02 U := h.2.2.2.2.2.2.2.2.2.2.2.2.2.2.2.2.2.2.2.2.2.2.2.2.2.2.2.2.2.2.2.2.2.2.2.2.1
theorem yIt_ok : yIt.cls ≠ "java/lang/invoke/MethodHandle" ∧ yIt.cls ≠ "java/lang/invoke/VarHandle" := by decide +kernel
theorem x_xt.warm {s U : State} (hW : s.WarmedH U.vm) (h : x_xt s) : x_xt U := ⟨x_AOm hW.alike h.1, x_AOm hW.alike h.2.1, x_AOm hW.alike h.2.2.1, va_Nw.warmM hW h.2.2.2.1, va_Nw.warmD hW h.2.2.2.2.1, va_Nw.warmD hW h.2.2.2.2.2.1, va_Nw.warmD hW h.2.2.2.2.2.2.1, x_AOm hW.alike h.2.2.2.2.2.2.2.1, va_Nw.warmC hW h.2.2.2.2.2.2.2.2.1, va_Nw.warmC hW h.2.2.2.2.2.2.2.2.2.1, va_Nw.warmM hW h.2.2.2.2.2.2.2.2.2.2.1, va_Nw.warmF hW h.2.2.2.2.2.2.2.2.2.2.2.1, x_AOm hW.alike h.2.2.2.2.2.2.2.2.2.2.2.2.1, va_Nw.warmC hW h.2.2.2.2.2.2.2.2.2.2.2.2.2.1, x_St.warm hW h.2.2.2.2.2.2.2.2.2.2.2.2.2.2.1, x_St.warm hW h.2.2.2.2.2.2.2.2.2.2.2.2.2.2.2.1, x_St.warm hW h.2.2.2.2.2.2.2.2.2.2.2.2.2.2.2.2.1, x_St.warm hW h.2.2.2.2.2.2.2.2.2.2.2.2.2.2.2.2.2.1, x_St.warm hW h.2.2.2.2.2.2.2.2.2.2.2.2.2.2.2.2.2.2.1, x_St.warm hW h.2.2.2.2.2.2.2.2.2.2.2.2.2.2.2.2.2.2.2.1, x_St.warm hW h.2.2.2.2.2.2.2.2.2.2.2.2.2.2.2.2.2.2.2.2.1, x_St.warm hW h.2.2.2.2.2.2.2.2.2.2.2.2.2.2.2.2.2.2.2.2.2.1, x_St.warm hW h.2.2.2.2.2.2.2.2.2.2.2.2.2.2.2.2.2.2.2.2.2.2.1, x_St.warm hW h.2.2.2.2.2.2.2.2.2.2.2.2.2.2.2.2.2.2.2.2.2.2.2.1, x_St.warm hW h.2.2.2.2.2.2.2.2.2.2.2.2.2.2.2.2.2.2.2.2.2.2.2.2.1, x_St.warm hW h.2.2.2.2.2.2.2.2.2.2.2.2.2.2.2.2.2.2.2.2.2.2.2.2.2.1, x_St.warm hW h.2.2.2.2.2.2.2.2.2.2.2.2.2.2.2.2.2.2.2.2.2.2.2.2.2.2.1, x_St.warm hW h.2.2.2.2.2.2.2.2.2.2.2.2.2.2.2.2.2.2.2.2.2.2.2.2.2.2.2.1, x_St.warm hW h.2.2.2.2.2.2.2.2.2.2.2.2.2.2.2.2.2.2.2.2.2.2.2.2.2.2.2.2.1, x_St.warm hW h.2.2.2.2.2.2.2.2.2.2.2.2.2.2.2.2.2.2.2.2.2.2.2.2.2.2.2.2.2.1, x_St.warm hW h.2.2.2.2.2.2.2.2.2.2.2.2.2.2.2.2.2.2.2.2.2.2.2.2.2.2.2.2.2.2.1, x_St.warm hW h.2.2.2.2.2.2.2.2.2.2.2.2.2.2.2.2.2.2.2.2.2.2.2.2.2.2.2.2.2.2.2.1, x_St.warm hW h.2.2.2.2.2.2.2.2.2.2.2.2.2.2.2.2.2.2.2.2.2.2.2.2.2.2.2.2.2.2.2.2.1, x_St.warm hW h.2.2.2.2.2.2.2.2.2.2.2.2.2.2.2.2.2.2.2.2.2.2.2.2.2.2.2.2.2.2.2.2.2.1, x_St.warm hW h.2.2.2.2.2.2.2.2.2.2.2.2.2.2.2.2.2.2.2.2.2.2.2.2.2.2.2.2.2.2.2.2.2.2.1, x_St.warm hW h.2.2.2.2.2.2.2.2.2.2.2.2.2.2.2.2.2.2.2.2.2.2.2.2.2.2.2.2.2.2.2.2.2.2.2.1, va_Fw.moved yIt_ok hW.alike h.2.2.2.2.2.2.2.2.2.2.2.2.2.2.2.2.2.2.2.2.2.2.2.2.2.2.2.2.2.2.2.2.2.2.2.2.1, trivial⟩
theorem x_xt.same {u U : State} (hv : u.vm = U.vm) (h : x_xt u) : x_xt U := ⟨x_AOm (by rw [hv]; exact Vm.Alike.refl _) h.1, x_AOm (by rw [hv]; exact Vm.Alike.refl _) h.2.1, x_AOm (by rw [hv]; exact Vm.Alike.refl _) h.2.2.1, va_Nw.same rfl hv h.2.2.2.1, va_Nw.same rfl hv h.2.2.2.2.1, va_Nw.same rfl hv h.2.2.2.2.2.1, va_Nw.same rfl hv h.2.2.2.2.2.2.1, x_AOm (by rw [hv]; exact Vm.Alike.refl _) h.2.2.2.2.2.2.2.1, va_Nw.same rfl hv h.2.2.2.2.2.2.2.2.1, va_Nw.same rfl hv h.2.2.2.2.2.2.2.2.2.1, va_Nw.same rfl hv h.2.2.2.2.2.2.2.2.2.2.1, va_Nw.same rfl hv h.2.2.2.2.2.2.2.2.2.2.2.1, x_AOm (by rw [hv]; exact Vm.Alike.refl _) h.2.2.2.2.2.2.2.2.2.2.2.2.1, va_Nw.same rfl hv h.2.2.2.2.2.2.2.2.2.2.2.2.2.1, x_St.same hv h.2.2.2.2.2.2.2.2.2.2.2.2.2.2.1, x_St.same hv h.2.2.2.2.2.2.2.2.2.2.2.2.2.2.2.1, x_St.same hv h.2.2.2.2.2.2.2.2.2.2.2.2.2.2.2.2.1, x_St.same hv h.2.2.2.2.2.2.2.2.2.2.2.2.2.2.2.2.2.1, x_St.same hv h.2.2.2.2.2.2.2.2.2.2.2.2.2.2.2.2.2.2.1, x_St.same hv h.2.2.2.2.2.2.2.2.2.2.2.2.2.2.2.2.2.2.2.1, x_St.same hv h.2.2.2.2.2.2.2.2.2.2.2.2.2.2.2.2.2.2.2.2.1, x_St.same hv h.2.2.2.2.2.2.2.2.2.2.2.2.2.2.2.2.2.2.2.2.2.1, x_St.same hv h.2.2.2.2.2.2.2.2.2.2.2.2.2.2.2.2.2.2.2.2.2.2.1, x_St.same hv h.2.2.2.2.2.2.2.2.2.2.2.2.2.2.2.2.2.2.2.2.2.2.2.1, x_St.same hv h.2.2.2.2.2.2.2.2.2.2.2.2.2.2.2.2.2.2.2.2.2.2.2.2.1, x_St.same hv h.2.2.2.2.2.2.2.2.2.2.2.2.2.2.2.2.2.2.2.2.2.2.2.2.2.1, x_St.same hv h.2.2.2.2.2.2.2.2.2.2.2.2.2.2.2.2.2.2.2.2.2.2.2.2.2.2.1, x_St.same hv h.2.2.2.2.2.2.2.2.2.2.2.2.2.2.2.2.2.2.2.2.2.2.2.2.2.2.2.1, x_St.same hv h.2.2.2.2.2.2.2.2.2.2.2.2.2.2.2.2.2.2.2.2.2.2.2.2.2.2.2.2.1, x_St.same hv h.2.2.2.2.2.2.2.2.2.2.2.2.2.2.2.2.2.2.2.2.2.2.2.2.2.2.2.2.2.1, x_St.same hv h.2.2.2.2.2.2.2.2.2.2.2.2.2.2.2.2.2.2.2.2.2.2.2.2.2.2.2.2.2.2.1, x_St.same hv h.2.2.2.2.2.2.2.2.2.2.2.2.2.2.2.2.2.2.2.2.2.2.2.2.2.2.2.2.2.2.2.1, x_St.same hv h.2.2.2.2.2.2.2.2.2.2.2.2.2.2.2.2.2.2.2.2.2.2.2.2.2.2.2.2.2.2.2.2.1, x_St.same hv h.2.2.2.2.2.2.2.2.2.2.2.2.2.2.2.2.2.2.2.2.2.2.2.2.2.2.2.2.2.2.2.2.2.1, x_St.same hv h.2.2.2.2.2.2.2.2.2.2.2.2.2.2.2.2.2.2.2.2.2.2.2.2.2.2.2.2.2.2.2.2.2.2.1, x_St.same hv h.2.2.2.2.2.2.2.2.2.2.2.2.2.2.2.2.2.2.2.2.2.2.2.2.2.2.2.2.2.2.2.2.2.2.2.1, va_Fw.moved yIt_ok (by rw [hv]; exact Vm.Alike.refl _) h.2.2.2.2.2.2.2.2.2.2.2.2.2.2.2.2.2.2.2.2.2.2.2.2.2.2.2.2.2.2.2.2.2.2.2.2.1, trivial⟩
set_option maxRecDepth 20000 in
theorem x_xt.of {A : Array Value} {U : State} {cur : ClassId} (hc : U.vm.findClass RX6 = some cur) (h : ∀ w ∈ lw_tbl, w.before A U = true) : x_xt U := ⟨x_AOof (h _ (List.mem_append_right _ (List.mem_append_left _ (List.mem_of_getElem? (i := 40) (l := tables_1_1) rfl)))), x_AOof (h _ (List.mem_append_right _ (List.mem_append_left _ (List.mem_of_getElem? (i := 42) (l := tables_1_1) rfl)))), x_AOof (h _ (List.mem_append_right _ (List.mem_append_left _ (List.mem_of_getElem? (i := 44) (l := tables_1_1) rfl)))), va_Nw.of rfl (h _ (List.mem_append_right _ (List.mem_append_left _ (List.mem_of_getElem? (i := 47) (l := tables_1_1) rfl)))), va_Nw.of rfl (h _ (List.mem_append_right _ (List.mem_append_right _ (List.mem_append_left _ (List.mem_of_getElem? (i := 59) (l := tables_1_2) rfl))))), va_Nw.of rfl (h _ (List.mem_append_right _ (List.mem_append_right _ (List.mem_append_left _ (List.mem_of_getElem? (i := 61) (l := tables_1_2) rfl))))), va_Nw.of rfl (h _ (List.mem_append_right _ (List.mem_append_right _ (List.mem_append_left _ (List.mem_of_getElem? (i := 63) (l := tables_1_2) rfl))))), x_AOof (h _ (List.mem_append_right _ (List.mem_append_right _ (List.mem_append_left _ (List.mem_of_getElem? (i := 129) (l := tables_1_2) rfl))))), va_Nw.of rfl (h _ (List.mem_append_right _ (List.mem_append_right _ (List.mem_append_left _ (List.mem_of_getElem? (i := 153) (l := tables_1_2) rfl))))), va_Nw.of rfl (h _ (List.mem_append_right _ (List.mem_append_right _ (List.mem_append_left _ (List.mem_of_getElem? (i := 175) (l := tables_1_2) rfl))))), va_Nw.of rfl (h _ (List.mem_append_right _ (List.mem_append_right _ (List.mem_append_right _ (List.mem_append_right _ (List.mem_append_left _ (List.mem_of_getElem? (i := 26) (l := tables_1_4) rfl))))))), va_Nw.of rfl (h _ (List.mem_append_right _ (List.mem_append_right _ (List.mem_append_right _ (List.mem_append_right _ (List.mem_append_left _ (List.mem_of_getElem? (i := 46) (l := tables_1_4) rfl))))))), x_AOof (h _ (List.mem_append_right _ (List.mem_append_right _ (List.mem_append_right _ (List.mem_append_right _ (List.mem_append_left _ (List.mem_of_getElem? (i := 162) (l := tables_1_4) rfl))))))), va_Nw.of rfl (h _ (List.mem_append_right _ (List.mem_append_right _ (List.mem_append_right _ (List.mem_append_right _ (List.mem_append_right _ (List.mem_append_right _ (List.mem_append_left _ (List.mem_of_getElem? (i := 231) (l := tables_1_6) rfl))))))))), x_St.of hc (h _ (List.mem_append_right _ (List.mem_append_right _ (List.mem_append_left _ (List.mem_of_getElem? (i := 96) (l := tables_1_2) rfl))))), x_St.of hc (h _ (List.mem_append_right _ (List.mem_append_right _ (List.mem_append_left _ (List.mem_of_getElem? (i := 160) (l := tables_1_2) rfl))))), x_St.of hc (h _ (List.mem_append_right _ (List.mem_append_right _ (List.mem_append_left _ (List.mem_of_getElem? (i := 182) (l := tables_1_2) rfl))))), x_St.of hc (h _ (List.mem_append_right _ (List.mem_append_right _ (List.mem_append_left _ (List.mem_of_getElem? (i := 189) (l := tables_1_2) rfl))))), x_St.of hc (h _ (List.mem_append_right _ (List.mem_append_right _ (List.mem_append_right _ (List.mem_append_left _ (List.mem_of_getElem? (i := 8) (l := tables_1_3) rfl)))))), x_St.of hc (h _ (List.mem_append_right _ (List.mem_append_right _ (List.mem_append_right _ (List.mem_append_left _ (List.mem_of_getElem? (i := 9) (l := tables_1_3) rfl)))))), x_St.of hc (h _ (List.mem_append_right _ (List.mem_append_right _ (List.mem_append_right _ (List.mem_append_left _ (List.mem_of_getElem? (i := 27) (l := tables_1_3) rfl)))))), x_St.of hc (h _ (List.mem_append_right _ (List.mem_append_right _ (List.mem_append_right _ (List.mem_append_left _ (List.mem_of_getElem? (i := 28) (l := tables_1_3) rfl)))))), x_St.of hc (h _ (List.mem_append_right _ (List.mem_append_right _ (List.mem_append_right _ (List.mem_append_left _ (List.mem_of_getElem? (i := 78) (l := tables_1_3) rfl)))))), x_St.of hc (h _ (List.mem_append_right _ (List.mem_append_right _ (List.mem_append_right _ (List.mem_append_left _ (List.mem_of_getElem? (i := 79) (l := tables_1_3) rfl)))))), x_St.of hc (h _ (List.mem_append_right _ (List.mem_append_right _ (List.mem_append_right _ (List.mem_append_left _ (List.mem_of_getElem? (i := 87) (l := tables_1_3) rfl)))))), x_St.of hc (h _ (List.mem_append_right _ (List.mem_append_right _ (List.mem_append_right _ (List.mem_append_left _ (List.mem_of_getElem? (i := 88) (l := tables_1_3) rfl)))))), x_St.of hc (h _ (List.mem_append_right _ (List.mem_append_right _ (List.mem_append_right _ (List.mem_append_left _ (List.mem_of_getElem? (i := 116) (l := tables_1_3) rfl)))))), x_St.of hc (h _ (List.mem_append_right _ (List.mem_append_right _ (List.mem_append_right _ (List.mem_append_left _ (List.mem_of_getElem? (i := 117) (l := tables_1_3) rfl)))))), x_St.of hc (h _ (List.mem_append_right _ (List.mem_append_right _ (List.mem_append_right _ (List.mem_append_left _ (List.mem_of_getElem? (i := 125) (l := tables_1_3) rfl)))))), x_St.of hc (h _ (List.mem_append_right _ (List.mem_append_right _ (List.mem_append_right _ (List.mem_append_left _ (List.mem_of_getElem? (i := 133) (l := tables_1_3) rfl)))))), x_St.of hc (h _ (List.mem_append_right _ (List.mem_append_right _ (List.mem_append_right _ (List.mem_append_left _ (List.mem_of_getElem? (i := 153) (l := tables_1_3) rfl)))))), x_St.of hc (h _ (List.mem_append_right _ (List.mem_append_right _ (List.mem_append_right _ (List.mem_append_left _ (List.mem_of_getElem? (i := 177) (l := tables_1_3) rfl)))))), x_St.of hc (h _ (List.mem_append_right _ (List.mem_append_right _ (List.mem_append_right _ (List.mem_append_left _ (List.mem_of_getElem? (i := 197) (l := tables_1_3) rfl)))))), x_St.of hc (h _ (List.mem_append_right _ (List.mem_append_right _ (List.mem_append_right _ (List.mem_append_left _ (List.mem_of_getElem? (i := 198) (l := tables_1_3) rfl)))))), x_St.of hc (h _ (List.mem_append_right _ (List.mem_append_right _ (List.mem_append_right _ (List.mem_append_left _ (List.mem_of_getElem? (i := 206) (l := tables_1_3) rfl)))))), x_St.of hc (h _ (List.mem_append_right _ (List.mem_append_right _ (List.mem_append_right _ (List.mem_append_left _ (List.mem_of_getElem? (i := 229) (l := tables_1_3) rfl)))))), va_Fw.of (h _ (List.mem_append_right _ (List.mem_append_right _ (List.mem_append_right _ (List.mem_append_right _ (List.mem_append_right _ (List.mem_append_left _ (List.mem_of_getElem? (i := 33) (l := tables_1_5) rfl)))))))) (h _ (List.mem_append_right _ (List.mem_append_right _ (List.mem_append_right _ (List.mem_append_right _ (List.mem_append_right _ (List.mem_append_left _ (List.mem_of_getElem? (i := 32) (l := tables_1_5) rfl)))))))) (h _ (List.mem_append_right _ (List.mem_append_right _ (List.mem_append_right _ (List.mem_append_right _ (List.mem_append_right _ (List.mem_append_left _ (List.mem_of_getElem? (i := 38) (l := tables_1_5) rfl)))))))) (h _ (List.mem_append_right _ (List.mem_append_right _ (List.mem_append_right _ (List.mem_append_right _ (List.mem_append_right _ (List.mem_append_left _ (List.mem_of_getElem? (i := 36) (l := tables_1_5) rfl)))))))) (h _ (List.mem_append_right _ (List.mem_append_right _ (List.mem_append_right _ (List.mem_append_right _ (List.mem_append_right _ (List.mem_append_left _ (List.mem_of_getElem? (i := 34) (l := tables_1_5) rfl)))))))), trivial⟩
set_option maxRecDepth 20000 in
theorem inJx35411 : ∀ q ∈ u_ws RJx35411 TJx35411 4, q ∈ xTs := List.forall_mem_cons.mpr ⟨q465, List.forall_mem_cons.mpr ⟨q466, List.forall_mem_cons.mpr ⟨q467, List.forall_mem_cons.mpr ⟨q468, fun _ h => absurd h List.not_mem_nil⟩⟩⟩⟩
set_option maxRecDepth 20000 in
theorem inJx4a65c : ∀ q ∈ u_ws RJx4a65c TJx4a65c 3, q ∈ xTs := List.forall_mem_cons.mpr ⟨q369, List.forall_mem_cons.mpr ⟨q367, List.forall_mem_cons.mpr ⟨q368, fun _ h => absurd h List.not_mem_nil⟩⟩⟩
set_option maxRecDepth 20000 in
theorem inX2 : ∀ q ∈ u_ws RX2 TX2 3, q ∈ xTs := List.forall_mem_cons.mpr ⟨q151, List.forall_mem_cons.mpr ⟨q152, List.forall_mem_cons.mpr ⟨q153, fun _ h => absurd h List.not_mem_nil⟩⟩⟩
set_option maxRecDepth 20000 in
theorem inX3 : ∀ q ∈ u_ws RX3 TX3 4, q ∈ xTs := List.forall_mem_cons.mpr ⟨q75, List.forall_mem_cons.mpr ⟨q76, List.forall_mem_cons.mpr ⟨q77, List.forall_mem_cons.mpr ⟨q78, fun _ h => absurd h List.not_mem_nil⟩⟩⟩⟩
set_option maxRecDepth 20000 in
theorem inX4 : ∀ q ∈ u_ws RX4 TX4 5, q ∈ xTs := List.forall_mem_cons.mpr ⟨q53, List.forall_mem_cons.mpr ⟨q54, List.forall_mem_cons.mpr ⟨q55, List.forall_mem_cons.mpr ⟨q56, List.forall_mem_cons.mpr ⟨q57, fun _ h => absurd h List.not_mem_nil⟩⟩⟩⟩⟩
set_option maxRecDepth 20000 in
theorem inX6 : ∀ q ∈ u_ws RX6 TX6 12, q ∈ xTs := List.forall_mem_cons.mpr ⟨q91, List.forall_mem_cons.mpr ⟨q92, List.forall_mem_cons.mpr ⟨q93, List.forall_mem_cons.mpr ⟨q94, List.forall_mem_cons.mpr ⟨q95, List.forall_mem_cons.mpr ⟨q96, List.forall_mem_cons.mpr ⟨q97, List.forall_mem_cons.mpr ⟨q98, List.forall_mem_cons.mpr ⟨q99, List.forall_mem_cons.mpr ⟨q100, List.forall_mem_cons.mpr ⟨q101, List.forall_mem_cons.mpr ⟨q102, fun _ h => absurd h List.not_mem_nil⟩⟩⟩⟩⟩⟩⟩⟩⟩⟩⟩⟩
set_option maxRecDepth 20000 in
theorem inX10 : ∀ q ∈ u_ws RX10 TX10 5, q ∈ xTs := List.forall_mem_cons.mpr ⟨q380, List.forall_mem_cons.mpr ⟨q381, List.forall_mem_cons.mpr ⟨q382, List.forall_mem_cons.mpr ⟨q383, List.forall_mem_cons.mpr ⟨q384, fun _ h => absurd h List.not_mem_nil⟩⟩⟩⟩⟩
set_option maxRecDepth 20000 in
theorem inX12 : ∀ q ∈ u_ws RX12 TX12 2, q ∈ xTs := List.forall_mem_cons.mpr ⟨q387, List.forall_mem_cons.mpr ⟨q388, fun _ h => absurd h List.not_mem_nil⟩⟩
theorem x_gV {own C : String} {idx maxL : Nat} {y : MethodName} {bytes : ByteArray} {rt : Option FieldType} (h1 : Cond.methodLink own idx y ∈ xTs) (h2 : Cond.instanceMethod y ∈ xTs) (h3 : Cond.selects C y y ∈ xTs) (h4 : Cond.initialized C ∈ xTs) (h5 : Cond.code y bytes maxL rt ∈ xTs) : GoodIn xTs (wsV own idx C y (Cond.code y bytes maxL rt :: xTs)) := by
  intro w hw
  unfold wsV at hw
  rcases List.mem_append.mp hw with h | h
  · simp only [List.mem_cons, List.not_mem_nil, or_false] at h
    rcases h with rfl | rfl | rfl | rfl
    · exact xTs_good _ h1
    · exact xTs_good _ h2
    · exact xTs_good _ h3
    · exact xTs_good _ h4
  · rcases List.mem_cons.mp h with rfl | h
    · exact xTs_good _ h5
    · exact xTs_good _ h
theorem x_gS {own : String} {idx maxL : Nat} {y : MethodName} {bytes : ByteArray} {rt : Option FieldType} (h1 : Cond.methodLink own idx y ∈ xTs) (h2 : Cond.static y ∈ xTs) (h3 : Cond.initialized y.cls ∈ xTs) (h5 : Cond.code y bytes maxL rt ∈ xTs) : GoodIn xTs (va_wsS own idx y (Cond.code y bytes maxL rt :: xTs)) := by
  intro w hw
  unfold va_wsS at hw
  rcases List.mem_append.mp hw with h | h
  · simp only [List.mem_cons, List.not_mem_nil, or_false] at h
    rcases h with rfl | rfl | rfl
    · exact xTs_good _ h1
    · exact xTs_good _ h2
    · exact xTs_good _ h3
  · rcases List.mem_cons.mp h with rfl | h
    · exact xTs_good _ h5
    · exact xTs_good _ h
theorem x_gSW {own : String} {idx maxL : Nat} {y : MethodName} {bytes : ByteArray} {rt : Option FieldType} {hh : List (Nat × Nat × Nat × Nat)} (h1 : Cond.methodLink own idx y ∈ xTs) (h2 : Cond.static y ∈ xTs) (h3 : Cond.initialized y.cls ∈ xTs) (h5 : Cond.codeWith y bytes maxL rt hh ∈ xTs) : GoodIn xTs (va_wsS own idx y (Cond.codeWith y bytes maxL rt hh :: xTs)) := by
  intro w hw
  unfold va_wsS at hw
  rcases List.mem_append.mp hw with h | h
  · simp only [List.mem_cons, List.not_mem_nil, or_false] at h
    rcases h with rfl | rfl | rfl
    · exact xTs_good _ h1
    · exact xTs_good _ h2
    · exact xTs_good _ h3
  · rcases List.mem_cons.mp h with rfl | h
    · exact xTs_good _ h5
    · exact xTs_good _ h
theorem x_gF {own C : String} {idx maxL : Nat} {x y : MethodName} {bytes : ByteArray} {rt : Option FieldType} (h1 : Cond.methodLink own idx x ∈ xTs) (h2 : Cond.selects C x y ∈ xTs) (h3 : Cond.instanceMethod y ∈ xTs) (h4 : Cond.initialized y.cls ∈ xTs) (h5 : Cond.code y bytes maxL rt ∈ xTs) : GoodIn xTs (va_wsF own idx C x y (Cond.code y bytes maxL rt :: xTs)) := by
  intro w hw
  unfold va_wsF at hw
  rcases List.mem_append.mp hw with h | h
  · simp only [List.mem_cons, List.not_mem_nil, or_false] at h
    rcases h with rfl | rfl | rfl | rfl
    · exact xTs_good _ h1
    · exact xTs_good _ h2
    · exact xTs_good _ h3
    · exact xTs_good _ h4
  · rcases List.mem_cons.mp h with rfl | h
    · exact xTs_good _ h5
    · exact xTs_good _ h
theorem x_gI {maxL : Nat} {y : MethodName} {bytes : ByteArray} {rt : Option FieldType} (h5 : Cond.code y bytes maxL rt ∈ xTs) : GoodIn xTs (Cond.code y bytes maxL rt :: xTs) := by
  intro w hw
  rcases List.mem_cons.mp hw with rfl | h
  · exact xTs_good _ h5
  · exact xTs_good _ h
abbrev wX6_init : List Cond := Cond.code yX6_init cX6_init 1 (Option.none : Option Jvm.ClassFile.FieldType) :: xTs
theorem xd_X6_init : yX6_init.cls ≠ "java/lang/invoke/MethodHandle" ∧ yX6_init.cls ≠ "java/lang/invoke/VarHandle" ∧ (parseMethodDescriptor yX6_init.desc).map (fun d => d.parameters.length) = some 0 := by decide +kernel
abbrev wX4_init : List Cond := Cond.code yX4_init cX4_init 1 (Option.none : Option Jvm.ClassFile.FieldType) :: xTs
theorem xd_X4_init : yX4_init.cls ≠ "java/lang/invoke/MethodHandle" ∧ yX4_init.cls ≠ "java/lang/invoke/VarHandle" ∧ (parseMethodDescriptor yX4_init.desc).map (fun d => d.parameters.length) = some 0 := by decide +kernel
abbrev wX3_init : List Cond := Cond.code yX3_init cX3_init 1 (Option.none : Option Jvm.ClassFile.FieldType) :: xTs
theorem xd_X3_init : yX3_init.cls ≠ "java/lang/invoke/MethodHandle" ∧ yX3_init.cls ≠ "java/lang/invoke/VarHandle" ∧ (parseMethodDescriptor yX3_init.desc).map (fun d => d.parameters.length) = some 0 := by decide +kernel
abbrev wJ7_fill_53178 : List Cond := Cond.code yJ7_fill_53178 cJ7_fill_53178 4 (Option.none : Option Jvm.ClassFile.FieldType) :: xTs
theorem xd_J7_fill_53178 : yJ7_fill_53178.cls ≠ "java/lang/invoke/MethodHandle" ∧ yJ7_fill_53178.cls ≠ "java/lang/invoke/VarHandle" ∧ (parseMethodDescriptor yJ7_fill_53178.desc).map (fun d => d.parameters.length) = some 2 := by decide +kernel
abbrev wX6_servedShare : List Cond := Cond.code yX6_servedShare cX6_servedShare 1 (Option.some Jvm.ClassFile.FieldType.double) :: xTs
theorem xd_X6_servedShare : yX6_servedShare.cls ≠ "java/lang/invoke/MethodHandle" ∧ yX6_servedShare.cls ≠ "java/lang/invoke/VarHandle" ∧ (parseMethodDescriptor yX6_servedShare.desc).map (fun d => d.parameters.length) = some 0 := by decide +kernel
abbrev wX6_digest : List Cond := Cond.code yX6_digest cX6_digest 6 (Option.some Jvm.ClassFile.FieldType.long) :: xTs
theorem xd_X6_digest : yX6_digest.cls ≠ "java/lang/invoke/MethodHandle" ∧ yX6_digest.cls ≠ "java/lang/invoke/VarHandle" ∧ (parseMethodDescriptor yX6_digest.desc).map (fun d => d.parameters.length) = some 0 := by decide +kernel
abbrev wX6_countOf : List Cond := Cond.code yX6_countOf cX6_countOf 2 (Option.some Jvm.ClassFile.FieldType.int) :: xTs
theorem xd_X6_countOf : yX6_countOf.cls ≠ "java/lang/invoke/MethodHandle" ∧ yX6_countOf.cls ≠ "java/lang/invoke/VarHandle" ∧ (parseMethodDescriptor yX6_countOf.desc).map (fun d => d.parameters.length) = some 1 := by decide +kernel
abbrev wX6_countVersions : List Cond := Cond.code yX6_countVersions cX6_countVersions 6 (Option.some Jvm.ClassFile.FieldType.int) :: xTs
theorem xd_X6_countVersions : yX6_countVersions.cls ≠ "java/lang/invoke/MethodHandle" ∧ yX6_countVersions.cls ≠ "java/lang/invoke/VarHandle" ∧ (parseMethodDescriptor yX6_countVersions.desc).map (fun d => d.parameters.length) = some 1 := by decide +kernel
abbrev wX6_versionAt : List Cond := Cond.code yX6_versionAt cX6_versionAt 4 (Option.some (Jvm.ClassFile.FieldType.object "ServiceApiary$Version")) :: xTs
theorem xd_X6_versionAt : yX6_versionAt.cls ≠ "java/lang/invoke/MethodHandle" ∧ yX6_versionAt.cls ≠ "java/lang/invoke/VarHandle" ∧ (parseMethodDescriptor yX6_versionAt.desc).map (fun d => d.parameters.length) = some 2 := by decide +kernel
abbrev wX6_faceAt : List Cond := Cond.code yX6_faceAt cX6_faceAt 2 (Option.some (Jvm.ClassFile.FieldType.object "ServiceApiary$Face")) :: xTs
theorem xd_X6_faceAt : yX6_faceAt.cls ≠ "java/lang/invoke/MethodHandle" ∧ yX6_faceAt.cls ≠ "java/lang/invoke/VarHandle" ∧ (parseMethodDescriptor yX6_faceAt.desc).map (fun d => d.parameters.length) = some 1 := by decide +kernel
abbrev wL_open : List Cond := Cond.codeWith yL_open cL_open 3 (Option.some Jvm.ClassFile.FieldType.int) [(0, 8, 11, 13)] :: xTs
theorem xd_L_open : yL_open.cls ≠ "java/lang/invoke/MethodHandle" ∧ yL_open.cls ≠ "java/lang/invoke/VarHandle" ∧ (parseMethodDescriptor yL_open.desc).map (fun d => d.parameters.length) = some 2 := by decide +kernel
abbrev wX6_open : List Cond := Cond.code yX6_open cX6_open 1 (Option.some Jvm.ClassFile.FieldType.int) :: xTs
theorem xd_X6_open : yX6_open.cls ≠ "java/lang/invoke/MethodHandle" ∧ yX6_open.cls ≠ "java/lang/invoke/VarHandle" ∧ (parseMethodDescriptor yX6_open.desc).map (fun d => d.parameters.length) = some 0 := by decide +kernel
abbrev wX2_init : List Cond := Cond.code yX2_init cX2_init 2 (Option.none : Option Jvm.ClassFile.FieldType) :: xTs
theorem xd_X2_init : yX2_init.cls ≠ "java/lang/invoke/MethodHandle" ∧ yX2_init.cls ≠ "java/lang/invoke/VarHandle" ∧ (parseMethodDescriptor yX2_init.desc).map (fun d => d.parameters.length) = some 1 := by decide +kernel
abbrev wL_publish : List Cond := Cond.codeWith yL_publish cL_publish 6 (Option.some Jvm.ClassFile.FieldType.int) [(0, 12, 15, 19), (0, 12, 19, 21), (0, 12, 23, 13)] :: xTs
theorem xd_L_publish : yL_publish.cls ≠ "java/lang/invoke/MethodHandle" ∧ yL_publish.cls ≠ "java/lang/invoke/VarHandle" ∧ (parseMethodDescriptor yL_publish.desc).map (fun d => d.parameters.length) = some 5 := by decide +kernel
abbrev wX6_publish : List Cond := Cond.code yX6_publish cX6_publish 8 (Option.some Jvm.ClassFile.FieldType.int) :: xTs
theorem xd_X6_publish : yX6_publish.cls ≠ "java/lang/invoke/MethodHandle" ∧ yX6_publish.cls ≠ "java/lang/invoke/VarHandle" ∧ (parseMethodDescriptor yX6_publish.desc).map (fun d => d.parameters.length) = some 3 := by decide +kernel
abbrev wL_ofVersion : List Cond := Cond.codeWith yL_ofVersion cL_ofVersion 6 (Option.some Jvm.ClassFile.FieldType.int) [(0, 12, 15, 19), (0, 12, 19, 21)] :: xTs
theorem xd_L_ofVersion : yL_ofVersion.cls ≠ "java/lang/invoke/MethodHandle" ∧ yL_ofVersion.cls ≠ "java/lang/invoke/VarHandle" ∧ (parseMethodDescriptor yL_ofVersion.desc).map (fun d => d.parameters.length) = some 5 := by decide +kernel
abbrev wX6_ofVersion : List Cond := Cond.code yX6_ofVersion cX6_ofVersion 5 (Option.some Jvm.ClassFile.FieldType.int) :: xTs
theorem xd_X6_ofVersion : yX6_ofVersion.cls ≠ "java/lang/invoke/MethodHandle" ∧ yX6_ofVersion.cls ≠ "java/lang/invoke/VarHandle" ∧ (parseMethodDescriptor yX6_ofVersion.desc).map (fun d => d.parameters.length) = some 3 := by decide +kernel
abbrev wL_isCompatible : List Cond := Cond.codeWith yL_isCompatible cL_isCompatible 6 (Option.some Jvm.ClassFile.FieldType.int) [(0, 19, 22, 19)] :: xTs
theorem xd_L_isCompatible : yL_isCompatible.cls ≠ "java/lang/invoke/MethodHandle" ∧ yL_isCompatible.cls ≠ "java/lang/invoke/VarHandle" ∧ (parseMethodDescriptor yL_isCompatible.desc).map (fun d => d.parameters.length) = some 5 := by decide +kernel
abbrev wX6_isCompatible : List Cond := Cond.code yX6_isCompatible cX6_isCompatible 6 (Option.some Jvm.ClassFile.FieldType.boolean) :: xTs
theorem xd_X6_isCompatible : yX6_isCompatible.cls ≠ "java/lang/invoke/MethodHandle" ∧ yX6_isCompatible.cls ≠ "java/lang/invoke/VarHandle" ∧ (parseMethodDescriptor yX6_isCompatible.desc).map (fun d => d.parameters.length) = some 3 := by decide +kernel
abbrev wL_client : List Cond := Cond.codeWith yL_client cL_client 7 (Option.some Jvm.ClassFile.FieldType.int) [(0, 14, 17, 19), (0, 14, 21, 21), (0, 14, 25, 13)] :: xTs
theorem xd_L_client : yL_client.cls ≠ "java/lang/invoke/MethodHandle" ∧ yL_client.cls ≠ "java/lang/invoke/VarHandle" ∧ (parseMethodDescriptor yL_client.desc).map (fun d => d.parameters.length) = some 6 := by decide +kernel
abbrev wX6_client : List Cond := Cond.code yX6_client cX6_client 6 (Option.some Jvm.ClassFile.FieldType.int) :: xTs
theorem xd_X6_client : yX6_client.cls ≠ "java/lang/invoke/MethodHandle" ∧ yX6_client.cls ≠ "java/lang/invoke/VarHandle" ∧ (parseMethodDescriptor yX6_client.desc).map (fun d => d.parameters.length) = some 4 := by decide +kernel
abbrev wL_again : List Cond := Cond.codeWith yL_again cL_again 5 (Option.some Jvm.ClassFile.FieldType.int) [(0, 10, 13, 19), (0, 10, 17, 13)] :: xTs
theorem xd_L_again : yL_again.cls ≠ "java/lang/invoke/MethodHandle" ∧ yL_again.cls ≠ "java/lang/invoke/VarHandle" ∧ (parseMethodDescriptor yL_again.desc).map (fun d => d.parameters.length) = some 4 := by decide +kernel
abbrev wX6_again : List Cond := Cond.code yX6_again cX6_again 5 (Option.some Jvm.ClassFile.FieldType.int) :: xTs
theorem xd_X6_again : yX6_again.cls ≠ "java/lang/invoke/MethodHandle" ∧ yX6_again.cls ≠ "java/lang/invoke/VarHandle" ∧ (parseMethodDescriptor yX6_again.desc).map (fun d => d.parameters.length) = some 2 := by decide +kernel
abbrev wX6_clientAt : List Cond := Cond.code yX6_clientAt cX6_clientAt 2 (Option.some (Jvm.ClassFile.FieldType.object "ServiceApiary$Client")) :: xTs
theorem xd_X6_clientAt : yX6_clientAt.cls ≠ "java/lang/invoke/MethodHandle" ∧ yX6_clientAt.cls ≠ "java/lang/invoke/VarHandle" ∧ (parseMethodDescriptor yX6_clientAt.desc).map (fun d => d.parameters.length) = some 1 := by decide +kernel
abbrev wL_adapter : List Cond := Cond.codeWith yL_adapter cL_adapter 8 (Option.some Jvm.ClassFile.FieldType.int) [(0, 16, 19, 19), (0, 16, 23, 21), (0, 16, 27, 13)] :: xTs
theorem xd_L_adapter : yL_adapter.cls ≠ "java/lang/invoke/MethodHandle" ∧ yL_adapter.cls ≠ "java/lang/invoke/VarHandle" ∧ (parseMethodDescriptor yL_adapter.desc).map (fun d => d.parameters.length) = some 7 := by decide +kernel
abbrev wX6_adapter : List Cond := Cond.code yX6_adapter cX6_adapter 8 (Option.some Jvm.ClassFile.FieldType.int) :: xTs
theorem xd_X6_adapter : yX6_adapter.cls ≠ "java/lang/invoke/MethodHandle" ∧ yX6_adapter.cls ≠ "java/lang/invoke/VarHandle" ∧ (parseMethodDescriptor yX6_adapter.desc).map (fun d => d.parameters.length) = some 5 := by decide +kernel
abbrev wL_ofClient : List Cond := Cond.codeWith yL_ofClient cL_ofClient 5 (Option.some Jvm.ClassFile.FieldType.int) [(0, 10, 13, 19), (0, 10, 17, 21)] :: xTs
theorem xd_L_ofClient : yL_ofClient.cls ≠ "java/lang/invoke/MethodHandle" ∧ yL_ofClient.cls ≠ "java/lang/invoke/VarHandle" ∧ (parseMethodDescriptor yL_ofClient.desc).map (fun d => d.parameters.length) = some 4 := by decide +kernel
abbrev wX6_ofClient : List Cond := Cond.code yX6_ofClient cX6_ofClient 4 (Option.some Jvm.ClassFile.FieldType.int) :: xTs
theorem xd_X6_ofClient : yX6_ofClient.cls ≠ "java/lang/invoke/MethodHandle" ∧ yX6_ofClient.cls ≠ "java/lang/invoke/VarHandle" ∧ (parseMethodDescriptor yX6_ofClient.desc).map (fun d => d.parameters.length) = some 2 := by decide +kernel
abbrev wL_routed : List Cond := Cond.codeWith yL_routed cL_routed 5 (Option.some Jvm.ClassFile.FieldType.int) [(0, 10, 13, 19)] :: xTs
theorem xd_L_routed : yL_routed.cls ≠ "java/lang/invoke/MethodHandle" ∧ yL_routed.cls ≠ "java/lang/invoke/VarHandle" ∧ (parseMethodDescriptor yL_routed.desc).map (fun d => d.parameters.length) = some 4 := by decide +kernel
abbrev wX6_routed : List Cond := Cond.code yX6_routed cX6_routed 4 (Option.some Jvm.ClassFile.FieldType.int) :: xTs
theorem xd_X6_routed : yX6_routed.cls ≠ "java/lang/invoke/MethodHandle" ∧ yX6_routed.cls ≠ "java/lang/invoke/VarHandle" ∧ (parseMethodDescriptor yX6_routed.desc).map (fun d => d.parameters.length) = some 2 := by decide +kernel
abbrev wL_call : List Cond := Cond.codeWith yL_call cL_call 5 (Option.some Jvm.ClassFile.FieldType.int) [(0, 10, 13, 19), (0, 10, 17, 21)] :: xTs
theorem xd_L_call : yL_call.cls ≠ "java/lang/invoke/MethodHandle" ∧ yL_call.cls ≠ "java/lang/invoke/VarHandle" ∧ (parseMethodDescriptor yL_call.desc).map (fun d => d.parameters.length) = some 4 := by decide +kernel
abbrev wX6_call : List Cond := Cond.code yX6_call cX6_call 6 (Option.some Jvm.ClassFile.FieldType.int) :: xTs
theorem xd_X6_call : yX6_call.cls ≠ "java/lang/invoke/MethodHandle" ∧ yX6_call.cls ≠ "java/lang/invoke/VarHandle" ∧ (parseMethodDescriptor yX6_call.desc).map (fun d => d.parameters.length) = some 2 := by decide +kernel
abbrev wL_pass : List Cond := Cond.codeWith yL_pass cL_pass 4 (Option.some Jvm.ClassFile.FieldType.int) [(0, 9, 12, 21)] :: xTs
theorem xd_L_pass : yL_pass.cls ≠ "java/lang/invoke/MethodHandle" ∧ yL_pass.cls ≠ "java/lang/invoke/VarHandle" ∧ (parseMethodDescriptor yL_pass.desc).map (fun d => d.parameters.length) = some 3 := by decide +kernel
abbrev wX6_pass : List Cond := Cond.code yX6_pass cX6_pass 4 (Option.some Jvm.ClassFile.FieldType.int) :: xTs
theorem xd_X6_pass : yX6_pass.cls ≠ "java/lang/invoke/MethodHandle" ∧ yX6_pass.cls ≠ "java/lang/invoke/VarHandle" ∧ (parseMethodDescriptor yX6_pass.desc).map (fun d => d.parameters.length) = some 1 := by decide +kernel
abbrev wX6_beginHour : List Cond := Cond.code yX6_beginHour cX6_beginHour 5 (Option.some Jvm.ClassFile.FieldType.int) :: xTs
theorem xd_X6_beginHour : yX6_beginHour.cls ≠ "java/lang/invoke/MethodHandle" ∧ yX6_beginHour.cls ≠ "java/lang/invoke/VarHandle" ∧ (parseMethodDescriptor yX6_beginHour.desc).map (fun d => d.parameters.length) = some 0 := by decide +kernel
abbrev wL_lastCall : List Cond := Cond.codeWith yL_lastCall cL_lastCall 5 (Option.some Jvm.ClassFile.FieldType.int) [(0, 10, 13, 19)] :: xTs
theorem xd_L_lastCall : yL_lastCall.cls ≠ "java/lang/invoke/MethodHandle" ∧ yL_lastCall.cls ≠ "java/lang/invoke/VarHandle" ∧ (parseMethodDescriptor yL_lastCall.desc).map (fun d => d.parameters.length) = some 4 := by decide +kernel
abbrev wX6_lastCall : List Cond := Cond.code yX6_lastCall cX6_lastCall 5 (Option.some Jvm.ClassFile.FieldType.int) :: xTs
theorem xd_X6_lastCall : yX6_lastCall.cls ≠ "java/lang/invoke/MethodHandle" ∧ yX6_lastCall.cls ≠ "java/lang/invoke/VarHandle" ∧ (parseMethodDescriptor yX6_lastCall.desc).map (fun d => d.parameters.length) = some 2 := by decide +kernel
abbrev wL_retire : List Cond := Cond.codeWith yL_retire cL_retire 6 (Option.some Jvm.ClassFile.FieldType.int) [(0, 12, 15, 19), (0, 12, 19, 21), (0, 12, 23, 13)] :: xTs
theorem xd_L_retire : yL_retire.cls ≠ "java/lang/invoke/MethodHandle" ∧ yL_retire.cls ≠ "java/lang/invoke/VarHandle" ∧ (parseMethodDescriptor yL_retire.desc).map (fun d => d.parameters.length) = some 5 := by decide +kernel
abbrev wX6_retire : List Cond := Cond.code yX6_retire cX6_retire 5 (Option.some Jvm.ClassFile.FieldType.int) :: xTs
theorem xd_X6_retire : yX6_retire.cls ≠ "java/lang/invoke/MethodHandle" ∧ yX6_retire.cls ≠ "java/lang/invoke/VarHandle" ∧ (parseMethodDescriptor yX6_retire.desc).map (fun d => d.parameters.length) = some 3 := by decide +kernel
abbrev wL_answer : List Cond := Cond.codeWith yL_answer cL_answer 6 (Option.some Jvm.ClassFile.FieldType.int) [(0, 19, 22, 19), (0, 19, 26, 13)] :: xTs
theorem xd_L_answer : yL_answer.cls ≠ "java/lang/invoke/MethodHandle" ∧ yL_answer.cls ≠ "java/lang/invoke/VarHandle" ∧ (parseMethodDescriptor yL_answer.desc).map (fun d => d.parameters.length) = some 5 := by decide +kernel
abbrev wX6_answer : List Cond := Cond.code yX6_answer cX6_answer 6 (Option.some Jvm.ClassFile.FieldType.boolean) :: xTs
theorem xd_X6_answer : yX6_answer.cls ≠ "java/lang/invoke/MethodHandle" ∧ yX6_answer.cls ≠ "java/lang/invoke/VarHandle" ∧ (parseMethodDescriptor yX6_answer.desc).map (fun d => d.parameters.length) = some 3 := by decide +kernel
abbrev wL_recall : List Cond := Cond.codeWith yL_recall cL_recall 5 (Option.some Jvm.ClassFile.FieldType.int) [(0, 10, 13, 19), (0, 10, 17, 13)] :: xTs
theorem xd_L_recall : yL_recall.cls ≠ "java/lang/invoke/MethodHandle" ∧ yL_recall.cls ≠ "java/lang/invoke/VarHandle" ∧ (parseMethodDescriptor yL_recall.desc).map (fun d => d.parameters.length) = some 4 := by decide +kernel
abbrev wX6_recall : List Cond := Cond.code yX6_recall cX6_recall 5 (Option.some Jvm.ClassFile.FieldType.int) :: xTs
theorem xd_X6_recall : yX6_recall.cls ≠ "java/lang/invoke/MethodHandle" ∧ yX6_recall.cls ≠ "java/lang/invoke/VarHandle" ∧ (parseMethodDescriptor yX6_recall.desc).map (fun d => d.parameters.length) = some 2 := by decide +kernel
abbrev wL_asked : List Cond := Cond.codeWith yL_asked cL_asked 6 (Option.some Jvm.ClassFile.FieldType.int) [(0, 12, 15, 19)] :: xTs
theorem xd_L_asked : yL_asked.cls ≠ "java/lang/invoke/MethodHandle" ∧ yL_asked.cls ≠ "java/lang/invoke/VarHandle" ∧ (parseMethodDescriptor yL_asked.desc).map (fun d => d.parameters.length) = some 5 := by decide +kernel
abbrev wX6_asked : List Cond := Cond.code yX6_asked cX6_asked 5 (Option.some Jvm.ClassFile.FieldType.int) :: xTs
theorem xd_X6_asked : yX6_asked.cls ≠ "java/lang/invoke/MethodHandle" ∧ yX6_asked.cls ≠ "java/lang/invoke/VarHandle" ∧ (parseMethodDescriptor yX6_asked.desc).map (fun d => d.parameters.length) = some 3 := by decide +kernel
abbrev wL_many : List Cond := Cond.codeWith yL_many cL_many 4 (Option.some Jvm.ClassFile.FieldType.int) [(0, 9, 12, 21)] :: xTs
theorem xd_L_many : yL_many.cls ≠ "java/lang/invoke/MethodHandle" ∧ yL_many.cls ≠ "java/lang/invoke/VarHandle" ∧ (parseMethodDescriptor yL_many.desc).map (fun d => d.parameters.length) = some 3 := by decide +kernel
abbrev wX6_many : List Cond := Cond.code yX6_many cX6_many 2 (Option.some Jvm.ClassFile.FieldType.int) :: xTs
theorem xd_X6_many : yX6_many.cls ≠ "java/lang/invoke/MethodHandle" ∧ yX6_many.cls ≠ "java/lang/invoke/VarHandle" ∧ (parseMethodDescriptor yX6_many.desc).map (fun d => d.parameters.length) = some 1 := by decide +kernel
abbrev wL_wouldCome : List Cond := Cond.codeWith yL_wouldCome cL_wouldCome 5 (Option.some Jvm.ClassFile.FieldType.int) [(0, 10, 13, 19), (0, 10, 17, 21)] :: xTs
theorem xd_L_wouldCome : yL_wouldCome.cls ≠ "java/lang/invoke/MethodHandle" ∧ yL_wouldCome.cls ≠ "java/lang/invoke/VarHandle" ∧ (parseMethodDescriptor yL_wouldCome.desc).map (fun d => d.parameters.length) = some 4 := by decide +kernel
abbrev wX6_wouldCome : List Cond := Cond.code yX6_wouldCome cX6_wouldCome 4 (Option.some Jvm.ClassFile.FieldType.int) :: xTs
theorem xd_X6_wouldCome : yX6_wouldCome.cls ≠ "java/lang/invoke/MethodHandle" ∧ yX6_wouldCome.cls ≠ "java/lang/invoke/VarHandle" ∧ (parseMethodDescriptor yX6_wouldCome.desc).map (fun d => d.parameters.length) = some 2 := by decide +kernel
abbrev wL_goneIn : List Cond := Cond.codeWith yL_goneIn cL_goneIn 5 (Option.some Jvm.ClassFile.FieldType.int) [(0, 10, 13, 19)] :: xTs
theorem xd_L_goneIn : yL_goneIn.cls ≠ "java/lang/invoke/MethodHandle" ∧ yL_goneIn.cls ≠ "java/lang/invoke/VarHandle" ∧ (parseMethodDescriptor yL_goneIn.desc).map (fun d => d.parameters.length) = some 4 := by decide +kernel
abbrev wX6_goneIn : List Cond := Cond.code yX6_goneIn cX6_goneIn 4 (Option.some Jvm.ClassFile.FieldType.int) :: xTs
theorem xd_X6_goneIn : yX6_goneIn.cls ≠ "java/lang/invoke/MethodHandle" ∧ yX6_goneIn.cls ≠ "java/lang/invoke/VarHandle" ∧ (parseMethodDescriptor yX6_goneIn.desc).map (fun d => d.parameters.length) = some 2 := by decide +kernel
abbrev wL_wouldBreak : List Cond := Cond.codeWith yL_wouldBreak cL_wouldBreak 6 (Option.some Jvm.ClassFile.FieldType.int) [(0, 12, 15, 19), (0, 12, 19, 21)] :: xTs
theorem xd_L_wouldBreak : yL_wouldBreak.cls ≠ "java/lang/invoke/MethodHandle" ∧ yL_wouldBreak.cls ≠ "java/lang/invoke/VarHandle" ∧ (parseMethodDescriptor yL_wouldBreak.desc).map (fun d => d.parameters.length) = some 5 := by decide +kernel
abbrev wX6_wouldBreak : List Cond := Cond.code yX6_wouldBreak cX6_wouldBreak 8 (Option.some Jvm.ClassFile.FieldType.int) :: xTs
theorem xd_X6_wouldBreak : yX6_wouldBreak.cls ≠ "java/lang/invoke/MethodHandle" ∧ yX6_wouldBreak.cls ≠ "java/lang/invoke/VarHandle" ∧ (parseMethodDescriptor yX6_wouldBreak.desc).map (fun d => d.parameters.length) = some 3 := by decide +kernel
abbrev wL_target : List Cond := Cond.codeWith yL_target cL_target 4 (Option.some Jvm.ClassFile.FieldType.int) [(0, 9, 12, 19)] :: xTs
theorem xd_L_target : yL_target.cls ≠ "java/lang/invoke/MethodHandle" ∧ yL_target.cls ≠ "java/lang/invoke/VarHandle" ∧ (parseMethodDescriptor yL_target.desc).map (fun d => d.parameters.length) = some 3 := by decide +kernel
abbrev wX6_target : List Cond := Cond.code yX6_target cX6_target 3 (Option.some Jvm.ClassFile.FieldType.int) :: xTs
theorem xd_X6_target : yX6_target.cls ≠ "java/lang/invoke/MethodHandle" ∧ yX6_target.cls ≠ "java/lang/invoke/VarHandle" ∧ (parseMethodDescriptor yX6_target.desc).map (fun d => d.parameters.length) = some 1 := by decide +kernel
abbrev wL_goneBy : List Cond := Cond.codeWith yL_goneBy cL_goneBy 6 (Option.some Jvm.ClassFile.FieldType.int) [(0, 12, 15, 19), (0, 12, 19, 21), (0, 12, 23, 13)] :: xTs
theorem xd_L_goneBy : yL_goneBy.cls ≠ "java/lang/invoke/MethodHandle" ∧ yL_goneBy.cls ≠ "java/lang/invoke/VarHandle" ∧ (parseMethodDescriptor yL_goneBy.desc).map (fun d => d.parameters.length) = some 5 := by decide +kernel
abbrev wX6_goneBy : List Cond := Cond.code yX6_goneBy cX6_goneBy 5 (Option.some Jvm.ClassFile.FieldType.int) :: xTs
theorem xd_X6_goneBy : yX6_goneBy.cls ≠ "java/lang/invoke/MethodHandle" ∧ yX6_goneBy.cls ≠ "java/lang/invoke/VarHandle" ∧ (parseMethodDescriptor yX6_goneBy.desc).map (fun d => d.parameters.length) = some 3 := by decide +kernel
abbrev wX12_init : List Cond := Cond.code yX12_init cX12_init 1 (Option.none : Option Jvm.ClassFile.FieldType) :: xTs
theorem xd_X12_init : yX12_init.cls ≠ "java/lang/invoke/MethodHandle" ∧ yX12_init.cls ≠ "java/lang/invoke/VarHandle" ∧ (parseMethodDescriptor yX12_init.desc).map (fun d => d.parameters.length) = some 0 := by decide +kernel
abbrev wX10_init : List Cond := Cond.code yX10_init cX10_init 1 (Option.none : Option Jvm.ClassFile.FieldType) :: xTs
theorem xd_X10_init : yX10_init.cls ≠ "java/lang/invoke/MethodHandle" ∧ yX10_init.cls ≠ "java/lang/invoke/VarHandle" ∧ (parseMethodDescriptor yX10_init.desc).map (fun d => d.parameters.length) = some 0 := by decide +kernel
abbrev wJx4a65c_init_da8c8 : List Cond := Cond.code yJx4a65c_init_da8c8 cJx4a65c_init_da8c8 1 (Option.none : Option Jvm.ClassFile.FieldType) :: xTs
theorem xd_Jx4a65c_init_da8c8 : yJx4a65c_init_da8c8.cls ≠ "java/lang/invoke/MethodHandle" ∧ yJx4a65c_init_da8c8.cls ≠ "java/lang/invoke/VarHandle" ∧ (parseMethodDescriptor yJx4a65c_init_da8c8.desc).map (fun d => d.parameters.length) = some 0 := by decide +kernel
abbrev wJxc12de_init_da8c8 : List Cond := Cond.code yJxc12de_init_da8c8 cJxc12de_init_da8c8 1 (Option.none : Option Jvm.ClassFile.FieldType) :: xTs
theorem xd_Jxc12de_init_da8c8 : yJxc12de_init_da8c8.cls ≠ "java/lang/invoke/MethodHandle" ∧ yJxc12de_init_da8c8.cls ≠ "java/lang/invoke/VarHandle" ∧ (parseMethodDescriptor yJxc12de_init_da8c8.desc).map (fun d => d.parameters.length) = some 0 := by decide +kernel
abbrev wJxa1e45_init_da8c8 : List Cond := Cond.code yJxa1e45_init_da8c8 cJxa1e45_init_da8c8 1 (Option.none : Option Jvm.ClassFile.FieldType) :: xTs
theorem xd_Jxa1e45_init_da8c8 : yJxa1e45_init_da8c8.cls ≠ "java/lang/invoke/MethodHandle" ∧ yJxa1e45_init_da8c8.cls ≠ "java/lang/invoke/VarHandle" ∧ (parseMethodDescriptor yJxa1e45_init_da8c8.desc).map (fun d => d.parameters.length) = some 0 := by decide +kernel
abbrev wX12_thrown : List Cond := Cond.code yX12_thrown cX12_thrown 1 (Option.some Jvm.ClassFile.FieldType.int) :: xTs
theorem xd_X12_thrown : yX12_thrown.cls ≠ "java/lang/invoke/MethodHandle" ∧ yX12_thrown.cls ≠ "java/lang/invoke/VarHandle" ∧ (parseMethodDescriptor yX12_thrown.desc).map (fun d => d.parameters.length) = some 0 := by decide +kernel
abbrev wX12_open : List Cond := Cond.code yX12_open cX12_open 1 (Option.some Jvm.ClassFile.FieldType.int) :: xTs
theorem xd_X12_open : yX12_open.cls ≠ "java/lang/invoke/MethodHandle" ∧ yX12_open.cls ≠ "java/lang/invoke/VarHandle" ∧ (parseMethodDescriptor yX12_open.desc).map (fun d => d.parameters.length) = some 0 := by decide +kernel
abbrev wJx4a65c_size_8abf5 : List Cond := Cond.code yJx4a65c_size_8abf5 cJx4a65c_size_8abf5 1 (Option.some Jvm.ClassFile.FieldType.int) :: xTs
theorem xd_Jx4a65c_size_8abf5 : yJx4a65c_size_8abf5.cls ≠ "java/lang/invoke/MethodHandle" ∧ yJx4a65c_size_8abf5.cls ≠ "java/lang/invoke/VarHandle" ∧ (parseMethodDescriptor yJx4a65c_size_8abf5.desc).map (fun d => d.parameters.length) = some 0 := by decide +kernel
abbrev wX12_start : List Cond := Cond.code yX12_start cX12_start 3 (Option.some Jvm.ClassFile.FieldType.boolean) :: xTs
theorem xd_X12_start : yX12_start.cls ≠ "java/lang/invoke/MethodHandle" ∧ yX12_start.cls ≠ "java/lang/invoke/VarHandle" ∧ (parseMethodDescriptor yX12_start.desc).map (fun d => d.parameters.length) = some 2 := by decide +kernel
abbrev wX12_refuse : List Cond := Cond.code yX12_refuse cX12_refuse 3 (Option.some Jvm.ClassFile.FieldType.boolean) :: xTs
theorem xd_X12_refuse : yX12_refuse.cls ≠ "java/lang/invoke/MethodHandle" ∧ yX12_refuse.cls ≠ "java/lang/invoke/VarHandle" ∧ (parseMethodDescriptor yX12_refuse.desc).map (fun d => d.parameters.length) = some 2 := by decide +kernel
abbrev wJx4a65c_add_9ea2d : List Cond := Cond.code yJx4a65c_add_9ea2d cJx4a65c_add_9ea2d 2 (Option.some Jvm.ClassFile.FieldType.boolean) :: xTs
theorem xd_Jx4a65c_add_9ea2d : yJx4a65c_add_9ea2d.cls ≠ "java/lang/invoke/MethodHandle" ∧ yJx4a65c_add_9ea2d.cls ≠ "java/lang/invoke/VarHandle" ∧ (parseMethodDescriptor yJx4a65c_add_9ea2d.desc).map (fun d => d.parameters.length) = some 1 := by decide +kernel
abbrev wJx4a65c_add_72be8 : List Cond := Cond.code yJx4a65c_add_72be8 cJx4a65c_add_72be8 4 (Option.none : Option Jvm.ClassFile.FieldType) :: xTs
theorem xd_Jx4a65c_add_72be8 : yJx4a65c_add_72be8.cls ≠ "java/lang/invoke/MethodHandle" ∧ yJx4a65c_add_72be8.cls ≠ "java/lang/invoke/VarHandle" ∧ (parseMethodDescriptor yJx4a65c_add_72be8.desc).map (fun d => d.parameters.length) = some 3 := by decide +kernel
abbrev wJx4a65c_grow_d5877 : List Cond := Cond.code yJx4a65c_grow_d5877 cJx4a65c_grow_d5877 1 (Option.some (Jvm.ClassFile.FieldType.array (Jvm.ClassFile.FieldType.object "java/lang/Object"))) :: xTs
theorem xd_Jx4a65c_grow_d5877 : yJx4a65c_grow_d5877.cls ≠ "java/lang/invoke/MethodHandle" ∧ yJx4a65c_grow_d5877.cls ≠ "java/lang/invoke/VarHandle" ∧ (parseMethodDescriptor yJx4a65c_grow_d5877.desc).map (fun d => d.parameters.length) = some 0 := by decide +kernel
abbrev wJx4a65c_grow_92f84 : List Cond := Cond.code yJx4a65c_grow_92f84 cJx4a65c_grow_92f84 4 (Option.some (Jvm.ClassFile.FieldType.array (Jvm.ClassFile.FieldType.object "java/lang/Object"))) :: xTs
theorem xd_Jx4a65c_grow_92f84 : yJx4a65c_grow_92f84.cls ≠ "java/lang/invoke/MethodHandle" ∧ yJx4a65c_grow_92f84.cls ≠ "java/lang/invoke/VarHandle" ∧ (parseMethodDescriptor yJx4a65c_grow_92f84.desc).map (fun d => d.parameters.length) = some 1 := by decide +kernel
abbrev wX12_publish : List Cond := Cond.code yX12_publish cX12_publish 8 (Option.some Jvm.ClassFile.FieldType.int) :: xTs
theorem xd_X12_publish : yX12_publish.cls ≠ "java/lang/invoke/MethodHandle" ∧ yX12_publish.cls ≠ "java/lang/invoke/VarHandle" ∧ (parseMethodDescriptor yX12_publish.desc).map (fun d => d.parameters.length) = some 3 := by decide +kernel
abbrev wX12_isNoFace : List Cond := Cond.code yX12_isNoFace cX12_isNoFace 2 (Option.some Jvm.ClassFile.FieldType.boolean) :: xTs
theorem xd_X12_isNoFace : yX12_isNoFace.cls ≠ "java/lang/invoke/MethodHandle" ∧ yX12_isNoFace.cls ≠ "java/lang/invoke/VarHandle" ∧ (parseMethodDescriptor yX12_isNoFace.desc).map (fun d => d.parameters.length) = some 1 := by decide +kernel
abbrev wX12_isIn : List Cond := Cond.code yX12_isIn cX12_isIn 3 (Option.some Jvm.ClassFile.FieldType.boolean) :: xTs
theorem xd_X12_isIn : yX12_isIn.cls ≠ "java/lang/invoke/MethodHandle" ∧ yX12_isIn.cls ≠ "java/lang/invoke/VarHandle" ∧ (parseMethodDescriptor yX12_isIn.desc).map (fun d => d.parameters.length) = some 3 := by decide +kernel
abbrev wJx4a65c_iterator_32c93 : List Cond := Cond.code yJx4a65c_iterator_32c93 cJx4a65c_iterator_32c93 1 (Option.some (Jvm.ClassFile.FieldType.object "java/util/Iterator")) :: xTs
theorem xd_Jx4a65c_iterator_32c93 : yJx4a65c_iterator_32c93.cls ≠ "java/lang/invoke/MethodHandle" ∧ yJx4a65c_iterator_32c93.cls ≠ "java/lang/invoke/VarHandle" ∧ (parseMethodDescriptor yJx4a65c_iterator_32c93.desc).map (fun d => d.parameters.length) = some 0 := by decide +kernel
abbrev wJx35411_init_45d68 : List Cond := Cond.code yJx35411_init_45d68 cJx35411_init_45d68 2 (Option.none : Option Jvm.ClassFile.FieldType) :: xTs
theorem xd_Jx35411_init_45d68 : yJx35411_init_45d68.cls ≠ "java/lang/invoke/MethodHandle" ∧ yJx35411_init_45d68.cls ≠ "java/lang/invoke/VarHandle" ∧ (parseMethodDescriptor yJx35411_init_45d68.desc).map (fun d => d.parameters.length) = some 1 := by decide +kernel
abbrev wJx35411_hasNext_aae02 : List Cond := Cond.code yJx35411_hasNext_aae02 cJx35411_hasNext_aae02 1 (Option.some Jvm.ClassFile.FieldType.boolean) :: xTs
theorem xd_Jx35411_hasNext_aae02 : yJx35411_hasNext_aae02.cls ≠ "java/lang/invoke/MethodHandle" ∧ yJx35411_hasNext_aae02.cls ≠ "java/lang/invoke/VarHandle" ∧ (parseMethodDescriptor yJx35411_hasNext_aae02.desc).map (fun d => d.parameters.length) = some 0 := by decide +kernel
abbrev wX12_ofVersion : List Cond := Cond.code yX12_ofVersion cX12_ofVersion 4 (Option.some Jvm.ClassFile.FieldType.int) :: xTs
theorem xd_X12_ofVersion : yX12_ofVersion.cls ≠ "java/lang/invoke/MethodHandle" ∧ yX12_ofVersion.cls ≠ "java/lang/invoke/VarHandle" ∧ (parseMethodDescriptor yX12_ofVersion.desc).map (fun d => d.parameters.length) = some 3 := by decide +kernel
abbrev wX12_isNoVersion : List Cond := Cond.code yX12_isNoVersion cX12_isNoVersion 3 (Option.some Jvm.ClassFile.FieldType.boolean) :: xTs
theorem xd_X12_isNoVersion : yX12_isNoVersion.cls ≠ "java/lang/invoke/MethodHandle" ∧ yX12_isNoVersion.cls ≠ "java/lang/invoke/VarHandle" ∧ (parseMethodDescriptor yX12_isNoVersion.desc).map (fun d => d.parameters.length) = some 2 := by decide +kernel
abbrev wX12_isNo : List Cond := Cond.code yX12_isNo cX12_isNo 3 (Option.some Jvm.ClassFile.FieldType.boolean) :: xTs
theorem xd_X12_isNo : yX12_isNo.cls ≠ "java/lang/invoke/MethodHandle" ∧ yX12_isNo.cls ≠ "java/lang/invoke/VarHandle" ∧ (parseMethodDescriptor yX12_isNo.desc).map (fun d => d.parameters.length) = some 2 := by decide +kernel
abbrev wX12_isCompatible : List Cond := Cond.code yX12_isCompatible cX12_isCompatible 4 (Option.some Jvm.ClassFile.FieldType.boolean) :: xTs
theorem xd_X12_isCompatible : yX12_isCompatible.cls ≠ "java/lang/invoke/MethodHandle" ∧ yX12_isCompatible.cls ≠ "java/lang/invoke/VarHandle" ∧ (parseMethodDescriptor yX12_isCompatible.desc).map (fun d => d.parameters.length) = some 3 := by decide +kernel
abbrev wX12_client : List Cond := Cond.code yX12_client cX12_client 5 (Option.some Jvm.ClassFile.FieldType.int) :: xTs
theorem xd_X12_client : yX12_client.cls ≠ "java/lang/invoke/MethodHandle" ∧ yX12_client.cls ≠ "java/lang/invoke/VarHandle" ∧ (parseMethodDescriptor yX12_client.desc).map (fun d => d.parameters.length) = some 4 := by decide +kernel
abbrev wX12_again : List Cond := Cond.code yX12_again cX12_again 4 (Option.some Jvm.ClassFile.FieldType.int) :: xTs
theorem xd_X12_again : yX12_again.cls ≠ "java/lang/invoke/MethodHandle" ∧ yX12_again.cls ≠ "java/lang/invoke/VarHandle" ∧ (parseMethodDescriptor yX12_again.desc).map (fun d => d.parameters.length) = some 2 := by decide +kernel
abbrev wX12_isNoPair : List Cond := Cond.code yX12_isNoPair cX12_isNoPair 3 (Option.some Jvm.ClassFile.FieldType.boolean) :: xTs
theorem xd_X12_isNoPair : yX12_isNoPair.cls ≠ "java/lang/invoke/MethodHandle" ∧ yX12_isNoPair.cls ≠ "java/lang/invoke/VarHandle" ∧ (parseMethodDescriptor yX12_isNoPair.desc).map (fun d => d.parameters.length) = some 2 := by decide +kernel
abbrev wX12_isNoOne : List Cond := Cond.code yX12_isNoOne cX12_isNoOne 2 (Option.some Jvm.ClassFile.FieldType.boolean) :: xTs
theorem xd_X12_isNoOne : yX12_isNoOne.cls ≠ "java/lang/invoke/MethodHandle" ∧ yX12_isNoOne.cls ≠ "java/lang/invoke/VarHandle" ∧ (parseMethodDescriptor yX12_isNoOne.desc).map (fun d => d.parameters.length) = some 1 := by decide +kernel
abbrev wX12_adapter : List Cond := Cond.code yX12_adapter cX12_adapter 6 (Option.some Jvm.ClassFile.FieldType.int) :: xTs
theorem xd_X12_adapter : yX12_adapter.cls ≠ "java/lang/invoke/MethodHandle" ∧ yX12_adapter.cls ≠ "java/lang/invoke/VarHandle" ∧ (parseMethodDescriptor yX12_adapter.desc).map (fun d => d.parameters.length) = some 5 := by decide +kernel
abbrev wX12_ofClient : List Cond := Cond.code yX12_ofClient cX12_ofClient 3 (Option.some Jvm.ClassFile.FieldType.int) :: xTs
theorem xd_X12_ofClient : yX12_ofClient.cls ≠ "java/lang/invoke/MethodHandle" ∧ yX12_ofClient.cls ≠ "java/lang/invoke/VarHandle" ∧ (parseMethodDescriptor yX12_ofClient.desc).map (fun d => d.parameters.length) = some 2 := by decide +kernel
abbrev wX12_isNoClient : List Cond := Cond.code yX12_isNoClient cX12_isNoClient 2 (Option.some Jvm.ClassFile.FieldType.boolean) :: xTs
theorem xd_X12_isNoClient : yX12_isNoClient.cls ≠ "java/lang/invoke/MethodHandle" ∧ yX12_isNoClient.cls ≠ "java/lang/invoke/VarHandle" ∧ (parseMethodDescriptor yX12_isNoClient.desc).map (fun d => d.parameters.length) = some 1 := by decide +kernel
abbrev wX12_routed : List Cond := Cond.code yX12_routed cX12_routed 4 (Option.some Jvm.ClassFile.FieldType.int) :: xTs
theorem xd_X12_routed : yX12_routed.cls ≠ "java/lang/invoke/MethodHandle" ∧ yX12_routed.cls ≠ "java/lang/invoke/VarHandle" ∧ (parseMethodDescriptor yX12_routed.desc).map (fun d => d.parameters.length) = some 2 := by decide +kernel
abbrev wX12_call : List Cond := Cond.code yX12_call cX12_call 5 (Option.some Jvm.ClassFile.FieldType.int) :: xTs
theorem xd_X12_call : yX12_call.cls ≠ "java/lang/invoke/MethodHandle" ∧ yX12_call.cls ≠ "java/lang/invoke/VarHandle" ∧ (parseMethodDescriptor yX12_call.desc).map (fun d => d.parameters.length) = some 2 := by decide +kernel
abbrev wX12_pass : List Cond := Cond.code yX12_pass cX12_pass 4 (Option.some Jvm.ClassFile.FieldType.int) :: xTs
theorem xd_X12_pass : yX12_pass.cls ≠ "java/lang/invoke/MethodHandle" ∧ yX12_pass.cls ≠ "java/lang/invoke/VarHandle" ∧ (parseMethodDescriptor yX12_pass.desc).map (fun d => d.parameters.length) = some 1 := by decide +kernel
abbrev wX10_begin : List Cond := Cond.code yX10_begin cX10_begin 4 (Option.some Jvm.ClassFile.FieldType.int) :: xTs
theorem xd_X10_begin : yX10_begin.cls ≠ "java/lang/invoke/MethodHandle" ∧ yX10_begin.cls ≠ "java/lang/invoke/VarHandle" ∧ (parseMethodDescriptor yX10_begin.desc).map (fun d => d.parameters.length) = some 0 := by decide +kernel
abbrev wX12_lastCall : List Cond := Cond.code yX12_lastCall cX12_lastCall 3 (Option.some Jvm.ClassFile.FieldType.int) :: xTs
theorem xd_X12_lastCall : yX12_lastCall.cls ≠ "java/lang/invoke/MethodHandle" ∧ yX12_lastCall.cls ≠ "java/lang/invoke/VarHandle" ∧ (parseMethodDescriptor yX12_lastCall.desc).map (fun d => d.parameters.length) = some 2 := by decide +kernel
abbrev wX12_retire : List Cond := Cond.code yX12_retire cX12_retire 9 (Option.some Jvm.ClassFile.FieldType.int) :: xTs
theorem xd_X12_retire : yX12_retire.cls ≠ "java/lang/invoke/MethodHandle" ∧ yX12_retire.cls ≠ "java/lang/invoke/VarHandle" ∧ (parseMethodDescriptor yX12_retire.desc).map (fun d => d.parameters.length) = some 3 := by decide +kernel
abbrev wX12_answer : List Cond := Cond.code yX12_answer cX12_answer 5 (Option.some Jvm.ClassFile.FieldType.boolean) :: xTs
theorem xd_X12_answer : yX12_answer.cls ≠ "java/lang/invoke/MethodHandle" ∧ yX12_answer.cls ≠ "java/lang/invoke/VarHandle" ∧ (parseMethodDescriptor yX12_answer.desc).map (fun d => d.parameters.length) = some 3 := by decide +kernel
abbrev wX12_isNoAsk : List Cond := Cond.code yX12_isNoAsk cX12_isNoAsk 4 (Option.some Jvm.ClassFile.FieldType.boolean) :: xTs
theorem xd_X12_isNoAsk : yX12_isNoAsk.cls ≠ "java/lang/invoke/MethodHandle" ∧ yX12_isNoAsk.cls ≠ "java/lang/invoke/VarHandle" ∧ (parseMethodDescriptor yX12_isNoAsk.desc).map (fun d => d.parameters.length) = some 3 := by decide +kernel
abbrev wX12_recall : List Cond := Cond.code yX12_recall cX12_recall 4 (Option.some Jvm.ClassFile.FieldType.int) :: xTs
theorem xd_X12_recall : yX12_recall.cls ≠ "java/lang/invoke/MethodHandle" ∧ yX12_recall.cls ≠ "java/lang/invoke/VarHandle" ∧ (parseMethodDescriptor yX12_recall.desc).map (fun d => d.parameters.length) = some 2 := by decide +kernel
abbrev wX12_asked : List Cond := Cond.code yX12_asked cX12_asked 4 (Option.some Jvm.ClassFile.FieldType.int) :: xTs
theorem xd_X12_asked : yX12_asked.cls ≠ "java/lang/invoke/MethodHandle" ∧ yX12_asked.cls ≠ "java/lang/invoke/VarHandle" ∧ (parseMethodDescriptor yX12_asked.desc).map (fun d => d.parameters.length) = some 3 := by decide +kernel
abbrev wX12_many : List Cond := Cond.code yX12_many cX12_many 2 (Option.some Jvm.ClassFile.FieldType.int) :: xTs
theorem xd_X12_many : yX12_many.cls ≠ "java/lang/invoke/MethodHandle" ∧ yX12_many.cls ≠ "java/lang/invoke/VarHandle" ∧ (parseMethodDescriptor yX12_many.desc).map (fun d => d.parameters.length) = some 1 := by decide +kernel
abbrev wX12_count : List Cond := Cond.code yX12_count cX12_count 2 (Option.some Jvm.ClassFile.FieldType.int) :: xTs
theorem xd_X12_count : yX12_count.cls ≠ "java/lang/invoke/MethodHandle" ∧ yX12_count.cls ≠ "java/lang/invoke/VarHandle" ∧ (parseMethodDescriptor yX12_count.desc).map (fun d => d.parameters.length) = some 1 := by decide +kernel
abbrev wX12_versionsIn : List Cond := Cond.code yX12_versionsIn cX12_versionsIn 7 (Option.some Jvm.ClassFile.FieldType.int) :: xTs
theorem xd_X12_versionsIn : yX12_versionsIn.cls ≠ "java/lang/invoke/MethodHandle" ∧ yX12_versionsIn.cls ≠ "java/lang/invoke/VarHandle" ∧ (parseMethodDescriptor yX12_versionsIn.desc).map (fun d => d.parameters.length) = some 1 := by decide +kernel
abbrev wX12_callsThat : List Cond := Cond.code yX12_callsThat cX12_callsThat 6 (Option.some Jvm.ClassFile.FieldType.int) :: xTs
theorem xd_X12_callsThat : yX12_callsThat.cls ≠ "java/lang/invoke/MethodHandle" ∧ yX12_callsThat.cls ≠ "java/lang/invoke/VarHandle" ∧ (parseMethodDescriptor yX12_callsThat.desc).map (fun d => d.parameters.length) = some 2 := by decide +kernel
abbrev wX12_servedShare : List Cond := Cond.code yX12_servedShare cX12_servedShare 1 (Option.some Jvm.ClassFile.FieldType.double) :: xTs
theorem xd_X12_servedShare : yX12_servedShare.cls ≠ "java/lang/invoke/MethodHandle" ∧ yX12_servedShare.cls ≠ "java/lang/invoke/VarHandle" ∧ (parseMethodDescriptor yX12_servedShare.desc).map (fun d => d.parameters.length) = some 0 := by decide +kernel
abbrev wJx4a65c_isEmpty_aae02 : List Cond := Cond.code yJx4a65c_isEmpty_aae02 cJx4a65c_isEmpty_aae02 1 (Option.some Jvm.ClassFile.FieldType.boolean) :: xTs
theorem xd_Jx4a65c_isEmpty_aae02 : yJx4a65c_isEmpty_aae02.cls ≠ "java/lang/invoke/MethodHandle" ∧ yJx4a65c_isEmpty_aae02.cls ≠ "java/lang/invoke/VarHandle" ∧ (parseMethodDescriptor yJx4a65c_isEmpty_aae02.desc).map (fun d => d.parameters.length) = some 0 := by decide +kernel
abbrev wX12_wouldCome : List Cond := Cond.code yX12_wouldCome cX12_wouldCome 3 (Option.some Jvm.ClassFile.FieldType.int) :: xTs
theorem xd_X12_wouldCome : yX12_wouldCome.cls ≠ "java/lang/invoke/MethodHandle" ∧ yX12_wouldCome.cls ≠ "java/lang/invoke/VarHandle" ∧ (parseMethodDescriptor yX12_wouldCome.desc).map (fun d => d.parameters.length) = some 2 := by decide +kernel
abbrev wX12_goneIn : List Cond := Cond.code yX12_goneIn cX12_goneIn 3 (Option.some Jvm.ClassFile.FieldType.int) :: xTs
theorem xd_X12_goneIn : yX12_goneIn.cls ≠ "java/lang/invoke/MethodHandle" ∧ yX12_goneIn.cls ≠ "java/lang/invoke/VarHandle" ∧ (parseMethodDescriptor yX12_goneIn.desc).map (fun d => d.parameters.length) = some 2 := by decide +kernel
abbrev wX12_wouldBreak : List Cond := Cond.code yX12_wouldBreak cX12_wouldBreak 8 (Option.some Jvm.ClassFile.FieldType.int) :: xTs
theorem xd_X12_wouldBreak : yX12_wouldBreak.cls ≠ "java/lang/invoke/MethodHandle" ∧ yX12_wouldBreak.cls ≠ "java/lang/invoke/VarHandle" ∧ (parseMethodDescriptor yX12_wouldBreak.desc).map (fun d => d.parameters.length) = some 3 := by decide +kernel
abbrev wX12_target : List Cond := Cond.code yX12_target cX12_target 2 (Option.some Jvm.ClassFile.FieldType.int) :: xTs
theorem xd_X12_target : yX12_target.cls ≠ "java/lang/invoke/MethodHandle" ∧ yX12_target.cls ≠ "java/lang/invoke/VarHandle" ∧ (parseMethodDescriptor yX12_target.desc).map (fun d => d.parameters.length) = some 1 := by decide +kernel
abbrev wX12_goneBy : List Cond := Cond.code yX12_goneBy cX12_goneBy 5 (Option.some Jvm.ClassFile.FieldType.int) :: xTs
theorem xd_X12_goneBy : yX12_goneBy.cls ≠ "java/lang/invoke/MethodHandle" ∧ yX12_goneBy.cls ≠ "java/lang/invoke/VarHandle" ∧ (parseMethodDescriptor yX12_goneBy.desc).map (fun d => d.parameters.length) = some 3 := by decide +kernel
abbrev wX12_digest : List Cond := Cond.code yX12_digest cX12_digest 7 (Option.some Jvm.ClassFile.FieldType.long) :: xTs
theorem xd_X12_digest : yX12_digest.cls ≠ "java/lang/invoke/MethodHandle" ∧ yX12_digest.cls ≠ "java/lang/invoke/VarHandle" ∧ (parseMethodDescriptor yX12_digest.desc).map (fun d => d.parameters.length) = some 0 := by decide +kernel
abbrev wX12_add : List Cond := Cond.code yX12_add cX12_add 4 (Option.some Jvm.ClassFile.FieldType.long) :: xTs
theorem xd_X12_add : yX12_add.cls ≠ "java/lang/invoke/MethodHandle" ∧ yX12_add.cls ≠ "java/lang/invoke/VarHandle" ∧ (parseMethodDescriptor yX12_add.desc).map (fun d => d.parameters.length) = some 2 := by decide +kernel
theorem xd_It : yIt.cls ≠ "java/lang/invoke/MethodHandle" ∧ yIt.cls ≠ "java/lang/invoke/VarHandle" ∧ (parseMethodDescriptor yIt.desc).map (fun d => d.parameters.length) = some 0 := by decide +kernel
def xNm : List String := ["java/lang/RuntimeException", "java/lang/Exception"]
theorem xatI_0 : ∀ w ∈ (vx_atS RX6 63 "java/lang/IndexOutOfBoundsException" xNm).filter goodWord, w ∈ lw_tbl := by decide +kernel
theorem xatI_2 : ∀ w ∈ (vx_atS RX6 63 "java/lang/IndexOutOfBoundsException" xNm).filter (fun w => !goodWord w), w ∈ [Cond.castable "java/lang/IndexOutOfBoundsException" "java/lang/IndexOutOfBoundsException", Cond.declares (Bundle.initS "java/lang/RuntimeException"), Cond.declares (Bundle.initS "java/lang/Exception"), Cond.declares (Bundle.initS "java/lang/Throwable")] := by decide +kernel
theorem xatI {A : Array Value} {U : State} (ht : ∀ w ∈ xTs, w.before A U = true) (hx : x_xt U) : ∀ w ∈ vx_atS RX6 63 "java/lang/IndexOutOfBoundsException" xNm, w.before A U = true :=
  vx_hat (fun w h => ht w (List.mem_filter.mpr ⟨xatI_0 w h, (List.mem_filter.mp h).2⟩)) xatI_2 (vx_c (va_Nw.use rfl (x9 hx)) (vx_c (va_Nw.use rfl (x5 hx)) (vx_c (va_Nw.use rfl (x6 hx)) (vx_c (va_Nw.use rfl (x7 hx)) vx_n))))
theorem xokI : ∀ w ∈ Cond.classLink RX6 59 "java/lang/IndexOutOfBoundsException" :: Cond.initialized "java/lang/IndexOutOfBoundsException" :: vx_atS RX6 63 "java/lang/IndexOutOfBoundsException" xNm, vx_ot w = true := by decide +kernel
theorem xatA_0 : ∀ w ∈ (vx_atS RX6 72 "java/lang/IllegalArgumentException" xNm).filter goodWord, w ∈ lw_tbl := by decide +kernel
theorem xatA_2 : ∀ w ∈ (vx_atS RX6 72 "java/lang/IllegalArgumentException" xNm).filter (fun w => !goodWord w), w ∈ [Cond.castable "java/lang/IllegalArgumentException" "java/lang/IllegalArgumentException", Cond.declares (Bundle.initS "java/lang/RuntimeException"), Cond.declares (Bundle.initS "java/lang/Exception"), Cond.declares (Bundle.initS "java/lang/Throwable")] := by decide +kernel
theorem xatA {A : Array Value} {U : State} (ht : ∀ w ∈ xTs, w.before A U = true) (hx : x_xt U) : ∀ w ∈ vx_atS RX6 72 "java/lang/IllegalArgumentException" xNm, w.before A U = true :=
  vx_hat (fun w h => ht w (List.mem_filter.mpr ⟨xatA_0 w h, (List.mem_filter.mp h).2⟩)) xatA_2 (vx_c (va_Nw.use rfl (x10 hx)) (vx_c (va_Nw.use rfl (x5 hx)) (vx_c (va_Nw.use rfl (x6 hx)) (vx_c (va_Nw.use rfl (x7 hx)) vx_n))))
theorem xokA : ∀ w ∈ Cond.classLink RX6 68 "java/lang/IllegalArgumentException" :: Cond.initialized "java/lang/IllegalArgumentException" :: vx_atS RX6 72 "java/lang/IllegalArgumentException" xNm, vx_ot w = true := by decide +kernel
end
section
/-! ===== the X layer: the kit's rows over a world that is a function from addresses to what lies there ===== -/
abbrev xE : Type := (Nat × vp_A) ⊕ (Nat × List Value)
abbrev xW : Type := Nat → Option xE
def x_em (dA : Nat → ClassId) (x : xE) : va_E := match x with
  | .inl a => .inl (dA a.1, a.2)
  | .inr o => .inr o
def x_set (w : xW) (a : Nat) (x : xE) : xW := fun b => if b = a then some x else w b
theorem x_set_eq (w : xW) (a : Nat) (x : xE) : x_set w a x a = some x := if_pos rfl
theorem x_set_ne (w : xW) {a b : Nat} (x : xE) (h : ¬ b = a) : x_set w a x b = w b := if_neg h
/-- the heap holds the world; all its cells lie at B or above -/
def x_P (D : va_G) (dA : Nat → ClassId) (cl : List vw_C) (B : Nat) (w : xW) (H : Heap) : Prop := ∀ (a : Nat) (x : xE), w a = some x → B ≤ a ∧ va_at D cl (a, x_em dA x) H
def x_tys (dA : Nat → ClassId) (tyL : List FieldType) : List (ClassId × FieldType) := (List.range tyL.length).map (fun t => (dA t, tyL.getD t .int))
theorem x_tys_at {dA : Nat → ClassId} {tyL : List FieldType} {t : Nat} {ty : FieldType} (h : tyL[t]? = some ty) : (x_tys dA tyL)[t]? = some (dA t, ty) := by
  have hl : t < tyL.length := (List.getElem?_eq_some_iff.mp h).1
  unfold x_tys
  rw [List.getElem?_map, List.getElem?_range hl]
  simp [List.getD, h]
/-- the world as a list, up to an address -/
def x_L (dA : Nat → ClassId) (w : xW) (n : Nat) : va_W := (List.range n).filterMap (fun a => (w a).map (fun x => (a, x_em dA x)))
theorem x_L_mem {dA : Nat → ClassId} {w : xW} {n : Nat} {q : Nat × va_E} (h : q ∈ x_L dA w n) : q.1 < n ∧ ∃ x, w q.1 = some x ∧ q.2 = x_em dA x := by
  obtain ⟨a, ha, hq⟩ := List.mem_filterMap.mp h
  cases hw : w a with
  | none => rw [hw] at hq; cases hq
  | some x =>
    rw [hw] at hq
    cases hq
    exact ⟨List.mem_range.mp ha, x, hw, rfl⟩
theorem x_L_of {dA : Nat → ClassId} {w : xW} {n a : Nat} {x : xE} (hw : w a = some x) (ha : a < n) : (a, x_em dA x) ∈ x_L dA w n :=
  List.mem_filterMap.mpr ⟨a, List.mem_range.mpr ha, by rw [hw]; rfl⟩
theorem x_L_pw (dA : Nat → ClassId) (w : xW) (n : Nat) : (x_L dA w n).Pairwise (fun p q => p.1 < q.1) := by
  unfold x_L
  rw [List.pairwise_filterMap]
  refine List.Pairwise.imp ?_ List.pairwise_lt_range
  intro a b hab p hp q hq
  cases ha : w a with
  | none => rw [ha] at hp; cases hp
  | some x =>
    cases hb : w b with
    | none => rw [hb] at hq; cases hq
    | some y =>
      rw [ha] at hp
      rw [hb] at hq
      cases hp
      cases hq
      exact hab
theorem x_L_inj {dA : Nat → ClassId} {w : xW} {n i j : Nat} {p q : Nat × va_E} (hi : (x_L dA w n)[i]? = some p) (hj : (x_L dA w n)[j]? = some q) (h : p.1 = q.1) : i = j := by
  have hp := List.pairwise_iff_getElem.mp (x_L_pw dA w n)
  obtain ⟨li, ei⟩ := List.getElem?_eq_some_iff.mp hi
  obtain ⟨lj, ej⟩ := List.getElem?_eq_some_iff.mp hj
  rcases Nat.lt_trichotomy i j with hlt | heq | hgt
  · have := hp i j li lj hlt
    rw [ei, ej] at this
    omega
  · exact heq
  · have := hp j i lj li hgt
    rw [ei, ej] at this
    omega
theorem x_P.lt {D : va_G} {dA : Nat → ClassId} {cl : List vw_C} {B : Nat} {w : xW} {H : Heap} (h : x_P D dA cl B w H) {a : Nat} {x : xE} (hw : w a = some x) : a < H.size :=
  va_at.lt (h a x hw).2
theorem x_P.toL {D : va_G} {dA : Nat → ClassId} {cl : List vw_C} {B : Nat} {w : xW} {H : Heap} (h : x_P D dA cl B w H) : va_P D cl (x_L dA w H.size) H := by
  intro k q hk
  obtain ⟨-, x, hx, he⟩ := x_L_mem (List.mem_of_getElem? hk)
  have := (h q.1 x hx).2
  rw [← he] at this
  exact this
theorem x_P.toD {D : va_G} {dA : Nat → ClassId} {cl : List vw_C} {B : Nat} {w : xW} {H : Heap} (h : x_P D dA cl B w H) : va_D (fun q => B ≤ q) (x_L dA w H.size) := by
  refine ⟨fun i j p q hi hj e => x_L_inj hi hj e, fun k q hk => ?_⟩
  obtain ⟨-, x, hx, he⟩ := x_L_mem (List.mem_of_getElem? hk)
  exact (h q.1 x hx).1
theorem x_P.at {D : va_G} {dA : Nat → ClassId} {cl : List vw_C} {B : Nat} {w : xW} {H : Heap} (h : x_P D dA cl B w H) {a : Nat} {x : xE} (hw : w a = some x) : ∃ i : Nat, (x_L dA w H.size)[i]? = some (a, x_em dA x) :=
  List.getElem?_of_mem (x_L_of hw (h.lt hw))
theorem x_P.ofSet {D : va_G} {dA : Nat → ClassId} {cl : List vw_C} {B : Nat} {w : xW} {H H1 : Heap} (h : x_P D dA cl B w H) {i a : Nat} {x0 x : xE} (hw : w a = some x0) (hi : (x_L dA w H.size)[i]? = some (a, x_em dA x0)) (hP : va_P D cl ((x_L dA w H.size).set i (a, x_em dA x)) H1) : x_P D dA cl B (x_set w a x) H1 := by
  intro b y hb
  by_cases hba : b = a
  · subst hba
    rw [x_set_eq] at hb
    cases hb
    refine ⟨(h b x0 hw).1, hP i _ ?_⟩
    exact List.getElem?_set_self (List.getElem?_eq_some_iff.mp hi).1
  · rw [x_set_ne _ _ hba] at hb
    obtain ⟨j, hj⟩ := h.at hb
    refine ⟨(h b y hb).1, hP j _ ?_⟩
    rw [List.getElem?_set_ne]
    · exact hj
    · intro hij
      subst hij
      rw [hi] at hj
      exact hba (congrArg Prod.fst (Option.some.inj hj)).symm
theorem x_P.ofPush {D : va_G} {dA : Nat → ClassId} {cl : List vw_C} {B : Nat} {w : xW} {H H1 : Heap} (h : x_P D dA cl B w H) {a : Nat} {x : xE} (ha : B ≤ a) (hP : va_P D cl (x_L dA w H.size ++ [(a, x_em dA x)]) H1) (hD : va_D (fun q => B ≤ q) (x_L dA w H.size ++ [(a, x_em dA x)])) : w a = none ∧ x_P D dA cl B (x_set w a x) H1 := by
  have hlast : (x_L dA w H.size ++ [(a, x_em dA x)])[(x_L dA w H.size).length]? = some (a, x_em dA x) := by simp
  have hf : w a = none := by
    cases hw : w a with
    | none => rfl
    | some y =>
      obtain ⟨j, hj⟩ := h.at hw
      have hjl := (List.getElem?_eq_some_iff.mp hj).1
      have hj' : (x_L dA w H.size ++ [(a, x_em dA x)])[j]? = some (a, x_em dA y) := by rw [List.getElem?_append_left hjl]; exact hj
      have := hD.1 _ _ _ _ hj' hlast rfl
      omega
  refine ⟨hf, fun b y hb => ?_⟩
  by_cases hba : b = a
  · subst hba
    rw [x_set_eq] at hb
    cases hb
    exact ⟨ha, hP _ _ hlast⟩
  · rw [x_set_ne _ _ hba] at hb
    obtain ⟨j, hj⟩ := h.at hb
    refine ⟨(h b y hb).1, hP j _ ?_⟩
    rw [List.getElem?_append_left (List.getElem?_eq_some_iff.mp hj).1]
    exact hj
/-- the locals: reading, and both kinds of writing -/
def x_ld (lv : List (Nat × Value)) (i : Nat) : Option Value := match lv with
  | [] => none
  | q :: t => if q.1 = i then some q.2 else x_ld t i
theorem x_ld_has {ls : Array Slot} {n : Nat} {lv : List (Nat × Value)} (h : lv_has ls n lv) {i : Nat} {v : Value} (hl : x_ld lv i = some v) : ls[i]? = some (.val v) := by
  obtain ⟨-, -, h3⟩ := h
  induction lv with
  | nil => cases hl
  | cons q t ih =>
    unfold x_ld at hl
    by_cases hq : q.1 = i
    · rw [if_pos hq] at hl
      cases hl
      rw [← hq]
      exact h3 q List.mem_cons_self
    · rw [if_neg hq] at hl
      exact ih hl (fun q hq => h3 q (List.mem_cons_of_mem _ hq))
def x_st1 (lv : List (Nat × Value)) (i : Nat) (v : Value) : List (Nat × Value) := (i, v) :: lv.filter (fun q => !(q.1 == i) && !(q.1 + 1 == i && q.2.category == 2))
def x_st2 (lv : List (Nat × Value)) (i : Nat) (v : Value) : List (Nat × Value) := (i, v) :: lv.filter (fun q => !(q.1 == i) && (!(q.1 == i + 1) && !(q.1 + 1 == i && q.2.category == 2)))
def x_sub (lv lv' : List (Nat × Value)) : Prop := match lv' with
  | [] => True
  | q :: t => x_ld lv q.1 = some q.2 ∧ x_sub lv t
theorem x_sub_has {ls : Array Slot} {n : Nat} {lv lv' : List (Nat × Value)} (h : lv_has ls n lv) (hs : x_sub lv lv') : lv_has ls n lv' := by
  refine ⟨h.1, h.2.1, ?_⟩
  induction lv' with
  | nil => intro q hq; cases hq
  | cons q t ih =>
    intro r hr
    rcases List.mem_cons.mp hr with rfl | hr
    · exact x_ld_has h hs.1
    · exact ih hs.2 r hr
/-- what the old heap holds that is read: the lists' first array, what a throw reads -/
def x_hs (dA : Nat → ClassId) (B : Nat) (U : State) (H : Heap) : Prop :=
  va_Z "java/util/ArrayList" "DEFAULTCAPACITY_EMPTY_ELEMENTDATA" "[Ljava/lang/Object;" (.ref (dA 99)) (fun q => B ≤ q) U H ∧ va_T (.object "java/lang/Object") (dA 99) 0 (fun _ => .null) (fun q => B ≤ q) U H ∧
  vx_Zq Bundle.tN "UNASSIGNED_STACK" Bundle.steD (fun q => B ≤ q) U H ∧ vx_Zq Bundle.tN "SUPPRESSED_SENTINEL" Bundle.listD (fun q => B ≤ q) U H
theorem x_hs.moved {dA : Nat → ClassId} {B : Nat} {u U : State} {H : Heap} (hvm : u.vm.Alike U.vm) (h : x_hs dA B u H) : x_hs dA B U H := ⟨h.1.moved hvm, h.2.1.moved hvm, h.2.2.1.moved hvm, h.2.2.2.moved hvm⟩
theorem x_hs.kept {dA : Nat → ClassId} {B : Nat} {U : State} {H H1 : Heap} (h : x_hs dA B U H) (hq : ∀ a : Nat, a < H.size → ¬ B ≤ a → H1[a]? = H[a]?) : x_hs dA B U H1 := ⟨h.1.kept hq, h.2.1.kept hq, h.2.2.1.kept hq, h.2.2.2.kept hq⟩
def x_ev (dA : Nat → ClassId) (B : Nat) (U : State) : Prop := x_xt U ∧ x_hs dA B U U.heap
theorem x_ev.call {dA : Nat → ClassId} {B : Nat} {s U : State} {H : Heap} {locs : List Loc} (hW : s.WarmedH U.vm) (hU : U.heap = H) (h2 : va_S (fun q => B ≤ q) s.heap H locs) (h : x_ev dA B s) : x_ev dA B U :=
  ⟨x_xt.warm hW h.1, by rw [hU]; exact (h.2.kept h2.2.1).moved hW.alike⟩
theorem x_ev.same {dA : Nat → ClassId} {B : Nat} {u U : State} (hv : u.vm = U.vm) (hh : u.heap = U.heap) (h : x_ev dA B u) : x_ev dA B U :=
  ⟨x_xt.same hv h.1, by rw [← hh]; exact h.2.moved (by rw [hv]; exact Vm.Alike.refl _)⟩
/-- what stays the same in a method's body -/
def x_Fix (p : Program) (s : State) (m : MethodId) (args : Array Value) (meth : Method) (c : Code) (cc : ByteArray) (nL : Nat) (own : String) (Ts : List Cond) (ret : Option FieldType) (nm : String) (D : va_G) (dA : Nat → ClassId) (cl : List vw_C) (tyL : List FieldType) (B : Nat) : Prop :=
  p.tables.exec = Jvm.exec ∧ c.code = cc ∧ c.maxLocals = nL ∧ s.vm.findClass own = some m.cls ∧ (∀ w ∈ Ts, w.before args s = true) ∧ va_K D cl (x_tys dA tyL) s ∧ B ≤ s.heap.size ∧ meth.sig.returnType = ret ∧ meth.locks = false ∧ meth.name = nm ∧ x_ev dA B s
/-- the machine goes on well from here, whatever heap holds the world -/
def X (p : Program) (l : Launch) (e : Env) (R : Room) (s : State) (m : MethodId) (args : Array Value) (below : List Frame) (meth : Method) (c : Code) (Q : State → Prop) (D : va_G) (dA : Nat → ClassId) (cl : List vw_C) (B nL : Nat) (cells slots pc : Nat) (lv : List (Nat × Value)) (st : List Value) (w : xW) : Prop :=
  ∀ (H : Heap) (locs : List Loc) (ls : Array Slot), x_P D dA cl B w H → va_S (fun q => B ≤ q) s.heap H locs → lv_has ls nL lv → W p l e R s m args below meth c H locs cells slots Q (F0 m pc ls st)
/-- what a method gives back, and the world behind it -/
def x_Q (D : va_G) (dA : Nat → ClassId) (cl : List vw_C) (tyL : List FieldType) (B : Nat) (post : Option Value → xW → Prop) : Array Value → State → Outcome → State → Prop := fun _ st oc t =>
  (∃ (r : Option Value) (w1 : xW), oc = .returned r ∧ post r w1 ∧ x_P D dA cl B w1 t.heap ∧ va_K D cl (x_tys dA tyL) t) ∧ va_F (fun q => B ≤ q) st t
/-- a contract: called with av over the world w, the method returns, and 'post' holds of what it gives back and of the world then -/
def x_Ct (l : Launch) (D : va_G) (dA : Nat → ClassId) (cl : List vw_C) (tyL : List FieldType) (B : Nat) (y : MethodName) (ws : List Cond) (rm : Room) (av : List Value) (w : xW) (post : Option Value → xW → Prop) (mc ms : Nat) : Prop :=
  Met l y ws rm (va_Pc av (fun U => B ≤ U.heap.size ∧ x_P D dA cl B w U.heap ∧ va_K D cl (x_tys dA tyL) U ∧ x_ev dA B U)) (x_Q D dA cl tyL B post) mc ms (fun q => B ≤ q)
section XL
variable {p : Program} {l : Launch} {e : Env} {R : Room} {s : State} {m : MethodId} {args : Array Value} {below : List Frame} {meth : Method} {c : Code} {Q : State → Prop}
variable {D : va_G} {dA : Nat → ClassId} {cl : List vw_C} {tyL : List FieldType} {B nL : Nat} {cells slots pc : Nat} {lv : List (Nat × Value)} {st : List Value} {w : xW}
variable {cc : ByteArray} {own : String} {Ts : List Cond} {ret : Option FieldType} {nm : String}

theorem x_iconst (F : x_Fix p s m args meth c cc nL own Ts ret nm D dA cl tyL B) {n : Int} {v : Int32} (hd : decode cc pc = .ok (.iconst n, 1)) (hv : Int32.ofInt n = v) (k : X p l e R s m args below meth c Q D dA cl B nL cells slots (pc + 1) lv (.int v :: st) w) : X p l e R s m args below meth c Q D dA cl B nL cells slots pc lv st w :=
  fun H locs ls h1 h2 h3 => lv_iconst F.1 F.2.1 hd hv (k H locs ls h1 h2 h3)
theorem x_bipush (F : x_Fix p s m args meth c cc nL own Ts ret nm D dA cl tyL B) {n : Int} {v : Int32} (hd : decode cc pc = .ok (.bipush n, 2)) (hv : (Int8.ofInt n).toInt32 = v) (k : X p l e R s m args below meth c Q D dA cl B nL cells slots (pc + 2) lv (.int v :: st) w) : X p l e R s m args below meth c Q D dA cl B nL cells slots pc lv st w :=
  fun H locs ls h1 h2 h3 => lv_bipush F.1 F.2.1 hd hv (k H locs ls h1 h2 h3)
theorem x_sipush (F : x_Fix p s m args meth c cc nL own Ts ret nm D dA cl tyL B) {n : Int} {v : Int32} (hd : decode cc pc = .ok (.sipush n, 3)) (hv : (Int16.ofInt n).toInt32 = v) (k : X p l e R s m args below meth c Q D dA cl B nL cells slots (pc + 3) lv (.int v :: st) w) : X p l e R s m args below meth c Q D dA cl B nL cells slots pc lv st w :=
  fun H locs ls h1 h2 h3 => lv_sipush F.1 F.2.1 hd hv (k H locs ls h1 h2 h3)
theorem x_null (F : x_Fix p s m args meth c cc nL own Ts ret nm D dA cl tyL B)  (hd : decode cc pc = .ok (.aconst_null, 1)) (k : X p l e R s m args below meth c Q D dA cl B nL cells slots (pc + 1) lv (.null :: st) w) : X p l e R s m args below meth c Q D dA cl B nL cells slots pc lv st w :=
  fun H locs ls h1 h2 h3 => lv_null F.1 F.2.1 hd (k H locs ls h1 h2 h3)
theorem x_iload_n (F : x_Fix p s m args meth c cc nL own Ts ret nm D dA cl tyL B) {k : Fin 4} {i : Nat} {x : Int32} (hd : decode cc pc = .ok (.iload_n k, 1)) (hi : (k : Nat) = i) (hl : x_ld lv i = some (.int x)) (k : X p l e R s m args below meth c Q D dA cl B nL cells slots (pc + 1) lv (.int x :: st) w) : X p l e R s m args below meth c Q D dA cl B nL cells slots pc lv st w :=
  fun H locs ls h1 h2 h3 => lv_iload_n F.1 F.2.1 hd hi (x_ld_has h3 hl) (k H locs ls h1 h2 h3)
theorem x_iload (F : x_Fix p s m args meth c cc nL own Ts ret nm D dA cl tyL B) {i : Nat} {x : Int32} (hd : decode cc pc = .ok (.iload i, 2)) (hl : x_ld lv i = some (.int x)) (k : X p l e R s m args below meth c Q D dA cl B nL cells slots (pc + 2) lv (.int x :: st) w) : X p l e R s m args below meth c Q D dA cl B nL cells slots pc lv st w :=
  fun H locs ls h1 h2 h3 => lv_iload F.1 F.2.1 hd (x_ld_has h3 hl) (k H locs ls h1 h2 h3)
theorem x_lload_n (F : x_Fix p s m args meth c cc nL own Ts ret nm D dA cl tyL B) {k : Fin 4} {i : Nat} {x : Int64} (hd : decode cc pc = .ok (.lload_n k, 1)) (hi : (k : Nat) = i) (hl : x_ld lv i = some (.long x)) (k : X p l e R s m args below meth c Q D dA cl B nL cells slots (pc + 1) lv (.long x :: st) w) : X p l e R s m args below meth c Q D dA cl B nL cells slots pc lv st w :=
  fun H locs ls h1 h2 h3 => lv_lload_n F.1 F.2.1 hd hi (x_ld_has h3 hl) (k H locs ls h1 h2 h3)
theorem x_lload (F : x_Fix p s m args meth c cc nL own Ts ret nm D dA cl tyL B) {i : Nat} {x : Int64} (hd : decode cc pc = .ok (.lload i, 2)) (hl : x_ld lv i = some (.long x)) (k : X p l e R s m args below meth c Q D dA cl B nL cells slots (pc + 2) lv (.long x :: st) w) : X p l e R s m args below meth c Q D dA cl B nL cells slots pc lv st w :=
  fun H locs ls h1 h2 h3 => lv_lload F.1 F.2.1 hd (x_ld_has h3 hl) (k H locs ls h1 h2 h3)
theorem x_aload_n (F : x_Fix p s m args meth c cc nL own Ts ret nm D dA cl tyL B) {k : Fin 4} {i : Nat} {x : Nat} (hd : decode cc pc = .ok (.aload_n k, 1)) (hi : (k : Nat) = i) (hl : x_ld lv i = some (.ref x)) (k : X p l e R s m args below meth c Q D dA cl B nL cells slots (pc + 1) lv (.ref x :: st) w) : X p l e R s m args below meth c Q D dA cl B nL cells slots pc lv st w :=
  fun H locs ls h1 h2 h3 => lv_aload_n F.1 F.2.1 hd hi (x_ld_has h3 hl) (k H locs ls h1 h2 h3)
theorem x_aload (F : x_Fix p s m args meth c cc nL own Ts ret nm D dA cl tyL B) {i : Nat} {x : Nat} (hd : decode cc pc = .ok (.aload i, 2)) (hl : x_ld lv i = some (.ref x)) (k : X p l e R s m args below meth c Q D dA cl B nL cells slots (pc + 2) lv (.ref x :: st) w) : X p l e R s m args below meth c Q D dA cl B nL cells slots pc lv st w :=
  fun H locs ls h1 h2 h3 => lv_aload F.1 F.2.1 hd (x_ld_has h3 hl) (k H locs ls h1 h2 h3)
theorem x_aload_nN (F : x_Fix p s m args meth c cc nL own Ts ret nm D dA cl tyL B) {k : Fin 4} {i : Nat} (hd : decode cc pc = .ok (.aload_n k, 1)) (hi : (k : Nat) = i) (hl : x_ld lv i = some .null) (k : X p l e R s m args below meth c Q D dA cl B nL cells slots (pc + 1) lv (.null :: st) w) : X p l e R s m args below meth c Q D dA cl B nL cells slots pc lv st w :=
  fun H locs ls h1 h2 h3 => lv_aload_nN F.1 F.2.1 hd hi (x_ld_has h3 hl) (k H locs ls h1 h2 h3)
theorem x_aloadN (F : x_Fix p s m args meth c cc nL own Ts ret nm D dA cl tyL B) {i : Nat} (hd : decode cc pc = .ok (.aload i, 2)) (hl : x_ld lv i = some .null) (k : X p l e R s m args below meth c Q D dA cl B nL cells slots (pc + 2) lv (.null :: st) w) : X p l e R s m args below meth c Q D dA cl B nL cells slots pc lv st w :=
  fun H locs ls h1 h2 h3 => lv_aloadN F.1 F.2.1 hd (x_ld_has h3 hl) (k H locs ls h1 h2 h3)
theorem x_aload_nQ (F : x_Fix p s m args meth c cc nL own Ts ret nm D dA cl tyL B) {k : Fin 4} {i : Nat} {o : Option Nat} (hd : decode cc pc = .ok (.aload_n k, 1)) (hi : (k : Nat) = i) (hl : x_ld lv i = some (va_rf o)) (k : X p l e R s m args below meth c Q D dA cl B nL cells slots (pc + 1) lv (va_rf o :: st) w) : X p l e R s m args below meth c Q D dA cl B nL cells slots pc lv st w := by
  cases o with
  | none => exact x_aload_nN F hd hi hl k
  | some a => exact x_aload_n F hd hi hl k
theorem x_aloadQ (F : x_Fix p s m args meth c cc nL own Ts ret nm D dA cl tyL B) {i : Nat} {o : Option Nat} (hd : decode cc pc = .ok (.aload i, 2)) (hl : x_ld lv i = some (va_rf o)) (k : X p l e R s m args below meth c Q D dA cl B nL cells slots (pc + 2) lv (va_rf o :: st) w) : X p l e R s m args below meth c Q D dA cl B nL cells slots pc lv st w := by
  cases o with
  | none => exact x_aloadN F hd hl k
  | some a => exact x_aload F hd hl k
theorem x_istore_n (F : x_Fix p s m args meth c cc nL own Ts ret nm D dA cl tyL B) {k : Fin 4} {i : Nat} {x : Int32} (hd : decode cc pc = .ok (.istore_n k, 1)) (hi : (k : Nat) = i) (hn : i < nL) (kk : X p l e R s m args below meth c Q D dA cl B nL cells slots (pc + 1) (x_st1 lv i (.int x)) st w) : X p l e R s m args below meth c Q D dA cl B nL cells slots pc lv (.int x :: st) w :=
  fun H locs ls h1 h2 h3 => lv_istore_n F.1 F.2.1 hd hi h3 hn rfl (fun ls' h4 => kk H locs ls' h1 h2 h4)
theorem x_istore (F : x_Fix p s m args meth c cc nL own Ts ret nm D dA cl tyL B) {i : Nat} {x : Int32} (hd : decode cc pc = .ok (.istore i, 2)) (hn : i < nL) (kk : X p l e R s m args below meth c Q D dA cl B nL cells slots (pc + 2) (x_st1 lv i (.int x)) st w) : X p l e R s m args below meth c Q D dA cl B nL cells slots pc lv (.int x :: st) w :=
  fun H locs ls h1 h2 h3 => lv_istore F.1 F.2.1 hd h3 hn rfl (fun ls' h4 => kk H locs ls' h1 h2 h4)
theorem x_lstore_n (F : x_Fix p s m args meth c cc nL own Ts ret nm D dA cl tyL B) {k : Fin 4} {i : Nat} {x : Int64} (hd : decode cc pc = .ok (.lstore_n k, 1)) (hi : (k : Nat) = i) (hn : i + 1 < nL) (kk : X p l e R s m args below meth c Q D dA cl B nL cells slots (pc + 1) (x_st2 lv i (.long x)) st w) : X p l e R s m args below meth c Q D dA cl B nL cells slots pc lv (.long x :: st) w :=
  fun H locs ls h1 h2 h3 => lv_lstore_n F.1 F.2.1 hd hi h3 hn rfl (fun ls' h4 => kk H locs ls' h1 h2 h4)
theorem x_lstore (F : x_Fix p s m args meth c cc nL own Ts ret nm D dA cl tyL B) {i : Nat} {x : Int64} (hd : decode cc pc = .ok (.lstore i, 2)) (hn : i + 1 < nL) (kk : X p l e R s m args below meth c Q D dA cl B nL cells slots (pc + 2) (x_st2 lv i (.long x)) st w) : X p l e R s m args below meth c Q D dA cl B nL cells slots pc lv (.long x :: st) w :=
  fun H locs ls h1 h2 h3 => lv_lstore F.1 F.2.1 hd h3 hn rfl (fun ls' h4 => kk H locs ls' h1 h2 h4)
theorem x_astore_n (F : x_Fix p s m args meth c cc nL own Ts ret nm D dA cl tyL B) {k : Fin 4} {i : Nat} {x : Nat} (hd : decode cc pc = .ok (.astore_n k, 1)) (hi : (k : Nat) = i) (hn : i < nL) (kk : X p l e R s m args below meth c Q D dA cl B nL cells slots (pc + 1) (x_st1 lv i (.ref x)) st w) : X p l e R s m args below meth c Q D dA cl B nL cells slots pc lv (.ref x :: st) w :=
  fun H locs ls h1 h2 h3 => lv_astore_n F.1 F.2.1 hd hi h3 hn rfl (fun ls' h4 => kk H locs ls' h1 h2 h4)
theorem x_astore (F : x_Fix p s m args meth c cc nL own Ts ret nm D dA cl tyL B) {i : Nat} {x : Nat} (hd : decode cc pc = .ok (.astore i, 2)) (hn : i < nL) (kk : X p l e R s m args below meth c Q D dA cl B nL cells slots (pc + 2) (x_st1 lv i (.ref x)) st w) : X p l e R s m args below meth c Q D dA cl B nL cells slots pc lv (.ref x :: st) w :=
  fun H locs ls h1 h2 h3 => lv_astore F.1 F.2.1 hd h3 hn rfl (fun ls' h4 => kk H locs ls' h1 h2 h4)
theorem x_astore_nN (F : x_Fix p s m args meth c cc nL own Ts ret nm D dA cl tyL B) {k : Fin 4} {i : Nat} (hd : decode cc pc = .ok (.astore_n k, 1)) (hi : (k : Nat) = i) (hn : i < nL) (kk : X p l e R s m args below meth c Q D dA cl B nL cells slots (pc + 1) (x_st1 lv i (.null)) st w) : X p l e R s m args below meth c Q D dA cl B nL cells slots pc lv (.null :: st) w :=
  fun H locs ls h1 h2 h3 => lv_astore_nN F.1 F.2.1 hd hi h3 hn rfl (fun ls' h4 => kk H locs ls' h1 h2 h4)
theorem x_astoreN (F : x_Fix p s m args meth c cc nL own Ts ret nm D dA cl tyL B) {i : Nat} (hd : decode cc pc = .ok (.astore i, 2)) (hn : i < nL) (kk : X p l e R s m args below meth c Q D dA cl B nL cells slots (pc + 2) (x_st1 lv i (.null)) st w) : X p l e R s m args below meth c Q D dA cl B nL cells slots pc lv (.null :: st) w :=
  fun H locs ls h1 h2 h3 => lv_astoreN F.1 F.2.1 hd h3 hn rfl (fun ls' h4 => kk H locs ls' h1 h2 h4)
theorem x_astore_nQ (F : x_Fix p s m args meth c cc nL own Ts ret nm D dA cl tyL B) {k : Fin 4} {i : Nat} {o : Option Nat} (hd : decode cc pc = .ok (.astore_n k, 1)) (hi : (k : Nat) = i) (hn : i < nL) (kk : X p l e R s m args below meth c Q D dA cl B nL cells slots (pc + 1) (x_st1 lv i (va_rf o)) st w) : X p l e R s m args below meth c Q D dA cl B nL cells slots pc lv (va_rf o :: st) w := by
  cases o with
  | none => exact x_astore_nN F hd hi hn kk
  | some a => exact x_astore_n F hd hi hn kk
theorem x_astoreQ (F : x_Fix p s m args meth c cc nL own Ts ret nm D dA cl tyL B) {i : Nat} {o : Option Nat} (hd : decode cc pc = .ok (.astore i, 2)) (hn : i < nL) (kk : X p l e R s m args below meth c Q D dA cl B nL cells slots (pc + 2) (x_st1 lv i (va_rf o)) st w) : X p l e R s m args below meth c Q D dA cl B nL cells slots pc lv (va_rf o :: st) w := by
  cases o with
  | none => exact x_astoreN F hd hn kk
  | some a => exact x_astore F hd hn kk
theorem x_iinc (F : x_Fix p s m args meth c cc nL own Ts ret nm D dA cl tyL B) {i : Nat} {n : Int} {x v : Int32} (hd : decode cc pc = .ok (.iinc i n, 3)) (hv : Int32.ofInt n = v) (hl : x_ld lv i = some (.int x)) (hn : i < nL) (kk : X p l e R s m args below meth c Q D dA cl B nL cells slots (pc + 3) (x_st1 ((i, .int x) :: lv) i (.int (x + v))) st w) : X p l e R s m args below meth c Q D dA cl B nL cells slots pc lv st w :=
  fun H locs ls h1 h2 h3 => lv_iinc (k := 0) (lv := (i, .int x) :: lv) F.1 F.2.1 hd ⟨h3.1, h3.2.1, fun q hq => (List.mem_cons.mp hq).elim (fun h => h ▸ x_ld_has h3 hl) (fun h => h3.2.2 q h)⟩ rfl (by rw [hv]) hn rfl (fun ls' h4 => kk H locs ls' h1 h2 h4)
theorem x_iadd (F : x_Fix p s m args meth c cc nL own Ts ret nm D dA cl tyL B) {x y : Int32} (hd : decode cc pc = .ok (.iadd, 1)) (k : X p l e R s m args below meth c Q D dA cl B nL cells slots (pc + 1) lv (.int (x + y) :: st) w) : X p l e R s m args below meth c Q D dA cl B nL cells slots pc lv (.int y :: .int x :: st) w :=
  fun H locs ls h1 h2 h3 => lv_iadd F.1 F.2.1 hd (k H locs ls h1 h2 h3)
theorem x_isub (F : x_Fix p s m args meth c cc nL own Ts ret nm D dA cl tyL B) {x y : Int32} (hd : decode cc pc = .ok (.isub, 1)) (k : X p l e R s m args below meth c Q D dA cl B nL cells slots (pc + 1) lv (.int (x - y) :: st) w) : X p l e R s m args below meth c Q D dA cl B nL cells slots pc lv (.int y :: .int x :: st) w :=
  fun H locs ls h1 h2 h3 => lv_isub F.1 F.2.1 hd (k H locs ls h1 h2 h3)
theorem x_imul (F : x_Fix p s m args meth c cc nL own Ts ret nm D dA cl tyL B) {x y : Int32} (hd : decode cc pc = .ok (.imul, 1)) (k : X p l e R s m args below meth c Q D dA cl B nL cells slots (pc + 1) lv (.int (x * y) :: st) w) : X p l e R s m args below meth c Q D dA cl B nL cells slots pc lv (.int y :: .int x :: st) w :=
  fun H locs ls h1 h2 h3 => lv_imul F.1 F.2.1 hd (k H locs ls h1 h2 h3)
theorem x_iand (F : x_Fix p s m args meth c cc nL own Ts ret nm D dA cl tyL B) {x y : Int32} (hd : decode cc pc = .ok (.iand, 1)) (k : X p l e R s m args below meth c Q D dA cl B nL cells slots (pc + 1) lv (.int (x &&& y) :: st) w) : X p l e R s m args below meth c Q D dA cl B nL cells slots pc lv (.int y :: .int x :: st) w :=
  fun H locs ls h1 h2 h3 => lv_iand F.1 F.2.1 hd (k H locs ls h1 h2 h3)
theorem x_ior (F : x_Fix p s m args meth c cc nL own Ts ret nm D dA cl tyL B) {x y : Int32} (hd : decode cc pc = .ok (.ior, 1)) (k : X p l e R s m args below meth c Q D dA cl B nL cells slots (pc + 1) lv (.int (x ||| y) :: st) w) : X p l e R s m args below meth c Q D dA cl B nL cells slots pc lv (.int y :: .int x :: st) w :=
  fun H locs ls h1 h2 h3 => lv_ior F.1 F.2.1 hd (k H locs ls h1 h2 h3)
theorem x_ixor (F : x_Fix p s m args meth c cc nL own Ts ret nm D dA cl tyL B) {x y : Int32} (hd : decode cc pc = .ok (.ixor, 1)) (k : X p l e R s m args below meth c Q D dA cl B nL cells slots (pc + 1) lv (.int (x ^^^ y) :: st) w) : X p l e R s m args below meth c Q D dA cl B nL cells slots pc lv (.int y :: .int x :: st) w :=
  fun H locs ls h1 h2 h3 => lv_ixor F.1 F.2.1 hd (k H locs ls h1 h2 h3)
theorem x_ishl (F : x_Fix p s m args meth c cc nL own Ts ret nm D dA cl tyL B) {x y : Int32} (hd : decode cc pc = .ok (.ishl, 1)) (k : X p l e R s m args below meth c Q D dA cl B nL cells slots (pc + 1) lv (.int (x <<< (y &&& 31)) :: st) w) : X p l e R s m args below meth c Q D dA cl B nL cells slots pc lv (.int y :: .int x :: st) w :=
  fun H locs ls h1 h2 h3 => lv_ishl F.1 F.2.1 hd (k H locs ls h1 h2 h3)
theorem x_ishr (F : x_Fix p s m args meth c cc nL own Ts ret nm D dA cl tyL B) {x y : Int32} (hd : decode cc pc = .ok (.ishr, 1)) (k : X p l e R s m args below meth c Q D dA cl B nL cells slots (pc + 1) lv (.int (x >>> (y &&& 31)) :: st) w) : X p l e R s m args below meth c Q D dA cl B nL cells slots pc lv (.int y :: .int x :: st) w :=
  fun H locs ls h1 h2 h3 => lv_ishr F.1 F.2.1 hd (k H locs ls h1 h2 h3)
theorem x_idiv (F : x_Fix p s m args meth c cc nL own Ts ret nm D dA cl tyL B) {x y : Int32} (hd : decode cc pc = .ok (.idiv, 1)) (hne : ¬ y = 0) (k : X p l e R s m args below meth c Q D dA cl B nL cells slots (pc + 1) lv (.int (x / y) :: st) w) : X p l e R s m args below meth c Q D dA cl B nL cells slots pc lv (.int y :: .int x :: st) w :=
  fun H locs ls h1 h2 h3 => lv_idiv F.1 F.2.1 hd hne (k H locs ls h1 h2 h3)
theorem x_irem (F : x_Fix p s m args meth c cc nL own Ts ret nm D dA cl tyL B) {x y : Int32} (hd : decode cc pc = .ok (.irem, 1)) (hne : ¬ y = 0) (k : X p l e R s m args below meth c Q D dA cl B nL cells slots (pc + 1) lv (.int (x - x / y * y) :: st) w) : X p l e R s m args below meth c Q D dA cl B nL cells slots pc lv (.int y :: .int x :: st) w :=
  fun H locs ls h1 h2 h3 => lv_irem F.1 F.2.1 hd hne (k H locs ls h1 h2 h3)
theorem x_ineg (F : x_Fix p s m args meth c cc nL own Ts ret nm D dA cl tyL B) {x : Int32} (hd : decode cc pc = .ok (.ineg, 1)) (k : X p l e R s m args below meth c Q D dA cl B nL cells slots (pc + 1) lv (.int (-x) :: st) w) : X p l e R s m args below meth c Q D dA cl B nL cells slots pc lv (.int x :: st) w :=
  fun H locs ls h1 h2 h3 => lv_ineg F.1 F.2.1 hd (k H locs ls h1 h2 h3)
theorem x_iushr (F : x_Fix p s m args meth c cc nL own Ts ret nm D dA cl tyL B) {x y : Int32} (hd : decode cc pc = .ok (.iushr, 1)) (k : X p l e R s m args below meth c Q D dA cl B nL cells slots (pc + 1) lv (.int ((x.toUInt32 >>> (y.toUInt32 &&& Int32.toUInt32 31)).toInt32) :: st) w) : X p l e R s m args below meth c Q D dA cl B nL cells slots pc lv (.int y :: .int x :: st) w :=
  fun H locs ls h1 h2 h3 => lv_iushr F.1 F.2.1 hd rfl (k H locs ls h1 h2 h3)
theorem x_ladd (F : x_Fix p s m args meth c cc nL own Ts ret nm D dA cl tyL B) {x y : Int64} (hd : decode cc pc = .ok (.ladd, 1)) (k : X p l e R s m args below meth c Q D dA cl B nL cells slots (pc + 1) lv (.long (x + y) :: st) w) : X p l e R s m args below meth c Q D dA cl B nL cells slots pc lv (.long y :: .long x :: st) w :=
  fun H locs ls h1 h2 h3 => lv_ladd F.1 F.2.1 hd (k H locs ls h1 h2 h3)
theorem x_lmul (F : x_Fix p s m args meth c cc nL own Ts ret nm D dA cl tyL B) {x y : Int64} (hd : decode cc pc = .ok (.lmul, 1)) (k : X p l e R s m args below meth c Q D dA cl B nL cells slots (pc + 1) lv (.long (x * y) :: st) w) : X p l e R s m args below meth c Q D dA cl B nL cells slots pc lv (.long y :: .long x :: st) w :=
  fun H locs ls h1 h2 h3 => lv_lmul F.1 F.2.1 hd (k H locs ls h1 h2 h3)
theorem x_lsub (F : x_Fix p s m args meth c cc nL own Ts ret nm D dA cl tyL B) {x y : Int64} (hd : decode cc pc = .ok (.lsub, 1)) (k : X p l e R s m args below meth c Q D dA cl B nL cells slots (pc + 1) lv (.long (x - y) :: st) w) : X p l e R s m args below meth c Q D dA cl B nL cells slots pc lv (.long y :: .long x :: st) w :=
  fun H locs ls h1 h2 h3 => lv_lsub F.1 F.2.1 hd (k H locs ls h1 h2 h3)
theorem x_i2l (F : x_Fix p s m args meth c cc nL own Ts ret nm D dA cl tyL B) {x : Int32} (hd : decode cc pc = .ok (.i2l, 1)) (k : X p l e R s m args below meth c Q D dA cl B nL cells slots (pc + 1) lv (.long x.toInt64 :: st) w) : X p l e R s m args below meth c Q D dA cl B nL cells slots pc lv (.int x :: st) w :=
  fun H locs ls h1 h2 h3 => lv_i2l F.1 F.2.1 hd rfl (k H locs ls h1 h2 h3)
theorem x_dup (F : x_Fix p s m args meth c cc nL own Ts ret nm D dA cl tyL B) {va : Value} (hd : decode cc pc = .ok (.dup, 1)) (hva : va.category = 1) (k : X p l e R s m args below meth c Q D dA cl B nL cells slots (pc + 1) lv (va :: va :: st) w) : X p l e R s m args below meth c Q D dA cl B nL cells slots pc lv (va :: st) w :=
  fun H locs ls h1 h2 h3 => lv_dup F.1 F.2.1 hd hva (k H locs ls h1 h2 h3)
theorem x_dup2 (F : x_Fix p s m args meth c cc nL own Ts ret nm D dA cl tyL B) {va vb : Value} (hd : decode cc pc = .ok (.dup2, 1)) (hva : va.category = 1) (hvb : vb.category = 1) (k : X p l e R s m args below meth c Q D dA cl B nL cells slots (pc + 1) lv (va :: vb :: va :: vb :: st) w) : X p l e R s m args below meth c Q D dA cl B nL cells slots pc lv (va :: vb :: st) w :=
  fun H locs ls h1 h2 h3 => lv_dup2_11 F.1 F.2.1 hd hva hvb (k H locs ls h1 h2 h3)
theorem x_dup_x1 (F : x_Fix p s m args meth c cc nL own Ts ret nm D dA cl tyL B) {va vb : Value} (hd : decode cc pc = .ok (.dup_x1, 1)) (hva : va.category = 1) (hvb : vb.category = 1) (k : X p l e R s m args below meth c Q D dA cl B nL cells slots (pc + 1) lv (va :: vb :: va :: st) w) : X p l e R s m args below meth c Q D dA cl B nL cells slots pc lv (va :: vb :: st) w :=
  fun H locs ls h1 h2 h3 => lv_dup_x1 F.1 F.2.1 hd hva hvb (k H locs ls h1 h2 h3)
theorem x_pop (F : x_Fix p s m args meth c cc nL own Ts ret nm D dA cl tyL B) {va : Value} (hd : decode cc pc = .ok (.pop, 1)) (hva : va.category = 1) (k : X p l e R s m args below meth c Q D dA cl B nL cells slots (pc + 1) lv st w) : X p l e R s m args below meth c Q D dA cl B nL cells slots pc lv (va :: st) w :=
  fun H locs ls h1 h2 h3 => lv_pop F.1 F.2.1 hd hva (k H locs ls h1 h2 h3)
theorem x_lcmp (F : x_Fix p s m args meth c cc nL own Ts ret nm D dA cl tyL B) {x y : Int64} (hd : decode cc pc = .ok (.lcmp, 1)) (k : X p l e R s m args below meth c Q D dA cl B nL cells slots (pc + 1) lv (.int (lg_cmp x y) :: st) w) : X p l e R s m args below meth c Q D dA cl B nL cells slots pc lv (.long y :: .long x :: st) w :=
  fun H locs ls h1 h2 h3 => W.lcmp F.1 F.2.1 hd (k H locs ls h1 h2 h3)
theorem x_ldc (F : x_Fix p s m args meth c cc nL own Ts ret nm D dA cl tyL B) {index : Nat} {v : Int32} (hd : decode cc pc = .ok (.ldc index, 2)) (hw : Cond.constant own index v ∈ Ts) (k : X p l e R s m args below meth c Q D dA cl B nL cells slots (pc + 2) lv (.int v :: st) w) : X p l e R s m args below meth c Q D dA cl B nL cells slots pc lv st w :=
  fun H locs ls h1 h2 h3 => lv_ldc F.1 F.2.1 F.2.2.2.1 (F.2.2.2.2.1 _ hw) hd (k H locs ls h1 h2 h3)
theorem x_ldcw (F : x_Fix p s m args meth c cc nL own Ts ret nm D dA cl tyL B) {index : Nat} {v : Int32} (hd : decode cc pc = .ok (.ldc_w index, 3)) (hw : Cond.constant own index v ∈ Ts) (k : X p l e R s m args below meth c Q D dA cl B nL cells slots (pc + 3) lv (.int v :: st) w) : X p l e R s m args below meth c Q D dA cl B nL cells slots pc lv st w :=
  fun H locs ls h1 h2 h3 => lv_ldcw F.1 F.2.1 F.2.2.2.1 (F.2.2.2.2.1 _ hw) hd (k H locs ls h1 h2 h3)
theorem x_ldc2 (F : x_Fix p s m args meth c cc nL own Ts ret nm D dA cl tyL B) {index : Nat} {v : Int64} (hd : decode cc pc = .ok (.ldc2_w index, 3)) (hw : Cond.constantLong own index v ∈ Ts) (k : X p l e R s m args below meth c Q D dA cl B nL cells slots (pc + 3) lv (.long v :: st) w) : X p l e R s m args below meth c Q D dA cl B nL cells slots pc lv st w :=
  fun H locs ls h1 h2 h3 => lv_ldc2 F.1 F.2.1 F.2.2.2.1 (F.2.2.2.2.1 _ hw) hd (k H locs ls h1 h2 h3)
theorem x_if_eq (F : x_Fix p s m args meth c cc nL own Ts ret nm D dA cl tyL B) {x : Int32} {off : Int} {tgt : Nat} (hd : decode cc pc = .ok (.ifCond .eq off, 3)) (ht : (pc : Int) + off = (tgt : Int)) (kt : (x = 0) → X p l e R s m args below meth c Q D dA cl B nL cells slots tgt lv st w) (kf : (¬ x = 0) → X p l e R s m args below meth c Q D dA cl B nL cells slots (pc + 3) lv st w) : X p l e R s m args below meth c Q D dA cl B nL cells slots pc lv (.int x :: st) w :=
  fun H locs ls h1 h2 h3 => lv_if_eq F.1 F.2.1 hd ht (fun hc => kt hc H locs ls h1 h2 h3) (fun hc => kf hc H locs ls h1 h2 h3)
theorem x_if_ne (F : x_Fix p s m args meth c cc nL own Ts ret nm D dA cl tyL B) {x : Int32} {off : Int} {tgt : Nat} (hd : decode cc pc = .ok (.ifCond .ne off, 3)) (ht : (pc : Int) + off = (tgt : Int)) (kt : (¬ x = 0) → X p l e R s m args below meth c Q D dA cl B nL cells slots tgt lv st w) (kf : (x = 0) → X p l e R s m args below meth c Q D dA cl B nL cells slots (pc + 3) lv st w) : X p l e R s m args below meth c Q D dA cl B nL cells slots pc lv (.int x :: st) w :=
  fun H locs ls h1 h2 h3 => lv_if_ne F.1 F.2.1 hd ht (fun hc => kt hc H locs ls h1 h2 h3) (fun hc => kf hc H locs ls h1 h2 h3)
theorem x_if_lt (F : x_Fix p s m args meth c cc nL own Ts ret nm D dA cl tyL B) {x : Int32} {off : Int} {tgt : Nat} (hd : decode cc pc = .ok (.ifCond .lt off, 3)) (ht : (pc : Int) + off = (tgt : Int)) (kt : (x < 0) → X p l e R s m args below meth c Q D dA cl B nL cells slots tgt lv st w) (kf : (¬ x < 0) → X p l e R s m args below meth c Q D dA cl B nL cells slots (pc + 3) lv st w) : X p l e R s m args below meth c Q D dA cl B nL cells slots pc lv (.int x :: st) w :=
  fun H locs ls h1 h2 h3 => lv_if_lt F.1 F.2.1 hd ht (fun hc => kt hc H locs ls h1 h2 h3) (fun hc => kf hc H locs ls h1 h2 h3)
theorem x_if_ge (F : x_Fix p s m args meth c cc nL own Ts ret nm D dA cl tyL B) {x : Int32} {off : Int} {tgt : Nat} (hd : decode cc pc = .ok (.ifCond .ge off, 3)) (ht : (pc : Int) + off = (tgt : Int)) (kt : (0 ≤ x) → X p l e R s m args below meth c Q D dA cl B nL cells slots tgt lv st w) (kf : (¬ 0 ≤ x) → X p l e R s m args below meth c Q D dA cl B nL cells slots (pc + 3) lv st w) : X p l e R s m args below meth c Q D dA cl B nL cells slots pc lv (.int x :: st) w :=
  fun H locs ls h1 h2 h3 => lv_if_ge F.1 F.2.1 hd ht (fun hc => kt hc H locs ls h1 h2 h3) (fun hc => kf hc H locs ls h1 h2 h3)
theorem x_if_gt (F : x_Fix p s m args meth c cc nL own Ts ret nm D dA cl tyL B) {x : Int32} {off : Int} {tgt : Nat} (hd : decode cc pc = .ok (.ifCond .gt off, 3)) (ht : (pc : Int) + off = (tgt : Int)) (kt : (0 < x) → X p l e R s m args below meth c Q D dA cl B nL cells slots tgt lv st w) (kf : (¬ 0 < x) → X p l e R s m args below meth c Q D dA cl B nL cells slots (pc + 3) lv st w) : X p l e R s m args below meth c Q D dA cl B nL cells slots pc lv (.int x :: st) w :=
  fun H locs ls h1 h2 h3 => lv_if_gt F.1 F.2.1 hd ht (fun hc => kt hc H locs ls h1 h2 h3) (fun hc => kf hc H locs ls h1 h2 h3)
theorem x_if_le (F : x_Fix p s m args meth c cc nL own Ts ret nm D dA cl tyL B) {x : Int32} {off : Int} {tgt : Nat} (hd : decode cc pc = .ok (.ifCond .le off, 3)) (ht : (pc : Int) + off = (tgt : Int)) (kt : (x ≤ 0) → X p l e R s m args below meth c Q D dA cl B nL cells slots tgt lv st w) (kf : (¬ x ≤ 0) → X p l e R s m args below meth c Q D dA cl B nL cells slots (pc + 3) lv st w) : X p l e R s m args below meth c Q D dA cl B nL cells slots pc lv (.int x :: st) w :=
  fun H locs ls h1 h2 h3 => lv_if_le F.1 F.2.1 hd ht (fun hc => kt hc H locs ls h1 h2 h3) (fun hc => kf hc H locs ls h1 h2 h3)
theorem x_icmp_eq (F : x_Fix p s m args meth c cc nL own Ts ret nm D dA cl tyL B) {x y : Int32} {off : Int} {tgt : Nat} (hd : decode cc pc = .ok (.if_icmp .eq off, 3)) (ht : (pc : Int) + off = (tgt : Int)) (kt : (x = y) → X p l e R s m args below meth c Q D dA cl B nL cells slots tgt lv st w) (kf : (¬ x = y) → X p l e R s m args below meth c Q D dA cl B nL cells slots (pc + 3) lv st w) : X p l e R s m args below meth c Q D dA cl B nL cells slots pc lv (.int y :: .int x :: st) w :=
  fun H locs ls h1 h2 h3 => lv_icmp_eq F.1 F.2.1 hd ht (fun hc => kt hc H locs ls h1 h2 h3) (fun hc => kf hc H locs ls h1 h2 h3)
theorem x_icmp_ne (F : x_Fix p s m args meth c cc nL own Ts ret nm D dA cl tyL B) {x y : Int32} {off : Int} {tgt : Nat} (hd : decode cc pc = .ok (.if_icmp .ne off, 3)) (ht : (pc : Int) + off = (tgt : Int)) (kt : (¬ x = y) → X p l e R s m args below meth c Q D dA cl B nL cells slots tgt lv st w) (kf : (x = y) → X p l e R s m args below meth c Q D dA cl B nL cells slots (pc + 3) lv st w) : X p l e R s m args below meth c Q D dA cl B nL cells slots pc lv (.int y :: .int x :: st) w :=
  fun H locs ls h1 h2 h3 => lv_icmp_ne F.1 F.2.1 hd ht (fun hc => kt hc H locs ls h1 h2 h3) (fun hc => kf hc H locs ls h1 h2 h3)
theorem x_icmp_lt (F : x_Fix p s m args meth c cc nL own Ts ret nm D dA cl tyL B) {x y : Int32} {off : Int} {tgt : Nat} (hd : decode cc pc = .ok (.if_icmp .lt off, 3)) (ht : (pc : Int) + off = (tgt : Int)) (kt : (x < y) → X p l e R s m args below meth c Q D dA cl B nL cells slots tgt lv st w) (kf : (¬ x < y) → X p l e R s m args below meth c Q D dA cl B nL cells slots (pc + 3) lv st w) : X p l e R s m args below meth c Q D dA cl B nL cells slots pc lv (.int y :: .int x :: st) w :=
  fun H locs ls h1 h2 h3 => lv_icmp_lt F.1 F.2.1 hd ht (fun hc => kt hc H locs ls h1 h2 h3) (fun hc => kf hc H locs ls h1 h2 h3)
theorem x_icmp_ge (F : x_Fix p s m args meth c cc nL own Ts ret nm D dA cl tyL B) {x y : Int32} {off : Int} {tgt : Nat} (hd : decode cc pc = .ok (.if_icmp .ge off, 3)) (ht : (pc : Int) + off = (tgt : Int)) (kt : (y ≤ x) → X p l e R s m args below meth c Q D dA cl B nL cells slots tgt lv st w) (kf : (¬ y ≤ x) → X p l e R s m args below meth c Q D dA cl B nL cells slots (pc + 3) lv st w) : X p l e R s m args below meth c Q D dA cl B nL cells slots pc lv (.int y :: .int x :: st) w :=
  fun H locs ls h1 h2 h3 => lv_icmp_ge F.1 F.2.1 hd ht (fun hc => kt hc H locs ls h1 h2 h3) (fun hc => kf hc H locs ls h1 h2 h3)
theorem x_icmp_gt (F : x_Fix p s m args meth c cc nL own Ts ret nm D dA cl tyL B) {x y : Int32} {off : Int} {tgt : Nat} (hd : decode cc pc = .ok (.if_icmp .gt off, 3)) (ht : (pc : Int) + off = (tgt : Int)) (kt : (y < x) → X p l e R s m args below meth c Q D dA cl B nL cells slots tgt lv st w) (kf : (¬ y < x) → X p l e R s m args below meth c Q D dA cl B nL cells slots (pc + 3) lv st w) : X p l e R s m args below meth c Q D dA cl B nL cells slots pc lv (.int y :: .int x :: st) w :=
  fun H locs ls h1 h2 h3 => lv_icmp_gt F.1 F.2.1 hd ht (fun hc => kt hc H locs ls h1 h2 h3) (fun hc => kf hc H locs ls h1 h2 h3)
theorem x_icmp_le (F : x_Fix p s m args meth c cc nL own Ts ret nm D dA cl tyL B) {x y : Int32} {off : Int} {tgt : Nat} (hd : decode cc pc = .ok (.if_icmp .le off, 3)) (ht : (pc : Int) + off = (tgt : Int)) (kt : (x ≤ y) → X p l e R s m args below meth c Q D dA cl B nL cells slots tgt lv st w) (kf : (¬ x ≤ y) → X p l e R s m args below meth c Q D dA cl B nL cells slots (pc + 3) lv st w) : X p l e R s m args below meth c Q D dA cl B nL cells slots pc lv (.int y :: .int x :: st) w :=
  fun H locs ls h1 h2 h3 => lv_icmp_le F.1 F.2.1 hd ht (fun hc => kt hc H locs ls h1 h2 h3) (fun hc => kf hc H locs ls h1 h2 h3)
theorem x_acmp_eq (F : x_Fix p s m args meth c cc nL own Ts ret nm D dA cl tyL B) {rx ry : Option Nat} {off : Int} {tgt : Nat} (hd : decode cc pc = .ok (.if_acmp .eq off, 3)) (ht : (pc : Int) + off = (tgt : Int)) (kt : (rx = ry) → X p l e R s m args below meth c Q D dA cl B nL cells slots tgt lv st w) (kf : (¬ rx = ry) → X p l e R s m args below meth c Q D dA cl B nL cells slots (pc + 3) lv st w) : X p l e R s m args below meth c Q D dA cl B nL cells slots pc lv (va_rf ry :: va_rf rx :: st) w :=
  fun H locs ls h1 h2 h3 => lv_acmp_eq F.1 F.2.1 hd ht (fun hc => kt hc H locs ls h1 h2 h3) (fun hc => kf hc H locs ls h1 h2 h3)
theorem x_acmp_ne (F : x_Fix p s m args meth c cc nL own Ts ret nm D dA cl tyL B) {rx ry : Option Nat} {off : Int} {tgt : Nat} (hd : decode cc pc = .ok (.if_acmp .ne off, 3)) (ht : (pc : Int) + off = (tgt : Int)) (kt : (¬ rx = ry) → X p l e R s m args below meth c Q D dA cl B nL cells slots tgt lv st w) (kf : (rx = ry) → X p l e R s m args below meth c Q D dA cl B nL cells slots (pc + 3) lv st w) : X p l e R s m args below meth c Q D dA cl B nL cells slots pc lv (va_rf ry :: va_rf rx :: st) w :=
  fun H locs ls h1 h2 h3 => lv_acmp_ne F.1 F.2.1 hd ht (fun hc => kt hc H locs ls h1 h2 h3) (fun hc => kf hc H locs ls h1 h2 h3)
theorem x_goto (F : x_Fix p s m args meth c cc nL own Ts ret nm D dA cl tyL B) {off : Int} {tgt : Nat} (hd : decode cc pc = .ok (.goto off, 3)) (ht : (pc : Int) + off = (tgt : Int)) (k : X p l e R s m args below meth c Q D dA cl B nL cells slots tgt lv st w) : X p l e R s m args below meth c Q D dA cl B nL cells slots pc lv st w :=
  fun H locs ls h1 h2 h3 => lv_goto F.1 F.2.1 hd ht (k H locs ls h1 h2 h3)
theorem x_ifnull (F : x_Fix p s m args meth c cc nL own Ts ret nm D dA cl tyL B) {x : Nat} {off : Int} (hd : decode cc pc = .ok (.ifnull off, 3)) (k : X p l e R s m args below meth c Q D dA cl B nL cells slots (pc + 3) lv st w) : X p l e R s m args below meth c Q D dA cl B nL cells slots pc lv (.ref x :: st) w :=
  fun H locs ls h1 h2 h3 => lv_ifnull F.1 F.2.1 hd (k H locs ls h1 h2 h3)
theorem x_ifnonnull (F : x_Fix p s m args meth c cc nL own Ts ret nm D dA cl tyL B) {x : Nat} {off : Int} {tgt : Nat} (hd : decode cc pc = .ok (.ifnonnull off, 3)) (ht : (pc : Int) + off = (tgt : Int)) (k : X p l e R s m args below meth c Q D dA cl B nL cells slots tgt lv st w) : X p l e R s m args below meth c Q D dA cl B nL cells slots pc lv (.ref x :: st) w :=
  fun H locs ls h1 h2 h3 => lv_ifnonnull F.1 F.2.1 hd ht (k H locs ls h1 h2 h3)
theorem x_ifnullN (F : x_Fix p s m args meth c cc nL own Ts ret nm D dA cl tyL B) {off : Int} {tgt : Nat} (hd : decode cc pc = .ok (.ifnull off, 3)) (ht : (pc : Int) + off = (tgt : Int)) (k : X p l e R s m args below meth c Q D dA cl B nL cells slots tgt lv st w) : X p l e R s m args below meth c Q D dA cl B nL cells slots pc lv (.null :: st) w :=
  fun H locs ls h1 h2 h3 => lv_ifnullN F.1 F.2.1 hd ht (k H locs ls h1 h2 h3)
theorem x_ifnonnullN (F : x_Fix p s m args meth c cc nL own Ts ret nm D dA cl tyL B) {off : Int} (hd : decode cc pc = .ok (.ifnonnull off, 3)) (k : X p l e R s m args below meth c Q D dA cl B nL cells slots (pc + 3) lv st w) : X p l e R s m args below meth c Q D dA cl B nL cells slots pc lv (.null :: st) w :=
  fun H locs ls h1 h2 h3 => lv_ifnonnullN F.1 F.2.1 hd (k H locs ls h1 h2 h3)
theorem x_ifnullQ (F : x_Fix p s m args meth c cc nL own Ts ret nm D dA cl tyL B) {o : Option Nat} {off : Int} {tgt : Nat} (hd : decode cc pc = .ok (.ifnull off, 3)) (ht : (pc : Int) + off = (tgt : Int)) (kt : o = none → X p l e R s m args below meth c Q D dA cl B nL cells slots tgt lv st w) (kf : ∀ a, o = some a → X p l e R s m args below meth c Q D dA cl B nL cells slots (pc + 3) lv st w) : X p l e R s m args below meth c Q D dA cl B nL cells slots pc lv (va_rf o :: st) w := by
  cases o with
  | none => exact x_ifnullN F hd ht (kt rfl)
  | some a => exact x_ifnull F hd (kf a rfl)
theorem x_ifnonnullQ (F : x_Fix p s m args meth c cc nL own Ts ret nm D dA cl tyL B) {o : Option Nat} {off : Int} {tgt : Nat} (hd : decode cc pc = .ok (.ifnonnull off, 3)) (ht : (pc : Int) + off = (tgt : Int)) (kt : ∀ a, o = some a → X p l e R s m args below meth c Q D dA cl B nL cells slots tgt lv st w) (kf : o = none → X p l e R s m args below meth c Q D dA cl B nL cells slots (pc + 3) lv st w) : X p l e R s m args below meth c Q D dA cl B nL cells slots pc lv (va_rf o :: st) w := by
  cases o with
  | none => exact x_ifnonnullN F hd (kf rfl)
  | some a => exact x_ifnonnull F hd ht (kt a rfl)
theorem x_tableIn (F : x_Fix p s m args meth c cc nL own Ts ret nm D dA cl tyL B) {dflt lo hi : Int} {offs : Array Int} {len : Nat} {x : Int32} {off : Int} {tgt : Nat} (hd : decode cc pc = .ok (.tableswitch dflt lo hi offs, len)) (g1 : ¬ x.toInt < lo) (g2 : ¬ hi < x.toInt) (ho : offs[(x.toInt - lo).toNat]? = some off) (ht : (pc : Int) + off = (tgt : Int)) (k : X p l e R s m args below meth c Q D dA cl B nL cells slots tgt lv st w) : X p l e R s m args below meth c Q D dA cl B nL cells slots pc lv (.int x :: st) w :=
  fun H locs ls h1 h2 h3 => lv_tableIn F.1 F.2.1 hd g1 g2 ho ht (k H locs ls h1 h2 h3)
theorem x_tableOut (F : x_Fix p s m args meth c cc nL own Ts ret nm D dA cl tyL B) {dflt lo hi : Int} {offs : Array Int} {len : Nat} {x : Int32} {tgt : Nat} (hd : decode cc pc = .ok (.tableswitch dflt lo hi offs, len)) (g : x.toInt < lo ∨ hi < x.toInt) (ht : (pc : Int) + dflt = (tgt : Int)) (k : X p l e R s m args below meth c Q D dA cl B nL cells slots tgt lv st w) : X p l e R s m args below meth c Q D dA cl B nL cells slots pc lv (.int x :: st) w :=
  fun H locs ls h1 h2 h3 => lv_tableOut F.1 F.2.1 hd g ht (k H locs ls h1 h2 h3)
/-- fewer locals, in another order -/
theorem x_lv {lv' : List (Nat × Value)} (h : x_sub lv lv') (k : X p l e R s m args below meth c Q D dA cl B nL cells slots pc lv' st w) : X p l e R s m args below meth c Q D dA cl B nL cells slots pc lv st w := fun H locs ls h1 h2 h3 => k H locs ls h1 h2 (x_sub_has h3 h)
theorem x_lk {lv' : List (Nat × Value)} (k : X p l e R s m args below meth c Q D dA cl B nL cells slots pc lv' st w) (h : x_sub lv lv') : X p l e R s m args below meth c Q D dA cl B nL cells slots pc lv st w := x_lv h k
theorem x_widen {n1 n2 : Nat} (h1 : cells ≤ n1) (h2 : slots ≤ n2) (k : X p l e R s m args below meth c Q D dA cl B nL n1 n2 pc lv st w) : X p l e R s m args below meth c Q D dA cl B nL cells slots pc lv st w := fun H locs ls g1 g2 g3 => W.widen h1 h2 (k H locs ls g1 g2 g3)
theorem x_top {v : Value} (k : ∀ v2, v2 = v → X p l e R s m args below meth c Q D dA cl B nL cells slots pc lv (v2 :: st) w) : X p l e R s m args below meth c Q D dA cl B nL cells slots pc lv (v :: st) w := k v rfl
theorem x_wd (k : ∀ w2, w2 = w → X p l e R s m args below meth c Q D dA cl B nL cells slots pc lv st w2) : X p l e R s m args below meth c Q D dA cl B nL cells slots pc lv st w := k w rfl
/-- less of the world -/
theorem x_forget {w2 : xW} (h : ∀ a x, w2 a = some x → w a = some x) (k : X p l e R s m args below meth c Q D dA cl B nL cells slots pc lv st w2) : X p l e R s m args below meth c Q D dA cl B nL cells slots pc lv st w := fun H locs ls g1 g2 g3 => k H locs ls (fun a x hx => g1 a x (h a x hx)) g2 g3

/-- getfield -/
theorem x_get (F : x_Fix p s m args meth c cc nL own Ts ret nm D dA cl tyL B) {ref C : String} {T : u_T} {N ci index a k : Nat} {fs : List Value} {v : Value} (hd : decode cc pc = .ok (.getfield index, 3)) (hc : cl[ci]? = some (C, T, N)) (hin : ∀ q ∈ u_ws C T N, q ∈ Ts) (hk : k < N) (hlink : Cond.fieldLink own index ref (T k).2.1 (T k).2.2.1 ∈ Ts) (href : (T k).1 = ref) (hw : w a = some (.inr (ci, fs))) (hv : fs[k]? = some v) (kk : X p l e R s m args below meth c Q D dA cl B nL cells slots (pc + 3) lv (v :: st) w) : X p l e R s m args below meth c Q D dA cl B nL cells slots pc lv (.ref a :: st) w := by
  subst href
  intro H locs ls h1 h2 h3
  obtain ⟨i, hi⟩ := h1.at hw
  exact va_get F.1 F.2.1 F.2.2.2.2.1 hin F.2.2.2.1 F.2.2.2.2.2.1 h1.toL i hi hc k hk (F.2.2.2.2.1 _ hlink) (fun _ h => h) hv hd (kk H locs ls h1 h2 h3)
/-- putfield -/
theorem x_put (F : x_Fix p s m args meth c cc nL own Ts ret nm D dA cl tyL B) {ref C : String} {T : u_T} {N ci index a k : Nat} {fs : List Value} {v : Value} (hd : decode cc pc = .ok (.putfield index, 3)) (hc : cl[ci]? = some (C, T, N)) (hin : ∀ q ∈ u_ws C T N, q ∈ Ts) (ty0 : Nat → FieldType) (hty : ∀ k, k < N → parseFieldDescriptor (T k).2.2.1 = some (ty0 k)) (hnm : ∀ a, a < N → ∀ b, b < N → a ≠ b → (T a).2.1 ≠ (T b).2.1) (hk : k < N) (hlink : Cond.fieldLink own index ref (T k).2.1 (T k).2.2.1 ∈ Ts) (href : (T k).1 = ref) (hfin : (T k).2.2.2 = false) (hw : w a = some (.inr (ci, fs))) (hl : k < fs.length) (hn : narrow (ty0 k) v = v) (hfit : fits (ty0 k) v = true) (kk : X p l e R s m args below meth c Q D dA cl B nL cells slots (pc + 3) lv st (x_set w a (.inr (ci, fs.set k v)))) : X p l e R s m args below meth c Q D dA cl B nL cells slots pc lv (v :: .ref a :: st) w := by
  subst href
  intro H locs ls h1 h2 h3
  obtain ⟨i, hi⟩ := h1.at hw
  exact va_put F.1 F.2.1 F.2.2.2.2.1 hin ty0 hty hnm F.2.2.2.1 F.2.2.2.2.2.1 h1.toL h1.toD h2 i hi hc k hk (F.2.2.2.2.1 _ hlink) (fun _ h => h) hfin (hty k hk) hn hfit hl hd (fun H1 locs1 g1 _ g3 => kk H1 locs1 ls (h1.ofSet hw hi g1) g3 h3)
/-- putfield of a final field, in a constructor -/
theorem x_putF (F : x_Fix p s m args meth c cc nL own Ts ret nm D dA cl tyL B) {ref C : String} {T : u_T} {N ci index a k : Nat} {fs : List Value} {v : Value} (hd : decode cc pc = .ok (.putfield index, 3)) (hc : cl[ci]? = some (C, T, N)) (hin : ∀ q ∈ u_ws C T N, q ∈ Ts) (ty0 : Nat → FieldType) (hty : ∀ k, k < N → parseFieldDescriptor (T k).2.2.1 = some (ty0 k)) (hnm : ∀ a, a < N → ∀ b, b < N → a ≠ b → (T a).2.1 ≠ (T b).2.1) (hk : k < N) (hlink : Cond.fieldLink own index ref (T k).2.1 (T k).2.2.1 ∈ Ts) (href : (T k).1 = ref) (hfin : (T k).2.2.2 = true) (hnm0 : nm = "<init>") (hdecl : (T k).1 = own) (hw : w a = some (.inr (ci, fs))) (hl : k < fs.length) (hn : narrow (ty0 k) v = v) (hfit : fits (ty0 k) v = true) (kk : X p l e R s m args below meth c Q D dA cl B nL cells slots (pc + 3) lv st (x_set w a (.inr (ci, fs.set k v)))) : X p l e R s m args below meth c Q D dA cl B nL cells slots pc lv (v :: .ref a :: st) w := by
  subst href
  intro H locs ls h1 h2 h3
  obtain ⟨i, hi⟩ := h1.at hw
  exact va_putF F.1 F.2.1 F.2.2.2.2.1 hin ty0 hty hnm F.2.2.2.1 F.2.2.2.2.2.1 h1.toL h1.toD h2 i hi hc k hk (F.2.2.2.2.1 _ hlink) (fun _ h => h) hfin (F.2.2.2.2.2.2.2.2.2.1.trans hnm0) hdecl (hty k hk) hn hfit hl hd (fun H1 locs1 g1 _ g3 => kk H1 locs1 ls (h1.ofSet hw hi g1) g3 h3)
/-- new -/
theorem x_new (F : x_Fix p s m args meth c cc nL own Ts ret nm D dA cl tyL B) {C : String} {T : u_T} {N ci index : Nat} {fs : List Value} (hd : decode cc pc = .ok (.new index, 3)) (hc : cl[ci]? = some (C, T, N)) (hin : ∀ q ∈ u_ws C T N, q ∈ Ts) (ty0 : Nat → FieldType) (hty : ∀ k, k < N → parseFieldDescriptor (T k).2.2.1 = some (ty0 k)) (hcl : Cond.classLink own index C ∈ Ts) (hinst : Cond.instantiable C N ∈ Ts) (hini : Cond.initialized C ∈ Ts) (hfs : ∀ j, j < N → defaultValue (ty0 j) = vp_V fs j) (hcells : cells + 1 ≤ R.cells) (hslots : slots + N ≤ R.slots) (kk : ∀ a, w a = none → X p l e R s m args below meth c Q D dA cl B nL (cells + 1) (slots + N) (pc + 3) lv (.ref a :: st) (x_set w a (.inr (ci, fs)))) : X p l e R s m args below meth c Q D dA cl B nL cells slots pc lv st w := by
  intro H locs ls h1 h2 h3
  refine va_new F.1 F.2.1 F.2.2.2.2.1 hin ty0 hty F.2.2.2.1 (F.2.2.2.2.1 _ hcl) (F.2.2.2.2.1 _ hinst) (F.2.2.2.2.1 _ hini) F.2.2.2.2.2.1 h1.toL h1.toD h2 (fun q hq => Nat.le_trans F.2.2.2.2.2.2.1 hq) hc (fs := fs) hfs hcells hslots hd (fun q H1 g1 g2 g3 => ?_)
  have hq : B ≤ q := g2.2 (x_L dA w H.size).length (q, .inr (ci, fs)) (by simp)
  obtain ⟨f1, f2⟩ := h1.ofPush (x := .inr (ci, fs)) hq g1 g2
  exact kk q f1 H1 locs ls f2 g3 h3
/-- the length of an array -/
theorem x_alen (F : x_Fix p s m args meth c cc nL own Ts ret nm D dA cl tyL B) {t a : Nat} {z : vp_A} {ty : FieldType} {v : Int32} (hd : decode cc pc = .ok (.arraylength, 1)) (ht : tyL[t]? = some ty) (hw : w a = some (.inl (t, z))) (hv : Int32.ofNat z.1 = v) (kk : X p l e R s m args below meth c Q D dA cl B nL cells slots (pc + 1) lv (.int v :: st) w) : X p l e R s m args below meth c Q D dA cl B nL cells slots pc lv (.ref a :: st) w := by
  intro H locs ls h1 h2 h3
  obtain ⟨i, hi⟩ := h1.at hw
  exact va_alen F.1 F.2.1 F.2.2.2.2.2.1 h1.toL i t hi (x_tys_at ht) hv hd (kk H locs ls h1 h2 h3)
theorem x_iald (F : x_Fix p s m args meth c cc nL own Ts ret nm D dA cl tyL B) {t a n : Nat} {f : Nat → Int32} {i : Int32} (hd : decode cc pc = .ok (.iaload, 1)) (ht : tyL[t]? = some .int) (hw : w a = some (.inl (t, n, .inl f))) (hin : vp_in i n) (kk : X p l e R s m args below meth c Q D dA cl B nL cells slots (pc + 1) lv (.int (f i.toNatClampNeg) :: st) w) : X p l e R s m args below meth c Q D dA cl B nL cells slots pc lv (.int i :: .ref a :: st) w := by
  intro H locs ls h1 h2 h3
  obtain ⟨j, hj⟩ := h1.at hw
  exact va_iald F.1 F.2.1 F.2.2.2.2.2.1 h1.toL j t hj (x_tys_at ht) hin hd (kk H locs ls h1 h2 h3)
theorem x_iast (F : x_Fix p s m args meth c cc nL own Ts ret nm D dA cl tyL B) {t a n : Nat} {f : Nat → Int32} {i v : Int32} (hd : decode cc pc = .ok (.iastore, 1)) (ht : tyL[t]? = some .int) (hw : w a = some (.inl (t, n, .inl f))) (hin : vp_in i n) (kk : X p l e R s m args below meth c Q D dA cl B nL cells slots (pc + 1) lv st (x_set w a (.inl (t, n, .inl (upd f i.toNatClampNeg v))))) : X p l e R s m args below meth c Q D dA cl B nL cells slots pc lv (.int v :: .int i :: .ref a :: st) w := by
  intro H locs ls h1 h2 h3
  obtain ⟨j, hj⟩ := h1.at hw
  exact va_iast F.1 F.2.1 F.2.2.2.2.2.1 h1.toL h1.toD h2 j t hj (x_tys_at ht) hin hd (fun H1 locs1 g1 _ g3 => kk H1 locs1 ls (h1.ofSet (x := .inl (t, n, .inl (upd f i.toNatClampNeg v))) hw hj g1) g3 h3)
theorem x_aald (F : x_Fix p s m args meth c cc nL own Ts ret nm D dA cl tyL B) {t a n : Nat} {C : String} {f : Nat → Option Nat} {i : Int32} (hd : decode cc pc = .ok (.aaload, 1)) (ht : tyL[t]? = some (.object C)) (hw : w a = some (.inl (t, n, .inr (.inr (.inr (.inr f)))))) (hin : vp_in i n) (kk : X p l e R s m args below meth c Q D dA cl B nL cells slots (pc + 1) lv (va_rf (f i.toNatClampNeg) :: st) w) : X p l e R s m args below meth c Q D dA cl B nL cells slots pc lv (.int i :: .ref a :: st) w := by
  intro H locs ls h1 h2 h3
  obtain ⟨j, hj⟩ := h1.at hw
  exact va_aldq F.1 F.2.1 F.2.2.2.2.2.1 h1.toL j t hj (x_tys_at ht) hin hd (kk H locs ls h1 h2 h3)
theorem x_aast (F : x_Fix p s m args meth c cc nL own Ts ret nm D dA cl tyL B) {t a n v ci N : Nat} {C : String} {T : u_T} {vs : List Value} {f : Nat → Option Nat} {i : Int32} (hd : decode cc pc = .ok (.aastore, 1)) (ht : tyL[t]? = some (.object C)) (hc : cl[ci]? = some (C, T, N)) (hw : w a = some (.inl (t, n, .inr (.inr (.inr (.inr f)))))) (hv : w v = some (.inr (ci, vs))) (hin : vp_in i n) (kk : X p l e R s m args below meth c Q D dA cl B nL cells slots (pc + 1) lv st (x_set w a (.inl (t, n, .inr (.inr (.inr (.inr (va_up f i.toNatClampNeg (some v))))))))) : X p l e R s m args below meth c Q D dA cl B nL cells slots pc lv (.ref v :: .int i :: .ref a :: st) w := by
  intro H locs ls h1 h2 h3
  obtain ⟨j, hj⟩ := h1.at hw
  obtain ⟨j2, hj2⟩ := h1.at hv
  exact va_astq (r := (C, T, N)) F.1 F.2.1 F.2.2.2.2.2.1 h1.toL h1.toD h2 j t j2 ci hj (x_tys_at ht) hj2 hc hin hd (fun H1 locs1 g1 _ g3 => kk H1 locs1 ls (h1.ofSet (x := .inl (t, n, .inr (.inr (.inr (.inr (va_up f i.toNatClampNeg (some v))))))) hw hj g1) g3 h3)
/-- a new int array -/
theorem x_newa (F : x_Fix p s m args meth c cc nL own Ts ret nm D dA cl tyL B) {t N : Nat} {n : Int32} (hd : decode cc pc = .ok (.newarray .int, 2)) (ht : tyL[t]? = some .int) (harr : Cond.arrayClass .int ∈ Ts) (hn : ¬ n < 0) (hN : n.toNatClampNeg = N) (hbytes : N * componentBytes .int ≤ 536870912) (hcells : cells + 1 ≤ R.cells) (hslots : slots + N ≤ R.slots) (kk : ∀ a, w a = none → X p l e R s m args below meth c Q D dA cl B nL (cells + 1) (slots + N) (pc + 2) lv (.ref a :: st) (x_set w a (.inl (t, N, .inl (fun _ => 0))))) : X p l e R s m args below meth c Q D dA cl B nL cells slots pc lv (.int n :: st) w := by
  intro H locs ls h1 h2 h3
  refine va_newa (atype := .int) (ty := .int) (a0 := (N, .inl (fun _ => 0))) F.1 F.2.1 (F.2.2.2.2.1 _ harr) rfl F.2.2.2.2.2.1 h1.toL h1.toD h2 (fun q hq => Nat.le_trans F.2.2.2.2.2.2.1 hq) (fun cA => by rw [vp_cell_i]; rfl) hn hN hbytes hcells hslots hd (fun q cA H1 gK g1 g2 g3 => ?_)
  have hq : B ≤ q := g2.2 (x_L dA w H.size).length (q, .inl (cA, N, .inl (fun _ => 0))) (by simp)
  have e1 : s.vm.findClass ("[" ++ FieldType.int.toString) = some cA := (gK.2 (x_tys dA tyL).length (cA, .int) (by simp)).2
  have e2 : s.vm.findClass ("[" ++ FieldType.int.toString) = some (dA t) := (F.2.2.2.2.2.1.2 t (dA t, .int) (x_tys_at ht)).2
  have hcA : cA = dA t := Option.some.inj (e1.symm.trans e2)
  subst hcA
  obtain ⟨f1, f2⟩ := h1.ofPush (x := .inl (t, N, .inl (fun _ => 0))) hq g1 g2
  exact kk q f1 H1 locs ls f2 g3 h3
/-- a new array of references -/
theorem x_newq (F : x_Fix p s m args meth c cc nL own Ts ret nm D dA cl tyL B) {t N index : Nat} {C : String} {n : Int32} (hd : decode cc pc = .ok (.anewarray index, 3)) (ht : tyL[t]? = some (.object C)) (hcl : Cond.classLink own index C ∈ Ts) (hover : va_AO C s) (hn : ¬ n < 0) (hN : n.toNatClampNeg = N) (hbytes : N * 4 ≤ 536870912) (hcells : cells + 1 ≤ R.cells) (hslots : slots + N ≤ R.slots) (kk : ∀ a, w a = none → X p l e R s m args below meth c Q D dA cl B nL (cells + 1) (slots + N) (pc + 3) lv (.ref a :: st) (x_set w a (.inl (t, N, .inr (.inr (.inr (.inr (fun _ => none)))))))) : X p l e R s m args below meth c Q D dA cl B nL cells slots pc lv (.int n :: st) w := by
  intro H locs ls h1 h2 h3
  refine va_newq F.1 F.2.1 F.2.2.2.1 (F.2.2.2.2.1 _ hcl) hover F.2.2.2.2.2.1 h1.toL h1.toD h2 (fun q hq => Nat.le_trans F.2.2.2.2.2.2.1 hq) hn hN hbytes hcells hslots hd (fun q cA H1 gK g1 g2 g3 => ?_)
  have hq : B ≤ q := g2.2 (x_L dA w H.size).length (q, .inl (cA, N, .inr (.inr (.inr (.inr (fun _ => none)))))) (by simp)
  obtain ⟨_, _, _, _, _, e1⟩ := (gK.2 (x_tys dA tyL).length (cA, .object C) (by simp)).2
  obtain ⟨_, _, _, _, _, e2⟩ := (F.2.2.2.2.2.1.2 t (dA t, .object C) (x_tys_at ht)).2
  have hcA : cA = dA t := Option.some.inj (e1.symm.trans e2)
  subst hcA
  obtain ⟨f1, f2⟩ := h1.ofPush (x := .inl (t, N, .inr (.inr (.inr (.inr (fun _ => none)))))) hq g1 g2
  exact kk q f1 H1 locs ls f2 g3 h3
/-- Object's constructor -/
theorem x_objInit (F : x_Fix p s m args meth c cc nL own Ts ret nm D dA cl tyL B) {idx a : Nat} (hd : decode cc pc = .ok (.invokespecial idx, 3)) (hl : Cond.methodLink own idx objectInit ∈ Ts) (hi : Cond.instanceMethod objectInit ∈ Ts) (hc : Cond.code objectInit ⟨#[0xb1]⟩ 1 none ∈ Ts) (hf : 1 ≤ R.frames) (hlo : (st.map fun v => v.category).sum + 12 ≤ R.locals) (kk : X p l e R s m args below meth c Q D dA cl B nL cells slots (pc + 3) lv st w) : X p l e R s m args below meth c Q D dA cl B nL cells slots pc lv (.ref a :: st) w := by
  intro H locs ls h1 h2 h3
  exact W.objInit F.1 F.2.1 F.2.2.2.1 (F.2.2.2.2.1 _ hl) (F.2.2.2.2.1 _ hi) (F.2.2.2.2.1 _ hc) rfl (h3.1.trans F.2.2.1.symm) rfl hd hf (by simpa [JFrame.monitorRoom] using hlo) (kk H locs ls h1 h2 h3)
/-- Math.max of two ints -/
theorem x_max (F : x_Fix p s m args meth c cc nL own Ts ret nm D dA cl tyL B) {index : Nat} {x y : Int32} (hd : decode cc pc = .ok (.invokestatic index, 3)) (hl : Cond.methodLink own index Lib.Math.max.name ∈ Ts) (hs : Cond.static Lib.Math.max.name ∈ Ts) (hi : Cond.initialized "java/lang/Math" ∈ Ts) (hco : Cond.code Lib.Math.max.name Lib.Math.max.code 2 (some .int) ∈ Ts) (hf : 1 ≤ R.frames) (hlo : (st.map fun v => v.category).sum + 13 ≤ R.locals) (g1 : cells ≤ R.cells) (g2 : slots ≤ R.slots) (kk : X p l e R s m args below meth c Q D dA cl B nL cells slots (pc + 3) lv (.int (if x < y then y else x) :: st) w) : X p l e R s m args below meth c Q D dA cl B nL cells slots pc lv (.int y :: .int x :: st) w := by
  intro H locs ls h1 h2 h3
  exact va_mmax F.1 F.2.1 (F.2.2.1.trans h3.1.symm) F.2.2.2.1 (F.2.2.2.2.1 _ hl) (F.2.2.2.2.1 _ hs) (F.2.2.2.2.1 _ hi) (F.2.2.2.2.1 _ hco) hf hlo g1 g2 hd (kk H locs ls h1 h2 h3)

theorem x_blind {D : va_G} {dA : Nat → ClassId} {cl : List vw_C} {tyL : List FieldType} {B : Nat} {w : xW} {av : List Value} : FrameBlind (va_Pc av (fun U => B ≤ U.heap.size ∧ x_P D dA cl B w U.heap ∧ va_K D cl (x_tys dA tyL) U ∧ x_ev dA B U)) :=
  fun a U g mk q => ⟨q.1, q.2.1, q.2.2.1, va_K.moved (u := U) (U := U.calling g mk a) (Vm.Alike.refl U.vm) q.2.2.2.1, x_ev.same (u := U) (U := U.calling g mk a) rfl rfl q.2.2.2.2⟩
theorem x_goes {R : Room} {post : Option Value → xW → Prop} {a : Array Value} {ls : Array Slot} {H : Heap} {locs : List Loc} {rest st0 : List Value} {mc ms : Nat} (hS : va_S (fun q => B ≤ q) s.heap H locs) (hl : lv_has ls nL lv) (hr : va_Run p l e R s m args below meth c H locs cells slots mc ms (F0 m pc ls st0) rest (x_Q D dA cl tyL B post a) (fun q => B ≤ q)) (k : ∀ r w1, post r w1 → X p l e R s m args below meth c Q D dA cl B nL (cells + mc) (slots + ms) (pc + 3) lv (r.toList ++ rest) w1) : W p l e R s m args below meth c H locs cells slots Q (F0 m pc ls st0) := by
  intro T hT X0
  obtain ⟨v, st₀, t, T', L, h0, X', hL, e1, e2, ⟨⟨r, w1, hv, hp, hw, -⟩, hz, hk⟩, sg⟩ := hr T hT X0
  cases hv
  rw [h0] at hz hk
  have hw' : x_P D dA cl B w1 T'.heap := by rw [e1]; exact hw
  obtain ⟨t2, a1, b1⟩ := k v w1 hp T'.heap (locs ++ L) ls hw' ⟨Nat.le_trans hS.1 (by rw [e1]; exact hz), fun q h1 h2 => by rw [e1, hk q (Nat.lt_of_lt_of_le h1 hS.1) h2]; exact hS.2.1 q h1 h2, fun q hq => by
      rcases List.mem_append.mp hq with h | h
      · exact hS.2.2 q h
      · exact hL q h⟩ hl T' rfl X'
  exact ⟨t2, sg t2 a1, b1⟩
/-- a call: what a program can decide of it -/
def x_call (R : Room) (cells slots : Nat) (rm : Room) (mc ms : Nat) (ws ws2 : List Cond) (y : MethodName) (bytes : ByteArray) (maxL : Nat) (rt : Option FieldType) (n : Nat) : Prop :=
  ws = Cond.code y bytes maxL rt :: ws2 ∧ rm.cells = mc ∧ rm.slots = ms ∧ (y.cls ≠ "java/lang/invoke/MethodHandle" ∧ y.cls ≠ "java/lang/invoke/VarHandle" ∧ (parseMethodDescriptor y.desc).map (fun d => d.parameters.length) = some n) ∧ (rm.frames + 1 ≤ R.frames ∧ 8 + (maxL + 11) + rm.locals ≤ R.locals) ∧ cells + mc ≤ R.cells ∧ slots + ms ≤ R.slots
theorem x_callV (F : x_Fix p s m args meth c cc nL own Ts ret nm D dA cl tyL B) {C : String} {T : u_T} {N ci index maxL n mc ms b : Nat} {y : MethodName} {bytes : ByteArray} {rt : Option FieldType} {ws ws2 : List Cond} {rm : Room} {av rest fs : List Value} {post : Option Value → xW → Prop} (hd : decode cc pc = .ok (.invokevirtual index, 3)) (hG : GoodIn Ts (wsV own index C y ws)) (hy : y.cls = C) (hM : x_Ct l D dA cl tyL B y ws rm (.ref b :: av) w post mc ms) (hC : x_call R cells slots rm mc ms ws ws2 y bytes maxL rt n) (hc : cl[ci]? = some (C, T, N)) (hb : w b = some (.inr (ci, fs))) (hn : av.length = n) (hst : st = av.reverse ++ .ref b :: rest) (hcat : (rest.map fun v => v.category).sum ≤ 8) (k : ∀ r w1, post r w1 → X p l e R s m args below meth c Q D dA cl B nL (cells + mc) (slots + ms) (pc + 3) lv (r.toList ++ rest) w1) : X p l e R s m args below meth c Q D dA cl B nL cells slots pc lv st w := by
  intro H locs ls h1 h2 h3
  obtain ⟨c1, c2, c3, c4, c5, c6⟩ := hC
  obtain ⟨i, hi⟩ := h1.at hb
  exact x_goes h2 h3 (va_runV (As := av) (rest := rest) ⟨F.1, F.2.1, F.2.2.1, F.2.2.2.1, F.2.2.2.2.1⟩ hM (cwV n F.2.2.2.2.1 hG c1 c2 c3 ⟨hy, c4⟩ c5) ⟨x_blind, va_recv F.2.2.2.2.2.1 h1.toL hc hi, fun U hU hW => ⟨rfl, by rw [hU]; exact Nat.le_trans F.2.2.2.2.2.2.1 h2.1, by rw [hU]; exact h1, va_K.moved hW.alike F.2.2.2.2.2.1, x_ev.call hW hU h2 F.2.2.2.2.2.2.2.2.2.2⟩⟩ rfl hn h3.1 hst (lv_room hcat) hd c6) k
theorem x_callS (F : x_Fix p s m args meth c cc nL own Ts ret nm D dA cl tyL B) {index maxL n mc ms : Nat} {y : MethodName} {bytes : ByteArray} {rt : Option FieldType} {ws ws2 : List Cond} {rm : Room} {av rest : List Value} {post : Option Value → xW → Prop} (hd : decode cc pc = .ok (.invokestatic index, 3)) (hG : GoodIn Ts (va_wsS own index y ws)) (hM : x_Ct l D dA cl tyL B y ws rm av w post mc ms) (hC : x_call R cells slots rm mc ms ws ws2 y bytes maxL rt n) (hn : av.length = n) (hst : st = av.reverse ++ rest) (hcat : (rest.map fun v => v.category).sum ≤ 8) (k : ∀ r w1, post r w1 → X p l e R s m args below meth c Q D dA cl B nL (cells + mc) (slots + ms) (pc + 3) lv (r.toList ++ rest) w1) : X p l e R s m args below meth c Q D dA cl B nL cells slots pc lv st w := by
  intro H locs ls h1 h2 h3
  obtain ⟨c1, c2, c3, c4, c5, c6⟩ := hC
  exact x_goes h2 h3 (va_runS (As := av) (rest := rest) ⟨F.1, F.2.1, F.2.2.1, F.2.2.2.1, F.2.2.2.2.1⟩ hM (va_cwS n F.2.2.2.2.1 hG c1 c2 c3 c4 c5) ⟨x_blind, fun U hU hW => ⟨rfl, by rw [hU]; exact Nat.le_trans F.2.2.2.2.2.2.1 h2.1, by rw [hU]; exact h1, va_K.moved hW.alike F.2.2.2.2.2.1, x_ev.call hW hU h2 F.2.2.2.2.2.2.2.2.2.2⟩⟩ rfl hn h3.1 hst (lv_room hcat) hd c6) k
theorem x_callI (F : x_Fix p s m args meth c cc nL own Ts ret nm D dA cl tyL B) {index maxL n mc ms b : Nat} {y : MethodName} {bytes : ByteArray} {ws ws2 : List Cond} {rm : Room} {av rest : List Value} {post : Option Value → xW → Prop} (hd : decode cc pc = .ok (.invokespecial index, 3)) (hG : GoodIn Ts ws) (hini : Cond.initialized y.cls ∈ Ts) (hlk : Cond.methodLink own index y ∈ Ts) (hin : Cond.instanceMethod y ∈ Ts) (hy : y.name = "<init>") (hM : x_Ct l D dA cl tyL B y ws rm (.ref b :: av) w post mc ms) (hC : x_call R cells slots rm mc ms ws ws2 y bytes maxL none n) (hn : av.length = n) (hst : st = av.reverse ++ .ref b :: rest) (hcat : (rest.map fun v => v.category).sum ≤ 8) (k : ∀ r w1, post r w1 → X p l e R s m args below meth c Q D dA cl B nL (cells + mc) (slots + ms) (pc + 3) lv (r.toList ++ rest) w1) : X p l e R s m args below meth c Q D dA cl B nL cells slots pc lv st w := by
  intro H locs ls h1 h2 h3
  obtain ⟨c1, c2, c3, c4, c5, c6⟩ := hC
  exact x_goes h2 h3 (va_runI (As := av) (rest := rest) ⟨F.1, F.2.1, F.2.2.1, F.2.2.2.1, F.2.2.2.2.1⟩ hM (cwI n F.2.2.2.2.1 hG c1 c2 c3 (F.2.2.2.2.1 _ hini) (F.2.2.2.2.1 _ hlk) (F.2.2.2.2.1 _ hin) hy c4 c5) ⟨x_blind, fun U hU hW => ⟨rfl, by rw [hU]; exact Nat.le_trans F.2.2.2.2.2.2.1 h2.1, by rw [hU]; exact h1, va_K.moved hW.alike F.2.2.2.2.2.1, x_ev.call hW hU h2 F.2.2.2.2.2.2.2.2.2.2⟩⟩ rfl hn h3.1 hst (lv_room hcat) hd c6) k
theorem x_Fix.xt (F : x_Fix p s m args meth c cc nL own Ts ret nm D dA cl tyL B) : x_xt s := F.2.2.2.2.2.2.2.2.2.2.1
theorem x_Fix.hs (F : x_Fix p s m args meth c cc nL own Ts ret nm D dA cl tyL B) : x_hs dA B s s.heap := F.2.2.2.2.2.2.2.2.2.2.2
theorem x_callIN (F : x_Fix p s m args meth c cc nL own Ts ret nm D dA cl tyL B) {host : String} {index maxL n mc ms b : Nat} {y : MethodName} {bytes : ByteArray} {ws ws2 : List Cond} {rm : Room} {av rest : List Value} {post : Option Value → xW → Prop} (hd : decode cc pc = .ok (.invokespecial index, 3)) (hG : GoodIn Ts ws) (hini : Cond.initialized y.cls ∈ Ts) (hlk : va_Nw (.methodLinkNest own index y host) s) (hin : Cond.instanceMethod y ∈ Ts) (hy : y.name = "<init>") (hM : x_Ct l D dA cl tyL B y ws rm (.ref b :: av) w post mc ms) (hC : x_call R cells slots rm mc ms ws ws2 y bytes maxL none n) (hn : av.length = n) (hst : st = av.reverse ++ .ref b :: rest) (hcat : (rest.map fun v => v.category).sum ≤ 8) (k : ∀ r w1, post r w1 → X p l e R s m args below meth c Q D dA cl B nL (cells + mc) (slots + ms) (pc + 3) lv (r.toList ++ rest) w1) : X p l e R s m args below meth c Q D dA cl B nL cells slots pc lv st w := by
  intro H locs ls h1 h2 h3
  obtain ⟨c1, c2, c3, c4, c5, c6⟩ := hC
  exact x_goes h2 h3 (va_runIN (As := av) (rest := rest) ⟨F.1, F.2.1, F.2.2.1, F.2.2.2.1, F.2.2.2.2.1⟩ hM ⟨va_cnB n F.2.2.2.2.1 hG c1 c2 c3 hlk (F.2.2.2.2.1 _ hini) c4 c5, hy, F.2.2.2.2.1 _ hin⟩ ⟨x_blind, fun U hU hW => ⟨rfl, by rw [hU]; exact Nat.le_trans F.2.2.2.2.2.2.1 h2.1, by rw [hU]; exact h1, va_K.moved hW.alike F.2.2.2.2.2.1, x_ev.call hW hU h2 F.2.2.2.2.2.2.2.2.2.2⟩⟩ rfl hn h3.1 hst (lv_room hcat) hd c6) k
/-- a body: its entry -/
theorem x_Ct.of {y : MethodName} {ws ws2 : List Cond} {rm : Room} {av : List Value} {post : Option Value → xW → Prop} {mc ms : Nat} {cc : ByteArray} {maxL : Nat} {rt : Option FieldType} (hy : plainName y.cls = true) (hw : ws = Cond.code y cc maxL rt :: ws2) (hlen : (lg_sl av).length ≤ maxL)
    (body : ∀ (p : Program) (e : Env) (s : State) (m : MethodId) (below : List Frame) (meth : Method) (c : Code), x_Fix p s m av.toArray meth c cc maxL y.cls ws2 rt y.name D dA cl tyL B → X p l e rm s m av.toArray below meth c (MQ below (x_Q D dA cl tyL B post) av.toArray s mc ms (fun q => B ≤ q)) D dA cl B maxL 0 0 0 (lv_args 0 av) [] w) : x_Ct l D dA cl tyL B y ws rm av w post mc ms := by
  refine Met.ofW (cc := cc) (maxL := maxL) (ret := rt) hy hw ?_
  intro p e s m args below meth c s₁ B0 hml hv
  obtain ⟨rfl, hB, hP, hK, hX⟩ := hv
  have hl := lv_entry av hlen
  rw [lg_entry_eq]
  exact body p e s m below meth c ⟨B0.exec, B0.bytes, hml, findClass_of_methodNamed B0.named, (fun q hq => atoms_spec (ws := ws) B0.pre q (by rw [hw]; exact List.mem_cons_of_mem _ hq)), hK, hB, B0.returns, B0.notSynchronized, (name_of_methodNamed B0.named B0.method).1, hX⟩ s.heap [] _ hP va_S.rf hl
section XR
variable {post : Option Value → xW → Prop} {mc ms : Nat}
theorem x_iret (F : x_Fix p s m args meth c cc nL own Ts ret nm D dA cl tyL B) {v : Int32} {ty : FieldType} (hr : ret = some ty) (hn : narrow ty (.int v) = .int v) (hd : decode cc pc = .ok (.ireturn, 1)) (h1 : cells ≤ mc) (h2 : slots ≤ ms) (hq : post (some (.int v)) w) : X p l e R s m args below meth c (MQ below (x_Q D dA cl tyL B post) args s mc ms (fun q => B ≤ q)) D dA cl B nL cells slots pc lv [.int v] w :=
  fun H locs ls g1 g2 g3 => W.widen h1 h2 (W.zret F.1 F.2.1 (F.2.2.2.2.2.2.2.1.trans hr) hn (fun t ht hW => ⟨⟨_, w, rfl, hq, by rw [ht]; exact g1, va_K.moved hW.alike F.2.2.2.2.2.1⟩, g2.F ht⟩) g2.2.2 hd F.2.2.2.2.2.2.2.2.1)
theorem x_lret (F : x_Fix p s m args meth c cc nL own Ts ret nm D dA cl tyL B) {v : Int64} (hr : ret = some .long) (hd : decode cc pc = .ok (.lreturn, 1)) (h1 : cells ≤ mc) (h2 : slots ≤ ms) (hq : post (some (.long v)) w) : X p l e R s m args below meth c (MQ below (x_Q D dA cl tyL B post) args s mc ms (fun q => B ≤ q)) D dA cl B nL cells slots pc lv [.long v] w :=
  fun H locs ls g1 g2 g3 => W.widen h1 h2 (W.lret F.1 F.2.1 (F.2.2.2.2.2.2.2.1.trans hr) (fun t ht hW => ⟨⟨_, w, rfl, hq, by rw [ht]; exact g1, va_K.moved hW.alike F.2.2.2.2.2.1⟩, g2.F ht⟩) g2.2.2 hd F.2.2.2.2.2.2.2.2.1)
theorem x_vret (F : x_Fix p s m args meth c cc nL own Ts ret nm D dA cl tyL B) (hr : ret = none) (hd : decode cc pc = .ok (.return_, 1)) (h1 : cells ≤ mc) (h2 : slots ≤ ms) (hq : post none w) : X p l e R s m args below meth c (MQ below (x_Q D dA cl tyL B post) args s mc ms (fun q => B ≤ q)) D dA cl B nL cells slots pc lv [] w :=
  fun H locs ls g1 g2 g3 => W.widen h1 h2 (W.vret F.1 F.2.1 (F.2.2.2.2.2.2.2.1.trans hr) (fun t ht hW => ⟨⟨_, w, rfl, hq, by rw [ht]; exact g1, va_K.moved hW.alike F.2.2.2.2.2.1⟩, g2.F ht⟩) g2.2.2 hd F.2.2.2.2.2.2.2.2.1)
theorem x_aret (F : x_Fix p s m args meth c cc nL own Ts ret nm D dA cl tyL B) {o : Option Nat} {C : String} (hr : ret = some (.object C)) (hd : decode cc pc = .ok (.areturn, 1)) (h1 : cells ≤ mc) (h2 : slots ≤ ms) (hq : post (some (va_rf o)) w) : X p l e R s m args below meth c (MQ below (x_Q D dA cl tyL B post) args s mc ms (fun q => B ≤ q)) D dA cl B nL cells slots pc lv [va_rf o] w :=
  fun H locs ls g1 g2 g3 => W.widen h1 h2 (W.aret F.1 F.2.1 (F.2.2.2.2.2.2.2.1.trans hr) (Or.inl ⟨C, rfl⟩) (by cases o with | none => exact Or.inl rfl | some a => exact Or.inr ⟨a, rfl⟩) (fun t ht hW => ⟨⟨_, w, rfl, hq, by rw [ht]; exact g1, va_K.moved hW.alike F.2.2.2.2.2.1⟩, g2.F ht⟩) g2.2.2 hd F.2.2.2.2.2.2.2.2.1)
end XR

theorem x_acmp_eqR (F : x_Fix p s m args meth c cc nL own Ts ret nm D dA cl tyL B) {x y : Nat} {off : Int} {tgt : Nat} (hd : decode cc pc = .ok (.if_acmp .eq off, 3)) (ht : (pc : Int) + off = (tgt : Int)) (kt : x = y → X p l e R s m args below meth c Q D dA cl B nL cells slots tgt lv st w) (kf : ¬ x = y → X p l e R s m args below meth c Q D dA cl B nL cells slots (pc + 3) lv st w) : X p l e R s m args below meth c Q D dA cl B nL cells slots pc lv (.ref y :: .ref x :: st) w :=
  x_acmp_eq (rx := some x) (ry := some y) F hd ht (fun h => kt (Option.some.inj h)) (fun h => kf (fun q => h (congrArg some q)))
theorem x_acmp_neR (F : x_Fix p s m args meth c cc nL own Ts ret nm D dA cl tyL B) {x y : Nat} {off : Int} {tgt : Nat} (hd : decode cc pc = .ok (.if_acmp .ne off, 3)) (ht : (pc : Int) + off = (tgt : Int)) (kt : ¬ x = y → X p l e R s m args below meth c Q D dA cl B nL cells slots tgt lv st w) (kf : x = y → X p l e R s m args below meth c Q D dA cl B nL cells slots (pc + 3) lv st w) : X p l e R s m args below meth c Q D dA cl B nL cells slots pc lv (.ref y :: .ref x :: st) w :=
  x_acmp_ne (rx := some x) (ry := some y) F hd ht (fun h => kt (fun q => h (congrArg some q))) (fun h => kf (Option.some.inj h))
theorem x_acmp_neQR (F : x_Fix p s m args meth c cc nL own Ts ret nm D dA cl tyL B) {o : Option Nat} {x : Nat} {off : Int} {tgt : Nat} (hd : decode cc pc = .ok (.if_acmp .ne off, 3)) (ht : (pc : Int) + off = (tgt : Int)) (kt : ¬ some x = o → X p l e R s m args below meth c Q D dA cl B nL cells slots tgt lv st w) (kf : some x = o → X p l e R s m args below meth c Q D dA cl B nL cells slots (pc + 3) lv st w) : X p l e R s m args below meth c Q D dA cl B nL cells slots pc lv (va_rf o :: .ref x :: st) w :=
  x_acmp_ne (rx := some x) (ry := o) F hd ht kt kf
theorem x_acmp_eqQR (F : x_Fix p s m args meth c cc nL own Ts ret nm D dA cl tyL B) {o : Option Nat} {x : Nat} {off : Int} {tgt : Nat} (hd : decode cc pc = .ok (.if_acmp .eq off, 3)) (ht : (pc : Int) + off = (tgt : Int)) (kt : some x = o → X p l e R s m args below meth c Q D dA cl B nL cells slots tgt lv st w) (kf : ¬ some x = o → X p l e R s m args below meth c Q D dA cl B nL cells slots (pc + 3) lv st w) : X p l e R s m args below meth c Q D dA cl B nL cells slots pc lv (va_rf o :: .ref x :: st) w :=
  x_acmp_eq (rx := some x) (ry := o) F hd ht kt kf
theorem x_aretR (F : x_Fix p s m args meth c cc nL own Ts ret nm D dA cl tyL B) {a : Nat} {C : String} {post : Option Value → xW → Prop} {mc ms : Nat} (hr : ret = some (.object C)) (hd : decode cc pc = .ok (.areturn, 1)) (h1 : cells ≤ mc) (h2 : slots ≤ ms) (hq : post (some (.ref a)) w) : X p l e R s m args below meth c (MQ below (x_Q D dA cl tyL B post) args s mc ms (fun q => B ≤ q)) D dA cl B nL cells slots pc lv [.ref a] w :=
  x_aret (o := some a) F hr hd h1 h2 hq
theorem x_aretN (F : x_Fix p s m args meth c cc nL own Ts ret nm D dA cl tyL B) {C : String} {post : Option Value → xW → Prop} {mc ms : Nat} (hr : ret = some (.object C)) (hd : decode cc pc = .ok (.areturn, 1)) (h1 : cells ≤ mc) (h2 : slots ≤ ms) (hq : post (some .null) w) : X p l e R s m args below meth c (MQ below (x_Q D dA cl tyL B post) args s mc ms (fun q => B ≤ q)) D dA cl B nL cells slots pc lv [.null] w :=
  x_aret (o := none) F hr hd h1 h2 hq
/-- a contract of a method that gives a value back -/
def x_Ci (l : Launch) (D : va_G) (dA : Nat → ClassId) (cl : List vw_C) (tyL : List FieldType) (B : Nat) (y : MethodName) (ws : List Cond) (rm : Room) (av : List Value) (w : xW) (post : Value → xW → Prop) (mc ms : Nat) : Prop :=
  x_Ct l D dA cl tyL B y ws rm av w (fun r w1 => ∃ v, r = some v ∧ post v w1) mc ms
/-- .. of one that gives none -/
def x_Cv (l : Launch) (D : va_G) (dA : Nat → ClassId) (cl : List vw_C) (tyL : List FieldType) (B : Nat) (y : MethodName) (ws : List Cond) (rm : Room) (av : List Value) (w : xW) (post : xW → Prop) (mc ms : Nat) : Prop :=
  x_Ct l D dA cl tyL B y ws rm av w (fun r w1 => r = none ∧ post w1) mc ms
theorem x_cVi0 (F : x_Fix p s m args meth c cc nL own Ts ret nm D dA cl tyL B) {C : String} {T : u_T} {N ci index b : Nat} {maxL mc ms : Nat} {y : MethodName} {bytes : ByteArray} {ws ws2 : List Cond} {rm : Room} {rt : Option FieldType} {fs : List Value} {post : Value → xW → Prop} (hd : decode cc pc = .ok (.invokevirtual index, 3)) (hG : GoodIn Ts (wsV own index C y ws)) (hy : y.cls = C) (hM : x_Ci l D dA cl tyL B y ws rm [.ref b] w post mc ms) (hC : x_call R cells slots rm mc ms ws ws2 y bytes maxL rt 0) (hc : cl[ci]? = some (C, T, N)) (hb : w b = some (.inr (ci, fs))) (hcat : (st.map fun v => v.category).sum ≤ 8) (k : ∀ v w1, post v w1 → X p l e R s m args below meth c Q D dA cl B nL (cells + mc) (slots + ms) (pc + 3) lv (v :: st) w1) : X p l e R s m args below meth c Q D dA cl B nL cells slots pc lv (.ref b :: st) w :=
  x_callV (av := []) (rest := st) F hd hG hy hM hC hc hb rfl rfl hcat (fun r w1 ⟨v, hv, hp⟩ => by subst hv; exact k v w1 hp)
theorem x_cSi0 (F : x_Fix p s m args meth c cc nL own Ts ret nm D dA cl tyL B) {index : Nat} {maxL mc ms : Nat} {y : MethodName} {bytes : ByteArray} {ws ws2 : List Cond} {rm : Room} {rt : Option FieldType} {post : Value → xW → Prop} (hd : decode cc pc = .ok (.invokestatic index, 3)) (hG : GoodIn Ts (va_wsS own index y ws)) (hM : x_Ci l D dA cl tyL B y ws rm [] w post mc ms) (hC : x_call R cells slots rm mc ms ws ws2 y bytes maxL rt 0) (hcat : (st.map fun v => v.category).sum ≤ 8) (k : ∀ v w1, post v w1 → X p l e R s m args below meth c Q D dA cl B nL (cells + mc) (slots + ms) (pc + 3) lv (v :: st) w1) : X p l e R s m args below meth c Q D dA cl B nL cells slots pc lv (st) w :=
  x_callS (av := []) (rest := st) F hd hG hM hC rfl rfl hcat (fun r w1 ⟨v, hv, hp⟩ => by subst hv; exact k v w1 hp)
theorem x_cVv0 (F : x_Fix p s m args meth c cc nL own Ts ret nm D dA cl tyL B) {C : String} {T : u_T} {N ci index b : Nat} {maxL mc ms : Nat} {y : MethodName} {bytes : ByteArray} {ws ws2 : List Cond} {rm : Room} {rt : Option FieldType} {fs : List Value} {post : xW → Prop} (hd : decode cc pc = .ok (.invokevirtual index, 3)) (hG : GoodIn Ts (wsV own index C y ws)) (hy : y.cls = C) (hM : x_Cv l D dA cl tyL B y ws rm [.ref b] w post mc ms) (hC : x_call R cells slots rm mc ms ws ws2 y bytes maxL rt 0) (hc : cl[ci]? = some (C, T, N)) (hb : w b = some (.inr (ci, fs))) (hcat : (st.map fun v => v.category).sum ≤ 8) (k : ∀ w1, post w1 → X p l e R s m args below meth c Q D dA cl B nL (cells + mc) (slots + ms) (pc + 3) lv st w1) : X p l e R s m args below meth c Q D dA cl B nL cells slots pc lv (.ref b :: st) w :=
  x_callV (av := []) (rest := st) F hd hG hy hM hC hc hb rfl rfl hcat (fun r w1 ⟨hv, hp⟩ => by subst hv; exact k w1 hp)
theorem x_cSv0 (F : x_Fix p s m args meth c cc nL own Ts ret nm D dA cl tyL B) {index : Nat} {maxL mc ms : Nat} {y : MethodName} {bytes : ByteArray} {ws ws2 : List Cond} {rm : Room} {rt : Option FieldType} {post : xW → Prop} (hd : decode cc pc = .ok (.invokestatic index, 3)) (hG : GoodIn Ts (va_wsS own index y ws)) (hM : x_Cv l D dA cl tyL B y ws rm [] w post mc ms) (hC : x_call R cells slots rm mc ms ws ws2 y bytes maxL rt 0) (hcat : (st.map fun v => v.category).sum ≤ 8) (k : ∀ w1, post w1 → X p l e R s m args below meth c Q D dA cl B nL (cells + mc) (slots + ms) (pc + 3) lv st w1) : X p l e R s m args below meth c Q D dA cl B nL cells slots pc lv (st) w :=
  x_callS (av := []) (rest := st) F hd hG hM hC rfl rfl hcat (fun r w1 ⟨hv, hp⟩ => by subst hv; exact k w1 hp)
theorem x_cI0 (F : x_Fix p s m args meth c cc nL own Ts ret nm D dA cl tyL B) {index b : Nat} {maxL mc ms : Nat} {y : MethodName} {bytes : ByteArray} {ws ws2 : List Cond} {rm : Room} {post : xW → Prop} (hd : decode cc pc = .ok (.invokespecial index, 3)) (hG : GoodIn Ts ws) (hini : Cond.initialized y.cls ∈ Ts) (hlk : Cond.methodLink own index y ∈ Ts) (hin : Cond.instanceMethod y ∈ Ts) (hy : y.name = "<init>") (hM : x_Cv l D dA cl tyL B y ws rm [.ref b] w post mc ms) (hC : x_call R cells slots rm mc ms ws ws2 y bytes maxL none 0) (hcat : (st.map fun v => v.category).sum ≤ 8) (k : ∀ w1, post w1 → X p l e R s m args below meth c Q D dA cl B nL (cells + mc) (slots + ms) (pc + 3) lv st w1) : X p l e R s m args below meth c Q D dA cl B nL cells slots pc lv (.ref b :: st) w :=
  x_callI (av := []) (rest := st) F hd hG hini hlk hin hy hM hC rfl rfl hcat (fun r w1 ⟨hv, hp⟩ => by subst hv; exact k w1 hp)
theorem x_cVi1 (F : x_Fix p s m args meth c cc nL own Ts ret nm D dA cl tyL B) {C : String} {T : u_T} {N ci index b : Nat} {maxL mc ms : Nat} {y : MethodName} {bytes : ByteArray} {ws ws2 : List Cond} {rm : Room} {rt : Option FieldType} {fs : List Value} {v1 : Value} {post : Value → xW → Prop} (hd : decode cc pc = .ok (.invokevirtual index, 3)) (hG : GoodIn Ts (wsV own index C y ws)) (hy : y.cls = C) (hM : x_Ci l D dA cl tyL B y ws rm [.ref b, v1] w post mc ms) (hC : x_call R cells slots rm mc ms ws ws2 y bytes maxL rt 1) (hc : cl[ci]? = some (C, T, N)) (hb : w b = some (.inr (ci, fs))) (hcat : (st.map fun v => v.category).sum ≤ 8) (k : ∀ v w1, post v w1 → X p l e R s m args below meth c Q D dA cl B nL (cells + mc) (slots + ms) (pc + 3) lv (v :: st) w1) : X p l e R s m args below meth c Q D dA cl B nL cells slots pc lv (v1 :: .ref b :: st) w :=
  x_callV (av := [v1]) (rest := st) F hd hG hy hM hC hc hb rfl rfl hcat (fun r w1 ⟨v, hv, hp⟩ => by subst hv; exact k v w1 hp)
theorem x_cSi1 (F : x_Fix p s m args meth c cc nL own Ts ret nm D dA cl tyL B) {index : Nat} {maxL mc ms : Nat} {y : MethodName} {bytes : ByteArray} {ws ws2 : List Cond} {rm : Room} {rt : Option FieldType} {v1 : Value} {post : Value → xW → Prop} (hd : decode cc pc = .ok (.invokestatic index, 3)) (hG : GoodIn Ts (va_wsS own index y ws)) (hM : x_Ci l D dA cl tyL B y ws rm [v1] w post mc ms) (hC : x_call R cells slots rm mc ms ws ws2 y bytes maxL rt 1) (hcat : (st.map fun v => v.category).sum ≤ 8) (k : ∀ v w1, post v w1 → X p l e R s m args below meth c Q D dA cl B nL (cells + mc) (slots + ms) (pc + 3) lv (v :: st) w1) : X p l e R s m args below meth c Q D dA cl B nL cells slots pc lv (v1 :: st) w :=
  x_callS (av := [v1]) (rest := st) F hd hG hM hC rfl rfl hcat (fun r w1 ⟨v, hv, hp⟩ => by subst hv; exact k v w1 hp)
theorem x_cVv1 (F : x_Fix p s m args meth c cc nL own Ts ret nm D dA cl tyL B) {C : String} {T : u_T} {N ci index b : Nat} {maxL mc ms : Nat} {y : MethodName} {bytes : ByteArray} {ws ws2 : List Cond} {rm : Room} {rt : Option FieldType} {fs : List Value} {v1 : Value} {post : xW → Prop} (hd : decode cc pc = .ok (.invokevirtual index, 3)) (hG : GoodIn Ts (wsV own index C y ws)) (hy : y.cls = C) (hM : x_Cv l D dA cl tyL B y ws rm [.ref b, v1] w post mc ms) (hC : x_call R cells slots rm mc ms ws ws2 y bytes maxL rt 1) (hc : cl[ci]? = some (C, T, N)) (hb : w b = some (.inr (ci, fs))) (hcat : (st.map fun v => v.category).sum ≤ 8) (k : ∀ w1, post w1 → X p l e R s m args below meth c Q D dA cl B nL (cells + mc) (slots + ms) (pc + 3) lv st w1) : X p l e R s m args below meth c Q D dA cl B nL cells slots pc lv (v1 :: .ref b :: st) w :=
  x_callV (av := [v1]) (rest := st) F hd hG hy hM hC hc hb rfl rfl hcat (fun r w1 ⟨hv, hp⟩ => by subst hv; exact k w1 hp)
theorem x_cSv1 (F : x_Fix p s m args meth c cc nL own Ts ret nm D dA cl tyL B) {index : Nat} {maxL mc ms : Nat} {y : MethodName} {bytes : ByteArray} {ws ws2 : List Cond} {rm : Room} {rt : Option FieldType} {v1 : Value} {post : xW → Prop} (hd : decode cc pc = .ok (.invokestatic index, 3)) (hG : GoodIn Ts (va_wsS own index y ws)) (hM : x_Cv l D dA cl tyL B y ws rm [v1] w post mc ms) (hC : x_call R cells slots rm mc ms ws ws2 y bytes maxL rt 1) (hcat : (st.map fun v => v.category).sum ≤ 8) (k : ∀ w1, post w1 → X p l e R s m args below meth c Q D dA cl B nL (cells + mc) (slots + ms) (pc + 3) lv st w1) : X p l e R s m args below meth c Q D dA cl B nL cells slots pc lv (v1 :: st) w :=
  x_callS (av := [v1]) (rest := st) F hd hG hM hC rfl rfl hcat (fun r w1 ⟨hv, hp⟩ => by subst hv; exact k w1 hp)
theorem x_cI1 (F : x_Fix p s m args meth c cc nL own Ts ret nm D dA cl tyL B) {index b : Nat} {maxL mc ms : Nat} {y : MethodName} {bytes : ByteArray} {ws ws2 : List Cond} {rm : Room} {v1 : Value} {post : xW → Prop} (hd : decode cc pc = .ok (.invokespecial index, 3)) (hG : GoodIn Ts ws) (hini : Cond.initialized y.cls ∈ Ts) (hlk : Cond.methodLink own index y ∈ Ts) (hin : Cond.instanceMethod y ∈ Ts) (hy : y.name = "<init>") (hM : x_Cv l D dA cl tyL B y ws rm [.ref b, v1] w post mc ms) (hC : x_call R cells slots rm mc ms ws ws2 y bytes maxL none 1) (hcat : (st.map fun v => v.category).sum ≤ 8) (k : ∀ w1, post w1 → X p l e R s m args below meth c Q D dA cl B nL (cells + mc) (slots + ms) (pc + 3) lv st w1) : X p l e R s m args below meth c Q D dA cl B nL cells slots pc lv (v1 :: .ref b :: st) w :=
  x_callI (av := [v1]) (rest := st) F hd hG hini hlk hin hy hM hC rfl rfl hcat (fun r w1 ⟨hv, hp⟩ => by subst hv; exact k w1 hp)
theorem x_cVi2 (F : x_Fix p s m args meth c cc nL own Ts ret nm D dA cl tyL B) {C : String} {T : u_T} {N ci index b : Nat} {maxL mc ms : Nat} {y : MethodName} {bytes : ByteArray} {ws ws2 : List Cond} {rm : Room} {rt : Option FieldType} {fs : List Value} {v1 v2 : Value} {post : Value → xW → Prop} (hd : decode cc pc = .ok (.invokevirtual index, 3)) (hG : GoodIn Ts (wsV own index C y ws)) (hy : y.cls = C) (hM : x_Ci l D dA cl tyL B y ws rm [.ref b, v1, v2] w post mc ms) (hC : x_call R cells slots rm mc ms ws ws2 y bytes maxL rt 2) (hc : cl[ci]? = some (C, T, N)) (hb : w b = some (.inr (ci, fs))) (hcat : (st.map fun v => v.category).sum ≤ 8) (k : ∀ v w1, post v w1 → X p l e R s m args below meth c Q D dA cl B nL (cells + mc) (slots + ms) (pc + 3) lv (v :: st) w1) : X p l e R s m args below meth c Q D dA cl B nL cells slots pc lv (v2 :: v1 :: .ref b :: st) w :=
  x_callV (av := [v1, v2]) (rest := st) F hd hG hy hM hC hc hb rfl rfl hcat (fun r w1 ⟨v, hv, hp⟩ => by subst hv; exact k v w1 hp)
theorem x_cSi2 (F : x_Fix p s m args meth c cc nL own Ts ret nm D dA cl tyL B) {index : Nat} {maxL mc ms : Nat} {y : MethodName} {bytes : ByteArray} {ws ws2 : List Cond} {rm : Room} {rt : Option FieldType} {v1 v2 : Value} {post : Value → xW → Prop} (hd : decode cc pc = .ok (.invokestatic index, 3)) (hG : GoodIn Ts (va_wsS own index y ws)) (hM : x_Ci l D dA cl tyL B y ws rm [v1, v2] w post mc ms) (hC : x_call R cells slots rm mc ms ws ws2 y bytes maxL rt 2) (hcat : (st.map fun v => v.category).sum ≤ 8) (k : ∀ v w1, post v w1 → X p l e R s m args below meth c Q D dA cl B nL (cells + mc) (slots + ms) (pc + 3) lv (v :: st) w1) : X p l e R s m args below meth c Q D dA cl B nL cells slots pc lv (v2 :: v1 :: st) w :=
  x_callS (av := [v1, v2]) (rest := st) F hd hG hM hC rfl rfl hcat (fun r w1 ⟨v, hv, hp⟩ => by subst hv; exact k v w1 hp)
theorem x_cVv2 (F : x_Fix p s m args meth c cc nL own Ts ret nm D dA cl tyL B) {C : String} {T : u_T} {N ci index b : Nat} {maxL mc ms : Nat} {y : MethodName} {bytes : ByteArray} {ws ws2 : List Cond} {rm : Room} {rt : Option FieldType} {fs : List Value} {v1 v2 : Value} {post : xW → Prop} (hd : decode cc pc = .ok (.invokevirtual index, 3)) (hG : GoodIn Ts (wsV own index C y ws)) (hy : y.cls = C) (hM : x_Cv l D dA cl tyL B y ws rm [.ref b, v1, v2] w post mc ms) (hC : x_call R cells slots rm mc ms ws ws2 y bytes maxL rt 2) (hc : cl[ci]? = some (C, T, N)) (hb : w b = some (.inr (ci, fs))) (hcat : (st.map fun v => v.category).sum ≤ 8) (k : ∀ w1, post w1 → X p l e R s m args below meth c Q D dA cl B nL (cells + mc) (slots + ms) (pc + 3) lv st w1) : X p l e R s m args below meth c Q D dA cl B nL cells slots pc lv (v2 :: v1 :: .ref b :: st) w :=
  x_callV (av := [v1, v2]) (rest := st) F hd hG hy hM hC hc hb rfl rfl hcat (fun r w1 ⟨hv, hp⟩ => by subst hv; exact k w1 hp)
theorem x_cSv2 (F : x_Fix p s m args meth c cc nL own Ts ret nm D dA cl tyL B) {index : Nat} {maxL mc ms : Nat} {y : MethodName} {bytes : ByteArray} {ws ws2 : List Cond} {rm : Room} {rt : Option FieldType} {v1 v2 : Value} {post : xW → Prop} (hd : decode cc pc = .ok (.invokestatic index, 3)) (hG : GoodIn Ts (va_wsS own index y ws)) (hM : x_Cv l D dA cl tyL B y ws rm [v1, v2] w post mc ms) (hC : x_call R cells slots rm mc ms ws ws2 y bytes maxL rt 2) (hcat : (st.map fun v => v.category).sum ≤ 8) (k : ∀ w1, post w1 → X p l e R s m args below meth c Q D dA cl B nL (cells + mc) (slots + ms) (pc + 3) lv st w1) : X p l e R s m args below meth c Q D dA cl B nL cells slots pc lv (v2 :: v1 :: st) w :=
  x_callS (av := [v1, v2]) (rest := st) F hd hG hM hC rfl rfl hcat (fun r w1 ⟨hv, hp⟩ => by subst hv; exact k w1 hp)
theorem x_cI2 (F : x_Fix p s m args meth c cc nL own Ts ret nm D dA cl tyL B) {index b : Nat} {maxL mc ms : Nat} {y : MethodName} {bytes : ByteArray} {ws ws2 : List Cond} {rm : Room} {v1 v2 : Value} {post : xW → Prop} (hd : decode cc pc = .ok (.invokespecial index, 3)) (hG : GoodIn Ts ws) (hini : Cond.initialized y.cls ∈ Ts) (hlk : Cond.methodLink own index y ∈ Ts) (hin : Cond.instanceMethod y ∈ Ts) (hy : y.name = "<init>") (hM : x_Cv l D dA cl tyL B y ws rm [.ref b, v1, v2] w post mc ms) (hC : x_call R cells slots rm mc ms ws ws2 y bytes maxL none 2) (hcat : (st.map fun v => v.category).sum ≤ 8) (k : ∀ w1, post w1 → X p l e R s m args below meth c Q D dA cl B nL (cells + mc) (slots + ms) (pc + 3) lv st w1) : X p l e R s m args below meth c Q D dA cl B nL cells slots pc lv (v2 :: v1 :: .ref b :: st) w :=
  x_callI (av := [v1, v2]) (rest := st) F hd hG hini hlk hin hy hM hC rfl rfl hcat (fun r w1 ⟨hv, hp⟩ => by subst hv; exact k w1 hp)
theorem x_cVi3 (F : x_Fix p s m args meth c cc nL own Ts ret nm D dA cl tyL B) {C : String} {T : u_T} {N ci index b : Nat} {maxL mc ms : Nat} {y : MethodName} {bytes : ByteArray} {ws ws2 : List Cond} {rm : Room} {rt : Option FieldType} {fs : List Value} {v1 v2 v3 : Value} {post : Value → xW → Prop} (hd : decode cc pc = .ok (.invokevirtual index, 3)) (hG : GoodIn Ts (wsV own index C y ws)) (hy : y.cls = C) (hM : x_Ci l D dA cl tyL B y ws rm [.ref b, v1, v2, v3] w post mc ms) (hC : x_call R cells slots rm mc ms ws ws2 y bytes maxL rt 3) (hc : cl[ci]? = some (C, T, N)) (hb : w b = some (.inr (ci, fs))) (hcat : (st.map fun v => v.category).sum ≤ 8) (k : ∀ v w1, post v w1 → X p l e R s m args below meth c Q D dA cl B nL (cells + mc) (slots + ms) (pc + 3) lv (v :: st) w1) : X p l e R s m args below meth c Q D dA cl B nL cells slots pc lv (v3 :: v2 :: v1 :: .ref b :: st) w :=
  x_callV (av := [v1, v2, v3]) (rest := st) F hd hG hy hM hC hc hb rfl rfl hcat (fun r w1 ⟨v, hv, hp⟩ => by subst hv; exact k v w1 hp)
theorem x_cSi3 (F : x_Fix p s m args meth c cc nL own Ts ret nm D dA cl tyL B) {index : Nat} {maxL mc ms : Nat} {y : MethodName} {bytes : ByteArray} {ws ws2 : List Cond} {rm : Room} {rt : Option FieldType} {v1 v2 v3 : Value} {post : Value → xW → Prop} (hd : decode cc pc = .ok (.invokestatic index, 3)) (hG : GoodIn Ts (va_wsS own index y ws)) (hM : x_Ci l D dA cl tyL B y ws rm [v1, v2, v3] w post mc ms) (hC : x_call R cells slots rm mc ms ws ws2 y bytes maxL rt 3) (hcat : (st.map fun v => v.category).sum ≤ 8) (k : ∀ v w1, post v w1 → X p l e R s m args below meth c Q D dA cl B nL (cells + mc) (slots + ms) (pc + 3) lv (v :: st) w1) : X p l e R s m args below meth c Q D dA cl B nL cells slots pc lv (v3 :: v2 :: v1 :: st) w :=
  x_callS (av := [v1, v2, v3]) (rest := st) F hd hG hM hC rfl rfl hcat (fun r w1 ⟨v, hv, hp⟩ => by subst hv; exact k v w1 hp)
theorem x_cVv3 (F : x_Fix p s m args meth c cc nL own Ts ret nm D dA cl tyL B) {C : String} {T : u_T} {N ci index b : Nat} {maxL mc ms : Nat} {y : MethodName} {bytes : ByteArray} {ws ws2 : List Cond} {rm : Room} {rt : Option FieldType} {fs : List Value} {v1 v2 v3 : Value} {post : xW → Prop} (hd : decode cc pc = .ok (.invokevirtual index, 3)) (hG : GoodIn Ts (wsV own index C y ws)) (hy : y.cls = C) (hM : x_Cv l D dA cl tyL B y ws rm [.ref b, v1, v2, v3] w post mc ms) (hC : x_call R cells slots rm mc ms ws ws2 y bytes maxL rt 3) (hc : cl[ci]? = some (C, T, N)) (hb : w b = some (.inr (ci, fs))) (hcat : (st.map fun v => v.category).sum ≤ 8) (k : ∀ w1, post w1 → X p l e R s m args below meth c Q D dA cl B nL (cells + mc) (slots + ms) (pc + 3) lv st w1) : X p l e R s m args below meth c Q D dA cl B nL cells slots pc lv (v3 :: v2 :: v1 :: .ref b :: st) w :=
  x_callV (av := [v1, v2, v3]) (rest := st) F hd hG hy hM hC hc hb rfl rfl hcat (fun r w1 ⟨hv, hp⟩ => by subst hv; exact k w1 hp)
theorem x_cSv3 (F : x_Fix p s m args meth c cc nL own Ts ret nm D dA cl tyL B) {index : Nat} {maxL mc ms : Nat} {y : MethodName} {bytes : ByteArray} {ws ws2 : List Cond} {rm : Room} {rt : Option FieldType} {v1 v2 v3 : Value} {post : xW → Prop} (hd : decode cc pc = .ok (.invokestatic index, 3)) (hG : GoodIn Ts (va_wsS own index y ws)) (hM : x_Cv l D dA cl tyL B y ws rm [v1, v2, v3] w post mc ms) (hC : x_call R cells slots rm mc ms ws ws2 y bytes maxL rt 3) (hcat : (st.map fun v => v.category).sum ≤ 8) (k : ∀ w1, post w1 → X p l e R s m args below meth c Q D dA cl B nL (cells + mc) (slots + ms) (pc + 3) lv st w1) : X p l e R s m args below meth c Q D dA cl B nL cells slots pc lv (v3 :: v2 :: v1 :: st) w :=
  x_callS (av := [v1, v2, v3]) (rest := st) F hd hG hM hC rfl rfl hcat (fun r w1 ⟨hv, hp⟩ => by subst hv; exact k w1 hp)
theorem x_cI3 (F : x_Fix p s m args meth c cc nL own Ts ret nm D dA cl tyL B) {index b : Nat} {maxL mc ms : Nat} {y : MethodName} {bytes : ByteArray} {ws ws2 : List Cond} {rm : Room} {v1 v2 v3 : Value} {post : xW → Prop} (hd : decode cc pc = .ok (.invokespecial index, 3)) (hG : GoodIn Ts ws) (hini : Cond.initialized y.cls ∈ Ts) (hlk : Cond.methodLink own index y ∈ Ts) (hin : Cond.instanceMethod y ∈ Ts) (hy : y.name = "<init>") (hM : x_Cv l D dA cl tyL B y ws rm [.ref b, v1, v2, v3] w post mc ms) (hC : x_call R cells slots rm mc ms ws ws2 y bytes maxL none 3) (hcat : (st.map fun v => v.category).sum ≤ 8) (k : ∀ w1, post w1 → X p l e R s m args below meth c Q D dA cl B nL (cells + mc) (slots + ms) (pc + 3) lv st w1) : X p l e R s m args below meth c Q D dA cl B nL cells slots pc lv (v3 :: v2 :: v1 :: .ref b :: st) w :=
  x_callI (av := [v1, v2, v3]) (rest := st) F hd hG hini hlk hin hy hM hC rfl rfl hcat (fun r w1 ⟨hv, hp⟩ => by subst hv; exact k w1 hp)
theorem x_cVi4 (F : x_Fix p s m args meth c cc nL own Ts ret nm D dA cl tyL B) {C : String} {T : u_T} {N ci index b : Nat} {maxL mc ms : Nat} {y : MethodName} {bytes : ByteArray} {ws ws2 : List Cond} {rm : Room} {rt : Option FieldType} {fs : List Value} {v1 v2 v3 v4 : Value} {post : Value → xW → Prop} (hd : decode cc pc = .ok (.invokevirtual index, 3)) (hG : GoodIn Ts (wsV own index C y ws)) (hy : y.cls = C) (hM : x_Ci l D dA cl tyL B y ws rm [.ref b, v1, v2, v3, v4] w post mc ms) (hC : x_call R cells slots rm mc ms ws ws2 y bytes maxL rt 4) (hc : cl[ci]? = some (C, T, N)) (hb : w b = some (.inr (ci, fs))) (hcat : (st.map fun v => v.category).sum ≤ 8) (k : ∀ v w1, post v w1 → X p l e R s m args below meth c Q D dA cl B nL (cells + mc) (slots + ms) (pc + 3) lv (v :: st) w1) : X p l e R s m args below meth c Q D dA cl B nL cells slots pc lv (v4 :: v3 :: v2 :: v1 :: .ref b :: st) w :=
  x_callV (av := [v1, v2, v3, v4]) (rest := st) F hd hG hy hM hC hc hb rfl rfl hcat (fun r w1 ⟨v, hv, hp⟩ => by subst hv; exact k v w1 hp)
theorem x_cSi4 (F : x_Fix p s m args meth c cc nL own Ts ret nm D dA cl tyL B) {index : Nat} {maxL mc ms : Nat} {y : MethodName} {bytes : ByteArray} {ws ws2 : List Cond} {rm : Room} {rt : Option FieldType} {v1 v2 v3 v4 : Value} {post : Value → xW → Prop} (hd : decode cc pc = .ok (.invokestatic index, 3)) (hG : GoodIn Ts (va_wsS own index y ws)) (hM : x_Ci l D dA cl tyL B y ws rm [v1, v2, v3, v4] w post mc ms) (hC : x_call R cells slots rm mc ms ws ws2 y bytes maxL rt 4) (hcat : (st.map fun v => v.category).sum ≤ 8) (k : ∀ v w1, post v w1 → X p l e R s m args below meth c Q D dA cl B nL (cells + mc) (slots + ms) (pc + 3) lv (v :: st) w1) : X p l e R s m args below meth c Q D dA cl B nL cells slots pc lv (v4 :: v3 :: v2 :: v1 :: st) w :=
  x_callS (av := [v1, v2, v3, v4]) (rest := st) F hd hG hM hC rfl rfl hcat (fun r w1 ⟨v, hv, hp⟩ => by subst hv; exact k v w1 hp)
theorem x_cVv4 (F : x_Fix p s m args meth c cc nL own Ts ret nm D dA cl tyL B) {C : String} {T : u_T} {N ci index b : Nat} {maxL mc ms : Nat} {y : MethodName} {bytes : ByteArray} {ws ws2 : List Cond} {rm : Room} {rt : Option FieldType} {fs : List Value} {v1 v2 v3 v4 : Value} {post : xW → Prop} (hd : decode cc pc = .ok (.invokevirtual index, 3)) (hG : GoodIn Ts (wsV own index C y ws)) (hy : y.cls = C) (hM : x_Cv l D dA cl tyL B y ws rm [.ref b, v1, v2, v3, v4] w post mc ms) (hC : x_call R cells slots rm mc ms ws ws2 y bytes maxL rt 4) (hc : cl[ci]? = some (C, T, N)) (hb : w b = some (.inr (ci, fs))) (hcat : (st.map fun v => v.category).sum ≤ 8) (k : ∀ w1, post w1 → X p l e R s m args below meth c Q D dA cl B nL (cells + mc) (slots + ms) (pc + 3) lv st w1) : X p l e R s m args below meth c Q D dA cl B nL cells slots pc lv (v4 :: v3 :: v2 :: v1 :: .ref b :: st) w :=
  x_callV (av := [v1, v2, v3, v4]) (rest := st) F hd hG hy hM hC hc hb rfl rfl hcat (fun r w1 ⟨hv, hp⟩ => by subst hv; exact k w1 hp)
theorem x_cSv4 (F : x_Fix p s m args meth c cc nL own Ts ret nm D dA cl tyL B) {index : Nat} {maxL mc ms : Nat} {y : MethodName} {bytes : ByteArray} {ws ws2 : List Cond} {rm : Room} {rt : Option FieldType} {v1 v2 v3 v4 : Value} {post : xW → Prop} (hd : decode cc pc = .ok (.invokestatic index, 3)) (hG : GoodIn Ts (va_wsS own index y ws)) (hM : x_Cv l D dA cl tyL B y ws rm [v1, v2, v3, v4] w post mc ms) (hC : x_call R cells slots rm mc ms ws ws2 y bytes maxL rt 4) (hcat : (st.map fun v => v.category).sum ≤ 8) (k : ∀ w1, post w1 → X p l e R s m args below meth c Q D dA cl B nL (cells + mc) (slots + ms) (pc + 3) lv st w1) : X p l e R s m args below meth c Q D dA cl B nL cells slots pc lv (v4 :: v3 :: v2 :: v1 :: st) w :=
  x_callS (av := [v1, v2, v3, v4]) (rest := st) F hd hG hM hC rfl rfl hcat (fun r w1 ⟨hv, hp⟩ => by subst hv; exact k w1 hp)
theorem x_cI4 (F : x_Fix p s m args meth c cc nL own Ts ret nm D dA cl tyL B) {index b : Nat} {maxL mc ms : Nat} {y : MethodName} {bytes : ByteArray} {ws ws2 : List Cond} {rm : Room} {v1 v2 v3 v4 : Value} {post : xW → Prop} (hd : decode cc pc = .ok (.invokespecial index, 3)) (hG : GoodIn Ts ws) (hini : Cond.initialized y.cls ∈ Ts) (hlk : Cond.methodLink own index y ∈ Ts) (hin : Cond.instanceMethod y ∈ Ts) (hy : y.name = "<init>") (hM : x_Cv l D dA cl tyL B y ws rm [.ref b, v1, v2, v3, v4] w post mc ms) (hC : x_call R cells slots rm mc ms ws ws2 y bytes maxL none 4) (hcat : (st.map fun v => v.category).sum ≤ 8) (k : ∀ w1, post w1 → X p l e R s m args below meth c Q D dA cl B nL (cells + mc) (slots + ms) (pc + 3) lv st w1) : X p l e R s m args below meth c Q D dA cl B nL cells slots pc lv (v4 :: v3 :: v2 :: v1 :: .ref b :: st) w :=
  x_callI (av := [v1, v2, v3, v4]) (rest := st) F hd hG hini hlk hin hy hM hC rfl rfl hcat (fun r w1 ⟨hv, hp⟩ => by subst hv; exact k w1 hp)
theorem x_cVi5 (F : x_Fix p s m args meth c cc nL own Ts ret nm D dA cl tyL B) {C : String} {T : u_T} {N ci index b : Nat} {maxL mc ms : Nat} {y : MethodName} {bytes : ByteArray} {ws ws2 : List Cond} {rm : Room} {rt : Option FieldType} {fs : List Value} {v1 v2 v3 v4 v5 : Value} {post : Value → xW → Prop} (hd : decode cc pc = .ok (.invokevirtual index, 3)) (hG : GoodIn Ts (wsV own index C y ws)) (hy : y.cls = C) (hM : x_Ci l D dA cl tyL B y ws rm [.ref b, v1, v2, v3, v4, v5] w post mc ms) (hC : x_call R cells slots rm mc ms ws ws2 y bytes maxL rt 5) (hc : cl[ci]? = some (C, T, N)) (hb : w b = some (.inr (ci, fs))) (hcat : (st.map fun v => v.category).sum ≤ 8) (k : ∀ v w1, post v w1 → X p l e R s m args below meth c Q D dA cl B nL (cells + mc) (slots + ms) (pc + 3) lv (v :: st) w1) : X p l e R s m args below meth c Q D dA cl B nL cells slots pc lv (v5 :: v4 :: v3 :: v2 :: v1 :: .ref b :: st) w :=
  x_callV (av := [v1, v2, v3, v4, v5]) (rest := st) F hd hG hy hM hC hc hb rfl rfl hcat (fun r w1 ⟨v, hv, hp⟩ => by subst hv; exact k v w1 hp)
theorem x_cSi5 (F : x_Fix p s m args meth c cc nL own Ts ret nm D dA cl tyL B) {index : Nat} {maxL mc ms : Nat} {y : MethodName} {bytes : ByteArray} {ws ws2 : List Cond} {rm : Room} {rt : Option FieldType} {v1 v2 v3 v4 v5 : Value} {post : Value → xW → Prop} (hd : decode cc pc = .ok (.invokestatic index, 3)) (hG : GoodIn Ts (va_wsS own index y ws)) (hM : x_Ci l D dA cl tyL B y ws rm [v1, v2, v3, v4, v5] w post mc ms) (hC : x_call R cells slots rm mc ms ws ws2 y bytes maxL rt 5) (hcat : (st.map fun v => v.category).sum ≤ 8) (k : ∀ v w1, post v w1 → X p l e R s m args below meth c Q D dA cl B nL (cells + mc) (slots + ms) (pc + 3) lv (v :: st) w1) : X p l e R s m args below meth c Q D dA cl B nL cells slots pc lv (v5 :: v4 :: v3 :: v2 :: v1 :: st) w :=
  x_callS (av := [v1, v2, v3, v4, v5]) (rest := st) F hd hG hM hC rfl rfl hcat (fun r w1 ⟨v, hv, hp⟩ => by subst hv; exact k v w1 hp)
theorem x_cVv5 (F : x_Fix p s m args meth c cc nL own Ts ret nm D dA cl tyL B) {C : String} {T : u_T} {N ci index b : Nat} {maxL mc ms : Nat} {y : MethodName} {bytes : ByteArray} {ws ws2 : List Cond} {rm : Room} {rt : Option FieldType} {fs : List Value} {v1 v2 v3 v4 v5 : Value} {post : xW → Prop} (hd : decode cc pc = .ok (.invokevirtual index, 3)) (hG : GoodIn Ts (wsV own index C y ws)) (hy : y.cls = C) (hM : x_Cv l D dA cl tyL B y ws rm [.ref b, v1, v2, v3, v4, v5] w post mc ms) (hC : x_call R cells slots rm mc ms ws ws2 y bytes maxL rt 5) (hc : cl[ci]? = some (C, T, N)) (hb : w b = some (.inr (ci, fs))) (hcat : (st.map fun v => v.category).sum ≤ 8) (k : ∀ w1, post w1 → X p l e R s m args below meth c Q D dA cl B nL (cells + mc) (slots + ms) (pc + 3) lv st w1) : X p l e R s m args below meth c Q D dA cl B nL cells slots pc lv (v5 :: v4 :: v3 :: v2 :: v1 :: .ref b :: st) w :=
  x_callV (av := [v1, v2, v3, v4, v5]) (rest := st) F hd hG hy hM hC hc hb rfl rfl hcat (fun r w1 ⟨hv, hp⟩ => by subst hv; exact k w1 hp)
theorem x_cSv5 (F : x_Fix p s m args meth c cc nL own Ts ret nm D dA cl tyL B) {index : Nat} {maxL mc ms : Nat} {y : MethodName} {bytes : ByteArray} {ws ws2 : List Cond} {rm : Room} {rt : Option FieldType} {v1 v2 v3 v4 v5 : Value} {post : xW → Prop} (hd : decode cc pc = .ok (.invokestatic index, 3)) (hG : GoodIn Ts (va_wsS own index y ws)) (hM : x_Cv l D dA cl tyL B y ws rm [v1, v2, v3, v4, v5] w post mc ms) (hC : x_call R cells slots rm mc ms ws ws2 y bytes maxL rt 5) (hcat : (st.map fun v => v.category).sum ≤ 8) (k : ∀ w1, post w1 → X p l e R s m args below meth c Q D dA cl B nL (cells + mc) (slots + ms) (pc + 3) lv st w1) : X p l e R s m args below meth c Q D dA cl B nL cells slots pc lv (v5 :: v4 :: v3 :: v2 :: v1 :: st) w :=
  x_callS (av := [v1, v2, v3, v4, v5]) (rest := st) F hd hG hM hC rfl rfl hcat (fun r w1 ⟨hv, hp⟩ => by subst hv; exact k w1 hp)
theorem x_cI5 (F : x_Fix p s m args meth c cc nL own Ts ret nm D dA cl tyL B) {index b : Nat} {maxL mc ms : Nat} {y : MethodName} {bytes : ByteArray} {ws ws2 : List Cond} {rm : Room} {v1 v2 v3 v4 v5 : Value} {post : xW → Prop} (hd : decode cc pc = .ok (.invokespecial index, 3)) (hG : GoodIn Ts ws) (hini : Cond.initialized y.cls ∈ Ts) (hlk : Cond.methodLink own index y ∈ Ts) (hin : Cond.instanceMethod y ∈ Ts) (hy : y.name = "<init>") (hM : x_Cv l D dA cl tyL B y ws rm [.ref b, v1, v2, v3, v4, v5] w post mc ms) (hC : x_call R cells slots rm mc ms ws ws2 y bytes maxL none 5) (hcat : (st.map fun v => v.category).sum ≤ 8) (k : ∀ w1, post w1 → X p l e R s m args below meth c Q D dA cl B nL (cells + mc) (slots + ms) (pc + 3) lv st w1) : X p l e R s m args below meth c Q D dA cl B nL cells slots pc lv (v5 :: v4 :: v3 :: v2 :: v1 :: .ref b :: st) w :=
  x_callI (av := [v1, v2, v3, v4, v5]) (rest := st) F hd hG hini hlk hin hy hM hC rfl rfl hcat (fun r w1 ⟨hv, hp⟩ => by subst hv; exact k w1 hp)
theorem x_cVi6 (F : x_Fix p s m args meth c cc nL own Ts ret nm D dA cl tyL B) {C : String} {T : u_T} {N ci index b : Nat} {maxL mc ms : Nat} {y : MethodName} {bytes : ByteArray} {ws ws2 : List Cond} {rm : Room} {rt : Option FieldType} {fs : List Value} {v1 v2 v3 v4 v5 v6 : Value} {post : Value → xW → Prop} (hd : decode cc pc = .ok (.invokevirtual index, 3)) (hG : GoodIn Ts (wsV own index C y ws)) (hy : y.cls = C) (hM : x_Ci l D dA cl tyL B y ws rm [.ref b, v1, v2, v3, v4, v5, v6] w post mc ms) (hC : x_call R cells slots rm mc ms ws ws2 y bytes maxL rt 6) (hc : cl[ci]? = some (C, T, N)) (hb : w b = some (.inr (ci, fs))) (hcat : (st.map fun v => v.category).sum ≤ 8) (k : ∀ v w1, post v w1 → X p l e R s m args below meth c Q D dA cl B nL (cells + mc) (slots + ms) (pc + 3) lv (v :: st) w1) : X p l e R s m args below meth c Q D dA cl B nL cells slots pc lv (v6 :: v5 :: v4 :: v3 :: v2 :: v1 :: .ref b :: st) w :=
  x_callV (av := [v1, v2, v3, v4, v5, v6]) (rest := st) F hd hG hy hM hC hc hb rfl rfl hcat (fun r w1 ⟨v, hv, hp⟩ => by subst hv; exact k v w1 hp)
theorem x_cSi6 (F : x_Fix p s m args meth c cc nL own Ts ret nm D dA cl tyL B) {index : Nat} {maxL mc ms : Nat} {y : MethodName} {bytes : ByteArray} {ws ws2 : List Cond} {rm : Room} {rt : Option FieldType} {v1 v2 v3 v4 v5 v6 : Value} {post : Value → xW → Prop} (hd : decode cc pc = .ok (.invokestatic index, 3)) (hG : GoodIn Ts (va_wsS own index y ws)) (hM : x_Ci l D dA cl tyL B y ws rm [v1, v2, v3, v4, v5, v6] w post mc ms) (hC : x_call R cells slots rm mc ms ws ws2 y bytes maxL rt 6) (hcat : (st.map fun v => v.category).sum ≤ 8) (k : ∀ v w1, post v w1 → X p l e R s m args below meth c Q D dA cl B nL (cells + mc) (slots + ms) (pc + 3) lv (v :: st) w1) : X p l e R s m args below meth c Q D dA cl B nL cells slots pc lv (v6 :: v5 :: v4 :: v3 :: v2 :: v1 :: st) w :=
  x_callS (av := [v1, v2, v3, v4, v5, v6]) (rest := st) F hd hG hM hC rfl rfl hcat (fun r w1 ⟨v, hv, hp⟩ => by subst hv; exact k v w1 hp)
theorem x_cVv6 (F : x_Fix p s m args meth c cc nL own Ts ret nm D dA cl tyL B) {C : String} {T : u_T} {N ci index b : Nat} {maxL mc ms : Nat} {y : MethodName} {bytes : ByteArray} {ws ws2 : List Cond} {rm : Room} {rt : Option FieldType} {fs : List Value} {v1 v2 v3 v4 v5 v6 : Value} {post : xW → Prop} (hd : decode cc pc = .ok (.invokevirtual index, 3)) (hG : GoodIn Ts (wsV own index C y ws)) (hy : y.cls = C) (hM : x_Cv l D dA cl tyL B y ws rm [.ref b, v1, v2, v3, v4, v5, v6] w post mc ms) (hC : x_call R cells slots rm mc ms ws ws2 y bytes maxL rt 6) (hc : cl[ci]? = some (C, T, N)) (hb : w b = some (.inr (ci, fs))) (hcat : (st.map fun v => v.category).sum ≤ 8) (k : ∀ w1, post w1 → X p l e R s m args below meth c Q D dA cl B nL (cells + mc) (slots + ms) (pc + 3) lv st w1) : X p l e R s m args below meth c Q D dA cl B nL cells slots pc lv (v6 :: v5 :: v4 :: v3 :: v2 :: v1 :: .ref b :: st) w :=
  x_callV (av := [v1, v2, v3, v4, v5, v6]) (rest := st) F hd hG hy hM hC hc hb rfl rfl hcat (fun r w1 ⟨hv, hp⟩ => by subst hv; exact k w1 hp)
theorem x_cSv6 (F : x_Fix p s m args meth c cc nL own Ts ret nm D dA cl tyL B) {index : Nat} {maxL mc ms : Nat} {y : MethodName} {bytes : ByteArray} {ws ws2 : List Cond} {rm : Room} {rt : Option FieldType} {v1 v2 v3 v4 v5 v6 : Value} {post : xW → Prop} (hd : decode cc pc = .ok (.invokestatic index, 3)) (hG : GoodIn Ts (va_wsS own index y ws)) (hM : x_Cv l D dA cl tyL B y ws rm [v1, v2, v3, v4, v5, v6] w post mc ms) (hC : x_call R cells slots rm mc ms ws ws2 y bytes maxL rt 6) (hcat : (st.map fun v => v.category).sum ≤ 8) (k : ∀ w1, post w1 → X p l e R s m args below meth c Q D dA cl B nL (cells + mc) (slots + ms) (pc + 3) lv st w1) : X p l e R s m args below meth c Q D dA cl B nL cells slots pc lv (v6 :: v5 :: v4 :: v3 :: v2 :: v1 :: st) w :=
  x_callS (av := [v1, v2, v3, v4, v5, v6]) (rest := st) F hd hG hM hC rfl rfl hcat (fun r w1 ⟨hv, hp⟩ => by subst hv; exact k w1 hp)
theorem x_cI6 (F : x_Fix p s m args meth c cc nL own Ts ret nm D dA cl tyL B) {index b : Nat} {maxL mc ms : Nat} {y : MethodName} {bytes : ByteArray} {ws ws2 : List Cond} {rm : Room} {v1 v2 v3 v4 v5 v6 : Value} {post : xW → Prop} (hd : decode cc pc = .ok (.invokespecial index, 3)) (hG : GoodIn Ts ws) (hini : Cond.initialized y.cls ∈ Ts) (hlk : Cond.methodLink own index y ∈ Ts) (hin : Cond.instanceMethod y ∈ Ts) (hy : y.name = "<init>") (hM : x_Cv l D dA cl tyL B y ws rm [.ref b, v1, v2, v3, v4, v5, v6] w post mc ms) (hC : x_call R cells slots rm mc ms ws ws2 y bytes maxL none 6) (hcat : (st.map fun v => v.category).sum ≤ 8) (k : ∀ w1, post w1 → X p l e R s m args below meth c Q D dA cl B nL (cells + mc) (slots + ms) (pc + 3) lv st w1) : X p l e R s m args below meth c Q D dA cl B nL cells slots pc lv (v6 :: v5 :: v4 :: v3 :: v2 :: v1 :: .ref b :: st) w :=
  x_callI (av := [v1, v2, v3, v4, v5, v6]) (rest := st) F hd hG hini hlk hin hy hM hC rfl rfl hcat (fun r w1 ⟨hv, hp⟩ => by subst hv; exact k w1 hp)
theorem x_cIN0 (F : x_Fix p s m args meth c cc nL own Ts ret nm D dA cl tyL B) {host : String} {index b : Nat} {maxL mc ms : Nat} {y : MethodName} {bytes : ByteArray} {ws ws2 : List Cond} {rm : Room} {post : xW → Prop} (hd : decode cc pc = .ok (.invokespecial index, 3)) (hG : GoodIn Ts ws) (hini : Cond.initialized y.cls ∈ Ts) (hlk : va_Nw (.methodLinkNest own index y host) s) (hin : Cond.instanceMethod y ∈ Ts) (hy : y.name = "<init>") (hM : x_Cv l D dA cl tyL B y ws rm [.ref b] w post mc ms) (hC : x_call R cells slots rm mc ms ws ws2 y bytes maxL none 0) (hcat : (st.map fun v => v.category).sum ≤ 8) (k : ∀ w1, post w1 → X p l e R s m args below meth c Q D dA cl B nL (cells + mc) (slots + ms) (pc + 3) lv st w1) : X p l e R s m args below meth c Q D dA cl B nL cells slots pc lv (.ref b :: st) w :=
  x_callIN (av := []) (rest := st) F hd hG hini hlk hin hy hM hC rfl rfl hcat (fun r w1 ⟨hv, hp⟩ => by subst hv; exact k w1 hp)
theorem x_ialdN (F : x_Fix p s m args meth c cc nL own Ts ret nm D dA cl tyL B) {t a n j : Nat} {f : Nat → Int32} (hd : decode cc pc = .ok (.iaload, 1)) (ht : tyL[t]? = some .int) (hw : w a = some (.inl (t, n, .inl f))) (hj : j < n) (hn : n < 2 ^ 31) (kk : X p l e R s m args below meth c Q D dA cl B nL cells slots (pc + 1) lv (.int (f j) :: st) w) : X p l e R s m args below meth c Q D dA cl B nL cells slots pc lv (.int (nI j) :: .ref a :: st) w :=
  x_iald F hd ht hw (vp_in_nI hj hn) (by rw [nI_clamp (Nat.lt_trans hj hn)]; exact kk)
theorem x_iastN (F : x_Fix p s m args meth c cc nL own Ts ret nm D dA cl tyL B) {t a n j : Nat} {f : Nat → Int32} {v : Int32} (hd : decode cc pc = .ok (.iastore, 1)) (ht : tyL[t]? = some .int) (hw : w a = some (.inl (t, n, .inl f))) (hj : j < n) (hn : n < 2 ^ 31) (kk : X p l e R s m args below meth c Q D dA cl B nL cells slots (pc + 1) lv st (x_set w a (.inl (t, n, .inl (upd f j v))))) : X p l e R s m args below meth c Q D dA cl B nL cells slots pc lv (.int v :: .int (nI j) :: .ref a :: st) w :=
  x_iast F hd ht hw (vp_in_nI hj hn) (by rw [nI_clamp (Nat.lt_trans hj hn)]; exact kk)
theorem x_aaldN (F : x_Fix p s m args meth c cc nL own Ts ret nm D dA cl tyL B) {t a n j : Nat} {C : String} {f : Nat → Option Nat} (hd : decode cc pc = .ok (.aaload, 1)) (ht : tyL[t]? = some (.object C)) (hw : w a = some (.inl (t, n, .inr (.inr (.inr (.inr f)))))) (hj : j < n) (hn : n < 2 ^ 31) (kk : X p l e R s m args below meth c Q D dA cl B nL cells slots (pc + 1) lv (va_rf (f j) :: st) w) : X p l e R s m args below meth c Q D dA cl B nL cells slots pc lv (.int (nI j) :: .ref a :: st) w :=
  x_aald F hd ht hw (vp_in_nI hj hn) (by rw [nI_clamp (Nat.lt_trans hj hn)]; exact kk)
theorem x_aastN (F : x_Fix p s m args meth c cc nL own Ts ret nm D dA cl tyL B) {t a n j v ci N : Nat} {C : String} {T : u_T} {vs : List Value} {f : Nat → Option Nat} (hd : decode cc pc = .ok (.aastore, 1)) (ht : tyL[t]? = some (.object C)) (hc : cl[ci]? = some (C, T, N)) (hw : w a = some (.inl (t, n, .inr (.inr (.inr (.inr f)))))) (hv : w v = some (.inr (ci, vs))) (hj : j < n) (hn : n < 2 ^ 31) (kk : X p l e R s m args below meth c Q D dA cl B nL cells slots (pc + 1) lv st (x_set w a (.inl (t, n, .inr (.inr (.inr (.inr (va_up f j (some v))))))))) : X p l e R s m args below meth c Q D dA cl B nL cells slots pc lv (.ref v :: .int (nI j) :: .ref a :: st) w :=
  x_aast F hd ht hc hw hv (vp_in_nI hj hn) (by rw [nI_clamp (Nat.lt_trans hj hn)]; exact kk)
theorem x_in {i m2 : Int32} {n : Nat} (hm : m2.toInt = n) (h1 : ¬ i < 0) (h2 : ¬ m2 ≤ i) : vp_in i n := by
  rw [vp_in_iff]
  rw [Int32.lt_iff_toInt_lt] at h1
  rw [Int32.le_iff_toInt_le, hm] at h2
  have h0 : (0 : Int32).toInt = 0 := by decide
  rw [h0] at h1
  omega
theorem x_iincN (F : x_Fix p s m args meth c cc nL own Ts ret nm D dA cl tyL B) {i j : Nat} {n : Int} (hd : decode cc pc = .ok (.iinc i n, 3)) (hv : Int32.ofInt n = 1) (hl : x_ld lv i = some (.int (nI j))) (hn : i < nL) (kk : X p l e R s m args below meth c Q D dA cl B nL cells slots (pc + 3) (x_st1 ((i, .int (nI j)) :: lv) i (.int (nI (j + 1)))) st w) : X p l e R s m args below meth c Q D dA cl B nL cells slots pc lv st w :=
  x_iinc F hd hv hl hn (by rw [nI_1]; exact kk)
theorem x_lconst (F : x_Fix p s m args meth c cc nL own Ts ret nm D dA cl tyL B) {n : Fin 2} {v : Int64} (hd : decode cc pc = .ok (.lconst n, 1)) (hv : Int64.ofNat (n : Nat) = v) (k : X p l e R s m args below meth c Q D dA cl B nL cells slots (pc + 1) lv (.long v :: st) w) : X p l e R s m args below meth c Q D dA cl B nL cells slots pc lv st w :=
  fun H locs ls h1 h2 h3 => lv_lconst F.1 F.2.1 hd hv (k H locs ls h1 h2 h3)
theorem x_dconst1 (F : x_Fix p s m args meth c cc nL own Ts ret nm D dA cl tyL B)  (hd : decode cc pc = .ok (.dconst 1, 1)) (k : X p l e R s m args below meth c Q D dA cl B nL cells slots (pc + 1) lv (.double FP.dconst1 :: st) w) : X p l e R s m args below meth c Q D dA cl B nL cells slots pc lv st w :=
  fun H locs ls h1 h2 h3 => lv_dconst1 F.1 F.2.1 hd (k H locs ls h1 h2 h3)
theorem x_dload (F : x_Fix p s m args meth c cc nL own Ts ret nm D dA cl tyL B) {i : Nat} {x : UInt64} (hd : decode cc pc = .ok (.dload i, 2)) (hl : x_ld lv i = some (.double x)) (k : X p l e R s m args below meth c Q D dA cl B nL cells slots (pc + 2) lv (.double x :: st) w) : X p l e R s m args below meth c Q D dA cl B nL cells slots pc lv st w :=
  fun H locs ls h1 h2 h3 => lv_dload F.1 F.2.1 hd (x_ld_has h3 hl) (k H locs ls h1 h2 h3)
theorem x_dcmp (F : x_Fix p s m args meth c cc nL own Ts ret nm D dA cl tyL B) {x y : UInt64} {op : CmpOp} (hd : decode cc pc = .ok (.dcmp op, 1)) (k : X p l e R s m args below meth c Q D dA cl B nL cells slots (pc + 1) lv (.int (Op.cmpValue (FP.dcmp x y) op) :: st) w) : X p l e R s m args below meth c Q D dA cl B nL cells slots pc lv (.double y :: .double x :: st) w :=
  fun H locs ls h1 h2 h3 => lv_dcmp F.1 F.2.1 hd (k H locs ls h1 h2 h3)
theorem x_dstore (F : x_Fix p s m args meth c cc nL own Ts ret nm D dA cl tyL B) {i : Nat} {x : UInt64} (hd : decode cc pc = .ok (.dstore i, 2)) (hn : i + 1 < nL) (kk : X p l e R s m args below meth c Q D dA cl B nL cells slots (pc + 2) (x_st2 lv i (.double x)) st w) : X p l e R s m args below meth c Q D dA cl B nL cells slots pc lv (.double x :: st) w :=
  fun H locs ls h1 h2 h3 => lv_dstore F.1 F.2.1 hd h3 hn rfl (fun ls' h4 => kk H locs ls' h1 h2 h4)
theorem x_dret (F : x_Fix p s m args meth c cc nL own Ts ret nm D dA cl tyL B) {post : Option Value → xW → Prop} {mc ms : Nat} {v : UInt64} (hr : ret = some .double) (hd : decode cc pc = .ok (.dreturn, 1)) (h1 : cells ≤ mc) (h2 : slots ≤ ms) (hq : post (some (.double v)) w) : X p l e R s m args below meth c (MQ below (x_Q D dA cl tyL B post) args s mc ms (fun q => B ≤ q)) D dA cl B nL cells slots pc lv [.double v] w :=
  fun H locs ls g1 g2 g3 => W.widen h1 h2 (W.dret F.1 F.2.1 (F.2.2.2.2.2.2.2.1.trans hr) (fun t ht hW => ⟨⟨_, w, rfl, hq, by rw [ht]; exact g1, va_K.moved hW.alike F.2.2.2.2.2.1⟩, g2.F ht⟩) g2.2.2 hd F.2.2.2.2.2.2.2.2.1)
/-- a reference to an array is given back -/
theorem x_aretA (F : x_Fix p s m args meth c cc nL own Ts ret nm D dA cl tyL B) {post : Option Value → xW → Prop} {mc ms : Nat} {a : Nat} {ty : FieldType} (hr : ret = some (.array ty)) (hd : decode cc pc = .ok (.areturn, 1)) (h1 : cells ≤ mc) (h2 : slots ≤ ms) (hq : post (some (.ref a)) w) : X p l e R s m args below meth c (MQ below (x_Q D dA cl tyL B post) args s mc ms (fun q => B ≤ q)) D dA cl B nL cells slots pc lv [.ref a] w :=
  fun H locs ls g1 g2 g3 => W.widen h1 h2 (W.aret F.1 F.2.1 (F.2.2.2.2.2.2.2.1.trans hr) (Or.inr ⟨ty, rfl⟩) (Or.inr ⟨a, rfl⟩) (fun t ht hW => ⟨⟨_, w, rfl, hq, by rw [ht]; exact g1, va_K.moved hW.alike F.2.2.2.2.2.1⟩, g2.F ht⟩) g2.2.2 hd F.2.2.2.2.2.2.2.2.1)
theorem x_lald (F : x_Fix p s m args meth c cc nL own Ts ret nm D dA cl tyL B) {t a n : Nat} {f : Nat → Int64} {i : Int32} (hd : decode cc pc = .ok (.laload, 1)) (ht : tyL[t]? = some .long) (hw : w a = some (.inl (t, n, .inr (.inl f)))) (hin : vp_in i n) (kk : X p l e R s m args below meth c Q D dA cl B nL cells slots (pc + 1) lv (.long (f i.toNatClampNeg) :: st) w) : X p l e R s m args below meth c Q D dA cl B nL cells slots pc lv (.int i :: .ref a :: st) w := by
  intro H locs ls h1 h2 h3
  obtain ⟨j, hj⟩ := h1.at hw
  exact va_lald F.1 F.2.1 F.2.2.2.2.2.1 h1.toL j t hj (x_tys_at ht) hin hd (kk H locs ls h1 h2 h3)
theorem x_last (F : x_Fix p s m args meth c cc nL own Ts ret nm D dA cl tyL B) {t a n : Nat} {f : Nat → Int64} {i : Int32} {v : Int64} (hd : decode cc pc = .ok (.lastore, 1)) (ht : tyL[t]? = some .long) (hw : w a = some (.inl (t, n, .inr (.inl f)))) (hin : vp_in i n) (kk : X p l e R s m args below meth c Q D dA cl B nL cells slots (pc + 1) lv st (x_set w a (.inl (t, n, .inr (.inl (vp_updL f i.toNatClampNeg v)))))) : X p l e R s m args below meth c Q D dA cl B nL cells slots pc lv (.long v :: .int i :: .ref a :: st) w := by
  intro H locs ls h1 h2 h3
  obtain ⟨j, hj⟩ := h1.at hw
  exact va_last F.1 F.2.1 F.2.2.2.2.2.1 h1.toL h1.toD h2 j t hj (x_tys_at ht) hin hd (fun H1 locs1 g1 _ g3 => kk H1 locs1 ls (h1.ofSet (x := .inl (t, n, .inr (.inl (vp_updL f i.toNatClampNeg v)))) hw hj g1) g3 h3)
/-- a new long array -/
theorem x_newaL (F : x_Fix p s m args meth c cc nL own Ts ret nm D dA cl tyL B) {t N : Nat} {n : Int32} (hd : decode cc pc = .ok (.newarray .long, 2)) (ht : tyL[t]? = some .long) (harr : Cond.arrayClass .long ∈ Ts) (hn : ¬ n < 0) (hN : n.toNatClampNeg = N) (hbytes : N * componentBytes .long ≤ 536870912) (hcells : cells + 1 ≤ R.cells) (hslots : slots + N ≤ R.slots) (kk : ∀ a, w a = none → X p l e R s m args below meth c Q D dA cl B nL (cells + 1) (slots + N) (pc + 2) lv (.ref a :: st) (x_set w a (.inl (t, N, .inr (.inl (fun _ => 0)))))) : X p l e R s m args below meth c Q D dA cl B nL cells slots pc lv (.int n :: st) w := by
  intro H locs ls h1 h2 h3
  refine va_newa (atype := .long) (ty := .long) (a0 := (N, .inr (.inl (fun _ => 0)))) F.1 F.2.1 (F.2.2.2.2.1 _ harr) rfl F.2.2.2.2.2.1 h1.toL h1.toD h2 (fun q hq => Nat.le_trans F.2.2.2.2.2.2.1 hq) (fun cA => by rw [vp_cell_l]; rfl) hn hN hbytes hcells hslots hd (fun q cA H1 gK g1 g2 g3 => ?_)
  have hq : B ≤ q := g2.2 (x_L dA w H.size).length (q, .inl (cA, N, .inr (.inl (fun _ => 0)))) (by simp)
  have e1 : s.vm.findClass ("[" ++ FieldType.long.toString) = some cA := (gK.2 (x_tys dA tyL).length (cA, .long) (by simp)).2
  have e2 : s.vm.findClass ("[" ++ FieldType.long.toString) = some (dA t) := (F.2.2.2.2.2.1.2 t (dA t, .long) (x_tys_at ht)).2
  have hcA : cA = dA t := Option.some.inj (e1.symm.trans e2)
  subst hcA
  obtain ⟨f1, f2⟩ := h1.ofPush (x := .inl (t, N, .inr (.inl (fun _ => 0)))) hq g1 g2
  exact kk q f1 H1 locs ls f2 g3 h3
/-- the lists' first array, by its static field -/
theorem x_getsE (F : x_Fix p s m args meth c cc nL own Ts ret nm D dA cl tyL B) {index : Nat} (hd : decode cc pc = .ok (.getstatic index, 3)) (hlink : Cond.fieldLink own index "java/util/ArrayList" "DEFAULTCAPACITY_EMPTY_ELEMENTDATA" "[Ljava/lang/Object;" ∈ Ts) (kk : X p l e R s m args below meth c Q D dA cl B nL cells slots (pc + 3) lv (.ref (dA 99) :: st) w) : X p l e R s m args below meth c Q D dA cl B nL cells slots pc lv st w :=
  fun H locs ls h1 h2 h3 => va_gets F.1 F.2.1 F.hs.1 h2 F.2.2.2.1 (F.2.2.2.2.1 _ hlink) (fun _ h => h) hd (kk H locs ls h1 h2 h3)
theorem x_alenE (F : x_Fix p s m args meth c cc nL own Ts ret nm D dA cl tyL B) (hd : decode cc pc = .ok (.arraylength, 1)) (kk : X p l e R s m args below meth c Q D dA cl B nL cells slots (pc + 1) lv (.int 0 :: st) w) : X p l e R s m args below meth c Q D dA cl B nL cells slots pc lv (.ref (dA 99) :: st) w :=
  fun H locs ls h1 h2 h3 => va_tlen F.1 F.2.1 F.hs.2.1 h2 rfl hd (kk H locs ls h1 h2 h3)
/-- getfield, by the name of a class that inherits it -/
theorem x_getS (F : x_Fix p s m args meth c cc nL own Ts ret nm D dA cl tyL B) {ref C : String} {T : u_T} {N ci index a k : Nat} {fs : List Value} {v : Value} (hd : decode cc pc = .ok (.getfield index, 3)) (hc : cl[ci]? = some (C, T, N)) (hin : ∀ q ∈ u_ws C T N, q ∈ Ts) (hk : k < N) (hlink : Cond.fieldLink own index ref (T k).2.1 (T k).2.2.1 ∈ Ts) (hsf : Cond.sameField ref (T k).1 (T k).2.1 (T k).2.2.1 ∈ Ts) (hw : w a = some (.inr (ci, fs))) (hv : fs[k]? = some v) (kk : X p l e R s m args below meth c Q D dA cl B nL cells slots (pc + 3) lv (v :: st) w) : X p l e R s m args below meth c Q D dA cl B nL cells slots pc lv (.ref a :: st) w := by
  intro H locs ls h1 h2 h3
  obtain ⟨i, hi⟩ := h1.at hw
  exact va_get F.1 F.2.1 F.2.2.2.2.1 hin F.2.2.2.1 F.2.2.2.2.2.1 h1.toL i hi hc k hk (F.2.2.2.2.1 _ hlink) (u_same (F.2.2.2.2.1 _ hsf)) hv hd (kk H locs ls h1 h2 h3)
theorem x_putS (F : x_Fix p s m args meth c cc nL own Ts ret nm D dA cl tyL B) {ref C : String} {T : u_T} {N ci index a k : Nat} {fs : List Value} {v : Value} (hd : decode cc pc = .ok (.putfield index, 3)) (hc : cl[ci]? = some (C, T, N)) (hin : ∀ q ∈ u_ws C T N, q ∈ Ts) (ty0 : Nat → FieldType) (hty : ∀ k, k < N → parseFieldDescriptor (T k).2.2.1 = some (ty0 k)) (hnm : ∀ a, a < N → ∀ b, b < N → a ≠ b → (T a).2.1 ≠ (T b).2.1) (hk : k < N) (hlink : Cond.fieldLink own index ref (T k).2.1 (T k).2.2.1 ∈ Ts) (hsf : Cond.sameField ref (T k).1 (T k).2.1 (T k).2.2.1 ∈ Ts) (hfin : (T k).2.2.2 = false) (hw : w a = some (.inr (ci, fs))) (hl : k < fs.length) (hn : narrow (ty0 k) v = v) (hfit : fits (ty0 k) v = true) (kk : X p l e R s m args below meth c Q D dA cl B nL cells slots (pc + 3) lv st (x_set w a (.inr (ci, fs.set k v)))) : X p l e R s m args below meth c Q D dA cl B nL cells slots pc lv (v :: .ref a :: st) w := by
  intro H locs ls h1 h2 h3
  obtain ⟨i, hi⟩ := h1.at hw
  exact va_put F.1 F.2.1 F.2.2.2.2.1 hin ty0 hty hnm F.2.2.2.1 F.2.2.2.2.2.1 h1.toL h1.toD h2 i hi hc k hk (F.2.2.2.2.1 _ hlink) (u_same (F.2.2.2.2.1 _ hsf)) hfin (hty k hk) hn hfit hl hd (fun H1 locs1 g1 _ g3 => kk H1 locs1 ls (h1.ofSet hw hi g1) g3 h3)
/-- getfield of a nest mate's own -/
theorem x_getN (F : x_Fix p s m args meth c cc nL own Ts ret nm D dA cl tyL B) {ref C host : String} {T : u_T} {N ci index a k : Nat} {fs : List Value} {v : Value} (hd : decode cc pc = .ok (.getfield index, 3)) (hc : cl[ci]? = some (C, T, N)) (hin : ∀ q ∈ u_ws C T N, q ∈ Ts) (hk : k < N) (hlink : va_Nw (Cond.fieldLinkNest own index ref (T k).2.1 (T k).2.2.1 host) s) (href : (T k).1 = ref) (hw : w a = some (.inr (ci, fs))) (hv : fs[k]? = some v) (kk : X p l e R s m args below meth c Q D dA cl B nL cells slots (pc + 3) lv (v :: st) w) : X p l e R s m args below meth c Q D dA cl B nL cells slots pc lv (.ref a :: st) w := by
  subst href
  intro H locs ls h1 h2 h3
  obtain ⟨i, hi⟩ := h1.at hw
  exact va_getN F.1 F.2.1 F.2.2.2.2.1 hin F.2.2.2.1 F.2.2.2.2.2.1 h1.toL i hi hc k hk (va_Nw.use rfl hlink) (fun _ h => h) hv hd (kk H locs ls h1 h2 h3)
/-- an object of a known class into an array of a wider one -/
theorem x_aastO (F : x_Fix p s m args meth c cc nL own Ts ret nm D dA cl tyL B) {t a n v ci : Nat} {E : String} {r : vw_C} {vs : List Value} {f : Nat → Option Nat} {i : Int32} (hd : decode cc pc = .ok (.aastore, 1)) (ht : tyL[t]? = some (.object E)) (hc : cl[ci]? = some r) (hca : va_Nw (.castable r.1 E) s) (hw : w a = some (.inl (t, n, .inr (.inr (.inr (.inr f)))))) (hv : w v = some (.inr (ci, vs))) (hin : vp_in i n) (kk : X p l e R s m args below meth c Q D dA cl B nL cells slots (pc + 1) lv st (x_set w a (.inl (t, n, .inr (.inr (.inr (.inr (va_up f i.toNatClampNeg (some v))))))))) : X p l e R s m args below meth c Q D dA cl B nL cells slots pc lv (.ref v :: .int i :: .ref a :: st) w := by
  intro H locs ls h1 h2 h3
  obtain ⟨j, hj⟩ := h1.at hw
  obtain ⟨j2, hj2⟩ := h1.at hv
  exact va_astqO (r := r) F.1 F.2.1 F.2.2.2.2.2.1 h1.toL h1.toD h2 j t j2 ci hj (x_tys_at ht) hca hj2 hc hin hd (fun H1 locs1 g1 _ g3 => kk H1 locs1 ls (h1.ofSet (x := .inl (t, n, .inr (.inr (.inr (.inr (va_up f i.toNatClampNeg (some v))))))) hw hj g1) g3 h3)
theorem x_goes5 {R : Room} {post : Option Value → xW → Prop} {a : Array Value} {ls : Array Slot} {H : Heap} {locs : List Loc} {rest st0 : List Value} {mc ms : Nat} (hS : va_S (fun q => B ≤ q) s.heap H locs) (hl : lv_has ls nL lv) (hr : va_Run5 p l e R s m args below meth c H locs cells slots mc ms (F0 m pc ls st0) rest (x_Q D dA cl tyL B post a) (fun q => B ≤ q)) (k : ∀ r w1, post r w1 → X p l e R s m args below meth c Q D dA cl B nL (cells + mc) (slots + ms) (pc + 5) lv (r.toList ++ rest) w1) : W p l e R s m args below meth c H locs cells slots Q (F0 m pc ls st0) := by
  intro T hT X0
  obtain ⟨v, st₀, t, T', L, h0, X', hL, e1, e2, ⟨⟨r, w1, hv, hp, hw, -⟩, hz, hk⟩, sg⟩ := hr T hT X0
  cases hv
  rw [h0] at hz hk
  have hw' : x_P D dA cl B w1 T'.heap := by rw [e1]; exact hw
  obtain ⟨t2, a1, b1⟩ := k v w1 hp T'.heap (locs ++ L) ls hw' ⟨Nat.le_trans hS.1 (by rw [e1]; exact hz), fun q h1 h2 => by rw [e1, hk q (Nat.lt_of_lt_of_le h1 hS.1) h2]; exact hS.2.1 q h1 h2, fun q hq => by
      rcases List.mem_append.mp hq with h | h
      · exact hS.2.2 q h
      · exact hL q h⟩ hl T' rfl X'
  exact ⟨t2, sg t2 a1, b1⟩
/-- a call through an interface -/
theorem x_callF (F : x_Fix p s m args meth c cc nL own Ts ret nm D dA cl tyL B) {C : String} {T : u_T} {N ci index count maxL mc ms b : Nat} {x y : MethodName} {bytes : ByteArray} {rt : Option FieldType} {ws ws2 : List Cond} {rm : Room} {fs : List Value} {post : Value → xW → Prop} (hd : decode cc pc = .ok (.invokeinterface index count, 5)) (hG : GoodIn Ts (va_wsF own index C x y ws)) (hFw : va_Fw C x y s) (hM : x_Ci l D dA cl tyL B y ws rm [.ref b] w post mc ms) (hw0 : ws = Cond.code y bytes maxL rt :: ws2) (hrc : rm.cells = mc) (hrs : rm.slots = ms) (hx : x.cls ≠ "java/lang/invoke/MethodHandle" ∧ x.cls ≠ "java/lang/invoke/VarHandle" ∧ (parseMethodDescriptor x.desc).map (fun d => d.parameters.length) = some 0) (hR : rm.frames + 1 ≤ R.frames ∧ 8 + (maxL + 11) + rm.locals ≤ R.locals) (c6 : cells + mc ≤ R.cells ∧ slots + ms ≤ R.slots) (hc : cl[ci]? = some (C, T, N)) (hb : w b = some (.inr (ci, fs))) (hcat : (st.map fun v => v.category).sum ≤ 8) (k : ∀ v w1, post v w1 → X p l e R s m args below meth c Q D dA cl B nL (cells + mc) (slots + ms) (pc + 5) lv (v :: st) w1) : X p l e R s m args below meth c Q D dA cl B nL cells slots pc lv (.ref b :: st) w := by
  intro H locs ls h1 h2 h3
  obtain ⟨i, hi⟩ := h1.at hb
  exact x_goes5 h2 h3 (va_runF (As := []) (rest := st) ((F.2.2.2.2.2.1.1 ci _ hc).2) ⟨F.1, F.2.1, F.2.2.1, F.2.2.2.1, F.2.2.2.2.1⟩ hM (va_cwF 0 F.2.2.2.2.1 hG hw0 hrc hrs hFw hx hR) ⟨x_blind, va_recv F.2.2.2.2.2.1 h1.toL hc hi, fun U hU hW => ⟨rfl, by rw [hU]; exact Nat.le_trans F.2.2.2.2.2.2.1 h2.1, by rw [hU]; exact h1, va_K.moved hW.alike F.2.2.2.2.2.1, x_ev.call hW hU h2 F.2.2.2.2.2.2.2.2.2.2⟩⟩ rfl rfl h3.1 rfl (lv_room hcat) hd c6) (fun r w1 ⟨v, hv, hp⟩ => by subst hv; exact k v w1 hp)
/-- a static call of a method with handlers -/
theorem x_callSW (F : x_Fix p s m args meth c cc nL own Ts ret nm D dA cl tyL B) {index maxL n mc ms : Nat} {y : MethodName} {bytes : ByteArray} {rt : Option FieldType} {hh : List (Nat × Nat × Nat × Nat)} {ws ws2 : List Cond} {rm : Room} {av rest : List Value} {post : Value → xW → Prop} (hd : decode cc pc = .ok (.invokestatic index, 3)) (hG : GoodIn Ts (va_wsS own index y ws)) (hM : x_Ci l D dA cl tyL B y ws rm av w post mc ms) (hw0 : ws = Cond.codeWith y bytes maxL rt hh :: ws2) (hrc : rm.cells = mc) (hrs : rm.slots = ms) (hy : y.cls ≠ "java/lang/invoke/MethodHandle" ∧ y.cls ≠ "java/lang/invoke/VarHandle" ∧ (parseMethodDescriptor y.desc).map (fun d => d.parameters.length) = some n) (hR : rm.frames + 1 ≤ R.frames ∧ 8 + (maxL + 11) + rm.locals ≤ R.locals) (c6 : cells + mc ≤ R.cells ∧ slots + ms ≤ R.slots) (hn : av.length = n) (hst : st = av.reverse ++ rest) (hcat : (rest.map fun v => v.category).sum ≤ 8) (k : ∀ v w1, post v w1 → X p l e R s m args below meth c Q D dA cl B nL (cells + mc) (slots + ms) (pc + 3) lv (v :: rest) w1) : X p l e R s m args below meth c Q D dA cl B nL cells slots pc lv st w := by
  intro H locs ls h1 h2 h3
  exact x_goes h2 h3 (vx_runSW (As := av) (rest := rest) ⟨F.1, F.2.1, F.2.2.1, F.2.2.2.1, F.2.2.2.2.1⟩ hM (vx_cwSW n F.2.2.2.2.1 hG hw0 hrc hrs hy hR) ⟨x_blind, fun U hU hW => ⟨rfl, by rw [hU]; exact Nat.le_trans F.2.2.2.2.2.2.1 h2.1, by rw [hU]; exact h1, va_K.moved hW.alike F.2.2.2.2.2.1, x_ev.call hW hU h2 F.2.2.2.2.2.2.2.2.2.2⟩⟩ rfl hn h3.1 hst (lv_room hcat) hd c6) (fun r w1 ⟨v, hv, hp⟩ => by subst hv; exact k v w1 hp)
/-- a body with handlers: its entry -/
theorem x_Ct.ofH {y : MethodName} {ws ws2 : List Cond} {rm : Room} {av : List Value} {post : Option Value → xW → Prop} {mc ms : Nat} {cc : ByteArray} {maxL : Nat} {rt : Option FieldType} {hh : List (Nat × Nat × Nat × Nat)} (hy : plainName y.cls = true) (hw : ws = Cond.codeWith y cc maxL rt hh :: ws2) (hlen : (lg_sl av).length ≤ maxL)
    (body : ∀ (p : Program) (e : Env) (s : State) (m : MethodId) (below : List Frame) (meth : Method) (c : Code), x_Fix p s m av.toArray meth c cc maxL y.cls ws2 rt y.name D dA cl tyL B → c.exceptionTable.toList = tableOf hh → X p l e rm s m av.toArray below meth c (MQ below (x_Q D dA cl tyL B post) av.toArray s mc ms (fun q => B ≤ q)) D dA cl B maxL 0 0 0 (lv_args 0 av) [] w) : x_Ct l D dA cl tyL B y ws rm av w post mc ms := by
  refine va_MetW (cc := cc) (maxL := maxL) (ret := rt) (hh := hh) hy hw ?_
  intro p e s m args below meth c s₁ B0 hml hv
  obtain ⟨rfl, hB, hP, hK, hX⟩ := hv
  have hl := lv_entry av hlen
  have htb := vx_table (x := y) B0 (atoms_spec (ws := ws) B0.pre _ (by rw [hw]; exact List.mem_cons_self))
  rw [lg_entry_eq]
  exact body p e s m below meth c ⟨B0.exec, B0.bytes, hml, findClass_of_methodNamed B0.named, (fun q hq => atoms_spec (ws := ws) B0.pre q (by rw [hw]; exact List.mem_cons_of_mem _ hq)), hK, hB, B0.returns, B0.notSynchronized, (name_of_methodNamed B0.named B0.method).1, hX⟩ htb s.heap [] _ hP va_S.rf hl
/-- where a method has thrown: the class, and the world as it was -/
def x_XC (D : va_G) (dA : Nat → ClassId) (cl : List vw_C) (tyL : List FieldType) (B : Nat) (E : String) (w : xW) : String → State → State → Prop := vx_X (fun _ : Unit => True) (fun E1 _ t => E1 = E ∧ x_P D dA cl B w t.heap) (fun q => B ≤ q)
/-- a contract: called with av over the world w, the method throws a new E, and the world is as it was -/
def x_Th (l : Launch) (D : va_G) (dA : Nat → ClassId) (cl : List vw_C) (tyL : List FieldType) (B : Nat) (y : MethodName) (ws : List Cond) (rm : Room) (av : List Value) (w : xW) (E : String) (mc ms : Nat) : Prop :=
  vx_Met l y ws rm (va_Pc av (fun U => B ≤ U.heap.size ∧ x_P D dA cl B w U.heap ∧ va_K D cl (x_tys dA tyL) U ∧ x_ev dA B U)) (va_Qi (fun (_ : Int32) (_ : Unit) => False) (fun _ _ => True) (fun q => B ≤ q)) (x_XC D dA cl tyL B E w) mc ms (fun q => B ≤ q)
theorem x_Th.of {y : MethodName} {ws ws2 : List Cond} {rm : Room} {av : List Value} {E : String} {mc ms : Nat} {cc : ByteArray} {maxL : Nat} {rt : Option FieldType} (hy : plainName y.cls = true) (hw : ws = Cond.code y cc maxL rt :: ws2) (hlen : (lg_sl av).length ≤ maxL)
    (body : ∀ (p : Program) (e : Env) (s : State) (m : MethodId) (below : List Frame) (meth : Method) (c : Code), x_Fix p s m av.toArray meth c cc maxL y.cls ws2 rt y.name D dA cl tyL B → (∀ x ∈ c.exceptionTable.toList, False) → X p l e rm s m av.toArray below meth c (vx_MQ below (va_Qi (fun (_ : Int32) (_ : Unit) => False) (fun _ _ => True) (fun q => B ≤ q)) (x_XC D dA cl tyL B E w) av.toArray s mc ms (fun q => B ≤ q)) D dA cl B maxL 0 0 0 (lv_args 0 av) [] w) : x_Th l D dA cl tyL B y ws rm av w E mc ms := by
  refine vx_ofW (cc := cc) (maxL := maxL) (ret := rt) hy hw ?_
  intro p e s m args below meth c s₁ B0 hml htb hv
  obtain ⟨rfl, hB, hP, hK, hX⟩ := hv
  have hl := lv_entry av hlen
  rw [lg_entry_eq]
  exact body p e s m below meth c ⟨B0.exec, B0.bytes, hml, findClass_of_methodNamed B0.named, (fun q hq => atoms_spec (ws := ws) B0.pre q (by rw [hw]; exact List.mem_cons_of_mem _ hq)), hK, hB, B0.returns, B0.notSynchronized, (name_of_methodNamed B0.named B0.method).1, hX⟩ htb s.heap [] _ hP va_S.rf hl
/-- throw new E(text): five instructions, and the method's end -/
theorem x_throw {cc : ByteArray} {nm : String} {ret : Option FieldType} {nL : Nat} (F : x_Fix p s m args meth c cc nL own Ts ret nm D dA cl tyL B) (hl : l.stackTraces = false) {E text : String} {names : List String} {ik is ic mc ms : Nat} {w0 : xW} {Qc : Array Value → State → Outcome → State → Prop} (hE : Bundle.fit E = true) (hnames : ∀ n ∈ names, Bundle.fit n = true)
    (hk : Cond.classLink own ik E ∈ Ts) (hini : Cond.initialized E ∈ Ts) (hstr : x_St own is text s) (hat : ∀ w ∈ vx_atS own ic E names, w.before args s = true) (hgood : ∀ w ∈ Cond.classLink own ik E :: Cond.initialized E :: vx_atS own ic E names, vx_ot w = true) (htb : ∀ x ∈ c.exceptionTable.toList, False)
    (d0 : decode cc pc = .ok (.new ik, 3)) (d3 : decode cc (pc + 3) = .ok (.dup, 1)) (d4 : decode cc (pc + 4) = .ok (.ldc is, 2)) (d6 : decode cc (pc + 6) = .ok (.invokespecial ic, 3)) (d9 : decode cc (pc + 9) = .ok (.athrow, 1))
    (hRf : names.length + 3 < R.frames) (hRl : (st.map fun v => v.category).sum + (13 * (names.length + 1) + 43) ≤ R.locals) (hRc : cells + 1 ≤ R.cells) (hRs : slots + 6 ≤ R.slots) (hc : cells + 1 ≤ mc) (hs : slots + 6 ≤ ms) (hww : ∀ a x, w0 a = some x → w a = some x) : X p l e R s m args below meth c (vx_MQ below Qc (x_XC D dA cl tyL B E w0) args s mc ms (fun q => B ≤ q)) D dA cl B nL cells slots pc lv st w := by
  obtain ⟨-, sa, hsa⟩ := hstr
  intro H locs ls h1 h2 h3
  refine vx_throwS (names := names) (A := fun q => B ≤ q) F.1 F.2.1 hl F.2.2.2.1 hE hnames (F.2.2.2.2.1 _ hk) (F.2.2.2.2.1 _ hini) hsa hat hgood F.hs.2.2.1 F.hs.2.2.2 h2 (h3.1.trans F.2.2.1.symm) d0 d3 d4 d6 d9 (fun x hx => (htb x hx).elim) hRf hRl hRc hRs F.2.2.2.2.2.2.2.2.1 ?_ h2.2.2 hc hs
  intro t hvm hsz hq
  refine ⟨(), trivial, ⟨rfl, fun a x hx => ?_⟩, ?_⟩
  · exact ⟨(h1 a x (hww a x hx)).1, (h1 a x (hww a x hx)).2.kept (hq _ (va_at.lt (h1 a x (hww a x hx)).2))⟩
  · exact ⟨Nat.le_trans h2.1 hsz, fun q g1 g2 => by rw [hq q (Nat.lt_of_lt_of_le g1 h2.1)]; exact h2.2.1 q g1 g2⟩
/-- a call of a method that throws, caught by the first row of this method's table -/
theorem x_callTV (F : x_Fix p s m args meth c cc nL own Ts ret nm D dA cl tyL B) {C E nmE : String} {T : u_T} {N ci index maxL n mc ms b : Nat} {y : MethodName} {bytes : ByteArray} {rt : Option FieldType} {ws ws2 : List Cond} {rm : Room} {av rest fs : List Value} {hh : List (Nat × Nat × Nat × Nat)} {x : ExceptionTableEntry} {suf : List ExceptionTableEntry} (hd : decode cc pc = .ok (.invokevirtual index, 3)) (hG : GoodIn Ts (wsV own index C y ws)) (hy : y.cls = C) (hM : x_Th l D dA cl tyL B y ws rm (.ref b :: av) w E mc ms) (hC : x_call R cells slots rm mc ms ws ws2 y bytes maxL rt n) (hc : cl[ci]? = some (C, T, N)) (hb : w b = some (.inr (ci, fs))) (hn : av.length = n) (hst : st = av.reverse ++ .ref b :: rest) (hcat : (rest.map fun v => v.category).sum ≤ 8)
    (htb : c.exceptionTable.toList = tableOf hh) (hsp : tableOf hh = x :: suf) (hx : covers x pc = true) (h0 : x.catchType ≠ 0) (hlk : Cond.classLink own x.catchType nmE ∈ Ts) (hca : va_Nw (.castable E nmE) s)
    (k : ∀ q, X p l e R s m args below meth c Q D dA cl B nL (cells + mc) (slots + ms) x.handlerPc lv [.ref q] w) : X p l e R s m args below meth c Q D dA cl B nL cells slots pc lv st w := by
  intro H locs ls h1 h2 h3
  obtain ⟨c1, c2, c3, c4, c5, c6⟩ := hC
  obtain ⟨i, hi⟩ := h1.at hb
  refine vx_calli (A0 := fun q => B ≤ q) (H0 := s.heap) (vx_runV (As := av) (rest := rest) ⟨F.1, F.2.1, F.2.2.1, F.2.2.2.1, F.2.2.2.2.1⟩ hM (cwV n F.2.2.2.2.1 hG c1 c2 c3 ⟨hy, c4⟩ c5) ⟨x_blind, va_recv F.2.2.2.2.2.1 h1.toL hc hi, fun U hU hW => ⟨rfl, by rw [hU]; exact Nat.le_trans F.2.2.2.2.2.2.1 h2.1, by rw [hU]; exact h1, va_K.moved hW.alike F.2.2.2.2.2.1, x_ev.call hW hU h2 F.2.2.2.2.2.2.2.2.2.2⟩⟩ rfl hn h3.1 hst (lv_room hcat) hd c6) h2 (fun q _ h => h) (fun q h => h) (fun q _ h => h) ?_ (fun r u t H1 locs1 _ _ hF => hF.elim)
  intro E1 ce q9 u t H1 locs1 ht _ _ hBX _ _ hS1 hce hcv hcl
  obtain ⟨rfl, hP⟩ := hBX
  rw [ht] at hP
  exact vx_catch F.2.2.2.1 [] x suf (htb.trans hsp) (fun z hz => nomatch hz) hx h0 (F.2.2.2.2.1 _ hlk) (va_Nw.use rfl hca) hce hcv hcl (k q9 H1 locs1 ls hP hS1 h3)
end XL
end
section
/-! ===== a new registry of the class, and one of the reference ===== -/
abbrev tyL1 : List FieldType := [.int, .object "ServiceApiary$Face", .object "ServiceApiary$Client", .object "ServiceApiary$Adapter", .object "ServiceApiary$Version", .long, .object "java/lang/Object"]
abbrev rmd (d mc ms : Nat) : Room := { frames := d, cells := mc, slots := ms, locals := 64 * d }
abbrev Ci (l : Launch) (D : va_G) (dA : Nat → ClassId) (B : Nat) (y : MethodName) (ws : List Cond) (d : Nat) (av : List Value) (w : xW) (post : Value → xW → Prop) : Prop := x_Ci l D dA vwC1 tyL1 B y ws (rmd d 0 0) av w post 0 0
abbrev Cv (l : Launch) (D : va_G) (dA : Nat → ClassId) (B : Nat) (y : MethodName) (ws : List Cond) (d : Nat) (av : List Value) (w : xW) (post : xW → Prop) : Prop := x_Cv l D dA vwC1 tyL1 B y ws (rmd d 0 0) av w post 0 0
abbrev Th (l : Launch) (D : va_G) (dA : Nat → ClassId) (B : Nat) (y : MethodName) (ws : List Cond) (d : Nat) (av : List Value) (w : xW) (E : String) : Prop := x_Th l D dA vwC1 tyL1 B y ws (rmd d 1 6) av w E 1 6
def x_b (b : Bool) : Int32 := if b then 1 else 0
theorem x_b_t {b : Bool} (h : b = true) : (1 : Int32) = x_b b := by subst h; rfl
theorem x_b_f {b : Bool} (h : b = false) : (0 : Int32) = x_b b := by subst h; rfl
theorem x_b_ne {b : Bool} : ¬ x_b b = 0 ↔ b = true := by cases b <;> decide
theorem x_b_eq {b : Bool} : x_b b = 0 ↔ b = false := by cases b <;> decide
theorem x_b_nar {b : Bool} : narrow .boolean (.int (x_b b)) = .int (x_b b) := by cases b <;> rfl
theorem x_set_set (w : xW) (a : Nat) (x y : xE) : x_set (x_set w a x) a y = x_set w a y := by
  funext b
  by_cases h : b = a
  · subst h; rw [x_set_eq, x_set_eq]
  · rw [x_set_ne _ _ h, x_set_ne _ _ h, x_set_ne _ _ h]
theorem x_set_self {w : xW} {a : Nat} {x : xE} (h : w a = some x) : x_set w a x = w := by
  funext b
  by_cases hb : b = a
  · subst hb; rw [x_set_eq, h]
  · rw [x_set_ne _ _ hb]
/-- a world without its new cells -/
theorem x_less {w w2 : xW} {a : Nat} {y : xE} (h : w a = none) (hw : w2 = x_set w a y) : ∀ b x, w b = some x → w2 b = some x := fun b x hx => by
  rw [hw, x_set_ne _ _ (fun e => by rw [e, h] at hx; cases hx)]
  exact hx
abbrev aI (n : Nat) (f : Nat → Int32) : xE := .inl (0, n, .inl f)
abbrev aF (n : Nat) (f : Nat → Option Nat) : xE := .inl (1, n, .inr (.inr (.inr (.inr f))))
abbrev aC (n : Nat) (f : Nat → Option Nat) : xE := .inl (2, n, .inr (.inr (.inr (.inr f))))
abbrev aA (n : Nat) (f : Nat → Option Nat) : xE := .inl (3, n, .inr (.inr (.inr (.inr f))))
abbrev aV (n : Nat) (f : Nat → Option Nat) : xE := .inl (4, n, .inr (.inr (.inr (.inr f))))
abbrev aL (n : Nat) (f : Nat → Int64) : xE := .inl (5, n, .inr (.inl f))
abbrev aO (n : Nat) (f : Nat → Option Nat) : xE := .inl (6, n, .inr (.inr (.inr (.inr f))))
/-- the class's main object; f how many interfaces, n the hour -/
abbrev oX (F C A Ro Tr : Nat) (f n : Int32) : xE := .inr (5, [.ref F, .ref C, .ref A, .int f, .int 0, .int 0, .int n, .int 0, .int 0, .int 0, .ref Ro, .ref Tr])
/-- a new registry of the class in the hour n -/
def FR (w : xW) (M F C A Ro Tr : Nat) (n : Int32) : Prop := w M = some (oX F C A Ro Tr 0 n) ∧ w F = some (aF 4 (fun _ => none)) ∧ w C = some (aC 10 (fun _ => none))
/-- the reference: its front, its registry, an empty list -/
abbrev oM (t : Int32) (r : Nat) : xE := .inr (7, [.int t, .ref r])
abbrev oR (a b c d : Nat) (n : Int32) : xE := .inr (6, [.ref a, .ref b, .ref c, .ref d, .int n])
abbrev oE (e : Nat) : xE := .inr (1, [.int 0, .ref e, .int 0])
def MR (w : xW) (e m r a b c d : Nat) (t n : Int32) : Prop := w m = some (oM t r) ∧ w r = some (oR a b c d n) ∧ w a = some (oE e) ∧ w b = some (oE e) ∧ w c = some (oE e) ∧ w d = some (oE e)
/-- no cell of the reference's is the class's -/
theorem w_ne {w : xW} {a b : Nat} {x y : xE} (ha : w a = some x) (hb : w b = some y) (h : ¬ x = y) : ¬ a = b := fun e => by
  subst e
  exact h (Option.some.inj (ha.symm.trans hb))
theorem w_neN {w : xW} {a b : Nat} {x : xE} (ha : w a = some x) (hb : w b = none) : ¬ a = b := fun e => by
  subst e
  rw [ha] at hb
  cases hb
theorem ne75 {x y : List Value} : ¬ (Sum.inr (7, x) : xE) = .inr (5, y) := fun h => by cases h
theorem ne76 {x y : List Value} : ¬ (Sum.inr (7, x) : xE) = .inr (6, y) := fun h => by cases h
theorem ne71 {x y : List Value} : ¬ (Sum.inr (7, x) : xE) = .inr (1, y) := fun h => by cases h
theorem ne61 {x y : List Value} : ¬ (Sum.inr (6, x) : xE) = .inr (1, y) := fun h => by cases h
theorem MR.setT {w : xW} {e m r a b c d : Nat} {t n : Int32} (h : MR w e m r a b c d t n) (t2 : Int32) : MR (x_set w m (oM t2 r)) e m r a b c d t2 n := by
  obtain ⟨h0, h1, h2, h3, h4, h5⟩ := h
  exact ⟨x_set_eq _ _ _, by rw [x_set_ne _ _ (fun q => w_ne h0 h1 ne76 q.symm)]; exact h1, by rw [x_set_ne _ _ (fun q => w_ne h0 h2 ne71 q.symm)]; exact h2, by rw [x_set_ne _ _ (fun q => w_ne h0 h3 ne71 q.symm)]; exact h3, by rw [x_set_ne _ _ (fun q => w_ne h0 h4 ne71 q.symm)]; exact h4, by rw [x_set_ne _ _ (fun q => w_ne h0 h5 ne71 q.symm)]; exact h5⟩
theorem MR.setN {w : xW} {e m r a b c d : Nat} {t n : Int32} (h : MR w e m r a b c d t n) (n2 : Int32) : MR (x_set w r (oR a b c d n2)) e m r a b c d t n2 := by
  obtain ⟨h0, h1, h2, h3, h4, h5⟩ := h
  exact ⟨by rw [x_set_ne _ _ (w_ne h0 h1 ne76)]; exact h0, x_set_eq _ _ _, by rw [x_set_ne _ _ (fun q => w_ne h1 h2 ne61 q.symm)]; exact h2, by rw [x_set_ne _ _ (fun q => w_ne h1 h3 ne61 q.symm)]; exact h3, by rw [x_set_ne _ _ (fun q => w_ne h1 h4 ne61 q.symm)]; exact h4, by rw [x_set_ne _ _ (fun q => w_ne h1 h5 ne61 q.symm)]; exact h5⟩
theorem FR.setN {w : xW} {M F C A Ro Tr : Nat} {n : Int32} (h : FR w M F C A Ro Tr n) (n2 : Int32) : FR (x_set w M (oX F C A Ro Tr 0 n2)) M F C A Ro Tr n2 := by
  obtain ⟨h0, h1, h2⟩ := h
  exact ⟨x_set_eq _ _ _, by rw [x_set_ne _ _ (fun q => w_ne h1 h0 (fun z => by cases z) q)]; exact h1, by rw [x_set_ne _ _ (fun q => w_ne h2 h0 (fun z => by cases z) q)]; exact h2⟩
theorem x_in0 {i m2 : Int32} {n : Nat} (hm : m2.toInt = n) (h1 : ¬ i < 0) (h2 : ¬ m2 ≤ i) : vp_in i n := x_in hm h1 h2
theorem le10 {t : Nat} (h : t ≤ 10) : t = 0 ∨ t = 1 ∨ t = 2 ∨ t = 3 ∨ t = 4 ∨ t = 5 ∨ t = 6 ∨ t = 7 ∨ t = 8 ∨ t = 9 ∨ t = 10 := by omega
/-- the checksum of a new registry -/
def f_dg (n : Nat) (d : Int64) : Int64 := match n with
  | 0 => d
  | n + 1 => f_dg n (d * 31 + (0 : Int32).toInt64)
end
section
theorem dX6_faceAt_0 : decode cX6_faceAt 0 = .ok (.iload_n 1, 1) := by decide +kernel
theorem dX6_faceAt_1 : decode cX6_faceAt 1 = .ok (.ifCond .lt 21, 3) := by decide +kernel
theorem dX6_faceAt_22 : decode cX6_faceAt 22 = .ok (.aconst_null, 1) := by decide +kernel
theorem dX6_faceAt_23 : decode cX6_faceAt 23 = .ok (.areturn, 1) := by decide +kernel
theorem dX6_faceAt_4 : decode cX6_faceAt 4 = .ok (.iload_n 1, 1) := by decide +kernel
theorem dX6_faceAt_5 : decode cX6_faceAt 5 = .ok (.aload_n 0, 1) := by decide +kernel
theorem dX6_faceAt_6 : decode cX6_faceAt 6 = .ok (.getfield 11, 3) := by decide +kernel
theorem dX6_faceAt_9 : decode cX6_faceAt 9 = .ok (.arraylength, 1) := by decide +kernel
theorem dX6_faceAt_10 : decode cX6_faceAt 10 = .ok (.if_icmp .ge 12, 3) := by decide +kernel
theorem dX6_faceAt_13 : decode cX6_faceAt 13 = .ok (.aload_n 0, 1) := by decide +kernel
theorem dX6_faceAt_14 : decode cX6_faceAt 14 = .ok (.getfield 11, 3) := by decide +kernel
theorem dX6_faceAt_17 : decode cX6_faceAt 17 = .ok (.iload_n 1, 1) := by decide +kernel
theorem dX6_faceAt_18 : decode cX6_faceAt 18 = .ok (.aaload, 1) := by decide +kernel
theorem dX6_faceAt_19 : decode cX6_faceAt 19 = .ok (.goto 4, 3) := by decide +kernel
theorem dX6_versionAt_0 : decode cX6_versionAt 0 = .ok (.aload_n 0, 1) := by decide +kernel
theorem dX6_versionAt_1 : decode cX6_versionAt 1 = .ok (.iload_n 1, 1) := by decide +kernel
theorem dX6_versionAt_2 : decode cX6_versionAt 2 = .ok (.invokevirtual 55, 3) := by decide +kernel
theorem dX6_versionAt_5 : decode cX6_versionAt 5 = .ok (.astore_n 3, 1) := by decide +kernel
theorem dX6_versionAt_6 : decode cX6_versionAt 6 = .ok (.aload_n 3, 1) := by decide +kernel
theorem dX6_versionAt_7 : decode cX6_versionAt 7 = .ok (.ifnonnull 7, 3) := by decide +kernel
theorem dX6_versionAt_10 : decode cX6_versionAt 10 = .ok (.aconst_null, 1) := by decide +kernel
theorem dX6_versionAt_11 : decode cX6_versionAt 11 = .ok (.goto 8, 3) := by decide +kernel
theorem dX6_versionAt_19 : decode cX6_versionAt 19 = .ok (.areturn, 1) := by decide +kernel
theorem dX6_clientAt_0 : decode cX6_clientAt 0 = .ok (.iload_n 1, 1) := by decide +kernel
theorem dX6_clientAt_1 : decode cX6_clientAt 1 = .ok (.ifCond .lt 21, 3) := by decide +kernel
theorem dX6_clientAt_22 : decode cX6_clientAt 22 = .ok (.aconst_null, 1) := by decide +kernel
theorem dX6_clientAt_23 : decode cX6_clientAt 23 = .ok (.areturn, 1) := by decide +kernel
theorem dX6_clientAt_4 : decode cX6_clientAt 4 = .ok (.iload_n 1, 1) := by decide +kernel
theorem dX6_clientAt_5 : decode cX6_clientAt 5 = .ok (.aload_n 0, 1) := by decide +kernel
theorem dX6_clientAt_6 : decode cX6_clientAt 6 = .ok (.getfield 17, 3) := by decide +kernel
theorem dX6_clientAt_9 : decode cX6_clientAt 9 = .ok (.arraylength, 1) := by decide +kernel
theorem dX6_clientAt_10 : decode cX6_clientAt 10 = .ok (.if_icmp .ge 12, 3) := by decide +kernel
theorem dX6_clientAt_13 : decode cX6_clientAt 13 = .ok (.aload_n 0, 1) := by decide +kernel
theorem dX6_clientAt_14 : decode cX6_clientAt 14 = .ok (.getfield 17, 3) := by decide +kernel
theorem dX6_clientAt_17 : decode cX6_clientAt 17 = .ok (.iload_n 1, 1) := by decide +kernel
theorem dX6_clientAt_18 : decode cX6_clientAt 18 = .ok (.aaload, 1) := by decide +kernel
theorem dX6_clientAt_19 : decode cX6_clientAt 19 = .ok (.goto 4, 3) := by decide +kernel
theorem dX6_countVersions_4 : decode cX6_countVersions 4 = .ok (.iload_n 3, 1) := by decide +kernel
theorem dX6_countVersions_5 : decode cX6_countVersions 5 = .ok (.iconst 4, 1) := by decide +kernel
theorem dX6_countVersions_6 : decode cX6_countVersions 6 = .ok (.if_icmp .ge 51, 3) := by decide +kernel
theorem dX6_countVersions_57 : decode cX6_countVersions 57 = .ok (.iload_n 2, 1) := by decide +kernel
theorem dX6_countVersions_58 : decode cX6_countVersions 58 = .ok (.ireturn, 1) := by decide +kernel
theorem dX6_countVersions_12 : decode cX6_countVersions 12 = .ok (.iload 4, 2) := by decide +kernel
theorem dX6_countVersions_14 : decode cX6_countVersions 14 = .ok (.bipush 6, 2) := by decide +kernel
theorem dX6_countVersions_16 : decode cX6_countVersions 16 = .ok (.if_icmp .ge 35, 3) := by decide +kernel
theorem dX6_countVersions_51 : decode cX6_countVersions 51 = .ok (.iinc 3 1, 3) := by decide +kernel
theorem dX6_countVersions_54 : decode cX6_countVersions 54 = .ok (.goto (-50), 3) := by decide +kernel
theorem dX6_countVersions_19 : decode cX6_countVersions 19 = .ok (.aload_n 0, 1) := by decide +kernel
theorem dX6_countVersions_20 : decode cX6_countVersions 20 = .ok (.iload_n 3, 1) := by decide +kernel
theorem dX6_countVersions_21 : decode cX6_countVersions 21 = .ok (.iload 4, 2) := by decide +kernel
theorem dX6_countVersions_23 : decode cX6_countVersions 23 = .ok (.invokevirtual 91, 3) := by decide +kernel
theorem dX6_countVersions_26 : decode cX6_countVersions 26 = .ok (.astore 5, 2) := by decide +kernel
theorem dX6_countVersions_28 : decode cX6_countVersions 28 = .ok (.aload 5, 2) := by decide +kernel
theorem dX6_countVersions_30 : decode cX6_countVersions 30 = .ok (.ifnull 15, 3) := by decide +kernel
theorem dX6_countVersions_45 : decode cX6_countVersions 45 = .ok (.iinc 4 1, 3) := by decide +kernel
theorem dX6_countVersions_48 : decode cX6_countVersions 48 = .ok (.goto (-36), 3) := by decide +kernel
theorem dX6_countVersions_9 : decode cX6_countVersions 9 = .ok (.iconst 0, 1) := by decide +kernel
theorem dX6_countVersions_10 : decode cX6_countVersions 10 = .ok (.istore 4, 2) := by decide +kernel
theorem dX6_countVersions_0 : decode cX6_countVersions 0 = .ok (.iconst 0, 1) := by decide +kernel
theorem dX6_countVersions_1 : decode cX6_countVersions 1 = .ok (.istore_n 2, 1) := by decide +kernel
theorem dX6_countVersions_2 : decode cX6_countVersions 2 = .ok (.iconst 0, 1) := by decide +kernel
theorem dX6_countVersions_3 : decode cX6_countVersions 3 = .ok (.istore_n 3, 1) := by decide +kernel
theorem dX6_countOf_0 : decode cX6_countOf 0 = .ok (.iload_n 1, 1) := by decide +kernel
theorem dX6_countOf_1 : decode cX6_countOf 1 = .ok (.tableswitch 121 0 9 #[55, 60, 78, 84, 90, 96, 101, 106, 111, 116], 55) := by decide +kernel
theorem dX6_countOf_56 : decode cX6_countOf 56 = .ok (.aload_n 0, 1) := by decide +kernel
theorem dX6_countOf_57 : decode cX6_countOf 57 = .ok (.getfield 41, 3) := by decide +kernel
theorem dX6_countOf_60 : decode cX6_countOf 60 = .ok (.ireturn, 1) := by decide +kernel
theorem dX6_countOf_61 : decode cX6_countOf 61 = .ok (.aload_n 0, 1) := by decide +kernel
theorem dX6_countOf_62 : decode cX6_countOf 62 = .ok (.iconst 0, 1) := by decide +kernel
theorem dX6_countOf_63 : decode cX6_countOf 63 = .ok (.invokevirtual 317, 3) := by decide +kernel
theorem dX6_countOf_66 : decode cX6_countOf 66 = .ok (.aload_n 0, 1) := by decide +kernel
theorem dX6_countOf_67 : decode cX6_countOf 67 = .ok (.iconst 1, 1) := by decide +kernel
theorem dX6_countOf_68 : decode cX6_countOf 68 = .ok (.invokevirtual 317, 3) := by decide +kernel
theorem dX6_countOf_71 : decode cX6_countOf 71 = .ok (.iadd, 1) := by decide +kernel
theorem dX6_countOf_72 : decode cX6_countOf 72 = .ok (.aload_n 0, 1) := by decide +kernel
theorem dX6_countOf_73 : decode cX6_countOf 73 = .ok (.iconst 2, 1) := by decide +kernel
theorem dX6_countOf_74 : decode cX6_countOf 74 = .ok (.invokevirtual 317, 3) := by decide +kernel
theorem dX6_countOf_77 : decode cX6_countOf 77 = .ok (.iadd, 1) := by decide +kernel
theorem dX6_countOf_78 : decode cX6_countOf 78 = .ok (.ireturn, 1) := by decide +kernel
theorem dX6_countOf_79 : decode cX6_countOf 79 = .ok (.aload_n 0, 1) := by decide +kernel
theorem dX6_countOf_80 : decode cX6_countOf 80 = .ok (.iconst 0, 1) := by decide +kernel
theorem dX6_countOf_81 : decode cX6_countOf 81 = .ok (.invokevirtual 317, 3) := by decide +kernel
theorem dX6_countOf_84 : decode cX6_countOf 84 = .ok (.ireturn, 1) := by decide +kernel
theorem dX6_countOf_85 : decode cX6_countOf 85 = .ok (.aload_n 0, 1) := by decide +kernel
theorem dX6_countOf_86 : decode cX6_countOf 86 = .ok (.iconst 1, 1) := by decide +kernel
theorem dX6_countOf_87 : decode cX6_countOf 87 = .ok (.invokevirtual 317, 3) := by decide +kernel
theorem dX6_countOf_90 : decode cX6_countOf 90 = .ok (.ireturn, 1) := by decide +kernel
theorem dX6_countOf_91 : decode cX6_countOf 91 = .ok (.aload_n 0, 1) := by decide +kernel
theorem dX6_countOf_92 : decode cX6_countOf 92 = .ok (.iconst 2, 1) := by decide +kernel
theorem dX6_countOf_93 : decode cX6_countOf 93 = .ok (.invokevirtual 317, 3) := by decide +kernel
theorem dX6_countOf_96 : decode cX6_countOf 96 = .ok (.ireturn, 1) := by decide +kernel
theorem dX6_countOf_97 : decode cX6_countOf 97 = .ok (.aload_n 0, 1) := by decide +kernel
theorem dX6_countOf_98 : decode cX6_countOf 98 = .ok (.getfield 126, 3) := by decide +kernel
theorem dX6_countOf_101 : decode cX6_countOf 101 = .ok (.ireturn, 1) := by decide +kernel
theorem dX6_countOf_102 : decode cX6_countOf 102 = .ok (.aload_n 0, 1) := by decide +kernel
theorem dX6_countOf_103 : decode cX6_countOf 103 = .ok (.getfield 165, 3) := by decide +kernel
theorem dX6_countOf_106 : decode cX6_countOf 106 = .ok (.ireturn, 1) := by decide +kernel
theorem dX6_countOf_107 : decode cX6_countOf 107 = .ok (.aload_n 0, 1) := by decide +kernel
theorem dX6_countOf_108 : decode cX6_countOf 108 = .ok (.getfield 249, 3) := by decide +kernel
theorem dX6_countOf_111 : decode cX6_countOf 111 = .ok (.ireturn, 1) := by decide +kernel
theorem dX6_countOf_112 : decode cX6_countOf 112 = .ok (.aload_n 0, 1) := by decide +kernel
theorem dX6_countOf_113 : decode cX6_countOf 113 = .ok (.getfield 252, 3) := by decide +kernel
theorem dX6_countOf_116 : decode cX6_countOf 116 = .ok (.ireturn, 1) := by decide +kernel
theorem dX6_countOf_117 : decode cX6_countOf 117 = .ok (.aload_n 0, 1) := by decide +kernel
theorem dX6_countOf_118 : decode cX6_countOf 118 = .ok (.getfield 320, 3) := by decide +kernel
theorem dX6_countOf_121 : decode cX6_countOf 121 = .ok (.ireturn, 1) := by decide +kernel
theorem dX6_countOf_122 : decode cX6_countOf 122 = .ok (.aload_n 0, 1) := by decide +kernel
theorem dX6_countOf_123 : decode cX6_countOf 123 = .ok (.getfield 225, 3) := by decide +kernel
theorem dX6_countOf_126 : decode cX6_countOf 126 = .ok (.ireturn, 1) := by decide +kernel
theorem dX6_digest_84 : decode cX6_digest 84 = .ok (.iload_n 3, 1) := by decide +kernel
theorem dX6_digest_85 : decode cX6_digest 85 = .ok (.aload_n 0, 1) := by decide +kernel
theorem dX6_digest_86 : decode cX6_digest 86 = .ok (.getfield 17, 3) := by decide +kernel
theorem dX6_digest_89 : decode cX6_digest 89 = .ok (.arraylength, 1) := by decide +kernel
theorem dX6_digest_90 : decode cX6_digest 90 = .ok (.if_icmp .ge 30, 3) := by decide +kernel
theorem dX6_digest_120 : decode cX6_digest 120 = .ok (.lload_n 1, 1) := by decide +kernel
theorem dX6_digest_121 : decode cX6_digest 121 = .ok (.lreturn, 1) := by decide +kernel
theorem dX6_digest_93 : decode cX6_digest 93 = .ok (.aload_n 0, 1) := by decide +kernel
theorem dX6_digest_94 : decode cX6_digest 94 = .ok (.getfield 17, 3) := by decide +kernel
theorem dX6_digest_97 : decode cX6_digest 97 = .ok (.iload_n 3, 1) := by decide +kernel
theorem dX6_digest_98 : decode cX6_digest 98 = .ok (.aaload, 1) := by decide +kernel
theorem dX6_digest_99 : decode cX6_digest 99 = .ok (.astore 4, 2) := by decide +kernel
theorem dX6_digest_101 : decode cX6_digest 101 = .ok (.aload 4, 2) := by decide +kernel
theorem dX6_digest_103 : decode cX6_digest 103 = .ok (.ifnull 11, 3) := by decide +kernel
theorem dX6_digest_114 : decode cX6_digest 114 = .ok (.iinc 3 1, 3) := by decide +kernel
theorem dX6_digest_117 : decode cX6_digest 117 = .ok (.goto (-33), 3) := by decide +kernel
theorem dX6_digest_33 : decode cX6_digest 33 = .ok (.iload_n 3, 1) := by decide +kernel
theorem dX6_digest_34 : decode cX6_digest 34 = .ok (.iconst 4, 1) := by decide +kernel
theorem dX6_digest_35 : decode cX6_digest 35 = .ok (.if_icmp .ge 47, 3) := by decide +kernel
theorem dX6_digest_82 : decode cX6_digest 82 = .ok (.iconst 0, 1) := by decide +kernel
theorem dX6_digest_83 : decode cX6_digest 83 = .ok (.istore_n 3, 1) := by decide +kernel
theorem dX6_digest_41 : decode cX6_digest 41 = .ok (.iload 4, 2) := by decide +kernel
theorem dX6_digest_43 : decode cX6_digest 43 = .ok (.bipush 6, 2) := by decide +kernel
theorem dX6_digest_45 : decode cX6_digest 45 = .ok (.if_icmp .ge 31, 3) := by decide +kernel
theorem dX6_digest_76 : decode cX6_digest 76 = .ok (.iinc 3 1, 3) := by decide +kernel
theorem dX6_digest_79 : decode cX6_digest 79 = .ok (.goto (-46), 3) := by decide +kernel
theorem dX6_digest_48 : decode cX6_digest 48 = .ok (.aload_n 0, 1) := by decide +kernel
theorem dX6_digest_49 : decode cX6_digest 49 = .ok (.iload_n 3, 1) := by decide +kernel
theorem dX6_digest_50 : decode cX6_digest 50 = .ok (.iload 4, 2) := by decide +kernel
theorem dX6_digest_52 : decode cX6_digest 52 = .ok (.invokevirtual 91, 3) := by decide +kernel
theorem dX6_digest_55 : decode cX6_digest 55 = .ok (.astore 5, 2) := by decide +kernel
theorem dX6_digest_57 : decode cX6_digest 57 = .ok (.aload 5, 2) := by decide +kernel
theorem dX6_digest_59 : decode cX6_digest 59 = .ok (.ifnull 11, 3) := by decide +kernel
theorem dX6_digest_70 : decode cX6_digest 70 = .ok (.iinc 4 1, 3) := by decide +kernel
theorem dX6_digest_73 : decode cX6_digest 73 = .ok (.goto (-32), 3) := by decide +kernel
theorem dX6_digest_38 : decode cX6_digest 38 = .ok (.iconst 0, 1) := by decide +kernel
theorem dX6_digest_39 : decode cX6_digest 39 = .ok (.istore 4, 2) := by decide +kernel
theorem dX6_digest_6 : decode cX6_digest 6 = .ok (.iload_n 3, 1) := by decide +kernel
theorem dX6_digest_7 : decode cX6_digest 7 = .ok (.bipush 10, 2) := by decide +kernel
theorem dX6_digest_9 : decode cX6_digest 9 = .ok (.if_icmp .gt 22, 3) := by decide +kernel
theorem dX6_digest_31 : decode cX6_digest 31 = .ok (.iconst 0, 1) := by decide +kernel
theorem dX6_digest_32 : decode cX6_digest 32 = .ok (.istore_n 3, 1) := by decide +kernel
theorem dX6_digest_12 : decode cX6_digest 12 = .ok (.lload_n 1, 1) := by decide +kernel
theorem dX6_digest_13 : decode cX6_digest 13 = .ok (.ldc2_w 273, 3) := by decide +kernel
theorem dX6_digest_16 : decode cX6_digest 16 = .ok (.lmul, 1) := by decide +kernel
theorem dX6_digest_17 : decode cX6_digest 17 = .ok (.aload_n 0, 1) := by decide +kernel
theorem dX6_digest_18 : decode cX6_digest 18 = .ok (.iload_n 3, 1) := by decide +kernel
theorem dX6_digest_19 : decode cX6_digest 19 = .ok (.invokevirtual 246, 3) := by decide +kernel
theorem dX6_digest_22 : decode cX6_digest 22 = .ok (.i2l, 1) := by decide +kernel
theorem dX6_digest_23 : decode cX6_digest 23 = .ok (.ladd, 1) := by decide +kernel
theorem dX6_digest_24 : decode cX6_digest 24 = .ok (.lstore_n 1, 1) := by decide +kernel
theorem dX6_digest_25 : decode cX6_digest 25 = .ok (.iinc 3 1, 3) := by decide +kernel
theorem dX6_digest_28 : decode cX6_digest 28 = .ok (.goto (-22), 3) := by decide +kernel
theorem dX6_digest_0 : decode cX6_digest 0 = .ok (.ldc2_w 271, 3) := by decide +kernel
theorem dX6_digest_3 : decode cX6_digest 3 = .ok (.lstore_n 1, 1) := by decide +kernel
theorem dX6_digest_4 : decode cX6_digest 4 = .ok (.iconst 0, 1) := by decide +kernel
theorem dX6_digest_5 : decode cX6_digest 5 = .ok (.istore_n 3, 1) := by decide +kernel
/-! ===== the class: a new registry is asked ===== -/
section CLS
variable {l : Launch} {D : va_G} {dA : Nat → ClassId} {B : Nat} {w : xW} {M Fa Ca Aa Ro Tr : Nat} {n : Int32}
set_option maxRecDepth 100000 in
set_option maxHeartbeats 4000000 in
theorem c_faceAt (hF : FR w M Fa Ca Aa Ro Tr n) (x : Int32) : Ci l D dA B yX6_faceAt wX6_faceAt 0 [.ref M, .int x] w (fun v w1 => v = .null ∧ w1 = w) := by
  refine x_Ct.of (cc := cX6_faceAt) (maxL := 2) (by decide) rfl (Nat.le_of_ble_eq_true rfl) ?_
  intro p e s m below meth c F
  refine x_iload_n F dX6_faceAt_0 rfl rfl ?_
  refine x_if_lt F dX6_faceAt_1 rfl (fun h1 => ?_) (fun h1 => ?_)
  · refine x_null F dX6_faceAt_22 ?_
    refine x_aretN F rfl dX6_faceAt_23 (Nat.le_of_ble_eq_true rfl) (Nat.le_of_ble_eq_true rfl) ?_
    exact ⟨_, rfl, rfl, rfl⟩
  · refine x_iload_n F dX6_faceAt_4 rfl rfl ?_
    refine x_aload_n F dX6_faceAt_5 rfl rfl ?_
    refine x_get (ci := 5) (C := RX6) (T := TX6) (N := 12) (k := 0) F dX6_faceAt_6 rfl inX6 (by decide) q79 rfl hF.1 rfl ?_
    refine x_alen (v := 4) F dX6_faceAt_9 rfl hF.2.1 rfl ?_
    refine x_icmp_ge F dX6_faceAt_10 rfl (fun h10 => ?_) (fun h10 => ?_)
    · refine x_null F dX6_faceAt_22 ?_
      refine x_aretN F rfl dX6_faceAt_23 (Nat.le_of_ble_eq_true rfl) (Nat.le_of_ble_eq_true rfl) ?_
      exact ⟨_, rfl, rfl, rfl⟩
    · refine x_aload_n F dX6_faceAt_13 rfl rfl ?_
      refine x_get (ci := 5) (C := RX6) (T := TX6) (N := 12) (k := 0) F dX6_faceAt_14 rfl inX6 (by decide) q79 rfl hF.1 rfl ?_
      refine x_iload_n F dX6_faceAt_17 rfl rfl ?_
      refine x_aald F dX6_faceAt_18 rfl hF.2.1 (x_in (m2 := 4) (by decide) h1 h10) ?_
      refine x_goto F dX6_faceAt_19 rfl ?_
      refine x_aretN F rfl dX6_faceAt_23 (Nat.le_of_ble_eq_true rfl) (Nat.le_of_ble_eq_true rfl) ?_
      exact ⟨_, rfl, rfl, rfl⟩
set_option maxRecDepth 100000 in
set_option maxHeartbeats 4000000 in
theorem c_versionAt (hF : FR w M Fa Ca Aa Ro Tr n) (x y : Int32) : Ci l D dA B yX6_versionAt wX6_versionAt 1 [.ref M, .int x, .int y] w (fun v w1 => v = .null ∧ w1 = w) := by
  refine x_Ct.of (cc := cX6_versionAt) (maxL := 4) (by decide) rfl (Nat.le_of_ble_eq_true rfl) ?_
  intro p e s m below meth c F
  refine x_aload_n F dX6_versionAt_0 rfl rfl ?_
  refine x_iload_n F dX6_versionAt_1 rfl rfl ?_
  refine x_cVi1 (ci := 5) (C := RX6) (T := TX6) (N := 12) F dX6_versionAt_2 (x_gV q122 q123 q637 q1 q124) rfl (c_faceAt hF x) ⟨rfl, rfl, rfl, xd_X6_faceAt, ⟨Nat.le_of_ble_eq_true rfl, Nat.le_of_ble_eq_true rfl⟩, Nat.le_of_ble_eq_true rfl, Nat.le_of_ble_eq_true rfl⟩ rfl hF.1 (Nat.le_of_ble_eq_true rfl) (fun v1 w1 hp => ?_)
  obtain ⟨rfl, hw9⟩ := hp
  replace hw9 := hw9.symm
  subst hw9
  refine x_astore_nN F dX6_versionAt_5 rfl (by decide) ?_
  refine x_aload_nN F dX6_versionAt_6 rfl rfl ?_
  refine x_ifnonnullN F dX6_versionAt_7 ?_
  refine x_null F dX6_versionAt_10 ?_
  refine x_goto F dX6_versionAt_11 rfl ?_
  refine x_aretN F rfl dX6_versionAt_19 (Nat.le_of_ble_eq_true rfl) (Nat.le_of_ble_eq_true rfl) ?_
  exact ⟨_, rfl, rfl, rfl⟩
set_option maxRecDepth 100000 in
set_option maxHeartbeats 4000000 in
theorem c_clientAt (hF : FR w M Fa Ca Aa Ro Tr n) (x : Int32) : Ci l D dA B yX6_clientAt wX6_clientAt 0 [.ref M, .int x] w (fun v w1 => v = .null ∧ w1 = w) := by
  refine x_Ct.of (cc := cX6_clientAt) (maxL := 2) (by decide) rfl (Nat.le_of_ble_eq_true rfl) ?_
  intro p e s m below meth c F
  refine x_iload_n F dX6_clientAt_0 rfl rfl ?_
  refine x_if_lt F dX6_clientAt_1 rfl (fun h1 => ?_) (fun h1 => ?_)
  · refine x_null F dX6_clientAt_22 ?_
    refine x_aretN F rfl dX6_clientAt_23 (Nat.le_of_ble_eq_true rfl) (Nat.le_of_ble_eq_true rfl) ?_
    exact ⟨_, rfl, rfl, rfl⟩
  · refine x_iload_n F dX6_clientAt_4 rfl rfl ?_
    refine x_aload_n F dX6_clientAt_5 rfl rfl ?_
    refine x_get (ci := 5) (C := RX6) (T := TX6) (N := 12) (k := 1) F dX6_clientAt_6 rfl inX6 (by decide) q80 rfl hF.1 rfl ?_
    refine x_alen (v := 10) F dX6_clientAt_9 rfl hF.2.2 rfl ?_
    refine x_icmp_ge F dX6_clientAt_10 rfl (fun h10 => ?_) (fun h10 => ?_)
    · refine x_null F dX6_clientAt_22 ?_
      refine x_aretN F rfl dX6_clientAt_23 (Nat.le_of_ble_eq_true rfl) (Nat.le_of_ble_eq_true rfl) ?_
      exact ⟨_, rfl, rfl, rfl⟩
    · refine x_aload_n F dX6_clientAt_13 rfl rfl ?_
      refine x_get (ci := 5) (C := RX6) (T := TX6) (N := 12) (k := 1) F dX6_clientAt_14 rfl inX6 (by decide) q80 rfl hF.1 rfl ?_
      refine x_iload_n F dX6_clientAt_17 rfl rfl ?_
      refine x_aald F dX6_clientAt_18 rfl hF.2.2 (x_in (m2 := 10) (by decide) h1 h10) ?_
      refine x_goto F dX6_clientAt_19 rfl ?_
      refine x_aretN F rfl dX6_clientAt_23 (Nat.le_of_ble_eq_true rfl) (Nat.le_of_ble_eq_true rfl) ?_
      exact ⟨_, rfl, rfl, rfl⟩
set_option maxRecDepth 100000 in
set_option maxHeartbeats 4000000 in
theorem c_countVersions (hF : FR w M Fa Ca Aa Ro Tr n) (x : Int32) : Ci l D dA B yX6_countVersions wX6_countVersions 2 [.ref M, .int x] w (fun v w1 => v = .int 0 ∧ w1 = w) := by
  refine x_Ct.of (cc := cX6_countVersions) (maxL := 6) (by decide) rfl (Nat.le_of_ble_eq_true rfl) ?_
  intro p e s m below meth c F
  have loop2 : ∀ n2 f, f + n2 = 4 → X p l e (rmd 2 0 0) s m #[.ref M, .int x] below meth c (MQ below (x_Q D dA vwC1 tyL1 B (fun r w1 => ∃ v, r = some v ∧ (v = .int 0 ∧ w1 = w))) #[.ref M, .int x] s 0 0 (fun q => B ≤ q)) D dA vwC1 B 6 0 0 4 [(0, .ref M), (1, .int x), (2, .int 0), (3, .int (nI f))] [] w := by
    intro n2
    induction n2 with
    | zero =>
      intro f hf1
      obtain rfl : f = 4 := by omega
      refine x_iload_n F dX6_countVersions_4 rfl rfl ?_
      refine x_iconst (v := 4) F dX6_countVersions_5 (by decide) ?_
      refine x_icmp_ge F dX6_countVersions_6 rfl (fun h6 => ?_) (fun hc => absurd hc (fun q => q (Int32.le_refl _)))
      refine x_iload_n F dX6_countVersions_57 rfl rfl ?_
      refine x_iret F rfl rfl dX6_countVersions_58 (Nat.le_of_ble_eq_true rfl) (Nat.le_of_ble_eq_true rfl) ?_
      exact ⟨_, rfl, rfl, rfl⟩
    | succ n2 ih2 =>
      intro f hf1
      have inner : ∀ n1 k, k + n1 = 6 → X p l e (rmd 2 0 0) s m #[.ref M, .int x] below meth c (MQ below (x_Q D dA vwC1 tyL1 B (fun r w1 => ∃ v, r = some v ∧ (v = .int 0 ∧ w1 = w))) #[.ref M, .int x] s 0 0 (fun q => B ≤ q)) D dA vwC1 B 6 0 0 12 [(0, .ref M), (1, .int x), (2, .int 0), (3, .int (nI f)), (4, .int (nI k))] [] w := by
        intro n1
        induction n1 with
        | zero =>
          intro k hk1 
          obtain rfl : k = 6 := by omega
          refine x_iload F dX6_countVersions_12 rfl ?_
          refine x_bipush (v := 6) F dX6_countVersions_14 (by decide) ?_
          refine x_icmp_ge F dX6_countVersions_16 rfl (fun h16 => ?_) (fun hc => absurd hc (fun q => q (Int32.le_refl _)))
          refine x_iincN F dX6_countVersions_51 (by decide) rfl (by decide) ?_
          refine x_goto F dX6_countVersions_54 rfl ?_
          exact x_lk (ih2 (f + 1) (by omega)) ⟨rfl, rfl, rfl, rfl, trivial⟩
        | succ n1 ih =>
          intro k hk1 
          refine x_iload F dX6_countVersions_12 rfl ?_
          refine x_bipush (v := 6) F dX6_countVersions_14 (by decide) ?_
          refine x_icmp_ge F dX6_countVersions_16 rfl (fun hc => absurd hc (nI_ge (b := 6) (by omega) (by decide))) (fun h16 => ?_)
          refine x_aload_n F dX6_countVersions_19 rfl rfl ?_
          refine x_iload_n F dX6_countVersions_20 rfl rfl ?_
          refine x_iload F dX6_countVersions_21 rfl ?_
          refine x_cVi2 (ci := 5) (C := RX6) (T := TX6) (N := 12) F dX6_countVersions_23 (x_gV q119 q120 q636 q1 q121) rfl (c_versionAt hF (nI f) (nI k)) ⟨rfl, rfl, rfl, xd_X6_versionAt, ⟨Nat.le_of_ble_eq_true rfl, Nat.le_of_ble_eq_true rfl⟩, Nat.le_of_ble_eq_true rfl, Nat.le_of_ble_eq_true rfl⟩ rfl hF.1 (Nat.le_of_ble_eq_true rfl) (fun v1 w1 hp => ?_)
          obtain ⟨rfl, hw9⟩ := hp
          replace hw9 := hw9.symm
          subst hw9
          refine x_astoreN F dX6_countVersions_26 (by decide) ?_
          refine x_aloadN F dX6_countVersions_28 rfl ?_
          refine x_ifnullN F dX6_countVersions_30 rfl ?_
          refine x_iincN F dX6_countVersions_45 (by decide) rfl (by decide) ?_
          refine x_goto F dX6_countVersions_48 rfl ?_
          exact x_lk (ih (k + 1) (by omega)) ⟨rfl, rfl, rfl, rfl, rfl, trivial⟩
      refine x_iload_n F dX6_countVersions_4 rfl rfl ?_
      refine x_iconst (v := 4) F dX6_countVersions_5 (by decide) ?_
      refine x_icmp_ge F dX6_countVersions_6 rfl (fun hc => absurd hc (nI_ge (b := 4) (by omega) (by decide))) (fun h6 => ?_)
      refine x_iconst (v := 0) F dX6_countVersions_9 (by decide) ?_
      refine x_istore F dX6_countVersions_10 (by decide) ?_
      exact x_lk (inner 6 0 (by omega)) ⟨rfl, rfl, rfl, rfl, rfl, trivial⟩
  refine x_iconst (v := 0) F dX6_countVersions_0 (by decide) ?_
  refine x_istore_n F dX6_countVersions_1 rfl (by decide) ?_
  refine x_iconst (v := 0) F dX6_countVersions_2 (by decide) ?_
  refine x_istore_n F dX6_countVersions_3 rfl (by decide) ?_
  exact x_lk (loop2 4 0 (by omega)) ⟨rfl, rfl, rfl, rfl, trivial⟩
set_option maxRecDepth 100000 in
set_option maxHeartbeats 4000000 in
theorem c_countOf (hF : FR w M Fa Ca Aa Ro Tr 0) {t : Nat} (ht : t ≤ 10) : Ci l D dA B yX6_countOf wX6_countOf 4 [.ref M, .int (nI t)] w (fun v w1 => v = .int 0 ∧ w1 = w) := by
  refine x_Ct.of (cc := cX6_countOf) (maxL := 2) (by decide) rfl (Nat.le_of_ble_eq_true rfl) ?_
  intro p e s m below meth c F
  rcases le10 ht with rfl | rfl | rfl | rfl | rfl | rfl | rfl | rfl | rfl | rfl | rfl
  · refine x_iload_n F dX6_countOf_0 rfl rfl ?_
    refine x_tableIn (off := 55) (tgt := 56) F dX6_countOf_1 (by decide) (by decide) rfl rfl ?_
    refine x_aload_n F dX6_countOf_56 rfl rfl ?_
    refine x_get (ci := 5) (C := RX6) (T := TX6) (N := 12) (k := 3) F dX6_countOf_57 rfl inX6 (by decide) q82 rfl hF.1 rfl ?_
    refine x_iret F rfl rfl dX6_countOf_60 (Nat.le_of_ble_eq_true rfl) (Nat.le_of_ble_eq_true rfl) ?_
    exact ⟨_, rfl, rfl, rfl⟩
  · refine x_iload_n F dX6_countOf_0 rfl rfl ?_
    refine x_tableIn (off := 60) (tgt := 61) F dX6_countOf_1 (by decide) (by decide) rfl rfl ?_
    refine x_aload_n F dX6_countOf_61 rfl rfl ?_
    refine x_iconst (v := 0) F dX6_countOf_62 (by decide) ?_
    refine x_cVi1 (ci := 5) (C := RX6) (T := TX6) (N := 12) F dX6_countOf_63 (x_gV q116 q117 q635 q1 q118) rfl (c_countVersions hF 0) ⟨rfl, rfl, rfl, xd_X6_countVersions, ⟨Nat.le_of_ble_eq_true rfl, Nat.le_of_ble_eq_true rfl⟩, Nat.le_of_ble_eq_true rfl, Nat.le_of_ble_eq_true rfl⟩ rfl hF.1 (Nat.le_of_ble_eq_true rfl) (fun v1 w1 hp => ?_)
    obtain ⟨rfl, hw9⟩ := hp
    replace hw9 := hw9.symm
    subst hw9
    refine x_aload_n F dX6_countOf_66 rfl rfl ?_
    refine x_iconst (v := 1) F dX6_countOf_67 (by decide) ?_
    refine x_cVi1 (ci := 5) (C := RX6) (T := TX6) (N := 12) F dX6_countOf_68 (x_gV q116 q117 q635 q1 q118) rfl (c_countVersions hF 1) ⟨rfl, rfl, rfl, xd_X6_countVersions, ⟨Nat.le_of_ble_eq_true rfl, Nat.le_of_ble_eq_true rfl⟩, Nat.le_of_ble_eq_true rfl, Nat.le_of_ble_eq_true rfl⟩ rfl hF.1 (Nat.le_of_ble_eq_true rfl) (fun v1 w1 hp => ?_)
    obtain ⟨rfl, hw9⟩ := hp
    replace hw9 := hw9.symm
    subst hw9
    refine x_iadd F dX6_countOf_71 ?_
    refine x_aload_n F dX6_countOf_72 rfl rfl ?_
    refine x_iconst (v := 2) F dX6_countOf_73 (by decide) ?_
    refine x_cVi1 (ci := 5) (C := RX6) (T := TX6) (N := 12) F dX6_countOf_74 (x_gV q116 q117 q635 q1 q118) rfl (c_countVersions hF 2) ⟨rfl, rfl, rfl, xd_X6_countVersions, ⟨Nat.le_of_ble_eq_true rfl, Nat.le_of_ble_eq_true rfl⟩, Nat.le_of_ble_eq_true rfl, Nat.le_of_ble_eq_true rfl⟩ rfl hF.1 (Nat.le_of_ble_eq_true rfl) (fun v1 w1 hp => ?_)
    obtain ⟨rfl, hw9⟩ := hp
    replace hw9 := hw9.symm
    subst hw9
    refine x_iadd F dX6_countOf_77 ?_
    refine x_iret F rfl rfl dX6_countOf_78 (Nat.le_of_ble_eq_true rfl) (Nat.le_of_ble_eq_true rfl) ?_
    exact ⟨_, rfl, rfl, rfl⟩
  · refine x_iload_n F dX6_countOf_0 rfl rfl ?_
    refine x_tableIn (off := 78) (tgt := 79) F dX6_countOf_1 (by decide) (by decide) rfl rfl ?_
    refine x_aload_n F dX6_countOf_79 rfl rfl ?_
    refine x_iconst (v := 0) F dX6_countOf_80 (by decide) ?_
    refine x_cVi1 (ci := 5) (C := RX6) (T := TX6) (N := 12) F dX6_countOf_81 (x_gV q116 q117 q635 q1 q118) rfl (c_countVersions hF 0) ⟨rfl, rfl, rfl, xd_X6_countVersions, ⟨Nat.le_of_ble_eq_true rfl, Nat.le_of_ble_eq_true rfl⟩, Nat.le_of_ble_eq_true rfl, Nat.le_of_ble_eq_true rfl⟩ rfl hF.1 (Nat.le_of_ble_eq_true rfl) (fun v1 w1 hp => ?_)
    obtain ⟨rfl, hw9⟩ := hp
    replace hw9 := hw9.symm
    subst hw9
    refine x_iret F rfl rfl dX6_countOf_84 (Nat.le_of_ble_eq_true rfl) (Nat.le_of_ble_eq_true rfl) ?_
    exact ⟨_, rfl, rfl, rfl⟩
  · refine x_iload_n F dX6_countOf_0 rfl rfl ?_
    refine x_tableIn (off := 84) (tgt := 85) F dX6_countOf_1 (by decide) (by decide) rfl rfl ?_
    refine x_aload_n F dX6_countOf_85 rfl rfl ?_
    refine x_iconst (v := 1) F dX6_countOf_86 (by decide) ?_
    refine x_cVi1 (ci := 5) (C := RX6) (T := TX6) (N := 12) F dX6_countOf_87 (x_gV q116 q117 q635 q1 q118) rfl (c_countVersions hF 1) ⟨rfl, rfl, rfl, xd_X6_countVersions, ⟨Nat.le_of_ble_eq_true rfl, Nat.le_of_ble_eq_true rfl⟩, Nat.le_of_ble_eq_true rfl, Nat.le_of_ble_eq_true rfl⟩ rfl hF.1 (Nat.le_of_ble_eq_true rfl) (fun v1 w1 hp => ?_)
    obtain ⟨rfl, hw9⟩ := hp
    replace hw9 := hw9.symm
    subst hw9
    refine x_iret F rfl rfl dX6_countOf_90 (Nat.le_of_ble_eq_true rfl) (Nat.le_of_ble_eq_true rfl) ?_
    exact ⟨_, rfl, rfl, rfl⟩
  · refine x_iload_n F dX6_countOf_0 rfl rfl ?_
    refine x_tableIn (off := 90) (tgt := 91) F dX6_countOf_1 (by decide) (by decide) rfl rfl ?_
    refine x_aload_n F dX6_countOf_91 rfl rfl ?_
    refine x_iconst (v := 2) F dX6_countOf_92 (by decide) ?_
    refine x_cVi1 (ci := 5) (C := RX6) (T := TX6) (N := 12) F dX6_countOf_93 (x_gV q116 q117 q635 q1 q118) rfl (c_countVersions hF 2) ⟨rfl, rfl, rfl, xd_X6_countVersions, ⟨Nat.le_of_ble_eq_true rfl, Nat.le_of_ble_eq_true rfl⟩, Nat.le_of_ble_eq_true rfl, Nat.le_of_ble_eq_true rfl⟩ rfl hF.1 (Nat.le_of_ble_eq_true rfl) (fun v1 w1 hp => ?_)
    obtain ⟨rfl, hw9⟩ := hp
    replace hw9 := hw9.symm
    subst hw9
    refine x_iret F rfl rfl dX6_countOf_96 (Nat.le_of_ble_eq_true rfl) (Nat.le_of_ble_eq_true rfl) ?_
    exact ⟨_, rfl, rfl, rfl⟩
  · refine x_iload_n F dX6_countOf_0 rfl rfl ?_
    refine x_tableIn (off := 96) (tgt := 97) F dX6_countOf_1 (by decide) (by decide) rfl rfl ?_
    refine x_aload_n F dX6_countOf_97 rfl rfl ?_
    refine x_get (ci := 5) (C := RX6) (T := TX6) (N := 12) (k := 4) F dX6_countOf_98 rfl inX6 (by decide) q83 rfl hF.1 rfl ?_
    refine x_iret F rfl rfl dX6_countOf_101 (Nat.le_of_ble_eq_true rfl) (Nat.le_of_ble_eq_true rfl) ?_
    exact ⟨_, rfl, rfl, rfl⟩
  · refine x_iload_n F dX6_countOf_0 rfl rfl ?_
    refine x_tableIn (off := 101) (tgt := 102) F dX6_countOf_1 (by decide) (by decide) rfl rfl ?_
    refine x_aload_n F dX6_countOf_102 rfl rfl ?_
    refine x_get (ci := 5) (C := RX6) (T := TX6) (N := 12) (k := 5) F dX6_countOf_103 rfl inX6 (by decide) q84 rfl hF.1 rfl ?_
    refine x_iret F rfl rfl dX6_countOf_106 (Nat.le_of_ble_eq_true rfl) (Nat.le_of_ble_eq_true rfl) ?_
    exact ⟨_, rfl, rfl, rfl⟩
  · refine x_iload_n F dX6_countOf_0 rfl rfl ?_
    refine x_tableIn (off := 106) (tgt := 107) F dX6_countOf_1 (by decide) (by decide) rfl rfl ?_
    refine x_aload_n F dX6_countOf_107 rfl rfl ?_
    refine x_get (ci := 5) (C := RX6) (T := TX6) (N := 12) (k := 7) F dX6_countOf_108 rfl inX6 (by decide) q86 rfl hF.1 rfl ?_
    refine x_iret F rfl rfl dX6_countOf_111 (Nat.le_of_ble_eq_true rfl) (Nat.le_of_ble_eq_true rfl) ?_
    exact ⟨_, rfl, rfl, rfl⟩
  · refine x_iload_n F dX6_countOf_0 rfl rfl ?_
    refine x_tableIn (off := 111) (tgt := 112) F dX6_countOf_1 (by decide) (by decide) rfl rfl ?_
    refine x_aload_n F dX6_countOf_112 rfl rfl ?_
    refine x_get (ci := 5) (C := RX6) (T := TX6) (N := 12) (k := 8) F dX6_countOf_113 rfl inX6 (by decide) q87 rfl hF.1 rfl ?_
    refine x_iret F rfl rfl dX6_countOf_116 (Nat.le_of_ble_eq_true rfl) (Nat.le_of_ble_eq_true rfl) ?_
    exact ⟨_, rfl, rfl, rfl⟩
  · refine x_iload_n F dX6_countOf_0 rfl rfl ?_
    refine x_tableIn (off := 116) (tgt := 117) F dX6_countOf_1 (by decide) (by decide) rfl rfl ?_
    refine x_aload_n F dX6_countOf_117 rfl rfl ?_
    refine x_get (ci := 5) (C := RX6) (T := TX6) (N := 12) (k := 9) F dX6_countOf_118 rfl inX6 (by decide) q88 rfl hF.1 rfl ?_
    refine x_iret F rfl rfl dX6_countOf_121 (Nat.le_of_ble_eq_true rfl) (Nat.le_of_ble_eq_true rfl) ?_
    exact ⟨_, rfl, rfl, rfl⟩
  · refine x_iload_n F dX6_countOf_0 rfl rfl ?_
    refine x_tableOut (tgt := 122) F dX6_countOf_1 (by decide) rfl ?_
    refine x_aload_n F dX6_countOf_122 rfl rfl ?_
    refine x_get (ci := 5) (C := RX6) (T := TX6) (N := 12) (k := 6) F dX6_countOf_123 rfl inX6 (by decide) q85 rfl hF.1 rfl ?_
    refine x_iret F rfl rfl dX6_countOf_126 (Nat.le_of_ble_eq_true rfl) (Nat.le_of_ble_eq_true rfl) ?_
    exact ⟨_, rfl, rfl, rfl⟩
set_option maxRecDepth 100000 in
set_option maxHeartbeats 4000000 in
theorem c_digest (hF : FR w M Fa Ca Aa Ro Tr 0) : Ci l D dA B yX6_digest wX6_digest 5 [.ref M] w (fun v w1 => v = .long (f_dg 11 58106) ∧ w1 = w) := by
  refine x_Ct.of (cc := cX6_digest) (maxL := 6) (by decide) rfl (Nat.le_of_ble_eq_true rfl) ?_
  intro p e s m below meth c F
  have loop3 : ∀ n1 k, k + n1 = 10 → X p l e (rmd 5 0 0) s m #[.ref M] below meth c (MQ below (x_Q D dA vwC1 tyL1 B (fun r w1 => ∃ v, r = some v ∧ (v = .long (f_dg 11 58106) ∧ w1 = w))) #[.ref M] s 0 0 (fun q => B ≤ q)) D dA vwC1 B 6 0 0 84 [(0, .ref M), (1, .long (f_dg 11 58106)), (3, .int (nI k))] [] w := by
    intro n1
    induction n1 with
    | zero =>
      intro k hk1 
      obtain rfl : k = 10 := by omega
      refine x_iload_n F dX6_digest_84 rfl rfl ?_
      refine x_aload_n F dX6_digest_85 rfl rfl ?_
      refine x_get (ci := 5) (C := RX6) (T := TX6) (N := 12) (k := 1) F dX6_digest_86 rfl inX6 (by decide) q80 rfl hF.1 rfl ?_
      refine x_alen (v := 10) F dX6_digest_89 rfl hF.2.2 rfl ?_
      refine x_icmp_ge F dX6_digest_90 rfl (fun h90 => ?_) (fun hc => absurd hc (fun q => q (Int32.le_refl _)))
      refine x_lload_n F dX6_digest_120 rfl rfl ?_
      refine x_lret F rfl dX6_digest_121 (Nat.le_of_ble_eq_true rfl) (Nat.le_of_ble_eq_true rfl) ?_
      exact ⟨_, rfl, rfl, rfl⟩
    | succ n1 ih =>
      intro k hk1 
      refine x_iload_n F dX6_digest_84 rfl rfl ?_
      refine x_aload_n F dX6_digest_85 rfl rfl ?_
      refine x_get (ci := 5) (C := RX6) (T := TX6) (N := 12) (k := 1) F dX6_digest_86 rfl inX6 (by decide) q80 rfl hF.1 rfl ?_
      refine x_alen (v := 10) F dX6_digest_89 rfl hF.2.2 rfl ?_
      refine x_icmp_ge F dX6_digest_90 rfl (fun hc => absurd hc (nI_ge (b := 10) (by omega) (by decide))) (fun h90 => ?_)
      refine x_aload_n F dX6_digest_93 rfl rfl ?_
      refine x_get (ci := 5) (C := RX6) (T := TX6) (N := 12) (k := 1) F dX6_digest_94 rfl inX6 (by decide) q80 rfl hF.1 rfl ?_
      refine x_iload_n F dX6_digest_97 rfl rfl ?_
      refine x_aaldN F dX6_digest_98 rfl hF.2.2 (by omega) (by decide) ?_
      refine x_astoreN F dX6_digest_99 (by decide) ?_
      refine x_aloadN F dX6_digest_101 rfl ?_
      refine x_ifnullN F dX6_digest_103 rfl ?_
      refine x_iincN F dX6_digest_114 (by decide) rfl (by decide) ?_
      refine x_goto F dX6_digest_117 rfl ?_
      exact x_lk (ih (k + 1) (by omega)) ⟨rfl, rfl, rfl, trivial⟩
  have loop2 : ∀ n2 f, f + n2 = 4 → X p l e (rmd 5 0 0) s m #[.ref M] below meth c (MQ below (x_Q D dA vwC1 tyL1 B (fun r w1 => ∃ v, r = some v ∧ (v = .long (f_dg 11 58106) ∧ w1 = w))) #[.ref M] s 0 0 (fun q => B ≤ q)) D dA vwC1 B 6 0 0 33 [(0, .ref M), (1, .long (f_dg 11 58106)), (3, .int (nI f))] [] w := by
    intro n2
    induction n2 with
    | zero =>
      intro f hf1
      obtain rfl : f = 4 := by omega
      refine x_iload_n F dX6_digest_33 rfl rfl ?_
      refine x_iconst (v := 4) F dX6_digest_34 (by decide) ?_
      refine x_icmp_ge F dX6_digest_35 rfl (fun h35 => ?_) (fun hc => absurd hc (fun q => q (Int32.le_refl _)))
      refine x_iconst (v := 0) F dX6_digest_82 (by decide) ?_
      refine x_istore_n F dX6_digest_83 rfl (by decide) ?_
      exact x_lk (loop3 10 0 (by omega)) ⟨rfl, rfl, rfl, trivial⟩
    | succ n2 ih2 =>
      intro f hf1
      have inner : ∀ n1 k, k + n1 = 6 → X p l e (rmd 5 0 0) s m #[.ref M] below meth c (MQ below (x_Q D dA vwC1 tyL1 B (fun r w1 => ∃ v, r = some v ∧ (v = .long (f_dg 11 58106) ∧ w1 = w))) #[.ref M] s 0 0 (fun q => B ≤ q)) D dA vwC1 B 6 0 0 41 [(0, .ref M), (1, .long (f_dg 11 58106)), (3, .int (nI f)), (4, .int (nI k))] [] w := by
        intro n1
        induction n1 with
        | zero =>
          intro k hk1 
          obtain rfl : k = 6 := by omega
          refine x_iload F dX6_digest_41 rfl ?_
          refine x_bipush (v := 6) F dX6_digest_43 (by decide) ?_
          refine x_icmp_ge F dX6_digest_45 rfl (fun h45 => ?_) (fun hc => absurd hc (fun q => q (Int32.le_refl _)))
          refine x_iincN F dX6_digest_76 (by decide) rfl (by decide) ?_
          refine x_goto F dX6_digest_79 rfl ?_
          exact x_lk (ih2 (f + 1) (by omega)) ⟨rfl, rfl, rfl, trivial⟩
        | succ n1 ih =>
          intro k hk1 
          refine x_iload F dX6_digest_41 rfl ?_
          refine x_bipush (v := 6) F dX6_digest_43 (by decide) ?_
          refine x_icmp_ge F dX6_digest_45 rfl (fun hc => absurd hc (nI_ge (b := 6) (by omega) (by decide))) (fun h45 => ?_)
          refine x_aload_n F dX6_digest_48 rfl rfl ?_
          refine x_iload_n F dX6_digest_49 rfl rfl ?_
          refine x_iload F dX6_digest_50 rfl ?_
          refine x_cVi2 (ci := 5) (C := RX6) (T := TX6) (N := 12) F dX6_digest_52 (x_gV q119 q120 q636 q1 q121) rfl (c_versionAt hF (nI f) (nI k)) ⟨rfl, rfl, rfl, xd_X6_versionAt, ⟨Nat.le_of_ble_eq_true rfl, Nat.le_of_ble_eq_true rfl⟩, Nat.le_of_ble_eq_true rfl, Nat.le_of_ble_eq_true rfl⟩ rfl hF.1 (Nat.le_of_ble_eq_true rfl) (fun v1 w1 hp => ?_)
          obtain ⟨rfl, hw9⟩ := hp
          replace hw9 := hw9.symm
          subst hw9
          refine x_astoreN F dX6_digest_55 (by decide) ?_
          refine x_aloadN F dX6_digest_57 rfl ?_
          refine x_ifnullN F dX6_digest_59 rfl ?_
          refine x_iincN F dX6_digest_70 (by decide) rfl (by decide) ?_
          refine x_goto F dX6_digest_73 rfl ?_
          exact x_lk (ih (k + 1) (by omega)) ⟨rfl, rfl, rfl, rfl, trivial⟩
      refine x_iload_n F dX6_digest_33 rfl rfl ?_
      refine x_iconst (v := 4) F dX6_digest_34 (by decide) ?_
      refine x_icmp_ge F dX6_digest_35 rfl (fun hc => absurd hc (nI_ge (b := 4) (by omega) (by decide))) (fun h35 => ?_)
      refine x_iconst (v := 0) F dX6_digest_38 (by decide) ?_
      refine x_istore F dX6_digest_39 (by decide) ?_
      exact x_lk (inner 6 0 (by omega)) ⟨rfl, rfl, rfl, rfl, trivial⟩
  have loop1 : ∀ n1 k, k + n1 = 11 → ∀ d, f_dg n1 d = f_dg 11 58106 → X p l e (rmd 5 0 0) s m #[.ref M] below meth c (MQ below (x_Q D dA vwC1 tyL1 B (fun r w1 => ∃ v, r = some v ∧ (v = .long (f_dg 11 58106) ∧ w1 = w))) #[.ref M] s 0 0 (fun q => B ≤ q)) D dA vwC1 B 6 0 0 6 [(0, .ref M), (1, .long d), (3, .int (nI k))] [] w := by
    intro n1
    induction n1 with
    | zero =>
      intro k hk1 d hd
      obtain rfl : k = 11 := by omega
      refine x_iload_n F dX6_digest_6 rfl rfl ?_
      refine x_bipush (v := 10) F dX6_digest_7 (by decide) ?_
      refine x_icmp_gt F dX6_digest_9 rfl (fun h9 => ?_) (fun hc => absurd hc (fun q => q (by decide)))
      refine x_iconst (v := 0) F dX6_digest_31 (by decide) ?_
      refine x_istore_n F dX6_digest_32 rfl (by decide) ?_
      rw [show d = f_dg 11 58106 from hd]
      exact x_lk (loop2 4 0 (by omega)) ⟨rfl, rfl, rfl, trivial⟩
    | succ n1 ih =>
      intro k hk1 d hd
      refine x_iload_n F dX6_digest_6 rfl rfl ?_
      refine x_bipush (v := 10) F dX6_digest_7 (by decide) ?_
      refine x_icmp_gt F dX6_digest_9 rfl (fun hc => absurd hc (nI_nlt (a := 10) (by omega) (by decide))) (fun h9 => ?_)
      refine x_lload_n F dX6_digest_12 rfl rfl ?_
      refine x_ldc2 F dX6_digest_13 q112 ?_
      refine x_lmul F dX6_digest_16 ?_
      refine x_aload_n F dX6_digest_17 rfl rfl ?_
      refine x_iload_n F dX6_digest_18 rfl rfl ?_
      refine x_cVi1 (ci := 5) (C := RX6) (T := TX6) (N := 12) F dX6_digest_19 (x_gV q113 q114 q634 q1 q115) rfl (c_countOf hF (t := k) (by omega)) ⟨rfl, rfl, rfl, xd_X6_countOf, ⟨Nat.le_of_ble_eq_true rfl, Nat.le_of_ble_eq_true rfl⟩, Nat.le_of_ble_eq_true rfl, Nat.le_of_ble_eq_true rfl⟩ rfl hF.1 (Nat.le_of_ble_eq_true rfl) (fun v1 w1 hp => ?_)
      obtain ⟨rfl, hw9⟩ := hp
      replace hw9 := hw9.symm
      subst hw9
      refine x_i2l F dX6_digest_22 ?_
      refine x_ladd F dX6_digest_23 ?_
      refine x_lstore_n F dX6_digest_24 rfl (by decide) ?_
      refine x_iincN F dX6_digest_25 (by decide) rfl (by decide) ?_
      refine x_goto F dX6_digest_28 rfl ?_
      exact x_lk (ih (k + 1) (by omega) _ hd) ⟨rfl, rfl, rfl, trivial⟩
  refine x_ldc2 F dX6_digest_0 q111 ?_
  refine x_lstore_n F dX6_digest_3 rfl (by decide) ?_
  refine x_iconst (v := 0) F dX6_digest_4 (by decide) ?_
  refine x_istore_n F dX6_digest_5 rfl (by decide) ?_
  exact x_lk (loop1 11 0 (by omega) 58106 rfl) ⟨rfl, rfl, rfl, trivial⟩
end CLS
end
section
theorem dJ7_fill_53178_5 : decode cJ7_fill_53178 5 = .ok (.iload_n 2, 1) := by decide +kernel
theorem dJ7_fill_53178_6 : decode cJ7_fill_53178 6 = .ok (.iload_n 3, 1) := by decide +kernel
theorem dJ7_fill_53178_7 : decode cJ7_fill_53178 7 = .ok (.if_icmp .ge 13, 3) := by decide +kernel
theorem dJ7_fill_53178_20 : decode cJ7_fill_53178 20 = .ok (.return_, 1) := by decide +kernel
theorem dJ7_fill_53178_10 : decode cJ7_fill_53178 10 = .ok (.aload_n 0, 1) := by decide +kernel
theorem dJ7_fill_53178_11 : decode cJ7_fill_53178 11 = .ok (.iload_n 2, 1) := by decide +kernel
theorem dJ7_fill_53178_12 : decode cJ7_fill_53178 12 = .ok (.iload_n 1, 1) := by decide +kernel
theorem dJ7_fill_53178_13 : decode cJ7_fill_53178 13 = .ok (.iastore, 1) := by decide +kernel
theorem dJ7_fill_53178_14 : decode cJ7_fill_53178 14 = .ok (.iinc 2 1, 3) := by decide +kernel
theorem dJ7_fill_53178_17 : decode cJ7_fill_53178 17 = .ok (.goto (-12), 3) := by decide +kernel
theorem dJ7_fill_53178_0 : decode cJ7_fill_53178 0 = .ok (.iconst 0, 1) := by decide +kernel
theorem dJ7_fill_53178_1 : decode cJ7_fill_53178 1 = .ok (.istore_n 2, 1) := by decide +kernel
theorem dJ7_fill_53178_2 : decode cJ7_fill_53178 2 = .ok (.aload_n 0, 1) := by decide +kernel
theorem dJ7_fill_53178_3 : decode cJ7_fill_53178 3 = .ok (.arraylength, 1) := by decide +kernel
theorem dJ7_fill_53178_4 : decode cJ7_fill_53178 4 = .ok (.istore_n 3, 1) := by decide +kernel
theorem dX3_init_0 : decode cX3_init 0 = .ok (.aload_n 0, 1) := by decide +kernel
theorem dX3_init_1 : decode cX3_init 1 = .ok (.invokespecial 3, 3) := by decide +kernel
theorem dX3_init_4 : decode cX3_init 4 = .ok (.aload_n 0, 1) := by decide +kernel
theorem dX3_init_5 : decode cX3_init 5 = .ok (.iconst 5, 1) := by decide +kernel
theorem dX3_init_6 : decode cX3_init 6 = .ok (.newarray .int, 2) := by decide +kernel
theorem dX3_init_8 : decode cX3_init 8 = .ok (.putfield 9, 3) := by decide +kernel
theorem dX3_init_11 : decode cX3_init 11 = .ok (.aload_n 0, 1) := by decide +kernel
theorem dX3_init_12 : decode cX3_init 12 = .ok (.iconst (-1), 1) := by decide +kernel
theorem dX3_init_13 : decode cX3_init 13 = .ok (.putfield 15, 3) := by decide +kernel
theorem dX3_init_16 : decode cX3_init 16 = .ok (.aload_n 0, 1) := by decide +kernel
theorem dX3_init_17 : decode cX3_init 17 = .ok (.iconst (-1), 1) := by decide +kernel
theorem dX3_init_18 : decode cX3_init 18 = .ok (.putfield 19, 3) := by decide +kernel
theorem dX3_init_21 : decode cX3_init 21 = .ok (.aload_n 0, 1) := by decide +kernel
theorem dX3_init_22 : decode cX3_init 22 = .ok (.getfield 9, 3) := by decide +kernel
theorem dX3_init_25 : decode cX3_init 25 = .ok (.iconst (-1), 1) := by decide +kernel
theorem dX3_init_26 : decode cX3_init 26 = .ok (.invokestatic 22, 3) := by decide +kernel
theorem dX3_init_29 : decode cX3_init 29 = .ok (.return_, 1) := by decide +kernel
theorem dX4_init_0 : decode cX4_init 0 = .ok (.aload_n 0, 1) := by decide +kernel
theorem dX4_init_1 : decode cX4_init 1 = .ok (.invokespecial 3, 3) := by decide +kernel
theorem dX4_init_4 : decode cX4_init 4 = .ok (.aload_n 0, 1) := by decide +kernel
theorem dX4_init_5 : decode cX4_init 5 = .ok (.iconst 3, 1) := by decide +kernel
theorem dX4_init_6 : decode cX4_init 6 = .ok (.newarray .int, 2) := by decide +kernel
theorem dX4_init_8 : decode cX4_init 8 = .ok (.putfield 9, 3) := by decide +kernel
theorem dX4_init_11 : decode cX4_init 11 = .ok (.return_, 1) := by decide +kernel
theorem dX2_init_0 : decode cX2_init 0 = .ok (.aload_n 0, 1) := by decide +kernel
theorem dX2_init_1 : decode cX2_init 1 = .ok (.invokespecial 3, 3) := by decide +kernel
theorem dX2_init_4 : decode cX2_init 4 = .ok (.aload_n 0, 1) := by decide +kernel
theorem dX2_init_5 : decode cX2_init 5 = .ok (.bipush 6, 2) := by decide +kernel
theorem dX2_init_7 : decode cX2_init 7 = .ok (.anewarray 9, 3) := by decide +kernel
theorem dX2_init_10 : decode cX2_init 10 = .ok (.putfield 11, 3) := by decide +kernel
theorem dX2_init_13 : decode cX2_init 13 = .ok (.aload_n 0, 1) := by decide +kernel
theorem dX2_init_14 : decode cX2_init 14 = .ok (.iload_n 1, 1) := by decide +kernel
theorem dX2_init_15 : decode cX2_init 15 = .ok (.putfield 17, 3) := by decide +kernel
theorem dX2_init_18 : decode cX2_init 18 = .ok (.return_, 1) := by decide +kernel
theorem dX6_init_0 : decode cX6_init 0 = .ok (.aload_n 0, 1) := by decide +kernel
theorem dX6_init_1 : decode cX6_init 1 = .ok (.invokespecial 1, 3) := by decide +kernel
theorem dX6_init_4 : decode cX6_init 4 = .ok (.aload_n 0, 1) := by decide +kernel
theorem dX6_init_5 : decode cX6_init 5 = .ok (.iconst 4, 1) := by decide +kernel
theorem dX6_init_6 : decode cX6_init 6 = .ok (.anewarray 9, 3) := by decide +kernel
theorem dX6_init_9 : decode cX6_init 9 = .ok (.putfield 11, 3) := by decide +kernel
theorem dX6_init_12 : decode cX6_init 12 = .ok (.aload_n 0, 1) := by decide +kernel
theorem dX6_init_13 : decode cX6_init 13 = .ok (.bipush 10, 2) := by decide +kernel
theorem dX6_init_15 : decode cX6_init 15 = .ok (.anewarray 15, 3) := by decide +kernel
theorem dX6_init_18 : decode cX6_init 18 = .ok (.putfield 17, 3) := by decide +kernel
theorem dX6_init_21 : decode cX6_init 21 = .ok (.aload_n 0, 1) := by decide +kernel
theorem dX6_init_22 : decode cX6_init 22 = .ok (.bipush 10, 2) := by decide +kernel
theorem dX6_init_24 : decode cX6_init 24 = .ok (.anewarray 21, 3) := by decide +kernel
theorem dX6_init_27 : decode cX6_init 27 = .ok (.putfield 23, 3) := by decide +kernel
theorem dX6_init_30 : decode cX6_init 30 = .ok (.aload_n 0, 1) := by decide +kernel
theorem dX6_init_31 : decode cX6_init 31 = .ok (.new 27, 3) := by decide +kernel
theorem dX6_init_34 : decode cX6_init 34 = .ok (.dup, 1) := by decide +kernel
theorem dX6_init_35 : decode cX6_init 35 = .ok (.invokespecial 29, 3) := by decide +kernel
theorem dX6_init_38 : decode cX6_init 38 = .ok (.putfield 30, 3) := by decide +kernel
theorem dX6_init_41 : decode cX6_init 41 = .ok (.aload_n 0, 1) := by decide +kernel
theorem dX6_init_42 : decode cX6_init 42 = .ok (.new 34, 3) := by decide +kernel
theorem dX6_init_45 : decode cX6_init 45 = .ok (.dup, 1) := by decide +kernel
theorem dX6_init_46 : decode cX6_init 46 = .ok (.invokespecial 36, 3) := by decide +kernel
theorem dX6_init_49 : decode cX6_init 49 = .ok (.putfield 37, 3) := by decide +kernel
theorem dX6_init_52 : decode cX6_init 52 = .ok (.return_, 1) := by decide +kernel
theorem dX6_open_0 : decode cX6_open 0 = .ok (.aload_n 0, 1) := by decide +kernel
theorem dX6_open_1 : decode cX6_open 1 = .ok (.getfield 41, 3) := by decide +kernel
theorem dX6_open_4 : decode cX6_open 4 = .ok (.ifCond .lt 15, 3) := by decide +kernel
theorem dX6_open_7 : decode cX6_open 7 = .ok (.aload_n 0, 1) := by decide +kernel
theorem dX6_open_8 : decode cX6_open 8 = .ok (.getfield 41, 3) := by decide +kernel
theorem dX6_open_11 : decode cX6_open 11 = .ok (.aload_n 0, 1) := by decide +kernel
theorem dX6_open_12 : decode cX6_open 12 = .ok (.getfield 11, 3) := by decide +kernel
theorem dX6_open_15 : decode cX6_open 15 = .ok (.arraylength, 1) := by decide +kernel
theorem dX6_open_16 : decode cX6_open 16 = .ok (.if_icmp .lt 13, 3) := by decide +kernel
theorem dX6_open_29 : decode cX6_open 29 = .ok (.aload_n 0, 1) := by decide +kernel
theorem dX6_open_30 : decode cX6_open 30 = .ok (.getfield 11, 3) := by decide +kernel
theorem dX6_open_33 : decode cX6_open 33 = .ok (.aload_n 0, 1) := by decide +kernel
theorem dX6_open_34 : decode cX6_open 34 = .ok (.getfield 41, 3) := by decide +kernel
theorem dX6_open_37 : decode cX6_open 37 = .ok (.new 9, 3) := by decide +kernel
theorem dX6_open_40 : decode cX6_open 40 = .ok (.dup, 1) := by decide +kernel
theorem dX6_open_41 : decode cX6_open 41 = .ok (.aload_n 0, 1) := by decide +kernel
theorem dX6_open_42 : decode cX6_open 42 = .ok (.getfield 41, 3) := by decide +kernel
theorem dX6_open_45 : decode cX6_open 45 = .ok (.invokespecial 52, 3) := by decide +kernel
theorem dX6_open_48 : decode cX6_open 48 = .ok (.aastore, 1) := by decide +kernel
theorem dX6_open_49 : decode cX6_open 49 = .ok (.aload_n 0, 1) := by decide +kernel
theorem dX6_open_50 : decode cX6_open 50 = .ok (.dup, 1) := by decide +kernel
theorem dX6_open_51 : decode cX6_open 51 = .ok (.getfield 41, 3) := by decide +kernel
theorem dX6_open_54 : decode cX6_open 54 = .ok (.dup_x1, 1) := by decide +kernel
theorem dX6_open_55 : decode cX6_open 55 = .ok (.iconst 1, 1) := by decide +kernel
theorem dX6_open_56 : decode cX6_open 56 = .ok (.iadd, 1) := by decide +kernel
theorem dX6_open_57 : decode cX6_open 57 = .ok (.putfield 41, 3) := by decide +kernel
theorem dX6_open_60 : decode cX6_open 60 = .ok (.ireturn, 1) := by decide +kernel
/-! ===== the class: constructors, and its first interface ===== -/
abbrev oRet (ka : Nat) (b e n : Int32) : xE := .inr (3, [.ref ka, .int b, .int e, .int n])
abbrev oRou (a : Nat) (n k m : Int32) (v : Option Nat) : xE := .inr (4, [.ref a, .int n, .int k, .int m, va_rf v])
section CTR
variable {l : Launch} {D : va_G} {dA : Nat → ClassId} {B : Nat} {w : xW} {M Fa Ca Aa Ro Tr : Nat} {n : Int32}
def f_fill (n : Nat) (v : Int32) (f : Nat → Int32) : Nat → Int32 := fun j => if j < n then v else f j
theorem f_fill_0 (v : Int32) (f : Nat → Int32) : f_fill 0 v f = f := by funext j; exact if_neg (Nat.not_lt_zero j)
theorem f_fill_s (n : Nat) (v : Int32) (f : Nat → Int32) : upd (f_fill n v f) n v = f_fill (n + 1) v f := by
  funext j
  unfold upd f_fill
  by_cases h : j = n
  · subst h; simp
  · by_cases h2 : j < n
    · simp [h, h2, show j < n + 1 by omega]
    · simp [h, h2, show ¬ j < n + 1 by omega]
set_option maxRecDepth 100000 in
set_option maxHeartbeats 4000000 in
theorem c_fill {a n : Nat} (hn : n < 2 ^ 31) {f : Nat → Int32} (ha : w a = some (aI n f)) (v : Int32) : Cv l D dA B yJ7_fill_53178 wJ7_fill_53178 0 [.ref a, .int v] w (fun w1 => w1 = x_set w a (aI n (f_fill n v f))) := by
  refine x_Ct.of (cc := cJ7_fill_53178) (maxL := 4) (by decide) rfl (Nat.le_of_ble_eq_true rfl) ?_
  intro p e s m below meth c F
  have loop : ∀ n1 k, k + n1 = n → ∀ wz, wz = x_set w a (aI n (f_fill k v f)) → X p l e (rmd 0 0 0) s m #[.ref a, .int v] below meth c (MQ below (x_Q D dA vwC1 tyL1 B (fun r w1 => r = none ∧ (w1 = x_set w a (aI n (f_fill n v f))))) #[.ref a, .int v] s 0 0 (fun q => B ≤ q)) D dA vwC1 B 4 0 0 5 [(0, .ref a), (1, .int v), (2, .int (nI k)), (3, .int (nI n))] [] wz := by
    intro n1
    induction n1 with
    | zero =>
      intro k hk1 wz hw
      obtain rfl : k = n := by omega
      refine x_iload_n F dJ7_fill_53178_5 rfl rfl ?_
      refine x_iload_n F dJ7_fill_53178_6 rfl rfl ?_
      refine x_icmp_ge F dJ7_fill_53178_7 rfl (fun h7 => ?_) (fun hc => absurd hc (fun q => q (Int32.le_refl _)))
      refine x_vret F rfl dJ7_fill_53178_20 (Nat.le_of_ble_eq_true rfl) (Nat.le_of_ble_eq_true rfl) ?_
      exact ⟨rfl, hw⟩
    | succ n1 ih =>
      intro k hk1 wz hw
      refine x_iload_n F dJ7_fill_53178_5 rfl rfl ?_
      refine x_iload_n F dJ7_fill_53178_6 rfl rfl ?_
      refine x_icmp_ge F dJ7_fill_53178_7 rfl (fun hc => absurd hc (nI_ge (by omega) hn)) (fun h7 => ?_)
      refine x_aload_n F dJ7_fill_53178_10 rfl rfl ?_
      refine x_iload_n F dJ7_fill_53178_11 rfl rfl ?_
      refine x_iload_n F dJ7_fill_53178_12 rfl rfl ?_
      refine x_iastN F dJ7_fill_53178_13 rfl (show wz a = some (aI n (f_fill k v f)) by rw [hw]; exact x_set_eq _ _ _) (by omega) hn ?_
      refine x_wd (fun w1 hw1 => ?_)
      refine x_iincN F dJ7_fill_53178_14 (by decide) rfl (by decide) ?_
      refine x_goto F dJ7_fill_53178_17 rfl ?_
      exact x_lk (ih (k + 1) (by omega) w1 (by rw [hw1, hw, x_set_set, f_fill_s])) ⟨rfl, rfl, rfl, rfl, trivial⟩
  refine x_iconst (v := 0) F dJ7_fill_53178_0 (by decide) ?_
  refine x_istore_n F dJ7_fill_53178_1 rfl (by decide) ?_
  refine x_aload_n F dJ7_fill_53178_2 rfl rfl ?_
  refine x_alen F dJ7_fill_53178_3 rfl ha rfl ?_
  refine x_istore_n F dJ7_fill_53178_4 rfl (by decide) ?_
  exact x_lk (loop n 0 (by omega) w (by rw [f_fill_0, x_set_self ha])) ⟨rfl, rfl, rfl, rfl, trivial⟩
set_option maxRecDepth 100000 in
set_option maxHeartbeats 4000000 in
theorem c_ret_init {r : Nat} (h_r : w r = some (.inr (3, [.null, .int 0, .int 0, .int 0]))) : x_Cv l D dA vwC1 tyL1 B yX3_init wX3_init (rmd 1 1 5) [.ref r] w (fun w1 => ∃ ka, w ka = none ∧ w1 r = some (oRet ka (-1) (-1) 0) ∧ w1 ka = some (aI 5 (f_fill 5 (-1) (fun _ => 0))) ∧ ∀ b, ¬ b = r → ¬ b = ka → w1 b = w b) 1 5 := by
  refine x_Ct.of (cc := cX3_init) (maxL := 1) (by decide) rfl (Nat.le_of_ble_eq_true rfl) ?_
  intro p e s m below meth c F
  refine x_aload_n F dX3_init_0 rfl rfl ?_
  refine x_objInit F dX3_init_1 q64 q37 q38 (Nat.le_of_ble_eq_true rfl) (Nat.le_of_ble_eq_true rfl) ?_
  have hf : ∀ b, ¬ b = r → w b = w b := fun b _ => rfl
  refine x_aload_n F dX3_init_4 rfl rfl ?_
  refine x_iconst (v := 5) F dX3_init_5 (by decide) ?_
  refine x_newa (t := 0) (N := 5) F dX3_init_6 rfl q58 (by decide) rfl (Nat.le_of_ble_eq_true rfl) (Nat.le_of_ble_eq_true rfl) (Nat.le_of_ble_eq_true rfl) (fun ka hka => ?_)
  refine x_wd (fun w1 hw1 => ?_)
  have ne_r_k : ¬ r = ka := fun e => by rw [e, hka] at h_r; cases h_r
  have fr_k : w ka = none := by rw [← hf ka (fun e => ne_r_k e.symm)]; exact hka
  have h_r : w1 r = some (.inr (3, [.null, .int 0, .int 0, .int 0])) := by rw [hw1, x_set_ne _ _ ne_r_k]; exact h_r
  have h_k : w1 ka = some (aI 5 (fun _ => 0)) := by rw [hw1]; exact x_set_eq _ _ _
  have hf : ∀ b, ¬ b = r → ¬ b = ka → w1 b = w b := fun b g0 g1 => by rw [hw1]; exact (x_set_ne _ _ g1).trans (hf b g0)
  refine x_putF (ci := 3) (C := RX3) (T := TX3) (N := 4) (k := 0) F dX3_init_8 rfl inX3 tyX3 tyX3_ok nmX3 (by decide) q68 rfl rfl rfl rfl h_r (Nat.le_of_ble_eq_true rfl) rfl rfl ?_
  refine x_wd (fun w2 hw2 => ?_)
  have h_r : w2 r = some (.inr (3, [.ref ka, .int 0, .int 0, .int 0])) := by rw [hw2]; exact x_set_eq _ _ _
  have h_k : w2 ka = some (aI 5 (fun _ => 0)) := by rw [hw2, x_set_ne _ _ (fun e => ne_r_k e.symm)]; exact h_k
  have hf : ∀ b, ¬ b = r → ¬ b = ka → w2 b = w b := fun b g0 g1 => by rw [hw2]; exact (x_set_ne _ _ g0).trans (hf b g0 g1)
  refine x_aload_n F dX3_init_11 rfl rfl ?_
  refine x_iconst (v := (-1)) F dX3_init_12 (by decide) ?_
  refine x_put (ci := 3) (C := RX3) (T := TX3) (N := 4) (k := 1) F dX3_init_13 rfl inX3 tyX3 tyX3_ok nmX3 (by decide) q69 rfl rfl h_r (Nat.le_of_ble_eq_true rfl) rfl rfl ?_
  refine x_wd (fun w3 hw3 => ?_)
  have h_r : w3 r = some (.inr (3, [.ref ka, .int (-1), .int 0, .int 0])) := by rw [hw3]; exact x_set_eq _ _ _
  have h_k : w3 ka = some (aI 5 (fun _ => 0)) := by rw [hw3, x_set_ne _ _ (fun e => ne_r_k e.symm)]; exact h_k
  have hf : ∀ b, ¬ b = r → ¬ b = ka → w3 b = w b := fun b g0 g1 => by rw [hw3]; exact (x_set_ne _ _ g0).trans (hf b g0 g1)
  refine x_aload_n F dX3_init_16 rfl rfl ?_
  refine x_iconst (v := (-1)) F dX3_init_17 (by decide) ?_
  refine x_put (ci := 3) (C := RX3) (T := TX3) (N := 4) (k := 2) F dX3_init_18 rfl inX3 tyX3 tyX3_ok nmX3 (by decide) q71 rfl rfl h_r (Nat.le_of_ble_eq_true rfl) rfl rfl ?_
  refine x_wd (fun w4 hw4 => ?_)
  have h_r : w4 r = some (.inr (3, [.ref ka, .int (-1), .int (-1), .int 0])) := by rw [hw4]; exact x_set_eq _ _ _
  have h_k : w4 ka = some (aI 5 (fun _ => 0)) := by rw [hw4, x_set_ne _ _ (fun e => ne_r_k e.symm)]; exact h_k
  have hf : ∀ b, ¬ b = r → ¬ b = ka → w4 b = w b := fun b g0 g1 => by rw [hw4]; exact (x_set_ne _ _ g0).trans (hf b g0 g1)
  refine x_aload_n F dX3_init_21 rfl rfl ?_
  refine x_get (ci := 3) (C := RX3) (T := TX3) (N := 4) (k := 0) F dX3_init_22 rfl inX3 (by decide) q68 rfl h_r rfl ?_
  refine x_iconst (v := (-1)) F dX3_init_25 (by decide) ?_
  refine x_cSv2 F dX3_init_26 (x_gS q65 q66 q4 q67) (c_fill (by decide) h_k (-1)) ⟨rfl, rfl, rfl, xd_J7_fill_53178, ⟨Nat.le_of_ble_eq_true rfl, Nat.le_of_ble_eq_true rfl⟩, Nat.le_of_ble_eq_true rfl, Nat.le_of_ble_eq_true rfl⟩ (Nat.le_of_ble_eq_true rfl) (fun w1 hp => ?_)
  obtain ⟨w5, hw5⟩ : ∃ w5, w5 = w1 := ⟨_, rfl⟩
  rw [← hw5]
  rw [hp] at hw5
  have h_r : w5 r = some (.inr (3, [.ref ka, .int (-1), .int (-1), .int 0])) := by rw [hw5, x_set_ne _ _ ne_r_k]; exact h_r
  have h_k : w5 ka = some (aI 5 (f_fill 5 (-1) (fun _ => 0))) := by rw [hw5]; exact x_set_eq _ _ _
  have hf : ∀ b, ¬ b = r → ¬ b = ka → w5 b = w b := fun b g0 g1 => by rw [hw5]; exact (x_set_ne _ _ g1).trans (hf b g0 g1)
  refine x_vret F rfl dX3_init_29 (Nat.le_of_ble_eq_true rfl) (Nat.le_of_ble_eq_true rfl) ?_
  exact ⟨rfl, ka, fr_k, h_r, h_k, hf⟩
set_option maxRecDepth 100000 in
set_option maxHeartbeats 4000000 in
theorem c_rou_init {r : Nat} (h_r : w r = some (.inr (4, [.null, .int 0, .int 0, .int 0, .null]))) : x_Cv l D dA vwC1 tyL1 B yX4_init wX4_init (rmd 1 1 3) [.ref r] w (fun w1 => ∃ ka, w ka = none ∧ w1 r = some (oRou ka 0 0 0 none) ∧ w1 ka = some (aI 3 (fun _ => 0)) ∧ ∀ b, ¬ b = r → ¬ b = ka → w1 b = w b) 1 3 := by
  refine x_Ct.of (cc := cX4_init) (maxL := 1) (by decide) rfl (Nat.le_of_ble_eq_true rfl) ?_
  intro p e s m below meth c F
  refine x_aload_n F dX4_init_0 rfl rfl ?_
  refine x_objInit F dX4_init_1 q46 q37 q38 (Nat.le_of_ble_eq_true rfl) (Nat.le_of_ble_eq_true rfl) ?_
  have hf : ∀ b, ¬ b = r → w b = w b := fun b _ => rfl
  refine x_aload_n F dX4_init_4 rfl rfl ?_
  refine x_iconst (v := 3) F dX4_init_5 (by decide) ?_
  refine x_newa (t := 0) (N := 3) F dX4_init_6 rfl q58 (by decide) rfl (Nat.le_of_ble_eq_true rfl) (Nat.le_of_ble_eq_true rfl) (Nat.le_of_ble_eq_true rfl) (fun ka hka => ?_)
  refine x_wd (fun w1 hw1 => ?_)
  have ne_r_k : ¬ r = ka := fun e => by rw [e, hka] at h_r; cases h_r
  have fr_k : w ka = none := by rw [← hf ka (fun e => ne_r_k e.symm)]; exact hka
  have h_r : w1 r = some (.inr (4, [.null, .int 0, .int 0, .int 0, .null])) := by rw [hw1, x_set_ne _ _ ne_r_k]; exact h_r
  have h_k : w1 ka = some (aI 3 (fun _ => 0)) := by rw [hw1]; exact x_set_eq _ _ _
  have hf : ∀ b, ¬ b = r → ¬ b = ka → w1 b = w b := fun b g0 g1 => by rw [hw1]; exact (x_set_ne _ _ g1).trans (hf b g0)
  refine x_putF (ci := 4) (C := RX4) (T := TX4) (N := 5) (k := 0) F dX4_init_8 rfl inX4 tyX4 tyX4_ok nmX4 (by decide) q47 rfl rfl rfl rfl h_r (Nat.le_of_ble_eq_true rfl) rfl rfl ?_
  refine x_wd (fun w2 hw2 => ?_)
  have h_r : w2 r = some (.inr (4, [.ref ka, .int 0, .int 0, .int 0, .null])) := by rw [hw2]; exact x_set_eq _ _ _
  have h_k : w2 ka = some (aI 3 (fun _ => 0)) := by rw [hw2, x_set_ne _ _ (fun e => ne_r_k e.symm)]; exact h_k
  have hf : ∀ b, ¬ b = r → ¬ b = ka → w2 b = w b := fun b g0 g1 => by rw [hw2]; exact (x_set_ne _ _ g0).trans (hf b g0 g1)
  refine x_vret F rfl dX4_init_11 (Nat.le_of_ble_eq_true rfl) (Nat.le_of_ble_eq_true rfl) ?_
  exact ⟨rfl, ka, fr_k, h_r, h_k, hf⟩
set_option maxRecDepth 100000 in
set_option maxHeartbeats 4000000 in
theorem c_face_init {r : Nat} (h_r : w r = some (.inr (2, [.int 0, .null, .int 0]))) (n : Int32) : x_Cv l D dA vwC1 tyL1 B yX2_init wX2_init (rmd 1 1 6) [.ref r, .int n] w (fun w1 => ∃ ka, w ka = none ∧ w1 r = some (.inr (2, [.int n, .ref ka, .int 0])) ∧ w1 ka = some (aV 6 (fun _ => none)) ∧ ∀ b, ¬ b = r → ¬ b = ka → w1 b = w b) 1 6 := by
  refine x_Ct.of (cc := cX2_init) (maxL := 2) (by decide) rfl (Nat.le_of_ble_eq_true rfl) ?_
  intro p e s m below meth c F
  refine x_aload_n F dX2_init_0 rfl rfl ?_
  refine x_objInit F dX2_init_1 q144 q37 q38 (Nat.le_of_ble_eq_true rfl) (Nat.le_of_ble_eq_true rfl) ?_
  have hf : ∀ b, ¬ b = r → w b = w b := fun b _ => rfl
  refine x_aload_n F dX2_init_4 rfl rfl ?_
  refine x_bipush (v := 6) F dX2_init_5 (by decide) ?_
  refine x_newq (t := 4) (N := 6) (C := RX5) F dX2_init_7 rfl q145 (x8 (x_Fix.xt F)) (by decide) rfl (Nat.le_of_ble_eq_true rfl) (Nat.le_of_ble_eq_true rfl) (Nat.le_of_ble_eq_true rfl) (fun ka hka => ?_)
  refine x_wd (fun w1 hw1 => ?_)
  have ne_r_k : ¬ r = ka := fun e => by rw [e, hka] at h_r; cases h_r
  have fr_k : w ka = none := by rw [← hf ka (fun e => ne_r_k e.symm)]; exact hka
  have h_r : w1 r = some (.inr (2, [.int 0, .null, .int 0])) := by rw [hw1, x_set_ne _ _ ne_r_k]; exact h_r
  have h_k : w1 ka = some (aV 6 (fun _ => none)) := by rw [hw1]; exact x_set_eq _ _ _
  have hf : ∀ b, ¬ b = r → ¬ b = ka → w1 b = w b := fun b g0 g1 => by rw [hw1]; exact (x_set_ne _ _ g1).trans (hf b g0)
  refine x_putF (ci := 2) (C := RX2) (T := TX2) (N := 3) (k := 1) F dX2_init_10 rfl inX2 tyX2 tyX2_ok nmX2 (by decide) q148 rfl rfl rfl rfl h_r (Nat.le_of_ble_eq_true rfl) rfl rfl ?_
  refine x_wd (fun w2 hw2 => ?_)
  have h_r : w2 r = some (.inr (2, [.int 0, .ref ka, .int 0])) := by rw [hw2]; exact x_set_eq _ _ _
  have h_k : w2 ka = some (aV 6 (fun _ => none)) := by rw [hw2, x_set_ne _ _ (fun e => ne_r_k e.symm)]; exact h_k
  have hf : ∀ b, ¬ b = r → ¬ b = ka → w2 b = w b := fun b g0 g1 => by rw [hw2]; exact (x_set_ne _ _ g0).trans (hf b g0 g1)
  refine x_aload_n F dX2_init_13 rfl rfl ?_
  refine x_iload_n F dX2_init_14 rfl rfl ?_
  refine x_putF (ci := 2) (C := RX2) (T := TX2) (N := 3) (k := 0) F dX2_init_15 rfl inX2 tyX2 tyX2_ok nmX2 (by decide) q146 rfl rfl rfl rfl h_r (Nat.le_of_ble_eq_true rfl) rfl rfl ?_
  refine x_wd (fun w3 hw3 => ?_)
  have h_r : w3 r = some (.inr (2, [.int n, .ref ka, .int 0])) := by rw [hw3]; exact x_set_eq _ _ _
  have h_k : w3 ka = some (aV 6 (fun _ => none)) := by rw [hw3, x_set_ne _ _ (fun e => ne_r_k e.symm)]; exact h_k
  have hf : ∀ b, ¬ b = r → ¬ b = ka → w3 b = w b := fun b g0 g1 => by rw [hw3]; exact (x_set_ne _ _ g0).trans (hf b g0 g1)
  refine x_vret F rfl dX2_init_18 (Nat.le_of_ble_eq_true rfl) (Nat.le_of_ble_eq_true rfl) ?_
  exact ⟨rfl, ka, fr_k, h_r, h_k, hf⟩
set_option maxRecDepth 100000 in
set_option maxHeartbeats 4000000 in
theorem c_init {r : Nat} (h_r : w r = some (.inr (5, [.null, .null, .null, .int 0, .int 0, .int 0, .int 0, .int 0, .int 0, .int 0, .null, .null]))) : x_Cv l D dA vwC1 tyL1 B yX6_init wX6_init (rmd 2 7 41) [.ref r] w (fun w1 => ∃ Fa Ca Aa Ro Tr, FR w1 r Fa Ca Aa Ro Tr 0 ∧ ∀ a x, w a = some x → ¬ a = r → w1 a = some x) 7 41 := by
  refine x_Ct.of (cc := cX6_init) (maxL := 1) (by decide) rfl (Nat.le_of_ble_eq_true rfl) ?_
  intro p e s m below meth c F
  have hf : ∀ b, ¬ b = r → w b = w b := fun b _ => rfl
  refine x_aload_n F dX6_init_0 rfl rfl ?_
  refine x_objInit F dX6_init_1 q36 q37 q38 (Nat.le_of_ble_eq_true rfl) (Nat.le_of_ble_eq_true rfl) ?_
  refine x_aload_n F dX6_init_4 rfl rfl ?_
  refine x_iconst (v := 4) F dX6_init_5 (by decide) ?_
  refine x_newq (t := 1) (N := 4) (C := RX2) F dX6_init_6 rfl q39 (x1 (x_Fix.xt F)) (by decide) rfl (Nat.le_of_ble_eq_true rfl) (Nat.le_of_ble_eq_true rfl) (Nat.le_of_ble_eq_true rfl) (fun a1 ha1 => ?_)
  refine x_wd (fun w1 hw1 => ?_)
  have ne_r_a1 : ¬ r = a1 := fun e => by rw [e, ha1] at h_r; cases h_r
  have fr_a1 : w a1 = none := by rw [← hf a1 (fun e => ne_r_a1 e.symm)]; exact ha1
  have h_r : w1 r = some (.inr (5, [.null, .null, .null, .int 0, .int 0, .int 0, .int 0, .int 0, .int 0, .int 0, .null, .null])) := by rw [hw1, x_set_ne _ _ ne_r_a1]; exact h_r
  have h_a1 : w1 a1 = some (aF 4 (fun _ => none)) := by rw [hw1]; exact x_set_eq _ _ _
  have hf : ∀ b, ¬ b = r → ¬ b = a1 → w1 b = w b := fun b g0 g1 => by rw [hw1]; exact (x_set_ne _ _ g1).trans (hf b g0)
  refine x_putF (ci := 5) (C := RX6) (T := TX6) (N := 12) (k := 0) F dX6_init_9 rfl inX6 tyX6 tyX6_ok nmX6 (by decide) q79 rfl rfl rfl rfl h_r (Nat.le_of_ble_eq_true rfl) rfl rfl ?_
  refine x_wd (fun w2 hw2 => ?_)
  have h_r : w2 r = some (.inr (5, [.ref a1, .null, .null, .int 0, .int 0, .int 0, .int 0, .int 0, .int 0, .int 0, .null, .null])) := by rw [hw2]; exact x_set_eq _ _ _
  have h_a1 : w2 a1 = some (aF 4 (fun _ => none)) := by rw [hw2, x_set_ne _ _ (fun e => ne_r_a1 e.symm)]; exact h_a1
  have hf : ∀ b, ¬ b = r → ¬ b = a1 → w2 b = w b := fun b g0 g1 => by rw [hw2]; exact (x_set_ne _ _ g0).trans (hf b g0 g1)
  refine x_aload_n F dX6_init_12 rfl rfl ?_
  refine x_bipush (v := 10) F dX6_init_13 (by decide) ?_
  refine x_newq (t := 2) (N := 10) (C := RX1) F dX6_init_15 rfl q40 (x2 (x_Fix.xt F)) (by decide) rfl (Nat.le_of_ble_eq_true rfl) (Nat.le_of_ble_eq_true rfl) (Nat.le_of_ble_eq_true rfl) (fun a2 ha2 => ?_)
  refine x_wd (fun w3 hw3 => ?_)
  have ne_r_a2 : ¬ r = a2 := fun e => by rw [e, ha2] at h_r; cases h_r
  have ne_a1_a2 : ¬ a1 = a2 := fun e => by rw [e, ha2] at h_a1; cases h_a1
  have fr_a2 : w a2 = none := by rw [← hf a2 (fun e => ne_r_a2 e.symm) (fun e => ne_a1_a2 e.symm)]; exact ha2
  have h_r : w3 r = some (.inr (5, [.ref a1, .null, .null, .int 0, .int 0, .int 0, .int 0, .int 0, .int 0, .int 0, .null, .null])) := by rw [hw3, x_set_ne _ _ ne_r_a2]; exact h_r
  have h_a1 : w3 a1 = some (aF 4 (fun _ => none)) := by rw [hw3, x_set_ne _ _ ne_a1_a2]; exact h_a1
  have h_a2 : w3 a2 = some (aC 10 (fun _ => none)) := by rw [hw3]; exact x_set_eq _ _ _
  have hf : ∀ b, ¬ b = r → ¬ b = a1 → ¬ b = a2 → w3 b = w b := fun b g0 g1 g2 => by rw [hw3]; exact (x_set_ne _ _ g2).trans (hf b g0 g1)
  refine x_putF (ci := 5) (C := RX6) (T := TX6) (N := 12) (k := 1) F dX6_init_18 rfl inX6 tyX6 tyX6_ok nmX6 (by decide) q80 rfl rfl rfl rfl h_r (Nat.le_of_ble_eq_true rfl) rfl rfl ?_
  refine x_wd (fun w4 hw4 => ?_)
  have h_r : w4 r = some (.inr (5, [.ref a1, .ref a2, .null, .int 0, .int 0, .int 0, .int 0, .int 0, .int 0, .int 0, .null, .null])) := by rw [hw4]; exact x_set_eq _ _ _
  have h_a1 : w4 a1 = some (aF 4 (fun _ => none)) := by rw [hw4, x_set_ne _ _ (fun e => ne_r_a1 e.symm)]; exact h_a1
  have h_a2 : w4 a2 = some (aC 10 (fun _ => none)) := by rw [hw4, x_set_ne _ _ (fun e => ne_r_a2 e.symm)]; exact h_a2
  have hf : ∀ b, ¬ b = r → ¬ b = a1 → ¬ b = a2 → w4 b = w b := fun b g0 g1 g2 => by rw [hw4]; exact (x_set_ne _ _ g0).trans (hf b g0 g1 g2)
  refine x_aload_n F dX6_init_21 rfl rfl ?_
  refine x_bipush (v := 10) F dX6_init_22 (by decide) ?_
  refine x_newq (t := 3) (N := 10) (C := RX0) F dX6_init_24 rfl q41 (x3 (x_Fix.xt F)) (by decide) rfl (Nat.le_of_ble_eq_true rfl) (Nat.le_of_ble_eq_true rfl) (Nat.le_of_ble_eq_true rfl) (fun a3 ha3 => ?_)
  refine x_wd (fun w5 hw5 => ?_)
  have ne_r_a3 : ¬ r = a3 := fun e => by rw [e, ha3] at h_r; cases h_r
  have ne_a1_a3 : ¬ a1 = a3 := fun e => by rw [e, ha3] at h_a1; cases h_a1
  have ne_a2_a3 : ¬ a2 = a3 := fun e => by rw [e, ha3] at h_a2; cases h_a2
  have fr_a3 : w a3 = none := by rw [← hf a3 (fun e => ne_r_a3 e.symm) (fun e => ne_a1_a3 e.symm) (fun e => ne_a2_a3 e.symm)]; exact ha3
  have h_r : w5 r = some (.inr (5, [.ref a1, .ref a2, .null, .int 0, .int 0, .int 0, .int 0, .int 0, .int 0, .int 0, .null, .null])) := by rw [hw5, x_set_ne _ _ ne_r_a3]; exact h_r
  have h_a1 : w5 a1 = some (aF 4 (fun _ => none)) := by rw [hw5, x_set_ne _ _ ne_a1_a3]; exact h_a1
  have h_a2 : w5 a2 = some (aC 10 (fun _ => none)) := by rw [hw5, x_set_ne _ _ ne_a2_a3]; exact h_a2
  have h_a3 : w5 a3 = some (aA 10 (fun _ => none)) := by rw [hw5]; exact x_set_eq _ _ _
  have hf : ∀ b, ¬ b = r → ¬ b = a1 → ¬ b = a2 → ¬ b = a3 → w5 b = w b := fun b g0 g1 g2 g3 => by rw [hw5]; exact (x_set_ne _ _ g3).trans (hf b g0 g1 g2)
  refine x_putF (ci := 5) (C := RX6) (T := TX6) (N := 12) (k := 2) F dX6_init_27 rfl inX6 tyX6 tyX6_ok nmX6 (by decide) q81 rfl rfl rfl rfl h_r (Nat.le_of_ble_eq_true rfl) rfl rfl ?_
  refine x_wd (fun w6 hw6 => ?_)
  have h_r : w6 r = some (.inr (5, [.ref a1, .ref a2, .ref a3, .int 0, .int 0, .int 0, .int 0, .int 0, .int 0, .int 0, .null, .null])) := by rw [hw6]; exact x_set_eq _ _ _
  have h_a1 : w6 a1 = some (aF 4 (fun _ => none)) := by rw [hw6, x_set_ne _ _ (fun e => ne_r_a1 e.symm)]; exact h_a1
  have h_a2 : w6 a2 = some (aC 10 (fun _ => none)) := by rw [hw6, x_set_ne _ _ (fun e => ne_r_a2 e.symm)]; exact h_a2
  have h_a3 : w6 a3 = some (aA 10 (fun _ => none)) := by rw [hw6, x_set_ne _ _ (fun e => ne_r_a3 e.symm)]; exact h_a3
  have hf : ∀ b, ¬ b = r → ¬ b = a1 → ¬ b = a2 → ¬ b = a3 → w6 b = w b := fun b g0 g1 g2 g3 => by rw [hw6]; exact (x_set_ne _ _ g0).trans (hf b g0 g1 g2 g3)
  refine x_aload_n F dX6_init_30 rfl rfl ?_
  refine x_new (ci := 4) (C := RX4) (T := TX4) (N := 5) (fs := [.null, .int 0, .int 0, .int 0, .null]) F dX6_init_31 rfl inX4 tyX4 tyX4_ok q42 q43 q2 (fun j hj => by rcases (show j = 0 ∨ j = 1 ∨ j = 2 ∨ j = 3 ∨ j = 4 by omega) with rfl | rfl | rfl | rfl | rfl <;> rfl) (Nat.le_of_ble_eq_true rfl) (Nat.le_of_ble_eq_true rfl) (fun ro hro => ?_)
  refine x_wd (fun w7 hw7 => ?_)
  have ne_r_ro : ¬ r = ro := fun e => by rw [e, hro] at h_r; cases h_r
  have ne_a1_ro : ¬ a1 = ro := fun e => by rw [e, hro] at h_a1; cases h_a1
  have ne_a2_ro : ¬ a2 = ro := fun e => by rw [e, hro] at h_a2; cases h_a2
  have ne_a3_ro : ¬ a3 = ro := fun e => by rw [e, hro] at h_a3; cases h_a3
  have fr_ro : w ro = none := by rw [← hf ro (fun e => ne_r_ro e.symm) (fun e => ne_a1_ro e.symm) (fun e => ne_a2_ro e.symm) (fun e => ne_a3_ro e.symm)]; exact hro
  have h_r : w7 r = some (.inr (5, [.ref a1, .ref a2, .ref a3, .int 0, .int 0, .int 0, .int 0, .int 0, .int 0, .int 0, .null, .null])) := by rw [hw7, x_set_ne _ _ ne_r_ro]; exact h_r
  have h_a1 : w7 a1 = some (aF 4 (fun _ => none)) := by rw [hw7, x_set_ne _ _ ne_a1_ro]; exact h_a1
  have h_a2 : w7 a2 = some (aC 10 (fun _ => none)) := by rw [hw7, x_set_ne _ _ ne_a2_ro]; exact h_a2
  have h_a3 : w7 a3 = some (aA 10 (fun _ => none)) := by rw [hw7, x_set_ne _ _ ne_a3_ro]; exact h_a3
  have h_ro : w7 ro = some (.inr (4, [.null, .int 0, .int 0, .int 0, .null])) := by rw [hw7]; exact x_set_eq _ _ _
  have hf : ∀ b, ¬ b = r → ¬ b = a1 → ¬ b = a2 → ¬ b = a3 → ¬ b = ro → w7 b = w b := fun b g0 g1 g2 g3 g4 => by rw [hw7]; exact (x_set_ne _ _ g4).trans (hf b g0 g1 g2 g3)
  refine x_dup F dX6_init_34 rfl ?_
  refine x_cIN0 F dX6_init_35 (x_gI q45) q2 (x4 (x_Fix.xt F)) q44 rfl (c_rou_init h_ro) ⟨rfl, rfl, rfl, xd_X4_init, ⟨Nat.le_of_ble_eq_true rfl, Nat.le_of_ble_eq_true rfl⟩, Nat.le_of_ble_eq_true rfl, Nat.le_of_ble_eq_true rfl⟩ (Nat.le_of_ble_eq_true rfl) (fun w1 hp => ?_)
  obtain ⟨st, fst, g_ro, g_st, hf2⟩ := hp
  have ne_r_st : ¬ r = st := fun e => by rw [e, fst] at h_r; cases h_r
  have ne_a1_st : ¬ a1 = st := fun e => by rw [e, fst] at h_a1; cases h_a1
  have ne_a2_st : ¬ a2 = st := fun e => by rw [e, fst] at h_a2; cases h_a2
  have ne_a3_st : ¬ a3 = st := fun e => by rw [e, fst] at h_a3; cases h_a3
  have ne_ro_st : ¬ ro = st := fun e => by rw [e, fst] at h_ro; cases h_ro
  have fr_st : w st = none := by rw [← hf st (fun e => ne_r_st e.symm) (fun e => ne_a1_st e.symm) (fun e => ne_a2_st e.symm) (fun e => ne_a3_st e.symm) (fun e => ne_ro_st e.symm)]; exact fst
  have h_r : w1 r = some (.inr (5, [.ref a1, .ref a2, .ref a3, .int 0, .int 0, .int 0, .int 0, .int 0, .int 0, .int 0, .null, .null])) := by rw [hf2 r ne_r_ro ne_r_st]; exact h_r
  have h_a1 : w1 a1 = some (aF 4 (fun _ => none)) := by rw [hf2 a1 ne_a1_ro ne_a1_st]; exact h_a1
  have h_a2 : w1 a2 = some (aC 10 (fun _ => none)) := by rw [hf2 a2 ne_a2_ro ne_a2_st]; exact h_a2
  have h_a3 : w1 a3 = some (aA 10 (fun _ => none)) := by rw [hf2 a3 ne_a3_ro ne_a3_st]; exact h_a3
  have h_ro : w1 ro = some (oRou st 0 0 0 none) := g_ro
  have h_st : w1 st = some (aI 3 (fun _ => 0)) := g_st
  have hf : ∀ b, ¬ b = r → ¬ b = a1 → ¬ b = a2 → ¬ b = a3 → ¬ b = ro → ¬ b = st → w1 b = w b := fun b g0 g1 g2 g3 g4 g5 => by rw [hf2 b g4 g5]; exact hf b g0 g1 g2 g3 g4
  refine x_putF (ci := 5) (C := RX6) (T := TX6) (N := 12) (k := 10) F dX6_init_38 rfl inX6 tyX6 tyX6_ok nmX6 (by decide) q89 rfl rfl rfl rfl h_r (Nat.le_of_ble_eq_true rfl) rfl rfl ?_
  refine x_wd (fun w8 hw8 => ?_)
  have h_r : w8 r = some (.inr (5, [.ref a1, .ref a2, .ref a3, .int 0, .int 0, .int 0, .int 0, .int 0, .int 0, .int 0, .ref ro, .null])) := by rw [hw8]; exact x_set_eq _ _ _
  have h_a1 : w8 a1 = some (aF 4 (fun _ => none)) := by rw [hw8, x_set_ne _ _ (fun e => ne_r_a1 e.symm)]; exact h_a1
  have h_a2 : w8 a2 = some (aC 10 (fun _ => none)) := by rw [hw8, x_set_ne _ _ (fun e => ne_r_a2 e.symm)]; exact h_a2
  have h_a3 : w8 a3 = some (aA 10 (fun _ => none)) := by rw [hw8, x_set_ne _ _ (fun e => ne_r_a3 e.symm)]; exact h_a3
  have h_ro : w8 ro = some (oRou st 0 0 0 none) := by rw [hw8, x_set_ne _ _ (fun e => ne_r_ro e.symm)]; exact h_ro
  have h_st : w8 st = some (aI 3 (fun _ => 0)) := by rw [hw8, x_set_ne _ _ (fun e => ne_r_st e.symm)]; exact h_st
  have hf : ∀ b, ¬ b = r → ¬ b = a1 → ¬ b = a2 → ¬ b = a3 → ¬ b = ro → ¬ b = st → w8 b = w b := fun b g0 g1 g2 g3 g4 g5 => by rw [hw8]; exact (x_set_ne _ _ g0).trans (hf b g0 g1 g2 g3 g4 g5)
  refine x_aload_n F dX6_init_41 rfl rfl ?_
  refine x_new (ci := 3) (C := RX3) (T := TX3) (N := 4) (fs := [.null, .int 0, .int 0, .int 0]) F dX6_init_42 rfl inX3 tyX3 tyX3_ok q59 q60 q3 (fun j hj => by rcases (show j = 0 ∨ j = 1 ∨ j = 2 ∨ j = 3 by omega) with rfl | rfl | rfl | rfl <;> rfl) (Nat.le_of_ble_eq_true rfl) (Nat.le_of_ble_eq_true rfl) (fun tr htr => ?_)
  refine x_wd (fun w9 hw9 => ?_)
  have ne_r_tr : ¬ r = tr := fun e => by rw [e, htr] at h_r; cases h_r
  have ne_a1_tr : ¬ a1 = tr := fun e => by rw [e, htr] at h_a1; cases h_a1
  have ne_a2_tr : ¬ a2 = tr := fun e => by rw [e, htr] at h_a2; cases h_a2
  have ne_a3_tr : ¬ a3 = tr := fun e => by rw [e, htr] at h_a3; cases h_a3
  have ne_ro_tr : ¬ ro = tr := fun e => by rw [e, htr] at h_ro; cases h_ro
  have ne_st_tr : ¬ st = tr := fun e => by rw [e, htr] at h_st; cases h_st
  have fr_tr : w tr = none := by rw [← hf tr (fun e => ne_r_tr e.symm) (fun e => ne_a1_tr e.symm) (fun e => ne_a2_tr e.symm) (fun e => ne_a3_tr e.symm) (fun e => ne_ro_tr e.symm) (fun e => ne_st_tr e.symm)]; exact htr
  have h_r : w9 r = some (.inr (5, [.ref a1, .ref a2, .ref a3, .int 0, .int 0, .int 0, .int 0, .int 0, .int 0, .int 0, .ref ro, .null])) := by rw [hw9, x_set_ne _ _ ne_r_tr]; exact h_r
  have h_a1 : w9 a1 = some (aF 4 (fun _ => none)) := by rw [hw9, x_set_ne _ _ ne_a1_tr]; exact h_a1
  have h_a2 : w9 a2 = some (aC 10 (fun _ => none)) := by rw [hw9, x_set_ne _ _ ne_a2_tr]; exact h_a2
  have h_a3 : w9 a3 = some (aA 10 (fun _ => none)) := by rw [hw9, x_set_ne _ _ ne_a3_tr]; exact h_a3
  have h_ro : w9 ro = some (oRou st 0 0 0 none) := by rw [hw9, x_set_ne _ _ ne_ro_tr]; exact h_ro
  have h_st : w9 st = some (aI 3 (fun _ => 0)) := by rw [hw9, x_set_ne _ _ ne_st_tr]; exact h_st
  have h_tr : w9 tr = some (.inr (3, [.null, .int 0, .int 0, .int 0])) := by rw [hw9]; exact x_set_eq _ _ _
  have hf : ∀ b, ¬ b = r → ¬ b = a1 → ¬ b = a2 → ¬ b = a3 → ¬ b = ro → ¬ b = st → ¬ b = tr → w9 b = w b := fun b g0 g1 g2 g3 g4 g5 g6 => by rw [hw9]; exact (x_set_ne _ _ g6).trans (hf b g0 g1 g2 g3 g4 g5)
  refine x_dup F dX6_init_45 rfl ?_
  refine x_cI0 F dX6_init_46 (x_gI q63) q3 q61 q62 rfl (c_ret_init h_tr) ⟨rfl, rfl, rfl, xd_X3_init, ⟨Nat.le_of_ble_eq_true rfl, Nat.le_of_ble_eq_true rfl⟩, Nat.le_of_ble_eq_true rfl, Nat.le_of_ble_eq_true rfl⟩ (Nat.le_of_ble_eq_true rfl) (fun w1 hp => ?_)
  obtain ⟨ka, fka, g_tr, g_ka, hf2⟩ := hp
  have ne_r_ka : ¬ r = ka := fun e => by rw [e, fka] at h_r; cases h_r
  have ne_a1_ka : ¬ a1 = ka := fun e => by rw [e, fka] at h_a1; cases h_a1
  have ne_a2_ka : ¬ a2 = ka := fun e => by rw [e, fka] at h_a2; cases h_a2
  have ne_a3_ka : ¬ a3 = ka := fun e => by rw [e, fka] at h_a3; cases h_a3
  have ne_ro_ka : ¬ ro = ka := fun e => by rw [e, fka] at h_ro; cases h_ro
  have ne_st_ka : ¬ st = ka := fun e => by rw [e, fka] at h_st; cases h_st
  have ne_tr_ka : ¬ tr = ka := fun e => by rw [e, fka] at h_tr; cases h_tr
  have fr_ka : w ka = none := by rw [← hf ka (fun e => ne_r_ka e.symm) (fun e => ne_a1_ka e.symm) (fun e => ne_a2_ka e.symm) (fun e => ne_a3_ka e.symm) (fun e => ne_ro_ka e.symm) (fun e => ne_st_ka e.symm) (fun e => ne_tr_ka e.symm)]; exact fka
  have h_r : w1 r = some (.inr (5, [.ref a1, .ref a2, .ref a3, .int 0, .int 0, .int 0, .int 0, .int 0, .int 0, .int 0, .ref ro, .null])) := by rw [hf2 r ne_r_tr ne_r_ka]; exact h_r
  have h_a1 : w1 a1 = some (aF 4 (fun _ => none)) := by rw [hf2 a1 ne_a1_tr ne_a1_ka]; exact h_a1
  have h_a2 : w1 a2 = some (aC 10 (fun _ => none)) := by rw [hf2 a2 ne_a2_tr ne_a2_ka]; exact h_a2
  have h_a3 : w1 a3 = some (aA 10 (fun _ => none)) := by rw [hf2 a3 ne_a3_tr ne_a3_ka]; exact h_a3
  have h_ro : w1 ro = some (oRou st 0 0 0 none) := by rw [hf2 ro ne_ro_tr ne_ro_ka]; exact h_ro
  have h_st : w1 st = some (aI 3 (fun _ => 0)) := by rw [hf2 st ne_st_tr ne_st_ka]; exact h_st
  have h_tr : w1 tr = some (oRet ka (-1) (-1) 0) := g_tr
  have h_ka : w1 ka = some (aI 5 (f_fill 5 (-1) (fun _ => 0))) := g_ka
  have hf : ∀ b, ¬ b = r → ¬ b = a1 → ¬ b = a2 → ¬ b = a3 → ¬ b = ro → ¬ b = st → ¬ b = tr → ¬ b = ka → w1 b = w b := fun b g0 g1 g2 g3 g4 g5 g6 g7 => by rw [hf2 b g6 g7]; exact hf b g0 g1 g2 g3 g4 g5 g6
  refine x_putF (ci := 5) (C := RX6) (T := TX6) (N := 12) (k := 11) F dX6_init_49 rfl inX6 tyX6 tyX6_ok nmX6 (by decide) q90 rfl rfl rfl rfl h_r (Nat.le_of_ble_eq_true rfl) rfl rfl ?_
  refine x_wd (fun w10 hw10 => ?_)
  have h_r : w10 r = some (.inr (5, [.ref a1, .ref a2, .ref a3, .int 0, .int 0, .int 0, .int 0, .int 0, .int 0, .int 0, .ref ro, .ref tr])) := by rw [hw10]; exact x_set_eq _ _ _
  have h_a1 : w10 a1 = some (aF 4 (fun _ => none)) := by rw [hw10, x_set_ne _ _ (fun e => ne_r_a1 e.symm)]; exact h_a1
  have h_a2 : w10 a2 = some (aC 10 (fun _ => none)) := by rw [hw10, x_set_ne _ _ (fun e => ne_r_a2 e.symm)]; exact h_a2
  have h_a3 : w10 a3 = some (aA 10 (fun _ => none)) := by rw [hw10, x_set_ne _ _ (fun e => ne_r_a3 e.symm)]; exact h_a3
  have h_ro : w10 ro = some (oRou st 0 0 0 none) := by rw [hw10, x_set_ne _ _ (fun e => ne_r_ro e.symm)]; exact h_ro
  have h_st : w10 st = some (aI 3 (fun _ => 0)) := by rw [hw10, x_set_ne _ _ (fun e => ne_r_st e.symm)]; exact h_st
  have h_tr : w10 tr = some (oRet ka (-1) (-1) 0) := by rw [hw10, x_set_ne _ _ (fun e => ne_r_tr e.symm)]; exact h_tr
  have h_ka : w10 ka = some (aI 5 (f_fill 5 (-1) (fun _ => 0))) := by rw [hw10, x_set_ne _ _ (fun e => ne_r_ka e.symm)]; exact h_ka
  have hf : ∀ b, ¬ b = r → ¬ b = a1 → ¬ b = a2 → ¬ b = a3 → ¬ b = ro → ¬ b = st → ¬ b = tr → ¬ b = ka → w10 b = w b := fun b g0 g1 g2 g3 g4 g5 g6 g7 => by rw [hw10]; exact (x_set_ne _ _ g0).trans (hf b g0 g1 g2 g3 g4 g5 g6 g7)
  refine x_vret F rfl dX6_init_52 (Nat.le_of_ble_eq_true rfl) (Nat.le_of_ble_eq_true rfl) ?_
  refine ⟨rfl, a1, a2, a3, ro, tr, ⟨h_r, h_a1, h_a2⟩, fun a x hx hne => ?_⟩
  rw [hf a hne (fun e => by rw [e, fr_a1] at hx; cases hx) (fun e => by rw [e, fr_a2] at hx; cases hx) (fun e => by rw [e, fr_a3] at hx; cases hx) (fun e => by rw [e, fr_ro] at hx; cases hx) (fun e => by rw [e, fr_st] at hx; cases hx) (fun e => by rw [e, fr_tr] at hx; cases hx) (fun e => by rw [e, fr_ka] at hx; cases hx)]
  exact hx
set_option maxRecDepth 100000 in
set_option maxHeartbeats 4000000 in
theorem c_open (hF : FR w M Fa Ca Aa Ro Tr n) : x_Ci l D dA vwC1 tyL1 B yX6_open wX6_open (rmd 2 2 9) [.ref M] w (fun v w1 => v = .int 0 ∧ ∀ a x, w a = some x → ¬ a = M → ¬ a = Fa → w1 a = some x) 2 9 := by
  refine x_Ct.of (cc := cX6_open) (maxL := 1) (by decide) rfl (Nat.le_of_ble_eq_true rfl) ?_
  intro p e s m below meth c F
  obtain ⟨h_m, h_f, -⟩ := hF
  have ne_m_f : ¬ M = Fa := w_ne h_m h_f (fun z => by cases z)
  have hf : ∀ b, ¬ b = M → ¬ b = Fa → w b = w b := fun b _ _ => rfl
  refine x_aload_n F dX6_open_0 rfl rfl ?_
  refine x_get (ci := 5) (C := RX6) (T := TX6) (N := 12) (k := 3) F dX6_open_1 rfl inX6 (by decide) q82 rfl h_m rfl ?_
  refine x_if_lt F dX6_open_4 rfl (fun hc => absurd hc (by decide)) (fun _ => ?_)
  refine x_aload_n F dX6_open_7 rfl rfl ?_
  refine x_get (ci := 5) (C := RX6) (T := TX6) (N := 12) (k := 3) F dX6_open_8 rfl inX6 (by decide) q82 rfl h_m rfl ?_
  refine x_aload_n F dX6_open_11 rfl rfl ?_
  refine x_get (ci := 5) (C := RX6) (T := TX6) (N := 12) (k := 0) F dX6_open_12 rfl inX6 (by decide) q79 rfl h_m rfl ?_
  refine x_alen (v := 4) F dX6_open_15 rfl h_f rfl ?_
  refine x_icmp_lt F dX6_open_16 rfl (fun _ => ?_) (fun hc => absurd hc (by decide))
  refine x_aload_n F dX6_open_29 rfl rfl ?_
  refine x_get (ci := 5) (C := RX6) (T := TX6) (N := 12) (k := 0) F dX6_open_30 rfl inX6 (by decide) q79 rfl h_m rfl ?_
  refine x_aload_n F dX6_open_33 rfl rfl ?_
  refine x_get (ci := 5) (C := RX6) (T := TX6) (N := 12) (k := 3) F dX6_open_34 rfl inX6 (by decide) q82 rfl h_m rfl ?_
  refine x_new (ci := 2) (C := RX2) (T := TX2) (N := 3) (fs := [.int 0, .null, .int 0]) F dX6_open_37 rfl inX2 tyX2 tyX2_ok q39 q140 q14 (fun j hj => by rcases (show j = 0 ∨ j = 1 ∨ j = 2 by omega) with rfl | rfl | rfl <;> rfl) (Nat.le_of_ble_eq_true rfl) (Nat.le_of_ble_eq_true rfl) (fun fa hfa => ?_)
  refine x_wd (fun w1 hw1 => ?_)
  have ne_m_n : ¬ M = fa := fun e => by rw [e, hfa] at h_m; cases h_m
  have ne_f_n : ¬ Fa = fa := fun e => by rw [e, hfa] at h_f; cases h_f
  have fr_n : w fa = none := by rw [← hf fa (fun e => ne_m_n e.symm) (fun e => ne_f_n e.symm)]; exact hfa
  have h_m : w1 M = some (oX Fa Ca Aa Ro Tr 0 n) := by rw [hw1, x_set_ne _ _ ne_m_n]; exact h_m
  have h_f : w1 Fa = some (aF 4 (fun _ => none)) := by rw [hw1, x_set_ne _ _ ne_f_n]; exact h_f
  have h_n : w1 fa = some (.inr (2, [.int 0, .null, .int 0])) := by rw [hw1]; exact x_set_eq _ _ _
  have hf : ∀ b, ¬ b = M → ¬ b = Fa → ¬ b = fa → w1 b = w b := fun b g0 g1 g2 => by rw [hw1]; exact (x_set_ne _ _ g2).trans (hf b g0 g1)
  refine x_dup F dX6_open_40 rfl ?_
  refine x_aload_n F dX6_open_41 rfl rfl ?_
  refine x_get (ci := 5) (C := RX6) (T := TX6) (N := 12) (k := 3) F dX6_open_42 rfl inX6 (by decide) q82 rfl h_m rfl ?_
  refine x_cI1 F dX6_open_45 (x_gI q143) q14 q141 q142 rfl (c_face_init h_n 0) ⟨rfl, rfl, rfl, xd_X2_init, ⟨Nat.le_of_ble_eq_true rfl, Nat.le_of_ble_eq_true rfl⟩, Nat.le_of_ble_eq_true rfl, Nat.le_of_ble_eq_true rfl⟩ (Nat.le_of_ble_eq_true rfl) (fun w1 hp => ?_)
  obtain ⟨ka, fka, g_n, g_ka, hf2⟩ := hp
  have ne_m_ka : ¬ M = ka := fun e => by rw [e, fka] at h_m; cases h_m
  have ne_f_ka : ¬ Fa = ka := fun e => by rw [e, fka] at h_f; cases h_f
  have ne_n_ka : ¬ fa = ka := fun e => by rw [e, fka] at h_n; cases h_n
  have fr_ka : w ka = none := by rw [← hf ka (fun e => ne_m_ka e.symm) (fun e => ne_f_ka e.symm) (fun e => ne_n_ka e.symm)]; exact fka
  have h_m : w1 M = some (oX Fa Ca Aa Ro Tr 0 n) := by rw [hf2 M ne_m_n ne_m_ka]; exact h_m
  have h_f : w1 Fa = some (aF 4 (fun _ => none)) := by rw [hf2 Fa ne_f_n ne_f_ka]; exact h_f
  have h_n : w1 fa = some (.inr (2, [.int 0, .ref ka, .int 0])) := g_n
  have h_ka : w1 ka = some (aV 6 (fun _ => none)) := g_ka
  have hf : ∀ b, ¬ b = M → ¬ b = Fa → ¬ b = fa → ¬ b = ka → w1 b = w b := fun b g0 g1 g2 g3 => by rw [hf2 b g2 g3]; exact hf b g0 g1 g2
  refine x_aast F dX6_open_48 rfl rfl h_f h_n (by unfold vp_in; decide) ?_
  refine x_wd (fun w2 hw2 => ?_)
  have h_m : w2 M = some (oX Fa Ca Aa Ro Tr 0 n) := by rw [hw2, x_set_ne _ _ ne_m_f]; exact h_m
  have h_f : w2 Fa = some (aF 4 (va_up (fun _ => none) (0 : Int32).toNatClampNeg (some fa))) := by rw [hw2]; exact x_set_eq _ _ _
  have h_n : w2 fa = some (.inr (2, [.int 0, .ref ka, .int 0])) := by rw [hw2, x_set_ne _ _ (fun e => ne_f_n e.symm)]; exact h_n
  have h_ka : w2 ka = some (aV 6 (fun _ => none)) := by rw [hw2, x_set_ne _ _ (fun e => ne_f_ka e.symm)]; exact h_ka
  have hf : ∀ b, ¬ b = M → ¬ b = Fa → ¬ b = fa → ¬ b = ka → w2 b = w b := fun b g0 g1 g2 g3 => by rw [hw2]; exact (x_set_ne _ _ g1).trans (hf b g0 g1 g2 g3)
  refine x_aload_n F dX6_open_49 rfl rfl ?_
  refine x_dup F dX6_open_50 rfl ?_
  refine x_get (ci := 5) (C := RX6) (T := TX6) (N := 12) (k := 3) F dX6_open_51 rfl inX6 (by decide) q82 rfl h_m rfl ?_
  refine x_dup_x1 F dX6_open_54 rfl rfl ?_
  refine x_iconst (v := 1) F dX6_open_55 (by decide) ?_
  refine x_iadd F dX6_open_56 ?_
  refine x_put (ci := 5) (C := RX6) (T := TX6) (N := 12) (k := 3) F dX6_open_57 rfl inX6 tyX6 tyX6_ok nmX6 (by decide) q82 rfl rfl h_m (Nat.le_of_ble_eq_true rfl) rfl rfl ?_
  refine x_wd (fun w3 hw3 => ?_)
  have h_m : w3 M = some (oX Fa Ca Aa Ro Tr 1 n) := by rw [hw3]; exact x_set_eq _ _ _
  have h_f : w3 Fa = some (aF 4 (va_up (fun _ => none) (0 : Int32).toNatClampNeg (some fa))) := by rw [hw3, x_set_ne _ _ (fun e => ne_m_f e.symm)]; exact h_f
  have h_n : w3 fa = some (.inr (2, [.int 0, .ref ka, .int 0])) := by rw [hw3, x_set_ne _ _ (fun e => ne_m_n e.symm)]; exact h_n
  have h_ka : w3 ka = some (aV 6 (fun _ => none)) := by rw [hw3, x_set_ne _ _ (fun e => ne_m_ka e.symm)]; exact h_ka
  have hf : ∀ b, ¬ b = M → ¬ b = Fa → ¬ b = fa → ¬ b = ka → w3 b = w b := fun b g0 g1 g2 g3 => by rw [hw3]; exact (x_set_ne _ _ g0).trans (hf b g0 g1 g2 g3)
  refine x_iret F rfl rfl dX6_open_60 (Nat.le_of_ble_eq_true rfl) (Nat.le_of_ble_eq_true rfl) ?_
  refine ⟨_, rfl, rfl, fun a x hx h1 h2 => ?_⟩
  rw [hf a h1 h2 (fun e => by rw [e, fr_n] at hx; cases hx) (fun e => by rw [e, fr_ka] at hx; cases hx)]
  exact hx
end CTR
end
section
theorem dX6_publish_0 : decode cX6_publish 0 = .ok (.aload_n 0, 1) := by decide +kernel
theorem dX6_publish_1 : decode cX6_publish 1 = .ok (.iload_n 1, 1) := by decide +kernel
theorem dX6_publish_2 : decode cX6_publish 2 = .ok (.invokevirtual 55, 3) := by decide +kernel
theorem dX6_publish_5 : decode cX6_publish 5 = .ok (.astore 4, 2) := by decide +kernel
theorem dX6_publish_7 : decode cX6_publish 7 = .ok (.aload 4, 2) := by decide +kernel
theorem dX6_publish_9 : decode cX6_publish 9 = .ok (.ifnonnull 13, 3) := by decide +kernel
theorem dX6_publish_12 : decode cX6_publish 12 = .ok (.new 59, 3) := by decide +kernel
theorem dX6_publish_15 : decode cX6_publish 15 = .ok (.dup, 1) := by decide +kernel
theorem dX6_publish_16 : decode cX6_publish 16 = .ok (.ldc 61, 2) := by decide +kernel
theorem dX6_publish_18 : decode cX6_publish 18 = .ok (.invokespecial 63, 3) := by decide +kernel
theorem dX6_publish_21 : decode cX6_publish 21 = .ok (.athrow, 1) := by decide +kernel
theorem dX6_ofVersion_0 : decode cX6_ofVersion 0 = .ok (.aload_n 0, 1) := by decide +kernel
theorem dX6_ofVersion_1 : decode cX6_ofVersion 1 = .ok (.iload_n 1, 1) := by decide +kernel
theorem dX6_ofVersion_2 : decode cX6_ofVersion 2 = .ok (.iload_n 2, 1) := by decide +kernel
theorem dX6_ofVersion_3 : decode cX6_ofVersion 3 = .ok (.invokevirtual 91, 3) := by decide +kernel
theorem dX6_ofVersion_6 : decode cX6_ofVersion 6 = .ok (.astore 4, 2) := by decide +kernel
theorem dX6_ofVersion_8 : decode cX6_ofVersion 8 = .ok (.aload 4, 2) := by decide +kernel
theorem dX6_ofVersion_10 : decode cX6_ofVersion 10 = .ok (.ifnonnull 13, 3) := by decide +kernel
theorem dX6_ofVersion_13 : decode cX6_ofVersion 13 = .ok (.new 59, 3) := by decide +kernel
theorem dX6_ofVersion_16 : decode cX6_ofVersion 16 = .ok (.dup, 1) := by decide +kernel
theorem dX6_ofVersion_17 : decode cX6_ofVersion 17 = .ok (.ldc 95, 2) := by decide +kernel
theorem dX6_ofVersion_19 : decode cX6_ofVersion 19 = .ok (.invokespecial 63, 3) := by decide +kernel
theorem dX6_ofVersion_22 : decode cX6_ofVersion 22 = .ok (.athrow, 1) := by decide +kernel
theorem dX6_isCompatible_0 : decode cX6_isCompatible 0 = .ok (.aload_n 0, 1) := by decide +kernel
theorem dX6_isCompatible_1 : decode cX6_isCompatible 1 = .ok (.iload_n 1, 1) := by decide +kernel
theorem dX6_isCompatible_2 : decode cX6_isCompatible 2 = .ok (.iload_n 2, 1) := by decide +kernel
theorem dX6_isCompatible_3 : decode cX6_isCompatible 3 = .ok (.invokevirtual 91, 3) := by decide +kernel
theorem dX6_isCompatible_6 : decode cX6_isCompatible 6 = .ok (.astore 4, 2) := by decide +kernel
theorem dX6_isCompatible_8 : decode cX6_isCompatible 8 = .ok (.aload_n 0, 1) := by decide +kernel
theorem dX6_isCompatible_9 : decode cX6_isCompatible 9 = .ok (.iload_n 1, 1) := by decide +kernel
theorem dX6_isCompatible_10 : decode cX6_isCompatible 10 = .ok (.iload_n 3, 1) := by decide +kernel
theorem dX6_isCompatible_11 : decode cX6_isCompatible 11 = .ok (.invokevirtual 91, 3) := by decide +kernel
theorem dX6_isCompatible_14 : decode cX6_isCompatible 14 = .ok (.astore 5, 2) := by decide +kernel
theorem dX6_isCompatible_16 : decode cX6_isCompatible 16 = .ok (.aload 4, 2) := by decide +kernel
theorem dX6_isCompatible_18 : decode cX6_isCompatible 18 = .ok (.ifnull 8, 3) := by decide +kernel
theorem dX6_isCompatible_26 : decode cX6_isCompatible 26 = .ok (.new 59, 3) := by decide +kernel
theorem dX6_isCompatible_29 : decode cX6_isCompatible 29 = .ok (.dup, 1) := by decide +kernel
theorem dX6_isCompatible_30 : decode cX6_isCompatible 30 = .ok (.ldc 95, 2) := by decide +kernel
theorem dX6_isCompatible_32 : decode cX6_isCompatible 32 = .ok (.invokespecial 63, 3) := by decide +kernel
theorem dX6_isCompatible_35 : decode cX6_isCompatible 35 = .ok (.athrow, 1) := by decide +kernel
theorem dX6_client_0 : decode cX6_client 0 = .ok (.aload_n 0, 1) := by decide +kernel
theorem dX6_client_1 : decode cX6_client 1 = .ok (.iload_n 2, 1) := by decide +kernel
theorem dX6_client_2 : decode cX6_client 2 = .ok (.iload_n 3, 1) := by decide +kernel
theorem dX6_client_3 : decode cX6_client 3 = .ok (.invokevirtual 91, 3) := by decide +kernel
theorem dX6_client_6 : decode cX6_client 6 = .ok (.astore 5, 2) := by decide +kernel
theorem dX6_client_8 : decode cX6_client 8 = .ok (.aload 5, 2) := by decide +kernel
theorem dX6_client_10 : decode cX6_client 10 = .ok (.ifnonnull 13, 3) := by decide +kernel
theorem dX6_client_13 : decode cX6_client 13 = .ok (.new 59, 3) := by decide +kernel
theorem dX6_client_16 : decode cX6_client 16 = .ok (.dup, 1) := by decide +kernel
theorem dX6_client_17 : decode cX6_client 17 = .ok (.ldc 95, 2) := by decide +kernel
theorem dX6_client_19 : decode cX6_client 19 = .ok (.invokespecial 63, 3) := by decide +kernel
theorem dX6_client_22 : decode cX6_client 22 = .ok (.athrow, 1) := by decide +kernel
theorem dX6_again_0 : decode cX6_again 0 = .ok (.aload_n 0, 1) := by decide +kernel
theorem dX6_again_1 : decode cX6_again 1 = .ok (.iload_n 1, 1) := by decide +kernel
theorem dX6_again_2 : decode cX6_again 2 = .ok (.invokevirtual 137, 3) := by decide +kernel
theorem dX6_again_5 : decode cX6_again 5 = .ok (.astore_n 3, 1) := by decide +kernel
theorem dX6_again_6 : decode cX6_again 6 = .ok (.aload_n 3, 1) := by decide +kernel
theorem dX6_again_7 : decode cX6_again 7 = .ok (.ifnonnull 7, 3) := by decide +kernel
theorem dX6_again_10 : decode cX6_again 10 = .ok (.aconst_null, 1) := by decide +kernel
theorem dX6_again_11 : decode cX6_again 11 = .ok (.goto 11, 3) := by decide +kernel
theorem dX6_again_22 : decode cX6_again 22 = .ok (.astore 4, 2) := by decide +kernel
theorem dX6_again_24 : decode cX6_again 24 = .ok (.aload_n 3, 1) := by decide +kernel
theorem dX6_again_25 : decode cX6_again 25 = .ok (.ifnull 8, 3) := by decide +kernel
theorem dX6_again_33 : decode cX6_again 33 = .ok (.new 59, 3) := by decide +kernel
theorem dX6_again_36 : decode cX6_again 36 = .ok (.dup, 1) := by decide +kernel
theorem dX6_again_37 : decode cX6_again 37 = .ok (.ldc 148, 2) := by decide +kernel
theorem dX6_again_39 : decode cX6_again 39 = .ok (.invokespecial 63, 3) := by decide +kernel
theorem dX6_again_42 : decode cX6_again 42 = .ok (.athrow, 1) := by decide +kernel
theorem dX6_adapter_0 : decode cX6_adapter 0 = .ok (.aload_n 0, 1) := by decide +kernel
theorem dX6_adapter_1 : decode cX6_adapter 1 = .ok (.iload_n 1, 1) := by decide +kernel
theorem dX6_adapter_2 : decode cX6_adapter 2 = .ok (.iload_n 2, 1) := by decide +kernel
theorem dX6_adapter_3 : decode cX6_adapter 3 = .ok (.invokevirtual 91, 3) := by decide +kernel
theorem dX6_adapter_6 : decode cX6_adapter 6 = .ok (.astore 6, 2) := by decide +kernel
theorem dX6_adapter_8 : decode cX6_adapter 8 = .ok (.aload_n 0, 1) := by decide +kernel
theorem dX6_adapter_9 : decode cX6_adapter 9 = .ok (.iload_n 1, 1) := by decide +kernel
theorem dX6_adapter_10 : decode cX6_adapter 10 = .ok (.iload_n 3, 1) := by decide +kernel
theorem dX6_adapter_11 : decode cX6_adapter 11 = .ok (.invokevirtual 91, 3) := by decide +kernel
theorem dX6_adapter_14 : decode cX6_adapter 14 = .ok (.astore 7, 2) := by decide +kernel
theorem dX6_adapter_16 : decode cX6_adapter 16 = .ok (.aload 6, 2) := by decide +kernel
theorem dX6_adapter_18 : decode cX6_adapter 18 = .ok (.ifnull 8, 3) := by decide +kernel
theorem dX6_adapter_26 : decode cX6_adapter 26 = .ok (.new 59, 3) := by decide +kernel
theorem dX6_adapter_29 : decode cX6_adapter 29 = .ok (.dup, 1) := by decide +kernel
theorem dX6_adapter_30 : decode cX6_adapter 30 = .ok (.ldc 95, 2) := by decide +kernel
theorem dX6_adapter_32 : decode cX6_adapter 32 = .ok (.invokespecial 63, 3) := by decide +kernel
theorem dX6_adapter_35 : decode cX6_adapter 35 = .ok (.athrow, 1) := by decide +kernel
theorem dX6_ofClient_0 : decode cX6_ofClient 0 = .ok (.aload_n 0, 1) := by decide +kernel
theorem dX6_ofClient_1 : decode cX6_ofClient 1 = .ok (.iload_n 1, 1) := by decide +kernel
theorem dX6_ofClient_2 : decode cX6_ofClient 2 = .ok (.invokevirtual 137, 3) := by decide +kernel
theorem dX6_ofClient_5 : decode cX6_ofClient 5 = .ok (.astore_n 3, 1) := by decide +kernel
theorem dX6_ofClient_6 : decode cX6_ofClient 6 = .ok (.aload_n 3, 1) := by decide +kernel
theorem dX6_ofClient_7 : decode cX6_ofClient 7 = .ok (.ifnonnull 13, 3) := by decide +kernel
theorem dX6_ofClient_10 : decode cX6_ofClient 10 = .ok (.new 59, 3) := by decide +kernel
theorem dX6_ofClient_13 : decode cX6_ofClient 13 = .ok (.dup, 1) := by decide +kernel
theorem dX6_ofClient_14 : decode cX6_ofClient 14 = .ok (.ldc 173, 2) := by decide +kernel
theorem dX6_ofClient_16 : decode cX6_ofClient 16 = .ok (.invokespecial 63, 3) := by decide +kernel
theorem dX6_ofClient_19 : decode cX6_ofClient 19 = .ok (.athrow, 1) := by decide +kernel
theorem dX6_routed_0 : decode cX6_routed 0 = .ok (.aload_n 0, 1) := by decide +kernel
theorem dX6_routed_1 : decode cX6_routed 1 = .ok (.iload_n 1, 1) := by decide +kernel
theorem dX6_routed_2 : decode cX6_routed 2 = .ok (.invokevirtual 137, 3) := by decide +kernel
theorem dX6_routed_5 : decode cX6_routed 5 = .ok (.astore_n 3, 1) := by decide +kernel
theorem dX6_routed_6 : decode cX6_routed 6 = .ok (.aload_n 3, 1) := by decide +kernel
theorem dX6_routed_7 : decode cX6_routed 7 = .ok (.ifnull 38, 3) := by decide +kernel
theorem dX6_routed_45 : decode cX6_routed 45 = .ok (.new 59, 3) := by decide +kernel
theorem dX6_routed_48 : decode cX6_routed 48 = .ok (.dup, 1) := by decide +kernel
theorem dX6_routed_49 : decode cX6_routed 49 = .ok (.ldc 192, 2) := by decide +kernel
theorem dX6_routed_51 : decode cX6_routed 51 = .ok (.invokespecial 63, 3) := by decide +kernel
theorem dX6_routed_54 : decode cX6_routed 54 = .ok (.athrow, 1) := by decide +kernel
theorem dX6_call_0 : decode cX6_call 0 = .ok (.aload_n 0, 1) := by decide +kernel
theorem dX6_call_1 : decode cX6_call 1 = .ok (.iload_n 1, 1) := by decide +kernel
theorem dX6_call_2 : decode cX6_call 2 = .ok (.invokevirtual 137, 3) := by decide +kernel
theorem dX6_call_5 : decode cX6_call 5 = .ok (.astore_n 3, 1) := by decide +kernel
theorem dX6_call_6 : decode cX6_call 6 = .ok (.aload_n 3, 1) := by decide +kernel
theorem dX6_call_7 : decode cX6_call 7 = .ok (.ifnonnull 13, 3) := by decide +kernel
theorem dX6_call_10 : decode cX6_call 10 = .ok (.new 59, 3) := by decide +kernel
theorem dX6_call_13 : decode cX6_call 13 = .ok (.dup, 1) := by decide +kernel
theorem dX6_call_14 : decode cX6_call 14 = .ok (.ldc 173, 2) := by decide +kernel
theorem dX6_call_16 : decode cX6_call 16 = .ok (.invokespecial 63, 3) := by decide +kernel
theorem dX6_call_19 : decode cX6_call 19 = .ok (.athrow, 1) := by decide +kernel
theorem dX6_lastCall_0 : decode cX6_lastCall 0 = .ok (.aload_n 0, 1) := by decide +kernel
theorem dX6_lastCall_1 : decode cX6_lastCall 1 = .ok (.iload_n 1, 1) := by decide +kernel
theorem dX6_lastCall_2 : decode cX6_lastCall 2 = .ok (.invokevirtual 137, 3) := by decide +kernel
theorem dX6_lastCall_5 : decode cX6_lastCall 5 = .ok (.astore_n 3, 1) := by decide +kernel
theorem dX6_lastCall_6 : decode cX6_lastCall 6 = .ok (.aload_n 3, 1) := by decide +kernel
theorem dX6_lastCall_7 : decode cX6_lastCall 7 = .ok (.ifnonnull 7, 3) := by decide +kernel
theorem dX6_lastCall_10 : decode cX6_lastCall 10 = .ok (.aconst_null, 1) := by decide +kernel
theorem dX6_lastCall_11 : decode cX6_lastCall 11 = .ok (.goto 11, 3) := by decide +kernel
theorem dX6_lastCall_22 : decode cX6_lastCall 22 = .ok (.astore 4, 2) := by decide +kernel
theorem dX6_lastCall_24 : decode cX6_lastCall 24 = .ok (.aload_n 3, 1) := by decide +kernel
theorem dX6_lastCall_25 : decode cX6_lastCall 25 = .ok (.ifnull 8, 3) := by decide +kernel
theorem dX6_lastCall_33 : decode cX6_lastCall 33 = .ok (.new 59, 3) := by decide +kernel
theorem dX6_lastCall_36 : decode cX6_lastCall 36 = .ok (.dup, 1) := by decide +kernel
theorem dX6_lastCall_37 : decode cX6_lastCall 37 = .ok (.ldc 148, 2) := by decide +kernel
theorem dX6_lastCall_39 : decode cX6_lastCall 39 = .ok (.invokespecial 63, 3) := by decide +kernel
theorem dX6_lastCall_42 : decode cX6_lastCall 42 = .ok (.athrow, 1) := by decide +kernel
theorem dX6_retire_0 : decode cX6_retire 0 = .ok (.aload_n 0, 1) := by decide +kernel
theorem dX6_retire_1 : decode cX6_retire 1 = .ok (.iload_n 1, 1) := by decide +kernel
theorem dX6_retire_2 : decode cX6_retire 2 = .ok (.iload_n 2, 1) := by decide +kernel
theorem dX6_retire_3 : decode cX6_retire 3 = .ok (.invokevirtual 91, 3) := by decide +kernel
theorem dX6_retire_6 : decode cX6_retire 6 = .ok (.astore 4, 2) := by decide +kernel
theorem dX6_retire_8 : decode cX6_retire 8 = .ok (.aload 4, 2) := by decide +kernel
theorem dX6_retire_10 : decode cX6_retire 10 = .ok (.ifnonnull 13, 3) := by decide +kernel
theorem dX6_retire_13 : decode cX6_retire 13 = .ok (.new 59, 3) := by decide +kernel
theorem dX6_retire_16 : decode cX6_retire 16 = .ok (.dup, 1) := by decide +kernel
theorem dX6_retire_17 : decode cX6_retire 17 = .ok (.ldc 95, 2) := by decide +kernel
theorem dX6_retire_19 : decode cX6_retire 19 = .ok (.invokespecial 63, 3) := by decide +kernel
theorem dX6_retire_22 : decode cX6_retire 22 = .ok (.athrow, 1) := by decide +kernel
theorem dX6_answer_0 : decode cX6_answer 0 = .ok (.aload_n 0, 1) := by decide +kernel
theorem dX6_answer_1 : decode cX6_answer 1 = .ok (.iload_n 2, 1) := by decide +kernel
theorem dX6_answer_2 : decode cX6_answer 2 = .ok (.iload_n 3, 1) := by decide +kernel
theorem dX6_answer_3 : decode cX6_answer 3 = .ok (.invokevirtual 91, 3) := by decide +kernel
theorem dX6_answer_6 : decode cX6_answer 6 = .ok (.astore 4, 2) := by decide +kernel
theorem dX6_answer_8 : decode cX6_answer 8 = .ok (.aload 4, 2) := by decide +kernel
theorem dX6_answer_10 : decode cX6_answer 10 = .ok (.ifnull 10, 3) := by decide +kernel
theorem dX6_answer_20 : decode cX6_answer 20 = .ok (.new 59, 3) := by decide +kernel
theorem dX6_answer_23 : decode cX6_answer 23 = .ok (.dup, 1) := by decide +kernel
theorem dX6_answer_24 : decode cX6_answer 24 = .ok (.ldc 218, 2) := by decide +kernel
theorem dX6_answer_26 : decode cX6_answer 26 = .ok (.invokespecial 63, 3) := by decide +kernel
theorem dX6_answer_29 : decode cX6_answer 29 = .ok (.athrow, 1) := by decide +kernel
theorem dX6_recall_0 : decode cX6_recall 0 = .ok (.aload_n 0, 1) := by decide +kernel
theorem dX6_recall_1 : decode cX6_recall 1 = .ok (.iload_n 1, 1) := by decide +kernel
theorem dX6_recall_2 : decode cX6_recall 2 = .ok (.iload_n 2, 1) := by decide +kernel
theorem dX6_recall_3 : decode cX6_recall 3 = .ok (.invokevirtual 91, 3) := by decide +kernel
theorem dX6_recall_6 : decode cX6_recall 6 = .ok (.astore_n 3, 1) := by decide +kernel
theorem dX6_recall_7 : decode cX6_recall 7 = .ok (.aload_n 3, 1) := by decide +kernel
theorem dX6_recall_8 : decode cX6_recall 8 = .ok (.ifnonnull 13, 3) := by decide +kernel
theorem dX6_recall_11 : decode cX6_recall 11 = .ok (.new 59, 3) := by decide +kernel
theorem dX6_recall_14 : decode cX6_recall 14 = .ok (.dup, 1) := by decide +kernel
theorem dX6_recall_15 : decode cX6_recall 15 = .ok (.ldc 95, 2) := by decide +kernel
theorem dX6_recall_17 : decode cX6_recall 17 = .ok (.invokespecial 63, 3) := by decide +kernel
theorem dX6_recall_20 : decode cX6_recall 20 = .ok (.athrow, 1) := by decide +kernel
theorem dX6_asked_0 : decode cX6_asked 0 = .ok (.aload_n 0, 1) := by decide +kernel
theorem dX6_asked_1 : decode cX6_asked 1 = .ok (.iload_n 2, 1) := by decide +kernel
theorem dX6_asked_2 : decode cX6_asked 2 = .ok (.iload_n 3, 1) := by decide +kernel
theorem dX6_asked_3 : decode cX6_asked 3 = .ok (.invokevirtual 91, 3) := by decide +kernel
theorem dX6_asked_6 : decode cX6_asked 6 = .ok (.astore 4, 2) := by decide +kernel
theorem dX6_asked_8 : decode cX6_asked 8 = .ok (.aload 4, 2) := by decide +kernel
theorem dX6_asked_10 : decode cX6_asked 10 = .ok (.ifnull 10, 3) := by decide +kernel
theorem dX6_asked_20 : decode cX6_asked 20 = .ok (.new 59, 3) := by decide +kernel
theorem dX6_asked_23 : decode cX6_asked 23 = .ok (.dup, 1) := by decide +kernel
theorem dX6_asked_24 : decode cX6_asked 24 = .ok (.ldc 218, 2) := by decide +kernel
theorem dX6_asked_26 : decode cX6_asked 26 = .ok (.invokespecial 63, 3) := by decide +kernel
theorem dX6_asked_29 : decode cX6_asked 29 = .ok (.athrow, 1) := by decide +kernel
theorem dX6_wouldCome_0 : decode cX6_wouldCome 0 = .ok (.aload_n 0, 1) := by decide +kernel
theorem dX6_wouldCome_1 : decode cX6_wouldCome 1 = .ok (.iload_n 1, 1) := by decide +kernel
theorem dX6_wouldCome_2 : decode cX6_wouldCome 2 = .ok (.invokevirtual 137, 3) := by decide +kernel
theorem dX6_wouldCome_5 : decode cX6_wouldCome 5 = .ok (.astore_n 3, 1) := by decide +kernel
theorem dX6_wouldCome_6 : decode cX6_wouldCome 6 = .ok (.aload_n 3, 1) := by decide +kernel
theorem dX6_wouldCome_7 : decode cX6_wouldCome 7 = .ok (.ifnonnull 13, 3) := by decide +kernel
theorem dX6_wouldCome_10 : decode cX6_wouldCome 10 = .ok (.new 59, 3) := by decide +kernel
theorem dX6_wouldCome_13 : decode cX6_wouldCome 13 = .ok (.dup, 1) := by decide +kernel
theorem dX6_wouldCome_14 : decode cX6_wouldCome 14 = .ok (.ldc 173, 2) := by decide +kernel
theorem dX6_wouldCome_16 : decode cX6_wouldCome 16 = .ok (.invokespecial 63, 3) := by decide +kernel
theorem dX6_wouldCome_19 : decode cX6_wouldCome 19 = .ok (.athrow, 1) := by decide +kernel
theorem dX6_goneIn_0 : decode cX6_goneIn 0 = .ok (.aload_n 0, 1) := by decide +kernel
theorem dX6_goneIn_1 : decode cX6_goneIn 1 = .ok (.iload_n 1, 1) := by decide +kernel
theorem dX6_goneIn_2 : decode cX6_goneIn 2 = .ok (.iload_n 2, 1) := by decide +kernel
theorem dX6_goneIn_3 : decode cX6_goneIn 3 = .ok (.invokevirtual 91, 3) := by decide +kernel
theorem dX6_goneIn_6 : decode cX6_goneIn 6 = .ok (.astore_n 3, 1) := by decide +kernel
theorem dX6_goneIn_7 : decode cX6_goneIn 7 = .ok (.aload_n 3, 1) := by decide +kernel
theorem dX6_goneIn_8 : decode cX6_goneIn 8 = .ok (.ifnonnull 13, 3) := by decide +kernel
theorem dX6_goneIn_11 : decode cX6_goneIn 11 = .ok (.new 59, 3) := by decide +kernel
theorem dX6_goneIn_14 : decode cX6_goneIn 14 = .ok (.dup, 1) := by decide +kernel
theorem dX6_goneIn_15 : decode cX6_goneIn 15 = .ok (.ldc 95, 2) := by decide +kernel
theorem dX6_goneIn_17 : decode cX6_goneIn 17 = .ok (.invokespecial 63, 3) := by decide +kernel
theorem dX6_goneIn_20 : decode cX6_goneIn 20 = .ok (.athrow, 1) := by decide +kernel
theorem dX6_wouldBreak_0 : decode cX6_wouldBreak 0 = .ok (.aload_n 0, 1) := by decide +kernel
theorem dX6_wouldBreak_1 : decode cX6_wouldBreak 1 = .ok (.iload_n 1, 1) := by decide +kernel
theorem dX6_wouldBreak_2 : decode cX6_wouldBreak 2 = .ok (.invokevirtual 55, 3) := by decide +kernel
theorem dX6_wouldBreak_5 : decode cX6_wouldBreak 5 = .ok (.astore 4, 2) := by decide +kernel
theorem dX6_wouldBreak_7 : decode cX6_wouldBreak 7 = .ok (.aload 4, 2) := by decide +kernel
theorem dX6_wouldBreak_9 : decode cX6_wouldBreak 9 = .ok (.ifnonnull 13, 3) := by decide +kernel
theorem dX6_wouldBreak_12 : decode cX6_wouldBreak 12 = .ok (.new 59, 3) := by decide +kernel
theorem dX6_wouldBreak_15 : decode cX6_wouldBreak 15 = .ok (.dup, 1) := by decide +kernel
theorem dX6_wouldBreak_16 : decode cX6_wouldBreak 16 = .ok (.ldc 61, 2) := by decide +kernel
theorem dX6_wouldBreak_18 : decode cX6_wouldBreak 18 = .ok (.invokespecial 63, 3) := by decide +kernel
theorem dX6_wouldBreak_21 : decode cX6_wouldBreak 21 = .ok (.athrow, 1) := by decide +kernel
theorem dX6_target_0 : decode cX6_target 0 = .ok (.aload_n 0, 1) := by decide +kernel
theorem dX6_target_1 : decode cX6_target 1 = .ok (.iload_n 1, 1) := by decide +kernel
theorem dX6_target_2 : decode cX6_target 2 = .ok (.invokevirtual 137, 3) := by decide +kernel
theorem dX6_target_5 : decode cX6_target 5 = .ok (.astore_n 2, 1) := by decide +kernel
theorem dX6_target_6 : decode cX6_target 6 = .ok (.aload_n 2, 1) := by decide +kernel
theorem dX6_target_7 : decode cX6_target 7 = .ok (.ifnonnull 13, 3) := by decide +kernel
theorem dX6_target_10 : decode cX6_target 10 = .ok (.new 59, 3) := by decide +kernel
theorem dX6_target_13 : decode cX6_target 13 = .ok (.dup, 1) := by decide +kernel
theorem dX6_target_14 : decode cX6_target 14 = .ok (.ldc 173, 2) := by decide +kernel
theorem dX6_target_16 : decode cX6_target 16 = .ok (.invokespecial 63, 3) := by decide +kernel
theorem dX6_target_19 : decode cX6_target 19 = .ok (.athrow, 1) := by decide +kernel
theorem dX6_goneBy_0 : decode cX6_goneBy 0 = .ok (.aload_n 0, 1) := by decide +kernel
theorem dX6_goneBy_1 : decode cX6_goneBy 1 = .ok (.iload_n 1, 1) := by decide +kernel
theorem dX6_goneBy_2 : decode cX6_goneBy 2 = .ok (.iload_n 2, 1) := by decide +kernel
theorem dX6_goneBy_3 : decode cX6_goneBy 3 = .ok (.invokevirtual 91, 3) := by decide +kernel
theorem dX6_goneBy_6 : decode cX6_goneBy 6 = .ok (.astore 4, 2) := by decide +kernel
theorem dX6_goneBy_8 : decode cX6_goneBy 8 = .ok (.aload 4, 2) := by decide +kernel
theorem dX6_goneBy_10 : decode cX6_goneBy 10 = .ok (.ifnonnull 13, 3) := by decide +kernel
theorem dX6_goneBy_13 : decode cX6_goneBy 13 = .ok (.new 59, 3) := by decide +kernel
theorem dX6_goneBy_16 : decode cX6_goneBy 16 = .ok (.dup, 1) := by decide +kernel
theorem dX6_goneBy_17 : decode cX6_goneBy 17 = .ok (.ldc 95, 2) := by decide +kernel
theorem dX6_goneBy_19 : decode cX6_goneBy 19 = .ok (.invokespecial 63, 3) := by decide +kernel
theorem dX6_goneBy_22 : decode cX6_goneBy 22 = .ok (.athrow, 1) := by decide +kernel
theorem dX6_many_0 : decode cX6_many 0 = .ok (.iload_n 1, 1) := by decide +kernel
theorem dX6_many_1 : decode cX6_many 1 = .ok (.ifCond .lt 9, 3) := by decide +kernel
theorem dX6_many_10 : decode cX6_many 10 = .ok (.new 68, 3) := by decide +kernel
theorem dX6_many_13 : decode cX6_many 13 = .ok (.dup, 1) := by decide +kernel
theorem dX6_many_14 : decode cX6_many 14 = .ok (.ldc 97, 2) := by decide +kernel
theorem dX6_many_16 : decode cX6_many 16 = .ok (.invokespecial 72, 3) := by decide +kernel
theorem dX6_many_19 : decode cX6_many 19 = .ok (.athrow, 1) := by decide +kernel
theorem dX6_many_4 : decode cX6_many 4 = .ok (.iload_n 1, 1) := by decide +kernel
theorem dX6_many_5 : decode cX6_many 5 = .ok (.bipush 10, 2) := by decide +kernel
theorem dX6_many_7 : decode cX6_many 7 = .ok (.if_icmp .le 13, 3) := by decide +kernel
theorem dX6_pass_0 : decode cX6_pass 0 = .ok (.iload_n 1, 1) := by decide +kernel
theorem dX6_pass_1 : decode cX6_pass 1 = .ok (.iconst 1, 1) := by decide +kernel
theorem dX6_pass_2 : decode cX6_pass 2 = .ok (.if_icmp .lt 9, 3) := by decide +kernel
theorem dX6_pass_11 : decode cX6_pass 11 = .ok (.new 68, 3) := by decide +kernel
theorem dX6_pass_14 : decode cX6_pass 14 = .ok (.dup, 1) := by decide +kernel
theorem dX6_pass_15 : decode cX6_pass 15 = .ok (.ldc 199, 2) := by decide +kernel
theorem dX6_pass_17 : decode cX6_pass 17 = .ok (.invokespecial 72, 3) := by decide +kernel
theorem dX6_pass_20 : decode cX6_pass 20 = .ok (.athrow, 1) := by decide +kernel
theorem dX6_pass_5 : decode cX6_pass 5 = .ok (.iload_n 1, 1) := by decide +kernel
theorem dX6_pass_6 : decode cX6_pass 6 = .ok (.bipush 100, 2) := by decide +kernel
theorem dX6_pass_8 : decode cX6_pass 8 = .ok (.if_icmp .le 13, 3) := by decide +kernel
theorem dX6_many_20 : decode cX6_many 20 = .ok (.aload_n 0, 1) := by decide +kernel
theorem dX6_many_21 : decode cX6_many 21 = .ok (.iload_n 1, 1) := by decide +kernel
theorem dX6_many_22 : decode cX6_many 22 = .ok (.invokevirtual 246, 3) := by decide +kernel
theorem dX6_many_25 : decode cX6_many 25 = .ok (.ireturn, 1) := by decide +kernel
theorem dX6_servedShare_0 : decode cX6_servedShare 0 = .ok (.aload_n 0, 1) := by decide +kernel
theorem dX6_servedShare_1 : decode cX6_servedShare 1 = .ok (.getfield 249, 3) := by decide +kernel
theorem dX6_servedShare_4 : decode cX6_servedShare 4 = .ok (.ifCond .ne 5, 3) := by decide +kernel
theorem dX6_servedShare_7 : decode cX6_servedShare 7 = .ok (.dconst 1, 1) := by decide +kernel
theorem dX6_servedShare_8 : decode cX6_servedShare 8 = .ok (.dreturn, 1) := by decide +kernel
theorem dX6_beginHour_50 : decode cX6_beginHour 50 = .ok (.iload_n 2, 1) := by decide +kernel
theorem dX6_beginHour_51 : decode cX6_beginHour 51 = .ok (.iconst 4, 1) := by decide +kernel
theorem dX6_beginHour_52 : decode cX6_beginHour 52 = .ok (.if_icmp .ge 72, 3) := by decide +kernel
theorem dX6_beginHour_124 : decode cX6_beginHour 124 = .ok (.iload_n 1, 1) := by decide +kernel
theorem dX6_beginHour_125 : decode cX6_beginHour 125 = .ok (.ireturn, 1) := by decide +kernel
theorem dX6_beginHour_57 : decode cX6_beginHour 57 = .ok (.iload_n 3, 1) := by decide +kernel
theorem dX6_beginHour_58 : decode cX6_beginHour 58 = .ok (.bipush 6, 2) := by decide +kernel
theorem dX6_beginHour_60 : decode cX6_beginHour 60 = .ok (.if_icmp .ge 58, 3) := by decide +kernel
theorem dX6_beginHour_118 : decode cX6_beginHour 118 = .ok (.iinc 2 1, 3) := by decide +kernel
theorem dX6_beginHour_121 : decode cX6_beginHour 121 = .ok (.goto (-71), 3) := by decide +kernel
theorem dX6_beginHour_63 : decode cX6_beginHour 63 = .ok (.aload_n 0, 1) := by decide +kernel
theorem dX6_beginHour_64 : decode cX6_beginHour 64 = .ok (.iload_n 2, 1) := by decide +kernel
theorem dX6_beginHour_65 : decode cX6_beginHour 65 = .ok (.iload_n 3, 1) := by decide +kernel
theorem dX6_beginHour_66 : decode cX6_beginHour 66 = .ok (.invokevirtual 91, 3) := by decide +kernel
theorem dX6_beginHour_69 : decode cX6_beginHour 69 = .ok (.astore 4, 2) := by decide +kernel
theorem dX6_beginHour_71 : decode cX6_beginHour 71 = .ok (.aload 4, 2) := by decide +kernel
theorem dX6_beginHour_73 : decode cX6_beginHour 73 = .ok (.ifnull 39, 3) := by decide +kernel
theorem dX6_beginHour_112 : decode cX6_beginHour 112 = .ok (.iinc 3 1, 3) := by decide +kernel
theorem dX6_beginHour_115 : decode cX6_beginHour 115 = .ok (.goto (-58), 3) := by decide +kernel
theorem dX6_beginHour_55 : decode cX6_beginHour 55 = .ok (.iconst 0, 1) := by decide +kernel
theorem dX6_beginHour_56 : decode cX6_beginHour 56 = .ok (.istore_n 3, 1) := by decide +kernel
theorem dX6_beginHour_12 : decode cX6_beginHour 12 = .ok (.iload_n 1, 1) := by decide +kernel
theorem dX6_beginHour_13 : decode cX6_beginHour 13 = .ok (.aload_n 0, 1) := by decide +kernel
theorem dX6_beginHour_14 : decode cX6_beginHour 14 = .ok (.getfield 17, 3) := by decide +kernel
theorem dX6_beginHour_17 : decode cX6_beginHour 17 = .ok (.arraylength, 1) := by decide +kernel
theorem dX6_beginHour_18 : decode cX6_beginHour 18 = .ok (.if_icmp .ge 28, 3) := by decide +kernel
theorem dX6_beginHour_46 : decode cX6_beginHour 46 = .ok (.iconst 0, 1) := by decide +kernel
theorem dX6_beginHour_47 : decode cX6_beginHour 47 = .ok (.istore_n 1, 1) := by decide +kernel
theorem dX6_beginHour_48 : decode cX6_beginHour 48 = .ok (.iconst 0, 1) := by decide +kernel
theorem dX6_beginHour_49 : decode cX6_beginHour 49 = .ok (.istore_n 2, 1) := by decide +kernel
theorem dX6_beginHour_21 : decode cX6_beginHour 21 = .ok (.aload_n 0, 1) := by decide +kernel
theorem dX6_beginHour_22 : decode cX6_beginHour 22 = .ok (.getfield 17, 3) := by decide +kernel
theorem dX6_beginHour_25 : decode cX6_beginHour 25 = .ok (.iload_n 1, 1) := by decide +kernel
theorem dX6_beginHour_26 : decode cX6_beginHour 26 = .ok (.aaload, 1) := by decide +kernel
theorem dX6_beginHour_27 : decode cX6_beginHour 27 = .ok (.astore_n 2, 1) := by decide +kernel
theorem dX6_beginHour_28 : decode cX6_beginHour 28 = .ok (.aload_n 2, 1) := by decide +kernel
theorem dX6_beginHour_29 : decode cX6_beginHour 29 = .ok (.ifnull 11, 3) := by decide +kernel
theorem dX6_beginHour_40 : decode cX6_beginHour 40 = .ok (.iinc 1 1, 3) := by decide +kernel
theorem dX6_beginHour_43 : decode cX6_beginHour 43 = .ok (.goto (-31), 3) := by decide +kernel
theorem dX6_beginHour_0 : decode cX6_beginHour 0 = .ok (.aload_n 0, 1) := by decide +kernel
theorem dX6_beginHour_1 : decode cX6_beginHour 1 = .ok (.dup, 1) := by decide +kernel
theorem dX6_beginHour_2 : decode cX6_beginHour 2 = .ok (.getfield 225, 3) := by decide +kernel
theorem dX6_beginHour_5 : decode cX6_beginHour 5 = .ok (.iconst 1, 1) := by decide +kernel
theorem dX6_beginHour_6 : decode cX6_beginHour 6 = .ok (.iadd, 1) := by decide +kernel
theorem dX6_beginHour_7 : decode cX6_beginHour 7 = .ok (.putfield 225, 3) := by decide +kernel
theorem dX6_beginHour_10 : decode cX6_beginHour 10 = .ok (.iconst 0, 1) := by decide +kernel
theorem dX6_beginHour_11 : decode cX6_beginHour 11 = .ok (.istore_n 1, 1) := by decide +kernel
theorem dX6_pass_25 : decode cX6_pass 25 = .ok (.iload_n 3, 1) := by decide +kernel
theorem dX6_pass_26 : decode cX6_pass 26 = .ok (.iload_n 1, 1) := by decide +kernel
theorem dX6_pass_27 : decode cX6_pass 27 = .ok (.if_icmp .ge 16, 3) := by decide +kernel
theorem dX6_pass_43 : decode cX6_pass 43 = .ok (.iload_n 2, 1) := by decide +kernel
theorem dX6_pass_44 : decode cX6_pass 44 = .ok (.ireturn, 1) := by decide +kernel
theorem dX6_pass_30 : decode cX6_pass 30 = .ok (.iload_n 2, 1) := by decide +kernel
theorem dX6_pass_31 : decode cX6_pass 31 = .ok (.aload_n 0, 1) := by decide +kernel
theorem dX6_pass_32 : decode cX6_pass 32 = .ok (.invokevirtual 201, 3) := by decide +kernel
theorem dX6_pass_35 : decode cX6_pass 35 = .ok (.iadd, 1) := by decide +kernel
theorem dX6_pass_36 : decode cX6_pass 36 = .ok (.istore_n 2, 1) := by decide +kernel
theorem dX6_pass_37 : decode cX6_pass 37 = .ok (.iinc 3 1, 3) := by decide +kernel
theorem dX6_pass_40 : decode cX6_pass 40 = .ok (.goto (-15), 3) := by decide +kernel
theorem dX6_pass_21 : decode cX6_pass 21 = .ok (.iconst 0, 1) := by decide +kernel
theorem dX6_pass_22 : decode cX6_pass 22 = .ok (.istore_n 2, 1) := by decide +kernel
theorem dX6_pass_23 : decode cX6_pass 23 = .ok (.iconst 0, 1) := by decide +kernel
theorem dX6_pass_24 : decode cX6_pass 24 = .ok (.istore_n 3, 1) := by decide +kernel
/-! ===== the class: the first call on a new registry ===== -/
section THR
variable {l : Launch} {D : va_G} {dA : Nat → ClassId} {B : Nat} {w : xW} {M Fa Ca Aa Ro Tr : Nat} {n : Int32}
set_option maxRecDepth 100000 in
set_option maxHeartbeats 4000000 in
theorem t_publish (hl : l.stackTraces = false) (hF : FR w M Fa Ca Aa Ro Tr n) (x1 x2 x3 : Int32) : Th l D dA B yX6_publish wX6_publish 8 [.ref M, .int x1, .int x2, .int x3] w "java/lang/IndexOutOfBoundsException" := by
  refine x_Th.of (cc := cX6_publish) (maxL := 8) (by decide) rfl (Nat.le_of_ble_eq_true rfl) ?_
  intro p e s m below meth c F htb
  refine x_aload_n F dX6_publish_0 rfl rfl ?_
  refine x_iload_n F dX6_publish_1 rfl rfl ?_
  refine x_cVi1 (ci := 5) (C := RX6) (T := TX6) (N := 12) F dX6_publish_2 (x_gV q122 q123 q637 q1 q124) rfl (c_faceAt hF _) ⟨rfl, rfl, rfl, xd_X6_faceAt, ⟨Nat.le_of_ble_eq_true rfl, Nat.le_of_ble_eq_true rfl⟩, Nat.le_of_ble_eq_true rfl, Nat.le_of_ble_eq_true rfl⟩ rfl hF.1 (Nat.le_of_ble_eq_true rfl) (fun v1 w1 hp => ?_)
  obtain ⟨rfl, hw9⟩ := hp
  replace hw9 := hw9.symm
  subst hw9
  refine x_astoreN F dX6_publish_5 (by decide) ?_
  refine x_aloadN F dX6_publish_7 rfl ?_
  refine x_ifnonnullN F dX6_publish_9 ?_
  exact x_throw F hl (E := "java/lang/IndexOutOfBoundsException") (text := "no such interface") (names := xNm) (by decide +kernel) (by decide +kernel) q163 q18 (xs61 (x_Fix.xt F)) (xatI F.2.2.2.2.1 (x_Fix.xt F)) xokI htb dX6_publish_12 dX6_publish_15 dX6_publish_16 dX6_publish_18 dX6_publish_21 (Nat.le_of_ble_eq_true rfl) (Nat.le_of_ble_eq_true rfl) (Nat.le_of_ble_eq_true rfl) (Nat.le_of_ble_eq_true rfl) (Nat.le_of_ble_eq_true rfl) (Nat.le_of_ble_eq_true rfl) (fun _ _ h => h)
set_option maxRecDepth 100000 in
set_option maxHeartbeats 4000000 in
theorem t_ofVersion (hl : l.stackTraces = false) (hF : FR w M Fa Ca Aa Ro Tr n) (x1 x2 x3 : Int32) : Th l D dA B yX6_ofVersion wX6_ofVersion 8 [.ref M, .int x1, .int x2, .int x3] w "java/lang/IndexOutOfBoundsException" := by
  refine x_Th.of (cc := cX6_ofVersion) (maxL := 5) (by decide) rfl (Nat.le_of_ble_eq_true rfl) ?_
  intro p e s m below meth c F htb
  refine x_aload_n F dX6_ofVersion_0 rfl rfl ?_
  refine x_iload_n F dX6_ofVersion_1 rfl rfl ?_
  refine x_iload_n F dX6_ofVersion_2 rfl rfl ?_
  refine x_cVi2 (ci := 5) (C := RX6) (T := TX6) (N := 12) F dX6_ofVersion_3 (x_gV q119 q120 q636 q1 q121) rfl (c_versionAt hF _ _) ⟨rfl, rfl, rfl, xd_X6_versionAt, ⟨Nat.le_of_ble_eq_true rfl, Nat.le_of_ble_eq_true rfl⟩, Nat.le_of_ble_eq_true rfl, Nat.le_of_ble_eq_true rfl⟩ rfl hF.1 (Nat.le_of_ble_eq_true rfl) (fun v1 w1 hp => ?_)
  obtain ⟨rfl, hw9⟩ := hp
  replace hw9 := hw9.symm
  subst hw9
  refine x_astoreN F dX6_ofVersion_6 (by decide) ?_
  refine x_aloadN F dX6_ofVersion_8 rfl ?_
  refine x_ifnonnullN F dX6_ofVersion_10 ?_
  exact x_throw F hl (E := "java/lang/IndexOutOfBoundsException") (text := "no such interface or version") (names := xNm) (by decide +kernel) (by decide +kernel) q163 q18 (xs95 (x_Fix.xt F)) (xatI F.2.2.2.2.1 (x_Fix.xt F)) xokI htb dX6_ofVersion_13 dX6_ofVersion_16 dX6_ofVersion_17 dX6_ofVersion_19 dX6_ofVersion_22 (Nat.le_of_ble_eq_true rfl) (Nat.le_of_ble_eq_true rfl) (Nat.le_of_ble_eq_true rfl) (Nat.le_of_ble_eq_true rfl) (Nat.le_of_ble_eq_true rfl) (Nat.le_of_ble_eq_true rfl) (fun _ _ h => h)
set_option maxRecDepth 100000 in
set_option maxHeartbeats 4000000 in
theorem t_isCompatible (hl : l.stackTraces = false) (hF : FR w M Fa Ca Aa Ro Tr n) (x1 x2 x3 : Int32) : Th l D dA B yX6_isCompatible wX6_isCompatible 8 [.ref M, .int x1, .int x2, .int x3] w "java/lang/IndexOutOfBoundsException" := by
  refine x_Th.of (cc := cX6_isCompatible) (maxL := 6) (by decide) rfl (Nat.le_of_ble_eq_true rfl) ?_
  intro p e s m below meth c F htb
  refine x_aload_n F dX6_isCompatible_0 rfl rfl ?_
  refine x_iload_n F dX6_isCompatible_1 rfl rfl ?_
  refine x_iload_n F dX6_isCompatible_2 rfl rfl ?_
  refine x_cVi2 (ci := 5) (C := RX6) (T := TX6) (N := 12) F dX6_isCompatible_3 (x_gV q119 q120 q636 q1 q121) rfl (c_versionAt hF _ _) ⟨rfl, rfl, rfl, xd_X6_versionAt, ⟨Nat.le_of_ble_eq_true rfl, Nat.le_of_ble_eq_true rfl⟩, Nat.le_of_ble_eq_true rfl, Nat.le_of_ble_eq_true rfl⟩ rfl hF.1 (Nat.le_of_ble_eq_true rfl) (fun v1 w1 hp => ?_)
  obtain ⟨rfl, hw9⟩ := hp
  replace hw9 := hw9.symm
  subst hw9
  refine x_astoreN F dX6_isCompatible_6 (by decide) ?_
  refine x_aload_n F dX6_isCompatible_8 rfl rfl ?_
  refine x_iload_n F dX6_isCompatible_9 rfl rfl ?_
  refine x_iload_n F dX6_isCompatible_10 rfl rfl ?_
  refine x_cVi2 (ci := 5) (C := RX6) (T := TX6) (N := 12) F dX6_isCompatible_11 (x_gV q119 q120 q636 q1 q121) rfl (c_versionAt hF _ _) ⟨rfl, rfl, rfl, xd_X6_versionAt, ⟨Nat.le_of_ble_eq_true rfl, Nat.le_of_ble_eq_true rfl⟩, Nat.le_of_ble_eq_true rfl, Nat.le_of_ble_eq_true rfl⟩ rfl hF.1 (Nat.le_of_ble_eq_true rfl) (fun v1 w1 hp => ?_)
  obtain ⟨rfl, hw9⟩ := hp
  replace hw9 := hw9.symm
  subst hw9
  refine x_astoreN F dX6_isCompatible_14 (by decide) ?_
  refine x_aloadN F dX6_isCompatible_16 rfl ?_
  refine x_ifnullN F dX6_isCompatible_18 rfl ?_
  exact x_throw F hl (E := "java/lang/IndexOutOfBoundsException") (text := "no such interface or version") (names := xNm) (by decide +kernel) (by decide +kernel) q163 q18 (xs95 (x_Fix.xt F)) (xatI F.2.2.2.2.1 (x_Fix.xt F)) xokI htb dX6_isCompatible_26 dX6_isCompatible_29 dX6_isCompatible_30 dX6_isCompatible_32 dX6_isCompatible_35 (Nat.le_of_ble_eq_true rfl) (Nat.le_of_ble_eq_true rfl) (Nat.le_of_ble_eq_true rfl) (Nat.le_of_ble_eq_true rfl) (Nat.le_of_ble_eq_true rfl) (Nat.le_of_ble_eq_true rfl) (fun _ _ h => h)
set_option maxRecDepth 100000 in
set_option maxHeartbeats 4000000 in
theorem t_client (hl : l.stackTraces = false) (hF : FR w M Fa Ca Aa Ro Tr n) (x1 x2 x3 x4 : Int32) : Th l D dA B yX6_client wX6_client 8 [.ref M, .int x1, .int x2, .int x3, .int x4] w "java/lang/IndexOutOfBoundsException" := by
  refine x_Th.of (cc := cX6_client) (maxL := 6) (by decide) rfl (Nat.le_of_ble_eq_true rfl) ?_
  intro p e s m below meth c F htb
  refine x_aload_n F dX6_client_0 rfl rfl ?_
  refine x_iload_n F dX6_client_1 rfl rfl ?_
  refine x_iload_n F dX6_client_2 rfl rfl ?_
  refine x_cVi2 (ci := 5) (C := RX6) (T := TX6) (N := 12) F dX6_client_3 (x_gV q119 q120 q636 q1 q121) rfl (c_versionAt hF _ _) ⟨rfl, rfl, rfl, xd_X6_versionAt, ⟨Nat.le_of_ble_eq_true rfl, Nat.le_of_ble_eq_true rfl⟩, Nat.le_of_ble_eq_true rfl, Nat.le_of_ble_eq_true rfl⟩ rfl hF.1 (Nat.le_of_ble_eq_true rfl) (fun v1 w1 hp => ?_)
  obtain ⟨rfl, hw9⟩ := hp
  replace hw9 := hw9.symm
  subst hw9
  refine x_astoreN F dX6_client_6 (by decide) ?_
  refine x_aloadN F dX6_client_8 rfl ?_
  refine x_ifnonnullN F dX6_client_10 ?_
  exact x_throw F hl (E := "java/lang/IndexOutOfBoundsException") (text := "no such interface or version") (names := xNm) (by decide +kernel) (by decide +kernel) q163 q18 (xs95 (x_Fix.xt F)) (xatI F.2.2.2.2.1 (x_Fix.xt F)) xokI htb dX6_client_13 dX6_client_16 dX6_client_17 dX6_client_19 dX6_client_22 (Nat.le_of_ble_eq_true rfl) (Nat.le_of_ble_eq_true rfl) (Nat.le_of_ble_eq_true rfl) (Nat.le_of_ble_eq_true rfl) (Nat.le_of_ble_eq_true rfl) (Nat.le_of_ble_eq_true rfl) (fun _ _ h => h)
set_option maxRecDepth 100000 in
set_option maxHeartbeats 4000000 in
theorem t_again (hl : l.stackTraces = false) (hF : FR w M Fa Ca Aa Ro Tr n) (x1 x2 : Int32) : Th l D dA B yX6_again wX6_again 8 [.ref M, .int x1, .int x2] w "java/lang/IndexOutOfBoundsException" := by
  refine x_Th.of (cc := cX6_again) (maxL := 5) (by decide) rfl (Nat.le_of_ble_eq_true rfl) ?_
  intro p e s m below meth c F htb
  refine x_aload_n F dX6_again_0 rfl rfl ?_
  refine x_iload_n F dX6_again_1 rfl rfl ?_
  refine x_cVi1 (ci := 5) (C := RX6) (T := TX6) (N := 12) F dX6_again_2 (x_gV q214 q215 q638 q1 q216) rfl (c_clientAt hF _) ⟨rfl, rfl, rfl, xd_X6_clientAt, ⟨Nat.le_of_ble_eq_true rfl, Nat.le_of_ble_eq_true rfl⟩, Nat.le_of_ble_eq_true rfl, Nat.le_of_ble_eq_true rfl⟩ rfl hF.1 (Nat.le_of_ble_eq_true rfl) (fun v1 w1 hp => ?_)
  obtain ⟨rfl, hw9⟩ := hp
  replace hw9 := hw9.symm
  subst hw9
  refine x_astore_nN F dX6_again_5 rfl (by decide) ?_
  refine x_aload_nN F dX6_again_6 rfl rfl ?_
  refine x_ifnonnullN F dX6_again_7 ?_
  refine x_null F dX6_again_10 ?_
  refine x_goto F dX6_again_11 rfl ?_
  refine x_astoreN F dX6_again_22 (by decide) ?_
  refine x_aload_nN F dX6_again_24 rfl rfl ?_
  refine x_ifnullN F dX6_again_25 rfl ?_
  exact x_throw F hl (E := "java/lang/IndexOutOfBoundsException") (text := "no such client or version") (names := xNm) (by decide +kernel) (by decide +kernel) q163 q18 (xs148 (x_Fix.xt F)) (xatI F.2.2.2.2.1 (x_Fix.xt F)) xokI htb dX6_again_33 dX6_again_36 dX6_again_37 dX6_again_39 dX6_again_42 (Nat.le_of_ble_eq_true rfl) (Nat.le_of_ble_eq_true rfl) (Nat.le_of_ble_eq_true rfl) (Nat.le_of_ble_eq_true rfl) (Nat.le_of_ble_eq_true rfl) (Nat.le_of_ble_eq_true rfl) (fun _ _ h => h)
set_option maxRecDepth 100000 in
set_option maxHeartbeats 4000000 in
theorem t_adapter (hl : l.stackTraces = false) (hF : FR w M Fa Ca Aa Ro Tr n) (x1 x2 x3 x4 x5 : Int32) : Th l D dA B yX6_adapter wX6_adapter 8 [.ref M, .int x1, .int x2, .int x3, .int x4, .int x5] w "java/lang/IndexOutOfBoundsException" := by
  refine x_Th.of (cc := cX6_adapter) (maxL := 8) (by decide) rfl (Nat.le_of_ble_eq_true rfl) ?_
  intro p e s m below meth c F htb
  refine x_aload_n F dX6_adapter_0 rfl rfl ?_
  refine x_iload_n F dX6_adapter_1 rfl rfl ?_
  refine x_iload_n F dX6_adapter_2 rfl rfl ?_
  refine x_cVi2 (ci := 5) (C := RX6) (T := TX6) (N := 12) F dX6_adapter_3 (x_gV q119 q120 q636 q1 q121) rfl (c_versionAt hF _ _) ⟨rfl, rfl, rfl, xd_X6_versionAt, ⟨Nat.le_of_ble_eq_true rfl, Nat.le_of_ble_eq_true rfl⟩, Nat.le_of_ble_eq_true rfl, Nat.le_of_ble_eq_true rfl⟩ rfl hF.1 (Nat.le_of_ble_eq_true rfl) (fun v1 w1 hp => ?_)
  obtain ⟨rfl, hw9⟩ := hp
  replace hw9 := hw9.symm
  subst hw9
  refine x_astoreN F dX6_adapter_6 (by decide) ?_
  refine x_aload_n F dX6_adapter_8 rfl rfl ?_
  refine x_iload_n F dX6_adapter_9 rfl rfl ?_
  refine x_iload_n F dX6_adapter_10 rfl rfl ?_
  refine x_cVi2 (ci := 5) (C := RX6) (T := TX6) (N := 12) F dX6_adapter_11 (x_gV q119 q120 q636 q1 q121) rfl (c_versionAt hF _ _) ⟨rfl, rfl, rfl, xd_X6_versionAt, ⟨Nat.le_of_ble_eq_true rfl, Nat.le_of_ble_eq_true rfl⟩, Nat.le_of_ble_eq_true rfl, Nat.le_of_ble_eq_true rfl⟩ rfl hF.1 (Nat.le_of_ble_eq_true rfl) (fun v1 w1 hp => ?_)
  obtain ⟨rfl, hw9⟩ := hp
  replace hw9 := hw9.symm
  subst hw9
  refine x_astoreN F dX6_adapter_14 (by decide) ?_
  refine x_aloadN F dX6_adapter_16 rfl ?_
  refine x_ifnullN F dX6_adapter_18 rfl ?_
  exact x_throw F hl (E := "java/lang/IndexOutOfBoundsException") (text := "no such interface or version") (names := xNm) (by decide +kernel) (by decide +kernel) q163 q18 (xs95 (x_Fix.xt F)) (xatI F.2.2.2.2.1 (x_Fix.xt F)) xokI htb dX6_adapter_26 dX6_adapter_29 dX6_adapter_30 dX6_adapter_32 dX6_adapter_35 (Nat.le_of_ble_eq_true rfl) (Nat.le_of_ble_eq_true rfl) (Nat.le_of_ble_eq_true rfl) (Nat.le_of_ble_eq_true rfl) (Nat.le_of_ble_eq_true rfl) (Nat.le_of_ble_eq_true rfl) (fun _ _ h => h)
set_option maxRecDepth 100000 in
set_option maxHeartbeats 4000000 in
theorem t_ofClient (hl : l.stackTraces = false) (hF : FR w M Fa Ca Aa Ro Tr n) (x1 x2 : Int32) : Th l D dA B yX6_ofClient wX6_ofClient 8 [.ref M, .int x1, .int x2] w "java/lang/IndexOutOfBoundsException" := by
  refine x_Th.of (cc := cX6_ofClient) (maxL := 4) (by decide) rfl (Nat.le_of_ble_eq_true rfl) ?_
  intro p e s m below meth c F htb
  refine x_aload_n F dX6_ofClient_0 rfl rfl ?_
  refine x_iload_n F dX6_ofClient_1 rfl rfl ?_
  refine x_cVi1 (ci := 5) (C := RX6) (T := TX6) (N := 12) F dX6_ofClient_2 (x_gV q214 q215 q638 q1 q216) rfl (c_clientAt hF _) ⟨rfl, rfl, rfl, xd_X6_clientAt, ⟨Nat.le_of_ble_eq_true rfl, Nat.le_of_ble_eq_true rfl⟩, Nat.le_of_ble_eq_true rfl, Nat.le_of_ble_eq_true rfl⟩ rfl hF.1 (Nat.le_of_ble_eq_true rfl) (fun v1 w1 hp => ?_)
  obtain ⟨rfl, hw9⟩ := hp
  replace hw9 := hw9.symm
  subst hw9
  refine x_astore_nN F dX6_ofClient_5 rfl (by decide) ?_
  refine x_aload_nN F dX6_ofClient_6 rfl rfl ?_
  refine x_ifnonnullN F dX6_ofClient_7 ?_
  exact x_throw F hl (E := "java/lang/IndexOutOfBoundsException") (text := "no such client") (names := xNm) (by decide +kernel) (by decide +kernel) q163 q18 (xs173 (x_Fix.xt F)) (xatI F.2.2.2.2.1 (x_Fix.xt F)) xokI htb dX6_ofClient_10 dX6_ofClient_13 dX6_ofClient_14 dX6_ofClient_16 dX6_ofClient_19 (Nat.le_of_ble_eq_true rfl) (Nat.le_of_ble_eq_true rfl) (Nat.le_of_ble_eq_true rfl) (Nat.le_of_ble_eq_true rfl) (Nat.le_of_ble_eq_true rfl) (Nat.le_of_ble_eq_true rfl) (fun _ _ h => h)
set_option maxRecDepth 100000 in
set_option maxHeartbeats 4000000 in
theorem t_routed (hl : l.stackTraces = false) (hF : FR w M Fa Ca Aa Ro Tr n) (x1 x2 : Int32) : Th l D dA B yX6_routed wX6_routed 8 [.ref M, .int x1, .int x2] w "java/lang/IndexOutOfBoundsException" := by
  refine x_Th.of (cc := cX6_routed) (maxL := 4) (by decide) rfl (Nat.le_of_ble_eq_true rfl) ?_
  intro p e s m below meth c F htb
  refine x_aload_n F dX6_routed_0 rfl rfl ?_
  refine x_iload_n F dX6_routed_1 rfl rfl ?_
  refine x_cVi1 (ci := 5) (C := RX6) (T := TX6) (N := 12) F dX6_routed_2 (x_gV q214 q215 q638 q1 q216) rfl (c_clientAt hF _) ⟨rfl, rfl, rfl, xd_X6_clientAt, ⟨Nat.le_of_ble_eq_true rfl, Nat.le_of_ble_eq_true rfl⟩, Nat.le_of_ble_eq_true rfl, Nat.le_of_ble_eq_true rfl⟩ rfl hF.1 (Nat.le_of_ble_eq_true rfl) (fun v1 w1 hp => ?_)
  obtain ⟨rfl, hw9⟩ := hp
  replace hw9 := hw9.symm
  subst hw9
  refine x_astore_nN F dX6_routed_5 rfl (by decide) ?_
  refine x_aload_nN F dX6_routed_6 rfl rfl ?_
  refine x_ifnullN F dX6_routed_7 rfl ?_
  exact x_throw F hl (E := "java/lang/IndexOutOfBoundsException") (text := "no such client, route or place") (names := xNm) (by decide +kernel) (by decide +kernel) q163 q18 (xs192 (x_Fix.xt F)) (xatI F.2.2.2.2.1 (x_Fix.xt F)) xokI htb dX6_routed_45 dX6_routed_48 dX6_routed_49 dX6_routed_51 dX6_routed_54 (Nat.le_of_ble_eq_true rfl) (Nat.le_of_ble_eq_true rfl) (Nat.le_of_ble_eq_true rfl) (Nat.le_of_ble_eq_true rfl) (Nat.le_of_ble_eq_true rfl) (Nat.le_of_ble_eq_true rfl) (fun _ _ h => h)
set_option maxRecDepth 100000 in
set_option maxHeartbeats 4000000 in
theorem t_call (hl : l.stackTraces = false) (hF : FR w M Fa Ca Aa Ro Tr n) (x1 x2 : Int32) : Th l D dA B yX6_call wX6_call 8 [.ref M, .int x1, .int x2] w "java/lang/IndexOutOfBoundsException" := by
  refine x_Th.of (cc := cX6_call) (maxL := 6) (by decide) rfl (Nat.le_of_ble_eq_true rfl) ?_
  intro p e s m below meth c F htb
  refine x_aload_n F dX6_call_0 rfl rfl ?_
  refine x_iload_n F dX6_call_1 rfl rfl ?_
  refine x_cVi1 (ci := 5) (C := RX6) (T := TX6) (N := 12) F dX6_call_2 (x_gV q214 q215 q638 q1 q216) rfl (c_clientAt hF _) ⟨rfl, rfl, rfl, xd_X6_clientAt, ⟨Nat.le_of_ble_eq_true rfl, Nat.le_of_ble_eq_true rfl⟩, Nat.le_of_ble_eq_true rfl, Nat.le_of_ble_eq_true rfl⟩ rfl hF.1 (Nat.le_of_ble_eq_true rfl) (fun v1 w1 hp => ?_)
  obtain ⟨rfl, hw9⟩ := hp
  replace hw9 := hw9.symm
  subst hw9
  refine x_astore_nN F dX6_call_5 rfl (by decide) ?_
  refine x_aload_nN F dX6_call_6 rfl rfl ?_
  refine x_ifnonnullN F dX6_call_7 ?_
  exact x_throw F hl (E := "java/lang/IndexOutOfBoundsException") (text := "no such client") (names := xNm) (by decide +kernel) (by decide +kernel) q163 q18 (xs173 (x_Fix.xt F)) (xatI F.2.2.2.2.1 (x_Fix.xt F)) xokI htb dX6_call_10 dX6_call_13 dX6_call_14 dX6_call_16 dX6_call_19 (Nat.le_of_ble_eq_true rfl) (Nat.le_of_ble_eq_true rfl) (Nat.le_of_ble_eq_true rfl) (Nat.le_of_ble_eq_true rfl) (Nat.le_of_ble_eq_true rfl) (Nat.le_of_ble_eq_true rfl) (fun _ _ h => h)
set_option maxRecDepth 100000 in
set_option maxHeartbeats 4000000 in
theorem t_lastCall (hl : l.stackTraces = false) (hF : FR w M Fa Ca Aa Ro Tr n) (x1 x2 : Int32) : Th l D dA B yX6_lastCall wX6_lastCall 8 [.ref M, .int x1, .int x2] w "java/lang/IndexOutOfBoundsException" := by
  refine x_Th.of (cc := cX6_lastCall) (maxL := 5) (by decide) rfl (Nat.le_of_ble_eq_true rfl) ?_
  intro p e s m below meth c F htb
  refine x_aload_n F dX6_lastCall_0 rfl rfl ?_
  refine x_iload_n F dX6_lastCall_1 rfl rfl ?_
  refine x_cVi1 (ci := 5) (C := RX6) (T := TX6) (N := 12) F dX6_lastCall_2 (x_gV q214 q215 q638 q1 q216) rfl (c_clientAt hF _) ⟨rfl, rfl, rfl, xd_X6_clientAt, ⟨Nat.le_of_ble_eq_true rfl, Nat.le_of_ble_eq_true rfl⟩, Nat.le_of_ble_eq_true rfl, Nat.le_of_ble_eq_true rfl⟩ rfl hF.1 (Nat.le_of_ble_eq_true rfl) (fun v1 w1 hp => ?_)
  obtain ⟨rfl, hw9⟩ := hp
  replace hw9 := hw9.symm
  subst hw9
  refine x_astore_nN F dX6_lastCall_5 rfl (by decide) ?_
  refine x_aload_nN F dX6_lastCall_6 rfl rfl ?_
  refine x_ifnonnullN F dX6_lastCall_7 ?_
  refine x_null F dX6_lastCall_10 ?_
  refine x_goto F dX6_lastCall_11 rfl ?_
  refine x_astoreN F dX6_lastCall_22 (by decide) ?_
  refine x_aload_nN F dX6_lastCall_24 rfl rfl ?_
  refine x_ifnullN F dX6_lastCall_25 rfl ?_
  exact x_throw F hl (E := "java/lang/IndexOutOfBoundsException") (text := "no such client or version") (names := xNm) (by decide +kernel) (by decide +kernel) q163 q18 (xs148 (x_Fix.xt F)) (xatI F.2.2.2.2.1 (x_Fix.xt F)) xokI htb dX6_lastCall_33 dX6_lastCall_36 dX6_lastCall_37 dX6_lastCall_39 dX6_lastCall_42 (Nat.le_of_ble_eq_true rfl) (Nat.le_of_ble_eq_true rfl) (Nat.le_of_ble_eq_true rfl) (Nat.le_of_ble_eq_true rfl) (Nat.le_of_ble_eq_true rfl) (Nat.le_of_ble_eq_true rfl) (fun _ _ h => h)
set_option maxRecDepth 100000 in
set_option maxHeartbeats 4000000 in
theorem t_retire (hl : l.stackTraces = false) (hF : FR w M Fa Ca Aa Ro Tr n) (x1 x2 x3 : Int32) : Th l D dA B yX6_retire wX6_retire 8 [.ref M, .int x1, .int x2, .int x3] w "java/lang/IndexOutOfBoundsException" := by
  refine x_Th.of (cc := cX6_retire) (maxL := 5) (by decide) rfl (Nat.le_of_ble_eq_true rfl) ?_
  intro p e s m below meth c F htb
  refine x_aload_n F dX6_retire_0 rfl rfl ?_
  refine x_iload_n F dX6_retire_1 rfl rfl ?_
  refine x_iload_n F dX6_retire_2 rfl rfl ?_
  refine x_cVi2 (ci := 5) (C := RX6) (T := TX6) (N := 12) F dX6_retire_3 (x_gV q119 q120 q636 q1 q121) rfl (c_versionAt hF _ _) ⟨rfl, rfl, rfl, xd_X6_versionAt, ⟨Nat.le_of_ble_eq_true rfl, Nat.le_of_ble_eq_true rfl⟩, Nat.le_of_ble_eq_true rfl, Nat.le_of_ble_eq_true rfl⟩ rfl hF.1 (Nat.le_of_ble_eq_true rfl) (fun v1 w1 hp => ?_)
  obtain ⟨rfl, hw9⟩ := hp
  replace hw9 := hw9.symm
  subst hw9
  refine x_astoreN F dX6_retire_6 (by decide) ?_
  refine x_aloadN F dX6_retire_8 rfl ?_
  refine x_ifnonnullN F dX6_retire_10 ?_
  exact x_throw F hl (E := "java/lang/IndexOutOfBoundsException") (text := "no such interface or version") (names := xNm) (by decide +kernel) (by decide +kernel) q163 q18 (xs95 (x_Fix.xt F)) (xatI F.2.2.2.2.1 (x_Fix.xt F)) xokI htb dX6_retire_13 dX6_retire_16 dX6_retire_17 dX6_retire_19 dX6_retire_22 (Nat.le_of_ble_eq_true rfl) (Nat.le_of_ble_eq_true rfl) (Nat.le_of_ble_eq_true rfl) (Nat.le_of_ble_eq_true rfl) (Nat.le_of_ble_eq_true rfl) (Nat.le_of_ble_eq_true rfl) (fun _ _ h => h)
set_option maxRecDepth 100000 in
set_option maxHeartbeats 4000000 in
theorem t_answer (hl : l.stackTraces = false) (hF : FR w M Fa Ca Aa Ro Tr n) (x1 x2 x3 : Int32) : Th l D dA B yX6_answer wX6_answer 8 [.ref M, .int x1, .int x2, .int x3] w "java/lang/IndexOutOfBoundsException" := by
  refine x_Th.of (cc := cX6_answer) (maxL := 6) (by decide) rfl (Nat.le_of_ble_eq_true rfl) ?_
  intro p e s m below meth c F htb
  refine x_aload_n F dX6_answer_0 rfl rfl ?_
  refine x_iload_n F dX6_answer_1 rfl rfl ?_
  refine x_iload_n F dX6_answer_2 rfl rfl ?_
  refine x_cVi2 (ci := 5) (C := RX6) (T := TX6) (N := 12) F dX6_answer_3 (x_gV q119 q120 q636 q1 q121) rfl (c_versionAt hF _ _) ⟨rfl, rfl, rfl, xd_X6_versionAt, ⟨Nat.le_of_ble_eq_true rfl, Nat.le_of_ble_eq_true rfl⟩, Nat.le_of_ble_eq_true rfl, Nat.le_of_ble_eq_true rfl⟩ rfl hF.1 (Nat.le_of_ble_eq_true rfl) (fun v1 w1 hp => ?_)
  obtain ⟨rfl, hw9⟩ := hp
  replace hw9 := hw9.symm
  subst hw9
  refine x_astoreN F dX6_answer_6 (by decide) ?_
  refine x_aloadN F dX6_answer_8 rfl ?_
  refine x_ifnullN F dX6_answer_10 rfl ?_
  exact x_throw F hl (E := "java/lang/IndexOutOfBoundsException") (text := "no such owner, interface or version") (names := xNm) (by decide +kernel) (by decide +kernel) q163 q18 (xs218 (x_Fix.xt F)) (xatI F.2.2.2.2.1 (x_Fix.xt F)) xokI htb dX6_answer_20 dX6_answer_23 dX6_answer_24 dX6_answer_26 dX6_answer_29 (Nat.le_of_ble_eq_true rfl) (Nat.le_of_ble_eq_true rfl) (Nat.le_of_ble_eq_true rfl) (Nat.le_of_ble_eq_true rfl) (Nat.le_of_ble_eq_true rfl) (Nat.le_of_ble_eq_true rfl) (fun _ _ h => h)
set_option maxRecDepth 100000 in
set_option maxHeartbeats 4000000 in
theorem t_recall (hl : l.stackTraces = false) (hF : FR w M Fa Ca Aa Ro Tr n) (x1 x2 : Int32) : Th l D dA B yX6_recall wX6_recall 8 [.ref M, .int x1, .int x2] w "java/lang/IndexOutOfBoundsException" := by
  refine x_Th.of (cc := cX6_recall) (maxL := 5) (by decide) rfl (Nat.le_of_ble_eq_true rfl) ?_
  intro p e s m below meth c F htb
  refine x_aload_n F dX6_recall_0 rfl rfl ?_
  refine x_iload_n F dX6_recall_1 rfl rfl ?_
  refine x_iload_n F dX6_recall_2 rfl rfl ?_
  refine x_cVi2 (ci := 5) (C := RX6) (T := TX6) (N := 12) F dX6_recall_3 (x_gV q119 q120 q636 q1 q121) rfl (c_versionAt hF _ _) ⟨rfl, rfl, rfl, xd_X6_versionAt, ⟨Nat.le_of_ble_eq_true rfl, Nat.le_of_ble_eq_true rfl⟩, Nat.le_of_ble_eq_true rfl, Nat.le_of_ble_eq_true rfl⟩ rfl hF.1 (Nat.le_of_ble_eq_true rfl) (fun v1 w1 hp => ?_)
  obtain ⟨rfl, hw9⟩ := hp
  replace hw9 := hw9.symm
  subst hw9
  refine x_astore_nN F dX6_recall_6 rfl (by decide) ?_
  refine x_aload_nN F dX6_recall_7 rfl rfl ?_
  refine x_ifnonnullN F dX6_recall_8 ?_
  exact x_throw F hl (E := "java/lang/IndexOutOfBoundsException") (text := "no such interface or version") (names := xNm) (by decide +kernel) (by decide +kernel) q163 q18 (xs95 (x_Fix.xt F)) (xatI F.2.2.2.2.1 (x_Fix.xt F)) xokI htb dX6_recall_11 dX6_recall_14 dX6_recall_15 dX6_recall_17 dX6_recall_20 (Nat.le_of_ble_eq_true rfl) (Nat.le_of_ble_eq_true rfl) (Nat.le_of_ble_eq_true rfl) (Nat.le_of_ble_eq_true rfl) (Nat.le_of_ble_eq_true rfl) (Nat.le_of_ble_eq_true rfl) (fun _ _ h => h)
set_option maxRecDepth 100000 in
set_option maxHeartbeats 4000000 in
theorem t_asked (hl : l.stackTraces = false) (hF : FR w M Fa Ca Aa Ro Tr n) (x1 x2 x3 : Int32) : Th l D dA B yX6_asked wX6_asked 8 [.ref M, .int x1, .int x2, .int x3] w "java/lang/IndexOutOfBoundsException" := by
  refine x_Th.of (cc := cX6_asked) (maxL := 5) (by decide) rfl (Nat.le_of_ble_eq_true rfl) ?_
  intro p e s m below meth c F htb
  refine x_aload_n F dX6_asked_0 rfl rfl ?_
  refine x_iload_n F dX6_asked_1 rfl rfl ?_
  refine x_iload_n F dX6_asked_2 rfl rfl ?_
  refine x_cVi2 (ci := 5) (C := RX6) (T := TX6) (N := 12) F dX6_asked_3 (x_gV q119 q120 q636 q1 q121) rfl (c_versionAt hF _ _) ⟨rfl, rfl, rfl, xd_X6_versionAt, ⟨Nat.le_of_ble_eq_true rfl, Nat.le_of_ble_eq_true rfl⟩, Nat.le_of_ble_eq_true rfl, Nat.le_of_ble_eq_true rfl⟩ rfl hF.1 (Nat.le_of_ble_eq_true rfl) (fun v1 w1 hp => ?_)
  obtain ⟨rfl, hw9⟩ := hp
  replace hw9 := hw9.symm
  subst hw9
  refine x_astoreN F dX6_asked_6 (by decide) ?_
  refine x_aloadN F dX6_asked_8 rfl ?_
  refine x_ifnullN F dX6_asked_10 rfl ?_
  exact x_throw F hl (E := "java/lang/IndexOutOfBoundsException") (text := "no such owner, interface or version") (names := xNm) (by decide +kernel) (by decide +kernel) q163 q18 (xs218 (x_Fix.xt F)) (xatI F.2.2.2.2.1 (x_Fix.xt F)) xokI htb dX6_asked_20 dX6_asked_23 dX6_asked_24 dX6_asked_26 dX6_asked_29 (Nat.le_of_ble_eq_true rfl) (Nat.le_of_ble_eq_true rfl) (Nat.le_of_ble_eq_true rfl) (Nat.le_of_ble_eq_true rfl) (Nat.le_of_ble_eq_true rfl) (Nat.le_of_ble_eq_true rfl) (fun _ _ h => h)
set_option maxRecDepth 100000 in
set_option maxHeartbeats 4000000 in
theorem t_wouldCome (hl : l.stackTraces = false) (hF : FR w M Fa Ca Aa Ro Tr n) (x1 x2 : Int32) : Th l D dA B yX6_wouldCome wX6_wouldCome 8 [.ref M, .int x1, .int x2] w "java/lang/IndexOutOfBoundsException" := by
  refine x_Th.of (cc := cX6_wouldCome) (maxL := 4) (by decide) rfl (Nat.le_of_ble_eq_true rfl) ?_
  intro p e s m below meth c F htb
  refine x_aload_n F dX6_wouldCome_0 rfl rfl ?_
  refine x_iload_n F dX6_wouldCome_1 rfl rfl ?_
  refine x_cVi1 (ci := 5) (C := RX6) (T := TX6) (N := 12) F dX6_wouldCome_2 (x_gV q214 q215 q638 q1 q216) rfl (c_clientAt hF _) ⟨rfl, rfl, rfl, xd_X6_clientAt, ⟨Nat.le_of_ble_eq_true rfl, Nat.le_of_ble_eq_true rfl⟩, Nat.le_of_ble_eq_true rfl, Nat.le_of_ble_eq_true rfl⟩ rfl hF.1 (Nat.le_of_ble_eq_true rfl) (fun v1 w1 hp => ?_)
  obtain ⟨rfl, hw9⟩ := hp
  replace hw9 := hw9.symm
  subst hw9
  refine x_astore_nN F dX6_wouldCome_5 rfl (by decide) ?_
  refine x_aload_nN F dX6_wouldCome_6 rfl rfl ?_
  refine x_ifnonnullN F dX6_wouldCome_7 ?_
  exact x_throw F hl (E := "java/lang/IndexOutOfBoundsException") (text := "no such client") (names := xNm) (by decide +kernel) (by decide +kernel) q163 q18 (xs173 (x_Fix.xt F)) (xatI F.2.2.2.2.1 (x_Fix.xt F)) xokI htb dX6_wouldCome_10 dX6_wouldCome_13 dX6_wouldCome_14 dX6_wouldCome_16 dX6_wouldCome_19 (Nat.le_of_ble_eq_true rfl) (Nat.le_of_ble_eq_true rfl) (Nat.le_of_ble_eq_true rfl) (Nat.le_of_ble_eq_true rfl) (Nat.le_of_ble_eq_true rfl) (Nat.le_of_ble_eq_true rfl) (fun _ _ h => h)
set_option maxRecDepth 100000 in
set_option maxHeartbeats 4000000 in
theorem t_goneIn (hl : l.stackTraces = false) (hF : FR w M Fa Ca Aa Ro Tr n) (x1 x2 : Int32) : Th l D dA B yX6_goneIn wX6_goneIn 8 [.ref M, .int x1, .int x2] w "java/lang/IndexOutOfBoundsException" := by
  refine x_Th.of (cc := cX6_goneIn) (maxL := 4) (by decide) rfl (Nat.le_of_ble_eq_true rfl) ?_
  intro p e s m below meth c F htb
  refine x_aload_n F dX6_goneIn_0 rfl rfl ?_
  refine x_iload_n F dX6_goneIn_1 rfl rfl ?_
  refine x_iload_n F dX6_goneIn_2 rfl rfl ?_
  refine x_cVi2 (ci := 5) (C := RX6) (T := TX6) (N := 12) F dX6_goneIn_3 (x_gV q119 q120 q636 q1 q121) rfl (c_versionAt hF _ _) ⟨rfl, rfl, rfl, xd_X6_versionAt, ⟨Nat.le_of_ble_eq_true rfl, Nat.le_of_ble_eq_true rfl⟩, Nat.le_of_ble_eq_true rfl, Nat.le_of_ble_eq_true rfl⟩ rfl hF.1 (Nat.le_of_ble_eq_true rfl) (fun v1 w1 hp => ?_)
  obtain ⟨rfl, hw9⟩ := hp
  replace hw9 := hw9.symm
  subst hw9
  refine x_astore_nN F dX6_goneIn_6 rfl (by decide) ?_
  refine x_aload_nN F dX6_goneIn_7 rfl rfl ?_
  refine x_ifnonnullN F dX6_goneIn_8 ?_
  exact x_throw F hl (E := "java/lang/IndexOutOfBoundsException") (text := "no such interface or version") (names := xNm) (by decide +kernel) (by decide +kernel) q163 q18 (xs95 (x_Fix.xt F)) (xatI F.2.2.2.2.1 (x_Fix.xt F)) xokI htb dX6_goneIn_11 dX6_goneIn_14 dX6_goneIn_15 dX6_goneIn_17 dX6_goneIn_20 (Nat.le_of_ble_eq_true rfl) (Nat.le_of_ble_eq_true rfl) (Nat.le_of_ble_eq_true rfl) (Nat.le_of_ble_eq_true rfl) (Nat.le_of_ble_eq_true rfl) (Nat.le_of_ble_eq_true rfl) (fun _ _ h => h)
set_option maxRecDepth 100000 in
set_option maxHeartbeats 4000000 in
theorem t_wouldBreak (hl : l.stackTraces = false) (hF : FR w M Fa Ca Aa Ro Tr n) (x1 x2 x3 : Int32) : Th l D dA B yX6_wouldBreak wX6_wouldBreak 8 [.ref M, .int x1, .int x2, .int x3] w "java/lang/IndexOutOfBoundsException" := by
  refine x_Th.of (cc := cX6_wouldBreak) (maxL := 8) (by decide) rfl (Nat.le_of_ble_eq_true rfl) ?_
  intro p e s m below meth c F htb
  refine x_aload_n F dX6_wouldBreak_0 rfl rfl ?_
  refine x_iload_n F dX6_wouldBreak_1 rfl rfl ?_
  refine x_cVi1 (ci := 5) (C := RX6) (T := TX6) (N := 12) F dX6_wouldBreak_2 (x_gV q122 q123 q637 q1 q124) rfl (c_faceAt hF _) ⟨rfl, rfl, rfl, xd_X6_faceAt, ⟨Nat.le_of_ble_eq_true rfl, Nat.le_of_ble_eq_true rfl⟩, Nat.le_of_ble_eq_true rfl, Nat.le_of_ble_eq_true rfl⟩ rfl hF.1 (Nat.le_of_ble_eq_true rfl) (fun v1 w1 hp => ?_)
  obtain ⟨rfl, hw9⟩ := hp
  replace hw9 := hw9.symm
  subst hw9
  refine x_astoreN F dX6_wouldBreak_5 (by decide) ?_
  refine x_aloadN F dX6_wouldBreak_7 rfl ?_
  refine x_ifnonnullN F dX6_wouldBreak_9 ?_
  exact x_throw F hl (E := "java/lang/IndexOutOfBoundsException") (text := "no such interface") (names := xNm) (by decide +kernel) (by decide +kernel) q163 q18 (xs61 (x_Fix.xt F)) (xatI F.2.2.2.2.1 (x_Fix.xt F)) xokI htb dX6_wouldBreak_12 dX6_wouldBreak_15 dX6_wouldBreak_16 dX6_wouldBreak_18 dX6_wouldBreak_21 (Nat.le_of_ble_eq_true rfl) (Nat.le_of_ble_eq_true rfl) (Nat.le_of_ble_eq_true rfl) (Nat.le_of_ble_eq_true rfl) (Nat.le_of_ble_eq_true rfl) (Nat.le_of_ble_eq_true rfl) (fun _ _ h => h)
set_option maxRecDepth 100000 in
set_option maxHeartbeats 4000000 in
theorem t_target (hl : l.stackTraces = false) (hF : FR w M Fa Ca Aa Ro Tr n) (x1 : Int32) : Th l D dA B yX6_target wX6_target 8 [.ref M, .int x1] w "java/lang/IndexOutOfBoundsException" := by
  refine x_Th.of (cc := cX6_target) (maxL := 3) (by decide) rfl (Nat.le_of_ble_eq_true rfl) ?_
  intro p e s m below meth c F htb
  refine x_aload_n F dX6_target_0 rfl rfl ?_
  refine x_iload_n F dX6_target_1 rfl rfl ?_
  refine x_cVi1 (ci := 5) (C := RX6) (T := TX6) (N := 12) F dX6_target_2 (x_gV q214 q215 q638 q1 q216) rfl (c_clientAt hF _) ⟨rfl, rfl, rfl, xd_X6_clientAt, ⟨Nat.le_of_ble_eq_true rfl, Nat.le_of_ble_eq_true rfl⟩, Nat.le_of_ble_eq_true rfl, Nat.le_of_ble_eq_true rfl⟩ rfl hF.1 (Nat.le_of_ble_eq_true rfl) (fun v1 w1 hp => ?_)
  obtain ⟨rfl, hw9⟩ := hp
  replace hw9 := hw9.symm
  subst hw9
  refine x_astore_nN F dX6_target_5 rfl (by decide) ?_
  refine x_aload_nN F dX6_target_6 rfl rfl ?_
  refine x_ifnonnullN F dX6_target_7 ?_
  exact x_throw F hl (E := "java/lang/IndexOutOfBoundsException") (text := "no such client") (names := xNm) (by decide +kernel) (by decide +kernel) q163 q18 (xs173 (x_Fix.xt F)) (xatI F.2.2.2.2.1 (x_Fix.xt F)) xokI htb dX6_target_10 dX6_target_13 dX6_target_14 dX6_target_16 dX6_target_19 (Nat.le_of_ble_eq_true rfl) (Nat.le_of_ble_eq_true rfl) (Nat.le_of_ble_eq_true rfl) (Nat.le_of_ble_eq_true rfl) (Nat.le_of_ble_eq_true rfl) (Nat.le_of_ble_eq_true rfl) (fun _ _ h => h)
set_option maxRecDepth 100000 in
set_option maxHeartbeats 4000000 in
theorem t_goneBy (hl : l.stackTraces = false) (hF : FR w M Fa Ca Aa Ro Tr n) (x1 x2 x3 : Int32) : Th l D dA B yX6_goneBy wX6_goneBy 8 [.ref M, .int x1, .int x2, .int x3] w "java/lang/IndexOutOfBoundsException" := by
  refine x_Th.of (cc := cX6_goneBy) (maxL := 5) (by decide) rfl (Nat.le_of_ble_eq_true rfl) ?_
  intro p e s m below meth c F htb
  refine x_aload_n F dX6_goneBy_0 rfl rfl ?_
  refine x_iload_n F dX6_goneBy_1 rfl rfl ?_
  refine x_iload_n F dX6_goneBy_2 rfl rfl ?_
  refine x_cVi2 (ci := 5) (C := RX6) (T := TX6) (N := 12) F dX6_goneBy_3 (x_gV q119 q120 q636 q1 q121) rfl (c_versionAt hF _ _) ⟨rfl, rfl, rfl, xd_X6_versionAt, ⟨Nat.le_of_ble_eq_true rfl, Nat.le_of_ble_eq_true rfl⟩, Nat.le_of_ble_eq_true rfl, Nat.le_of_ble_eq_true rfl⟩ rfl hF.1 (Nat.le_of_ble_eq_true rfl) (fun v1 w1 hp => ?_)
  obtain ⟨rfl, hw9⟩ := hp
  replace hw9 := hw9.symm
  subst hw9
  refine x_astoreN F dX6_goneBy_6 (by decide) ?_
  refine x_aloadN F dX6_goneBy_8 rfl ?_
  refine x_ifnonnullN F dX6_goneBy_10 ?_
  exact x_throw F hl (E := "java/lang/IndexOutOfBoundsException") (text := "no such interface or version") (names := xNm) (by decide +kernel) (by decide +kernel) q163 q18 (xs95 (x_Fix.xt F)) (xatI F.2.2.2.2.1 (x_Fix.xt F)) xokI htb dX6_goneBy_13 dX6_goneBy_16 dX6_goneBy_17 dX6_goneBy_19 dX6_goneBy_22 (Nat.le_of_ble_eq_true rfl) (Nat.le_of_ble_eq_true rfl) (Nat.le_of_ble_eq_true rfl) (Nat.le_of_ble_eq_true rfl) (Nat.le_of_ble_eq_true rfl) (Nat.le_of_ble_eq_true rfl) (fun _ _ h => h)
set_option maxRecDepth 100000 in
set_option maxHeartbeats 4000000 in
theorem t_many (hl : l.stackTraces = false) (x : Int32) (h : x < 0 ∨ ¬ x ≤ 10) (M : Nat) : Th l D dA B yX6_many wX6_many 8 [.ref M, .int x] w "java/lang/IllegalArgumentException" := by
  refine x_Th.of (cc := cX6_many) (maxL := 2) (by decide) rfl (Nat.le_of_ble_eq_true rfl) ?_
  intro p e s m below meth c F htb
  refine x_iload_n F dX6_many_0 rfl rfl ?_
  refine x_if_lt F dX6_many_1 rfl (fun h1 => ?_) (fun h1 => ?_)
  · exact x_throw F hl (E := "java/lang/IllegalArgumentException") (text := "what is not 0 to 10") (names := xNm) (by decide +kernel) (by decide +kernel) q165 q19 (xs97 (x_Fix.xt F)) (xatA F.2.2.2.2.1 (x_Fix.xt F)) xokA htb dX6_many_10 dX6_many_13 dX6_many_14 dX6_many_16 dX6_many_19 (Nat.le_of_ble_eq_true rfl) (Nat.le_of_ble_eq_true rfl) (Nat.le_of_ble_eq_true rfl) (Nat.le_of_ble_eq_true rfl) (Nat.le_of_ble_eq_true rfl) (Nat.le_of_ble_eq_true rfl) (fun _ _ h => h)
  · refine x_iload_n F dX6_many_4 rfl rfl ?_
    refine x_bipush (v := 10) F dX6_many_5 (by decide) ?_
    refine x_icmp_le F dX6_many_7 rfl (fun hc => absurd hc (h.resolve_left h1)) (fun h7 => ?_)
    exact x_throw F hl (E := "java/lang/IllegalArgumentException") (text := "what is not 0 to 10") (names := xNm) (by decide +kernel) (by decide +kernel) q165 q19 (xs97 (x_Fix.xt F)) (xatA F.2.2.2.2.1 (x_Fix.xt F)) xokA htb dX6_many_10 dX6_many_13 dX6_many_14 dX6_many_16 dX6_many_19 (Nat.le_of_ble_eq_true rfl) (Nat.le_of_ble_eq_true rfl) (Nat.le_of_ble_eq_true rfl) (Nat.le_of_ble_eq_true rfl) (Nat.le_of_ble_eq_true rfl) (Nat.le_of_ble_eq_true rfl) (fun _ _ h => h)
set_option maxRecDepth 100000 in
set_option maxHeartbeats 4000000 in
theorem t_pass (hl : l.stackTraces = false) (x : Int32) (h : x < 1 ∨ ¬ x ≤ 100) (M : Nat) : Th l D dA B yX6_pass wX6_pass 8 [.ref M, .int x] w "java/lang/IllegalArgumentException" := by
  refine x_Th.of (cc := cX6_pass) (maxL := 4) (by decide) rfl (Nat.le_of_ble_eq_true rfl) ?_
  intro p e s m below meth c F htb
  refine x_iload_n F dX6_pass_0 rfl rfl ?_
  refine x_iconst (v := 1) F dX6_pass_1 (by decide) ?_
  refine x_icmp_lt F dX6_pass_2 rfl (fun h2 => ?_) (fun h2 => ?_)
  · exact x_throw F hl (E := "java/lang/IllegalArgumentException") (text := "hours is not 1 to 100") (names := xNm) (by decide +kernel) (by decide +kernel) q165 q19 (xs199 (x_Fix.xt F)) (xatA F.2.2.2.2.1 (x_Fix.xt F)) xokA htb dX6_pass_11 dX6_pass_14 dX6_pass_15 dX6_pass_17 dX6_pass_20 (Nat.le_of_ble_eq_true rfl) (Nat.le_of_ble_eq_true rfl) (Nat.le_of_ble_eq_true rfl) (Nat.le_of_ble_eq_true rfl) (Nat.le_of_ble_eq_true rfl) (Nat.le_of_ble_eq_true rfl) (fun _ _ h => h)
  · refine x_iload_n F dX6_pass_5 rfl rfl ?_
    refine x_bipush (v := 100) F dX6_pass_6 (by decide) ?_
    refine x_icmp_le F dX6_pass_8 rfl (fun hc => absurd hc (h.resolve_left h2)) (fun h8 => ?_)
    exact x_throw F hl (E := "java/lang/IllegalArgumentException") (text := "hours is not 1 to 100") (names := xNm) (by decide +kernel) (by decide +kernel) q165 q19 (xs199 (x_Fix.xt F)) (xatA F.2.2.2.2.1 (x_Fix.xt F)) xokA htb dX6_pass_11 dX6_pass_14 dX6_pass_15 dX6_pass_17 dX6_pass_20 (Nat.le_of_ble_eq_true rfl) (Nat.le_of_ble_eq_true rfl) (Nat.le_of_ble_eq_true rfl) (Nat.le_of_ble_eq_true rfl) (Nat.le_of_ble_eq_true rfl) (Nat.le_of_ble_eq_true rfl) (fun _ _ h => h)
set_option maxRecDepth 100000 in
set_option maxHeartbeats 4000000 in
theorem c_many (hF : FR w M Fa Ca Aa Ro Tr 0) {t : Nat} (ht : t ≤ 10) : Ci l D dA B yX6_many wX6_many 5 [.ref M, .int (nI t)] w (fun v w1 => v = .int 0 ∧ w1 = w) := by
  refine x_Ct.of (cc := cX6_many) (maxL := 2) (by decide) rfl (Nat.le_of_ble_eq_true rfl) ?_
  intro p e s m below meth c F
  refine x_iload_n F dX6_many_0 rfl rfl ?_
  refine x_if_lt F dX6_many_1 rfl (fun hc => absurd hc (nI_pos (by omega))) (fun h1 => ?_)
  refine x_iload_n F dX6_many_4 rfl rfl ?_
  refine x_bipush (v := 10) F dX6_many_5 (by decide) ?_
  refine x_icmp_le F dX6_many_7 rfl (fun h7 => ?_) (fun hc => absurd hc (fun q => q ((nI_leI (b := 10) (by omega) (by decide)).mpr ht)))
  refine x_aload_n F dX6_many_20 rfl rfl ?_
  refine x_iload_n F dX6_many_21 rfl rfl ?_
  refine x_cVi1 (ci := 5) (C := RX6) (T := TX6) (N := 12) F dX6_many_22 (x_gV q113 q114 q634 q1 q115) rfl (c_countOf hF ht) ⟨rfl, rfl, rfl, xd_X6_countOf, ⟨Nat.le_of_ble_eq_true rfl, Nat.le_of_ble_eq_true rfl⟩, Nat.le_of_ble_eq_true rfl, Nat.le_of_ble_eq_true rfl⟩ rfl hF.1 (Nat.le_of_ble_eq_true rfl) (fun v1 w1 hp => ?_)
  obtain ⟨rfl, hw9⟩ := hp
  replace hw9 := hw9.symm
  subst hw9
  refine x_iret F rfl rfl dX6_many_25 (Nat.le_of_ble_eq_true rfl) (Nat.le_of_ble_eq_true rfl) ?_
  exact ⟨_, rfl, rfl, rfl⟩
set_option maxRecDepth 100000 in
set_option maxHeartbeats 4000000 in
theorem c_share (hF : FR w M Fa Ca Aa Ro Tr n) : Ci l D dA B yX6_servedShare wX6_servedShare 0 [.ref M] w (fun v w1 => v = .double FP.dconst1 ∧ w1 = w) := by
  refine x_Ct.of (cc := cX6_servedShare) (maxL := 1) (by decide) rfl (Nat.le_of_ble_eq_true rfl) ?_
  intro p e s m below meth c F
  refine x_aload_n F dX6_servedShare_0 rfl rfl ?_
  refine x_get (ci := 5) (C := RX6) (T := TX6) (N := 12) (k := 7) F dX6_servedShare_1 rfl inX6 (by decide) q86 rfl hF.1 rfl ?_
  refine x_if_ne F dX6_servedShare_4 rfl (fun hc => absurd hc (by decide)) (fun _ => ?_)
  refine x_dconst1 F dX6_servedShare_7 ?_
  refine x_dret F rfl dX6_servedShare_8 (Nat.le_of_ble_eq_true rfl) (Nat.le_of_ble_eq_true rfl) ?_
  exact ⟨_, rfl, rfl, rfl⟩
set_option maxRecDepth 100000 in
set_option maxHeartbeats 4000000 in
theorem c_hour (hF : FR w M Fa Ca Aa Ro Tr n) : Ci l D dA B yX6_beginHour wX6_beginHour 2 [.ref M] w (fun v w1 => v = .int 0 ∧ w1 = (x_set w M (oX Fa Ca Aa Ro Tr 0 (n + 1)))) := by
  refine x_Ct.of (cc := cX6_beginHour) (maxL := 5) (by decide) rfl (Nat.le_of_ble_eq_true rfl) ?_
  intro p e s m below meth c F
  have hG : FR (x_set w M (oX Fa Ca Aa Ro Tr 0 (n + 1))) M Fa Ca Aa Ro Tr (n + 1) := hF.setN (n + 1)
  obtain ⟨wg, hwg⟩ : ∃ wg, wg = (x_set w M (oX Fa Ca Aa Ro Tr 0 (n + 1))) := ⟨_, rfl⟩
  rw [← hwg] at hG
  have loop2 : ∀ n2 f, f + n2 = 4 → X p l e (rmd 2 0 0) s m #[.ref M] below meth c (MQ below (x_Q D dA vwC1 tyL1 B (fun r w1 => ∃ v, r = some v ∧ (v = .int 0 ∧ w1 = (x_set w M (oX Fa Ca Aa Ro Tr 0 (n + 1)))))) #[.ref M] s 0 0 (fun q => B ≤ q)) D dA vwC1 B 5 0 0 50 [(0, .ref M), (1, .int 0), (2, .int (nI f))] [] wg := by
    intro n2
    induction n2 with
    | zero =>
      intro f hf1
      obtain rfl : f = 4 := by omega
      refine x_iload_n F dX6_beginHour_50 rfl rfl ?_
      refine x_iconst (v := 4) F dX6_beginHour_51 (by decide) ?_
      refine x_icmp_ge F dX6_beginHour_52 rfl (fun h52 => ?_) (fun hc => absurd hc (fun q => q (Int32.le_refl _)))
      refine x_iload_n F dX6_beginHour_124 rfl rfl ?_
      refine x_iret F rfl rfl dX6_beginHour_125 (Nat.le_of_ble_eq_true rfl) (Nat.le_of_ble_eq_true rfl) ?_
      exact ⟨_, rfl, rfl, hwg⟩
    | succ n2 ih2 =>
      intro f hf1
      have inner : ∀ n1 k, k + n1 = 6 → X p l e (rmd 2 0 0) s m #[.ref M] below meth c (MQ below (x_Q D dA vwC1 tyL1 B (fun r w1 => ∃ v, r = some v ∧ (v = .int 0 ∧ w1 = (x_set w M (oX Fa Ca Aa Ro Tr 0 (n + 1)))))) #[.ref M] s 0 0 (fun q => B ≤ q)) D dA vwC1 B 5 0 0 57 [(0, .ref M), (1, .int 0), (2, .int (nI f)), (3, .int (nI k))] [] wg := by
        intro n1
        induction n1 with
        | zero =>
          intro k hk1 
          obtain rfl : k = 6 := by omega
          refine x_iload_n F dX6_beginHour_57 rfl rfl ?_
          refine x_bipush (v := 6) F dX6_beginHour_58 (by decide) ?_
          refine x_icmp_ge F dX6_beginHour_60 rfl (fun h60 => ?_) (fun hc => absurd hc (fun q => q (Int32.le_refl _)))
          refine x_iincN F dX6_beginHour_118 (by decide) rfl (by decide) ?_
          refine x_goto F dX6_beginHour_121 rfl ?_
          exact x_lk (ih2 (f + 1) (by omega)) ⟨rfl, rfl, rfl, trivial⟩
        | succ n1 ih =>
          intro k hk1 
          refine x_iload_n F dX6_beginHour_57 rfl rfl ?_
          refine x_bipush (v := 6) F dX6_beginHour_58 (by decide) ?_
          refine x_icmp_ge F dX6_beginHour_60 rfl (fun hc => absurd hc (nI_ge (b := 6) (by omega) (by decide))) (fun h60 => ?_)
          refine x_aload_n F dX6_beginHour_63 rfl rfl ?_
          refine x_iload_n F dX6_beginHour_64 rfl rfl ?_
          refine x_iload_n F dX6_beginHour_65 rfl rfl ?_
          refine x_cVi2 (ci := 5) (C := RX6) (T := TX6) (N := 12) F dX6_beginHour_66 (x_gV q119 q120 q636 q1 q121) rfl (c_versionAt hG (nI f) (nI k)) ⟨rfl, rfl, rfl, xd_X6_versionAt, ⟨Nat.le_of_ble_eq_true rfl, Nat.le_of_ble_eq_true rfl⟩, Nat.le_of_ble_eq_true rfl, Nat.le_of_ble_eq_true rfl⟩ rfl hG.1 (Nat.le_of_ble_eq_true rfl) (fun v1 w1 hp => ?_)
          obtain ⟨rfl, hw9⟩ := hp
          replace hw9 := hw9.symm
          subst hw9
          refine x_astoreN F dX6_beginHour_69 (by decide) ?_
          refine x_aloadN F dX6_beginHour_71 rfl ?_
          refine x_ifnullN F dX6_beginHour_73 rfl ?_
          refine x_iincN F dX6_beginHour_112 (by decide) rfl (by decide) ?_
          refine x_goto F dX6_beginHour_115 rfl ?_
          exact x_lk (ih (k + 1) (by omega)) ⟨rfl, rfl, rfl, rfl, trivial⟩
      refine x_iload_n F dX6_beginHour_50 rfl rfl ?_
      refine x_iconst (v := 4) F dX6_beginHour_51 (by decide) ?_
      refine x_icmp_ge F dX6_beginHour_52 rfl (fun hc => absurd hc (nI_ge (b := 4) (by omega) (by decide))) (fun h52 => ?_)
      refine x_iconst (v := 0) F dX6_beginHour_55 (by decide) ?_
      refine x_istore_n F dX6_beginHour_56 rfl (by decide) ?_
      exact x_lk (inner 6 0 (by omega)) ⟨rfl, rfl, rfl, rfl, trivial⟩
  have loop1 : ∀ n1 k, k + n1 = 10 → X p l e (rmd 2 0 0) s m #[.ref M] below meth c (MQ below (x_Q D dA vwC1 tyL1 B (fun r w1 => ∃ v, r = some v ∧ (v = .int 0 ∧ w1 = (x_set w M (oX Fa Ca Aa Ro Tr 0 (n + 1)))))) #[.ref M] s 0 0 (fun q => B ≤ q)) D dA vwC1 B 5 0 0 12 [(0, .ref M), (1, .int (nI k))] [] wg := by
    intro n1
    induction n1 with
    | zero =>
      intro k hk1 
      obtain rfl : k = 10 := by omega
      refine x_iload_n F dX6_beginHour_12 rfl rfl ?_
      refine x_aload_n F dX6_beginHour_13 rfl rfl ?_
      refine x_get (ci := 5) (C := RX6) (T := TX6) (N := 12) (k := 1) F dX6_beginHour_14 rfl inX6 (by decide) q80 rfl hG.1 rfl ?_
      refine x_alen (v := 10) F dX6_beginHour_17 rfl hG.2.2 rfl ?_
      refine x_icmp_ge F dX6_beginHour_18 rfl (fun h18 => ?_) (fun hc => absurd hc (fun q => q (Int32.le_refl _)))
      refine x_iconst (v := 0) F dX6_beginHour_46 (by decide) ?_
      refine x_istore_n F dX6_beginHour_47 rfl (by decide) ?_
      refine x_iconst (v := 0) F dX6_beginHour_48 (by decide) ?_
      refine x_istore_n F dX6_beginHour_49 rfl (by decide) ?_
      exact x_lk (loop2 4 0 (by omega)) ⟨rfl, rfl, rfl, trivial⟩
    | succ n1 ih =>
      intro k hk1 
      refine x_iload_n F dX6_beginHour_12 rfl rfl ?_
      refine x_aload_n F dX6_beginHour_13 rfl rfl ?_
      refine x_get (ci := 5) (C := RX6) (T := TX6) (N := 12) (k := 1) F dX6_beginHour_14 rfl inX6 (by decide) q80 rfl hG.1 rfl ?_
      refine x_alen (v := 10) F dX6_beginHour_17 rfl hG.2.2 rfl ?_
      refine x_icmp_ge F dX6_beginHour_18 rfl (fun hc => absurd hc (nI_ge (b := 10) (by omega) (by decide))) (fun h18 => ?_)
      refine x_aload_n F dX6_beginHour_21 rfl rfl ?_
      refine x_get (ci := 5) (C := RX6) (T := TX6) (N := 12) (k := 1) F dX6_beginHour_22 rfl inX6 (by decide) q80 rfl hG.1 rfl ?_
      refine x_iload_n F dX6_beginHour_25 rfl rfl ?_
      refine x_aaldN F dX6_beginHour_26 rfl hG.2.2 (by omega) (by decide) ?_
      refine x_astore_nN F dX6_beginHour_27 rfl (by decide) ?_
      refine x_aload_nN F dX6_beginHour_28 rfl rfl ?_
      refine x_ifnullN F dX6_beginHour_29 rfl ?_
      refine x_iincN F dX6_beginHour_40 (by decide) rfl (by decide) ?_
      refine x_goto F dX6_beginHour_43 rfl ?_
      exact x_lk (ih (k + 1) (by omega)) ⟨rfl, rfl, trivial⟩
  refine x_aload_n F dX6_beginHour_0 rfl rfl ?_
  refine x_dup F dX6_beginHour_1 rfl ?_
  refine x_get (ci := 5) (C := RX6) (T := TX6) (N := 12) (k := 6) F dX6_beginHour_2 rfl inX6 (by decide) q85 rfl hF.1 rfl ?_
  refine x_iconst (v := 1) F dX6_beginHour_5 (by decide) ?_
  refine x_iadd F dX6_beginHour_6 ?_
  refine x_put (ci := 5) (C := RX6) (T := TX6) (N := 12) (k := 6) F dX6_beginHour_7 rfl inX6 tyX6 tyX6_ok nmX6 (by decide) q85 rfl rfl hF.1 (Nat.le_of_ble_eq_true rfl) rfl rfl ?_
  refine x_wd (fun w2 hw2 => ?_)
  obtain rfl : w2 = wg := hw2.trans hwg.symm
  refine x_iconst (v := 0) F dX6_beginHour_10 (by decide) ?_
  refine x_istore_n F dX6_beginHour_11 rfl (by decide) ?_
  exact x_lk (loop1 10 0 (by omega)) ⟨rfl, rfl, trivial⟩
set_option maxRecDepth 100000 in
set_option maxHeartbeats 4000000 in
theorem c_pass (hF : FR w M Fa Ca Aa Ro Tr n) {t : Nat} (ha : 1 ≤ t) (hb : t ≤ 100) : Ci l D dA B yX6_pass wX6_pass 3 [.ref M, .int (nI t)] w (fun v w1 => v = .int 0 ∧ ∀ a, ¬ a = M → w1 a = w a) := by
  refine x_Ct.of (cc := cX6_pass) (maxL := 4) (by decide) rfl (Nat.le_of_ble_eq_true rfl) ?_
  intro p e s m below meth c F
  have loop : ∀ n1 k, k + n1 = t → ∀ n wz, FR wz M Fa Ca Aa Ro Tr n → (∀ a, ¬ a = M → wz a = w a) → X p l e (rmd 3 0 0) s m #[.ref M, .int (nI t)] below meth c (MQ below (x_Q D dA vwC1 tyL1 B (fun r w1 => ∃ v, r = some v ∧ (v = .int 0 ∧ ∀ a, ¬ a = M → w1 a = w a))) #[.ref M, .int (nI t)] s 0 0 (fun q => B ≤ q)) D dA vwC1 B 4 0 0 25 [(0, .ref M), (1, .int (nI t)), (2, .int 0), (3, .int (nI k))] [] wz := by
    intro n1
    induction n1 with
    | zero =>
      intro k hk1 n wz hF ho
      obtain rfl : k = t := by omega
      refine x_iload_n F dX6_pass_25 rfl rfl ?_
      refine x_iload_n F dX6_pass_26 rfl rfl ?_
      refine x_icmp_ge F dX6_pass_27 rfl (fun h27 => ?_) (fun hc => absurd hc (fun q => q (Int32.le_refl _)))
      refine x_iload_n F dX6_pass_43 rfl rfl ?_
      refine x_iret F rfl rfl dX6_pass_44 (Nat.le_of_ble_eq_true rfl) (Nat.le_of_ble_eq_true rfl) ?_
      exact ⟨_, rfl, rfl, ho⟩
    | succ n1 ih =>
      intro k hk1 n wz hF ho
      refine x_iload_n F dX6_pass_25 rfl rfl ?_
      refine x_iload_n F dX6_pass_26 rfl rfl ?_
      refine x_icmp_ge F dX6_pass_27 rfl (fun hc => absurd hc (nI_ge (by omega) (by omega))) (fun h27 => ?_)
      refine x_iload_n F dX6_pass_30 rfl rfl ?_
      refine x_aload_n F dX6_pass_31 rfl rfl ?_
      refine x_cVi0 (ci := 5) (C := RX6) (T := TX6) (N := 12) F dX6_pass_32 (x_gV q255 q256 q639 q1 q257) rfl (c_hour hF) ⟨rfl, rfl, rfl, xd_X6_beginHour, ⟨Nat.le_of_ble_eq_true rfl, Nat.le_of_ble_eq_true rfl⟩, Nat.le_of_ble_eq_true rfl, Nat.le_of_ble_eq_true rfl⟩ rfl hF.1 (Nat.le_of_ble_eq_true rfl) (fun v1 w1 hp => ?_)
      obtain ⟨rfl, hw9⟩ := hp
      refine x_iadd F dX6_pass_35 ?_
      refine x_istore_n F dX6_pass_36 rfl (by decide) ?_
      refine x_iincN F dX6_pass_37 (by decide) rfl (by decide) ?_
      refine x_goto F dX6_pass_40 rfl ?_
      rw [hw9]
      exact x_lk (ih (k + 1) (by omega) _ _ (hF.setN _) (fun a h => (x_set_ne _ _ h).trans (ho a h))) ⟨rfl, rfl, rfl, rfl, trivial⟩
  refine x_iload_n F dX6_pass_0 rfl rfl ?_
  refine x_iconst (v := 1) F dX6_pass_1 (by decide) ?_
  refine x_icmp_lt F dX6_pass_2 rfl (fun hc => absurd hc (nI_nlt (b := 1) ha (by omega))) (fun h2 => ?_)
  refine x_iload_n F dX6_pass_5 rfl rfl ?_
  refine x_bipush (v := 100) F dX6_pass_6 (by decide) ?_
  refine x_icmp_le F dX6_pass_8 rfl (fun h8 => ?_) (fun hc => absurd hc (fun q => q ((nI_leI (b := 100) (by omega) (by decide)).mpr hb)))
  refine x_iconst (v := 0) F dX6_pass_21 (by decide) ?_
  refine x_istore_n F dX6_pass_22 rfl (by decide) ?_
  refine x_iconst (v := 0) F dX6_pass_23 (by decide) ?_
  refine x_istore_n F dX6_pass_24 rfl (by decide) ?_
  exact x_lk (loop t 0 (by omega) _ _ hF (fun _ _ => rfl)) ⟨rfl, rfl, rfl, rfl, trivial⟩
end THR
end
section
theorem dJxa1e45_init_da8c8_0 : decode cJxa1e45_init_da8c8 0 = .ok (.aload_n 0, 1) := by decide +kernel
theorem dJxa1e45_init_da8c8_1 : decode cJxa1e45_init_da8c8 1 = .ok (.invokespecial 1, 3) := by decide +kernel
theorem dJxa1e45_init_da8c8_4 : decode cJxa1e45_init_da8c8 4 = .ok (.return_, 1) := by decide +kernel
theorem dJxc12de_init_da8c8_0 : decode cJxc12de_init_da8c8 0 = .ok (.aload_n 0, 1) := by decide +kernel
theorem dJxc12de_init_da8c8_1 : decode cJxc12de_init_da8c8 1 = .ok (.invokespecial 1, 3) := by decide +kernel
theorem dJxc12de_init_da8c8_4 : decode cJxc12de_init_da8c8 4 = .ok (.aload_n 0, 1) := by decide +kernel
theorem dJxc12de_init_da8c8_5 : decode cJxc12de_init_da8c8 5 = .ok (.iconst 0, 1) := by decide +kernel
theorem dJxc12de_init_da8c8_6 : decode cJxc12de_init_da8c8 6 = .ok (.putfield 7, 3) := by decide +kernel
theorem dJxc12de_init_da8c8_9 : decode cJxc12de_init_da8c8 9 = .ok (.return_, 1) := by decide +kernel
theorem dJx4a65c_init_da8c8_0 : decode cJx4a65c_init_da8c8 0 = .ok (.aload_n 0, 1) := by decide +kernel
theorem dJx4a65c_init_da8c8_1 : decode cJx4a65c_init_da8c8 1 = .ok (.invokespecial 1, 3) := by decide +kernel
theorem dJx4a65c_init_da8c8_4 : decode cJx4a65c_init_da8c8 4 = .ok (.aload_n 0, 1) := by decide +kernel
theorem dJx4a65c_init_da8c8_5 : decode cJx4a65c_init_da8c8 5 = .ok (.getstatic 39, 3) := by decide +kernel
theorem dJx4a65c_init_da8c8_8 : decode cJx4a65c_init_da8c8 8 = .ok (.putfield 9, 3) := by decide +kernel
theorem dJx4a65c_init_da8c8_11 : decode cJx4a65c_init_da8c8 11 = .ok (.return_, 1) := by decide +kernel
theorem dJx4a65c_size_8abf5_0 : decode cJx4a65c_size_8abf5 0 = .ok (.aload_n 0, 1) := by decide +kernel
theorem dJx4a65c_size_8abf5_1 : decode cJx4a65c_size_8abf5 1 = .ok (.getfield 48, 3) := by decide +kernel
theorem dJx4a65c_size_8abf5_4 : decode cJx4a65c_size_8abf5 4 = .ok (.ireturn, 1) := by decide +kernel
theorem dJx4a65c_isEmpty_aae02_0 : decode cJx4a65c_isEmpty_aae02 0 = .ok (.aload_n 0, 1) := by decide +kernel
theorem dJx4a65c_isEmpty_aae02_1 : decode cJx4a65c_isEmpty_aae02 1 = .ok (.getfield 48, 3) := by decide +kernel
theorem dJx4a65c_isEmpty_aae02_4 : decode cJx4a65c_isEmpty_aae02 4 = .ok (.ifCond .ne 7, 3) := by decide +kernel
theorem dJx4a65c_isEmpty_aae02_7 : decode cJx4a65c_isEmpty_aae02 7 = .ok (.iconst 1, 1) := by decide +kernel
theorem dJx4a65c_isEmpty_aae02_8 : decode cJx4a65c_isEmpty_aae02 8 = .ok (.goto 4, 3) := by decide +kernel
theorem dJx4a65c_isEmpty_aae02_12 : decode cJx4a65c_isEmpty_aae02 12 = .ok (.ireturn, 1) := by decide +kernel
theorem dJx35411_init_45d68_0 : decode cJx35411_init_45d68 0 = .ok (.aload_n 0, 1) := by decide +kernel
theorem dJx35411_init_45d68_1 : decode cJx35411_init_45d68 1 = .ok (.aload_n 1, 1) := by decide +kernel
theorem dJx35411_init_45d68_2 : decode cJx35411_init_45d68 2 = .ok (.putfield 1, 3) := by decide +kernel
theorem dJx35411_init_45d68_5 : decode cJx35411_init_45d68 5 = .ok (.aload_n 0, 1) := by decide +kernel
theorem dJx35411_init_45d68_6 : decode cJx35411_init_45d68 6 = .ok (.invokespecial 7, 3) := by decide +kernel
theorem dJx35411_init_45d68_9 : decode cJx35411_init_45d68 9 = .ok (.aload_n 0, 1) := by decide +kernel
theorem dJx35411_init_45d68_10 : decode cJx35411_init_45d68 10 = .ok (.iconst (-1), 1) := by decide +kernel
theorem dJx35411_init_45d68_11 : decode cJx35411_init_45d68 11 = .ok (.putfield 13, 3) := by decide +kernel
theorem dJx35411_init_45d68_14 : decode cJx35411_init_45d68 14 = .ok (.aload_n 0, 1) := by decide +kernel
theorem dJx35411_init_45d68_15 : decode cJx35411_init_45d68 15 = .ok (.aload_n 0, 1) := by decide +kernel
theorem dJx35411_init_45d68_16 : decode cJx35411_init_45d68 16 = .ok (.getfield 1, 3) := by decide +kernel
theorem dJx35411_init_45d68_19 : decode cJx35411_init_45d68 19 = .ok (.getfield 17, 3) := by decide +kernel
theorem dJx35411_init_45d68_22 : decode cJx35411_init_45d68 22 = .ok (.putfield 22, 3) := by decide +kernel
theorem dJx35411_init_45d68_25 : decode cJx35411_init_45d68 25 = .ok (.return_, 1) := by decide +kernel
theorem dJx4a65c_iterator_32c93_0 : decode cJx4a65c_iterator_32c93 0 = .ok (.new 267, 3) := by decide +kernel
theorem dJx4a65c_iterator_32c93_3 : decode cJx4a65c_iterator_32c93 3 = .ok (.dup, 1) := by decide +kernel
theorem dJx4a65c_iterator_32c93_4 : decode cJx4a65c_iterator_32c93 4 = .ok (.aload_n 0, 1) := by decide +kernel
theorem dJx4a65c_iterator_32c93_5 : decode cJx4a65c_iterator_32c93 5 = .ok (.invokespecial 269, 3) := by decide +kernel
theorem dJx4a65c_iterator_32c93_8 : decode cJx4a65c_iterator_32c93 8 = .ok (.areturn, 1) := by decide +kernel
theorem dJx35411_hasNext_aae02_0 : decode cJx35411_hasNext_aae02 0 = .ok (.aload_n 0, 1) := by decide +kernel
theorem dJx35411_hasNext_aae02_1 : decode cJx35411_hasNext_aae02 1 = .ok (.getfield 25, 3) := by decide +kernel
theorem dJx35411_hasNext_aae02_4 : decode cJx35411_hasNext_aae02 4 = .ok (.aload_n 0, 1) := by decide +kernel
theorem dJx35411_hasNext_aae02_5 : decode cJx35411_hasNext_aae02 5 = .ok (.getfield 1, 3) := by decide +kernel
theorem dJx35411_hasNext_aae02_8 : decode cJx35411_hasNext_aae02 8 = .ok (.getfield 28, 3) := by decide +kernel
theorem dJx35411_hasNext_aae02_11 : decode cJx35411_hasNext_aae02 11 = .ok (.if_icmp .eq 7, 3) := by decide +kernel
theorem dJx35411_hasNext_aae02_18 : decode cJx35411_hasNext_aae02 18 = .ok (.iconst 0, 1) := by decide +kernel
theorem dJx35411_hasNext_aae02_19 : decode cJx35411_hasNext_aae02 19 = .ok (.ireturn, 1) := by decide +kernel
theorem dJx4a65c_grow_92f84_0 : decode cJx4a65c_grow_92f84 0 = .ok (.aload_n 0, 1) := by decide +kernel
theorem dJx4a65c_grow_92f84_1 : decode cJx4a65c_grow_92f84 1 = .ok (.getfield 9, 3) := by decide +kernel
theorem dJx4a65c_grow_92f84_4 : decode cJx4a65c_grow_92f84 4 = .ok (.arraylength, 1) := by decide +kernel
theorem dJx4a65c_grow_92f84_5 : decode cJx4a65c_grow_92f84 5 = .ok (.istore_n 2, 1) := by decide +kernel
theorem dJx4a65c_grow_92f84_6 : decode cJx4a65c_grow_92f84 6 = .ok (.iload_n 2, 1) := by decide +kernel
theorem dJx4a65c_grow_92f84_7 : decode cJx4a65c_grow_92f84 7 = .ok (.ifCond .gt 13, 3) := by decide +kernel
theorem dJx4a65c_grow_92f84_10 : decode cJx4a65c_grow_92f84 10 = .ok (.aload_n 0, 1) := by decide +kernel
theorem dJx4a65c_grow_92f84_11 : decode cJx4a65c_grow_92f84 11 = .ok (.getfield 9, 3) := by decide +kernel
theorem dJx4a65c_grow_92f84_14 : decode cJx4a65c_grow_92f84 14 = .ok (.getstatic 39, 3) := by decide +kernel
theorem dJx4a65c_grow_92f84_17 : decode cJx4a65c_grow_92f84 17 = .ok (.if_acmp .eq 28, 3) := by decide +kernel
theorem dJx4a65c_grow_92f84_45 : decode cJx4a65c_grow_92f84 45 = .ok (.aload_n 0, 1) := by decide +kernel
theorem dJx4a65c_grow_92f84_46 : decode cJx4a65c_grow_92f84 46 = .ok (.bipush 10, 2) := by decide +kernel
theorem dJx4a65c_grow_92f84_48 : decode cJx4a65c_grow_92f84 48 = .ok (.iload_n 1, 1) := by decide +kernel
theorem dJx4a65c_grow_92f84_49 : decode cJx4a65c_grow_92f84 49 = .ok (.invokestatic 79, 3) := by decide +kernel
theorem dJx4a65c_grow_92f84_52 : decode cJx4a65c_grow_92f84 52 = .ok (.anewarray 7, 3) := by decide +kernel
theorem dJx4a65c_grow_92f84_55 : decode cJx4a65c_grow_92f84 55 = .ok (.dup_x1, 1) := by decide +kernel
theorem dJx4a65c_grow_92f84_56 : decode cJx4a65c_grow_92f84 56 = .ok (.putfield 9, 3) := by decide +kernel
theorem dJx4a65c_grow_92f84_59 : decode cJx4a65c_grow_92f84 59 = .ok (.areturn, 1) := by decide +kernel
theorem dJx4a65c_grow_d5877_0 : decode cJx4a65c_grow_d5877 0 = .ok (.aload_n 0, 1) := by decide +kernel
theorem dJx4a65c_grow_d5877_1 : decode cJx4a65c_grow_d5877 1 = .ok (.aload_n 0, 1) := by decide +kernel
theorem dJx4a65c_grow_d5877_2 : decode cJx4a65c_grow_d5877 2 = .ok (.getfield 48, 3) := by decide +kernel
theorem dJx4a65c_grow_d5877_5 : decode cJx4a65c_grow_d5877 5 = .ok (.iconst 1, 1) := by decide +kernel
theorem dJx4a65c_grow_d5877_6 : decode cJx4a65c_grow_d5877 6 = .ok (.iadd, 1) := by decide +kernel
theorem dJx4a65c_grow_d5877_7 : decode cJx4a65c_grow_d5877 7 = .ok (.invokevirtual 69, 3) := by decide +kernel
theorem dJx4a65c_grow_d5877_10 : decode cJx4a65c_grow_d5877 10 = .ok (.areturn, 1) := by decide +kernel
theorem dJx4a65c_add_72be8_0 : decode cJx4a65c_add_72be8 0 = .ok (.iload_n 3, 1) := by decide +kernel
theorem dJx4a65c_add_72be8_1 : decode cJx4a65c_add_72be8 1 = .ok (.aload_n 2, 1) := by decide +kernel
theorem dJx4a65c_add_72be8_2 : decode cJx4a65c_add_72be8 2 = .ok (.arraylength, 1) := by decide +kernel
theorem dJx4a65c_add_72be8_3 : decode cJx4a65c_add_72be8 3 = .ok (.if_icmp .ne 8, 3) := by decide +kernel
theorem dJx4a65c_add_72be8_6 : decode cJx4a65c_add_72be8 6 = .ok (.aload_n 0, 1) := by decide +kernel
theorem dJx4a65c_add_72be8_7 : decode cJx4a65c_add_72be8 7 = .ok (.invokevirtual 129, 3) := by decide +kernel
theorem dJx4a65c_add_72be8_10 : decode cJx4a65c_add_72be8 10 = .ok (.astore_n 2, 1) := by decide +kernel
theorem dJx4a65c_add_72be8_11 : decode cJx4a65c_add_72be8 11 = .ok (.aload_n 2, 1) := by decide +kernel
theorem dJx4a65c_add_72be8_12 : decode cJx4a65c_add_72be8 12 = .ok (.iload_n 3, 1) := by decide +kernel
theorem dJx4a65c_add_72be8_13 : decode cJx4a65c_add_72be8 13 = .ok (.aload_n 1, 1) := by decide +kernel
theorem dJx4a65c_add_72be8_14 : decode cJx4a65c_add_72be8 14 = .ok (.aastore, 1) := by decide +kernel
theorem dJx4a65c_add_72be8_15 : decode cJx4a65c_add_72be8 15 = .ok (.aload_n 0, 1) := by decide +kernel
theorem dJx4a65c_add_72be8_16 : decode cJx4a65c_add_72be8 16 = .ok (.iload_n 3, 1) := by decide +kernel
theorem dJx4a65c_add_72be8_17 : decode cJx4a65c_add_72be8 17 = .ok (.iconst 1, 1) := by decide +kernel
theorem dJx4a65c_add_72be8_18 : decode cJx4a65c_add_72be8 18 = .ok (.iadd, 1) := by decide +kernel
theorem dJx4a65c_add_72be8_19 : decode cJx4a65c_add_72be8 19 = .ok (.putfield 48, 3) := by decide +kernel
theorem dJx4a65c_add_72be8_22 : decode cJx4a65c_add_72be8 22 = .ok (.return_, 1) := by decide +kernel
theorem dJx4a65c_add_9ea2d_0 : decode cJx4a65c_add_9ea2d 0 = .ok (.aload_n 0, 1) := by decide +kernel
theorem dJx4a65c_add_9ea2d_1 : decode cJx4a65c_add_9ea2d 1 = .ok (.dup, 1) := by decide +kernel
theorem dJx4a65c_add_9ea2d_2 : decode cJx4a65c_add_9ea2d 2 = .ok (.getfield 63, 3) := by decide +kernel
theorem dJx4a65c_add_9ea2d_5 : decode cJx4a65c_add_9ea2d 5 = .ok (.iconst 1, 1) := by decide +kernel
theorem dJx4a65c_add_9ea2d_6 : decode cJx4a65c_add_9ea2d 6 = .ok (.iadd, 1) := by decide +kernel
theorem dJx4a65c_add_9ea2d_7 : decode cJx4a65c_add_9ea2d 7 = .ok (.putfield 63, 3) := by decide +kernel
theorem dJx4a65c_add_9ea2d_10 : decode cJx4a65c_add_9ea2d 10 = .ok (.aload_n 0, 1) := by decide +kernel
theorem dJx4a65c_add_9ea2d_11 : decode cJx4a65c_add_9ea2d 11 = .ok (.aload_n 1, 1) := by decide +kernel
theorem dJx4a65c_add_9ea2d_12 : decode cJx4a65c_add_9ea2d 12 = .ok (.aload_n 0, 1) := by decide +kernel
theorem dJx4a65c_add_9ea2d_13 : decode cJx4a65c_add_9ea2d 13 = .ok (.getfield 9, 3) := by decide +kernel
theorem dJx4a65c_add_9ea2d_16 : decode cJx4a65c_add_9ea2d 16 = .ok (.aload_n 0, 1) := by decide +kernel
theorem dJx4a65c_add_9ea2d_17 : decode cJx4a65c_add_9ea2d 17 = .ok (.getfield 48, 3) := by decide +kernel
theorem dJx4a65c_add_9ea2d_20 : decode cJx4a65c_add_9ea2d 20 = .ok (.invokevirtual 131, 3) := by decide +kernel
theorem dJx4a65c_add_9ea2d_23 : decode cJx4a65c_add_9ea2d 23 = .ok (.iconst 1, 1) := by decide +kernel
theorem dJx4a65c_add_9ea2d_24 : decode cJx4a65c_add_9ea2d 24 = .ok (.ireturn, 1) := by decide +kernel
/-! ===== lists without elements ===== -/
section LST
variable {l : Launch} {D : va_G} {dA : Nat → ClassId} {B : Nat} {w : xW}
set_option maxRecDepth 100000 in
set_option maxHeartbeats 4000000 in
theorem c_ac_init (a : Nat) : Cv l D dA B yJxa1e45_init_da8c8 wJxa1e45_init_da8c8 1 [.ref a] w (fun w1 => w1 = w) := by
  refine x_Ct.of (cc := cJxa1e45_init_da8c8) (maxL := 1) (by decide) rfl (Nat.le_of_ble_eq_true rfl) ?_
  intro p e s m below meth c F
  refine x_aload_n F dJxa1e45_init_da8c8_0 rfl rfl ?_
  refine x_objInit F dJxa1e45_init_da8c8_1 q358 q37 q38 (Nat.le_of_ble_eq_true rfl) (Nat.le_of_ble_eq_true rfl) ?_
  refine x_vret F rfl dJxa1e45_init_da8c8_4 (Nat.le_of_ble_eq_true rfl) (Nat.le_of_ble_eq_true rfl) ?_
  exact ⟨rfl, rfl⟩
set_option maxRecDepth 100000 in
set_option maxHeartbeats 4000000 in
theorem c_al_init {a : Nat} (h : w a = some (.inr (1, [.int 0, .null, .int 0]))) : Cv l D dA B yJxc12de_init_da8c8 wJxc12de_init_da8c8 2 [.ref a] w (fun w1 => w1 = w) := by
  refine x_Ct.of (cc := cJxc12de_init_da8c8) (maxL := 1) (by decide) rfl (Nat.le_of_ble_eq_true rfl) ?_
  intro p e s m below meth c F
  refine x_aload_n F dJxc12de_init_da8c8_0 rfl rfl ?_
  refine x_cI0 F dJxc12de_init_da8c8_1 (x_gI q357) q7 q355 q356 rfl (c_ac_init a) ⟨rfl, rfl, rfl, xd_Jxa1e45_init_da8c8, ⟨Nat.le_of_ble_eq_true rfl, Nat.le_of_ble_eq_true rfl⟩, Nat.le_of_ble_eq_true rfl, Nat.le_of_ble_eq_true rfl⟩ (Nat.le_of_ble_eq_true rfl) (fun w1 hp => ?_)
  replace hp := hp.symm
  subst hp
  refine x_aload_n F dJxc12de_init_da8c8_4 rfl rfl ?_
  refine x_iconst (v := 0) F dJxc12de_init_da8c8_5 (by decide) ?_
  refine x_put (ci := 1) (C := RJx4a65c) (T := TJx4a65c) (N := 3) (k := 0) F dJxc12de_init_da8c8_6 rfl inJx4a65c tyJx4a65c tyJx4a65c_ok nmJx4a65c (by decide) q363 rfl rfl h (Nat.le_of_ble_eq_true rfl) rfl rfl ?_
  refine x_wd (fun w2 hw2 => ?_)
  obtain rfl : w2 = w := by rw [hw2]; exact x_set_self h
  refine x_vret F rfl dJxc12de_init_da8c8_9 (Nat.le_of_ble_eq_true rfl) (Nat.le_of_ble_eq_true rfl) ?_
  exact ⟨rfl, rfl⟩
set_option maxRecDepth 100000 in
set_option maxHeartbeats 4000000 in
theorem c_li_init {a : Nat} (h : w a = some (.inr (1, [.int 0, .null, .int 0]))) : Cv l D dA B yJx4a65c_init_da8c8 wJx4a65c_init_da8c8 3 [.ref a] w (fun w1 => w1 = x_set w a (oE (dA 99))) := by
  refine x_Ct.of (cc := cJx4a65c_init_da8c8) (maxL := 1) (by decide) rfl (Nat.le_of_ble_eq_true rfl) ?_
  intro p e s m below meth c F
  refine x_aload_n F dJx4a65c_init_da8c8_0 rfl rfl ?_
  refine x_cI0 F dJx4a65c_init_da8c8_1 (x_gI q354) q8 q352 q353 rfl (c_al_init h) ⟨rfl, rfl, rfl, xd_Jxc12de_init_da8c8, ⟨Nat.le_of_ble_eq_true rfl, Nat.le_of_ble_eq_true rfl⟩, Nat.le_of_ble_eq_true rfl, Nat.le_of_ble_eq_true rfl⟩ (Nat.le_of_ble_eq_true rfl) (fun w1 hp => ?_)
  replace hp := hp.symm
  subst hp
  refine x_aload_n F dJx4a65c_init_da8c8_4 rfl rfl ?_
  refine x_getsE F dJx4a65c_init_da8c8_5 q359 ?_
  refine x_put (ci := 1) (C := RJx4a65c) (T := TJx4a65c) (N := 3) (k := 1) F dJx4a65c_init_da8c8_8 rfl inJx4a65c tyJx4a65c tyJx4a65c_ok nmJx4a65c (by decide) q360 rfl rfl h (Nat.le_of_ble_eq_true rfl) rfl rfl ?_
  refine x_vret F rfl dJx4a65c_init_da8c8_11 (Nat.le_of_ble_eq_true rfl) (Nat.le_of_ble_eq_true rfl) ?_
  exact ⟨rfl, rfl⟩
set_option maxRecDepth 100000 in
set_option maxHeartbeats 4000000 in
theorem c_size {a el : Nat} {pp z : Int32} (h : w a = some (.inr (1, [.int pp, .ref el, .int z]))) : Ci l D dA B yJx4a65c_size_8abf5 wJx4a65c_size_8abf5 0 [.ref a] w (fun v w1 => v = .int z ∧ w1 = w) := by
  refine x_Ct.of (cc := cJx4a65c_size_8abf5) (maxL := 1) (by decide) rfl (Nat.le_of_ble_eq_true rfl) ?_
  intro p e s m below meth c F
  refine x_aload_n F dJx4a65c_size_8abf5_0 rfl rfl ?_
  refine x_get (ci := 1) (C := RJx4a65c) (T := TJx4a65c) (N := 3) (k := 2) F dJx4a65c_size_8abf5_1 rfl inJx4a65c (by decide) q362 rfl h rfl ?_
  refine x_iret F rfl rfl dJx4a65c_size_8abf5_4 (Nat.le_of_ble_eq_true rfl) (Nat.le_of_ble_eq_true rfl) ?_
  exact ⟨_, rfl, rfl, rfl⟩
set_option maxRecDepth 100000 in
set_option maxHeartbeats 4000000 in
theorem c_isEmpty {a el : Nat} (h : w a = some (oE el)) : Ci l D dA B yJx4a65c_isEmpty_aae02 wJx4a65c_isEmpty_aae02 0 [.ref a] w (fun v w1 => v = .int 1 ∧ w1 = w) := by
  refine x_Ct.of (cc := cJx4a65c_isEmpty_aae02) (maxL := 1) (by decide) rfl (Nat.le_of_ble_eq_true rfl) ?_
  intro p e s m below meth c F
  refine x_aload_n F dJx4a65c_isEmpty_aae02_0 rfl rfl ?_
  refine x_get (ci := 1) (C := RJx4a65c) (T := TJx4a65c) (N := 3) (k := 2) F dJx4a65c_isEmpty_aae02_1 rfl inJx4a65c (by decide) q362 rfl h rfl ?_
  refine x_if_ne F dJx4a65c_isEmpty_aae02_4 rfl (fun hc => absurd hc (by decide)) (fun _ => ?_)
  refine x_iconst (v := 1) F dJx4a65c_isEmpty_aae02_7 (by decide) ?_
  refine x_goto F dJx4a65c_isEmpty_aae02_8 rfl ?_
  refine x_iret F rfl rfl dJx4a65c_isEmpty_aae02_12 (Nat.le_of_ble_eq_true rfl) (Nat.le_of_ble_eq_true rfl) ?_
  exact ⟨_, rfl, rfl, rfl⟩
set_option maxRecDepth 100000 in
set_option maxHeartbeats 4000000 in
theorem c_it_init {r a el : Nat} (h_r : w r = some (.inr (0, [.int 0, .int 0, .int 0, .null]))) (h_a : w a = some (oE el)) : Cv l D dA B yJx35411_init_45d68 wJx35411_init_45d68 1 [.ref r, .ref a] w (fun w1 => w1 = x_set w r (.inr (0, [.int 0, .int (-1), .int 0, .ref a]))) := by
  refine x_Ct.of (cc := cJx35411_init_45d68) (maxL := 2) (by decide) rfl (Nat.le_of_ble_eq_true rfl) ?_
  intro p e s m below meth c F
  have ne_a_r : ¬ a = r := w_ne h_a h_r (fun z => by cases z)
  have hf : ∀ b, ¬ b = r → w b = w b := fun b _ => rfl
  refine x_aload_n F dJx35411_init_45d68_0 rfl rfl ?_
  refine x_aload_n F dJx35411_init_45d68_1 rfl rfl ?_
  refine x_putF (ci := 0) (C := RJx35411) (T := TJx35411) (N := 4) (k := 3) F dJx35411_init_45d68_2 rfl inJx35411 tyJx35411 tyJx35411_ok nmJx35411 (by decide) q464 rfl rfl rfl rfl h_r (Nat.le_of_ble_eq_true rfl) rfl rfl ?_
  refine x_wd (fun w1 hw1 => ?_)
  have h_r : w1 r = some (.inr (0, [.int 0, .int 0, .int 0, .ref a])) := by rw [hw1]; exact x_set_eq _ _ _
  have h_a : w1 a = some (oE el) := by rw [hw1, x_set_ne _ _ ne_a_r]; exact h_a
  have hf : ∀ b, ¬ b = r → w1 b = w b := fun b g0 => by rw [hw1]; exact (x_set_ne _ _ g0).trans (hf b g0)
  refine x_aload_n F dJx35411_init_45d68_5 rfl rfl ?_
  refine x_objInit F dJx35411_init_45d68_6 q460 q37 q38 (Nat.le_of_ble_eq_true rfl) (Nat.le_of_ble_eq_true rfl) ?_
  refine x_aload_n F dJx35411_init_45d68_9 rfl rfl ?_
  refine x_iconst (v := (-1)) F dJx35411_init_45d68_10 (by decide) ?_
  refine x_put (ci := 0) (C := RJx35411) (T := TJx35411) (N := 4) (k := 1) F dJx35411_init_45d68_11 rfl inJx35411 tyJx35411 tyJx35411_ok nmJx35411 (by decide) q462 rfl rfl h_r (Nat.le_of_ble_eq_true rfl) rfl rfl ?_
  refine x_wd (fun w2 hw2 => ?_)
  have h_r : w2 r = some (.inr (0, [.int 0, .int (-1), .int 0, .ref a])) := by rw [hw2]; exact x_set_eq _ _ _
  have h_a : w2 a = some (oE el) := by rw [hw2, x_set_ne _ _ ne_a_r]; exact h_a
  have hf : ∀ b, ¬ b = r → w2 b = w b := fun b g0 => by rw [hw2]; exact (x_set_ne _ _ g0).trans (hf b g0)
  refine x_aload_n F dJx35411_init_45d68_14 rfl rfl ?_
  refine x_aload_n F dJx35411_init_45d68_15 rfl rfl ?_
  refine x_get (ci := 0) (C := RJx35411) (T := TJx35411) (N := 4) (k := 3) F dJx35411_init_45d68_16 rfl inJx35411 (by decide) q464 rfl h_r rfl ?_
  refine x_getS (ci := 1) (C := RJx4a65c) (T := TJx4a65c) (N := 3) (k := 0) F dJx35411_init_45d68_19 rfl inJx4a65c (by decide) q364 q365 h_a rfl ?_
  refine x_put (ci := 0) (C := RJx35411) (T := TJx35411) (N := 4) (k := 2) F dJx35411_init_45d68_22 rfl inJx35411 tyJx35411 tyJx35411_ok nmJx35411 (by decide) q463 rfl rfl h_r (Nat.le_of_ble_eq_true rfl) rfl rfl ?_
  refine x_wd (fun w3 hw3 => ?_)
  have h_r : w3 r = some (.inr (0, [.int 0, .int (-1), .int 0, .ref a])) := by rw [hw3]; exact x_set_eq _ _ _
  have h_a : w3 a = some (oE el) := by rw [hw3, x_set_ne _ _ ne_a_r]; exact h_a
  have hf : ∀ b, ¬ b = r → w3 b = w b := fun b g0 => by rw [hw3]; exact (x_set_ne _ _ g0).trans (hf b g0)
  refine x_vret F rfl dJx35411_init_45d68_25 (Nat.le_of_ble_eq_true rfl) (Nat.le_of_ble_eq_true rfl) ?_
  refine ⟨rfl, ?_⟩
  funext b
  by_cases hb : b = r
  · subst hb; rw [x_set_eq]; exact h_r
  · rw [x_set_ne _ _ hb]; exact hf b hb
set_option maxRecDepth 100000 in
set_option maxHeartbeats 4000000 in
theorem c_iter {a el : Nat} (h : w a = some (oE el)) : x_Ci l D dA vwC1 tyL1 B yJx4a65c_iterator_32c93 wJx4a65c_iterator_32c93 (rmd 2 1 4) [.ref a] w (fun v w1 => ∃ r, w r = none ∧ v = .ref r ∧ w1 = x_set w r (.inr (0, [.int 0, .int (-1), .int 0, .ref a]))) 1 4 := by
  refine x_Ct.of (cc := cJx4a65c_iterator_32c93) (maxL := 1) (by decide) rfl (Nat.le_of_ble_eq_true rfl) ?_
  intro p e s m below meth c F
  refine x_new (ci := 0) (C := RJx35411) (T := TJx35411) (N := 4) (fs := [.int 0, .int 0, .int 0, .null]) F dJx4a65c_iterator_32c93_0 rfl inJx35411 tyJx35411 tyJx35411_ok q455 q456 q24 (fun j hj => by rcases (show j = 0 ∨ j = 1 ∨ j = 2 ∨ j = 3 by omega) with rfl | rfl | rfl | rfl <;> rfl) (Nat.le_of_ble_eq_true rfl) (Nat.le_of_ble_eq_true rfl) (fun r hr => ?_)
  refine x_wd (fun w1 hw1 => ?_)
  have h_r : w1 r = some (.inr (0, [.int 0, .int 0, .int 0, .null])) := by rw [hw1]; exact x_set_eq _ _ _
  have h_a : w1 a = some (oE el) := by rw [hw1, x_set_ne _ _ (w_neN h hr)]; exact h
  refine x_dup F dJx4a65c_iterator_32c93_3 rfl ?_
  refine x_aload_n F dJx4a65c_iterator_32c93_4 rfl rfl ?_
  refine x_cI1 F dJx4a65c_iterator_32c93_5 (x_gI q459) q24 q457 q458 rfl (c_it_init h_r h_a) ⟨rfl, rfl, rfl, xd_Jx35411_init_45d68, ⟨Nat.le_of_ble_eq_true rfl, Nat.le_of_ble_eq_true rfl⟩, Nat.le_of_ble_eq_true rfl, Nat.le_of_ble_eq_true rfl⟩ (Nat.le_of_ble_eq_true rfl) (fun w1 hp => ?_)
  subst hp
  refine x_aretR F rfl dJx4a65c_iterator_32c93_8 (Nat.le_of_ble_eq_true rfl) (Nat.le_of_ble_eq_true rfl) ?_
  exact ⟨_, rfl, r, hr, rfl, by rw [hw1, x_set_set]⟩
set_option maxRecDepth 100000 in
set_option maxHeartbeats 4000000 in
theorem c_hasNext {r a el : Nat} (h : w r = some (.inr (0, [.int 0, .int (-1), .int 0, .ref a]))) (h_a : w a = some (oE el)) : Ci l D dA B yJx35411_hasNext_aae02 wJx35411_hasNext_aae02 0 [.ref r] w (fun v w1 => v = .int 0 ∧ w1 = w) := by
  refine x_Ct.of (cc := cJx35411_hasNext_aae02) (maxL := 1) (by decide) rfl (Nat.le_of_ble_eq_true rfl) ?_
  intro p e s m below meth c F
  refine x_aload_n F dJx35411_hasNext_aae02_0 rfl rfl ?_
  refine x_get (ci := 0) (C := RJx35411) (T := TJx35411) (N := 4) (k := 0) F dJx35411_hasNext_aae02_1 rfl inJx35411 (by decide) q461 rfl h rfl ?_
  refine x_aload_n F dJx35411_hasNext_aae02_4 rfl rfl ?_
  refine x_get (ci := 0) (C := RJx35411) (T := TJx35411) (N := 4) (k := 3) F dJx35411_hasNext_aae02_5 rfl inJx35411 (by decide) q464 rfl h rfl ?_
  refine x_getN (ci := 1) (C := RJx4a65c) (T := TJx4a65c) (N := 3) (k := 2) F dJx35411_hasNext_aae02_8 rfl inJx4a65c (by decide) (x12 (x_Fix.xt F)) rfl h_a rfl ?_
  refine x_icmp_eq F dJx35411_hasNext_aae02_11 rfl (fun _ => ?_) (fun hc => absurd hc (by decide))
  refine x_iconst (v := 0) F dJx35411_hasNext_aae02_18 (by decide) ?_
  refine x_iret F rfl rfl dJx35411_hasNext_aae02_19 (Nat.le_of_ble_eq_true rfl) (Nat.le_of_ble_eq_true rfl) ?_
  exact ⟨_, rfl, rfl, rfl⟩
set_option maxRecDepth 100000 in
set_option maxHeartbeats 4000000 in
theorem c_grow1 {a : Nat} {pp : Int32} (h : w a = some (.inr (1, [.int pp, .ref (dA 99), .int 0]))) : x_Ci l D dA vwC1 tyL1 B yJx4a65c_grow_92f84 wJx4a65c_grow_92f84 (rmd 2 1 10) [.ref a, .int 1] w (fun v w1 => ∃ k, w k = none ∧ v = .ref k ∧ w1 = x_set (x_set w k (aO 10 (fun _ => none))) a (.inr (1, [.int pp, .ref k, .int 0]))) 1 10 := by
  refine x_Ct.of (cc := cJx4a65c_grow_92f84) (maxL := 4) (by decide) rfl (Nat.le_of_ble_eq_true rfl) ?_
  intro p e s m below meth c F
  refine x_aload_n F dJx4a65c_grow_92f84_0 rfl rfl ?_
  refine x_get (ci := 1) (C := RJx4a65c) (T := TJx4a65c) (N := 3) (k := 1) F dJx4a65c_grow_92f84_1 rfl inJx4a65c (by decide) q360 rfl h rfl ?_
  refine x_alenE F dJx4a65c_grow_92f84_4 ?_
  refine x_istore_n F dJx4a65c_grow_92f84_5 rfl (by decide) ?_
  refine x_iload_n F dJx4a65c_grow_92f84_6 rfl rfl ?_
  refine x_if_gt F dJx4a65c_grow_92f84_7 rfl (fun hc => absurd hc (by decide)) (fun _ => ?_)
  refine x_aload_n F dJx4a65c_grow_92f84_10 rfl rfl ?_
  refine x_get (ci := 1) (C := RJx4a65c) (T := TJx4a65c) (N := 3) (k := 1) F dJx4a65c_grow_92f84_11 rfl inJx4a65c (by decide) q360 rfl h rfl ?_
  refine x_getsE F dJx4a65c_grow_92f84_14 q359 ?_
  refine x_acmp_eqR F dJx4a65c_grow_92f84_17 rfl (fun h17 => ?_) (fun hc => absurd hc (fun q => q rfl))
  refine x_aload_n F dJx4a65c_grow_92f84_45 rfl rfl ?_
  refine x_bipush (v := 10) F dJx4a65c_grow_92f84_46 (by decide) ?_
  refine x_iload_n F dJx4a65c_grow_92f84_48 rfl rfl ?_
  refine x_max F dJx4a65c_grow_92f84_49 q424 q126 q16 q127 (Nat.le_of_ble_eq_true rfl) (Nat.le_of_ble_eq_true rfl) (Nat.le_of_ble_eq_true rfl) (Nat.le_of_ble_eq_true rfl) ?_
  refine x_newq (t := 6) (N := 10) (C := "java/lang/Object") F dJx4a65c_grow_92f84_52 rfl q425 (x13 (x_Fix.xt F)) (by decide) rfl (Nat.le_of_ble_eq_true rfl) (Nat.le_of_ble_eq_true rfl) (Nat.le_of_ble_eq_true rfl) (fun k hk => ?_)
  refine x_wd (fun w1 hw1 => ?_)
  have ne_a_k : ¬ a = k := w_neN h hk
  have h_k : w1 k = some (aO 10 (fun _ => none)) := by rw [hw1]; exact x_set_eq _ _ _
  have h_a : w1 a = some (.inr (1, [.int pp, .ref (dA 99), .int 0])) := by rw [hw1, x_set_ne _ _ ne_a_k]; exact h
  refine x_dup_x1 F dJx4a65c_grow_92f84_55 rfl rfl ?_
  refine x_put (ci := 1) (C := RJx4a65c) (T := TJx4a65c) (N := 3) (k := 1) F dJx4a65c_grow_92f84_56 rfl inJx4a65c tyJx4a65c tyJx4a65c_ok nmJx4a65c (by decide) q360 rfl rfl h_a (Nat.le_of_ble_eq_true rfl) rfl rfl ?_
  refine x_wd (fun w2 hw2 => ?_)
  refine x_aretA F rfl dJx4a65c_grow_92f84_59 (Nat.le_of_ble_eq_true rfl) (Nat.le_of_ble_eq_true rfl) ?_
  exact ⟨_, rfl, k, hk, rfl, by rw [hw2, hw1]; rfl⟩
set_option maxRecDepth 100000 in
set_option maxHeartbeats 4000000 in
theorem c_grow {a : Nat} {pp : Int32} (h : w a = some (.inr (1, [.int pp, .ref (dA 99), .int 0]))) : x_Ci l D dA vwC1 tyL1 B yJx4a65c_grow_d5877 wJx4a65c_grow_d5877 (rmd 3 1 10) [.ref a] w (fun v w1 => ∃ k, w k = none ∧ v = .ref k ∧ w1 = x_set (x_set w k (aO 10 (fun _ => none))) a (.inr (1, [.int pp, .ref k, .int 0]))) 1 10 := by
  refine x_Ct.of (cc := cJx4a65c_grow_d5877) (maxL := 1) (by decide) rfl (Nat.le_of_ble_eq_true rfl) ?_
  intro p e s m below meth c F
  refine x_aload_n F dJx4a65c_grow_d5877_0 rfl rfl ?_
  refine x_aload_n F dJx4a65c_grow_d5877_1 rfl rfl ?_
  refine x_get (ci := 1) (C := RJx4a65c) (T := TJx4a65c) (N := 3) (k := 2) F dJx4a65c_grow_d5877_2 rfl inJx4a65c (by decide) q362 rfl h rfl ?_
  refine x_iconst (v := 1) F dJx4a65c_grow_d5877_5 (by decide) ?_
  refine x_iadd F dJx4a65c_grow_d5877_6 ?_
  refine x_cVi1 (ci := 1) (C := RJx4a65c) (T := TJx4a65c) (N := 3) F dJx4a65c_grow_d5877_7 (x_gV q419 q420 q644 q9 q421) rfl (c_grow1 h) ⟨rfl, rfl, rfl, xd_Jx4a65c_grow_92f84, ⟨Nat.le_of_ble_eq_true rfl, Nat.le_of_ble_eq_true rfl⟩, Nat.le_of_ble_eq_true rfl, Nat.le_of_ble_eq_true rfl⟩ rfl h (Nat.le_of_ble_eq_true rfl) (fun v1 w1 hp => ?_)
  obtain ⟨k, hk, rfl, hw9⟩ := hp
  refine x_aretA F rfl dJx4a65c_grow_d5877_10 (Nat.le_of_ble_eq_true rfl) (Nat.le_of_ble_eq_true rfl) ?_
  exact ⟨_, rfl, k, hk, rfl, hw9⟩
set_option maxRecDepth 100000 in
set_option maxHeartbeats 4000000 in
theorem c_add3 {a : Nat} {pp : Int32} (h : w a = some (.inr (1, [.int pp, .ref (dA 99), .int 0]))) {u e2 : Nat} (hv : w u = some (oE e2)) (hne : ¬ u = a) : x_Cv l D dA vwC1 tyL1 B yJx4a65c_add_72be8 wJx4a65c_add_72be8 (rmd 4 1 10) [.ref a, .ref u, .ref (dA 99), .int 0] w (fun w1 => (∃ k, w1 a = some (.inr (1, [.int pp, .ref k, .int 1]))) ∧ ∀ b x, w b = some x → ¬ b = a → w1 b = some x) 1 10 := by
  refine x_Ct.of (cc := cJx4a65c_add_72be8) (maxL := 4) (by decide) rfl (Nat.le_of_ble_eq_true rfl) ?_
  intro p e s m below meth c F
  refine x_iload_n F dJx4a65c_add_72be8_0 rfl rfl ?_
  refine x_aload_n F dJx4a65c_add_72be8_1 rfl rfl ?_
  refine x_alenE F dJx4a65c_add_72be8_2 ?_
  refine x_icmp_ne F dJx4a65c_add_72be8_3 rfl (fun hc => absurd hc (by decide)) (fun _ => ?_)
  refine x_aload_n F dJx4a65c_add_72be8_6 rfl rfl ?_
  refine x_cVi0 (ci := 1) (C := RJx4a65c) (T := TJx4a65c) (N := 3) F dJx4a65c_add_72be8_7 (x_gV q416 q417 q643 q9 q418) rfl (c_grow h) ⟨rfl, rfl, rfl, xd_Jx4a65c_grow_d5877, ⟨Nat.le_of_ble_eq_true rfl, Nat.le_of_ble_eq_true rfl⟩, Nat.le_of_ble_eq_true rfl, Nat.le_of_ble_eq_true rfl⟩ rfl h (Nat.le_of_ble_eq_true rfl) (fun v1 w1 hp => ?_)
  obtain ⟨k, hk, rfl, hw9⟩ := hp
  have ne_a_k : ¬ a = k := w_neN h hk
  have h_k : w1 k = some (aO 10 (fun _ => none)) := by rw [hw9, x_set_ne _ _ (fun q => ne_a_k q.symm)]; exact x_set_eq _ _ _
  have h_a : w1 a = some (.inr (1, [.int pp, .ref k, .int 0])) := by rw [hw9]; exact x_set_eq _ _ _
  have h_v : w1 u = some (oE e2) := by rw [hw9, x_set_ne _ _ hne, x_set_ne _ _ (w_neN hv hk)]; exact hv
  refine x_astore_n F dJx4a65c_add_72be8_10 rfl (by decide) ?_
  refine x_aload_n F dJx4a65c_add_72be8_11 rfl rfl ?_
  refine x_iload_n F dJx4a65c_add_72be8_12 rfl rfl ?_
  refine x_aload_n F dJx4a65c_add_72be8_13 rfl rfl ?_
  refine x_aastO (r := (RJx4a65c, TJx4a65c, 3)) F dJx4a65c_add_72be8_14 rfl rfl (x14 (x_Fix.xt F)) h_k h_v (by unfold vp_in; decide) ?_
  refine x_wd (fun w2 hw2 => ?_)
  have h_a : w2 a = some (.inr (1, [.int pp, .ref k, .int 0])) := by rw [hw2, x_set_ne _ _ ne_a_k]; exact h_a
  refine x_aload_n F dJx4a65c_add_72be8_15 rfl rfl ?_
  refine x_iload_n F dJx4a65c_add_72be8_16 rfl rfl ?_
  refine x_iconst (v := 1) F dJx4a65c_add_72be8_17 (by decide) ?_
  refine x_iadd F dJx4a65c_add_72be8_18 ?_
  refine x_put (ci := 1) (C := RJx4a65c) (T := TJx4a65c) (N := 3) (k := 2) F dJx4a65c_add_72be8_19 rfl inJx4a65c tyJx4a65c tyJx4a65c_ok nmJx4a65c (by decide) q362 rfl rfl h_a (Nat.le_of_ble_eq_true rfl) rfl rfl ?_
  refine x_wd (fun w3 hw3 => ?_)
  refine x_vret F rfl dJx4a65c_add_72be8_22 (Nat.le_of_ble_eq_true rfl) (Nat.le_of_ble_eq_true rfl) ?_
  refine ⟨rfl, ⟨k, by rw [hw3]; exact x_set_eq _ _ _⟩, fun b x hx hb => ?_⟩
  rw [hw3, x_set_ne _ _ hb, hw2, x_set_ne _ _ (w_neN hx hk), hw9, x_set_ne _ _ hb, x_set_ne _ _ (w_neN hx hk)]
  exact hx
set_option maxRecDepth 100000 in
set_option maxHeartbeats 4000000 in
theorem c_add {a : Nat} (h : w a = some (oE (dA 99))) {u e2 : Nat} (hv : w u = some (oE e2)) (hne : ¬ u = a) : x_Ci l D dA vwC1 tyL1 B yJx4a65c_add_9ea2d wJx4a65c_add_9ea2d (rmd 5 1 10) [.ref a, .ref u] w (fun v w1 => v = .int 1 ∧ (∃ k, w1 a = some (.inr (1, [.int 1, .ref k, .int 1]))) ∧ ∀ b x, w b = some x → ¬ b = a → w1 b = some x) 1 10 := by
  refine x_Ct.of (cc := cJx4a65c_add_9ea2d) (maxL := 2) (by decide) rfl (Nat.le_of_ble_eq_true rfl) ?_
  intro p e s m below meth c F
  refine x_aload_n F dJx4a65c_add_9ea2d_0 rfl rfl ?_
  refine x_dup F dJx4a65c_add_9ea2d_1 rfl ?_
  refine x_getS (ci := 1) (C := RJx4a65c) (T := TJx4a65c) (N := 3) (k := 0) F dJx4a65c_add_9ea2d_2 rfl inJx4a65c (by decide) q366 q365 h rfl ?_
  refine x_iconst (v := 1) F dJx4a65c_add_9ea2d_5 (by decide) ?_
  refine x_iadd F dJx4a65c_add_9ea2d_6 ?_
  refine x_putS (ci := 1) (C := RJx4a65c) (T := TJx4a65c) (N := 3) (k := 0) F dJx4a65c_add_9ea2d_7 rfl inJx4a65c tyJx4a65c tyJx4a65c_ok nmJx4a65c (by decide) q366 q365 rfl h (Nat.le_of_ble_eq_true rfl) rfl rfl ?_
  refine x_wd (fun w2 hw2 => ?_)
  have h_a : w2 a = some (.inr (1, [.int 1, .ref (dA 99), .int 0])) := by rw [hw2]; exact x_set_eq _ _ _
  have h_v : w2 u = some (oE e2) := by rw [hw2, x_set_ne _ _ hne]; exact hv
  refine x_aload_n F dJx4a65c_add_9ea2d_10 rfl rfl ?_
  refine x_aload_n F dJx4a65c_add_9ea2d_11 rfl rfl ?_
  refine x_aload_n F dJx4a65c_add_9ea2d_12 rfl rfl ?_
  refine x_get (ci := 1) (C := RJx4a65c) (T := TJx4a65c) (N := 3) (k := 1) F dJx4a65c_add_9ea2d_13 rfl inJx4a65c (by decide) q360 rfl h_a rfl ?_
  refine x_aload_n F dJx4a65c_add_9ea2d_16 rfl rfl ?_
  refine x_get (ci := 1) (C := RJx4a65c) (T := TJx4a65c) (N := 3) (k := 2) F dJx4a65c_add_9ea2d_17 rfl inJx4a65c (by decide) q362 rfl h_a rfl ?_
  refine x_cVv3 (ci := 1) (C := RJx4a65c) (T := TJx4a65c) (N := 3) F dJx4a65c_add_9ea2d_20 (x_gV q413 q414 q642 q9 q415) rfl (c_add3 h_a h_v hne) ⟨rfl, rfl, rfl, xd_Jx4a65c_add_72be8, ⟨Nat.le_of_ble_eq_true rfl, Nat.le_of_ble_eq_true rfl⟩, Nat.le_of_ble_eq_true rfl, Nat.le_of_ble_eq_true rfl⟩ rfl h_a (Nat.le_of_ble_eq_true rfl) (fun w1 hp => ?_)
  obtain ⟨h1, h2⟩ := hp
  refine x_iconst (v := 1) F dJx4a65c_add_9ea2d_23 (by decide) ?_
  refine x_iret F rfl rfl dJx4a65c_add_9ea2d_24 (Nat.le_of_ble_eq_true rfl) (Nat.le_of_ble_eq_true rfl) ?_
  refine ⟨_, rfl, rfl, h1, fun b x hx hb => h2 b x ?_ hb⟩
  rw [hw2, x_set_ne _ _ hb]
  exact hx
end LST
end
section
theorem dX12_thrown_0 : decode cX12_thrown 0 = .ok (.aload_n 0, 1) := by decide +kernel
theorem dX12_thrown_1 : decode cX12_thrown 1 = .ok (.getfield 16, 3) := by decide +kernel
theorem dX12_thrown_4 : decode cX12_thrown 4 = .ok (.ireturn, 1) := by decide +kernel
theorem dX12_isIn_0 : decode cX12_isIn 0 = .ok (.iload_n 0, 1) := by decide +kernel
theorem dX12_isIn_1 : decode cX12_isIn 1 = .ok (.iload_n 1, 1) := by decide +kernel
theorem dX12_isIn_2 : decode cX12_isIn 2 = .ok (.if_icmp .lt 12, 3) := by decide +kernel
theorem dX12_isIn_14 : decode cX12_isIn 14 = .ok (.iconst 0, 1) := by decide +kernel
theorem dX12_isIn_15 : decode cX12_isIn 15 = .ok (.ireturn, 1) := by decide +kernel
theorem dX12_isIn_5 : decode cX12_isIn 5 = .ok (.iload_n 0, 1) := by decide +kernel
theorem dX12_isIn_6 : decode cX12_isIn 6 = .ok (.iload_n 2, 1) := by decide +kernel
theorem dX12_isIn_7 : decode cX12_isIn 7 = .ok (.if_icmp .gt 7, 3) := by decide +kernel
theorem dX12_isIn_10 : decode cX12_isIn 10 = .ok (.iconst 1, 1) := by decide +kernel
theorem dX12_isIn_11 : decode cX12_isIn 11 = .ok (.goto 4, 3) := by decide +kernel
theorem dX12_refuse_0 : decode cX12_refuse 0 = .ok (.iload_n 1, 1) := by decide +kernel
theorem dX12_refuse_1 : decode cX12_refuse 1 = .ok (.ifCond .eq 15, 3) := by decide +kernel
theorem dX12_refuse_4 : decode cX12_refuse 4 = .ok (.aload_n 0, 1) := by decide +kernel
theorem dX12_refuse_5 : decode cX12_refuse 5 = .ok (.getfield 16, 3) := by decide +kernel
theorem dX12_refuse_8 : decode cX12_refuse 8 = .ok (.ifCond .ne 8, 3) := by decide +kernel
theorem dX12_refuse_11 : decode cX12_refuse 11 = .ok (.aload_n 0, 1) := by decide +kernel
theorem dX12_refuse_12 : decode cX12_refuse 12 = .ok (.iload_n 2, 1) := by decide +kernel
theorem dX12_refuse_13 : decode cX12_refuse 13 = .ok (.putfield 16, 3) := by decide +kernel
theorem dX12_refuse_16 : decode cX12_refuse 16 = .ok (.aload_n 0, 1) := by decide +kernel
theorem dX12_refuse_17 : decode cX12_refuse 17 = .ok (.getfield 16, 3) := by decide +kernel
theorem dX12_refuse_20 : decode cX12_refuse 20 = .ok (.ifCond .le 7, 3) := by decide +kernel
theorem dX12_refuse_23 : decode cX12_refuse 23 = .ok (.iconst 1, 1) := by decide +kernel
theorem dX12_refuse_24 : decode cX12_refuse 24 = .ok (.goto 4, 3) := by decide +kernel
theorem dX12_refuse_28 : decode cX12_refuse 28 = .ok (.ireturn, 1) := by decide +kernel
theorem dX12_refuse_27 : decode cX12_refuse 27 = .ok (.iconst 0, 1) := by decide +kernel
theorem dX12_start_0 : decode cX12_start 0 = .ok (.aload_n 0, 1) := by decide +kernel
theorem dX12_start_1 : decode cX12_start 1 = .ok (.iconst 0, 1) := by decide +kernel
theorem dX12_start_2 : decode cX12_start 2 = .ok (.putfield 16, 3) := by decide +kernel
theorem dX12_start_5 : decode cX12_start 5 = .ok (.aload_n 0, 1) := by decide +kernel
theorem dX12_start_6 : decode cX12_start 6 = .ok (.iload_n 1, 1) := by decide +kernel
theorem dX12_start_7 : decode cX12_start 7 = .ok (.iload_n 2, 1) := by decide +kernel
theorem dX12_start_8 : decode cX12_start 8 = .ok (.invokevirtual 20, 3) := by decide +kernel
theorem dX12_start_11 : decode cX12_start 11 = .ok (.ireturn, 1) := by decide +kernel
theorem dX12_isNoFace_0 : decode cX12_isNoFace 0 = .ok (.iload_n 1, 1) := by decide +kernel
theorem dX12_isNoFace_1 : decode cX12_isNoFace 1 = .ok (.iconst 0, 1) := by decide +kernel
theorem dX12_isNoFace_2 : decode cX12_isNoFace 2 = .ok (.aload_n 0, 1) := by decide +kernel
theorem dX12_isNoFace_3 : decode cX12_isNoFace 3 = .ok (.getfield 10, 3) := by decide +kernel
theorem dX12_isNoFace_6 : decode cX12_isNoFace 6 = .ok (.getfield 24, 3) := by decide +kernel
theorem dX12_isNoFace_9 : decode cX12_isNoFace 9 = .ok (.invokevirtual 28, 3) := by decide +kernel
theorem dX12_isNoFace_12 : decode cX12_isNoFace 12 = .ok (.iconst 1, 1) := by decide +kernel
theorem dX12_isNoFace_13 : decode cX12_isNoFace 13 = .ok (.isub, 1) := by decide +kernel
theorem dX12_isNoFace_14 : decode cX12_isNoFace 14 = .ok (.invokestatic 34, 3) := by decide +kernel
theorem dX12_isNoFace_17 : decode cX12_isNoFace 17 = .ok (.ifCond .ne 7, 3) := by decide +kernel
theorem dX12_isNoFace_20 : decode cX12_isNoFace 20 = .ok (.iconst 1, 1) := by decide +kernel
theorem dX12_isNoFace_21 : decode cX12_isNoFace 21 = .ok (.goto 4, 3) := by decide +kernel
theorem dX12_isNoFace_25 : decode cX12_isNoFace 25 = .ok (.ireturn, 1) := by decide +kernel
theorem dX12_isNo_0 : decode cX12_isNo 0 = .ok (.aload_n 0, 1) := by decide +kernel
theorem dX12_isNo_1 : decode cX12_isNo 1 = .ok (.iload_n 1, 1) := by decide +kernel
theorem dX12_isNo_2 : decode cX12_isNo 2 = .ok (.invokevirtual 38, 3) := by decide +kernel
theorem dX12_isNo_5 : decode cX12_isNo 5 = .ok (.ifCond .ne 30, 3) := by decide +kernel
theorem dX12_isNo_35 : decode cX12_isNo 35 = .ok (.iconst 1, 1) := by decide +kernel
theorem dX12_isNo_36 : decode cX12_isNo 36 = .ok (.goto 4, 3) := by decide +kernel
theorem dX12_isNo_40 : decode cX12_isNo 40 = .ok (.ireturn, 1) := by decide +kernel
theorem dX12_isNoVersion_0 : decode cX12_isNoVersion 0 = .ok (.aload_n 0, 1) := by decide +kernel
theorem dX12_isNoVersion_1 : decode cX12_isNoVersion 1 = .ok (.aload_n 0, 1) := by decide +kernel
theorem dX12_isNoVersion_2 : decode cX12_isNoVersion 2 = .ok (.iload_n 1, 1) := by decide +kernel
theorem dX12_isNoVersion_3 : decode cX12_isNoVersion 3 = .ok (.iload_n 2, 1) := by decide +kernel
theorem dX12_isNoVersion_4 : decode cX12_isNoVersion 4 = .ok (.invokevirtual 46, 3) := by decide +kernel
theorem dX12_isNoVersion_7 : decode cX12_isNoVersion 7 = .ok (.iconst 1, 1) := by decide +kernel
theorem dX12_isNoVersion_8 : decode cX12_isNoVersion 8 = .ok (.invokevirtual 50, 3) := by decide +kernel
theorem dX12_isNoVersion_11 : decode cX12_isNoVersion 11 = .ok (.ireturn, 1) := by decide +kernel
theorem dX12_isNoOne_0 : decode cX12_isNoOne 0 = .ok (.iload_n 1, 1) := by decide +kernel
theorem dX12_isNoOne_1 : decode cX12_isNoOne 1 = .ok (.iconst 0, 1) := by decide +kernel
theorem dX12_isNoOne_2 : decode cX12_isNoOne 2 = .ok (.aload_n 0, 1) := by decide +kernel
theorem dX12_isNoOne_3 : decode cX12_isNoOne 3 = .ok (.getfield 10, 3) := by decide +kernel
theorem dX12_isNoOne_6 : decode cX12_isNoOne 6 = .ok (.getfield 53, 3) := by decide +kernel
theorem dX12_isNoOne_9 : decode cX12_isNoOne 9 = .ok (.invokevirtual 28, 3) := by decide +kernel
theorem dX12_isNoOne_12 : decode cX12_isNoOne 12 = .ok (.iconst 1, 1) := by decide +kernel
theorem dX12_isNoOne_13 : decode cX12_isNoOne 13 = .ok (.isub, 1) := by decide +kernel
theorem dX12_isNoOne_14 : decode cX12_isNoOne 14 = .ok (.invokestatic 34, 3) := by decide +kernel
theorem dX12_isNoOne_17 : decode cX12_isNoOne 17 = .ok (.ifCond .ne 7, 3) := by decide +kernel
theorem dX12_isNoOne_20 : decode cX12_isNoOne 20 = .ok (.iconst 1, 1) := by decide +kernel
theorem dX12_isNoOne_21 : decode cX12_isNoOne 21 = .ok (.goto 4, 3) := by decide +kernel
theorem dX12_isNoOne_25 : decode cX12_isNoOne 25 = .ok (.ireturn, 1) := by decide +kernel
theorem dX12_isNoClient_0 : decode cX12_isNoClient 0 = .ok (.aload_n 0, 1) := by decide +kernel
theorem dX12_isNoClient_1 : decode cX12_isNoClient 1 = .ok (.aload_n 0, 1) := by decide +kernel
theorem dX12_isNoClient_2 : decode cX12_isNoClient 2 = .ok (.iload_n 1, 1) := by decide +kernel
theorem dX12_isNoClient_3 : decode cX12_isNoClient 3 = .ok (.invokevirtual 56, 3) := by decide +kernel
theorem dX12_isNoClient_6 : decode cX12_isNoClient 6 = .ok (.iconst 1, 1) := by decide +kernel
theorem dX12_isNoClient_7 : decode cX12_isNoClient 7 = .ok (.invokevirtual 50, 3) := by decide +kernel
theorem dX12_isNoClient_10 : decode cX12_isNoClient 10 = .ok (.ireturn, 1) := by decide +kernel
theorem dX12_isNoPair_0 : decode cX12_isNoPair 0 = .ok (.aload_n 0, 1) := by decide +kernel
theorem dX12_isNoPair_1 : decode cX12_isNoPair 1 = .ok (.aload_n 0, 1) := by decide +kernel
theorem dX12_isNoPair_2 : decode cX12_isNoPair 2 = .ok (.iload_n 1, 1) := by decide +kernel
theorem dX12_isNoPair_3 : decode cX12_isNoPair 3 = .ok (.invokevirtual 56, 3) := by decide +kernel
theorem dX12_isNoPair_6 : decode cX12_isNoPair 6 = .ok (.ifCond .ne 28, 3) := by decide +kernel
theorem dX12_isNoPair_34 : decode cX12_isNoPair 34 = .ok (.iconst 1, 1) := by decide +kernel
theorem dX12_isNoPair_35 : decode cX12_isNoPair 35 = .ok (.goto 4, 3) := by decide +kernel
theorem dX12_isNoPair_39 : decode cX12_isNoPair 39 = .ok (.iconst 1, 1) := by decide +kernel
theorem dX12_isNoPair_40 : decode cX12_isNoPair 40 = .ok (.invokevirtual 50, 3) := by decide +kernel
theorem dX12_isNoPair_43 : decode cX12_isNoPair 43 = .ok (.ireturn, 1) := by decide +kernel
theorem dX12_isNoAsk_0 : decode cX12_isNoAsk 0 = .ok (.aload_n 0, 1) := by decide +kernel
theorem dX12_isNoAsk_1 : decode cX12_isNoAsk 1 = .ok (.iload_n 1, 1) := by decide +kernel
theorem dX12_isNoAsk_2 : decode cX12_isNoAsk 2 = .ok (.iconst 0, 1) := by decide +kernel
theorem dX12_isNoAsk_3 : decode cX12_isNoAsk 3 = .ok (.iconst 4, 1) := by decide +kernel
theorem dX12_isNoAsk_4 : decode cX12_isNoAsk 4 = .ok (.invokestatic 34, 3) := by decide +kernel
theorem dX12_isNoAsk_7 : decode cX12_isNoAsk 7 = .ok (.ifCond .eq 12, 3) := by decide +kernel
theorem dX12_isNoAsk_19 : decode cX12_isNoAsk 19 = .ok (.iconst 1, 1) := by decide +kernel
theorem dX12_isNoAsk_20 : decode cX12_isNoAsk 20 = .ok (.goto 4, 3) := by decide +kernel
theorem dX12_isNoAsk_24 : decode cX12_isNoAsk 24 = .ok (.iconst 1, 1) := by decide +kernel
theorem dX12_isNoAsk_25 : decode cX12_isNoAsk 25 = .ok (.invokevirtual 50, 3) := by decide +kernel
theorem dX12_isNoAsk_28 : decode cX12_isNoAsk 28 = .ok (.ireturn, 1) := by decide +kernel
theorem dX12_isNoAsk_10 : decode cX12_isNoAsk 10 = .ok (.aload_n 0, 1) := by decide +kernel
theorem dX12_isNoAsk_11 : decode cX12_isNoAsk 11 = .ok (.iload_n 2, 1) := by decide +kernel
theorem dX12_isNoAsk_12 : decode cX12_isNoAsk 12 = .ok (.iload_n 3, 1) := by decide +kernel
theorem dX12_isNoAsk_13 : decode cX12_isNoAsk 13 = .ok (.invokevirtual 46, 3) := by decide +kernel
theorem dX12_isNoAsk_16 : decode cX12_isNoAsk 16 = .ok (.ifCond .eq 7, 3) := by decide +kernel
theorem dX12_publish_0 : decode cX12_publish 0 = .ok (.aload_n 0, 1) := by decide +kernel
theorem dX12_publish_1 : decode cX12_publish 1 = .ok (.aload_n 0, 1) := by decide +kernel
theorem dX12_publish_2 : decode cX12_publish 2 = .ok (.iload_n 1, 1) := by decide +kernel
theorem dX12_publish_3 : decode cX12_publish 3 = .ok (.invokevirtual 38, 3) := by decide +kernel
theorem dX12_publish_6 : decode cX12_publish 6 = .ok (.iconst 1, 1) := by decide +kernel
theorem dX12_publish_7 : decode cX12_publish 7 = .ok (.invokevirtual 50, 3) := by decide +kernel
theorem dX12_publish_10 : decode cX12_publish 10 = .ok (.ifCond .ne 51, 3) := by decide +kernel
theorem dX12_publish_61 : decode cX12_publish 61 = .ok (.iconst 0, 1) := by decide +kernel
theorem dX12_publish_62 : decode cX12_publish 62 = .ok (.ireturn, 1) := by decide +kernel
theorem dX12_ofVersion_0 : decode cX12_ofVersion 0 = .ok (.aload_n 0, 1) := by decide +kernel
theorem dX12_ofVersion_1 : decode cX12_ofVersion 1 = .ok (.iload_n 1, 1) := by decide +kernel
theorem dX12_ofVersion_2 : decode cX12_ofVersion 2 = .ok (.iload_n 2, 1) := by decide +kernel
theorem dX12_ofVersion_3 : decode cX12_ofVersion 3 = .ok (.invokevirtual 152, 3) := by decide +kernel
theorem dX12_ofVersion_6 : decode cX12_ofVersion 6 = .ok (.ifCond .ne 26, 3) := by decide +kernel
theorem dX12_ofVersion_32 : decode cX12_ofVersion 32 = .ok (.iconst 0, 1) := by decide +kernel
theorem dX12_ofVersion_33 : decode cX12_ofVersion 33 = .ok (.goto 10, 3) := by decide +kernel
theorem dX12_ofVersion_43 : decode cX12_ofVersion 43 = .ok (.ireturn, 1) := by decide +kernel
theorem dX12_isCompatible_0 : decode cX12_isCompatible 0 = .ok (.aload_n 0, 1) := by decide +kernel
theorem dX12_isCompatible_1 : decode cX12_isCompatible 1 = .ok (.iload_n 1, 1) := by decide +kernel
theorem dX12_isCompatible_2 : decode cX12_isCompatible 2 = .ok (.iload_n 2, 1) := by decide +kernel
theorem dX12_isCompatible_3 : decode cX12_isCompatible 3 = .ok (.invokevirtual 152, 3) := by decide +kernel
theorem dX12_isCompatible_6 : decode cX12_isCompatible 6 = .ok (.ifCond .ne 39, 3) := by decide +kernel
theorem dX12_isCompatible_45 : decode cX12_isCompatible 45 = .ok (.iconst 0, 1) := by decide +kernel
theorem dX12_isCompatible_46 : decode cX12_isCompatible 46 = .ok (.ireturn, 1) := by decide +kernel
theorem dX12_client_0 : decode cX12_client 0 = .ok (.aload_n 0, 1) := by decide +kernel
theorem dX12_client_1 : decode cX12_client 1 = .ok (.iload_n 2, 1) := by decide +kernel
theorem dX12_client_2 : decode cX12_client 2 = .ok (.iload_n 3, 1) := by decide +kernel
theorem dX12_client_3 : decode cX12_client 3 = .ok (.invokevirtual 152, 3) := by decide +kernel
theorem dX12_client_6 : decode cX12_client 6 = .ok (.ifCond .ne 87, 3) := by decide +kernel
theorem dX12_client_93 : decode cX12_client 93 = .ok (.iconst 0, 1) := by decide +kernel
theorem dX12_client_94 : decode cX12_client 94 = .ok (.ireturn, 1) := by decide +kernel
theorem dX12_again_0 : decode cX12_again 0 = .ok (.aload_n 0, 1) := by decide +kernel
theorem dX12_again_1 : decode cX12_again 1 = .ok (.iload_n 1, 1) := by decide +kernel
theorem dX12_again_2 : decode cX12_again 2 = .ok (.iload_n 2, 1) := by decide +kernel
theorem dX12_again_3 : decode cX12_again 3 = .ok (.invokevirtual 168, 3) := by decide +kernel
theorem dX12_again_6 : decode cX12_again 6 = .ok (.ifCond .ne 44, 3) := by decide +kernel
theorem dX12_again_50 : decode cX12_again 50 = .ok (.iconst 0, 1) := by decide +kernel
theorem dX12_again_51 : decode cX12_again 51 = .ok (.ireturn, 1) := by decide +kernel
theorem dX12_adapter_0 : decode cX12_adapter 0 = .ok (.aload_n 0, 1) := by decide +kernel
theorem dX12_adapter_1 : decode cX12_adapter 1 = .ok (.aload_n 0, 1) := by decide +kernel
theorem dX12_adapter_2 : decode cX12_adapter 2 = .ok (.iload_n 1, 1) := by decide +kernel
theorem dX12_adapter_3 : decode cX12_adapter 3 = .ok (.iload_n 2, 1) := by decide +kernel
theorem dX12_adapter_4 : decode cX12_adapter 4 = .ok (.invokevirtual 46, 3) := by decide +kernel
theorem dX12_adapter_7 : decode cX12_adapter 7 = .ok (.ifCond .ne 12, 3) := by decide +kernel
theorem dX12_adapter_19 : decode cX12_adapter 19 = .ok (.iconst 1, 1) := by decide +kernel
theorem dX12_adapter_20 : decode cX12_adapter 20 = .ok (.goto 4, 3) := by decide +kernel
theorem dX12_adapter_24 : decode cX12_adapter 24 = .ok (.iconst 1, 1) := by decide +kernel
theorem dX12_adapter_25 : decode cX12_adapter 25 = .ok (.invokevirtual 50, 3) := by decide +kernel
theorem dX12_adapter_28 : decode cX12_adapter 28 = .ok (.ifCond .ne 65, 3) := by decide +kernel
theorem dX12_adapter_93 : decode cX12_adapter 93 = .ok (.iconst 0, 1) := by decide +kernel
theorem dX12_adapter_94 : decode cX12_adapter 94 = .ok (.ireturn, 1) := by decide +kernel
theorem dX12_ofClient_0 : decode cX12_ofClient 0 = .ok (.aload_n 0, 1) := by decide +kernel
theorem dX12_ofClient_1 : decode cX12_ofClient 1 = .ok (.iload_n 1, 1) := by decide +kernel
theorem dX12_ofClient_2 : decode cX12_ofClient 2 = .ok (.invokevirtual 201, 3) := by decide +kernel
theorem dX12_ofClient_5 : decode cX12_ofClient 5 = .ok (.ifCond .ne 26, 3) := by decide +kernel
theorem dX12_ofClient_31 : decode cX12_ofClient 31 = .ok (.iconst 0, 1) := by decide +kernel
theorem dX12_ofClient_32 : decode cX12_ofClient 32 = .ok (.goto 9, 3) := by decide +kernel
theorem dX12_ofClient_41 : decode cX12_ofClient 41 = .ok (.ireturn, 1) := by decide +kernel
theorem dX12_routed_0 : decode cX12_routed 0 = .ok (.aload_n 0, 1) := by decide +kernel
theorem dX12_routed_1 : decode cX12_routed 1 = .ok (.iload_n 1, 1) := by decide +kernel
theorem dX12_routed_2 : decode cX12_routed 2 = .ok (.invokevirtual 201, 3) := by decide +kernel
theorem dX12_routed_5 : decode cX12_routed 5 = .ok (.ifCond .eq 5, 3) := by decide +kernel
theorem dX12_routed_8 : decode cX12_routed 8 = .ok (.iconst 0, 1) := by decide +kernel
theorem dX12_routed_9 : decode cX12_routed 9 = .ok (.ireturn, 1) := by decide +kernel
theorem dX12_call_0 : decode cX12_call 0 = .ok (.aload_n 0, 1) := by decide +kernel
theorem dX12_call_1 : decode cX12_call 1 = .ok (.iload_n 1, 1) := by decide +kernel
theorem dX12_call_2 : decode cX12_call 2 = .ok (.invokevirtual 201, 3) := by decide +kernel
theorem dX12_call_5 : decode cX12_call 5 = .ok (.ifCond .ne 26, 3) := by decide +kernel
theorem dX12_call_31 : decode cX12_call 31 = .ok (.iconst 0, 1) := by decide +kernel
theorem dX12_call_32 : decode cX12_call 32 = .ok (.ireturn, 1) := by decide +kernel
theorem dX12_lastCall_0 : decode cX12_lastCall 0 = .ok (.aload_n 0, 1) := by decide +kernel
theorem dX12_lastCall_1 : decode cX12_lastCall 1 = .ok (.iload_n 1, 1) := by decide +kernel
theorem dX12_lastCall_2 : decode cX12_lastCall 2 = .ok (.iload_n 2, 1) := by decide +kernel
theorem dX12_lastCall_3 : decode cX12_lastCall 3 = .ok (.invokevirtual 168, 3) := by decide +kernel
theorem dX12_lastCall_6 : decode cX12_lastCall 6 = .ok (.ifCond .eq 7, 3) := by decide +kernel
theorem dX12_lastCall_9 : decode cX12_lastCall 9 = .ok (.iconst 0, 1) := by decide +kernel
theorem dX12_lastCall_10 : decode cX12_lastCall 10 = .ok (.goto 12, 3) := by decide +kernel
theorem dX12_lastCall_22 : decode cX12_lastCall 22 = .ok (.ireturn, 1) := by decide +kernel
theorem dX12_retire_0 : decode cX12_retire 0 = .ok (.aload_n 0, 1) := by decide +kernel
theorem dX12_retire_1 : decode cX12_retire 1 = .ok (.iload_n 1, 1) := by decide +kernel
theorem dX12_retire_2 : decode cX12_retire 2 = .ok (.iload_n 2, 1) := by decide +kernel
theorem dX12_retire_3 : decode cX12_retire 3 = .ok (.invokevirtual 152, 3) := by decide +kernel
theorem dX12_retire_6 : decode cX12_retire 6 = .ok (.ifCond .ne 51, 3) := by decide +kernel
theorem dX12_retire_57 : decode cX12_retire 57 = .ok (.iconst 0, 1) := by decide +kernel
theorem dX12_retire_58 : decode cX12_retire 58 = .ok (.ireturn, 1) := by decide +kernel
theorem dX12_answer_0 : decode cX12_answer 0 = .ok (.aload_n 0, 1) := by decide +kernel
theorem dX12_answer_1 : decode cX12_answer 1 = .ok (.iload_n 1, 1) := by decide +kernel
theorem dX12_answer_2 : decode cX12_answer 2 = .ok (.iload_n 2, 1) := by decide +kernel
theorem dX12_answer_3 : decode cX12_answer 3 = .ok (.iload_n 3, 1) := by decide +kernel
theorem dX12_answer_4 : decode cX12_answer 4 = .ok (.invokevirtual 224, 3) := by decide +kernel
theorem dX12_answer_7 : decode cX12_answer 7 = .ok (.ifCond .ne 44, 3) := by decide +kernel
theorem dX12_answer_51 : decode cX12_answer 51 = .ok (.iconst 0, 1) := by decide +kernel
theorem dX12_answer_52 : decode cX12_answer 52 = .ok (.ireturn, 1) := by decide +kernel
theorem dX12_recall_0 : decode cX12_recall 0 = .ok (.aload_n 0, 1) := by decide +kernel
theorem dX12_recall_1 : decode cX12_recall 1 = .ok (.iload_n 1, 1) := by decide +kernel
theorem dX12_recall_2 : decode cX12_recall 2 = .ok (.iload_n 2, 1) := by decide +kernel
theorem dX12_recall_3 : decode cX12_recall 3 = .ok (.invokevirtual 152, 3) := by decide +kernel
theorem dX12_recall_6 : decode cX12_recall 6 = .ok (.ifCond .ne 29, 3) := by decide +kernel
theorem dX12_recall_35 : decode cX12_recall 35 = .ok (.iconst 0, 1) := by decide +kernel
theorem dX12_recall_36 : decode cX12_recall 36 = .ok (.ireturn, 1) := by decide +kernel
theorem dX12_asked_0 : decode cX12_asked 0 = .ok (.aload_n 0, 1) := by decide +kernel
theorem dX12_asked_1 : decode cX12_asked 1 = .ok (.iload_n 1, 1) := by decide +kernel
theorem dX12_asked_2 : decode cX12_asked 2 = .ok (.iload_n 2, 1) := by decide +kernel
theorem dX12_asked_3 : decode cX12_asked 3 = .ok (.iload_n 3, 1) := by decide +kernel
theorem dX12_asked_4 : decode cX12_asked 4 = .ok (.invokevirtual 224, 3) := by decide +kernel
theorem dX12_asked_7 : decode cX12_asked 7 = .ok (.ifCond .eq 7, 3) := by decide +kernel
theorem dX12_asked_10 : decode cX12_asked 10 = .ok (.iconst 0, 1) := by decide +kernel
theorem dX12_asked_11 : decode cX12_asked 11 = .ok (.goto 10, 3) := by decide +kernel
theorem dX12_asked_21 : decode cX12_asked 21 = .ok (.ireturn, 1) := by decide +kernel
theorem dX12_wouldCome_0 : decode cX12_wouldCome 0 = .ok (.aload_n 0, 1) := by decide +kernel
theorem dX12_wouldCome_1 : decode cX12_wouldCome 1 = .ok (.iload_n 1, 1) := by decide +kernel
theorem dX12_wouldCome_2 : decode cX12_wouldCome 2 = .ok (.invokevirtual 201, 3) := by decide +kernel
theorem dX12_wouldCome_5 : decode cX12_wouldCome 5 = .ok (.ifCond .ne 26, 3) := by decide +kernel
theorem dX12_wouldCome_31 : decode cX12_wouldCome 31 = .ok (.iconst 0, 1) := by decide +kernel
theorem dX12_wouldCome_32 : decode cX12_wouldCome 32 = .ok (.goto 9, 3) := by decide +kernel
theorem dX12_wouldCome_41 : decode cX12_wouldCome 41 = .ok (.ireturn, 1) := by decide +kernel
theorem dX12_goneIn_0 : decode cX12_goneIn 0 = .ok (.aload_n 0, 1) := by decide +kernel
theorem dX12_goneIn_1 : decode cX12_goneIn 1 = .ok (.iload_n 1, 1) := by decide +kernel
theorem dX12_goneIn_2 : decode cX12_goneIn 2 = .ok (.iload_n 2, 1) := by decide +kernel
theorem dX12_goneIn_3 : decode cX12_goneIn 3 = .ok (.invokevirtual 152, 3) := by decide +kernel
theorem dX12_goneIn_6 : decode cX12_goneIn 6 = .ok (.ifCond .eq 7, 3) := by decide +kernel
theorem dX12_goneIn_9 : decode cX12_goneIn 9 = .ok (.iconst 0, 1) := by decide +kernel
theorem dX12_goneIn_10 : decode cX12_goneIn 10 = .ok (.goto 9, 3) := by decide +kernel
theorem dX12_goneIn_19 : decode cX12_goneIn 19 = .ok (.ireturn, 1) := by decide +kernel
theorem dX12_wouldBreak_0 : decode cX12_wouldBreak 0 = .ok (.aload_n 0, 1) := by decide +kernel
theorem dX12_wouldBreak_1 : decode cX12_wouldBreak 1 = .ok (.aload_n 0, 1) := by decide +kernel
theorem dX12_wouldBreak_2 : decode cX12_wouldBreak 2 = .ok (.iload_n 1, 1) := by decide +kernel
theorem dX12_wouldBreak_3 : decode cX12_wouldBreak 3 = .ok (.invokevirtual 38, 3) := by decide +kernel
theorem dX12_wouldBreak_6 : decode cX12_wouldBreak 6 = .ok (.iconst 1, 1) := by decide +kernel
theorem dX12_wouldBreak_7 : decode cX12_wouldBreak 7 = .ok (.invokevirtual 50, 3) := by decide +kernel
theorem dX12_wouldBreak_10 : decode cX12_wouldBreak 10 = .ok (.ifCond .ne 16, 3) := by decide +kernel
theorem dX12_wouldBreak_26 : decode cX12_wouldBreak 26 = .ok (.iconst 0, 1) := by decide +kernel
theorem dX12_wouldBreak_27 : decode cX12_wouldBreak 27 = .ok (.ireturn, 1) := by decide +kernel
theorem dX12_target_0 : decode cX12_target 0 = .ok (.aload_n 0, 1) := by decide +kernel
theorem dX12_target_1 : decode cX12_target 1 = .ok (.iload_n 1, 1) := by decide +kernel
theorem dX12_target_2 : decode cX12_target 2 = .ok (.invokevirtual 201, 3) := by decide +kernel
theorem dX12_target_5 : decode cX12_target 5 = .ok (.ifCond .eq 7, 3) := by decide +kernel
theorem dX12_target_8 : decode cX12_target 8 = .ok (.iconst 0, 1) := by decide +kernel
theorem dX12_target_9 : decode cX12_target 9 = .ok (.goto 8, 3) := by decide +kernel
theorem dX12_target_17 : decode cX12_target 17 = .ok (.ireturn, 1) := by decide +kernel
theorem dX12_goneBy_0 : decode cX12_goneBy 0 = .ok (.aload_n 0, 1) := by decide +kernel
theorem dX12_goneBy_1 : decode cX12_goneBy 1 = .ok (.iload_n 1, 1) := by decide +kernel
theorem dX12_goneBy_2 : decode cX12_goneBy 2 = .ok (.iload_n 2, 1) := by decide +kernel
theorem dX12_goneBy_3 : decode cX12_goneBy 3 = .ok (.invokevirtual 152, 3) := by decide +kernel
theorem dX12_goneBy_6 : decode cX12_goneBy 6 = .ok (.ifCond .ne 51, 3) := by decide +kernel
theorem dX12_goneBy_57 : decode cX12_goneBy 57 = .ok (.iconst 0, 1) := by decide +kernel
theorem dX12_goneBy_58 : decode cX12_goneBy 58 = .ok (.ireturn, 1) := by decide +kernel
/-! ===== the reference: what its calls share ===== -/
section MDL
variable {l : Launch} {D : va_G} {dA : Nat → ClassId} {B : Nat} {w : xW} {mo re fa cl ad ca : Nat} {t n : Int32}
def f_isIn (v lo hi : Int32) : Bool := !decide (v < lo) && !decide (hi < v)
theorem f_isIn_m1 (v : Int32) : f_isIn v 0 ((0 : Int32) - 1) = false := by
  unfold f_isIn
  by_cases h : v < 0
  · simp [h]
  · have h2 : (0 : Int32) - 1 < v := by
      rw [Int32.lt_iff_toInt_lt] at h ⊢
      have e0 : (0 : Int32).toInt = 0 := by decide
      have e1 : ((0 : Int32) - 1).toInt = -1 := by decide
      rw [e0] at h
      rw [e1]
      omega
    rw [decide_eq_true h2, Bool.not_true, Bool.and_false]
theorem f_isIn_t {v lo hi : Int32} (h1 : ¬ v < lo) (h2 : v ≤ hi) : f_isIn v lo hi = true := by
  have h3 : ¬ hi < v := fun q => by
    rw [Int32.lt_iff_toInt_lt] at q
    rw [Int32.le_iff_toInt_le] at h2
    omega
  simp [f_isIn, h1, h3]
theorem f_isIn_f {v lo hi : Int32} (h : v < lo ∨ ¬ v ≤ hi) : f_isIn v lo hi = false := by
  rcases h with h | h
  · simp [f_isIn, h]
  · have h3 : hi < v := by
      rw [Int32.le_iff_toInt_le] at h
      rw [Int32.lt_iff_toInt_lt]
      omega
    simp [f_isIn, h3]
set_option maxRecDepth 100000 in
set_option maxHeartbeats 4000000 in
theorem m_thrown (hM : MR w (dA 99) mo re fa cl ad ca t n) : Ci l D dA B yX12_thrown wX12_thrown 0 [.ref mo] w (fun v w1 => v = .int t ∧ w1 = w) := by
  refine x_Ct.of (cc := cX12_thrown) (maxL := 1) (by decide) rfl (Nat.le_of_ble_eq_true rfl) ?_
  intro p e s m below meth c F
  refine x_aload_n F dX12_thrown_0 rfl rfl ?_
  refine x_get (ci := 7) (C := RX12) (T := TX12) (N := 2) (k := 0) F dX12_thrown_1 rfl inX12 (by decide) q385 rfl hM.1 rfl ?_
  refine x_iret F rfl rfl dX12_thrown_4 (Nat.le_of_ble_eq_true rfl) (Nat.le_of_ble_eq_true rfl) ?_
  exact ⟨_, rfl, rfl, rfl⟩
set_option maxRecDepth 100000 in
set_option maxHeartbeats 4000000 in
theorem m_isIn (v lo hi : Int32) : Ci l D dA B yX12_isIn wX12_isIn 0 [.int v, .int lo, .int hi] w (fun v1 w1 => v1 = .int (x_b (f_isIn v lo hi)) ∧ w1 = w) := by
  refine x_Ct.of (cc := cX12_isIn) (maxL := 3) (by decide) rfl (Nat.le_of_ble_eq_true rfl) ?_
  intro p e s m below meth c F
  refine x_iload_n F dX12_isIn_0 rfl rfl ?_
  refine x_iload_n F dX12_isIn_1 rfl rfl ?_
  refine x_icmp_lt F dX12_isIn_2 rfl (fun h2 => ?_) (fun h2 => ?_)
  · refine x_iconst (v := 0) F dX12_isIn_14 (by decide) ?_
    refine x_iret F rfl rfl dX12_isIn_15 (Nat.le_of_ble_eq_true rfl) (Nat.le_of_ble_eq_true rfl) ?_
    first | exact ⟨_, rfl, congrArg Value.int (x_b_t (by simp [f_isIn, *])), rfl⟩ | exact ⟨_, rfl, congrArg Value.int (x_b_f (by simp [f_isIn, *])), rfl⟩
  · refine x_iload_n F dX12_isIn_5 rfl rfl ?_
    refine x_iload_n F dX12_isIn_6 rfl rfl ?_
    refine x_icmp_gt F dX12_isIn_7 rfl (fun h7 => ?_) (fun h7 => ?_)
    · refine x_iconst (v := 0) F dX12_isIn_14 (by decide) ?_
      refine x_iret F rfl rfl dX12_isIn_15 (Nat.le_of_ble_eq_true rfl) (Nat.le_of_ble_eq_true rfl) ?_
      first | exact ⟨_, rfl, congrArg Value.int (x_b_t (by simp [f_isIn, *])), rfl⟩ | exact ⟨_, rfl, congrArg Value.int (x_b_f (by simp [f_isIn, *])), rfl⟩
    · refine x_iconst (v := 1) F dX12_isIn_10 (by decide) ?_
      refine x_goto F dX12_isIn_11 rfl ?_
      refine x_iret F rfl rfl dX12_isIn_15 (Nat.le_of_ble_eq_true rfl) (Nat.le_of_ble_eq_true rfl) ?_
      first | exact ⟨_, rfl, congrArg Value.int (x_b_t (by simp [f_isIn, *])), rfl⟩ | exact ⟨_, rfl, congrArg Value.int (x_b_f (by simp [f_isIn, *])), rfl⟩
set_option maxRecDepth 100000 in
set_option maxHeartbeats 4000000 in
theorem m_refuse1 (hM : MR w (dA 99) mo re fa cl ad ca 0 n) (k : Int32) (hk : ¬ k ≤ 0) : Ci l D dA B yX12_refuse wX12_refuse 0 [.ref mo, .int 1, .int k] w (fun v w1 => v = .int 1 ∧ w1 = x_set w mo (oM k re)) := by
  refine x_Ct.of (cc := cX12_refuse) (maxL := 3) (by decide) rfl (Nat.le_of_ble_eq_true rfl) ?_
  intro p e s m below meth c F
  refine x_iload_n F dX12_refuse_0 rfl rfl ?_
  refine x_if_eq F dX12_refuse_1 rfl (fun hc => absurd hc (by decide)) (fun _ => ?_)
  refine x_aload_n F dX12_refuse_4 rfl rfl ?_
  refine x_get (ci := 7) (C := RX12) (T := TX12) (N := 2) (k := 0) F dX12_refuse_5 rfl inX12 (by decide) q385 rfl hM.1 rfl ?_
  refine x_if_ne F dX12_refuse_8 rfl (fun hc => absurd hc (by decide)) (fun _ => ?_)
  refine x_aload_n F dX12_refuse_11 rfl rfl ?_
  refine x_iload_n F dX12_refuse_12 rfl rfl ?_
  refine x_put (ci := 7) (C := RX12) (T := TX12) (N := 2) (k := 0) F dX12_refuse_13 rfl inX12 tyX12 tyX12_ok nmX12 (by decide) q385 rfl rfl hM.1 (Nat.le_of_ble_eq_true rfl) rfl rfl ?_
  refine x_wd (fun w1 hw1 => ?_)
  have hN : MR w1 (dA 99) mo re fa cl ad ca k n := by rw [hw1]; exact hM.setT k
  refine x_aload_n F dX12_refuse_16 rfl rfl ?_
  refine x_get (ci := 7) (C := RX12) (T := TX12) (N := 2) (k := 0) F dX12_refuse_17 rfl inX12 (by decide) q385 rfl hN.1 rfl ?_
  refine x_if_le F dX12_refuse_20 rfl (fun hc => absurd hc hk) (fun h20 => ?_)
  refine x_iconst (v := 1) F dX12_refuse_23 (by decide) ?_
  refine x_goto F dX12_refuse_24 rfl ?_
  refine x_iret F rfl rfl dX12_refuse_28 (Nat.le_of_ble_eq_true rfl) (Nat.le_of_ble_eq_true rfl) ?_
  exact ⟨_, rfl, rfl, hw1⟩
set_option maxRecDepth 100000 in
set_option maxHeartbeats 4000000 in
theorem m_refuse0 (hM : MR w (dA 99) mo re fa cl ad ca 0 n) (k : Int32) : Ci l D dA B yX12_refuse wX12_refuse 0 [.ref mo, .int 0, .int k] w (fun v w1 => v = .int 0 ∧ w1 = w) := by
  refine x_Ct.of (cc := cX12_refuse) (maxL := 3) (by decide) rfl (Nat.le_of_ble_eq_true rfl) ?_
  intro p e s m below meth c F
  refine x_iload_n F dX12_refuse_0 rfl rfl ?_
  refine x_if_eq F dX12_refuse_1 rfl (fun _ => ?_) (fun hc => absurd hc (by decide))
  refine x_aload_n F dX12_refuse_16 rfl rfl ?_
  refine x_get (ci := 7) (C := RX12) (T := TX12) (N := 2) (k := 0) F dX12_refuse_17 rfl inX12 (by decide) q385 rfl hM.1 rfl ?_
  refine x_if_le F dX12_refuse_20 rfl (fun _ => ?_) (fun hc => absurd hc (by decide))
  refine x_iconst (v := 0) F dX12_refuse_27 (by decide) ?_
  refine x_iret F rfl rfl dX12_refuse_28 (Nat.le_of_ble_eq_true rfl) (Nat.le_of_ble_eq_true rfl) ?_
  exact ⟨_, rfl, rfl, rfl⟩
set_option maxRecDepth 100000 in
set_option maxHeartbeats 4000000 in
theorem m_start1 (hM : MR w (dA 99) mo re fa cl ad ca t n) (k : Int32) (hk : ¬ k ≤ 0) : Ci l D dA B yX12_start wX12_start 1 [.ref mo, .int 1, .int k] w (fun v w1 => v = .int 1 ∧ w1 = x_set w mo (oM k re)) := by
  refine x_Ct.of (cc := cX12_start) (maxL := 3) (by decide) rfl (Nat.le_of_ble_eq_true rfl) ?_
  intro p e s m below meth c F
  refine x_aload_n F dX12_start_0 rfl rfl ?_
  refine x_iconst (v := 0) F dX12_start_1 (by decide) ?_
  refine x_put (ci := 7) (C := RX12) (T := TX12) (N := 2) (k := 0) F dX12_start_2 rfl inX12 tyX12 tyX12_ok nmX12 (by decide) q385 rfl rfl hM.1 (Nat.le_of_ble_eq_true rfl) rfl rfl ?_
  refine x_wd (fun w2 hw2 => ?_)
  have hN : MR w2 (dA 99) mo re fa cl ad ca 0 n := by rw [hw2]; exact hM.setT 0
  refine x_aload_n F dX12_start_5 rfl rfl ?_
  refine x_iload_n F dX12_start_6 rfl rfl ?_
  refine x_iload_n F dX12_start_7 rfl rfl ?_
  refine x_cVi2 (ci := 7) (C := RX12) (T := TX12) (N := 2) F dX12_start_8 (x_gV q404 q405 q641 q5 q406) rfl (m_refuse1 hN k hk) ⟨rfl, rfl, rfl, xd_X12_refuse, ⟨Nat.le_of_ble_eq_true rfl, Nat.le_of_ble_eq_true rfl⟩, Nat.le_of_ble_eq_true rfl, Nat.le_of_ble_eq_true rfl⟩ rfl hN.1 (Nat.le_of_ble_eq_true rfl) (fun v1 w1 hp => ?_)
  obtain ⟨rfl, hw9⟩ := hp
  refine x_iret F rfl rfl dX12_start_11 (Nat.le_of_ble_eq_true rfl) (Nat.le_of_ble_eq_true rfl) ?_
  exact ⟨_, rfl, rfl, by rw [hw9, hw2, x_set_set]⟩
set_option maxRecDepth 100000 in
set_option maxHeartbeats 4000000 in
theorem m_start0 (hM : MR w (dA 99) mo re fa cl ad ca t n) (k : Int32) : Ci l D dA B yX12_start wX12_start 1 [.ref mo, .int 0, .int k] w (fun v w1 => v = .int 0 ∧ w1 = x_set w mo (oM 0 re)) := by
  refine x_Ct.of (cc := cX12_start) (maxL := 3) (by decide) rfl (Nat.le_of_ble_eq_true rfl) ?_
  intro p e s m below meth c F
  refine x_aload_n F dX12_start_0 rfl rfl ?_
  refine x_iconst (v := 0) F dX12_start_1 (by decide) ?_
  refine x_put (ci := 7) (C := RX12) (T := TX12) (N := 2) (k := 0) F dX12_start_2 rfl inX12 tyX12 tyX12_ok nmX12 (by decide) q385 rfl rfl hM.1 (Nat.le_of_ble_eq_true rfl) rfl rfl ?_
  refine x_wd (fun w2 hw2 => ?_)
  have hN : MR w2 (dA 99) mo re fa cl ad ca 0 n := by rw [hw2]; exact hM.setT 0
  refine x_aload_n F dX12_start_5 rfl rfl ?_
  refine x_iload_n F dX12_start_6 rfl rfl ?_
  refine x_iload_n F dX12_start_7 rfl rfl ?_
  refine x_cVi2 (ci := 7) (C := RX12) (T := TX12) (N := 2) F dX12_start_8 (x_gV q404 q405 q641 q5 q406) rfl (m_refuse0 hN k) ⟨rfl, rfl, rfl, xd_X12_refuse, ⟨Nat.le_of_ble_eq_true rfl, Nat.le_of_ble_eq_true rfl⟩, Nat.le_of_ble_eq_true rfl, Nat.le_of_ble_eq_true rfl⟩ rfl hN.1 (Nat.le_of_ble_eq_true rfl) (fun v1 w1 hp => ?_)
  obtain ⟨rfl, hw9⟩ := hp
  replace hw9 := hw9.symm
  subst hw9
  refine x_iret F rfl rfl dX12_start_11 (Nat.le_of_ble_eq_true rfl) (Nat.le_of_ble_eq_true rfl) ?_
  exact ⟨_, rfl, rfl, hw2⟩
set_option maxRecDepth 100000 in
set_option maxHeartbeats 4000000 in
theorem m_isNoFace (hM : MR w (dA 99) mo re fa cl ad ca t n) (x : Int32) : Ci l D dA B yX12_isNoFace wX12_isNoFace 1 [.ref mo, .int x] w (fun v w1 => v = .int 1 ∧ w1 = w) := by
  refine x_Ct.of (cc := cX12_isNoFace) (maxL := 2) (by decide) rfl (Nat.le_of_ble_eq_true rfl) ?_
  intro p e s m below meth c F
  refine x_iload_n F dX12_isNoFace_0 rfl rfl ?_
  refine x_iconst (v := 0) F dX12_isNoFace_1 (by decide) ?_
  refine x_aload_n F dX12_isNoFace_2 rfl rfl ?_
  refine x_get (ci := 7) (C := RX12) (T := TX12) (N := 2) (k := 1) F dX12_isNoFace_3 rfl inX12 (by decide) q386 rfl hM.1 rfl ?_
  refine x_get (ci := 6) (C := RX10) (T := TX10) (N := 5) (k := 0) F dX12_isNoFace_6 rfl inX10 (by decide) q371 rfl hM.2.1 rfl ?_
  refine x_cVi0 (ci := 1) (C := RJx4a65c) (T := TJx4a65c) (N := 3) F dX12_isNoFace_9 (x_gV q397 q398 q399 q9 q400) rfl (c_size hM.2.2.1) ⟨rfl, rfl, rfl, xd_Jx4a65c_size_8abf5, ⟨Nat.le_of_ble_eq_true rfl, Nat.le_of_ble_eq_true rfl⟩, Nat.le_of_ble_eq_true rfl, Nat.le_of_ble_eq_true rfl⟩ rfl hM.2.2.1 (Nat.le_of_ble_eq_true rfl) (fun v1 w1 hp => ?_)
  obtain ⟨rfl, hw9⟩ := hp
  replace hw9 := hw9.symm
  subst hw9
  refine x_iconst (v := 1) F dX12_isNoFace_12 (by decide) ?_
  refine x_isub F dX12_isNoFace_13 ?_
  refine x_cSi3 F dX12_isNoFace_14 (x_gS q433 q434 q5 q435) (m_isIn x 0 ((0 : Int32) - 1)) ⟨rfl, rfl, rfl, xd_X12_isIn, ⟨Nat.le_of_ble_eq_true rfl, Nat.le_of_ble_eq_true rfl⟩, Nat.le_of_ble_eq_true rfl, Nat.le_of_ble_eq_true rfl⟩ (Nat.le_of_ble_eq_true rfl) (fun v1 w1 hp => ?_)
  obtain ⟨rfl, hw9⟩ := hp
  replace hw9 := hw9.symm
  subst hw9
  rw [f_isIn_m1]
  refine x_if_ne F dX12_isNoFace_17 rfl (fun hc => absurd hc (by decide)) (fun _ => ?_)
  refine x_iconst (v := 1) F dX12_isNoFace_20 (by decide) ?_
  refine x_goto F dX12_isNoFace_21 rfl ?_
  refine x_iret F rfl rfl dX12_isNoFace_25 (Nat.le_of_ble_eq_true rfl) (Nat.le_of_ble_eq_true rfl) ?_
  exact ⟨_, rfl, rfl, rfl⟩
set_option maxRecDepth 100000 in
set_option maxHeartbeats 4000000 in
theorem m_isNo (hM : MR w (dA 99) mo re fa cl ad ca t n) (x y : Int32) : Ci l D dA B yX12_isNo wX12_isNo 2 [.ref mo, .int x, .int y] w (fun v w1 => v = .int 1 ∧ w1 = w) := by
  refine x_Ct.of (cc := cX12_isNo) (maxL := 3) (by decide) rfl (Nat.le_of_ble_eq_true rfl) ?_
  intro p e s m below meth c F
  refine x_aload_n F dX12_isNo_0 rfl rfl ?_
  refine x_iload_n F dX12_isNo_1 rfl rfl ?_
  refine x_cVi1 (ci := 7) (C := RX12) (T := TX12) (N := 2) F dX12_isNo_2 (x_gV q430 q431 q645 q5 q432) rfl (m_isNoFace hM x) ⟨rfl, rfl, rfl, xd_X12_isNoFace, ⟨Nat.le_of_ble_eq_true rfl, Nat.le_of_ble_eq_true rfl⟩, Nat.le_of_ble_eq_true rfl, Nat.le_of_ble_eq_true rfl⟩ rfl hM.1 (Nat.le_of_ble_eq_true rfl) (fun v1 w1 hp => ?_)
  obtain ⟨rfl, hw9⟩ := hp
  replace hw9 := hw9.symm
  subst hw9
  refine x_if_ne F dX12_isNo_5 rfl (fun _ => ?_) (fun hc => absurd hc (by decide))
  refine x_iconst (v := 1) F dX12_isNo_35 (by decide) ?_
  refine x_goto F dX12_isNo_36 rfl ?_
  refine x_iret F rfl rfl dX12_isNo_40 (Nat.le_of_ble_eq_true rfl) (Nat.le_of_ble_eq_true rfl) ?_
  exact ⟨_, rfl, rfl, rfl⟩
set_option maxRecDepth 100000 in
set_option maxHeartbeats 4000000 in
theorem m_isNoVersion (hM : MR w (dA 99) mo re fa cl ad ca t n) (x y : Int32) : Ci l D dA B yX12_isNoVersion wX12_isNoVersion 3 [.ref mo, .int x, .int y] w (fun v w1 => v = .int 1 ∧ w1 = x_set w mo (oM 1 re)) := by
  refine x_Ct.of (cc := cX12_isNoVersion) (maxL := 3) (by decide) rfl (Nat.le_of_ble_eq_true rfl) ?_
  intro p e s m below meth c F
  refine x_aload_n F dX12_isNoVersion_0 rfl rfl ?_
  refine x_aload_n F dX12_isNoVersion_1 rfl rfl ?_
  refine x_iload_n F dX12_isNoVersion_2 rfl rfl ?_
  refine x_iload_n F dX12_isNoVersion_3 rfl rfl ?_
  refine x_cVi2 (ci := 7) (C := RX12) (T := TX12) (N := 2) F dX12_isNoVersion_4 (x_gV q480 q481 q647 q5 q482) rfl (m_isNo hM x y) ⟨rfl, rfl, rfl, xd_X12_isNo, ⟨Nat.le_of_ble_eq_true rfl, Nat.le_of_ble_eq_true rfl⟩, Nat.le_of_ble_eq_true rfl, Nat.le_of_ble_eq_true rfl⟩ rfl hM.1 (Nat.le_of_ble_eq_true rfl) (fun v1 w1 hp => ?_)
  obtain ⟨rfl, hw9⟩ := hp
  replace hw9 := hw9.symm
  subst hw9
  refine x_iconst (v := 1) F dX12_isNoVersion_7 (by decide) ?_
  refine x_cVi2 (ci := 7) (C := RX12) (T := TX12) (N := 2) F dX12_isNoVersion_8 (x_gV q401 q402 q640 q5 q403) rfl (m_start1 hM 1 (by decide)) ⟨rfl, rfl, rfl, xd_X12_start, ⟨Nat.le_of_ble_eq_true rfl, Nat.le_of_ble_eq_true rfl⟩, Nat.le_of_ble_eq_true rfl, Nat.le_of_ble_eq_true rfl⟩ rfl hM.1 (Nat.le_of_ble_eq_true rfl) (fun v1 w1 hp => ?_)
  obtain ⟨rfl, hw9⟩ := hp
  refine x_iret F rfl rfl dX12_isNoVersion_11 (Nat.le_of_ble_eq_true rfl) (Nat.le_of_ble_eq_true rfl) ?_
  exact ⟨_, rfl, rfl, hw9⟩
set_option maxRecDepth 100000 in
set_option maxHeartbeats 4000000 in
theorem m_isNoOne (hM : MR w (dA 99) mo re fa cl ad ca t n) (x : Int32) : Ci l D dA B yX12_isNoOne wX12_isNoOne 1 [.ref mo, .int x] w (fun v w1 => v = .int 1 ∧ w1 = w) := by
  refine x_Ct.of (cc := cX12_isNoOne) (maxL := 2) (by decide) rfl (Nat.le_of_ble_eq_true rfl) ?_
  intro p e s m below meth c F
  refine x_iload_n F dX12_isNoOne_0 rfl rfl ?_
  refine x_iconst (v := 0) F dX12_isNoOne_1 (by decide) ?_
  refine x_aload_n F dX12_isNoOne_2 rfl rfl ?_
  refine x_get (ci := 7) (C := RX12) (T := TX12) (N := 2) (k := 1) F dX12_isNoOne_3 rfl inX12 (by decide) q386 rfl hM.1 rfl ?_
  refine x_get (ci := 6) (C := RX10) (T := TX10) (N := 5) (k := 1) F dX12_isNoOne_6 rfl inX10 (by decide) q373 rfl hM.2.1 rfl ?_
  refine x_cVi0 (ci := 1) (C := RJx4a65c) (T := TJx4a65c) (N := 3) F dX12_isNoOne_9 (x_gV q397 q398 q399 q9 q400) rfl (c_size hM.2.2.2.1) ⟨rfl, rfl, rfl, xd_Jx4a65c_size_8abf5, ⟨Nat.le_of_ble_eq_true rfl, Nat.le_of_ble_eq_true rfl⟩, Nat.le_of_ble_eq_true rfl, Nat.le_of_ble_eq_true rfl⟩ rfl hM.2.2.2.1 (Nat.le_of_ble_eq_true rfl) (fun v1 w1 hp => ?_)
  obtain ⟨rfl, hw9⟩ := hp
  replace hw9 := hw9.symm
  subst hw9
  refine x_iconst (v := 1) F dX12_isNoOne_12 (by decide) ?_
  refine x_isub F dX12_isNoOne_13 ?_
  refine x_cSi3 F dX12_isNoOne_14 (x_gS q433 q434 q5 q435) (m_isIn x 0 ((0 : Int32) - 1)) ⟨rfl, rfl, rfl, xd_X12_isIn, ⟨Nat.le_of_ble_eq_true rfl, Nat.le_of_ble_eq_true rfl⟩, Nat.le_of_ble_eq_true rfl, Nat.le_of_ble_eq_true rfl⟩ (Nat.le_of_ble_eq_true rfl) (fun v1 w1 hp => ?_)
  obtain ⟨rfl, hw9⟩ := hp
  replace hw9 := hw9.symm
  subst hw9
  rw [f_isIn_m1]
  refine x_if_ne F dX12_isNoOne_17 rfl (fun hc => absurd hc (by decide)) (fun _ => ?_)
  refine x_iconst (v := 1) F dX12_isNoOne_20 (by decide) ?_
  refine x_goto F dX12_isNoOne_21 rfl ?_
  refine x_iret F rfl rfl dX12_isNoOne_25 (Nat.le_of_ble_eq_true rfl) (Nat.le_of_ble_eq_true rfl) ?_
  exact ⟨_, rfl, rfl, rfl⟩
set_option maxRecDepth 100000 in
set_option maxHeartbeats 4000000 in
theorem m_isNoClient (hM : MR w (dA 99) mo re fa cl ad ca t n) (x : Int32) : Ci l D dA B yX12_isNoClient wX12_isNoClient 3 [.ref mo, .int x] w (fun v w1 => v = .int 1 ∧ w1 = x_set w mo (oM 1 re)) := by
  refine x_Ct.of (cc := cX12_isNoClient) (maxL := 2) (by decide) rfl (Nat.le_of_ble_eq_true rfl) ?_
  intro p e s m below meth c F
  refine x_aload_n F dX12_isNoClient_0 rfl rfl ?_
  refine x_aload_n F dX12_isNoClient_1 rfl rfl ?_
  refine x_iload_n F dX12_isNoClient_2 rfl rfl ?_
  refine x_cVi1 (ci := 7) (C := RX12) (T := TX12) (N := 2) F dX12_isNoClient_3 (x_gV q514 q515 q649 q5 q516) rfl (m_isNoOne hM _) ⟨rfl, rfl, rfl, xd_X12_isNoOne, ⟨Nat.le_of_ble_eq_true rfl, Nat.le_of_ble_eq_true rfl⟩, Nat.le_of_ble_eq_true rfl, Nat.le_of_ble_eq_true rfl⟩ rfl hM.1 (Nat.le_of_ble_eq_true rfl) (fun v1 w1 hp => ?_)
  obtain ⟨rfl, hw9⟩ := hp
  replace hw9 := hw9.symm
  subst hw9
  refine x_iconst (v := 1) F dX12_isNoClient_6 (by decide) ?_
  refine x_cVi2 (ci := 7) (C := RX12) (T := TX12) (N := 2) F dX12_isNoClient_7 (x_gV q401 q402 q640 q5 q403) rfl (m_start1 hM 1 (by decide)) ⟨rfl, rfl, rfl, xd_X12_start, ⟨Nat.le_of_ble_eq_true rfl, Nat.le_of_ble_eq_true rfl⟩, Nat.le_of_ble_eq_true rfl, Nat.le_of_ble_eq_true rfl⟩ rfl hM.1 (Nat.le_of_ble_eq_true rfl) (fun v1 w1 hp => ?_)
  obtain ⟨rfl, hw9⟩ := hp
  refine x_iret F rfl rfl dX12_isNoClient_10 (Nat.le_of_ble_eq_true rfl) (Nat.le_of_ble_eq_true rfl) ?_
  exact ⟨_, rfl, rfl, hw9⟩
set_option maxRecDepth 100000 in
set_option maxHeartbeats 4000000 in
theorem m_isNoPair (hM : MR w (dA 99) mo re fa cl ad ca t n) (x y : Int32) : Ci l D dA B yX12_isNoPair wX12_isNoPair 3 [.ref mo, .int x, .int y] w (fun v w1 => v = .int 1 ∧ w1 = x_set w mo (oM 1 re)) := by
  refine x_Ct.of (cc := cX12_isNoPair) (maxL := 3) (by decide) rfl (Nat.le_of_ble_eq_true rfl) ?_
  intro p e s m below meth c F
  refine x_aload_n F dX12_isNoPair_0 rfl rfl ?_
  refine x_aload_n F dX12_isNoPair_1 rfl rfl ?_
  refine x_iload_n F dX12_isNoPair_2 rfl rfl ?_
  refine x_cVi1 (ci := 7) (C := RX12) (T := TX12) (N := 2) F dX12_isNoPair_3 (x_gV q514 q515 q649 q5 q516) rfl (m_isNoOne hM _) ⟨rfl, rfl, rfl, xd_X12_isNoOne, ⟨Nat.le_of_ble_eq_true rfl, Nat.le_of_ble_eq_true rfl⟩, Nat.le_of_ble_eq_true rfl, Nat.le_of_ble_eq_true rfl⟩ rfl hM.1 (Nat.le_of_ble_eq_true rfl) (fun v1 w1 hp => ?_)
  obtain ⟨rfl, hw9⟩ := hp
  replace hw9 := hw9.symm
  subst hw9
  refine x_if_ne F dX12_isNoPair_6 rfl (fun _ => ?_) (fun hc => absurd hc (by decide))
  refine x_iconst (v := 1) F dX12_isNoPair_34 (by decide) ?_
  refine x_goto F dX12_isNoPair_35 rfl ?_
  refine x_iconst (v := 1) F dX12_isNoPair_39 (by decide) ?_
  refine x_cVi2 (ci := 7) (C := RX12) (T := TX12) (N := 2) F dX12_isNoPair_40 (x_gV q401 q402 q640 q5 q403) rfl (m_start1 hM 1 (by decide)) ⟨rfl, rfl, rfl, xd_X12_start, ⟨Nat.le_of_ble_eq_true rfl, Nat.le_of_ble_eq_true rfl⟩, Nat.le_of_ble_eq_true rfl, Nat.le_of_ble_eq_true rfl⟩ rfl hM.1 (Nat.le_of_ble_eq_true rfl) (fun v1 w1 hp => ?_)
  obtain ⟨rfl, hw9⟩ := hp
  refine x_iret F rfl rfl dX12_isNoPair_43 (Nat.le_of_ble_eq_true rfl) (Nat.le_of_ble_eq_true rfl) ?_
  exact ⟨_, rfl, rfl, hw9⟩
set_option maxRecDepth 100000 in
set_option maxHeartbeats 4000000 in
theorem m_isNoAsk (hM : MR w (dA 99) mo re fa cl ad ca t n) (x y z : Int32) : Ci l D dA B yX12_isNoAsk wX12_isNoAsk 3 [.ref mo, .int x, .int y, .int z] w (fun v w1 => v = .int 1 ∧ w1 = x_set w mo (oM 1 re)) := by
  refine x_Ct.of (cc := cX12_isNoAsk) (maxL := 4) (by decide) rfl (Nat.le_of_ble_eq_true rfl) ?_
  intro p e s m below meth c F
  refine x_aload_n F dX12_isNoAsk_0 rfl rfl ?_
  refine x_iload_n F dX12_isNoAsk_1 rfl rfl ?_
  refine x_iconst (v := 0) F dX12_isNoAsk_2 (by decide) ?_
  refine x_iconst (v := 4) F dX12_isNoAsk_3 (by decide) ?_
  refine x_cSi3 F dX12_isNoAsk_4 (x_gS q433 q434 q5 q435) (m_isIn _ 0 4) ⟨rfl, rfl, rfl, xd_X12_isIn, ⟨Nat.le_of_ble_eq_true rfl, Nat.le_of_ble_eq_true rfl⟩, Nat.le_of_ble_eq_true rfl, Nat.le_of_ble_eq_true rfl⟩ (Nat.le_of_ble_eq_true rfl) (fun v1 w1 hp => ?_)
  obtain ⟨rfl, hw9⟩ := hp
  replace hw9 := hw9.symm
  subst hw9
  refine x_if_eq F dX12_isNoAsk_7 rfl (fun h7 => ?_) (fun h7 => ?_)
  · refine x_iconst (v := 1) F dX12_isNoAsk_19 (by decide) ?_
    refine x_goto F dX12_isNoAsk_20 rfl ?_
    refine x_iconst (v := 1) F dX12_isNoAsk_24 (by decide) ?_
    refine x_cVi2 (ci := 7) (C := RX12) (T := TX12) (N := 2) F dX12_isNoAsk_25 (x_gV q401 q402 q640 q5 q403) rfl (m_start1 hM 1 (by decide)) ⟨rfl, rfl, rfl, xd_X12_start, ⟨Nat.le_of_ble_eq_true rfl, Nat.le_of_ble_eq_true rfl⟩, Nat.le_of_ble_eq_true rfl, Nat.le_of_ble_eq_true rfl⟩ rfl hM.1 (Nat.le_of_ble_eq_true rfl) (fun v1 w1 hp => ?_)
    obtain ⟨rfl, hw9⟩ := hp
    refine x_iret F rfl rfl dX12_isNoAsk_28 (Nat.le_of_ble_eq_true rfl) (Nat.le_of_ble_eq_true rfl) ?_
    exact ⟨_, rfl, rfl, hw9⟩
  · refine x_aload_n F dX12_isNoAsk_10 rfl rfl ?_
    refine x_iload_n F dX12_isNoAsk_11 rfl rfl ?_
    refine x_iload_n F dX12_isNoAsk_12 rfl rfl ?_
    refine x_cVi2 (ci := 7) (C := RX12) (T := TX12) (N := 2) F dX12_isNoAsk_13 (x_gV q480 q481 q647 q5 q482) rfl (m_isNo hM _ _) ⟨rfl, rfl, rfl, xd_X12_isNo, ⟨Nat.le_of_ble_eq_true rfl, Nat.le_of_ble_eq_true rfl⟩, Nat.le_of_ble_eq_true rfl, Nat.le_of_ble_eq_true rfl⟩ rfl hM.1 (Nat.le_of_ble_eq_true rfl) (fun v1 w1 hp => ?_)
    obtain ⟨rfl, hw9⟩ := hp
    replace hw9 := hw9.symm
    subst hw9
    refine x_if_eq F dX12_isNoAsk_16 rfl (fun hc => absurd hc (by decide)) (fun _ => ?_)
    refine x_iconst (v := 1) F dX12_isNoAsk_19 (by decide) ?_
    refine x_goto F dX12_isNoAsk_20 rfl ?_
    refine x_iconst (v := 1) F dX12_isNoAsk_24 (by decide) ?_
    refine x_cVi2 (ci := 7) (C := RX12) (T := TX12) (N := 2) F dX12_isNoAsk_25 (x_gV q401 q402 q640 q5 q403) rfl (m_start1 hM 1 (by decide)) ⟨rfl, rfl, rfl, xd_X12_start, ⟨Nat.le_of_ble_eq_true rfl, Nat.le_of_ble_eq_true rfl⟩, Nat.le_of_ble_eq_true rfl, Nat.le_of_ble_eq_true rfl⟩ rfl hM.1 (Nat.le_of_ble_eq_true rfl) (fun v1 w1 hp => ?_)
    obtain ⟨rfl, hw9⟩ := hp
    refine x_iret F rfl rfl dX12_isNoAsk_28 (Nat.le_of_ble_eq_true rfl) (Nat.le_of_ble_eq_true rfl) ?_
    exact ⟨_, rfl, rfl, hw9⟩
set_option maxRecDepth 100000 in
set_option maxHeartbeats 4000000 in
theorem m_publish (hM : MR w (dA 99) mo re fa cl ad ca t n) (x1 x2 x3 : Int32) : Ci l D dA B yX12_publish wX12_publish 5 [.ref mo, .int x1, .int x2, .int x3] w (fun v w1 => v = .int 0 ∧ w1 = x_set w mo (oM 1 re)) := by
  refine x_Ct.of (cc := cX12_publish) (maxL := 8) (by decide) rfl (Nat.le_of_ble_eq_true rfl) ?_
  intro p e s m below meth c F
  refine x_aload_n F dX12_publish_0 rfl rfl ?_
  refine x_aload_n F dX12_publish_1 rfl rfl ?_
  refine x_iload_n F dX12_publish_2 rfl rfl ?_
  refine x_cVi1 (ci := 7) (C := RX12) (T := TX12) (N := 2) F dX12_publish_3 (x_gV q430 q431 q645 q5 q432) rfl (m_isNoFace hM _) ⟨rfl, rfl, rfl, xd_X12_isNoFace, ⟨Nat.le_of_ble_eq_true rfl, Nat.le_of_ble_eq_true rfl⟩, Nat.le_of_ble_eq_true rfl, Nat.le_of_ble_eq_true rfl⟩ rfl hM.1 (Nat.le_of_ble_eq_true rfl) (fun v1 w1 hp => ?_)
  obtain ⟨rfl, hw9⟩ := hp
  replace hw9 := hw9.symm
  subst hw9
  refine x_iconst (v := 1) F dX12_publish_6 (by decide) ?_
  refine x_cVi2 (ci := 7) (C := RX12) (T := TX12) (N := 2) F dX12_publish_7 (x_gV q401 q402 q640 q5 q403) rfl (m_start1 hM 1 (by decide)) ⟨rfl, rfl, rfl, xd_X12_start, ⟨Nat.le_of_ble_eq_true rfl, Nat.le_of_ble_eq_true rfl⟩, Nat.le_of_ble_eq_true rfl, Nat.le_of_ble_eq_true rfl⟩ rfl hM.1 (Nat.le_of_ble_eq_true rfl) (fun v1 w1 hp => ?_)
  obtain ⟨rfl, hw9⟩ := hp
  refine x_if_ne F dX12_publish_10 rfl (fun _ => ?_) (fun hc => absurd hc (by decide))
  refine x_iconst (v := 0) F dX12_publish_61 (by decide) ?_
  refine x_iret F rfl rfl dX12_publish_62 (Nat.le_of_ble_eq_true rfl) (Nat.le_of_ble_eq_true rfl) ?_
  exact ⟨_, rfl, rfl, hw9⟩
set_option maxRecDepth 100000 in
set_option maxHeartbeats 4000000 in
theorem m_ofVersion (hM : MR w (dA 99) mo re fa cl ad ca t n) (x1 x2 x3 : Int32) : Ci l D dA B yX12_ofVersion wX12_ofVersion 5 [.ref mo, .int x1, .int x2, .int x3] w (fun v w1 => v = .int 0 ∧ w1 = x_set w mo (oM 1 re)) := by
  refine x_Ct.of (cc := cX12_ofVersion) (maxL := 4) (by decide) rfl (Nat.le_of_ble_eq_true rfl) ?_
  intro p e s m below meth c F
  refine x_aload_n F dX12_ofVersion_0 rfl rfl ?_
  refine x_iload_n F dX12_ofVersion_1 rfl rfl ?_
  refine x_iload_n F dX12_ofVersion_2 rfl rfl ?_
  refine x_cVi2 (ci := 7) (C := RX12) (T := TX12) (N := 2) F dX12_ofVersion_3 (x_gV q477 q478 q646 q5 q479) rfl (m_isNoVersion hM _ _) ⟨rfl, rfl, rfl, xd_X12_isNoVersion, ⟨Nat.le_of_ble_eq_true rfl, Nat.le_of_ble_eq_true rfl⟩, Nat.le_of_ble_eq_true rfl, Nat.le_of_ble_eq_true rfl⟩ rfl hM.1 (Nat.le_of_ble_eq_true rfl) (fun v1 w1 hp => ?_)
  obtain ⟨rfl, hw9⟩ := hp
  refine x_if_ne F dX12_ofVersion_6 rfl (fun _ => ?_) (fun hc => absurd hc (by decide))
  refine x_iconst (v := 0) F dX12_ofVersion_32 (by decide) ?_
  refine x_goto F dX12_ofVersion_33 rfl ?_
  refine x_iret F rfl rfl dX12_ofVersion_43 (Nat.le_of_ble_eq_true rfl) (Nat.le_of_ble_eq_true rfl) ?_
  exact ⟨_, rfl, rfl, hw9⟩
set_option maxRecDepth 100000 in
set_option maxHeartbeats 4000000 in
theorem m_isCompatible (hM : MR w (dA 99) mo re fa cl ad ca t n) (x1 x2 x3 : Int32) : Ci l D dA B yX12_isCompatible wX12_isCompatible 5 [.ref mo, .int x1, .int x2, .int x3] w (fun v w1 => v = .int 0 ∧ w1 = x_set w mo (oM 1 re)) := by
  refine x_Ct.of (cc := cX12_isCompatible) (maxL := 4) (by decide) rfl (Nat.le_of_ble_eq_true rfl) ?_
  intro p e s m below meth c F
  refine x_aload_n F dX12_isCompatible_0 rfl rfl ?_
  refine x_iload_n F dX12_isCompatible_1 rfl rfl ?_
  refine x_iload_n F dX12_isCompatible_2 rfl rfl ?_
  refine x_cVi2 (ci := 7) (C := RX12) (T := TX12) (N := 2) F dX12_isCompatible_3 (x_gV q477 q478 q646 q5 q479) rfl (m_isNoVersion hM _ _) ⟨rfl, rfl, rfl, xd_X12_isNoVersion, ⟨Nat.le_of_ble_eq_true rfl, Nat.le_of_ble_eq_true rfl⟩, Nat.le_of_ble_eq_true rfl, Nat.le_of_ble_eq_true rfl⟩ rfl hM.1 (Nat.le_of_ble_eq_true rfl) (fun v1 w1 hp => ?_)
  obtain ⟨rfl, hw9⟩ := hp
  refine x_if_ne F dX12_isCompatible_6 rfl (fun _ => ?_) (fun hc => absurd hc (by decide))
  refine x_iconst (v := 0) F dX12_isCompatible_45 (by decide) ?_
  refine x_iret F rfl rfl dX12_isCompatible_46 (Nat.le_of_ble_eq_true rfl) (Nat.le_of_ble_eq_true rfl) ?_
  exact ⟨_, rfl, rfl, hw9⟩
set_option maxRecDepth 100000 in
set_option maxHeartbeats 4000000 in
theorem m_client (hM : MR w (dA 99) mo re fa cl ad ca t n) (x1 x2 x3 x4 : Int32) : Ci l D dA B yX12_client wX12_client 5 [.ref mo, .int x1, .int x2, .int x3, .int x4] w (fun v w1 => v = .int 0 ∧ w1 = x_set w mo (oM 1 re)) := by
  refine x_Ct.of (cc := cX12_client) (maxL := 5) (by decide) rfl (Nat.le_of_ble_eq_true rfl) ?_
  intro p e s m below meth c F
  refine x_aload_n F dX12_client_0 rfl rfl ?_
  refine x_iload_n F dX12_client_1 rfl rfl ?_
  refine x_iload_n F dX12_client_2 rfl rfl ?_
  refine x_cVi2 (ci := 7) (C := RX12) (T := TX12) (N := 2) F dX12_client_3 (x_gV q477 q478 q646 q5 q479) rfl (m_isNoVersion hM _ _) ⟨rfl, rfl, rfl, xd_X12_isNoVersion, ⟨Nat.le_of_ble_eq_true rfl, Nat.le_of_ble_eq_true rfl⟩, Nat.le_of_ble_eq_true rfl, Nat.le_of_ble_eq_true rfl⟩ rfl hM.1 (Nat.le_of_ble_eq_true rfl) (fun v1 w1 hp => ?_)
  obtain ⟨rfl, hw9⟩ := hp
  refine x_if_ne F dX12_client_6 rfl (fun _ => ?_) (fun hc => absurd hc (by decide))
  refine x_iconst (v := 0) F dX12_client_93 (by decide) ?_
  refine x_iret F rfl rfl dX12_client_94 (Nat.le_of_ble_eq_true rfl) (Nat.le_of_ble_eq_true rfl) ?_
  exact ⟨_, rfl, rfl, hw9⟩
set_option maxRecDepth 100000 in
set_option maxHeartbeats 4000000 in
theorem m_again (hM : MR w (dA 99) mo re fa cl ad ca t n) (x1 x2 : Int32) : Ci l D dA B yX12_again wX12_again 5 [.ref mo, .int x1, .int x2] w (fun v w1 => v = .int 0 ∧ w1 = x_set w mo (oM 1 re)) := by
  refine x_Ct.of (cc := cX12_again) (maxL := 4) (by decide) rfl (Nat.le_of_ble_eq_true rfl) ?_
  intro p e s m below meth c F
  refine x_aload_n F dX12_again_0 rfl rfl ?_
  refine x_iload_n F dX12_again_1 rfl rfl ?_
  refine x_iload_n F dX12_again_2 rfl rfl ?_
  refine x_cVi2 (ci := 7) (C := RX12) (T := TX12) (N := 2) F dX12_again_3 (x_gV q511 q512 q648 q5 q513) rfl (m_isNoPair hM _ _) ⟨rfl, rfl, rfl, xd_X12_isNoPair, ⟨Nat.le_of_ble_eq_true rfl, Nat.le_of_ble_eq_true rfl⟩, Nat.le_of_ble_eq_true rfl, Nat.le_of_ble_eq_true rfl⟩ rfl hM.1 (Nat.le_of_ble_eq_true rfl) (fun v1 w1 hp => ?_)
  obtain ⟨rfl, hw9⟩ := hp
  refine x_if_ne F dX12_again_6 rfl (fun _ => ?_) (fun hc => absurd hc (by decide))
  refine x_iconst (v := 0) F dX12_again_50 (by decide) ?_
  refine x_iret F rfl rfl dX12_again_51 (Nat.le_of_ble_eq_true rfl) (Nat.le_of_ble_eq_true rfl) ?_
  exact ⟨_, rfl, rfl, hw9⟩
set_option maxRecDepth 100000 in
set_option maxHeartbeats 4000000 in
theorem m_adapter (hM : MR w (dA 99) mo re fa cl ad ca t n) (x1 x2 x3 x4 x5 : Int32) : Ci l D dA B yX12_adapter wX12_adapter 5 [.ref mo, .int x1, .int x2, .int x3, .int x4, .int x5] w (fun v w1 => v = .int 0 ∧ w1 = x_set w mo (oM 1 re)) := by
  refine x_Ct.of (cc := cX12_adapter) (maxL := 6) (by decide) rfl (Nat.le_of_ble_eq_true rfl) ?_
  intro p e s m below meth c F
  refine x_aload_n F dX12_adapter_0 rfl rfl ?_
  refine x_aload_n F dX12_adapter_1 rfl rfl ?_
  refine x_iload_n F dX12_adapter_2 rfl rfl ?_
  refine x_iload_n F dX12_adapter_3 rfl rfl ?_
  refine x_cVi2 (ci := 7) (C := RX12) (T := TX12) (N := 2) F dX12_adapter_4 (x_gV q480 q481 q647 q5 q482) rfl (m_isNo hM _ _) ⟨rfl, rfl, rfl, xd_X12_isNo, ⟨Nat.le_of_ble_eq_true rfl, Nat.le_of_ble_eq_true rfl⟩, Nat.le_of_ble_eq_true rfl, Nat.le_of_ble_eq_true rfl⟩ rfl hM.1 (Nat.le_of_ble_eq_true rfl) (fun v1 w1 hp => ?_)
  obtain ⟨rfl, hw9⟩ := hp
  replace hw9 := hw9.symm
  subst hw9
  refine x_if_ne F dX12_adapter_7 rfl (fun _ => ?_) (fun hc => absurd hc (by decide))
  refine x_iconst (v := 1) F dX12_adapter_19 (by decide) ?_
  refine x_goto F dX12_adapter_20 rfl ?_
  refine x_iconst (v := 1) F dX12_adapter_24 (by decide) ?_
  refine x_cVi2 (ci := 7) (C := RX12) (T := TX12) (N := 2) F dX12_adapter_25 (x_gV q401 q402 q640 q5 q403) rfl (m_start1 hM 1 (by decide)) ⟨rfl, rfl, rfl, xd_X12_start, ⟨Nat.le_of_ble_eq_true rfl, Nat.le_of_ble_eq_true rfl⟩, Nat.le_of_ble_eq_true rfl, Nat.le_of_ble_eq_true rfl⟩ rfl hM.1 (Nat.le_of_ble_eq_true rfl) (fun v1 w1 hp => ?_)
  obtain ⟨rfl, hw9⟩ := hp
  refine x_if_ne F dX12_adapter_28 rfl (fun _ => ?_) (fun hc => absurd hc (by decide))
  refine x_iconst (v := 0) F dX12_adapter_93 (by decide) ?_
  refine x_iret F rfl rfl dX12_adapter_94 (Nat.le_of_ble_eq_true rfl) (Nat.le_of_ble_eq_true rfl) ?_
  exact ⟨_, rfl, rfl, hw9⟩
set_option maxRecDepth 100000 in
set_option maxHeartbeats 4000000 in
theorem m_ofClient (hM : MR w (dA 99) mo re fa cl ad ca t n) (x1 x2 : Int32) : Ci l D dA B yX12_ofClient wX12_ofClient 5 [.ref mo, .int x1, .int x2] w (fun v w1 => v = .int 0 ∧ w1 = x_set w mo (oM 1 re)) := by
  refine x_Ct.of (cc := cX12_ofClient) (maxL := 3) (by decide) rfl (Nat.le_of_ble_eq_true rfl) ?_
  intro p e s m below meth c F
  refine x_aload_n F dX12_ofClient_0 rfl rfl ?_
  refine x_iload_n F dX12_ofClient_1 rfl rfl ?_
  refine x_cVi1 (ci := 7) (C := RX12) (T := TX12) (N := 2) F dX12_ofClient_2 (x_gV q531 q532 q650 q5 q533) rfl (m_isNoClient hM _) ⟨rfl, rfl, rfl, xd_X12_isNoClient, ⟨Nat.le_of_ble_eq_true rfl, Nat.le_of_ble_eq_true rfl⟩, Nat.le_of_ble_eq_true rfl, Nat.le_of_ble_eq_true rfl⟩ rfl hM.1 (Nat.le_of_ble_eq_true rfl) (fun v1 w1 hp => ?_)
  obtain ⟨rfl, hw9⟩ := hp
  refine x_if_ne F dX12_ofClient_5 rfl (fun _ => ?_) (fun hc => absurd hc (by decide))
  refine x_iconst (v := 0) F dX12_ofClient_31 (by decide) ?_
  refine x_goto F dX12_ofClient_32 rfl ?_
  refine x_iret F rfl rfl dX12_ofClient_41 (Nat.le_of_ble_eq_true rfl) (Nat.le_of_ble_eq_true rfl) ?_
  exact ⟨_, rfl, rfl, hw9⟩
set_option maxRecDepth 100000 in
set_option maxHeartbeats 4000000 in
theorem m_routed (hM : MR w (dA 99) mo re fa cl ad ca t n) (x1 x2 : Int32) : Ci l D dA B yX12_routed wX12_routed 5 [.ref mo, .int x1, .int x2] w (fun v w1 => v = .int 0 ∧ w1 = x_set w mo (oM 1 re)) := by
  refine x_Ct.of (cc := cX12_routed) (maxL := 4) (by decide) rfl (Nat.le_of_ble_eq_true rfl) ?_
  intro p e s m below meth c F
  refine x_aload_n F dX12_routed_0 rfl rfl ?_
  refine x_iload_n F dX12_routed_1 rfl rfl ?_
  refine x_cVi1 (ci := 7) (C := RX12) (T := TX12) (N := 2) F dX12_routed_2 (x_gV q531 q532 q650 q5 q533) rfl (m_isNoClient hM _) ⟨rfl, rfl, rfl, xd_X12_isNoClient, ⟨Nat.le_of_ble_eq_true rfl, Nat.le_of_ble_eq_true rfl⟩, Nat.le_of_ble_eq_true rfl, Nat.le_of_ble_eq_true rfl⟩ rfl hM.1 (Nat.le_of_ble_eq_true rfl) (fun v1 w1 hp => ?_)
  obtain ⟨rfl, hw9⟩ := hp
  refine x_if_eq F dX12_routed_5 rfl (fun hc => absurd hc (by decide)) (fun _ => ?_)
  refine x_iconst (v := 0) F dX12_routed_8 (by decide) ?_
  refine x_iret F rfl rfl dX12_routed_9 (Nat.le_of_ble_eq_true rfl) (Nat.le_of_ble_eq_true rfl) ?_
  exact ⟨_, rfl, rfl, hw9⟩
set_option maxRecDepth 100000 in
set_option maxHeartbeats 4000000 in
theorem m_call (hM : MR w (dA 99) mo re fa cl ad ca t n) (x1 x2 : Int32) : Ci l D dA B yX12_call wX12_call 5 [.ref mo, .int x1, .int x2] w (fun v w1 => v = .int 0 ∧ w1 = x_set w mo (oM 1 re)) := by
  refine x_Ct.of (cc := cX12_call) (maxL := 5) (by decide) rfl (Nat.le_of_ble_eq_true rfl) ?_
  intro p e s m below meth c F
  refine x_aload_n F dX12_call_0 rfl rfl ?_
  refine x_iload_n F dX12_call_1 rfl rfl ?_
  refine x_cVi1 (ci := 7) (C := RX12) (T := TX12) (N := 2) F dX12_call_2 (x_gV q531 q532 q650 q5 q533) rfl (m_isNoClient hM _) ⟨rfl, rfl, rfl, xd_X12_isNoClient, ⟨Nat.le_of_ble_eq_true rfl, Nat.le_of_ble_eq_true rfl⟩, Nat.le_of_ble_eq_true rfl, Nat.le_of_ble_eq_true rfl⟩ rfl hM.1 (Nat.le_of_ble_eq_true rfl) (fun v1 w1 hp => ?_)
  obtain ⟨rfl, hw9⟩ := hp
  refine x_if_ne F dX12_call_5 rfl (fun _ => ?_) (fun hc => absurd hc (by decide))
  refine x_iconst (v := 0) F dX12_call_31 (by decide) ?_
  refine x_iret F rfl rfl dX12_call_32 (Nat.le_of_ble_eq_true rfl) (Nat.le_of_ble_eq_true rfl) ?_
  exact ⟨_, rfl, rfl, hw9⟩
set_option maxRecDepth 100000 in
set_option maxHeartbeats 4000000 in
theorem m_lastCall (hM : MR w (dA 99) mo re fa cl ad ca t n) (x1 x2 : Int32) : Ci l D dA B yX12_lastCall wX12_lastCall 5 [.ref mo, .int x1, .int x2] w (fun v w1 => v = .int 0 ∧ w1 = x_set w mo (oM 1 re)) := by
  refine x_Ct.of (cc := cX12_lastCall) (maxL := 3) (by decide) rfl (Nat.le_of_ble_eq_true rfl) ?_
  intro p e s m below meth c F
  refine x_aload_n F dX12_lastCall_0 rfl rfl ?_
  refine x_iload_n F dX12_lastCall_1 rfl rfl ?_
  refine x_iload_n F dX12_lastCall_2 rfl rfl ?_
  refine x_cVi2 (ci := 7) (C := RX12) (T := TX12) (N := 2) F dX12_lastCall_3 (x_gV q511 q512 q648 q5 q513) rfl (m_isNoPair hM _ _) ⟨rfl, rfl, rfl, xd_X12_isNoPair, ⟨Nat.le_of_ble_eq_true rfl, Nat.le_of_ble_eq_true rfl⟩, Nat.le_of_ble_eq_true rfl, Nat.le_of_ble_eq_true rfl⟩ rfl hM.1 (Nat.le_of_ble_eq_true rfl) (fun v1 w1 hp => ?_)
  obtain ⟨rfl, hw9⟩ := hp
  refine x_if_eq F dX12_lastCall_6 rfl (fun hc => absurd hc (by decide)) (fun _ => ?_)
  refine x_iconst (v := 0) F dX12_lastCall_9 (by decide) ?_
  refine x_goto F dX12_lastCall_10 rfl ?_
  refine x_iret F rfl rfl dX12_lastCall_22 (Nat.le_of_ble_eq_true rfl) (Nat.le_of_ble_eq_true rfl) ?_
  exact ⟨_, rfl, rfl, hw9⟩
set_option maxRecDepth 100000 in
set_option maxHeartbeats 4000000 in
theorem m_retire (hM : MR w (dA 99) mo re fa cl ad ca t n) (x1 x2 x3 : Int32) : Ci l D dA B yX12_retire wX12_retire 5 [.ref mo, .int x1, .int x2, .int x3] w (fun v w1 => v = .int 0 ∧ w1 = x_set w mo (oM 1 re)) := by
  refine x_Ct.of (cc := cX12_retire) (maxL := 9) (by decide) rfl (Nat.le_of_ble_eq_true rfl) ?_
  intro p e s m below meth c F
  refine x_aload_n F dX12_retire_0 rfl rfl ?_
  refine x_iload_n F dX12_retire_1 rfl rfl ?_
  refine x_iload_n F dX12_retire_2 rfl rfl ?_
  refine x_cVi2 (ci := 7) (C := RX12) (T := TX12) (N := 2) F dX12_retire_3 (x_gV q477 q478 q646 q5 q479) rfl (m_isNoVersion hM _ _) ⟨rfl, rfl, rfl, xd_X12_isNoVersion, ⟨Nat.le_of_ble_eq_true rfl, Nat.le_of_ble_eq_true rfl⟩, Nat.le_of_ble_eq_true rfl, Nat.le_of_ble_eq_true rfl⟩ rfl hM.1 (Nat.le_of_ble_eq_true rfl) (fun v1 w1 hp => ?_)
  obtain ⟨rfl, hw9⟩ := hp
  refine x_if_ne F dX12_retire_6 rfl (fun _ => ?_) (fun hc => absurd hc (by decide))
  refine x_iconst (v := 0) F dX12_retire_57 (by decide) ?_
  refine x_iret F rfl rfl dX12_retire_58 (Nat.le_of_ble_eq_true rfl) (Nat.le_of_ble_eq_true rfl) ?_
  exact ⟨_, rfl, rfl, hw9⟩
set_option maxRecDepth 100000 in
set_option maxHeartbeats 4000000 in
theorem m_answer (hM : MR w (dA 99) mo re fa cl ad ca t n) (x1 x2 x3 : Int32) : Ci l D dA B yX12_answer wX12_answer 5 [.ref mo, .int x1, .int x2, .int x3] w (fun v w1 => v = .int 0 ∧ w1 = x_set w mo (oM 1 re)) := by
  refine x_Ct.of (cc := cX12_answer) (maxL := 5) (by decide) rfl (Nat.le_of_ble_eq_true rfl) ?_
  intro p e s m below meth c F
  refine x_aload_n F dX12_answer_0 rfl rfl ?_
  refine x_iload_n F dX12_answer_1 rfl rfl ?_
  refine x_iload_n F dX12_answer_2 rfl rfl ?_
  refine x_iload_n F dX12_answer_3 rfl rfl ?_
  refine x_cVi3 (ci := 7) (C := RX12) (T := TX12) (N := 2) F dX12_answer_4 (x_gV q570 q571 q651 q5 q572) rfl (m_isNoAsk hM _ _ _) ⟨rfl, rfl, rfl, xd_X12_isNoAsk, ⟨Nat.le_of_ble_eq_true rfl, Nat.le_of_ble_eq_true rfl⟩, Nat.le_of_ble_eq_true rfl, Nat.le_of_ble_eq_true rfl⟩ rfl hM.1 (Nat.le_of_ble_eq_true rfl) (fun v1 w1 hp => ?_)
  obtain ⟨rfl, hw9⟩ := hp
  refine x_if_ne F dX12_answer_7 rfl (fun _ => ?_) (fun hc => absurd hc (by decide))
  refine x_iconst (v := 0) F dX12_answer_51 (by decide) ?_
  refine x_iret F rfl rfl dX12_answer_52 (Nat.le_of_ble_eq_true rfl) (Nat.le_of_ble_eq_true rfl) ?_
  exact ⟨_, rfl, rfl, hw9⟩
set_option maxRecDepth 100000 in
set_option maxHeartbeats 4000000 in
theorem m_recall (hM : MR w (dA 99) mo re fa cl ad ca t n) (x1 x2 : Int32) : Ci l D dA B yX12_recall wX12_recall 5 [.ref mo, .int x1, .int x2] w (fun v w1 => v = .int 0 ∧ w1 = x_set w mo (oM 1 re)) := by
  refine x_Ct.of (cc := cX12_recall) (maxL := 4) (by decide) rfl (Nat.le_of_ble_eq_true rfl) ?_
  intro p e s m below meth c F
  refine x_aload_n F dX12_recall_0 rfl rfl ?_
  refine x_iload_n F dX12_recall_1 rfl rfl ?_
  refine x_iload_n F dX12_recall_2 rfl rfl ?_
  refine x_cVi2 (ci := 7) (C := RX12) (T := TX12) (N := 2) F dX12_recall_3 (x_gV q477 q478 q646 q5 q479) rfl (m_isNoVersion hM _ _) ⟨rfl, rfl, rfl, xd_X12_isNoVersion, ⟨Nat.le_of_ble_eq_true rfl, Nat.le_of_ble_eq_true rfl⟩, Nat.le_of_ble_eq_true rfl, Nat.le_of_ble_eq_true rfl⟩ rfl hM.1 (Nat.le_of_ble_eq_true rfl) (fun v1 w1 hp => ?_)
  obtain ⟨rfl, hw9⟩ := hp
  refine x_if_ne F dX12_recall_6 rfl (fun _ => ?_) (fun hc => absurd hc (by decide))
  refine x_iconst (v := 0) F dX12_recall_35 (by decide) ?_
  refine x_iret F rfl rfl dX12_recall_36 (Nat.le_of_ble_eq_true rfl) (Nat.le_of_ble_eq_true rfl) ?_
  exact ⟨_, rfl, rfl, hw9⟩
set_option maxRecDepth 100000 in
set_option maxHeartbeats 4000000 in
theorem m_asked (hM : MR w (dA 99) mo re fa cl ad ca t n) (x1 x2 x3 : Int32) : Ci l D dA B yX12_asked wX12_asked 5 [.ref mo, .int x1, .int x2, .int x3] w (fun v w1 => v = .int 0 ∧ w1 = x_set w mo (oM 1 re)) := by
  refine x_Ct.of (cc := cX12_asked) (maxL := 4) (by decide) rfl (Nat.le_of_ble_eq_true rfl) ?_
  intro p e s m below meth c F
  refine x_aload_n F dX12_asked_0 rfl rfl ?_
  refine x_iload_n F dX12_asked_1 rfl rfl ?_
  refine x_iload_n F dX12_asked_2 rfl rfl ?_
  refine x_iload_n F dX12_asked_3 rfl rfl ?_
  refine x_cVi3 (ci := 7) (C := RX12) (T := TX12) (N := 2) F dX12_asked_4 (x_gV q570 q571 q651 q5 q572) rfl (m_isNoAsk hM _ _ _) ⟨rfl, rfl, rfl, xd_X12_isNoAsk, ⟨Nat.le_of_ble_eq_true rfl, Nat.le_of_ble_eq_true rfl⟩, Nat.le_of_ble_eq_true rfl, Nat.le_of_ble_eq_true rfl⟩ rfl hM.1 (Nat.le_of_ble_eq_true rfl) (fun v1 w1 hp => ?_)
  obtain ⟨rfl, hw9⟩ := hp
  refine x_if_eq F dX12_asked_7 rfl (fun hc => absurd hc (by decide)) (fun _ => ?_)
  refine x_iconst (v := 0) F dX12_asked_10 (by decide) ?_
  refine x_goto F dX12_asked_11 rfl ?_
  refine x_iret F rfl rfl dX12_asked_21 (Nat.le_of_ble_eq_true rfl) (Nat.le_of_ble_eq_true rfl) ?_
  exact ⟨_, rfl, rfl, hw9⟩
set_option maxRecDepth 100000 in
set_option maxHeartbeats 4000000 in
theorem m_wouldCome (hM : MR w (dA 99) mo re fa cl ad ca t n) (x1 x2 : Int32) : Ci l D dA B yX12_wouldCome wX12_wouldCome 5 [.ref mo, .int x1, .int x2] w (fun v w1 => v = .int 0 ∧ w1 = x_set w mo (oM 1 re)) := by
  refine x_Ct.of (cc := cX12_wouldCome) (maxL := 3) (by decide) rfl (Nat.le_of_ble_eq_true rfl) ?_
  intro p e s m below meth c F
  refine x_aload_n F dX12_wouldCome_0 rfl rfl ?_
  refine x_iload_n F dX12_wouldCome_1 rfl rfl ?_
  refine x_cVi1 (ci := 7) (C := RX12) (T := TX12) (N := 2) F dX12_wouldCome_2 (x_gV q531 q532 q650 q5 q533) rfl (m_isNoClient hM _) ⟨rfl, rfl, rfl, xd_X12_isNoClient, ⟨Nat.le_of_ble_eq_true rfl, Nat.le_of_ble_eq_true rfl⟩, Nat.le_of_ble_eq_true rfl, Nat.le_of_ble_eq_true rfl⟩ rfl hM.1 (Nat.le_of_ble_eq_true rfl) (fun v1 w1 hp => ?_)
  obtain ⟨rfl, hw9⟩ := hp
  refine x_if_ne F dX12_wouldCome_5 rfl (fun _ => ?_) (fun hc => absurd hc (by decide))
  refine x_iconst (v := 0) F dX12_wouldCome_31 (by decide) ?_
  refine x_goto F dX12_wouldCome_32 rfl ?_
  refine x_iret F rfl rfl dX12_wouldCome_41 (Nat.le_of_ble_eq_true rfl) (Nat.le_of_ble_eq_true rfl) ?_
  exact ⟨_, rfl, rfl, hw9⟩
set_option maxRecDepth 100000 in
set_option maxHeartbeats 4000000 in
theorem m_goneIn (hM : MR w (dA 99) mo re fa cl ad ca t n) (x1 x2 : Int32) : Ci l D dA B yX12_goneIn wX12_goneIn 5 [.ref mo, .int x1, .int x2] w (fun v w1 => v = .int 0 ∧ w1 = x_set w mo (oM 1 re)) := by
  refine x_Ct.of (cc := cX12_goneIn) (maxL := 3) (by decide) rfl (Nat.le_of_ble_eq_true rfl) ?_
  intro p e s m below meth c F
  refine x_aload_n F dX12_goneIn_0 rfl rfl ?_
  refine x_iload_n F dX12_goneIn_1 rfl rfl ?_
  refine x_iload_n F dX12_goneIn_2 rfl rfl ?_
  refine x_cVi2 (ci := 7) (C := RX12) (T := TX12) (N := 2) F dX12_goneIn_3 (x_gV q477 q478 q646 q5 q479) rfl (m_isNoVersion hM _ _) ⟨rfl, rfl, rfl, xd_X12_isNoVersion, ⟨Nat.le_of_ble_eq_true rfl, Nat.le_of_ble_eq_true rfl⟩, Nat.le_of_ble_eq_true rfl, Nat.le_of_ble_eq_true rfl⟩ rfl hM.1 (Nat.le_of_ble_eq_true rfl) (fun v1 w1 hp => ?_)
  obtain ⟨rfl, hw9⟩ := hp
  refine x_if_eq F dX12_goneIn_6 rfl (fun hc => absurd hc (by decide)) (fun _ => ?_)
  refine x_iconst (v := 0) F dX12_goneIn_9 (by decide) ?_
  refine x_goto F dX12_goneIn_10 rfl ?_
  refine x_iret F rfl rfl dX12_goneIn_19 (Nat.le_of_ble_eq_true rfl) (Nat.le_of_ble_eq_true rfl) ?_
  exact ⟨_, rfl, rfl, hw9⟩
set_option maxRecDepth 100000 in
set_option maxHeartbeats 4000000 in
theorem m_wouldBreak (hM : MR w (dA 99) mo re fa cl ad ca t n) (x1 x2 x3 : Int32) : Ci l D dA B yX12_wouldBreak wX12_wouldBreak 5 [.ref mo, .int x1, .int x2, .int x3] w (fun v w1 => v = .int 0 ∧ w1 = x_set w mo (oM 1 re)) := by
  refine x_Ct.of (cc := cX12_wouldBreak) (maxL := 8) (by decide) rfl (Nat.le_of_ble_eq_true rfl) ?_
  intro p e s m below meth c F
  refine x_aload_n F dX12_wouldBreak_0 rfl rfl ?_
  refine x_aload_n F dX12_wouldBreak_1 rfl rfl ?_
  refine x_iload_n F dX12_wouldBreak_2 rfl rfl ?_
  refine x_cVi1 (ci := 7) (C := RX12) (T := TX12) (N := 2) F dX12_wouldBreak_3 (x_gV q430 q431 q645 q5 q432) rfl (m_isNoFace hM _) ⟨rfl, rfl, rfl, xd_X12_isNoFace, ⟨Nat.le_of_ble_eq_true rfl, Nat.le_of_ble_eq_true rfl⟩, Nat.le_of_ble_eq_true rfl, Nat.le_of_ble_eq_true rfl⟩ rfl hM.1 (Nat.le_of_ble_eq_true rfl) (fun v1 w1 hp => ?_)
  obtain ⟨rfl, hw9⟩ := hp
  replace hw9 := hw9.symm
  subst hw9
  refine x_iconst (v := 1) F dX12_wouldBreak_6 (by decide) ?_
  refine x_cVi2 (ci := 7) (C := RX12) (T := TX12) (N := 2) F dX12_wouldBreak_7 (x_gV q401 q402 q640 q5 q403) rfl (m_start1 hM 1 (by decide)) ⟨rfl, rfl, rfl, xd_X12_start, ⟨Nat.le_of_ble_eq_true rfl, Nat.le_of_ble_eq_true rfl⟩, Nat.le_of_ble_eq_true rfl, Nat.le_of_ble_eq_true rfl⟩ rfl hM.1 (Nat.le_of_ble_eq_true rfl) (fun v1 w1 hp => ?_)
  obtain ⟨rfl, hw9⟩ := hp
  refine x_if_ne F dX12_wouldBreak_10 rfl (fun _ => ?_) (fun hc => absurd hc (by decide))
  refine x_iconst (v := 0) F dX12_wouldBreak_26 (by decide) ?_
  refine x_iret F rfl rfl dX12_wouldBreak_27 (Nat.le_of_ble_eq_true rfl) (Nat.le_of_ble_eq_true rfl) ?_
  exact ⟨_, rfl, rfl, hw9⟩
set_option maxRecDepth 100000 in
set_option maxHeartbeats 4000000 in
theorem m_target (hM : MR w (dA 99) mo re fa cl ad ca t n) (x1 : Int32) : Ci l D dA B yX12_target wX12_target 5 [.ref mo, .int x1] w (fun v w1 => v = .int 0 ∧ w1 = x_set w mo (oM 1 re)) := by
  refine x_Ct.of (cc := cX12_target) (maxL := 2) (by decide) rfl (Nat.le_of_ble_eq_true rfl) ?_
  intro p e s m below meth c F
  refine x_aload_n F dX12_target_0 rfl rfl ?_
  refine x_iload_n F dX12_target_1 rfl rfl ?_
  refine x_cVi1 (ci := 7) (C := RX12) (T := TX12) (N := 2) F dX12_target_2 (x_gV q531 q532 q650 q5 q533) rfl (m_isNoClient hM _) ⟨rfl, rfl, rfl, xd_X12_isNoClient, ⟨Nat.le_of_ble_eq_true rfl, Nat.le_of_ble_eq_true rfl⟩, Nat.le_of_ble_eq_true rfl, Nat.le_of_ble_eq_true rfl⟩ rfl hM.1 (Nat.le_of_ble_eq_true rfl) (fun v1 w1 hp => ?_)
  obtain ⟨rfl, hw9⟩ := hp
  refine x_if_eq F dX12_target_5 rfl (fun hc => absurd hc (by decide)) (fun _ => ?_)
  refine x_iconst (v := 0) F dX12_target_8 (by decide) ?_
  refine x_goto F dX12_target_9 rfl ?_
  refine x_iret F rfl rfl dX12_target_17 (Nat.le_of_ble_eq_true rfl) (Nat.le_of_ble_eq_true rfl) ?_
  exact ⟨_, rfl, rfl, hw9⟩
set_option maxRecDepth 100000 in
set_option maxHeartbeats 4000000 in
theorem m_goneBy (hM : MR w (dA 99) mo re fa cl ad ca t n) (x1 x2 x3 : Int32) : Ci l D dA B yX12_goneBy wX12_goneBy 5 [.ref mo, .int x1, .int x2, .int x3] w (fun v w1 => v = .int 0 ∧ w1 = x_set w mo (oM 1 re)) := by
  refine x_Ct.of (cc := cX12_goneBy) (maxL := 5) (by decide) rfl (Nat.le_of_ble_eq_true rfl) ?_
  intro p e s m below meth c F
  refine x_aload_n F dX12_goneBy_0 rfl rfl ?_
  refine x_iload_n F dX12_goneBy_1 rfl rfl ?_
  refine x_iload_n F dX12_goneBy_2 rfl rfl ?_
  refine x_cVi2 (ci := 7) (C := RX12) (T := TX12) (N := 2) F dX12_goneBy_3 (x_gV q477 q478 q646 q5 q479) rfl (m_isNoVersion hM _ _) ⟨rfl, rfl, rfl, xd_X12_isNoVersion, ⟨Nat.le_of_ble_eq_true rfl, Nat.le_of_ble_eq_true rfl⟩, Nat.le_of_ble_eq_true rfl, Nat.le_of_ble_eq_true rfl⟩ rfl hM.1 (Nat.le_of_ble_eq_true rfl) (fun v1 w1 hp => ?_)
  obtain ⟨rfl, hw9⟩ := hp
  refine x_if_ne F dX12_goneBy_6 rfl (fun _ => ?_) (fun hc => absurd hc (by decide))
  refine x_iconst (v := 0) F dX12_goneBy_57 (by decide) ?_
  refine x_iret F rfl rfl dX12_goneBy_58 (Nat.le_of_ble_eq_true rfl) (Nat.le_of_ble_eq_true rfl) ?_
  exact ⟨_, rfl, rfl, hw9⟩
end MDL
end
section
theorem dX12_versionsIn_0 : decode cX12_versionsIn 0 = .ok (.iconst 0, 1) := by decide +kernel
theorem dX12_versionsIn_1 : decode cX12_versionsIn 1 = .ok (.istore_n 2, 1) := by decide +kernel
theorem dX12_versionsIn_2 : decode cX12_versionsIn 2 = .ok (.aload_n 0, 1) := by decide +kernel
theorem dX12_versionsIn_3 : decode cX12_versionsIn 3 = .ok (.getfield 10, 3) := by decide +kernel
theorem dX12_versionsIn_6 : decode cX12_versionsIn 6 = .ok (.getfield 24, 3) := by decide +kernel
theorem dX12_versionsIn_9 : decode cX12_versionsIn 9 = .ok (.invokevirtual 84, 3) := by decide +kernel
theorem dX12_versionsIn_12 : decode cX12_versionsIn 12 = .ok (.astore_n 3, 1) := by decide +kernel
theorem dX12_versionsIn_13 : decode cX12_versionsIn 13 = .ok (.aload_n 3, 1) := by decide +kernel
theorem dX12_versionsIn_14 : decode cX12_versionsIn 14 = .ok (.invokeinterface 88 1, 5) := by decide +kernel
theorem dX12_versionsIn_19 : decode cX12_versionsIn 19 = .ok (.ifCond .eq 70, 3) := by decide +kernel
theorem dX12_versionsIn_89 : decode cX12_versionsIn 89 = .ok (.iload_n 2, 1) := by decide +kernel
theorem dX12_versionsIn_90 : decode cX12_versionsIn 90 = .ok (.ireturn, 1) := by decide +kernel
theorem dX12_callsThat_0 : decode cX12_callsThat 0 = .ok (.iconst 0, 1) := by decide +kernel
theorem dX12_callsThat_1 : decode cX12_callsThat 1 = .ok (.istore_n 3, 1) := by decide +kernel
theorem dX12_callsThat_2 : decode cX12_callsThat 2 = .ok (.aload_n 0, 1) := by decide +kernel
theorem dX12_callsThat_3 : decode cX12_callsThat 3 = .ok (.getfield 10, 3) := by decide +kernel
theorem dX12_callsThat_6 : decode cX12_callsThat 6 = .ok (.getfield 105, 3) := by decide +kernel
theorem dX12_callsThat_9 : decode cX12_callsThat 9 = .ok (.invokevirtual 84, 3) := by decide +kernel
theorem dX12_callsThat_12 : decode cX12_callsThat 12 = .ok (.astore 4, 2) := by decide +kernel
theorem dX12_callsThat_14 : decode cX12_callsThat 14 = .ok (.aload 4, 2) := by decide +kernel
theorem dX12_callsThat_16 : decode cX12_callsThat 16 = .ok (.invokeinterface 88 1, 5) := by decide +kernel
theorem dX12_callsThat_21 : decode cX12_callsThat 21 = .ok (.ifCond .eq 39, 3) := by decide +kernel
theorem dX12_callsThat_60 : decode cX12_callsThat 60 = .ok (.iload_n 3, 1) := by decide +kernel
theorem dX12_callsThat_61 : decode cX12_callsThat 61 = .ok (.ireturn, 1) := by decide +kernel
theorem dX12_count_0 : decode cX12_count 0 = .ok (.iload_n 1, 1) := by decide +kernel
theorem dX12_count_1 : decode cX12_count 1 = .ok (.tableswitch 127 0 9 #[55, 66, 72, 72, 72, 80, 91, 102, 113, 120], 55) := by decide +kernel
theorem dX12_count_56 : decode cX12_count 56 = .ok (.aload_n 0, 1) := by decide +kernel
theorem dX12_count_57 : decode cX12_count 57 = .ok (.getfield 10, 3) := by decide +kernel
theorem dX12_count_60 : decode cX12_count 60 = .ok (.getfield 24, 3) := by decide +kernel
theorem dX12_count_63 : decode cX12_count 63 = .ok (.invokevirtual 28, 3) := by decide +kernel
theorem dX12_count_66 : decode cX12_count 66 = .ok (.ireturn, 1) := by decide +kernel
theorem dX12_count_67 : decode cX12_count 67 = .ok (.aload_n 0, 1) := by decide +kernel
theorem dX12_count_68 : decode cX12_count 68 = .ok (.iconst (-1), 1) := by decide +kernel
theorem dX12_count_69 : decode cX12_count 69 = .ok (.invokevirtual 246, 3) := by decide +kernel
theorem dX12_count_72 : decode cX12_count 72 = .ok (.ireturn, 1) := by decide +kernel
theorem dX12_count_73 : decode cX12_count 73 = .ok (.aload_n 0, 1) := by decide +kernel
theorem dX12_count_74 : decode cX12_count 74 = .ok (.iload_n 1, 1) := by decide +kernel
theorem dX12_count_75 : decode cX12_count 75 = .ok (.iconst 2, 1) := by decide +kernel
theorem dX12_count_76 : decode cX12_count 76 = .ok (.isub, 1) := by decide +kernel
theorem dX12_count_77 : decode cX12_count 77 = .ok (.invokevirtual 246, 3) := by decide +kernel
theorem dX12_count_80 : decode cX12_count 80 = .ok (.ireturn, 1) := by decide +kernel
theorem dX12_count_81 : decode cX12_count 81 = .ok (.aload_n 0, 1) := by decide +kernel
theorem dX12_count_82 : decode cX12_count 82 = .ok (.getfield 10, 3) := by decide +kernel
theorem dX12_count_85 : decode cX12_count 85 = .ok (.getfield 53, 3) := by decide +kernel
theorem dX12_count_88 : decode cX12_count 88 = .ok (.invokevirtual 28, 3) := by decide +kernel
theorem dX12_count_91 : decode cX12_count 91 = .ok (.ireturn, 1) := by decide +kernel
theorem dX12_count_92 : decode cX12_count 92 = .ok (.aload_n 0, 1) := by decide +kernel
theorem dX12_count_93 : decode cX12_count 93 = .ok (.getfield 10, 3) := by decide +kernel
theorem dX12_count_96 : decode cX12_count 96 = .ok (.getfield 175, 3) := by decide +kernel
theorem dX12_count_99 : decode cX12_count 99 = .ok (.invokevirtual 28, 3) := by decide +kernel
theorem dX12_count_102 : decode cX12_count 102 = .ok (.ireturn, 1) := by decide +kernel
theorem dX12_count_103 : decode cX12_count 103 = .ok (.aload_n 0, 1) := by decide +kernel
theorem dX12_count_104 : decode cX12_count 104 = .ok (.getfield 10, 3) := by decide +kernel
theorem dX12_count_107 : decode cX12_count 107 = .ok (.getfield 105, 3) := by decide +kernel
theorem dX12_count_110 : decode cX12_count 110 = .ok (.invokevirtual 28, 3) := by decide +kernel
theorem dX12_count_113 : decode cX12_count 113 = .ok (.ireturn, 1) := by decide +kernel
theorem dX12_count_114 : decode cX12_count 114 = .ok (.aload_n 0, 1) := by decide +kernel
theorem dX12_count_115 : decode cX12_count 115 = .ok (.iconst 2, 1) := by decide +kernel
theorem dX12_count_116 : decode cX12_count 116 = .ok (.iconst 4, 1) := by decide +kernel
theorem dX12_count_117 : decode cX12_count 117 = .ok (.invokevirtual 249, 3) := by decide +kernel
theorem dX12_count_120 : decode cX12_count 120 = .ok (.ireturn, 1) := by decide +kernel
theorem dX12_count_121 : decode cX12_count 121 = .ok (.aload_n 0, 1) := by decide +kernel
theorem dX12_count_122 : decode cX12_count 122 = .ok (.iconst 1, 1) := by decide +kernel
theorem dX12_count_123 : decode cX12_count 123 = .ok (.iconst 1, 1) := by decide +kernel
theorem dX12_count_124 : decode cX12_count 124 = .ok (.invokevirtual 249, 3) := by decide +kernel
theorem dX12_count_127 : decode cX12_count 127 = .ok (.ireturn, 1) := by decide +kernel
theorem dX12_count_128 : decode cX12_count 128 = .ok (.aload_n 0, 1) := by decide +kernel
theorem dX12_count_129 : decode cX12_count 129 = .ok (.getfield 10, 3) := by decide +kernel
theorem dX12_count_132 : decode cX12_count 132 = .ok (.getfield 227, 3) := by decide +kernel
theorem dX12_count_135 : decode cX12_count 135 = .ok (.ireturn, 1) := by decide +kernel
theorem dX12_add_0 : decode cX12_add 0 = .ok (.lload_n 0, 1) := by decide +kernel
theorem dX12_add_1 : decode cX12_add 1 = .ok (.ldc2_w 282, 3) := by decide +kernel
theorem dX12_add_4 : decode cX12_add 4 = .ok (.lmul, 1) := by decide +kernel
theorem dX12_add_5 : decode cX12_add 5 = .ok (.lload_n 2, 1) := by decide +kernel
theorem dX12_add_6 : decode cX12_add 6 = .ok (.ladd, 1) := by decide +kernel
theorem dX12_add_7 : decode cX12_add 7 = .ok (.lreturn, 1) := by decide +kernel
theorem dX12_many_0 : decode cX12_many 0 = .ok (.aload_n 0, 1) := by decide +kernel
theorem dX12_many_1 : decode cX12_many 1 = .ok (.iload_n 1, 1) := by decide +kernel
theorem dX12_many_2 : decode cX12_many 2 = .ok (.iconst 0, 1) := by decide +kernel
theorem dX12_many_3 : decode cX12_many 3 = .ok (.bipush 10, 2) := by decide +kernel
theorem dX12_many_5 : decode cX12_many 5 = .ok (.invokestatic 34, 3) := by decide +kernel
theorem dX12_many_8 : decode cX12_many 8 = .ok (.ifCond .ne 7, 3) := by decide +kernel
theorem dX12_many_15 : decode cX12_many 15 = .ok (.iconst 0, 1) := by decide +kernel
theorem dX12_many_16 : decode cX12_many 16 = .ok (.iconst 1, 1) := by decide +kernel
theorem dX12_many_17 : decode cX12_many 17 = .ok (.invokevirtual 50, 3) := by decide +kernel
theorem dX12_many_20 : decode cX12_many 20 = .ok (.ifCond .eq 7, 3) := by decide +kernel
theorem dX12_many_27 : decode cX12_many 27 = .ok (.aload_n 0, 1) := by decide +kernel
theorem dX12_many_28 : decode cX12_many 28 = .ok (.iload_n 1, 1) := by decide +kernel
theorem dX12_many_29 : decode cX12_many 29 = .ok (.invokevirtual 252, 3) := by decide +kernel
theorem dX12_many_32 : decode cX12_many 32 = .ok (.ireturn, 1) := by decide +kernel
theorem dX12_many_11 : decode cX12_many 11 = .ok (.iconst 1, 1) := by decide +kernel
theorem dX12_many_12 : decode cX12_many 12 = .ok (.goto 4, 3) := by decide +kernel
theorem dX12_many_23 : decode cX12_many 23 = .ok (.iconst 0, 1) := by decide +kernel
theorem dX12_many_24 : decode cX12_many 24 = .ok (.goto 8, 3) := by decide +kernel
theorem dX12_pass_0 : decode cX12_pass 0 = .ok (.aload_n 0, 1) := by decide +kernel
theorem dX12_pass_1 : decode cX12_pass 1 = .ok (.iload_n 1, 1) := by decide +kernel
theorem dX12_pass_2 : decode cX12_pass 2 = .ok (.iconst 1, 1) := by decide +kernel
theorem dX12_pass_3 : decode cX12_pass 3 = .ok (.bipush 100, 2) := by decide +kernel
theorem dX12_pass_5 : decode cX12_pass 5 = .ok (.invokestatic 34, 3) := by decide +kernel
theorem dX12_pass_8 : decode cX12_pass 8 = .ok (.ifCond .ne 7, 3) := by decide +kernel
theorem dX12_pass_11 : decode cX12_pass 11 = .ok (.iconst 1, 1) := by decide +kernel
theorem dX12_pass_12 : decode cX12_pass 12 = .ok (.goto 4, 3) := by decide +kernel
theorem dX12_pass_16 : decode cX12_pass 16 = .ok (.iconst 1, 1) := by decide +kernel
theorem dX12_pass_17 : decode cX12_pass 17 = .ok (.invokevirtual 50, 3) := by decide +kernel
theorem dX12_pass_20 : decode cX12_pass 20 = .ok (.ifCond .eq 5, 3) := by decide +kernel
theorem dX12_pass_23 : decode cX12_pass 23 = .ok (.iconst 0, 1) := by decide +kernel
theorem dX12_pass_24 : decode cX12_pass 24 = .ok (.ireturn, 1) := by decide +kernel
theorem dX10_begin_0 : decode cX10_begin 0 = .ok (.aload_n 0, 1) := by decide +kernel
theorem dX10_begin_1 : decode cX10_begin 1 = .ok (.dup, 1) := by decide +kernel
theorem dX10_begin_2 : decode cX10_begin 2 = .ok (.getfield 50, 3) := by decide +kernel
theorem dX10_begin_5 : decode cX10_begin 5 = .ok (.iconst 1, 1) := by decide +kernel
theorem dX10_begin_6 : decode cX10_begin 6 = .ok (.iadd, 1) := by decide +kernel
theorem dX10_begin_7 : decode cX10_begin 7 = .ok (.putfield 50, 3) := by decide +kernel
theorem dX10_begin_10 : decode cX10_begin 10 = .ok (.iconst 0, 1) := by decide +kernel
theorem dX10_begin_11 : decode cX10_begin 11 = .ok (.istore_n 1, 1) := by decide +kernel
theorem dX10_begin_12 : decode cX10_begin 12 = .ok (.iconst 0, 1) := by decide +kernel
theorem dX10_begin_13 : decode cX10_begin 13 = .ok (.istore_n 2, 1) := by decide +kernel
theorem dX10_begin_14 : decode cX10_begin 14 = .ok (.iload_n 2, 1) := by decide +kernel
theorem dX10_begin_15 : decode cX10_begin 15 = .ok (.aload_n 0, 1) := by decide +kernel
theorem dX10_begin_16 : decode cX10_begin 16 = .ok (.getfield 12, 3) := by decide +kernel
theorem dX10_begin_19 : decode cX10_begin 19 = .ok (.invokevirtual 28, 3) := by decide +kernel
theorem dX10_begin_22 : decode cX10_begin 22 = .ok (.if_icmp .ge 44, 3) := by decide +kernel
theorem dX10_begin_66 : decode cX10_begin 66 = .ok (.iload_n 1, 1) := by decide +kernel
theorem dX10_begin_67 : decode cX10_begin 67 = .ok (.ireturn, 1) := by decide +kernel
theorem dX12_pass_29 : decode cX12_pass 29 = .ok (.iload_n 3, 1) := by decide +kernel
theorem dX12_pass_30 : decode cX12_pass 30 = .ok (.iload_n 1, 1) := by decide +kernel
theorem dX12_pass_31 : decode cX12_pass 31 = .ok (.if_icmp .ge 19, 3) := by decide +kernel
theorem dX12_pass_50 : decode cX12_pass 50 = .ok (.iload_n 2, 1) := by decide +kernel
theorem dX12_pass_51 : decode cX12_pass 51 = .ok (.ireturn, 1) := by decide +kernel
theorem dX12_pass_34 : decode cX12_pass 34 = .ok (.iload_n 2, 1) := by decide +kernel
theorem dX12_pass_35 : decode cX12_pass 35 = .ok (.aload_n 0, 1) := by decide +kernel
theorem dX12_pass_36 : decode cX12_pass 36 = .ok (.getfield 10, 3) := by decide +kernel
theorem dX12_pass_39 : decode cX12_pass 39 = .ok (.invokevirtual 210, 3) := by decide +kernel
theorem dX12_pass_42 : decode cX12_pass 42 = .ok (.iadd, 1) := by decide +kernel
theorem dX12_pass_43 : decode cX12_pass 43 = .ok (.istore_n 2, 1) := by decide +kernel
theorem dX12_pass_44 : decode cX12_pass 44 = .ok (.iinc 3 1, 3) := by decide +kernel
theorem dX12_pass_47 : decode cX12_pass 47 = .ok (.goto (-18), 3) := by decide +kernel
theorem dX12_pass_15 : decode cX12_pass 15 = .ok (.iconst 0, 1) := by decide +kernel
theorem dX12_pass_25 : decode cX12_pass 25 = .ok (.iconst 0, 1) := by decide +kernel
theorem dX12_pass_26 : decode cX12_pass 26 = .ok (.istore_n 2, 1) := by decide +kernel
theorem dX12_pass_27 : decode cX12_pass 27 = .ok (.iconst 0, 1) := by decide +kernel
theorem dX12_pass_28 : decode cX12_pass 28 = .ok (.istore_n 3, 1) := by decide +kernel
theorem dX12_servedShare_0 : decode cX12_servedShare 0 = .ok (.aload_n 0, 1) := by decide +kernel
theorem dX12_servedShare_1 : decode cX12_servedShare 1 = .ok (.iconst 0, 1) := by decide +kernel
theorem dX12_servedShare_2 : decode cX12_servedShare 2 = .ok (.putfield 16, 3) := by decide +kernel
theorem dX12_servedShare_5 : decode cX12_servedShare 5 = .ok (.aload_n 0, 1) := by decide +kernel
theorem dX12_servedShare_6 : decode cX12_servedShare 6 = .ok (.getfield 10, 3) := by decide +kernel
theorem dX12_servedShare_9 : decode cX12_servedShare 9 = .ok (.getfield 105, 3) := by decide +kernel
theorem dX12_servedShare_12 : decode cX12_servedShare 12 = .ok (.invokevirtual 255, 3) := by decide +kernel
theorem dX12_servedShare_15 : decode cX12_servedShare 15 = .ok (.ifCond .eq 7, 3) := by decide +kernel
theorem dX12_servedShare_18 : decode cX12_servedShare 18 = .ok (.dconst 1, 1) := by decide +kernel
theorem dX12_servedShare_19 : decode cX12_servedShare 19 = .ok (.goto 22, 3) := by decide +kernel
theorem dX12_servedShare_41 : decode cX12_servedShare 41 = .ok (.dreturn, 1) := by decide +kernel
theorem dX12_digest_11 : decode cX12_digest 11 = .ok (.iload_n 3, 1) := by decide +kernel
theorem dX12_digest_12 : decode cX12_digest 12 = .ok (.bipush 11, 2) := by decide +kernel
theorem dX12_digest_14 : decode cX12_digest 14 = .ok (.if_icmp .ge 20, 3) := by decide +kernel
theorem dX12_digest_34 : decode cX12_digest 34 = .ok (.iconst 0, 1) := by decide +kernel
theorem dX12_digest_35 : decode cX12_digest 35 = .ok (.istore_n 3, 1) := by decide +kernel
theorem dX12_digest_36 : decode cX12_digest 36 = .ok (.iload_n 3, 1) := by decide +kernel
theorem dX12_digest_37 : decode cX12_digest 37 = .ok (.aload_n 0, 1) := by decide +kernel
theorem dX12_digest_38 : decode cX12_digest 38 = .ok (.getfield 10, 3) := by decide +kernel
theorem dX12_digest_41 : decode cX12_digest 41 = .ok (.getfield 24, 3) := by decide +kernel
theorem dX12_digest_44 : decode cX12_digest 44 = .ok (.invokevirtual 28, 3) := by decide +kernel
theorem dX12_digest_47 : decode cX12_digest 47 = .ok (.if_icmp .ge 114, 3) := by decide +kernel
theorem dX12_digest_161 : decode cX12_digest 161 = .ok (.iconst 0, 1) := by decide +kernel
theorem dX12_digest_162 : decode cX12_digest 162 = .ok (.istore_n 3, 1) := by decide +kernel
theorem dX12_digest_163 : decode cX12_digest 163 = .ok (.iload_n 3, 1) := by decide +kernel
theorem dX12_digest_164 : decode cX12_digest 164 = .ok (.aload_n 0, 1) := by decide +kernel
theorem dX12_digest_165 : decode cX12_digest 165 = .ok (.getfield 10, 3) := by decide +kernel
theorem dX12_digest_168 : decode cX12_digest 168 = .ok (.getfield 53, 3) := by decide +kernel
theorem dX12_digest_171 : decode cX12_digest 171 = .ok (.invokevirtual 28, 3) := by decide +kernel
theorem dX12_digest_174 : decode cX12_digest 174 = .ok (.if_icmp .ge 188, 3) := by decide +kernel
theorem dX12_digest_362 : decode cX12_digest 362 = .ok (.lload_n 1, 1) := by decide +kernel
theorem dX12_digest_363 : decode cX12_digest 363 = .ok (.lreturn, 1) := by decide +kernel
theorem dX12_digest_17 : decode cX12_digest 17 = .ok (.lload_n 1, 1) := by decide +kernel
theorem dX12_digest_18 : decode cX12_digest 18 = .ok (.aload_n 0, 1) := by decide +kernel
theorem dX12_digest_19 : decode cX12_digest 19 = .ok (.iload_n 3, 1) := by decide +kernel
theorem dX12_digest_20 : decode cX12_digest 20 = .ok (.invokevirtual 252, 3) := by decide +kernel
theorem dX12_digest_23 : decode cX12_digest 23 = .ok (.i2l, 1) := by decide +kernel
theorem dX12_digest_24 : decode cX12_digest 24 = .ok (.invokestatic 286, 3) := by decide +kernel
theorem dX12_digest_27 : decode cX12_digest 27 = .ok (.lstore_n 1, 1) := by decide +kernel
theorem dX12_digest_28 : decode cX12_digest 28 = .ok (.iinc 3 1, 3) := by decide +kernel
theorem dX12_digest_31 : decode cX12_digest 31 = .ok (.goto (-20), 3) := by decide +kernel
theorem dX12_digest_0 : decode cX12_digest 0 = .ok (.aload_n 0, 1) := by decide +kernel
theorem dX12_digest_1 : decode cX12_digest 1 = .ok (.iconst 0, 1) := by decide +kernel
theorem dX12_digest_2 : decode cX12_digest 2 = .ok (.putfield 16, 3) := by decide +kernel
theorem dX12_digest_5 : decode cX12_digest 5 = .ok (.ldc2_w 284, 3) := by decide +kernel
theorem dX12_digest_8 : decode cX12_digest 8 = .ok (.lstore_n 1, 1) := by decide +kernel
theorem dX12_digest_9 : decode cX12_digest 9 = .ok (.iconst 0, 1) := by decide +kernel
theorem dX12_digest_10 : decode cX12_digest 10 = .ok (.istore_n 3, 1) := by decide +kernel
theorem dX12_open_0 : decode cX12_open 0 = .ok (.aload_n 0, 1) := by decide +kernel
theorem dX12_open_1 : decode cX12_open 1 = .ok (.aload_n 0, 1) := by decide +kernel
theorem dX12_open_2 : decode cX12_open 2 = .ok (.getfield 10, 3) := by decide +kernel
theorem dX12_open_5 : decode cX12_open 5 = .ok (.getfield 24, 3) := by decide +kernel
theorem dX12_open_8 : decode cX12_open 8 = .ok (.invokevirtual 28, 3) := by decide +kernel
theorem dX12_open_11 : decode cX12_open 11 = .ok (.iconst 4, 1) := by decide +kernel
theorem dX12_open_12 : decode cX12_open 12 = .ok (.if_icmp .ne 7, 3) := by decide +kernel
theorem dX12_open_19 : decode cX12_open 19 = .ok (.iconst 0, 1) := by decide +kernel
theorem dX12_open_20 : decode cX12_open 20 = .ok (.iconst 1, 1) := by decide +kernel
theorem dX12_open_21 : decode cX12_open 21 = .ok (.invokevirtual 50, 3) := by decide +kernel
theorem dX12_open_24 : decode cX12_open 24 = .ok (.ifCond .eq 5, 3) := by decide +kernel
theorem dX12_open_29 : decode cX12_open 29 = .ok (.aload_n 0, 1) := by decide +kernel
theorem dX12_open_30 : decode cX12_open 30 = .ok (.getfield 10, 3) := by decide +kernel
theorem dX12_open_33 : decode cX12_open 33 = .ok (.getfield 24, 3) := by decide +kernel
theorem dX12_open_36 : decode cX12_open 36 = .ok (.new 29, 3) := by decide +kernel
theorem dX12_open_39 : decode cX12_open 39 = .ok (.dup, 1) := by decide +kernel
theorem dX12_open_40 : decode cX12_open 40 = .ok (.invokespecial 71, 3) := by decide +kernel
theorem dX12_open_43 : decode cX12_open 43 = .ok (.invokevirtual 72, 3) := by decide +kernel
theorem dX12_open_46 : decode cX12_open 46 = .ok (.pop, 1) := by decide +kernel
theorem dX12_open_47 : decode cX12_open 47 = .ok (.aload_n 0, 1) := by decide +kernel
theorem dX12_open_48 : decode cX12_open 48 = .ok (.getfield 10, 3) := by decide +kernel
theorem dX12_open_51 : decode cX12_open 51 = .ok (.getfield 24, 3) := by decide +kernel
theorem dX12_open_54 : decode cX12_open 54 = .ok (.invokevirtual 28, 3) := by decide +kernel
theorem dX12_open_57 : decode cX12_open 57 = .ok (.iconst 1, 1) := by decide +kernel
theorem dX12_open_58 : decode cX12_open 58 = .ok (.isub, 1) := by decide +kernel
theorem dX12_open_59 : decode cX12_open 59 = .ok (.ireturn, 1) := by decide +kernel
theorem dX10_init_0 : decode cX10_init 0 = .ok (.aload_n 0, 1) := by decide +kernel
theorem dX10_init_1 : decode cX10_init 1 = .ok (.invokespecial 3, 3) := by decide +kernel
theorem dX10_init_4 : decode cX10_init 4 = .ok (.aload_n 0, 1) := by decide +kernel
theorem dX10_init_5 : decode cX10_init 5 = .ok (.new 9, 3) := by decide +kernel
theorem dX10_init_8 : decode cX10_init 8 = .ok (.dup, 1) := by decide +kernel
theorem dX10_init_9 : decode cX10_init 9 = .ok (.invokespecial 11, 3) := by decide +kernel
theorem dX10_init_12 : decode cX10_init 12 = .ok (.putfield 12, 3) := by decide +kernel
theorem dX10_init_15 : decode cX10_init 15 = .ok (.aload_n 0, 1) := by decide +kernel
theorem dX10_init_16 : decode cX10_init 16 = .ok (.new 9, 3) := by decide +kernel
theorem dX10_init_19 : decode cX10_init 19 = .ok (.dup, 1) := by decide +kernel
theorem dX10_init_20 : decode cX10_init 20 = .ok (.invokespecial 11, 3) := by decide +kernel
theorem dX10_init_23 : decode cX10_init 23 = .ok (.putfield 18, 3) := by decide +kernel
theorem dX10_init_26 : decode cX10_init 26 = .ok (.aload_n 0, 1) := by decide +kernel
theorem dX10_init_27 : decode cX10_init 27 = .ok (.new 9, 3) := by decide +kernel
theorem dX10_init_30 : decode cX10_init 30 = .ok (.dup, 1) := by decide +kernel
theorem dX10_init_31 : decode cX10_init 31 = .ok (.invokespecial 11, 3) := by decide +kernel
theorem dX10_init_34 : decode cX10_init 34 = .ok (.putfield 21, 3) := by decide +kernel
theorem dX10_init_37 : decode cX10_init 37 = .ok (.aload_n 0, 1) := by decide +kernel
theorem dX10_init_38 : decode cX10_init 38 = .ok (.new 9, 3) := by decide +kernel
theorem dX10_init_41 : decode cX10_init 41 = .ok (.dup, 1) := by decide +kernel
theorem dX10_init_42 : decode cX10_init 42 = .ok (.invokespecial 11, 3) := by decide +kernel
theorem dX10_init_45 : decode cX10_init 45 = .ok (.putfield 24, 3) := by decide +kernel
theorem dX10_init_48 : decode cX10_init 48 = .ok (.return_, 1) := by decide +kernel
theorem dX12_init_0 : decode cX12_init 0 = .ok (.aload_n 0, 1) := by decide +kernel
theorem dX12_init_1 : decode cX12_init 1 = .ok (.invokespecial 1, 3) := by decide +kernel
theorem dX12_init_4 : decode cX12_init 4 = .ok (.aload_n 0, 1) := by decide +kernel
theorem dX12_init_5 : decode cX12_init 5 = .ok (.new 7, 3) := by decide +kernel
theorem dX12_init_8 : decode cX12_init 8 = .ok (.dup, 1) := by decide +kernel
theorem dX12_init_9 : decode cX12_init 9 = .ok (.invokespecial 9, 3) := by decide +kernel
theorem dX12_init_12 : decode cX12_init 12 = .ok (.putfield 10, 3) := by decide +kernel
theorem dX12_init_15 : decode cX12_init 15 = .ok (.return_, 1) := by decide +kernel
/-! ===== the reference: the first call that a new registry answers ===== -/
section MD2
variable {l : Launch} {D : va_G} {dA : Nat → ClassId} {B : Nat} {w : xW} {mo re fa cl ad ca : Nat} {t n : Int32}
set_option maxRecDepth 100000 in
set_option maxHeartbeats 4000000 in
theorem m_versionsIn (hM : MR w (dA 99) mo re fa cl ad ca t n) (x : Int32) : x_Ci l D dA vwC1 tyL1 B yX12_versionsIn wX12_versionsIn (rmd 3 1 4) [.ref mo, .int x] w (fun v w1 => v = .int 0 ∧ w1 = w) 1 4 := by
  refine x_Ct.of (cc := cX12_versionsIn) (maxL := 7) (by decide) rfl (Nat.le_of_ble_eq_true rfl) ?_
  intro p e s m below meth c F
  refine x_iconst (v := 0) F dX12_versionsIn_0 (by decide) ?_
  refine x_istore_n F dX12_versionsIn_1 rfl (by decide) ?_
  refine x_aload_n F dX12_versionsIn_2 rfl rfl ?_
  refine x_get (ci := 7) (C := RX12) (T := TX12) (N := 2) (k := 1) F dX12_versionsIn_3 rfl inX12 (by decide) q386 rfl hM.1 rfl ?_
  refine x_get (ci := 6) (C := RX10) (T := TX10) (N := 5) (k := 0) F dX12_versionsIn_6 rfl inX10 (by decide) q371 rfl hM.2.1 rfl ?_
  refine x_cVi0 (ci := 1) (C := RJx4a65c) (T := TJx4a65c) (N := 3) F dX12_versionsIn_9 (x_gV q451 q452 q453 q9 q454) rfl (c_iter hM.2.2.1) ⟨rfl, rfl, rfl, xd_Jx4a65c_iterator_32c93, ⟨Nat.le_of_ble_eq_true rfl, Nat.le_of_ble_eq_true rfl⟩, Nat.le_of_ble_eq_true rfl, Nat.le_of_ble_eq_true rfl⟩ rfl hM.2.2.1 (Nat.le_of_ble_eq_true rfl) (fun v1 w1 hp => ?_)
  obtain ⟨it, hit, rfl, hw9⟩ := hp
  have h_it : w1 it = some (.inr (0, [.int 0, .int (-1), .int 0, .ref fa])) := by rw [hw9]; exact x_set_eq _ _ _
  have h_l : w1 fa = some (oE (dA 99)) := by rw [hw9, x_set_ne _ _ (w_neN hM.2.2.1 hit)]; exact hM.2.2.1
  refine x_astore_n F dX12_versionsIn_12 rfl (by decide) ?_
  refine x_aload_n F dX12_versionsIn_13 rfl rfl ?_
  refine x_callF (ci := 0) (C := RJx35411) (T := TJx35411) (N := 4) F dX12_versionsIn_14 (x_gF q469 q470 q471 q24 q472) (xfw (x_Fix.xt F)) (c_hasNext h_it h_l) rfl rfl rfl xd_It ⟨Nat.le_of_ble_eq_true rfl, Nat.le_of_ble_eq_true rfl⟩ ⟨Nat.le_of_ble_eq_true rfl, Nat.le_of_ble_eq_true rfl⟩ rfl h_it (Nat.le_of_ble_eq_true rfl) (fun v1 w1 hp => ?_)
  obtain ⟨rfl, hw8⟩ := hp
  replace hw8 := hw8.symm
  subst hw8
  refine x_if_eq F dX12_versionsIn_19 rfl (fun _ => ?_) (fun hc => absurd hc (by decide))
  refine x_iload_n F dX12_versionsIn_89 rfl rfl ?_
  refine x_forget (w2 := w) (x_less hit hw9) ?_
  refine x_iret F rfl rfl dX12_versionsIn_90 (Nat.le_of_ble_eq_true rfl) (Nat.le_of_ble_eq_true rfl) ?_
  exact ⟨_, rfl, rfl, rfl⟩
set_option maxRecDepth 100000 in
set_option maxHeartbeats 4000000 in
theorem m_callsThat (hM : MR w (dA 99) mo re fa cl ad ca t n) (x y : Int32) : x_Ci l D dA vwC1 tyL1 B yX12_callsThat wX12_callsThat (rmd 3 1 4) [.ref mo, .int x, .int y] w (fun v w1 => v = .int 0 ∧ w1 = w) 1 4 := by
  refine x_Ct.of (cc := cX12_callsThat) (maxL := 6) (by decide) rfl (Nat.le_of_ble_eq_true rfl) ?_
  intro p e s m below meth c F
  refine x_iconst (v := 0) F dX12_callsThat_0 (by decide) ?_
  refine x_istore_n F dX12_callsThat_1 rfl (by decide) ?_
  refine x_aload_n F dX12_callsThat_2 rfl rfl ?_
  refine x_get (ci := 7) (C := RX12) (T := TX12) (N := 2) (k := 1) F dX12_callsThat_3 rfl inX12 (by decide) q386 rfl hM.1 rfl ?_
  refine x_get (ci := 6) (C := RX10) (T := TX10) (N := 5) (k := 3) F dX12_callsThat_6 rfl inX10 (by decide) q377 rfl hM.2.1 rfl ?_
  refine x_cVi0 (ci := 1) (C := RJx4a65c) (T := TJx4a65c) (N := 3) F dX12_callsThat_9 (x_gV q451 q452 q453 q9 q454) rfl (c_iter hM.2.2.2.2.2) ⟨rfl, rfl, rfl, xd_Jx4a65c_iterator_32c93, ⟨Nat.le_of_ble_eq_true rfl, Nat.le_of_ble_eq_true rfl⟩, Nat.le_of_ble_eq_true rfl, Nat.le_of_ble_eq_true rfl⟩ rfl hM.2.2.2.2.2 (Nat.le_of_ble_eq_true rfl) (fun v1 w1 hp => ?_)
  obtain ⟨it, hit, rfl, hw9⟩ := hp
  have h_it : w1 it = some (.inr (0, [.int 0, .int (-1), .int 0, .ref ca])) := by rw [hw9]; exact x_set_eq _ _ _
  have h_l : w1 ca = some (oE (dA 99)) := by rw [hw9, x_set_ne _ _ (w_neN hM.2.2.2.2.2 hit)]; exact hM.2.2.2.2.2
  refine x_astore F dX12_callsThat_12 (by decide) ?_
  refine x_aload F dX12_callsThat_14 rfl ?_
  refine x_callF (ci := 0) (C := RJx35411) (T := TJx35411) (N := 4) F dX12_callsThat_16 (x_gF q469 q470 q471 q24 q472) (xfw (x_Fix.xt F)) (c_hasNext h_it h_l) rfl rfl rfl xd_It ⟨Nat.le_of_ble_eq_true rfl, Nat.le_of_ble_eq_true rfl⟩ ⟨Nat.le_of_ble_eq_true rfl, Nat.le_of_ble_eq_true rfl⟩ rfl h_it (Nat.le_of_ble_eq_true rfl) (fun v1 w1 hp => ?_)
  obtain ⟨rfl, hw8⟩ := hp
  replace hw8 := hw8.symm
  subst hw8
  refine x_if_eq F dX12_callsThat_21 rfl (fun _ => ?_) (fun hc => absurd hc (by decide))
  refine x_iload_n F dX12_callsThat_60 rfl rfl ?_
  refine x_forget (w2 := w) (x_less hit hw9) ?_
  refine x_iret F rfl rfl dX12_callsThat_61 (Nat.le_of_ble_eq_true rfl) (Nat.le_of_ble_eq_true rfl) ?_
  exact ⟨_, rfl, rfl, rfl⟩
set_option maxRecDepth 100000 in
set_option maxHeartbeats 4000000 in
theorem m_count (hM : MR w (dA 99) mo re fa cl ad ca t 0) {k : Nat} (ht : k ≤ 10) : x_Ci l D dA vwC1 tyL1 B yX12_count wX12_count (rmd 4 1 4) [.ref mo, .int (nI k)] w (fun v w1 => v = .int 0 ∧ w1 = w) 1 4 := by
  refine x_Ct.of (cc := cX12_count) (maxL := 2) (by decide) rfl (Nat.le_of_ble_eq_true rfl) ?_
  intro p e s m below meth c F
  rcases le10 ht with rfl | rfl | rfl | rfl | rfl | rfl | rfl | rfl | rfl | rfl | rfl
  · refine x_iload_n F dX12_count_0 rfl rfl ?_
    refine x_tableIn (off := 55) (tgt := 56) F dX12_count_1 (by decide) (by decide) rfl rfl ?_
    refine x_aload_n F dX12_count_56 rfl rfl ?_
    refine x_get (ci := 7) (C := RX12) (T := TX12) (N := 2) (k := 1) F dX12_count_57 rfl inX12 (by decide) q386 rfl hM.1 rfl ?_
    refine x_get (ci := 6) (C := RX10) (T := TX10) (N := 5) (k := 0) F dX12_count_60 rfl inX10 (by decide) q371 rfl hM.2.1 rfl ?_
    refine x_cVi0 (ci := 1) (C := RJx4a65c) (T := TJx4a65c) (N := 3) F dX12_count_63 (x_gV q397 q398 q399 q9 q400) rfl (c_size hM.2.2.1) ⟨rfl, rfl, rfl, xd_Jx4a65c_size_8abf5, ⟨Nat.le_of_ble_eq_true rfl, Nat.le_of_ble_eq_true rfl⟩, Nat.le_of_ble_eq_true rfl, Nat.le_of_ble_eq_true rfl⟩ rfl hM.2.2.1 (Nat.le_of_ble_eq_true rfl) (fun v1 w1 hp => ?_)
    obtain ⟨rfl, hw9⟩ := hp
    replace hw9 := hw9.symm
    subst hw9
    refine x_iret F rfl rfl dX12_count_66 (Nat.le_of_ble_eq_true rfl) (Nat.le_of_ble_eq_true rfl) ?_
    exact ⟨_, rfl, rfl, rfl⟩
  · refine x_iload_n F dX12_count_0 rfl rfl ?_
    refine x_tableIn (off := 66) (tgt := 67) F dX12_count_1 (by decide) (by decide) rfl rfl ?_
    refine x_aload_n F dX12_count_67 rfl rfl ?_
    refine x_iconst (v := (-1)) F dX12_count_68 (by decide) ?_
    refine x_cVi1 (ci := 7) (C := RX12) (T := TX12) (N := 2) F dX12_count_69 (x_gV q588 q589 q653 q5 q590) rfl (m_versionsIn hM _) ⟨rfl, rfl, rfl, xd_X12_versionsIn, ⟨Nat.le_of_ble_eq_true rfl, Nat.le_of_ble_eq_true rfl⟩, Nat.le_of_ble_eq_true rfl, Nat.le_of_ble_eq_true rfl⟩ rfl hM.1 (Nat.le_of_ble_eq_true rfl) (fun v1 w1 hp => ?_)
    obtain ⟨rfl, hw9⟩ := hp
    replace hw9 := hw9.symm
    subst hw9
    refine x_iret F rfl rfl dX12_count_72 (Nat.le_of_ble_eq_true rfl) (Nat.le_of_ble_eq_true rfl) ?_
    exact ⟨_, rfl, rfl, rfl⟩
  · refine x_iload_n F dX12_count_0 rfl rfl ?_
    refine x_tableIn (off := 72) (tgt := 73) F dX12_count_1 (by decide) (by decide) rfl rfl ?_
    refine x_aload_n F dX12_count_73 rfl rfl ?_
    refine x_iload_n F dX12_count_74 rfl rfl ?_
    refine x_iconst (v := 2) F dX12_count_75 (by decide) ?_
    refine x_isub F dX12_count_76 ?_
    refine x_cVi1 (ci := 7) (C := RX12) (T := TX12) (N := 2) F dX12_count_77 (x_gV q588 q589 q653 q5 q590) rfl (m_versionsIn hM _) ⟨rfl, rfl, rfl, xd_X12_versionsIn, ⟨Nat.le_of_ble_eq_true rfl, Nat.le_of_ble_eq_true rfl⟩, Nat.le_of_ble_eq_true rfl, Nat.le_of_ble_eq_true rfl⟩ rfl hM.1 (Nat.le_of_ble_eq_true rfl) (fun v1 w1 hp => ?_)
    obtain ⟨rfl, hw9⟩ := hp
    replace hw9 := hw9.symm
    subst hw9
    refine x_iret F rfl rfl dX12_count_80 (Nat.le_of_ble_eq_true rfl) (Nat.le_of_ble_eq_true rfl) ?_
    exact ⟨_, rfl, rfl, rfl⟩
  · refine x_iload_n F dX12_count_0 rfl rfl ?_
    refine x_tableIn (off := 72) (tgt := 73) F dX12_count_1 (by decide) (by decide) rfl rfl ?_
    refine x_aload_n F dX12_count_73 rfl rfl ?_
    refine x_iload_n F dX12_count_74 rfl rfl ?_
    refine x_iconst (v := 2) F dX12_count_75 (by decide) ?_
    refine x_isub F dX12_count_76 ?_
    refine x_cVi1 (ci := 7) (C := RX12) (T := TX12) (N := 2) F dX12_count_77 (x_gV q588 q589 q653 q5 q590) rfl (m_versionsIn hM _) ⟨rfl, rfl, rfl, xd_X12_versionsIn, ⟨Nat.le_of_ble_eq_true rfl, Nat.le_of_ble_eq_true rfl⟩, Nat.le_of_ble_eq_true rfl, Nat.le_of_ble_eq_true rfl⟩ rfl hM.1 (Nat.le_of_ble_eq_true rfl) (fun v1 w1 hp => ?_)
    obtain ⟨rfl, hw9⟩ := hp
    replace hw9 := hw9.symm
    subst hw9
    refine x_iret F rfl rfl dX12_count_80 (Nat.le_of_ble_eq_true rfl) (Nat.le_of_ble_eq_true rfl) ?_
    exact ⟨_, rfl, rfl, rfl⟩
  · refine x_iload_n F dX12_count_0 rfl rfl ?_
    refine x_tableIn (off := 72) (tgt := 73) F dX12_count_1 (by decide) (by decide) rfl rfl ?_
    refine x_aload_n F dX12_count_73 rfl rfl ?_
    refine x_iload_n F dX12_count_74 rfl rfl ?_
    refine x_iconst (v := 2) F dX12_count_75 (by decide) ?_
    refine x_isub F dX12_count_76 ?_
    refine x_cVi1 (ci := 7) (C := RX12) (T := TX12) (N := 2) F dX12_count_77 (x_gV q588 q589 q653 q5 q590) rfl (m_versionsIn hM _) ⟨rfl, rfl, rfl, xd_X12_versionsIn, ⟨Nat.le_of_ble_eq_true rfl, Nat.le_of_ble_eq_true rfl⟩, Nat.le_of_ble_eq_true rfl, Nat.le_of_ble_eq_true rfl⟩ rfl hM.1 (Nat.le_of_ble_eq_true rfl) (fun v1 w1 hp => ?_)
    obtain ⟨rfl, hw9⟩ := hp
    replace hw9 := hw9.symm
    subst hw9
    refine x_iret F rfl rfl dX12_count_80 (Nat.le_of_ble_eq_true rfl) (Nat.le_of_ble_eq_true rfl) ?_
    exact ⟨_, rfl, rfl, rfl⟩
  · refine x_iload_n F dX12_count_0 rfl rfl ?_
    refine x_tableIn (off := 80) (tgt := 81) F dX12_count_1 (by decide) (by decide) rfl rfl ?_
    refine x_aload_n F dX12_count_81 rfl rfl ?_
    refine x_get (ci := 7) (C := RX12) (T := TX12) (N := 2) (k := 1) F dX12_count_82 rfl inX12 (by decide) q386 rfl hM.1 rfl ?_
    refine x_get (ci := 6) (C := RX10) (T := TX10) (N := 5) (k := 1) F dX12_count_85 rfl inX10 (by decide) q373 rfl hM.2.1 rfl ?_
    refine x_cVi0 (ci := 1) (C := RJx4a65c) (T := TJx4a65c) (N := 3) F dX12_count_88 (x_gV q397 q398 q399 q9 q400) rfl (c_size hM.2.2.2.1) ⟨rfl, rfl, rfl, xd_Jx4a65c_size_8abf5, ⟨Nat.le_of_ble_eq_true rfl, Nat.le_of_ble_eq_true rfl⟩, Nat.le_of_ble_eq_true rfl, Nat.le_of_ble_eq_true rfl⟩ rfl hM.2.2.2.1 (Nat.le_of_ble_eq_true rfl) (fun v1 w1 hp => ?_)
    obtain ⟨rfl, hw9⟩ := hp
    replace hw9 := hw9.symm
    subst hw9
    refine x_iret F rfl rfl dX12_count_91 (Nat.le_of_ble_eq_true rfl) (Nat.le_of_ble_eq_true rfl) ?_
    exact ⟨_, rfl, rfl, rfl⟩
  · refine x_iload_n F dX12_count_0 rfl rfl ?_
    refine x_tableIn (off := 91) (tgt := 92) F dX12_count_1 (by decide) (by decide) rfl rfl ?_
    refine x_aload_n F dX12_count_92 rfl rfl ?_
    refine x_get (ci := 7) (C := RX12) (T := TX12) (N := 2) (k := 1) F dX12_count_93 rfl inX12 (by decide) q386 rfl hM.1 rfl ?_
    refine x_get (ci := 6) (C := RX10) (T := TX10) (N := 5) (k := 2) F dX12_count_96 rfl inX10 (by decide) q375 rfl hM.2.1 rfl ?_
    refine x_cVi0 (ci := 1) (C := RJx4a65c) (T := TJx4a65c) (N := 3) F dX12_count_99 (x_gV q397 q398 q399 q9 q400) rfl (c_size hM.2.2.2.2.1) ⟨rfl, rfl, rfl, xd_Jx4a65c_size_8abf5, ⟨Nat.le_of_ble_eq_true rfl, Nat.le_of_ble_eq_true rfl⟩, Nat.le_of_ble_eq_true rfl, Nat.le_of_ble_eq_true rfl⟩ rfl hM.2.2.2.2.1 (Nat.le_of_ble_eq_true rfl) (fun v1 w1 hp => ?_)
    obtain ⟨rfl, hw9⟩ := hp
    replace hw9 := hw9.symm
    subst hw9
    refine x_iret F rfl rfl dX12_count_102 (Nat.le_of_ble_eq_true rfl) (Nat.le_of_ble_eq_true rfl) ?_
    exact ⟨_, rfl, rfl, rfl⟩
  · refine x_iload_n F dX12_count_0 rfl rfl ?_
    refine x_tableIn (off := 102) (tgt := 103) F dX12_count_1 (by decide) (by decide) rfl rfl ?_
    refine x_aload_n F dX12_count_103 rfl rfl ?_
    refine x_get (ci := 7) (C := RX12) (T := TX12) (N := 2) (k := 1) F dX12_count_104 rfl inX12 (by decide) q386 rfl hM.1 rfl ?_
    refine x_get (ci := 6) (C := RX10) (T := TX10) (N := 5) (k := 3) F dX12_count_107 rfl inX10 (by decide) q377 rfl hM.2.1 rfl ?_
    refine x_cVi0 (ci := 1) (C := RJx4a65c) (T := TJx4a65c) (N := 3) F dX12_count_110 (x_gV q397 q398 q399 q9 q400) rfl (c_size hM.2.2.2.2.2) ⟨rfl, rfl, rfl, xd_Jx4a65c_size_8abf5, ⟨Nat.le_of_ble_eq_true rfl, Nat.le_of_ble_eq_true rfl⟩, Nat.le_of_ble_eq_true rfl, Nat.le_of_ble_eq_true rfl⟩ rfl hM.2.2.2.2.2 (Nat.le_of_ble_eq_true rfl) (fun v1 w1 hp => ?_)
    obtain ⟨rfl, hw9⟩ := hp
    replace hw9 := hw9.symm
    subst hw9
    refine x_iret F rfl rfl dX12_count_113 (Nat.le_of_ble_eq_true rfl) (Nat.le_of_ble_eq_true rfl) ?_
    exact ⟨_, rfl, rfl, rfl⟩
  · refine x_iload_n F dX12_count_0 rfl rfl ?_
    refine x_tableIn (off := 113) (tgt := 114) F dX12_count_1 (by decide) (by decide) rfl rfl ?_
    refine x_aload_n F dX12_count_114 rfl rfl ?_
    refine x_iconst (v := 2) F dX12_count_115 (by decide) ?_
    refine x_iconst (v := 4) F dX12_count_116 (by decide) ?_
    refine x_cVi2 (ci := 7) (C := RX12) (T := TX12) (N := 2) F dX12_count_117 (x_gV q591 q592 q654 q5 q593) rfl (m_callsThat hM _ _) ⟨rfl, rfl, rfl, xd_X12_callsThat, ⟨Nat.le_of_ble_eq_true rfl, Nat.le_of_ble_eq_true rfl⟩, Nat.le_of_ble_eq_true rfl, Nat.le_of_ble_eq_true rfl⟩ rfl hM.1 (Nat.le_of_ble_eq_true rfl) (fun v1 w1 hp => ?_)
    obtain ⟨rfl, hw9⟩ := hp
    replace hw9 := hw9.symm
    subst hw9
    refine x_iret F rfl rfl dX12_count_120 (Nat.le_of_ble_eq_true rfl) (Nat.le_of_ble_eq_true rfl) ?_
    exact ⟨_, rfl, rfl, rfl⟩
  · refine x_iload_n F dX12_count_0 rfl rfl ?_
    refine x_tableIn (off := 120) (tgt := 121) F dX12_count_1 (by decide) (by decide) rfl rfl ?_
    refine x_aload_n F dX12_count_121 rfl rfl ?_
    refine x_iconst (v := 1) F dX12_count_122 (by decide) ?_
    refine x_iconst (v := 1) F dX12_count_123 (by decide) ?_
    refine x_cVi2 (ci := 7) (C := RX12) (T := TX12) (N := 2) F dX12_count_124 (x_gV q591 q592 q654 q5 q593) rfl (m_callsThat hM _ _) ⟨rfl, rfl, rfl, xd_X12_callsThat, ⟨Nat.le_of_ble_eq_true rfl, Nat.le_of_ble_eq_true rfl⟩, Nat.le_of_ble_eq_true rfl, Nat.le_of_ble_eq_true rfl⟩ rfl hM.1 (Nat.le_of_ble_eq_true rfl) (fun v1 w1 hp => ?_)
    obtain ⟨rfl, hw9⟩ := hp
    replace hw9 := hw9.symm
    subst hw9
    refine x_iret F rfl rfl dX12_count_127 (Nat.le_of_ble_eq_true rfl) (Nat.le_of_ble_eq_true rfl) ?_
    exact ⟨_, rfl, rfl, rfl⟩
  · refine x_iload_n F dX12_count_0 rfl rfl ?_
    refine x_tableOut (tgt := 128) F dX12_count_1 (by decide) rfl ?_
    refine x_aload_n F dX12_count_128 rfl rfl ?_
    refine x_get (ci := 7) (C := RX12) (T := TX12) (N := 2) (k := 1) F dX12_count_129 rfl inX12 (by decide) q386 rfl hM.1 rfl ?_
    refine x_get (ci := 6) (C := RX10) (T := TX10) (N := 5) (k := 4) F dX12_count_132 rfl inX10 (by decide) q379 rfl hM.2.1 rfl ?_
    refine x_iret F rfl rfl dX12_count_135 (Nat.le_of_ble_eq_true rfl) (Nat.le_of_ble_eq_true rfl) ?_
    exact ⟨_, rfl, rfl, rfl⟩
set_option maxRecDepth 100000 in
set_option maxHeartbeats 4000000 in
theorem m_add (d v : Int64) : Ci l D dA B yX12_add wX12_add 0 [.long d, .long v] w (fun v1 w1 => v1 = .long (d * 31 + v) ∧ w1 = w) := by
  refine x_Ct.of (cc := cX12_add) (maxL := 4) (by decide) rfl (Nat.le_of_ble_eq_true rfl) ?_
  intro p e s m below meth c F
  refine x_lload_n F dX12_add_0 rfl rfl ?_
  refine x_ldc2 F dX12_add_1 q632 ?_
  refine x_lmul F dX12_add_4 ?_
  refine x_lload_n F dX12_add_5 rfl rfl ?_
  refine x_ladd F dX12_add_6 ?_
  refine x_lret F rfl dX12_add_7 (Nat.le_of_ble_eq_true rfl) (Nat.le_of_ble_eq_true rfl) ?_
  exact ⟨_, rfl, rfl, rfl⟩
set_option maxRecDepth 100000 in
set_option maxHeartbeats 4000000 in
theorem m_many (hM : MR w (dA 99) mo re fa cl ad ca t 0) {k : Nat} (hk : k ≤ 10) : x_Ci l D dA vwC1 tyL1 B yX12_many wX12_many (rmd 5 1 4) [.ref mo, .int (nI k)] w (fun v w1 => v = .int 0 ∧ w1 = x_set w mo (oM 0 re)) 1 4 := by
  refine x_Ct.of (cc := cX12_many) (maxL := 2) (by decide) rfl (Nat.le_of_ble_eq_true rfl) ?_
  intro p e s m below meth c F
  refine x_aload_n F dX12_many_0 rfl rfl ?_
  refine x_iload_n F dX12_many_1 rfl rfl ?_
  refine x_iconst (v := 0) F dX12_many_2 (by decide) ?_
  refine x_bipush (v := 10) F dX12_many_3 (by decide) ?_
  refine x_cSi3 F dX12_many_5 (x_gS q433 q434 q5 q435) (m_isIn _ 0 10) ⟨rfl, rfl, rfl, xd_X12_isIn, ⟨Nat.le_of_ble_eq_true rfl, Nat.le_of_ble_eq_true rfl⟩, Nat.le_of_ble_eq_true rfl, Nat.le_of_ble_eq_true rfl⟩ (Nat.le_of_ble_eq_true rfl) (fun v1 w1 hp => ?_)
  obtain ⟨rfl, hw8⟩ := hp
  replace hw8 := hw8.symm
  subst hw8
  rw [f_isIn_t (v := nI k) (lo := 0) (hi := 10) (nI_pos (by omega)) ((nI_leI (b := 10) (by omega) (by decide)).mpr hk)]
  refine x_if_ne F dX12_many_8 rfl (fun _ => ?_) (fun hc => absurd hc (by decide))
  refine x_iconst (v := 0) F dX12_many_15 (by decide) ?_
  refine x_iconst (v := 1) F dX12_many_16 (by decide) ?_
  refine x_cVi2 (ci := 7) (C := RX12) (T := TX12) (N := 2) F dX12_many_17 (x_gV q401 q402 q640 q5 q403) rfl (m_start0 hM 1) ⟨rfl, rfl, rfl, xd_X12_start, ⟨Nat.le_of_ble_eq_true rfl, Nat.le_of_ble_eq_true rfl⟩, Nat.le_of_ble_eq_true rfl, Nat.le_of_ble_eq_true rfl⟩ rfl hM.1 (Nat.le_of_ble_eq_true rfl) (fun v1 w1 hp => ?_)
  obtain ⟨rfl, hw9⟩ := hp
  have hN : MR w1 (dA 99) mo re fa cl ad ca 0 0 := by rw [hw9]; exact hM.setT 0
  refine x_if_eq F dX12_many_20 rfl (fun _ => ?_) (fun hc => absurd hc (by decide))
  refine x_aload_n F dX12_many_27 rfl rfl ?_
  refine x_iload_n F dX12_many_28 rfl rfl ?_
  refine x_cVi1 (ci := 7) (C := RX12) (T := TX12) (N := 2) F dX12_many_29 (x_gV q585 q586 q652 q5 q587) rfl (m_count hN hk) ⟨rfl, rfl, rfl, xd_X12_count, ⟨Nat.le_of_ble_eq_true rfl, Nat.le_of_ble_eq_true rfl⟩, Nat.le_of_ble_eq_true rfl, Nat.le_of_ble_eq_true rfl⟩ rfl hN.1 (Nat.le_of_ble_eq_true rfl) (fun v1 w1 hp => ?_)
  obtain ⟨rfl, hw8⟩ := hp
  replace hw8 := hw8.symm
  subst hw8
  refine x_iret F rfl rfl dX12_many_32 (Nat.le_of_ble_eq_true rfl) (Nat.le_of_ble_eq_true rfl) ?_
  exact ⟨_, rfl, rfl, hw9⟩
set_option maxRecDepth 100000 in
set_option maxHeartbeats 4000000 in
theorem m_manyX (hM : MR w (dA 99) mo re fa cl ad ca t n) (x : Int32) (h : x < 0 ∨ ¬ x ≤ 10) : Ci l D dA B yX12_many wX12_many 5 [.ref mo, .int x] w (fun v w1 => v = .int 0 ∧ w1 = x_set w mo (oM 1 re)) := by
  refine x_Ct.of (cc := cX12_many) (maxL := 2) (by decide) rfl (Nat.le_of_ble_eq_true rfl) ?_
  intro p e s m below meth c F
  refine x_aload_n F dX12_many_0 rfl rfl ?_
  refine x_iload_n F dX12_many_1 rfl rfl ?_
  refine x_iconst (v := 0) F dX12_many_2 (by decide) ?_
  refine x_bipush (v := 10) F dX12_many_3 (by decide) ?_
  refine x_cSi3 F dX12_many_5 (x_gS q433 q434 q5 q435) (m_isIn _ 0 10) ⟨rfl, rfl, rfl, xd_X12_isIn, ⟨Nat.le_of_ble_eq_true rfl, Nat.le_of_ble_eq_true rfl⟩, Nat.le_of_ble_eq_true rfl, Nat.le_of_ble_eq_true rfl⟩ (Nat.le_of_ble_eq_true rfl) (fun v1 w1 hp => ?_)
  obtain ⟨rfl, hw8⟩ := hp
  replace hw8 := hw8.symm
  subst hw8
  rw [f_isIn_f h]
  refine x_if_ne F dX12_many_8 rfl (fun hc => absurd hc (by decide)) (fun _ => ?_)
  refine x_iconst (v := 1) F dX12_many_11 (by decide) ?_
  refine x_goto F dX12_many_12 rfl ?_
  refine x_iconst (v := 1) F dX12_many_16 (by decide) ?_
  refine x_cVi2 (ci := 7) (C := RX12) (T := TX12) (N := 2) F dX12_many_17 (x_gV q401 q402 q640 q5 q403) rfl (m_start1 hM 1 (by decide)) ⟨rfl, rfl, rfl, xd_X12_start, ⟨Nat.le_of_ble_eq_true rfl, Nat.le_of_ble_eq_true rfl⟩, Nat.le_of_ble_eq_true rfl, Nat.le_of_ble_eq_true rfl⟩ rfl hM.1 (Nat.le_of_ble_eq_true rfl) (fun v1 w1 hp => ?_)
  obtain ⟨rfl, hw9⟩ := hp
  refine x_if_eq F dX12_many_20 rfl (fun hc => absurd hc (by decide)) (fun _ => ?_)
  refine x_iconst (v := 0) F dX12_many_23 (by decide) ?_
  refine x_goto F dX12_many_24 rfl ?_
  refine x_iret F rfl rfl dX12_many_32 (Nat.le_of_ble_eq_true rfl) (Nat.le_of_ble_eq_true rfl) ?_
  exact ⟨_, rfl, rfl, hw9⟩
set_option maxRecDepth 100000 in
set_option maxHeartbeats 4000000 in
theorem m_passX (hM : MR w (dA 99) mo re fa cl ad ca t n) (x : Int32) (h : x < 1 ∨ ¬ x ≤ 100) : Ci l D dA B yX12_pass wX12_pass 5 [.ref mo, .int x] w (fun v w1 => v = .int 0 ∧ w1 = x_set w mo (oM 1 re)) := by
  refine x_Ct.of (cc := cX12_pass) (maxL := 4) (by decide) rfl (Nat.le_of_ble_eq_true rfl) ?_
  intro p e s m below meth c F
  refine x_aload_n F dX12_pass_0 rfl rfl ?_
  refine x_iload_n F dX12_pass_1 rfl rfl ?_
  refine x_iconst (v := 1) F dX12_pass_2 (by decide) ?_
  refine x_bipush (v := 100) F dX12_pass_3 (by decide) ?_
  refine x_cSi3 F dX12_pass_5 (x_gS q433 q434 q5 q435) (m_isIn _ 1 100) ⟨rfl, rfl, rfl, xd_X12_isIn, ⟨Nat.le_of_ble_eq_true rfl, Nat.le_of_ble_eq_true rfl⟩, Nat.le_of_ble_eq_true rfl, Nat.le_of_ble_eq_true rfl⟩ (Nat.le_of_ble_eq_true rfl) (fun v1 w1 hp => ?_)
  obtain ⟨rfl, hw8⟩ := hp
  replace hw8 := hw8.symm
  subst hw8
  rw [f_isIn_f h]
  refine x_if_ne F dX12_pass_8 rfl (fun hc => absurd hc (by decide)) (fun _ => ?_)
  refine x_iconst (v := 1) F dX12_pass_11 (by decide) ?_
  refine x_goto F dX12_pass_12 rfl ?_
  refine x_iconst (v := 1) F dX12_pass_16 (by decide) ?_
  refine x_cVi2 (ci := 7) (C := RX12) (T := TX12) (N := 2) F dX12_pass_17 (x_gV q401 q402 q640 q5 q403) rfl (m_start1 hM 1 (by decide)) ⟨rfl, rfl, rfl, xd_X12_start, ⟨Nat.le_of_ble_eq_true rfl, Nat.le_of_ble_eq_true rfl⟩, Nat.le_of_ble_eq_true rfl, Nat.le_of_ble_eq_true rfl⟩ rfl hM.1 (Nat.le_of_ble_eq_true rfl) (fun v1 w1 hp => ?_)
  obtain ⟨rfl, hw9⟩ := hp
  refine x_if_eq F dX12_pass_20 rfl (fun hc => absurd hc (by decide)) (fun _ => ?_)
  refine x_iconst (v := 0) F dX12_pass_23 (by decide) ?_
  refine x_iret F rfl rfl dX12_pass_24 (Nat.le_of_ble_eq_true rfl) (Nat.le_of_ble_eq_true rfl) ?_
  exact ⟨_, rfl, rfl, hw9⟩
-- an hour
set_option maxRecDepth 100000 in
set_option maxHeartbeats 4000000 in
theorem m_begin (hM : MR w (dA 99) mo re fa cl ad ca t n) : Ci l D dA B yX10_begin wX10_begin 2 [.ref re] w (fun v w1 => v = .int 0 ∧ w1 = x_set w re (oR fa cl ad ca (n + 1))) := by
  refine x_Ct.of (cc := cX10_begin) (maxL := 4) (by decide) rfl (Nat.le_of_ble_eq_true rfl) ?_
  intro p e s m below meth c F
  refine x_aload_n F dX10_begin_0 rfl rfl ?_
  refine x_dup F dX10_begin_1 rfl ?_
  refine x_get (ci := 6) (C := RX10) (T := TX10) (N := 5) (k := 4) F dX10_begin_2 rfl inX10 (by decide) q378 rfl hM.2.1 rfl ?_
  refine x_iconst (v := 1) F dX10_begin_5 (by decide) ?_
  refine x_iadd F dX10_begin_6 ?_
  refine x_put (ci := 6) (C := RX10) (T := TX10) (N := 5) (k := 4) F dX10_begin_7 rfl inX10 tyX10 tyX10_ok nmX10 (by decide) q378 rfl rfl hM.2.1 (Nat.le_of_ble_eq_true rfl) rfl rfl ?_
  refine x_wd (fun w2 hw2 => ?_)
  have hN : MR w2 (dA 99) mo re fa cl ad ca t (n + 1) := by rw [hw2]; exact hM.setN (n + 1)
  refine x_iconst (v := 0) F dX10_begin_10 (by decide) ?_
  refine x_istore_n F dX10_begin_11 rfl (by decide) ?_
  refine x_iconst (v := 0) F dX10_begin_12 (by decide) ?_
  refine x_istore_n F dX10_begin_13 rfl (by decide) ?_
  refine x_iload_n F dX10_begin_14 rfl rfl ?_
  refine x_aload_n F dX10_begin_15 rfl rfl ?_
  refine x_get (ci := 6) (C := RX10) (T := TX10) (N := 5) (k := 0) F dX10_begin_16 rfl inX10 (by decide) q370 rfl hN.2.1 rfl ?_
  refine x_cVi0 (ci := 1) (C := RJx4a65c) (T := TJx4a65c) (N := 3) F dX10_begin_19 (x_gV q485 q398 q399 q9 q400) rfl (c_size hN.2.2.1) ⟨rfl, rfl, rfl, xd_Jx4a65c_size_8abf5, ⟨Nat.le_of_ble_eq_true rfl, Nat.le_of_ble_eq_true rfl⟩, Nat.le_of_ble_eq_true rfl, Nat.le_of_ble_eq_true rfl⟩ rfl hN.2.2.1 (Nat.le_of_ble_eq_true rfl) (fun v1 w1 hp => ?_)
  obtain ⟨rfl, hw9⟩ := hp
  replace hw9 := hw9.symm
  subst hw9
  refine x_icmp_ge F dX10_begin_22 rfl (fun _ => ?_) (fun hc => absurd hc (by decide))
  refine x_iload_n F dX10_begin_66 rfl rfl ?_
  refine x_iret F rfl rfl dX10_begin_67 (Nat.le_of_ble_eq_true rfl) (Nat.le_of_ble_eq_true rfl) ?_
  exact ⟨_, rfl, rfl, hw2⟩
set_option maxRecDepth 100000 in
set_option maxHeartbeats 4000000 in
theorem m_pass (hM : MR w (dA 99) mo re fa cl ad ca t n) {k0 : Nat} (ha : 1 ≤ k0) (hb : k0 ≤ 100) : Ci l D dA B yX12_pass wX12_pass 5 [.ref mo, .int (nI k0)] w (fun v w1 => v = .int 0 ∧ w1 mo = some (oM 0 re) ∧ ∀ b x, w b = some x → ¬ b = mo → ¬ b = re → w1 b = some x) := by
  refine x_Ct.of (cc := cX12_pass) (maxL := 4) (by decide) rfl (Nat.le_of_ble_eq_true rfl) ?_
  intro p e s m below meth c F
  have loop : ∀ n1 k, k + n1 = k0 → ∀ n wz, MR wz (dA 99) mo re fa cl ad ca 0 n → (∀ b x, w b = some x → ¬ b = mo → ¬ b = re → wz b = some x) → X p l e (rmd 5 0 0) s m #[.ref mo, .int (nI k0)] below meth c (MQ below (x_Q D dA vwC1 tyL1 B (fun r w1 => ∃ v, r = some v ∧ (v = .int 0 ∧ w1 mo = some (oM 0 re) ∧ ∀ b x, w b = some x → ¬ b = mo → ¬ b = re → w1 b = some x))) #[.ref mo, .int (nI k0)] s 0 0 (fun q => B ≤ q)) D dA vwC1 B 4 0 0 29 [(0, .ref mo), (1, .int (nI k0)), (2, .int 0), (3, .int (nI k))] [] wz := by
    intro n1
    induction n1 with
    | zero =>
      intro k hk1 n wz hN ho
      obtain rfl : k = k0 := by omega
      refine x_iload_n F dX12_pass_29 rfl rfl ?_
      refine x_iload_n F dX12_pass_30 rfl rfl ?_
      refine x_icmp_ge F dX12_pass_31 rfl (fun h31 => ?_) (fun hc => absurd hc (fun q => q (Int32.le_refl _)))
      refine x_iload_n F dX12_pass_50 rfl rfl ?_
      refine x_iret F rfl rfl dX12_pass_51 (Nat.le_of_ble_eq_true rfl) (Nat.le_of_ble_eq_true rfl) ?_
      exact ⟨_, rfl, rfl, hN.1, ho⟩
    | succ n1 ih =>
      intro k hk1 n wz hN ho
      refine x_iload_n F dX12_pass_29 rfl rfl ?_
      refine x_iload_n F dX12_pass_30 rfl rfl ?_
      refine x_icmp_ge F dX12_pass_31 rfl (fun hc => absurd hc (nI_ge (by omega) (by omega))) (fun h31 => ?_)
      refine x_iload_n F dX12_pass_34 rfl rfl ?_
      refine x_aload_n F dX12_pass_35 rfl rfl ?_
      refine x_get (ci := 7) (C := RX12) (T := TX12) (N := 2) (k := 1) F dX12_pass_36 rfl inX12 (by decide) q386 rfl hN.1 rfl ?_
      refine x_cVi0 (ci := 6) (C := RX10) (T := TX10) (N := 5) F dX12_pass_39 (x_gV q554 q555 q556 q6 q557) rfl (m_begin hN) ⟨rfl, rfl, rfl, xd_X10_begin, ⟨Nat.le_of_ble_eq_true rfl, Nat.le_of_ble_eq_true rfl⟩, Nat.le_of_ble_eq_true rfl, Nat.le_of_ble_eq_true rfl⟩ rfl hN.2.1 (Nat.le_of_ble_eq_true rfl) (fun v1 w1 hp => ?_)
      obtain ⟨rfl, hw9⟩ := hp
      refine x_iadd F dX12_pass_42 ?_
      refine x_istore_n F dX12_pass_43 rfl (by decide) ?_
      refine x_iincN F dX12_pass_44 (by decide) rfl (by decide) ?_
      refine x_goto F dX12_pass_47 rfl ?_
      exact x_lk (ih (k + 1) (by omega) _ _ (by rw [hw9]; exact hN.setN _) (fun b x hx h1 h2 => by rw [hw9, x_set_ne _ _ h2]; exact ho b x hx h1 h2)) ⟨rfl, rfl, rfl, rfl, trivial⟩
  refine x_aload_n F dX12_pass_0 rfl rfl ?_
  refine x_iload_n F dX12_pass_1 rfl rfl ?_
  refine x_iconst (v := 1) F dX12_pass_2 (by decide) ?_
  refine x_bipush (v := 100) F dX12_pass_3 (by decide) ?_
  refine x_cSi3 F dX12_pass_5 (x_gS q433 q434 q5 q435) (m_isIn _ 1 100) ⟨rfl, rfl, rfl, xd_X12_isIn, ⟨Nat.le_of_ble_eq_true rfl, Nat.le_of_ble_eq_true rfl⟩, Nat.le_of_ble_eq_true rfl, Nat.le_of_ble_eq_true rfl⟩ (Nat.le_of_ble_eq_true rfl) (fun v1 w1 hp => ?_)
  obtain ⟨rfl, hw8⟩ := hp
  replace hw8 := hw8.symm
  subst hw8
  rw [f_isIn_t (v := nI k0) (lo := 1) (hi := 100) (nI_nlt (b := 1) ha (by omega)) ((nI_leI (b := 100) (by omega) (by decide)).mpr hb)]
  refine x_if_ne F dX12_pass_8 rfl (fun _ => ?_) (fun hc => absurd hc (by decide))
  refine x_iconst (v := 0) F dX12_pass_15 (by decide) ?_
  refine x_iconst (v := 1) F dX12_pass_16 (by decide) ?_
  refine x_cVi2 (ci := 7) (C := RX12) (T := TX12) (N := 2) F dX12_pass_17 (x_gV q401 q402 q640 q5 q403) rfl (m_start0 hM 1) ⟨rfl, rfl, rfl, xd_X12_start, ⟨Nat.le_of_ble_eq_true rfl, Nat.le_of_ble_eq_true rfl⟩, Nat.le_of_ble_eq_true rfl, Nat.le_of_ble_eq_true rfl⟩ rfl hM.1 (Nat.le_of_ble_eq_true rfl) (fun v1 w1 hp => ?_)
  obtain ⟨rfl, hw9⟩ := hp
  have hN : MR w1 (dA 99) mo re fa cl ad ca 0 n := by rw [hw9]; exact hM.setT 0
  refine x_if_eq F dX12_pass_20 rfl (fun _ => ?_) (fun hc => absurd hc (by decide))
  refine x_iconst (v := 0) F dX12_pass_25 (by decide) ?_
  refine x_istore_n F dX12_pass_26 rfl (by decide) ?_
  refine x_iconst (v := 0) F dX12_pass_27 (by decide) ?_
  refine x_istore_n F dX12_pass_28 rfl (by decide) ?_
  exact x_lk (loop k0 0 (by omega) n _ hN (fun b x hx h1 _ => by rw [hw9, x_set_ne _ _ h1]; exact hx)) ⟨rfl, rfl, rfl, rfl, trivial⟩
set_option maxRecDepth 100000 in
set_option maxHeartbeats 4000000 in
theorem m_share (hM : MR w (dA 99) mo re fa cl ad ca t n) : Ci l D dA B yX12_servedShare wX12_servedShare 4 [.ref mo] w (fun v w1 => v = .double FP.dconst1 ∧ w1 = x_set w mo (oM 0 re)) := by
  refine x_Ct.of (cc := cX12_servedShare) (maxL := 1) (by decide) rfl (Nat.le_of_ble_eq_true rfl) ?_
  intro p e s m below meth c F
  refine x_aload_n F dX12_servedShare_0 rfl rfl ?_
  refine x_iconst (v := 0) F dX12_servedShare_1 (by decide) ?_
  refine x_put (ci := 7) (C := RX12) (T := TX12) (N := 2) (k := 0) F dX12_servedShare_2 rfl inX12 tyX12 tyX12_ok nmX12 (by decide) q385 rfl rfl hM.1 (Nat.le_of_ble_eq_true rfl) rfl rfl ?_
  refine x_wd (fun w2 hw2 => ?_)
  have hN : MR w2 (dA 99) mo re fa cl ad ca 0 n := by rw [hw2]; exact hM.setT 0
  refine x_aload_n F dX12_servedShare_5 rfl rfl ?_
  refine x_get (ci := 7) (C := RX12) (T := TX12) (N := 2) (k := 1) F dX12_servedShare_6 rfl inX12 (by decide) q386 rfl hN.1 rfl ?_
  refine x_get (ci := 6) (C := RX10) (T := TX10) (N := 5) (k := 3) F dX12_servedShare_9 rfl inX10 (by decide) q377 rfl hN.2.1 rfl ?_
  refine x_cVi0 (ci := 1) (C := RJx4a65c) (T := TJx4a65c) (N := 3) F dX12_servedShare_12 (x_gV q598 q599 q600 q9 q601) rfl (c_isEmpty hN.2.2.2.2.2) ⟨rfl, rfl, rfl, xd_Jx4a65c_isEmpty_aae02, ⟨Nat.le_of_ble_eq_true rfl, Nat.le_of_ble_eq_true rfl⟩, Nat.le_of_ble_eq_true rfl, Nat.le_of_ble_eq_true rfl⟩ rfl hN.2.2.2.2.2 (Nat.le_of_ble_eq_true rfl) (fun v1 w1 hp => ?_)
  obtain ⟨rfl, hw9⟩ := hp
  replace hw9 := hw9.symm
  subst hw9
  refine x_if_eq F dX12_servedShare_15 rfl (fun hc => absurd hc (by decide)) (fun _ => ?_)
  refine x_dconst1 F dX12_servedShare_18 ?_
  refine x_goto F dX12_servedShare_19 rfl ?_
  refine x_dret F rfl dX12_servedShare_41 (Nat.le_of_ble_eq_true rfl) (Nat.le_of_ble_eq_true rfl) ?_
  exact ⟨_, rfl, rfl, hw2⟩
set_option maxRecDepth 100000 in
set_option maxHeartbeats 4000000 in
theorem m_digest (hM : MR w (dA 99) mo re fa cl ad ca t 0) : x_Ci l D dA vwC1 tyL1 B yX12_digest wX12_digest (rmd 6 11 44) [.ref mo] w (fun v w1 => v = .long (f_dg 11 58106) ∧ w1 = x_set w mo (oM 0 re)) 11 44 := by
  refine x_Ct.of (cc := cX12_digest) (maxL := 7) (by decide) rfl (Nat.le_of_ble_eq_true rfl) ?_
  intro p e s m below meth c F
  obtain ⟨wg, hwg⟩ : ∃ wg, wg = x_set w mo (oM 0 re) := ⟨_, rfl⟩
  have hN : MR wg (dA 99) mo re fa cl ad ca 0 0 := by rw [hwg]; exact hM.setT 0
  have loop1 : ∀ n1 k, k + n1 = 11 → ∀ d, f_dg n1 d = f_dg 11 58106 → X p l e (rmd 6 11 44) s m #[.ref mo] below meth c (MQ below (x_Q D dA vwC1 tyL1 B (fun r w1 => ∃ v, r = some v ∧ (v = .long (f_dg 11 58106) ∧ w1 = x_set w mo (oM 0 re)))) #[.ref mo] s 11 44 (fun q => B ≤ q)) D dA vwC1 B 7 k (4 * k) 11 [(0, .ref mo), (1, .long d), (3, .int (nI k))] [] wg := by
    intro n1
    induction n1 with
    | zero =>
      intro k hk1 d hd
      obtain rfl : k = 11 := by omega
      refine x_iload_n F dX12_digest_11 rfl rfl ?_
      refine x_bipush (v := 11) F dX12_digest_12 (by decide) ?_
      refine x_icmp_ge F dX12_digest_14 rfl (fun h14 => ?_) (fun hc => absurd hc (fun q => q (by decide)))
      refine x_iconst (v := 0) F dX12_digest_34 (by decide) ?_
      refine x_istore_n F dX12_digest_35 rfl (by decide) ?_
      refine x_iload_n F dX12_digest_36 rfl rfl ?_
      refine x_aload_n F dX12_digest_37 rfl rfl ?_
      refine x_get (ci := 7) (C := RX12) (T := TX12) (N := 2) (k := 1) F dX12_digest_38 rfl inX12 (by decide) q386 rfl hN.1 rfl ?_
      refine x_get (ci := 6) (C := RX10) (T := TX10) (N := 5) (k := 0) F dX12_digest_41 rfl inX10 (by decide) q371 rfl hN.2.1 rfl ?_
      refine x_cVi0 (ci := 1) (C := RJx4a65c) (T := TJx4a65c) (N := 3) F dX12_digest_44 (x_gV q397 q398 q399 q9 q400) rfl (c_size hN.2.2.1) ⟨rfl, rfl, rfl, xd_Jx4a65c_size_8abf5, ⟨Nat.le_of_ble_eq_true rfl, Nat.le_of_ble_eq_true rfl⟩, Nat.le_of_ble_eq_true rfl, Nat.le_of_ble_eq_true rfl⟩ rfl hN.2.2.1 (Nat.le_of_ble_eq_true rfl) (fun v1 w1 hp => ?_)
      obtain ⟨rfl, hw9⟩ := hp
      replace hw9 := hw9.symm
      subst hw9
      refine x_icmp_ge F dX12_digest_47 rfl (fun _ => ?_) (fun hc => absurd hc (by decide))
      refine x_iconst (v := 0) F dX12_digest_161 (by decide) ?_
      refine x_istore_n F dX12_digest_162 rfl (by decide) ?_
      refine x_iload_n F dX12_digest_163 rfl rfl ?_
      refine x_aload_n F dX12_digest_164 rfl rfl ?_
      refine x_get (ci := 7) (C := RX12) (T := TX12) (N := 2) (k := 1) F dX12_digest_165 rfl inX12 (by decide) q386 rfl hN.1 rfl ?_
      refine x_get (ci := 6) (C := RX10) (T := TX10) (N := 5) (k := 1) F dX12_digest_168 rfl inX10 (by decide) q373 rfl hN.2.1 rfl ?_
      refine x_cVi0 (ci := 1) (C := RJx4a65c) (T := TJx4a65c) (N := 3) F dX12_digest_171 (x_gV q397 q398 q399 q9 q400) rfl (c_size hN.2.2.2.1) ⟨rfl, rfl, rfl, xd_Jx4a65c_size_8abf5, ⟨Nat.le_of_ble_eq_true rfl, Nat.le_of_ble_eq_true rfl⟩, Nat.le_of_ble_eq_true rfl, Nat.le_of_ble_eq_true rfl⟩ rfl hN.2.2.2.1 (Nat.le_of_ble_eq_true rfl) (fun v1 w1 hp => ?_)
      obtain ⟨rfl, hw9⟩ := hp
      replace hw9 := hw9.symm
      subst hw9
      refine x_icmp_ge F dX12_digest_174 rfl (fun _ => ?_) (fun hc => absurd hc (by decide))
      refine x_lload_n F dX12_digest_362 rfl rfl ?_
      refine x_lret F rfl dX12_digest_363 (Nat.le_of_ble_eq_true rfl) (Nat.le_of_ble_eq_true rfl) ?_
      exact ⟨_, rfl, congrArg Value.long hd, hwg⟩
    | succ n1 ih =>
      intro k hk1 d hd
      refine x_iload_n F dX12_digest_11 rfl rfl ?_
      refine x_bipush (v := 11) F dX12_digest_12 (by decide) ?_
      refine x_icmp_ge F dX12_digest_14 rfl (fun hc => absurd hc (nI_ge (b := 11) (by omega) (by decide))) (fun h14 => ?_)
      refine x_lload_n F dX12_digest_17 rfl rfl ?_
      refine x_aload_n F dX12_digest_18 rfl rfl ?_
      refine x_iload_n F dX12_digest_19 rfl rfl ?_
      refine x_cVi1 (ci := 7) (C := RX12) (T := TX12) (N := 2) F dX12_digest_20 (x_gV q585 q586 q652 q5 q587) rfl (m_count hN (k := k) (by omega)) ⟨rfl, rfl, rfl, xd_X12_count, ⟨Nat.le_of_ble_eq_true rfl, Nat.le_of_ble_eq_true rfl⟩, (by show k + 1 ≤ 11; omega), (by show 4 * k + 4 ≤ 44; omega)⟩ rfl hN.1 (Nat.le_of_ble_eq_true rfl) (fun v1 w1 hp => ?_)
      obtain ⟨rfl, hw9⟩ := hp
      replace hw9 := hw9.symm
      subst hw9
      refine x_i2l F dX12_digest_23 ?_
      refine x_cSi2 F dX12_digest_24 (x_gS q629 q630 q5 q631) (m_add _ _) ⟨rfl, rfl, rfl, xd_X12_add, ⟨Nat.le_of_ble_eq_true rfl, Nat.le_of_ble_eq_true rfl⟩, (by show k + 1 + 0 ≤ 11; omega), (by show 4 * k + 4 + 0 ≤ 44; omega)⟩ (Nat.le_of_ble_eq_true rfl) (fun v1 w1 hp => ?_)
      obtain ⟨rfl, hw9⟩ := hp
      replace hw9 := hw9.symm
      subst hw9
      refine x_lstore_n F dX12_digest_27 rfl (by decide) ?_
      refine x_iincN F dX12_digest_28 (by decide) rfl (by decide) ?_
      refine x_goto F dX12_digest_31 rfl ?_
      exact x_widen (by omega) (by omega) (x_lk (ih (k + 1) (by omega) _ hd) ⟨rfl, rfl, rfl, trivial⟩)
  refine x_aload_n F dX12_digest_0 rfl rfl ?_
  refine x_iconst (v := 0) F dX12_digest_1 (by decide) ?_
  refine x_put (ci := 7) (C := RX12) (T := TX12) (N := 2) (k := 0) F dX12_digest_2 rfl inX12 tyX12 tyX12_ok nmX12 (by decide) q385 rfl rfl hM.1 (Nat.le_of_ble_eq_true rfl) rfl rfl ?_
  refine x_wd (fun w2 hw2 => ?_)
  obtain rfl : w2 = wg := hw2.trans hwg.symm
  refine x_ldc2 F dX12_digest_5 q628 ?_
  refine x_lstore_n F dX12_digest_8 rfl (by decide) ?_
  refine x_iconst (v := 0) F dX12_digest_9 (by decide) ?_
  refine x_istore_n F dX12_digest_10 rfl (by decide) ?_
  exact x_lk (loop1 11 0 (by omega) 58106 rfl) ⟨rfl, rfl, rfl, trivial⟩
theorem MR.fresh {w : xW} {e mo re fa cl ad ca a : Nat} {t n : Int32} (h : MR w e mo re fa cl ad ca t n) (ha : w a = none) (y : xE) : MR (x_set w a y) e mo re fa cl ad ca t n := by
  obtain ⟨h0, h1, h2, h3, h4, h5⟩ := h
  exact ⟨by rw [x_set_ne _ _ (w_neN h0 ha)]; exact h0, by rw [x_set_ne _ _ (w_neN h1 ha)]; exact h1, by rw [x_set_ne _ _ (w_neN h2 ha)]; exact h2, by rw [x_set_ne _ _ (w_neN h3 ha)]; exact h3, by rw [x_set_ne _ _ (w_neN h4 ha)]; exact h4, by rw [x_set_ne _ _ (w_neN h5 ha)]; exact h5⟩
set_option maxRecDepth 100000 in
set_option maxHeartbeats 4000000 in
theorem m_open (hM : MR w (dA 99) mo re fa cl ad ca t n) : x_Ci l D dA vwC1 tyL1 B yX12_open wX12_open (rmd 7 2 13) [.ref mo] w (fun v w1 => v = .int 0 ∧ w1 mo = some (oM 0 re) ∧ ∀ b x, w b = some x → ¬ b = mo → ¬ b = fa → w1 b = some x) 2 13 := by
  refine x_Ct.of (cc := cX12_open) (maxL := 1) (by decide) rfl (Nat.le_of_ble_eq_true rfl) ?_
  intro p e s m below meth c F
  refine x_aload_n F dX12_open_0 rfl rfl ?_
  refine x_aload_n F dX12_open_1 rfl rfl ?_
  refine x_get (ci := 7) (C := RX12) (T := TX12) (N := 2) (k := 1) F dX12_open_2 rfl inX12 (by decide) q386 rfl hM.1 rfl ?_
  refine x_get (ci := 6) (C := RX10) (T := TX10) (N := 5) (k := 0) F dX12_open_5 rfl inX10 (by decide) q371 rfl hM.2.1 rfl ?_
  refine x_cVi0 (ci := 1) (C := RJx4a65c) (T := TJx4a65c) (N := 3) F dX12_open_8 (x_gV q397 q398 q399 q9 q400) rfl (c_size hM.2.2.1) ⟨rfl, rfl, rfl, xd_Jx4a65c_size_8abf5, ⟨Nat.le_of_ble_eq_true rfl, Nat.le_of_ble_eq_true rfl⟩, Nat.le_of_ble_eq_true rfl, Nat.le_of_ble_eq_true rfl⟩ rfl hM.2.2.1 (Nat.le_of_ble_eq_true rfl) (fun v1 w1 hp => ?_)
  obtain ⟨rfl, hw9⟩ := hp
  replace hw9 := hw9.symm
  subst hw9
  refine x_iconst (v := 4) F dX12_open_11 (by decide) ?_
  refine x_icmp_ne F dX12_open_12 rfl (fun _ => ?_) (fun hc => absurd hc (by decide))
  refine x_iconst (v := 0) F dX12_open_19 (by decide) ?_
  refine x_iconst (v := 1) F dX12_open_20 (by decide) ?_
  refine x_cVi2 (ci := 7) (C := RX12) (T := TX12) (N := 2) F dX12_open_21 (x_gV q401 q402 q640 q5 q403) rfl (m_start0 hM 1) ⟨rfl, rfl, rfl, xd_X12_start, ⟨Nat.le_of_ble_eq_true rfl, Nat.le_of_ble_eq_true rfl⟩, Nat.le_of_ble_eq_true rfl, Nat.le_of_ble_eq_true rfl⟩ rfl hM.1 (Nat.le_of_ble_eq_true rfl) (fun v1 w1 hp => ?_)
  obtain ⟨rfl, hw9⟩ := hp
  obtain ⟨w1', hw1'⟩ : ∃ w1', w1' = w1 := ⟨_, rfl⟩
  rw [← hw1']
  rw [hw9] at hw1'
  replace hw9 := hw1'
  have hN : MR w1' (dA 99) mo re fa cl ad ca 0 n := by rw [hw9]; exact hM.setT 0
  refine x_if_eq F dX12_open_24 rfl (fun _ => ?_) (fun hc => absurd hc (by decide))
  refine x_aload_n F dX12_open_29 rfl rfl ?_
  refine x_get (ci := 7) (C := RX12) (T := TX12) (N := 2) (k := 1) F dX12_open_30 rfl inX12 (by decide) q386 rfl hN.1 rfl ?_
  refine x_get (ci := 6) (C := RX10) (T := TX10) (N := 5) (k := 0) F dX12_open_33 rfl inX10 (by decide) q371 rfl hN.2.1 rfl ?_
  refine x_new (ci := 1) (C := RJx4a65c) (T := TJx4a65c) (N := 3) (fs := [.int 0, .null, .int 0]) F dX12_open_36 rfl inJx4a65c tyJx4a65c tyJx4a65c_ok q407 q348 q9 (fun j hj => by rcases (show j = 0 ∨ j = 1 ∨ j = 2 by omega) with rfl | rfl | rfl <;> rfl) (Nat.le_of_ble_eq_true rfl) (Nat.le_of_ble_eq_true rfl) (fun nl hnl => ?_)
  refine x_wd (fun w2 hw2 => ?_)
  have h_n : w2 nl = some (.inr (1, [.int 0, .null, .int 0])) := by rw [hw2]; exact x_set_eq _ _ _
  refine x_dup F dX12_open_39 rfl ?_
  refine x_cI0 F dX12_open_40 (x_gI q351) q9 q408 q350 rfl (c_li_init h_n) ⟨rfl, rfl, rfl, xd_Jx4a65c_init_da8c8, ⟨Nat.le_of_ble_eq_true rfl, Nat.le_of_ble_eq_true rfl⟩, Nat.le_of_ble_eq_true rfl, Nat.le_of_ble_eq_true rfl⟩ (Nat.le_of_ble_eq_true rfl) (fun w1 hp => ?_)
  obtain ⟨w3, hw3⟩ : ∃ w3, w3 = w1 := ⟨_, rfl⟩
  rw [← hw3]
  rw [hp] at hw3
  have e3 : w3 = x_set w1' nl (oE (dA 99)) := by rw [hw3, hw2, x_set_set]
  have hN3 : MR w3 (dA 99) mo re fa cl ad ca 0 n := by rw [e3]; exact hN.fresh hnl _
  have h_n3 : w3 nl = some (oE (dA 99)) := by rw [e3]; exact x_set_eq _ _ _
  have ne_nl : ¬ nl = fa := fun q => w_neN hN.2.2.1 hnl q.symm
  have ne_mo : ¬ mo = fa := w_ne hN.1 hN.2.2.1 ne71
  have ne_re : ¬ re = fa := w_ne hN.2.1 hN.2.2.1 ne61
  refine x_cVi1 (ci := 1) (C := RJx4a65c) (T := TJx4a65c) (N := 3) F dX12_open_43 (x_gV q409 q410 q411 q9 q412) rfl (c_add hN3.2.2.1 h_n3 ne_nl) ⟨rfl, rfl, rfl, xd_Jx4a65c_add_9ea2d, ⟨Nat.le_of_ble_eq_true rfl, Nat.le_of_ble_eq_true rfl⟩, Nat.le_of_ble_eq_true rfl, Nat.le_of_ble_eq_true rfl⟩ rfl hN3.2.2.1 (Nat.le_of_ble_eq_true rfl) (fun v1 w1 hp => ?_)
  obtain ⟨rfl, ⟨kk, h1⟩, h2⟩ := hp
  refine x_pop F dX12_open_46 rfl ?_
  refine x_aload_n F dX12_open_47 rfl rfl ?_
  refine x_get (ci := 7) (C := RX12) (T := TX12) (N := 2) (k := 1) F dX12_open_48 rfl inX12 (by decide) q386 rfl (h2 _ _ hN3.1 ne_mo) rfl ?_
  refine x_get (ci := 6) (C := RX10) (T := TX10) (N := 5) (k := 0) F dX12_open_51 rfl inX10 (by decide) q371 rfl (h2 _ _ hN3.2.1 ne_re) rfl ?_
  refine x_cVi0 (ci := 1) (C := RJx4a65c) (T := TJx4a65c) (N := 3) F dX12_open_54 (x_gV q397 q398 q399 q9 q400) rfl (c_size h1) ⟨rfl, rfl, rfl, xd_Jx4a65c_size_8abf5, ⟨Nat.le_of_ble_eq_true rfl, Nat.le_of_ble_eq_true rfl⟩, Nat.le_of_ble_eq_true rfl, Nat.le_of_ble_eq_true rfl⟩ rfl h1 (Nat.le_of_ble_eq_true rfl) (fun v1 w1 hp => ?_)
  obtain ⟨rfl, hw9⟩ := hp
  replace hw9 := hw9.symm
  subst hw9
  refine x_iconst (v := 1) F dX12_open_57 (by decide) ?_
  refine x_isub F dX12_open_58 ?_
  refine x_iret F rfl rfl dX12_open_59 (Nat.le_of_ble_eq_true rfl) (Nat.le_of_ble_eq_true rfl) ?_
  refine ⟨_, rfl, rfl, h2 _ _ hN3.1 ne_mo, fun b x hx g1 g2 => h2 b x ?_ g2⟩
  have hb : w1' b = some x := by rw [hw9, x_set_ne _ _ g1]; exact hx
  rw [e3, x_set_ne _ _ (w_neN hb hnl)]
  exact hb
set_option maxRecDepth 100000 in
set_option maxHeartbeats 4000000 in
theorem m_reg_init {r : Nat} (h_r : w r = some (.inr (6, [.null, .null, .null, .null, .int 0]))) : x_Cv l D dA vwC1 tyL1 B yX10_init wX10_init (rmd 5 4 12) [.ref r] w (fun w1 => ∃ fa cl ad ca, w1 r = some (oR fa cl ad ca 0) ∧ w1 fa = some (oE (dA 99)) ∧ w1 cl = some (oE (dA 99)) ∧ w1 ad = some (oE (dA 99)) ∧ w1 ca = some (oE (dA 99)) ∧ ∀ b x, w b = some x → ¬ b = r → w1 b = some x) 4 12 := by
  refine x_Ct.of (cc := cX10_init) (maxL := 1) (by decide) rfl (Nat.le_of_ble_eq_true rfl) ?_
  intro p e s m below meth c F
  have hf : ∀ b, ¬ b = r → w b = w b := fun b _ => rfl
  refine x_aload_n F dX10_init_0 rfl rfl ?_
  refine x_objInit F dX10_init_1 q346 q37 q38 (Nat.le_of_ble_eq_true rfl) (Nat.le_of_ble_eq_true rfl) ?_
  refine x_aload_n F dX10_init_4 rfl rfl ?_
  refine x_new (ci := 1) (C := RJx4a65c) (T := TJx4a65c) (N := 3) (fs := [.int 0, .null, .int 0]) F dX10_init_5 rfl inJx4a65c tyJx4a65c tyJx4a65c_ok q347 q348 q9 (fun j hj => by rcases (show j = 0 ∨ j = 1 ∨ j = 2 by omega) with rfl | rfl | rfl <;> rfl) (Nat.le_of_ble_eq_true rfl) (Nat.le_of_ble_eq_true rfl) (fun g1a hg1a => ?_)
  refine x_wd (fun w1 hw1 => ?_)
  have ne_r_l1 : ¬ r = g1a := fun e => by rw [e, hg1a] at h_r; cases h_r
  have fr_l1 : w g1a = none := by rw [← hf g1a (fun e => ne_r_l1 e.symm)]; exact hg1a
  have h_r : w1 r = some (.inr (6, [.null, .null, .null, .null, .int 0])) := by rw [hw1, x_set_ne _ _ ne_r_l1]; exact h_r
  have h_l1 : w1 g1a = some (.inr (1, [.int 0, .null, .int 0])) := by rw [hw1]; exact x_set_eq _ _ _
  have hf : ∀ b, ¬ b = r → ¬ b = g1a → w1 b = w b := fun b g0 g1 => by rw [hw1]; exact (x_set_ne _ _ g1).trans (hf b g0)
  refine x_dup F dX10_init_8 rfl ?_
  refine x_cI0 F dX10_init_9 (x_gI q351) q9 q349 q350 rfl (c_li_init h_l1) ⟨rfl, rfl, rfl, xd_Jx4a65c_init_da8c8, ⟨Nat.le_of_ble_eq_true rfl, Nat.le_of_ble_eq_true rfl⟩, Nat.le_of_ble_eq_true rfl, Nat.le_of_ble_eq_true rfl⟩ (Nat.le_of_ble_eq_true rfl) (fun w1q hp => ?_)
  obtain ⟨w2, hw2⟩ : ∃ w2, w2 = w1q := ⟨_, rfl⟩
  rw [← hw2]
  rw [hp] at hw2
  have h_r : w2 r = some (.inr (6, [.null, .null, .null, .null, .int 0])) := by rw [hw2, x_set_ne _ _ ne_r_l1]; exact h_r
  have h_l1 : w2 g1a = some (oE (dA 99)) := by rw [hw2]; exact x_set_eq _ _ _
  have hf : ∀ b, ¬ b = r → ¬ b = g1a → w2 b = w b := fun b g0 g1 => by rw [hw2]; exact (x_set_ne _ _ g1).trans (hf b g0 g1)
  refine x_putF (ci := 6) (C := RX10) (T := TX10) (N := 5) (k := 0) F dX10_init_12 rfl inX10 tyX10 tyX10_ok nmX10 (by decide) q370 rfl rfl rfl rfl h_r (Nat.le_of_ble_eq_true rfl) rfl rfl ?_
  refine x_wd (fun w3 hw3 => ?_)
  have h_r : w3 r = some (.inr (6, [.ref g1a, .null, .null, .null, .int 0])) := by rw [hw3]; exact x_set_eq _ _ _
  have h_l1 : w3 g1a = some (oE (dA 99)) := by rw [hw3, x_set_ne _ _ (fun e => ne_r_l1 e.symm)]; exact h_l1
  have hf : ∀ b, ¬ b = r → ¬ b = g1a → w3 b = w b := fun b g0 g1 => by rw [hw3]; exact (x_set_ne _ _ g0).trans (hf b g0 g1)
  refine x_aload_n F dX10_init_15 rfl rfl ?_
  refine x_new (ci := 1) (C := RJx4a65c) (T := TJx4a65c) (N := 3) (fs := [.int 0, .null, .int 0]) F dX10_init_16 rfl inJx4a65c tyJx4a65c tyJx4a65c_ok q347 q348 q9 (fun j hj => by rcases (show j = 0 ∨ j = 1 ∨ j = 2 by omega) with rfl | rfl | rfl <;> rfl) (Nat.le_of_ble_eq_true rfl) (Nat.le_of_ble_eq_true rfl) (fun g2a hg2a => ?_)
  refine x_wd (fun w4 hw4 => ?_)
  have ne_r_l2 : ¬ r = g2a := fun e => by rw [e, hg2a] at h_r; cases h_r
  have ne_l1_l2 : ¬ g1a = g2a := fun e => by rw [e, hg2a] at h_l1; cases h_l1
  have fr_l2 : w g2a = none := by rw [← hf g2a (fun e => ne_r_l2 e.symm) (fun e => ne_l1_l2 e.symm)]; exact hg2a
  have h_r : w4 r = some (.inr (6, [.ref g1a, .null, .null, .null, .int 0])) := by rw [hw4, x_set_ne _ _ ne_r_l2]; exact h_r
  have h_l1 : w4 g1a = some (oE (dA 99)) := by rw [hw4, x_set_ne _ _ ne_l1_l2]; exact h_l1
  have h_l2 : w4 g2a = some (.inr (1, [.int 0, .null, .int 0])) := by rw [hw4]; exact x_set_eq _ _ _
  have hf : ∀ b, ¬ b = r → ¬ b = g1a → ¬ b = g2a → w4 b = w b := fun b g0 g1 g2 => by rw [hw4]; exact (x_set_ne _ _ g2).trans (hf b g0 g1)
  refine x_dup F dX10_init_19 rfl ?_
  refine x_cI0 F dX10_init_20 (x_gI q351) q9 q349 q350 rfl (c_li_init h_l2) ⟨rfl, rfl, rfl, xd_Jx4a65c_init_da8c8, ⟨Nat.le_of_ble_eq_true rfl, Nat.le_of_ble_eq_true rfl⟩, Nat.le_of_ble_eq_true rfl, Nat.le_of_ble_eq_true rfl⟩ (Nat.le_of_ble_eq_true rfl) (fun w1q hp => ?_)
  obtain ⟨w5, hw5⟩ : ∃ w5, w5 = w1q := ⟨_, rfl⟩
  rw [← hw5]
  rw [hp] at hw5
  have h_r : w5 r = some (.inr (6, [.ref g1a, .null, .null, .null, .int 0])) := by rw [hw5, x_set_ne _ _ ne_r_l2]; exact h_r
  have h_l1 : w5 g1a = some (oE (dA 99)) := by rw [hw5, x_set_ne _ _ ne_l1_l2]; exact h_l1
  have h_l2 : w5 g2a = some (oE (dA 99)) := by rw [hw5]; exact x_set_eq _ _ _
  have hf : ∀ b, ¬ b = r → ¬ b = g1a → ¬ b = g2a → w5 b = w b := fun b g0 g1 g2 => by rw [hw5]; exact (x_set_ne _ _ g2).trans (hf b g0 g1 g2)
  refine x_putF (ci := 6) (C := RX10) (T := TX10) (N := 5) (k := 1) F dX10_init_23 rfl inX10 tyX10 tyX10_ok nmX10 (by decide) q372 rfl rfl rfl rfl h_r (Nat.le_of_ble_eq_true rfl) rfl rfl ?_
  refine x_wd (fun w6 hw6 => ?_)
  have h_r : w6 r = some (.inr (6, [.ref g1a, .ref g2a, .null, .null, .int 0])) := by rw [hw6]; exact x_set_eq _ _ _
  have h_l1 : w6 g1a = some (oE (dA 99)) := by rw [hw6, x_set_ne _ _ (fun e => ne_r_l1 e.symm)]; exact h_l1
  have h_l2 : w6 g2a = some (oE (dA 99)) := by rw [hw6, x_set_ne _ _ (fun e => ne_r_l2 e.symm)]; exact h_l2
  have hf : ∀ b, ¬ b = r → ¬ b = g1a → ¬ b = g2a → w6 b = w b := fun b g0 g1 g2 => by rw [hw6]; exact (x_set_ne _ _ g0).trans (hf b g0 g1 g2)
  refine x_aload_n F dX10_init_26 rfl rfl ?_
  refine x_new (ci := 1) (C := RJx4a65c) (T := TJx4a65c) (N := 3) (fs := [.int 0, .null, .int 0]) F dX10_init_27 rfl inJx4a65c tyJx4a65c tyJx4a65c_ok q347 q348 q9 (fun j hj => by rcases (show j = 0 ∨ j = 1 ∨ j = 2 by omega) with rfl | rfl | rfl <;> rfl) (Nat.le_of_ble_eq_true rfl) (Nat.le_of_ble_eq_true rfl) (fun g3a hg3a => ?_)
  refine x_wd (fun w7 hw7 => ?_)
  have ne_r_l3 : ¬ r = g3a := fun e => by rw [e, hg3a] at h_r; cases h_r
  have ne_l1_l3 : ¬ g1a = g3a := fun e => by rw [e, hg3a] at h_l1; cases h_l1
  have ne_l2_l3 : ¬ g2a = g3a := fun e => by rw [e, hg3a] at h_l2; cases h_l2
  have fr_l3 : w g3a = none := by rw [← hf g3a (fun e => ne_r_l3 e.symm) (fun e => ne_l1_l3 e.symm) (fun e => ne_l2_l3 e.symm)]; exact hg3a
  have h_r : w7 r = some (.inr (6, [.ref g1a, .ref g2a, .null, .null, .int 0])) := by rw [hw7, x_set_ne _ _ ne_r_l3]; exact h_r
  have h_l1 : w7 g1a = some (oE (dA 99)) := by rw [hw7, x_set_ne _ _ ne_l1_l3]; exact h_l1
  have h_l2 : w7 g2a = some (oE (dA 99)) := by rw [hw7, x_set_ne _ _ ne_l2_l3]; exact h_l2
  have h_l3 : w7 g3a = some (.inr (1, [.int 0, .null, .int 0])) := by rw [hw7]; exact x_set_eq _ _ _
  have hf : ∀ b, ¬ b = r → ¬ b = g1a → ¬ b = g2a → ¬ b = g3a → w7 b = w b := fun b g0 g1 g2 g3 => by rw [hw7]; exact (x_set_ne _ _ g3).trans (hf b g0 g1 g2)
  refine x_dup F dX10_init_30 rfl ?_
  refine x_cI0 F dX10_init_31 (x_gI q351) q9 q349 q350 rfl (c_li_init h_l3) ⟨rfl, rfl, rfl, xd_Jx4a65c_init_da8c8, ⟨Nat.le_of_ble_eq_true rfl, Nat.le_of_ble_eq_true rfl⟩, Nat.le_of_ble_eq_true rfl, Nat.le_of_ble_eq_true rfl⟩ (Nat.le_of_ble_eq_true rfl) (fun w1q hp => ?_)
  obtain ⟨w8, hw8⟩ : ∃ w8, w8 = w1q := ⟨_, rfl⟩
  rw [← hw8]
  rw [hp] at hw8
  have h_r : w8 r = some (.inr (6, [.ref g1a, .ref g2a, .null, .null, .int 0])) := by rw [hw8, x_set_ne _ _ ne_r_l3]; exact h_r
  have h_l1 : w8 g1a = some (oE (dA 99)) := by rw [hw8, x_set_ne _ _ ne_l1_l3]; exact h_l1
  have h_l2 : w8 g2a = some (oE (dA 99)) := by rw [hw8, x_set_ne _ _ ne_l2_l3]; exact h_l2
  have h_l3 : w8 g3a = some (oE (dA 99)) := by rw [hw8]; exact x_set_eq _ _ _
  have hf : ∀ b, ¬ b = r → ¬ b = g1a → ¬ b = g2a → ¬ b = g3a → w8 b = w b := fun b g0 g1 g2 g3 => by rw [hw8]; exact (x_set_ne _ _ g3).trans (hf b g0 g1 g2 g3)
  refine x_putF (ci := 6) (C := RX10) (T := TX10) (N := 5) (k := 2) F dX10_init_34 rfl inX10 tyX10 tyX10_ok nmX10 (by decide) q374 rfl rfl rfl rfl h_r (Nat.le_of_ble_eq_true rfl) rfl rfl ?_
  refine x_wd (fun w9 hw9 => ?_)
  have h_r : w9 r = some (.inr (6, [.ref g1a, .ref g2a, .ref g3a, .null, .int 0])) := by rw [hw9]; exact x_set_eq _ _ _
  have h_l1 : w9 g1a = some (oE (dA 99)) := by rw [hw9, x_set_ne _ _ (fun e => ne_r_l1 e.symm)]; exact h_l1
  have h_l2 : w9 g2a = some (oE (dA 99)) := by rw [hw9, x_set_ne _ _ (fun e => ne_r_l2 e.symm)]; exact h_l2
  have h_l3 : w9 g3a = some (oE (dA 99)) := by rw [hw9, x_set_ne _ _ (fun e => ne_r_l3 e.symm)]; exact h_l3
  have hf : ∀ b, ¬ b = r → ¬ b = g1a → ¬ b = g2a → ¬ b = g3a → w9 b = w b := fun b g0 g1 g2 g3 => by rw [hw9]; exact (x_set_ne _ _ g0).trans (hf b g0 g1 g2 g3)
  refine x_aload_n F dX10_init_37 rfl rfl ?_
  refine x_new (ci := 1) (C := RJx4a65c) (T := TJx4a65c) (N := 3) (fs := [.int 0, .null, .int 0]) F dX10_init_38 rfl inJx4a65c tyJx4a65c tyJx4a65c_ok q347 q348 q9 (fun j hj => by rcases (show j = 0 ∨ j = 1 ∨ j = 2 by omega) with rfl | rfl | rfl <;> rfl) (Nat.le_of_ble_eq_true rfl) (Nat.le_of_ble_eq_true rfl) (fun g4a hg4a => ?_)
  refine x_wd (fun w10 hw10 => ?_)
  have ne_r_l4 : ¬ r = g4a := fun e => by rw [e, hg4a] at h_r; cases h_r
  have ne_l1_l4 : ¬ g1a = g4a := fun e => by rw [e, hg4a] at h_l1; cases h_l1
  have ne_l2_l4 : ¬ g2a = g4a := fun e => by rw [e, hg4a] at h_l2; cases h_l2
  have ne_l3_l4 : ¬ g3a = g4a := fun e => by rw [e, hg4a] at h_l3; cases h_l3
  have fr_l4 : w g4a = none := by rw [← hf g4a (fun e => ne_r_l4 e.symm) (fun e => ne_l1_l4 e.symm) (fun e => ne_l2_l4 e.symm) (fun e => ne_l3_l4 e.symm)]; exact hg4a
  have h_r : w10 r = some (.inr (6, [.ref g1a, .ref g2a, .ref g3a, .null, .int 0])) := by rw [hw10, x_set_ne _ _ ne_r_l4]; exact h_r
  have h_l1 : w10 g1a = some (oE (dA 99)) := by rw [hw10, x_set_ne _ _ ne_l1_l4]; exact h_l1
  have h_l2 : w10 g2a = some (oE (dA 99)) := by rw [hw10, x_set_ne _ _ ne_l2_l4]; exact h_l2
  have h_l3 : w10 g3a = some (oE (dA 99)) := by rw [hw10, x_set_ne _ _ ne_l3_l4]; exact h_l3
  have h_l4 : w10 g4a = some (.inr (1, [.int 0, .null, .int 0])) := by rw [hw10]; exact x_set_eq _ _ _
  have hf : ∀ b, ¬ b = r → ¬ b = g1a → ¬ b = g2a → ¬ b = g3a → ¬ b = g4a → w10 b = w b := fun b g0 g1 g2 g3 g4 => by rw [hw10]; exact (x_set_ne _ _ g4).trans (hf b g0 g1 g2 g3)
  refine x_dup F dX10_init_41 rfl ?_
  refine x_cI0 F dX10_init_42 (x_gI q351) q9 q349 q350 rfl (c_li_init h_l4) ⟨rfl, rfl, rfl, xd_Jx4a65c_init_da8c8, ⟨Nat.le_of_ble_eq_true rfl, Nat.le_of_ble_eq_true rfl⟩, Nat.le_of_ble_eq_true rfl, Nat.le_of_ble_eq_true rfl⟩ (Nat.le_of_ble_eq_true rfl) (fun w1q hp => ?_)
  obtain ⟨w11, hw11⟩ : ∃ w11, w11 = w1q := ⟨_, rfl⟩
  rw [← hw11]
  rw [hp] at hw11
  have h_r : w11 r = some (.inr (6, [.ref g1a, .ref g2a, .ref g3a, .null, .int 0])) := by rw [hw11, x_set_ne _ _ ne_r_l4]; exact h_r
  have h_l1 : w11 g1a = some (oE (dA 99)) := by rw [hw11, x_set_ne _ _ ne_l1_l4]; exact h_l1
  have h_l2 : w11 g2a = some (oE (dA 99)) := by rw [hw11, x_set_ne _ _ ne_l2_l4]; exact h_l2
  have h_l3 : w11 g3a = some (oE (dA 99)) := by rw [hw11, x_set_ne _ _ ne_l3_l4]; exact h_l3
  have h_l4 : w11 g4a = some (oE (dA 99)) := by rw [hw11]; exact x_set_eq _ _ _
  have hf : ∀ b, ¬ b = r → ¬ b = g1a → ¬ b = g2a → ¬ b = g3a → ¬ b = g4a → w11 b = w b := fun b g0 g1 g2 g3 g4 => by rw [hw11]; exact (x_set_ne _ _ g4).trans (hf b g0 g1 g2 g3 g4)
  refine x_putF (ci := 6) (C := RX10) (T := TX10) (N := 5) (k := 3) F dX10_init_45 rfl inX10 tyX10 tyX10_ok nmX10 (by decide) q376 rfl rfl rfl rfl h_r (Nat.le_of_ble_eq_true rfl) rfl rfl ?_
  refine x_wd (fun w12 hw12 => ?_)
  have h_r : w12 r = some (.inr (6, [.ref g1a, .ref g2a, .ref g3a, .ref g4a, .int 0])) := by rw [hw12]; exact x_set_eq _ _ _
  have h_l1 : w12 g1a = some (oE (dA 99)) := by rw [hw12, x_set_ne _ _ (fun e => ne_r_l1 e.symm)]; exact h_l1
  have h_l2 : w12 g2a = some (oE (dA 99)) := by rw [hw12, x_set_ne _ _ (fun e => ne_r_l2 e.symm)]; exact h_l2
  have h_l3 : w12 g3a = some (oE (dA 99)) := by rw [hw12, x_set_ne _ _ (fun e => ne_r_l3 e.symm)]; exact h_l3
  have h_l4 : w12 g4a = some (oE (dA 99)) := by rw [hw12, x_set_ne _ _ (fun e => ne_r_l4 e.symm)]; exact h_l4
  have hf : ∀ b, ¬ b = r → ¬ b = g1a → ¬ b = g2a → ¬ b = g3a → ¬ b = g4a → w12 b = w b := fun b g0 g1 g2 g3 g4 => by rw [hw12]; exact (x_set_ne _ _ g0).trans (hf b g0 g1 g2 g3 g4)
  refine x_vret F rfl dX10_init_48 (Nat.le_of_ble_eq_true rfl) (Nat.le_of_ble_eq_true rfl) ?_
  refine ⟨rfl, g1a, g2a, g3a, g4a, h_r, h_l1, h_l2, h_l3, h_l4, fun b x hx hne => ?_⟩
  rw [hf b hne (fun e => by rw [e, fr_l1] at hx; cases hx) (fun e => by rw [e, fr_l2] at hx; cases hx) (fun e => by rw [e, fr_l3] at hx; cases hx) (fun e => by rw [e, fr_l4] at hx; cases hx)]
  exact hx
set_option maxRecDepth 100000 in
set_option maxHeartbeats 4000000 in
theorem m_init {mo : Nat} (h : w mo = some (.inr (7, [.int 0, .null]))) : x_Cv l D dA vwC1 tyL1 B yX12_init wX12_init (rmd 6 5 17) [.ref mo] w (fun w1 => ∃ re fa cl ad ca, MR w1 (dA 99) mo re fa cl ad ca 0 0 ∧ ∀ b x, w b = some x → ¬ b = mo → w1 b = some x) 5 17 := by
  refine x_Ct.of (cc := cX12_init) (maxL := 1) (by decide) rfl (Nat.le_of_ble_eq_true rfl) ?_
  intro p e s m below meth c F
  refine x_aload_n F dX12_init_0 rfl rfl ?_
  refine x_objInit F dX12_init_1 q341 q37 q38 (Nat.le_of_ble_eq_true rfl) (Nat.le_of_ble_eq_true rfl) ?_
  refine x_aload_n F dX12_init_4 rfl rfl ?_
  refine x_new (ci := 6) (C := RX10) (T := TX10) (N := 5) (fs := [.null, .null, .null, .null, .int 0]) F dX12_init_5 rfl inX10 tyX10 tyX10_ok q342 q343 q6 (fun j hj => by rcases (show j = 0 ∨ j = 1 ∨ j = 2 ∨ j = 3 ∨ j = 4 by omega) with rfl | rfl | rfl | rfl | rfl <;> rfl) (Nat.le_of_ble_eq_true rfl) (Nat.le_of_ble_eq_true rfl) (fun re hre => ?_)
  refine x_wd (fun w1 hw1 => ?_)
  have h_re : w1 re = some (.inr (6, [.null, .null, .null, .null, .int 0])) := by rw [hw1]; exact x_set_eq _ _ _
  have ne_mr : ¬ mo = re := w_neN h hre
  have h_mo : w1 mo = some (.inr (7, [.int 0, .null])) := by rw [hw1, x_set_ne _ _ ne_mr]; exact h
  refine x_dup F dX12_init_8 rfl ?_
  refine x_cIN0 F dX12_init_9 (x_gI q345) q6 (x11 (x_Fix.xt F)) q344 rfl (m_reg_init h_re) ⟨rfl, rfl, rfl, xd_X10_init, ⟨Nat.le_of_ble_eq_true rfl, Nat.le_of_ble_eq_true rfl⟩, Nat.le_of_ble_eq_true rfl, Nat.le_of_ble_eq_true rfl⟩ (Nat.le_of_ble_eq_true rfl) (fun w1 hp => ?_)
  obtain ⟨fa, cl, ad, ca, g0, g1, g2, g3, g4, g5⟩ := hp
  have h_mo2 := g5 _ _ h_mo ne_mr
  refine x_putF (ci := 7) (C := RX12) (T := TX12) (N := 2) (k := 1) F dX12_init_12 rfl inX12 tyX12 tyX12_ok nmX12 (by decide) q386 rfl rfl rfl rfl h_mo2 (Nat.le_of_ble_eq_true rfl) rfl rfl ?_
  refine x_wd (fun w4 hw4 => ?_)
  refine x_vret F rfl dX12_init_15 (Nat.le_of_ble_eq_true rfl) (Nat.le_of_ble_eq_true rfl) ?_
  refine ⟨rfl, re, fa, cl, ad, ca, ⟨by rw [hw4]; exact x_set_eq _ _ _, ?_, ?_, ?_, ?_, ?_⟩, fun b x hx hb => ?_⟩
  · rw [hw4, x_set_ne _ _ (fun q => ne_mr q.symm)]; exact g0
  · rw [hw4, x_set_ne _ _ (w_ne g1 h_mo2 (fun z => by cases z))]; exact g1
  · rw [hw4, x_set_ne _ _ (w_ne g2 h_mo2 (fun z => by cases z))]; exact g2
  · rw [hw4, x_set_ne _ _ (w_ne g3 h_mo2 (fun z => by cases z))]; exact g3
  · rw [hw4, x_set_ne _ _ (w_ne g4 h_mo2 (fun z => by cases z))]; exact g4
  · rw [hw4, x_set_ne _ _ hb]
    refine g5 b x ?_ (w_neN hx hre)
    rw [hw1, x_set_ne _ _ (w_neN hx hre)]
    exact hx
end MD2
end
