section
-- ===== PART A: goes FIRST, ahead of the names: the tables' words, and 'selects' of the private methods out of them =====
/-- a private method of a class that the tables say can be made, by its rows of tables_1 -/
def lw_okq (q : MethodName × Nat) : Prop := (q.1.cls ≠ "java/lang/invoke/MethodHandle" ∧ q.1.cls ≠ "java/lang/invoke/VarHandle") ∧ Cond.instantiable q.1.cls q.2 ∈ tables_1 ∧ Cond.privateMethod q.1 ∈ tables_1 ∧ Cond.instanceMethod q.1 ∈ tables_1
theorem lw_p0 : lw_okq (⟨"java/lang/Throwable", "fillInStackTrace", "(I)Ljava/lang/Throwable;"⟩, 6) := ⟨⟨by decide +kernel, by decide +kernel⟩, List.mem_of_getElem? (i := 160) (by decide +kernel), List.mem_of_getElem? (i := 158) (by decide +kernel), List.mem_of_getElem? (i := 159) (by decide +kernel)⟩
theorem lw_p1 : lw_okq (⟨"ServiceApiary", "faceAt", "(I)LServiceApiary$Face;"⟩, 12) := ⟨⟨by decide +kernel, by decide +kernel⟩, List.mem_of_getElem? (i := 18) (by decide +kernel), List.mem_of_getElem? (i := 213) (by decide +kernel), List.mem_of_getElem? (i := 214) (by decide +kernel)⟩
theorem lw_p2 : lw_okq (⟨"ServiceApiary", "versionAt", "(II)LServiceApiary$Version;"⟩, 12) := ⟨⟨by decide +kernel, by decide +kernel⟩, List.mem_of_getElem? (i := 18) (by decide +kernel), List.mem_of_getElem? (i := 315) (by decide +kernel), List.mem_of_getElem? (i := 316) (by decide +kernel)⟩
theorem lw_p3 : lw_okq (⟨"ServiceApiary", "versionFact", "(LServiceApiary$Version;I)I"⟩, 12) := ⟨⟨by decide +kernel, by decide +kernel⟩, List.mem_of_getElem? (i := 18) (by decide +kernel), List.mem_of_getElem? (i := 321) (by decide +kernel), List.mem_of_getElem? (i := 322) (by decide +kernel)⟩
theorem lw_p4 : lw_okq (⟨"ServiceApiary", "countCallers", "(LServiceApiary$Version;)I"⟩, 12) := ⟨⟨by decide +kernel, by decide +kernel⟩, List.mem_of_getElem? (i := 18) (by decide +kernel), List.mem_of_getElem? (i := 325) (by decide +kernel), List.mem_of_getElem? (i := 326) (by decide +kernel)⟩
theorem lw_p5 : lw_okq (⟨"ServiceApiary", "countHinderers", "(LServiceApiary$Version;LServiceApiary$Retirement;IZ)I"⟩, 12) := ⟨⟨by decide +kernel, by decide +kernel⟩, List.mem_of_getElem? (i := 18) (by decide +kernel), List.mem_of_getElem? (i := 337) (by decide +kernel), List.mem_of_getElem? (i := 338) (by decide +kernel)⟩
theorem lw_p6 : lw_okq (⟨"ServiceApiary", "isCallerThen", "(LServiceApiary$Client;LServiceApiary$Version;IZ)Z"⟩, 12) := ⟨⟨by decide +kernel, by decide +kernel⟩, List.mem_of_getElem? (i := 18) (by decide +kernel), List.mem_of_getElem? (i := 353) (by decide +kernel), List.mem_of_getElem? (i := 354) (by decide +kernel)⟩
theorem lw_p7 : lw_okq (⟨"ServiceApiary", "findRoute", "(LServiceApiary$Client;LServiceApiary$Version;LServiceApiary$Version;)Z"⟩, 12) := ⟨⟨by decide +kernel, by decide +kernel⟩, List.mem_of_getElem? (i := 18) (by decide +kernel), List.mem_of_getElem? (i := 357) (by decide +kernel), List.mem_of_getElem? (i := 358) (by decide +kernel)⟩
theorem lw_p8 : lw_okq (⟨"ServiceApiary", "countGeneratedFor", "(LServiceApiary$Version;)I"⟩, 12) := ⟨⟨by decide +kernel, by decide +kernel⟩, List.mem_of_getElem? (i := 18) (by decide +kernel), List.mem_of_getElem? (i := 371) (by decide +kernel), List.mem_of_getElem? (i := 372) (by decide +kernel)⟩
theorem lw_p9 : lw_okq (⟨"ServiceApiary", "clientAt", "(I)LServiceApiary$Client;"⟩, 12) := ⟨⟨by decide +kernel, by decide +kernel⟩, List.mem_of_getElem? (i := 18) (by decide +kernel), List.mem_of_getElem? (i := 430) (by decide +kernel), List.mem_of_getElem? (i := 431) (by decide +kernel)⟩
theorem lw_p10 : lw_okq (⟨"ServiceApiary", "clientFact", "(LServiceApiary$Client;I)I"⟩, 12) := ⟨⟨by decide +kernel, by decide +kernel⟩, List.mem_of_getElem? (i := 18) (by decide +kernel), List.mem_of_getElem? (i := 472) (by decide +kernel), List.mem_of_getElem? (i := 473) (by decide +kernel)⟩
theorem lw_p11 : lw_okq (⟨"ServiceApiary", "findOwnRoute", "(LServiceApiary$Client;)Z"⟩, 12) := ⟨⟨by decide +kernel, by decide +kernel⟩, List.mem_of_getElem? (i := 18) (by decide +kernel), List.mem_of_getElem? (i := 476) (by decide +kernel), List.mem_of_getElem? (i := 477) (by decide +kernel)⟩
theorem lw_p12 : lw_okq (⟨"ServiceApiary", "isServedCall", "(LServiceApiary$Client;)Z"⟩, 12) := ⟨⟨by decide +kernel, by decide +kernel⟩, List.mem_of_getElem? (i := 18) (by decide +kernel), List.mem_of_getElem? (i := 485) (by decide +kernel), List.mem_of_getElem? (i := 486) (by decide +kernel)⟩
theorem lw_p13 : lw_okq (⟨"ServiceApiary", "outcomeOf", "(LServiceApiary$Client;III)I"⟩, 12) := ⟨⟨by decide +kernel, by decide +kernel⟩, List.mem_of_getElem? (i := 18) (by decide +kernel), List.mem_of_getElem? (i := 497) (by decide +kernel), List.mem_of_getElem? (i := 498) (by decide +kernel)⟩
theorem lw_p14 : lw_okq (⟨"ServiceApiary", "hoursSinceCall", "(LServiceApiary$Client;LServiceApiary$Version;)I"⟩, 12) := ⟨⟨by decide +kernel, by decide +kernel⟩, List.mem_of_getElem? (i := 18) (by decide +kernel), List.mem_of_getElem? (i := 520) (by decide +kernel), List.mem_of_getElem? (i := 521) (by decide +kernel)⟩
theorem lw_p15 : lw_okq (⟨"ServiceApiary", "startRetirement", "(LServiceApiary$Version;LServiceApiary$Retirement;I)I"⟩, 12) := ⟨⟨by decide +kernel, by decide +kernel⟩, List.mem_of_getElem? (i := 18) (by decide +kernel), List.mem_of_getElem? (i := 530) (by decide +kernel), List.mem_of_getElem? (i := 531) (by decide +kernel)⟩
def lw_privs_1 : List (MethodName × Nat) := [(⟨"java/lang/Throwable", "fillInStackTrace", "(I)Ljava/lang/Throwable;"⟩, 6), (⟨"ServiceApiary", "faceAt", "(I)LServiceApiary$Face;"⟩, 12), (⟨"ServiceApiary", "versionAt", "(II)LServiceApiary$Version;"⟩, 12), (⟨"ServiceApiary", "versionFact", "(LServiceApiary$Version;I)I"⟩, 12), (⟨"ServiceApiary", "countCallers", "(LServiceApiary$Version;)I"⟩, 12), (⟨"ServiceApiary", "countHinderers", "(LServiceApiary$Version;LServiceApiary$Retirement;IZ)I"⟩, 12), (⟨"ServiceApiary", "isCallerThen", "(LServiceApiary$Client;LServiceApiary$Version;IZ)Z"⟩, 12), (⟨"ServiceApiary", "findRoute", "(LServiceApiary$Client;LServiceApiary$Version;LServiceApiary$Version;)Z"⟩, 12), (⟨"ServiceApiary", "countGeneratedFor", "(LServiceApiary$Version;)I"⟩, 12), (⟨"ServiceApiary", "clientAt", "(I)LServiceApiary$Client;"⟩, 12), (⟨"ServiceApiary", "clientFact", "(LServiceApiary$Client;I)I"⟩, 12), (⟨"ServiceApiary", "findOwnRoute", "(LServiceApiary$Client;)Z"⟩, 12), (⟨"ServiceApiary", "isServedCall", "(LServiceApiary$Client;)Z"⟩, 12), (⟨"ServiceApiary", "outcomeOf", "(LServiceApiary$Client;III)I"⟩, 12), (⟨"ServiceApiary", "hoursSinceCall", "(LServiceApiary$Client;LServiceApiary$Version;)I"⟩, 12), (⟨"ServiceApiary", "startRetirement", "(LServiceApiary$Version;LServiceApiary$Retirement;I)I"⟩, 12)]
theorem lw_r1 : ∀ q ∈ lw_privs_1, lw_okq q := List.forall_mem_cons.mpr ⟨lw_p0, List.forall_mem_cons.mpr ⟨lw_p1, List.forall_mem_cons.mpr ⟨lw_p2, List.forall_mem_cons.mpr ⟨lw_p3, List.forall_mem_cons.mpr ⟨lw_p4, List.forall_mem_cons.mpr ⟨lw_p5, List.forall_mem_cons.mpr ⟨lw_p6, List.forall_mem_cons.mpr ⟨lw_p7, List.forall_mem_cons.mpr ⟨lw_p8, List.forall_mem_cons.mpr ⟨lw_p9, List.forall_mem_cons.mpr ⟨lw_p10, List.forall_mem_cons.mpr ⟨lw_p11, List.forall_mem_cons.mpr ⟨lw_p12, List.forall_mem_cons.mpr ⟨lw_p13, List.forall_mem_cons.mpr ⟨lw_p14, List.forall_mem_cons.mpr ⟨lw_p15, fun _ h => absurd h List.not_mem_nil⟩⟩⟩⟩⟩⟩⟩⟩⟩⟩⟩⟩⟩⟩⟩⟩
theorem lw_p16 : lw_okq (⟨"ServiceApiary", "askedState", "(ILServiceApiary$Version;)I"⟩, 12) := ⟨⟨by decide +kernel, by decide +kernel⟩, List.mem_of_getElem? (i := 18) (by decide +kernel), List.mem_of_getElem? (i := 553) (by decide +kernel), List.mem_of_getElem? (i := 554) (by decide +kernel)⟩
theorem lw_p17 : lw_okq (⟨"ServiceApiary", "countOf", "(I)I"⟩, 12) := ⟨⟨by decide +kernel, by decide +kernel⟩, List.mem_of_getElem? (i := 18) (by decide +kernel), List.mem_of_getElem? (i := 562) (by decide +kernel), List.mem_of_getElem? (i := 563) (by decide +kernel)⟩
theorem lw_p18 : lw_okq (⟨"ServiceApiary", "countVersions", "(I)I"⟩, 12) := ⟨⟨by decide +kernel, by decide +kernel⟩, List.mem_of_getElem? (i := 18) (by decide +kernel), List.mem_of_getElem? (i := 566) (by decide +kernel), List.mem_of_getElem? (i := 567) (by decide +kernel)⟩
theorem lw_p19 : lw_okq (⟨"ServiceApiary", "outcomeIn", "(LServiceApiary$Client;I)I"⟩, 12) := ⟨⟨by decide +kernel, by decide +kernel⟩, List.mem_of_getElem? (i := 18) (by decide +kernel), List.mem_of_getElem? (i := 575) (by decide +kernel), List.mem_of_getElem? (i := 576) (by decide +kernel)⟩
theorem lw_p20 : lw_okq (⟨"ServiceApiary", "hoursTillGone", "(LServiceApiary$Version;LServiceApiary$Retirement;Z)I"⟩, 12) := ⟨⟨by decide +kernel, by decide +kernel⟩, List.mem_of_getElem? (i := 18) (by decide +kernel), List.mem_of_getElem? (i := 579) (by decide +kernel), List.mem_of_getElem? (i := 580) (by decide +kernel)⟩
theorem lw_p21 : lw_okq (⟨"ServiceApiary", "nearestOpen", "(LServiceApiary$Client;)I"⟩, 12) := ⟨⟨by decide +kernel, by decide +kernel⟩, List.mem_of_getElem? (i := 18) (by decide +kernel), List.mem_of_getElem? (i := 587) (by decide +kernel), List.mem_of_getElem? (i := 588) (by decide +kernel)⟩
theorem lw_p22 : lw_okq (⟨"ServiceApiary", "digestVersion", "(JLServiceApiary$Version;)J"⟩, 12) := ⟨⟨by decide +kernel, by decide +kernel⟩, List.mem_of_getElem? (i := 18) (by decide +kernel), List.mem_of_getElem? (i := 603) (by decide +kernel), List.mem_of_getElem? (i := 604) (by decide +kernel)⟩
theorem lw_p23 : lw_okq (⟨"ServiceApiary", "hoursLeft", "(LServiceApiary$Version;)I"⟩, 12) := ⟨⟨by decide +kernel, by decide +kernel⟩, List.mem_of_getElem? (i := 18) (by decide +kernel), List.mem_of_getElem? (i := 607) (by decide +kernel), List.mem_of_getElem? (i := 608) (by decide +kernel)⟩
theorem lw_p24 : lw_okq (⟨"ServiceApiary", "digestClient", "(JLServiceApiary$Client;)J"⟩, 12) := ⟨⟨by decide +kernel, by decide +kernel⟩, List.mem_of_getElem? (i := 18) (by decide +kernel), List.mem_of_getElem? (i := 611) (by decide +kernel), List.mem_of_getElem? (i := 612) (by decide +kernel)⟩
theorem lw_p25 : lw_okq (⟨"ServiceApiary", "beginHour", "()I"⟩, 12) := ⟨⟨by decide +kernel, by decide +kernel⟩, List.mem_of_getElem? (i := 18) (by decide +kernel), List.mem_of_getElem? (i := 633) (by decide +kernel), List.mem_of_getElem? (i := 634) (by decide +kernel)⟩
theorem lw_p26 : lw_okq (⟨"ServiceApiary", "isGoneAtEnd", "(LServiceApiary$Version;)Z"⟩, 12) := ⟨⟨by decide +kernel, by decide +kernel⟩, List.mem_of_getElem? (i := 18) (by decide +kernel), List.mem_of_getElem? (i := 638) (by decide +kernel), List.mem_of_getElem? (i := 639) (by decide +kernel)⟩
def lw_privs_2 : List (MethodName × Nat) := [(⟨"ServiceApiary", "askedState", "(ILServiceApiary$Version;)I"⟩, 12), (⟨"ServiceApiary", "countOf", "(I)I"⟩, 12), (⟨"ServiceApiary", "countVersions", "(I)I"⟩, 12), (⟨"ServiceApiary", "outcomeIn", "(LServiceApiary$Client;I)I"⟩, 12), (⟨"ServiceApiary", "hoursTillGone", "(LServiceApiary$Version;LServiceApiary$Retirement;Z)I"⟩, 12), (⟨"ServiceApiary", "nearestOpen", "(LServiceApiary$Client;)I"⟩, 12), (⟨"ServiceApiary", "digestVersion", "(JLServiceApiary$Version;)J"⟩, 12), (⟨"ServiceApiary", "hoursLeft", "(LServiceApiary$Version;)I"⟩, 12), (⟨"ServiceApiary", "digestClient", "(JLServiceApiary$Client;)J"⟩, 12), (⟨"ServiceApiary", "beginHour", "()I"⟩, 12), (⟨"ServiceApiary", "isGoneAtEnd", "(LServiceApiary$Version;)Z"⟩, 12)]
theorem lw_r2 : ∀ q ∈ lw_privs_2, lw_okq q := List.forall_mem_cons.mpr ⟨lw_p16, List.forall_mem_cons.mpr ⟨lw_p17, List.forall_mem_cons.mpr ⟨lw_p18, List.forall_mem_cons.mpr ⟨lw_p19, List.forall_mem_cons.mpr ⟨lw_p20, List.forall_mem_cons.mpr ⟨lw_p21, List.forall_mem_cons.mpr ⟨lw_p22, List.forall_mem_cons.mpr ⟨lw_p23, List.forall_mem_cons.mpr ⟨lw_p24, List.forall_mem_cons.mpr ⟨lw_p25, List.forall_mem_cons.mpr ⟨lw_p26, fun _ h => absurd h List.not_mem_nil⟩⟩⟩⟩⟩⟩⟩⟩⟩⟩⟩
def lw_privs : List (MethodName × Nat) := lw_privs_1 ++ (lw_privs_2)
def lw_tbl : List Cond := k2_sels lw_privs ++ tables_1
theorem lw_privs_ok : ∀ q ∈ lw_privs, lw_okq q := by
  show ∀ q ∈ lw_privs_1 ++ (lw_privs_2), lw_okq q
  exact List.forall_mem_append.mpr ⟨lw_r1, lw_r2⟩
end
section
def RX0 : String := "ServiceApiary$Adapter"
def TX0 : u_T := fun k => match k with
  | 0 => ("ServiceApiary$Adapter", "from", "LServiceApiary$Version;", true)
  | 1 => ("ServiceApiary$Adapter", "to", "LServiceApiary$Version;", true)
  | 2 => ("ServiceApiary$Adapter", "adds", "I", true)
  | _ => ("ServiceApiary$Adapter", "drops", "I", true)
def tyX0 : Nat → FieldType := fun k => match k with
  | 0 => .object "ServiceApiary$Version"
  | 1 => .object "ServiceApiary$Version"
  | 2 => .int
  | _ => .int
theorem nmX0 : ∀ a, a < 4 → ∀ b, b < 4 → a ≠ b → (TX0 a).2.1 ≠ (TX0 b).2.1 := by decide +kernel
theorem tyX0_ok : ∀ k, k < 4 → parseFieldDescriptor (TX0 k).2.2.1 = some (tyX0 k) := by decide +kernel
abbrev cX0_init : ByteArray := prog_2_method_1_code
def yX0_init : MethodName := ⟨RX0, "<init>", "(LServiceApiary$Version;LServiceApiary$Version;II)V"⟩
abbrev cX0_makesOf : ByteArray := prog_2_method_2_code
def yX0_makesOf : MethodName := ⟨RX0, "makesOf", "(I)I"⟩
def RX1 : String := "ServiceApiary$Client"
def TX1 : u_T := fun k => match k with
  | 0 => ("ServiceApiary$Client", "owner", "I", true)
  | 1 => ("ServiceApiary$Client", "face", "LServiceApiary$Face;", true)
  | 2 => ("ServiceApiary$Client", "calledAt", "[I", true)
  | 3 => ("ServiceApiary$Client", "servedThisHour", "[I", true)
  | 4 => ("ServiceApiary$Client", "version", "LServiceApiary$Version;", false)
  | 5 => ("ServiceApiary$Client", "uses", "I", false)
  | 6 => ("ServiceApiary$Client", "callCount", "I", false)
  | _ => ("ServiceApiary$Client", "refusedCount", "I", false)
def tyX1 : Nat → FieldType := fun k => match k with
  | 0 => .int
  | 1 => .object "ServiceApiary$Face"
  | 2 => .array .int
  | 3 => .array .int
  | 4 => .object "ServiceApiary$Version"
  | 5 => .int
  | 6 => .int
  | _ => .int
theorem nmX1 : ∀ a, a < 8 → ∀ b, b < 8 → a ≠ b → (TX1 a).2.1 ≠ (TX1 b).2.1 := by decide +kernel
theorem tyX1_ok : ∀ k, k < 8 → parseFieldDescriptor (TX1 k).2.2.1 = some (tyX1 k) := by decide +kernel
abbrev cX1_init : ByteArray := prog_3_method_1_code
def yX1_init : MethodName := ⟨RX1, "<init>", "(ILServiceApiary$Version;I)V"⟩
abbrev cX1_calledAtOf : ByteArray := prog_3_method_2_code
def yX1_calledAtOf : MethodName := ⟨RX1, "calledAtOf", "(LServiceApiary$Version;)I"⟩
abbrev cX1_isCallerOf : ByteArray := prog_3_method_3_code
def yX1_isCallerOf : MethodName := ⟨RX1, "isCallerOf", "(LServiceApiary$Version;I)Z"⟩
abbrev cX1_servedThisHourBy : ByteArray := prog_3_method_4_code
def yX1_servedThisHourBy : MethodName := ⟨RX1, "servedThisHourBy", "(LServiceApiary$Version;)I"⟩
abbrev cX1_noteCall : ByteArray := prog_3_method_5_code
def yX1_noteCall : MethodName := ⟨RX1, "noteCall", "(IZ)V"⟩
def RX2 : String := "ServiceApiary$Face"
def TX2 : u_T := fun k => match k with
  | 0 => ("ServiceApiary$Face", "number", "I", true)
  | 1 => ("ServiceApiary$Face", "versions", "[LServiceApiary$Version;", true)
  | _ => ("ServiceApiary$Face", "count", "I", false)
def tyX2 : Nat → FieldType := fun k => match k with
  | 0 => .int
  | 1 => .array (.object "ServiceApiary$Version")
  | _ => .int
theorem nmX2 : ∀ a, a < 3 → ∀ b, b < 3 → a ≠ b → (TX2 a).2.1 ≠ (TX2 b).2.1 := by decide +kernel
theorem tyX2_ok : ∀ k, k < 3 → parseFieldDescriptor (TX2 k).2.2.1 = some (tyX2 k) := by decide +kernel
abbrev cX2_init : ByteArray := prog_4_method_1_code
def yX2_init : MethodName := ⟨RX2, "<init>", "(I)V"⟩
abbrev cX2_versionAt : ByteArray := prog_4_method_2_code
def yX2_versionAt : MethodName := ⟨RX2, "versionAt", "(I)LServiceApiary$Version;"⟩
def RX3 : String := "ServiceApiary$Retirement"
def TX3 : u_T := fun k => match k with
  | 0 => ("ServiceApiary$Retirement", "askedAt", "[I", true)
  | 1 => ("ServiceApiary$Retirement", "began", "I", false)
  | 2 => ("ServiceApiary$Retirement", "end", "I", false)
  | _ => ("ServiceApiary$Retirement", "answered", "I", false)
def tyX3 : Nat → FieldType := fun k => match k with
  | 0 => .array .int
  | 1 => .int
  | 2 => .int
  | _ => .int
theorem nmX3 : ∀ a, a < 4 → ∀ b, b < 4 → a ≠ b → (TX3 a).2.1 ≠ (TX3 b).2.1 := by decide +kernel
theorem tyX3_ok : ∀ k, k < 4 → parseFieldDescriptor (TX3 k).2.2.1 = some (tyX3 k) := by decide +kernel
abbrev cX3_init : ByteArray := prog_5_method_1_code
def yX3_init : MethodName := ⟨RX3, "<init>", "()V"⟩
abbrev cX3_start : ByteArray := prog_5_method_2_code
def yX3_start : MethodName := ⟨RX3, "start", "(II)V"⟩
abbrev cX3_clear : ByteArray := prog_5_method_3_code
def yX3_clear : MethodName := ⟨RX3, "clear", "()V"⟩
abbrev cX3_askedAtOf : ByteArray := prog_5_method_4_code
def yX3_askedAtOf : MethodName := ⟨RX3, "askedAtOf", "(I)I"⟩
abbrev cX3_ask : ByteArray := prog_5_method_5_code
def yX3_ask : MethodName := ⟨RX3, "ask", "(II)Z"⟩
abbrev cX3_hasAnswered : ByteArray := prog_5_method_6_code
def yX3_hasAnswered : MethodName := ⟨RX3, "hasAnswered", "(I)Z"⟩
abbrev cX3_isWarned : ByteArray := prog_5_method_7_code
def yX3_isWarned : MethodName := ⟨RX3, "isWarned", "(II)Z"⟩
abbrev cX3_isBrownedOut : ByteArray := prog_5_method_8_code
def yX3_isBrownedOut : MethodName := ⟨RX3, "isBrownedOut", "(I)Z"⟩
abbrev cX3_quota : ByteArray := prog_5_method_9_code
def yX3_quota : MethodName := ⟨RX3, "quota", "(I)I"⟩
def RX4 : String := "ServiceApiary$Route"
def TX4 : u_T := fun k => match k with
  | 0 => ("ServiceApiary$Route", "steps", "[I", true)
  | 1 => ("ServiceApiary$Route", "length", "I", false)
  | 2 => ("ServiceApiary$Route", "leadsTo", "I", false)
  | 3 => ("ServiceApiary$Route", "makes", "I", false)
  | _ => ("ServiceApiary$Route", "shut", "LServiceApiary$Version;", false)
def tyX4 : Nat → FieldType := fun k => match k with
  | 0 => .array .int
  | 1 => .int
  | 2 => .int
  | 3 => .int
  | _ => .object "ServiceApiary$Version"
theorem nmX4 : ∀ a, a < 5 → ∀ b, b < 5 → a ≠ b → (TX4 a).2.1 ≠ (TX4 b).2.1 := by decide +kernel
theorem tyX4_ok : ∀ k, k < 5 → parseFieldDescriptor (TX4 k).2.2.1 = some (tyX4 k) := by decide +kernel
abbrev cX4_init : ByteArray := prog_6_method_1_code
def yX4_init : MethodName := ⟨RX4, "<init>", "()V"⟩
def RX5 : String := "ServiceApiary$Version"
def TX5 : u_T := fun k => match k with
  | 0 => ("ServiceApiary$Version", "face", "LServiceApiary$Face;", true)
  | 1 => ("ServiceApiary$Version", "number", "I", true)
  | 2 => ("ServiceApiary$Version", "has", "I", true)
  | 3 => ("ServiceApiary$Version", "needs", "I", true)
  | 4 => ("ServiceApiary$Version", "retirement", "LServiceApiary$Retirement;", true)
  | 5 => ("ServiceApiary$Version", "state", "I", false)
  | 6 => ("ServiceApiary$Version", "putOffCount", "I", false)
  | 7 => ("ServiceApiary$Version", "callCount", "I", false)
  | _ => ("ServiceApiary$Version", "refusedCount", "I", false)
def tyX5 : Nat → FieldType := fun k => match k with
  | 0 => .object "ServiceApiary$Face"
  | 1 => .int
  | 2 => .int
  | 3 => .int
  | 4 => .object "ServiceApiary$Retirement"
  | 5 => .int
  | 6 => .int
  | 7 => .int
  | _ => .int
theorem nmX5 : ∀ a, a < 9 → ∀ b, b < 9 → a ≠ b → (TX5 a).2.1 ≠ (TX5 b).2.1 := by decide +kernel
theorem tyX5_ok : ∀ k, k < 9 → parseFieldDescriptor (TX5 k).2.2.1 = some (tyX5 k) := by decide +kernel
abbrev cX5_init : ByteArray := prog_7_method_1_code
def yX5_init : MethodName := ⟨RX5, "<init>", "(LServiceApiary$Face;III)V"⟩
abbrev cX5_suits : ByteArray := prog_7_method_2_code
def yX5_suits : MethodName := ⟨RX5, "suits", "(LServiceApiary$Version;)Z"⟩
abbrev cX5_usesAgain : ByteArray := prog_7_method_3_code
def yX5_usesAgain : MethodName := ⟨RX5, "usesAgain", "(I)I"⟩
def RX6 : String := "ServiceApiary"
def TX6 : u_T := fun k => match k with
  | 0 => ("ServiceApiary", "faces", "[LServiceApiary$Face;", true)
  | 1 => ("ServiceApiary", "clients", "[LServiceApiary$Client;", true)
  | 2 => ("ServiceApiary", "adapters", "[LServiceApiary$Adapter;", true)
  | 3 => ("ServiceApiary", "faceCount", "I", false)
  | 4 => ("ServiceApiary", "clientCount", "I", false)
  | 5 => ("ServiceApiary", "adapterCount", "I", false)
  | 6 => ("ServiceApiary", "now", "I", false)
  | 7 => ("ServiceApiary", "callCount", "I", false)
  | 8 => ("ServiceApiary", "refusedCount", "I", false)
  | 9 => ("ServiceApiary", "byRouteCount", "I", false)
  | 10 => ("ServiceApiary", "route", "LServiceApiary$Route;", true)
  | _ => ("ServiceApiary", "trial", "LServiceApiary$Retirement;", true)
def tyX6 : Nat → FieldType := fun k => match k with
  | 0 => .array (.object "ServiceApiary$Face")
  | 1 => .array (.object "ServiceApiary$Client")
  | 2 => .array (.object "ServiceApiary$Adapter")
  | 3 => .int
  | 4 => .int
  | 5 => .int
  | 6 => .int
  | 7 => .int
  | 8 => .int
  | 9 => .int
  | 10 => .object "ServiceApiary$Route"
  | _ => .object "ServiceApiary$Retirement"
theorem nmX6 : ∀ a, a < 12 → ∀ b, b < 12 → a ≠ b → (TX6 a).2.1 ≠ (TX6 b).2.1 := by decide +kernel
theorem tyX6_ok : ∀ k, k < 12 → parseFieldDescriptor (TX6 k).2.2.1 = some (tyX6 k) := by decide +kernel
abbrev cX6_init : ByteArray := prog_1_method_1_code
def yX6_init : MethodName := ⟨RX6, "<init>", "()V"⟩
abbrev cX6_open : ByteArray := prog_1_method_2_code
def yX6_open : MethodName := ⟨RX6, "open", "()I"⟩
abbrev cX6_publish : ByteArray := prog_1_method_3_code
def yX6_publish : MethodName := ⟨RX6, "publish", "(III)I"⟩
abbrev cX6_ofVersion : ByteArray := prog_1_method_4_code
def yX6_ofVersion : MethodName := ⟨RX6, "ofVersion", "(III)I"⟩
abbrev cX6_isCompatible : ByteArray := prog_1_method_5_code
def yX6_isCompatible : MethodName := ⟨RX6, "isCompatible", "(III)Z"⟩
abbrev cX6_client : ByteArray := prog_1_method_6_code
def yX6_client : MethodName := ⟨RX6, "client", "(IIII)I"⟩
abbrev cX6_again : ByteArray := prog_1_method_7_code
def yX6_again : MethodName := ⟨RX6, "again", "(II)I"⟩
abbrev cX6_adapter : ByteArray := prog_1_method_8_code
def yX6_adapter : MethodName := ⟨RX6, "adapter", "(IIIII)I"⟩
abbrev cX6_ofClient : ByteArray := prog_1_method_9_code
def yX6_ofClient : MethodName := ⟨RX6, "ofClient", "(II)I"⟩
abbrev cX6_call : ByteArray := prog_1_method_11_code
def yX6_call : MethodName := ⟨RX6, "call", "(II)I"⟩
abbrev cX6_pass : ByteArray := prog_1_method_12_code
def yX6_pass : MethodName := ⟨RX6, "pass", "(I)I"⟩
abbrev cX6_lastCall : ByteArray := prog_1_method_13_code
def yX6_lastCall : MethodName := ⟨RX6, "lastCall", "(II)I"⟩
abbrev cX6_retire : ByteArray := prog_1_method_14_code
def yX6_retire : MethodName := ⟨RX6, "retire", "(III)I"⟩
abbrev cX6_answer : ByteArray := prog_1_method_15_code
def yX6_answer : MethodName := ⟨RX6, "answer", "(III)Z"⟩
abbrev cX6_asked : ByteArray := prog_1_method_17_code
def yX6_asked : MethodName := ⟨RX6, "asked", "(III)I"⟩
abbrev cX6_many : ByteArray := prog_1_method_18_code
def yX6_many : MethodName := ⟨RX6, "many", "(I)I"⟩
abbrev cX6_wouldCome : ByteArray := prog_1_method_20_code
def yX6_wouldCome : MethodName := ⟨RX6, "wouldCome", "(II)I"⟩
abbrev cX6_target : ByteArray := prog_1_method_23_code
def yX6_target : MethodName := ⟨RX6, "target", "(I)I"⟩
abbrev cX6_digest : ByteArray := prog_1_method_25_code
def yX6_digest : MethodName := ⟨RX6, "digest", "()J"⟩
abbrev cX6_faceAt : ByteArray := prog_1_method_26_code
def yX6_faceAt : MethodName := ⟨RX6, "faceAt", "(I)LServiceApiary$Face;"⟩
abbrev cX6_versionAt : ByteArray := prog_1_method_27_code
def yX6_versionAt : MethodName := ⟨RX6, "versionAt", "(II)LServiceApiary$Version;"⟩
abbrev cX6_clientAt : ByteArray := prog_1_method_28_code
def yX6_clientAt : MethodName := ⟨RX6, "clientAt", "(I)LServiceApiary$Client;"⟩
abbrev cX6_isOwner : ByteArray := prog_1_method_29_code
def yX6_isOwner : MethodName := ⟨RX6, "isOwner", "(I)Z"⟩
abbrev cX6_isFieldSet : ByteArray := prog_1_method_30_code
def yX6_isFieldSet : MethodName := ⟨RX6, "isFieldSet", "(I)Z"⟩
abbrev cX6_isShape : ByteArray := prog_1_method_31_code
def yX6_isShape : MethodName := ⟨RX6, "isShape", "(II)Z"⟩
abbrev cX6_fits : ByteArray := prog_1_method_32_code
def yX6_fits : MethodName := ⟨RX6, "fits", "(III)Z"⟩
abbrev cX6_countSuited : ByteArray := prog_1_method_33_code
def yX6_countSuited : MethodName := ⟨RX6, "countSuited", "(LServiceApiary$Version;)I"⟩
abbrev cX6_versionFact : ByteArray := prog_1_method_34_code
def yX6_versionFact : MethodName := ⟨RX6, "versionFact", "(LServiceApiary$Version;I)I"⟩
abbrev cX6_clientFact : ByteArray := prog_1_method_35_code
def yX6_clientFact : MethodName := ⟨RX6, "clientFact", "(LServiceApiary$Client;I)I"⟩
abbrev cX6_countOf : ByteArray := prog_1_method_36_code
def yX6_countOf : MethodName := ⟨RX6, "countOf", "(I)I"⟩
abbrev cX6_countVersions : ByteArray := prog_1_method_37_code
def yX6_countVersions : MethodName := ⟨RX6, "countVersions", "(I)I"⟩
abbrev cX6_countCallers : ByteArray := prog_1_method_38_code
def yX6_countCallers : MethodName := ⟨RX6, "countCallers", "(LServiceApiary$Version;)I"⟩
abbrev cX6_countGeneratedFor : ByteArray := prog_1_method_39_code
def yX6_countGeneratedFor : MethodName := ⟨RX6, "countGeneratedFor", "(LServiceApiary$Version;)I"⟩
abbrev cX6_hoursSinceCall : ByteArray := prog_1_method_40_code
def yX6_hoursSinceCall : MethodName := ⟨RX6, "hoursSinceCall", "(LServiceApiary$Client;LServiceApiary$Version;)I"⟩
abbrev cX6_askedState : ByteArray := prog_1_method_41_code
def yX6_askedState : MethodName := ⟨RX6, "askedState", "(ILServiceApiary$Version;)I"⟩
abbrev cX6_nearestOpen : ByteArray := prog_1_method_42_code
def yX6_nearestOpen : MethodName := ⟨RX6, "nearestOpen", "(LServiceApiary$Client;)I"⟩
abbrev cX6_findOwnRoute : ByteArray := prog_1_method_43_code
def yX6_findOwnRoute : MethodName := ⟨RX6, "findOwnRoute", "(LServiceApiary$Client;)Z"⟩
abbrev cX6_findRoute : ByteArray := prog_1_method_44_code
def yX6_findRoute : MethodName := ⟨RX6, "findRoute", "(LServiceApiary$Client;LServiceApiary$Version;LServiceApiary$Version;)Z"⟩
abbrev cX6_completes : ByteArray := prog_1_method_45_code
def yX6_completes : MethodName := ⟨RX6, "completes", "(LServiceApiary$Route;[LServiceApiary$Adapter;LServiceApiary$Version;II)Z"⟩
abbrev cX6_isServedCall : ByteArray := prog_1_method_46_code
def yX6_isServedCall : MethodName := ⟨RX6, "isServedCall", "(LServiceApiary$Client;)Z"⟩
abbrev cX6_outcomeOf : ByteArray := prog_1_method_47_code
def yX6_outcomeOf : MethodName := ⟨RX6, "outcomeOf", "(LServiceApiary$Client;III)I"⟩
abbrev cX6_outcomeIn : ByteArray := prog_1_method_48_code
def yX6_outcomeIn : MethodName := ⟨RX6, "outcomeIn", "(LServiceApiary$Client;I)I"⟩
abbrev cX6_beginHour : ByteArray := prog_1_method_49_code
def yX6_beginHour : MethodName := ⟨RX6, "beginHour", "()I"⟩
abbrev cX6_isGoneAtEnd : ByteArray := prog_1_method_50_code
def yX6_isGoneAtEnd : MethodName := ⟨RX6, "isGoneAtEnd", "(LServiceApiary$Version;)Z"⟩
abbrev cX6_startRetirement : ByteArray := prog_1_method_51_code
def yX6_startRetirement : MethodName := ⟨RX6, "startRetirement", "(LServiceApiary$Version;LServiceApiary$Retirement;I)I"⟩
abbrev cX6_countHinderers : ByteArray := prog_1_method_52_code
def yX6_countHinderers : MethodName := ⟨RX6, "countHinderers", "(LServiceApiary$Version;LServiceApiary$Retirement;IZ)I"⟩
abbrev cX6_isCallerThen : ByteArray := prog_1_method_53_code
def yX6_isCallerThen : MethodName := ⟨RX6, "isCallerThen", "(LServiceApiary$Client;LServiceApiary$Version;IZ)Z"⟩
abbrev cX6_hoursTillGone : ByteArray := prog_1_method_54_code
def yX6_hoursTillGone : MethodName := ⟨RX6, "hoursTillGone", "(LServiceApiary$Version;LServiceApiary$Retirement;Z)I"⟩
abbrev cX6_hoursLeft : ByteArray := prog_1_method_55_code
def yX6_hoursLeft : MethodName := ⟨RX6, "hoursLeft", "(LServiceApiary$Version;)I"⟩
abbrev cX6_digestVersion : ByteArray := prog_1_method_56_code
def yX6_digestVersion : MethodName := ⟨RX6, "digestVersion", "(JLServiceApiary$Version;)J"⟩
abbrev cX6_digestClient : ByteArray := prog_1_method_57_code
def yX6_digestClient : MethodName := ⟨RX6, "digestClient", "(JLServiceApiary$Client;)J"⟩
def RX7 : String := "ServiceApiaryModel$Adapter"
def TX7 : u_T := fun k => match k with
  | _ => ("", "", "", false)
def tyX7 : Nat → FieldType := fun k => match k with
  | _ => .int
theorem nmX7 : ∀ a, a < 0 → ∀ b, b < 0 → a ≠ b → (TX7 a).2.1 ≠ (TX7 b).2.1 := by decide +kernel
theorem tyX7_ok : ∀ k, k < 0 → parseFieldDescriptor (TX7 k).2.2.1 = some (tyX7 k) := by decide +kernel
def RX8 : String := "ServiceApiaryModel$Call"
def TX8 : u_T := fun k => match k with
  | _ => ("", "", "", false)
def tyX8 : Nat → FieldType := fun k => match k with
  | _ => .int
theorem nmX8 : ∀ a, a < 0 → ∀ b, b < 0 → a ≠ b → (TX8 a).2.1 ≠ (TX8 b).2.1 := by decide +kernel
theorem tyX8_ok : ∀ k, k < 0 → parseFieldDescriptor (TX8 k).2.2.1 = some (tyX8 k) := by decide +kernel
def RX9 : String := "ServiceApiaryModel$Client"
def TX9 : u_T := fun k => match k with
  | _ => ("", "", "", false)
def tyX9 : Nat → FieldType := fun k => match k with
  | _ => .int
theorem nmX9 : ∀ a, a < 0 → ∀ b, b < 0 → a ≠ b → (TX9 a).2.1 ≠ (TX9 b).2.1 := by decide +kernel
theorem tyX9_ok : ∀ k, k < 0 → parseFieldDescriptor (TX9 k).2.2.1 = some (tyX9 k) := by decide +kernel
def RX10 : String := "ServiceApiaryModel$Registry"
def TX10 : u_T := fun k => match k with
  | _ => ("", "", "", false)
def tyX10 : Nat → FieldType := fun k => match k with
  | _ => .int
theorem nmX10 : ∀ a, a < 0 → ∀ b, b < 0 → a ≠ b → (TX10 a).2.1 ≠ (TX10 b).2.1 := by decide +kernel
theorem tyX10_ok : ∀ k, k < 0 → parseFieldDescriptor (TX10 k).2.2.1 = some (tyX10 k) := by decide +kernel
def RX11 : String := "ServiceApiaryModel$Version"
def TX11 : u_T := fun k => match k with
  | _ => ("", "", "", false)
def tyX11 : Nat → FieldType := fun k => match k with
  | _ => .int
theorem nmX11 : ∀ a, a < 0 → ∀ b, b < 0 → a ≠ b → (TX11 a).2.1 ≠ (TX11 b).2.1 := by decide +kernel
theorem tyX11_ok : ∀ k, k < 0 → parseFieldDescriptor (TX11 k).2.2.1 = some (tyX11 k) := by decide +kernel
def RX12 : String := "ServiceApiaryModel"
def TX12 : u_T := fun k => match k with
  | _ => ("", "", "", false)
def tyX12 : Nat → FieldType := fun k => match k with
  | _ => .int
theorem nmX12 : ∀ a, a < 0 → ∀ b, b < 0 → a ≠ b → (TX12 a).2.1 ≠ (TX12 b).2.1 := by decide +kernel
theorem tyX12_ok : ∀ k, k < 0 → parseFieldDescriptor (TX12 k).2.2.1 = some (tyX12 k) := by decide +kernel
def RJx145de : String := "java/io/Serializable"
def TJx145de : u_T := fun k => match k with
  | _ => ("", "", "", false)
def tyJx145de : Nat → FieldType := fun k => match k with
  | _ => .int
theorem nmJx145de : ∀ a, a < 0 → ∀ b, b < 0 → a ≠ b → (TJx145de a).2.1 ≠ (TJx145de b).2.1 := by decide +kernel
theorem tyJx145de_ok : ∀ k, k < 0 → parseFieldDescriptor (TJx145de k).2.2.1 = some (tyJx145de k) := by decide +kernel
def RJ6 : String := "java/lang/Integer"
def TJ6 : u_T := fun k => match k with
  | _ => ("", "", "", false)
def tyJ6 : Nat → FieldType := fun k => match k with
  | _ => .int
theorem nmJ6 : ∀ a, a < 0 → ∀ b, b < 0 → a ≠ b → (TJ6 a).2.1 ≠ (TJ6 b).2.1 := by decide +kernel
theorem tyJ6_ok : ∀ k, k < 0 → parseFieldDescriptor (TJ6 k).2.2.1 = some (tyJ6 k) := by decide +kernel
abbrev cJ6_bitCount_0f7a4 : ByteArray := prog_19_method_49_code
def yJ6_bitCount_0f7a4 : MethodName := ⟨RJ6, "bitCount", "(I)I"⟩
def RJ9 : String := "java/lang/Math"
def TJ9 : u_T := fun k => match k with
  | _ => ("", "", "", false)
def tyJ9 : Nat → FieldType := fun k => match k with
  | _ => .int
theorem nmJ9 : ∀ a, a < 0 → ∀ b, b < 0 → a ≠ b → (TJ9 a).2.1 ≠ (TJ9 b).2.1 := by decide +kernel
theorem tyJ9_ok : ∀ k, k < 0 → parseFieldDescriptor (TJ9 k).2.2.1 = some (tyJ9 k) := by decide +kernel
abbrev cJ9_max_7cf53 : ByteArray := prog_20_method_65_code
def yJ9_max_7cf53 : MethodName := ⟨RJ9, "max", "(II)I"⟩
def RJ0 : String := "java/lang/String"
def TJ0 : u_T := fun k => match k with
  | _ => ("", "", "", false)
def tyJ0 : Nat → FieldType := fun k => match k with
  | _ => .int
theorem nmJ0 : ∀ a, a < 0 → ∀ b, b < 0 → a ≠ b → (TJ0 a).2.1 ≠ (TJ0 b).2.1 := by decide +kernel
theorem tyJ0_ok : ∀ k, k < 0 → parseFieldDescriptor (TJ0 k).2.2.1 = some (tyJ0 k) := by decide +kernel
def RJ7 : String := "java/util/Arrays"
def TJ7 : u_T := fun k => match k with
  | _ => ("", "", "", false)
def tyJ7 : Nat → FieldType := fun k => match k with
  | _ => .int
theorem nmJ7 : ∀ a, a < 0 → ∀ b, b < 0 → a ≠ b → (TJ7 a).2.1 ≠ (TJ7 b).2.1 := by decide +kernel
theorem tyJ7_ok : ∀ k, k < 0 → parseFieldDescriptor (TJ7 k).2.2.1 = some (tyJ7 k) := by decide +kernel
abbrev cJ7_fill_53178 : ByteArray := prog_24_method_103_code
def yJ7_fill_53178 : MethodName := ⟨RJ7, "fill", "([II)V"⟩
def RL : String := "ServiceApiaryLaw"
abbrev cL_below : ByteArray := method_2_code
def yL_below : MethodName := ⟨RL, "below", "(II)I"⟩
abbrev cL_cell : ByteArray := method_3_code
def yL_cell : MethodName := ⟨RL, "cell", "([II)I"⟩
abbrev cL_law : ByteArray := code
def yL_law : MethodName := ⟨RL, "law", "([I)Z"⟩
abbrev cL_isKind : ByteArray := method_5_code
def yL_isKind : MethodName := ⟨RL, "isKind", "(LServiceApiary;II)Z"⟩
abbrev vwCl : List vw_C := [(RX0, TX0, 4), (RX1, TX1, 8), (RX2, TX2, 3), (RX3, TX3, 4), (RX4, TX4, 5), (RX5, TX5, 9), (RX6, TX6, 12)]
end
section
/-! the words that a program's rows rest on: those of the tables that the tables alone decide -/
def xTs : List Cond := lw_tbl.filter goodWord
theorem xTs_1 {w : Cond} {i : Nat} (h : tables_1_1[i]? = some w) (g : goodWord w = true) : w ∈ xTs := List.mem_filter.mpr ⟨List.mem_append_right _ (List.mem_append_left _ (List.mem_of_getElem? h)), g⟩
theorem xTs_2 {w : Cond} {i : Nat} (h : tables_1_2[i]? = some w) (g : goodWord w = true) : w ∈ xTs := List.mem_filter.mpr ⟨List.mem_append_right _ (List.mem_append_right _ (List.mem_append_left _ (List.mem_of_getElem? h))), g⟩
theorem xTs_3 {w : Cond} {i : Nat} (h : tables_1_3[i]? = some w) (g : goodWord w = true) : w ∈ xTs := List.mem_filter.mpr ⟨List.mem_append_right _ (List.mem_append_right _ (List.mem_append_right _ (List.mem_of_getElem? h))), g⟩
theorem xTs_0 {w : Cond} {i : Nat} (h : (k2_sels lw_privs)[i]? = some w) (g : goodWord w = true) : w ∈ xTs := List.mem_filter.mpr ⟨List.mem_append_left _ (List.mem_of_getElem? h), g⟩
theorem xTs_sub : ∀ w ∈ xTs, w ∈ lw_tbl := fun w h => (List.mem_filter.mp h).1
theorem xTs_good : GoodIn xTs xTs := fun w h => ⟨h, good_of_word (List.mem_filter.mp h).2⟩
set_option maxRecDepth 20000 in
theorem q0 : (Cond.initialized RL) ∈ xTs := xTs_1 (i := 0) rfl rfl
set_option maxRecDepth 20000 in
theorem q1 : (Cond.initialized RX6) ∈ xTs := xTs_1 (i := 1) rfl rfl
set_option maxRecDepth 20000 in
theorem q2 : (Cond.initialized RX4) ∈ xTs := xTs_1 (i := 2) rfl rfl
set_option maxRecDepth 20000 in
theorem q3 : (Cond.initialized RX3) ∈ xTs := xTs_1 (i := 3) rfl rfl
set_option maxRecDepth 20000 in
theorem q4 : (Cond.initialized RJ7) ∈ xTs := xTs_1 (i := 4) rfl rfl
set_option maxRecDepth 20000 in
theorem q5 : (Cond.initialized "java/lang/Throwable") ∈ xTs := xTs_1 (i := 5) rfl rfl
set_option maxRecDepth 20000 in
theorem q6 : (Cond.initialized "java/lang/Exception") ∈ xTs := xTs_1 (i := 6) rfl rfl
set_option maxRecDepth 20000 in
theorem q7 : (Cond.initialized "java/lang/RuntimeException") ∈ xTs := xTs_1 (i := 7) rfl rfl
set_option maxRecDepth 20000 in
theorem q8 : (Cond.initialized "java/lang/IllegalStateException") ∈ xTs := xTs_1 (i := 8) rfl rfl
set_option maxRecDepth 20000 in
theorem q9 : (Cond.initialized RX2) ∈ xTs := xTs_1 (i := 9) rfl rfl
set_option maxRecDepth 20000 in
theorem q10 : (Cond.initialized "java/lang/IndexOutOfBoundsException") ∈ xTs := xTs_1 (i := 10) rfl rfl
set_option maxRecDepth 20000 in
theorem q11 : (Cond.initialized "java/lang/IllegalArgumentException") ∈ xTs := xTs_1 (i := 11) rfl rfl
set_option maxRecDepth 20000 in
theorem q12 : (Cond.initialized RX5) ∈ xTs := xTs_1 (i := 12) rfl rfl
set_option maxRecDepth 20000 in
theorem q13 : (Cond.initialized RX1) ∈ xTs := xTs_1 (i := 13) rfl rfl
set_option maxRecDepth 20000 in
theorem q14 : (Cond.initialized RX0) ∈ xTs := xTs_1 (i := 14) rfl rfl
set_option maxRecDepth 20000 in
theorem q15 : (Cond.initialized RJ9) ∈ xTs := xTs_1 (i := 15) rfl rfl
set_option maxRecDepth 20000 in
theorem q16 : (Cond.initialized RJ6) ∈ xTs := xTs_1 (i := 16) rfl rfl
set_option maxRecDepth 20000 in
theorem q17 : (Cond.classLink RL 9 RX6) ∈ xTs := xTs_1 (i := 17) rfl rfl
set_option maxRecDepth 20000 in
theorem q18 : (Cond.instantiable RX6 12) ∈ xTs := xTs_1 (i := 18) rfl rfl
set_option maxRecDepth 20000 in
theorem q19 : (Cond.methodLink RL 11 yX6_init) ∈ xTs := xTs_1 (i := 19) rfl rfl
set_option maxRecDepth 20000 in
theorem q20 : (Cond.instanceMethod yX6_init) ∈ xTs := xTs_1 (i := 20) rfl rfl
set_option maxRecDepth 20000 in
theorem q21 : (Cond.code yX6_init cX6_init 1 (Option.none : Option Jvm.ClassFile.FieldType)) ∈ xTs := xTs_1 (i := 21) rfl rfl
set_option maxRecDepth 20000 in
theorem q22 : (Cond.methodLink RX6 1 objectInit) ∈ xTs := xTs_1 (i := 22) rfl rfl
set_option maxRecDepth 20000 in
theorem q23 : (Cond.instanceMethod objectInit) ∈ xTs := xTs_1 (i := 23) rfl rfl
set_option maxRecDepth 20000 in
theorem q24 : (Cond.code objectInit ⟨#[0xb1]⟩ 1 none) ∈ xTs := xTs_1 (i := 24) rfl rfl
set_option maxRecDepth 20000 in
theorem q25 : (Cond.classLink RX6 9 RX2) ∈ xTs := xTs_1 (i := 25) rfl rfl
set_option maxRecDepth 20000 in
theorem q26 : (Cond.classLink RX6 15 RX1) ∈ xTs := xTs_1 (i := 27) rfl rfl
set_option maxRecDepth 20000 in
theorem q27 : (Cond.classLink RX6 21 RX0) ∈ xTs := xTs_1 (i := 29) rfl rfl
set_option maxRecDepth 20000 in
theorem q28 : (Cond.classLink RX6 27 RX4) ∈ xTs := xTs_1 (i := 31) rfl rfl
set_option maxRecDepth 20000 in
theorem q29 : (Cond.instantiable RX4 5) ∈ xTs := xTs_1 (i := 32) rfl rfl
set_option maxRecDepth 20000 in
theorem q30 : (Cond.instanceMethod yX4_init) ∈ xTs := xTs_1 (i := 34) rfl rfl
set_option maxRecDepth 20000 in
theorem q31 : (Cond.code yX4_init cX4_init 1 (Option.none : Option Jvm.ClassFile.FieldType)) ∈ xTs := xTs_1 (i := 35) rfl rfl
set_option maxRecDepth 20000 in
theorem q32 : (Cond.methodLink RX4 3 objectInit) ∈ xTs := xTs_1 (i := 36) rfl rfl
set_option maxRecDepth 20000 in
theorem q33 : (Cond.fieldLink RX4 9 "ServiceApiary$Route" "steps" "[I") ∈ xTs := xTs_1 (i := 37) rfl rfl
set_option maxRecDepth 20000 in
theorem q34 : (Cond.fieldLink RX6 188 "ServiceApiary$Route" "steps" "[I") ∈ xTs := xTs_1 (i := 38) rfl rfl
set_option maxRecDepth 20000 in
theorem q35 : (Cond.fieldLink RX6 185 "ServiceApiary$Route" "length" "I") ∈ xTs := xTs_1 (i := 39) rfl rfl
set_option maxRecDepth 20000 in
theorem q36 : (Cond.fieldLink RX6 311 "ServiceApiary$Route" "leadsTo" "I") ∈ xTs := xTs_1 (i := 40) rfl rfl
set_option maxRecDepth 20000 in
theorem q37 : (Cond.fieldLink RX6 314 "ServiceApiary$Route" "makes" "I") ∈ xTs := xTs_1 (i := 41) rfl rfl
set_option maxRecDepth 20000 in
theorem q38 : (Cond.fieldLink RX6 342 "ServiceApiary$Route" "shut" "LServiceApiary$Version;") ∈ xTs := xTs_1 (i := 42) rfl rfl
set_option maxRecDepth 20000 in
theorem q39 : (Cond.laysFinal "ServiceApiary$Route" "ServiceApiary$Route" "steps" "[I") ∈ xTs := xTs_1 (i := 43) rfl rfl
set_option maxRecDepth 20000 in
theorem q40 : (Cond.lays "ServiceApiary$Route" "ServiceApiary$Route" "length" "I") ∈ xTs := xTs_1 (i := 45) rfl rfl
set_option maxRecDepth 20000 in
theorem q41 : (Cond.lays "ServiceApiary$Route" "ServiceApiary$Route" "leadsTo" "I") ∈ xTs := xTs_1 (i := 47) rfl rfl
set_option maxRecDepth 20000 in
theorem q42 : (Cond.lays "ServiceApiary$Route" "ServiceApiary$Route" "makes" "I") ∈ xTs := xTs_1 (i := 49) rfl rfl
set_option maxRecDepth 20000 in
theorem q43 : (Cond.lays "ServiceApiary$Route" "ServiceApiary$Route" "shut" "LServiceApiary$Version;") ∈ xTs := xTs_1 (i := 51) rfl rfl
set_option maxRecDepth 20000 in
theorem q44 : (Cond.arrayClass FieldType.int) ∈ xTs := xTs_1 (i := 54) rfl rfl
set_option maxRecDepth 20000 in
theorem q45 : (Cond.classLink RX6 34 RX3) ∈ xTs := xTs_1 (i := 55) rfl rfl
set_option maxRecDepth 20000 in
theorem q46 : (Cond.instantiable RX3 4) ∈ xTs := xTs_1 (i := 56) rfl rfl
set_option maxRecDepth 20000 in
theorem q47 : (Cond.methodLink RX6 36 yX3_init) ∈ xTs := xTs_1 (i := 57) rfl rfl
set_option maxRecDepth 20000 in
theorem q48 : (Cond.instanceMethod yX3_init) ∈ xTs := xTs_1 (i := 58) rfl rfl
set_option maxRecDepth 20000 in
theorem q49 : (Cond.code yX3_init cX3_init 1 (Option.none : Option Jvm.ClassFile.FieldType)) ∈ xTs := xTs_1 (i := 59) rfl rfl
set_option maxRecDepth 20000 in
theorem q50 : (Cond.methodLink RX3 3 objectInit) ∈ xTs := xTs_1 (i := 60) rfl rfl
set_option maxRecDepth 20000 in
theorem q51 : (Cond.methodLink RX3 22 yJ7_fill_53178) ∈ xTs := xTs_1 (i := 61) rfl rfl
set_option maxRecDepth 20000 in
theorem q52 : (Cond.static yJ7_fill_53178) ∈ xTs := xTs_1 (i := 62) rfl rfl
set_option maxRecDepth 20000 in
theorem q53 : (Cond.code yJ7_fill_53178 cJ7_fill_53178 4 (Option.none : Option Jvm.ClassFile.FieldType)) ∈ xTs := xTs_1 (i := 63) rfl rfl
set_option maxRecDepth 20000 in
theorem q54 : (Cond.fieldLink RX3 9 "ServiceApiary$Retirement" "askedAt" "[I") ∈ xTs := xTs_1 (i := 64) rfl rfl
set_option maxRecDepth 20000 in
theorem q55 : (Cond.fieldLink RX3 15 "ServiceApiary$Retirement" "began" "I") ∈ xTs := xTs_1 (i := 65) rfl rfl
set_option maxRecDepth 20000 in
theorem q56 : (Cond.fieldLink RX6 287 "ServiceApiary$Retirement" "began" "I") ∈ xTs := xTs_1 (i := 66) rfl rfl
set_option maxRecDepth 20000 in
theorem q57 : (Cond.fieldLink RX3 19 "ServiceApiary$Retirement" "end" "I") ∈ xTs := xTs_1 (i := 67) rfl rfl
set_option maxRecDepth 20000 in
theorem q58 : (Cond.fieldLink RX6 236 "ServiceApiary$Retirement" "end" "I") ∈ xTs := xTs_1 (i := 68) rfl rfl
set_option maxRecDepth 20000 in
theorem q59 : (Cond.fieldLink RX3 31 "ServiceApiary$Retirement" "answered" "I") ∈ xTs := xTs_1 (i := 69) rfl rfl
set_option maxRecDepth 20000 in
theorem q60 : (Cond.fieldLink RX6 231 "ServiceApiary$Retirement" "answered" "I") ∈ xTs := xTs_1 (i := 70) rfl rfl
set_option maxRecDepth 20000 in
theorem q61 : (Cond.laysFinal "ServiceApiary$Retirement" "ServiceApiary$Retirement" "askedAt" "[I") ∈ xTs := xTs_1 (i := 71) rfl rfl
set_option maxRecDepth 20000 in
theorem q62 : (Cond.lays "ServiceApiary$Retirement" "ServiceApiary$Retirement" "began" "I") ∈ xTs := xTs_1 (i := 73) rfl rfl
set_option maxRecDepth 20000 in
theorem q63 : (Cond.lays "ServiceApiary$Retirement" "ServiceApiary$Retirement" "end" "I") ∈ xTs := xTs_1 (i := 75) rfl rfl
set_option maxRecDepth 20000 in
theorem q64 : (Cond.lays "ServiceApiary$Retirement" "ServiceApiary$Retirement" "answered" "I") ∈ xTs := xTs_1 (i := 77) rfl rfl
set_option maxRecDepth 20000 in
theorem q65 : (Cond.fieldLink RX6 11 "ServiceApiary" "faces" "[LServiceApiary$Face;") ∈ xTs := xTs_1 (i := 80) rfl rfl
set_option maxRecDepth 20000 in
theorem q66 : (Cond.fieldLink RX6 17 "ServiceApiary" "clients" "[LServiceApiary$Client;") ∈ xTs := xTs_1 (i := 81) rfl rfl
set_option maxRecDepth 20000 in
theorem q67 : (Cond.fieldLink RX6 23 "ServiceApiary" "adapters" "[LServiceApiary$Adapter;") ∈ xTs := xTs_1 (i := 82) rfl rfl
set_option maxRecDepth 20000 in
theorem q68 : (Cond.fieldLink RX6 41 "ServiceApiary" "faceCount" "I") ∈ xTs := xTs_1 (i := 83) rfl rfl
set_option maxRecDepth 20000 in
theorem q69 : (Cond.fieldLink RX6 126 "ServiceApiary" "clientCount" "I") ∈ xTs := xTs_1 (i := 84) rfl rfl
set_option maxRecDepth 20000 in
theorem q70 : (Cond.fieldLink RX6 165 "ServiceApiary" "adapterCount" "I") ∈ xTs := xTs_1 (i := 85) rfl rfl
set_option maxRecDepth 20000 in
theorem q71 : (Cond.fieldLink RX6 225 "ServiceApiary" "now" "I") ∈ xTs := xTs_1 (i := 86) rfl rfl
set_option maxRecDepth 20000 in
theorem q72 : (Cond.fieldLink RX6 249 "ServiceApiary" "callCount" "I") ∈ xTs := xTs_1 (i := 87) rfl rfl
set_option maxRecDepth 20000 in
theorem q73 : (Cond.fieldLink RX6 252 "ServiceApiary" "refusedCount" "I") ∈ xTs := xTs_1 (i := 88) rfl rfl
set_option maxRecDepth 20000 in
theorem q74 : (Cond.fieldLink RX6 320 "ServiceApiary" "byRouteCount" "I") ∈ xTs := xTs_1 (i := 89) rfl rfl
set_option maxRecDepth 20000 in
theorem q75 : (Cond.fieldLink RX6 30 "ServiceApiary" "route" "LServiceApiary$Route;") ∈ xTs := xTs_1 (i := 90) rfl rfl
set_option maxRecDepth 20000 in
theorem q76 : (Cond.fieldLink RX6 37 "ServiceApiary" "trial" "LServiceApiary$Retirement;") ∈ xTs := xTs_1 (i := 91) rfl rfl
set_option maxRecDepth 20000 in
theorem q77 : (Cond.laysFinal "ServiceApiary" "ServiceApiary" "faces" "[LServiceApiary$Face;") ∈ xTs := xTs_1 (i := 92) rfl rfl
set_option maxRecDepth 20000 in
theorem q78 : (Cond.laysFinal "ServiceApiary" "ServiceApiary" "clients" "[LServiceApiary$Client;") ∈ xTs := xTs_1 (i := 94) rfl rfl
set_option maxRecDepth 20000 in
theorem q79 : (Cond.laysFinal "ServiceApiary" "ServiceApiary" "adapters" "[LServiceApiary$Adapter;") ∈ xTs := xTs_1 (i := 96) rfl rfl
set_option maxRecDepth 20000 in
theorem q80 : (Cond.lays "ServiceApiary" "ServiceApiary" "faceCount" "I") ∈ xTs := xTs_1 (i := 98) rfl rfl
set_option maxRecDepth 20000 in
theorem q81 : (Cond.lays "ServiceApiary" "ServiceApiary" "clientCount" "I") ∈ xTs := xTs_1 (i := 100) rfl rfl
set_option maxRecDepth 20000 in
theorem q82 : (Cond.lays "ServiceApiary" "ServiceApiary" "adapterCount" "I") ∈ xTs := xTs_1 (i := 102) rfl rfl
set_option maxRecDepth 20000 in
theorem q83 : (Cond.lays "ServiceApiary" "ServiceApiary" "now" "I") ∈ xTs := xTs_1 (i := 104) rfl rfl
set_option maxRecDepth 20000 in
theorem q84 : (Cond.lays "ServiceApiary" "ServiceApiary" "callCount" "I") ∈ xTs := xTs_1 (i := 106) rfl rfl
set_option maxRecDepth 20000 in
theorem q85 : (Cond.lays "ServiceApiary" "ServiceApiary" "refusedCount" "I") ∈ xTs := xTs_1 (i := 108) rfl rfl
set_option maxRecDepth 20000 in
theorem q86 : (Cond.lays "ServiceApiary" "ServiceApiary" "byRouteCount" "I") ∈ xTs := xTs_1 (i := 110) rfl rfl
set_option maxRecDepth 20000 in
theorem q87 : (Cond.laysFinal "ServiceApiary" "ServiceApiary" "route" "LServiceApiary$Route;") ∈ xTs := xTs_1 (i := 112) rfl rfl
set_option maxRecDepth 20000 in
theorem q88 : (Cond.laysFinal "ServiceApiary" "ServiceApiary" "trial" "LServiceApiary$Retirement;") ∈ xTs := xTs_1 (i := 114) rfl rfl
set_option maxRecDepth 20000 in
theorem q89 : (Cond.methodLink RL 12 yX6_open) ∈ xTs := xTs_1 (i := 117) rfl rfl
set_option maxRecDepth 20000 in
theorem q90 : (Cond.instanceMethod yX6_open) ∈ xTs := xTs_1 (i := 118) rfl rfl
set_option maxRecDepth 20000 in
theorem q91 : (Cond.selects RX6 yX6_open yX6_open) ∈ xTs := xTs_1 (i := 119) rfl rfl
set_option maxRecDepth 20000 in
theorem q92 : (Cond.code yX6_open cX6_open 1 (Option.some Jvm.ClassFile.FieldType.int)) ∈ xTs := xTs_1 (i := 120) rfl rfl
set_option maxRecDepth 20000 in
theorem q93 : (Cond.classLink RX6 45 "java/lang/IllegalStateException") ∈ xTs := xTs_1 (i := 121) rfl rfl
set_option maxRecDepth 20000 in
theorem q94 : (Cond.instantiable "java/lang/IllegalStateException" 6) ∈ xTs := xTs_1 (i := 122) rfl rfl
set_option maxRecDepth 20000 in
theorem q95 : (Cond.instantiable "java/lang/Throwable" 6) ∈ xTs := xTs_1 (i := 160) rfl rfl
set_option maxRecDepth 20000 in
theorem q96 : (Cond.arrayClass FieldType.byte) ∈ xTs := xTs_1 (i := 188) rfl rfl
set_option maxRecDepth 20000 in
theorem q97 : (Cond.instantiable RX2 3) ∈ xTs := xTs_1 (i := 189) rfl rfl
set_option maxRecDepth 20000 in
theorem q98 : (Cond.methodLink RX6 52 yX2_init) ∈ xTs := xTs_1 (i := 190) rfl rfl
set_option maxRecDepth 20000 in
theorem q99 : (Cond.instanceMethod yX2_init) ∈ xTs := xTs_1 (i := 191) rfl rfl
set_option maxRecDepth 20000 in
theorem q100 : (Cond.code yX2_init cX2_init 2 (Option.none : Option Jvm.ClassFile.FieldType)) ∈ xTs := xTs_1 (i := 192) rfl rfl
set_option maxRecDepth 20000 in
theorem q101 : (Cond.methodLink RX2 3 objectInit) ∈ xTs := xTs_1 (i := 193) rfl rfl
set_option maxRecDepth 20000 in
theorem q102 : (Cond.classLink RX2 9 RX5) ∈ xTs := xTs_1 (i := 194) rfl rfl
set_option maxRecDepth 20000 in
theorem q103 : (Cond.fieldLink RX2 17 "ServiceApiary$Face" "number" "I") ∈ xTs := xTs_1 (i := 196) rfl rfl
set_option maxRecDepth 20000 in
theorem q104 : (Cond.fieldLink RX6 308 "ServiceApiary$Face" "number" "I") ∈ xTs := xTs_1 (i := 197) rfl rfl
set_option maxRecDepth 20000 in
theorem q105 : (Cond.fieldLink RX2 11 "ServiceApiary$Face" "versions" "[LServiceApiary$Version;") ∈ xTs := xTs_1 (i := 198) rfl rfl
set_option maxRecDepth 20000 in
theorem q106 : (Cond.fieldLink RX6 76 "ServiceApiary$Face" "versions" "[LServiceApiary$Version;") ∈ xTs := xTs_1 (i := 199) rfl rfl
set_option maxRecDepth 20000 in
theorem q107 : (Cond.fieldLink RX6 73 "ServiceApiary$Face" "count" "I") ∈ xTs := xTs_1 (i := 200) rfl rfl
set_option maxRecDepth 20000 in
theorem q108 : (Cond.laysFinal "ServiceApiary$Face" "ServiceApiary$Face" "number" "I") ∈ xTs := xTs_1 (i := 201) rfl rfl
set_option maxRecDepth 20000 in
theorem q109 : (Cond.laysFinal "ServiceApiary$Face" "ServiceApiary$Face" "versions" "[LServiceApiary$Version;") ∈ xTs := xTs_1 (i := 203) rfl rfl
set_option maxRecDepth 20000 in
theorem q110 : (Cond.lays "ServiceApiary$Face" "ServiceApiary$Face" "count" "I") ∈ xTs := xTs_1 (i := 205) rfl rfl
set_option maxRecDepth 20000 in
theorem q111 : (Cond.methodLink RL 26 yX6_publish) ∈ xTs := xTs_1 (i := 208) rfl rfl
set_option maxRecDepth 20000 in
theorem q112 : (Cond.instanceMethod yX6_publish) ∈ xTs := xTs_1 (i := 209) rfl rfl
set_option maxRecDepth 20000 in
theorem q113 : (Cond.selects RX6 yX6_publish yX6_publish) ∈ xTs := xTs_1 (i := 210) rfl rfl
set_option maxRecDepth 20000 in
theorem q114 : (Cond.code yX6_publish cX6_publish 8 (Option.some Jvm.ClassFile.FieldType.int)) ∈ xTs := xTs_1 (i := 211) rfl rfl
set_option maxRecDepth 20000 in
theorem q115 : (Cond.methodLink RX6 55 yX6_faceAt) ∈ xTs := xTs_1 (i := 212) rfl rfl
set_option maxRecDepth 20000 in
theorem q116 : (Cond.instanceMethod yX6_faceAt) ∈ xTs := xTs_1 (i := 214) rfl rfl
set_option maxRecDepth 20000 in
theorem q117 : (Cond.code yX6_faceAt cX6_faceAt 2 (Option.some (Jvm.ClassFile.FieldType.object "ServiceApiary$Face"))) ∈ xTs := xTs_1 (i := 215) rfl rfl
set_option maxRecDepth 20000 in
theorem q118 : (Cond.classLink RX6 59 "java/lang/IndexOutOfBoundsException") ∈ xTs := xTs_1 (i := 216) rfl rfl
set_option maxRecDepth 20000 in
theorem q119 : (Cond.instantiable "java/lang/IndexOutOfBoundsException" 6) ∈ xTs := xTs_1 (i := 217) rfl rfl
set_option maxRecDepth 20000 in
theorem q120 : (Cond.methodLink RX6 64 yX6_isShape) ∈ xTs := xTs_1 (i := 232) rfl rfl
set_option maxRecDepth 20000 in
theorem q121 : (Cond.static yX6_isShape) ∈ xTs := xTs_1 (i := 233) rfl rfl
set_option maxRecDepth 20000 in
theorem q122 : (Cond.code yX6_isShape cX6_isShape 2 (Option.some Jvm.ClassFile.FieldType.boolean)) ∈ xTs := xTs_1 (i := 234) rfl rfl
set_option maxRecDepth 20000 in
theorem q123 : (Cond.methodLink RX6 111 yX6_isFieldSet) ∈ xTs := xTs_1 (i := 235) rfl rfl
set_option maxRecDepth 20000 in
theorem q124 : (Cond.static yX6_isFieldSet) ∈ xTs := xTs_1 (i := 236) rfl rfl
set_option maxRecDepth 20000 in
theorem q125 : (Cond.code yX6_isFieldSet cX6_isFieldSet 1 (Option.some Jvm.ClassFile.FieldType.boolean)) ∈ xTs := xTs_1 (i := 237) rfl rfl
set_option maxRecDepth 20000 in
theorem q126 : (Cond.classLink RX6 68 "java/lang/IllegalArgumentException") ∈ xTs := xTs_1 (i := 238) rfl rfl
set_option maxRecDepth 20000 in
theorem q127 : (Cond.instantiable "java/lang/IllegalArgumentException" 6) ∈ xTs := xTs_1 (i := 239) rfl rfl
set_option maxRecDepth 20000 in
theorem q128 : (Cond.classLink RX6 82 RX5) ∈ xTs := xTs_2 (i := 15) rfl rfl
set_option maxRecDepth 20000 in
theorem q129 : (Cond.instantiable RX5 9) ∈ xTs := xTs_2 (i := 16) rfl rfl
set_option maxRecDepth 20000 in
theorem q130 : (Cond.methodLink RX6 84 yX5_init) ∈ xTs := xTs_2 (i := 17) rfl rfl
set_option maxRecDepth 20000 in
theorem q131 : (Cond.instanceMethod yX5_init) ∈ xTs := xTs_2 (i := 18) rfl rfl
set_option maxRecDepth 20000 in
theorem q132 : (Cond.code yX5_init cX5_init 5 (Option.none : Option Jvm.ClassFile.FieldType)) ∈ xTs := xTs_2 (i := 19) rfl rfl
set_option maxRecDepth 20000 in
theorem q133 : (Cond.methodLink RX5 3 objectInit) ∈ xTs := xTs_2 (i := 20) rfl rfl
set_option maxRecDepth 20000 in
theorem q134 : (Cond.classLink RX5 9 RX3) ∈ xTs := xTs_2 (i := 21) rfl rfl
set_option maxRecDepth 20000 in
theorem q135 : (Cond.methodLink RX5 11 yX3_init) ∈ xTs := xTs_2 (i := 22) rfl rfl
set_option maxRecDepth 20000 in
theorem q136 : (Cond.fieldLink RX5 22 "ServiceApiary$Version" "face" "LServiceApiary$Face;") ∈ xTs := xTs_2 (i := 23) rfl rfl
set_option maxRecDepth 20000 in
theorem q137 : (Cond.fieldLink RX1 22 "ServiceApiary$Version" "face" "LServiceApiary$Face;") ∈ xTs := xTs_2 (i := 24) rfl rfl
set_option maxRecDepth 20000 in
theorem q138 : (Cond.fieldLink RX6 286 "ServiceApiary$Version" "face" "LServiceApiary$Face;") ∈ xTs := xTs_2 (i := 25) rfl rfl
set_option maxRecDepth 20000 in
theorem q139 : (Cond.fieldLink RX5 26 "ServiceApiary$Version" "number" "I") ∈ xTs := xTs_2 (i := 26) rfl rfl
set_option maxRecDepth 20000 in
theorem q140 : (Cond.fieldLink RX1 42 "ServiceApiary$Version" "number" "I") ∈ xTs := xTs_2 (i := 27) rfl rfl
set_option maxRecDepth 20000 in
theorem q141 : (Cond.fieldLink RX6 283 "ServiceApiary$Version" "number" "I") ∈ xTs := xTs_2 (i := 28) rfl rfl
set_option maxRecDepth 20000 in
theorem q142 : (Cond.fieldLink RX5 29 "ServiceApiary$Version" "has" "I") ∈ xTs := xTs_2 (i := 29) rfl rfl
set_option maxRecDepth 20000 in
theorem q143 : (Cond.fieldLink RX6 114 "ServiceApiary$Version" "has" "I") ∈ xTs := xTs_2 (i := 30) rfl rfl
set_option maxRecDepth 20000 in
theorem q144 : (Cond.fieldLink RX5 32 "ServiceApiary$Version" "needs" "I") ∈ xTs := xTs_2 (i := 31) rfl rfl
set_option maxRecDepth 20000 in
theorem q145 : (Cond.fieldLink RX6 117 "ServiceApiary$Version" "needs" "I") ∈ xTs := xTs_2 (i := 32) rfl rfl
set_option maxRecDepth 20000 in
theorem q146 : (Cond.fieldLink RX5 12 "ServiceApiary$Version" "retirement" "LServiceApiary$Retirement;") ∈ xTs := xTs_2 (i := 33) rfl rfl
set_option maxRecDepth 20000 in
theorem q147 : (Cond.fieldLink RX6 211 "ServiceApiary$Version" "retirement" "LServiceApiary$Retirement;") ∈ xTs := xTs_2 (i := 34) rfl rfl
set_option maxRecDepth 20000 in
theorem q148 : (Cond.fieldLink RX5 18 "ServiceApiary$Version" "state" "I") ∈ xTs := xTs_2 (i := 35) rfl rfl
set_option maxRecDepth 20000 in
theorem q149 : (Cond.fieldLink RX6 129 "ServiceApiary$Version" "state" "I") ∈ xTs := xTs_2 (i := 36) rfl rfl
set_option maxRecDepth 20000 in
theorem q150 : (Cond.fieldLink RX6 297 "ServiceApiary$Version" "putOffCount" "I") ∈ xTs := xTs_2 (i := 37) rfl rfl
set_option maxRecDepth 20000 in
theorem q151 : (Cond.fieldLink RX6 300 "ServiceApiary$Version" "callCount" "I") ∈ xTs := xTs_2 (i := 38) rfl rfl
set_option maxRecDepth 20000 in
theorem q152 : (Cond.fieldLink RX6 301 "ServiceApiary$Version" "refusedCount" "I") ∈ xTs := xTs_2 (i := 39) rfl rfl
set_option maxRecDepth 20000 in
theorem q153 : (Cond.laysFinal "ServiceApiary$Version" "ServiceApiary$Version" "face" "LServiceApiary$Face;") ∈ xTs := xTs_2 (i := 40) rfl rfl
set_option maxRecDepth 20000 in
theorem q154 : (Cond.laysFinal "ServiceApiary$Version" "ServiceApiary$Version" "number" "I") ∈ xTs := xTs_2 (i := 42) rfl rfl
set_option maxRecDepth 20000 in
theorem q155 : (Cond.laysFinal "ServiceApiary$Version" "ServiceApiary$Version" "has" "I") ∈ xTs := xTs_2 (i := 44) rfl rfl
set_option maxRecDepth 20000 in
theorem q156 : (Cond.laysFinal "ServiceApiary$Version" "ServiceApiary$Version" "needs" "I") ∈ xTs := xTs_2 (i := 46) rfl rfl
set_option maxRecDepth 20000 in
theorem q157 : (Cond.laysFinal "ServiceApiary$Version" "ServiceApiary$Version" "retirement" "LServiceApiary$Retirement;") ∈ xTs := xTs_2 (i := 48) rfl rfl
set_option maxRecDepth 20000 in
theorem q158 : (Cond.lays "ServiceApiary$Version" "ServiceApiary$Version" "state" "I") ∈ xTs := xTs_2 (i := 50) rfl rfl
set_option maxRecDepth 20000 in
theorem q159 : (Cond.lays "ServiceApiary$Version" "ServiceApiary$Version" "putOffCount" "I") ∈ xTs := xTs_2 (i := 52) rfl rfl
set_option maxRecDepth 20000 in
theorem q160 : (Cond.lays "ServiceApiary$Version" "ServiceApiary$Version" "callCount" "I") ∈ xTs := xTs_2 (i := 54) rfl rfl
set_option maxRecDepth 20000 in
theorem q161 : (Cond.lays "ServiceApiary$Version" "ServiceApiary$Version" "refusedCount" "I") ∈ xTs := xTs_2 (i := 56) rfl rfl
set_option maxRecDepth 20000 in
theorem q162 : (Cond.methodLink RX6 87 yX6_countSuited) ∈ xTs := xTs_2 (i := 59) rfl rfl
set_option maxRecDepth 20000 in
theorem q163 : (Cond.static yX6_countSuited) ∈ xTs := xTs_2 (i := 60) rfl rfl
set_option maxRecDepth 20000 in
theorem q164 : (Cond.code yX6_countSuited cX6_countSuited 4 (Option.some Jvm.ClassFile.FieldType.int)) ∈ xTs := xTs_2 (i := 61) rfl rfl
set_option maxRecDepth 20000 in
theorem q165 : (Cond.methodLink RX6 145 yX2_versionAt) ∈ xTs := xTs_2 (i := 62) rfl rfl
set_option maxRecDepth 20000 in
theorem q166 : (Cond.instanceMethod yX2_versionAt) ∈ xTs := xTs_2 (i := 63) rfl rfl
set_option maxRecDepth 20000 in
theorem q167 : (Cond.selects RX2 yX2_versionAt yX2_versionAt) ∈ xTs := xTs_2 (i := 64) rfl rfl
set_option maxRecDepth 20000 in
theorem q168 : (Cond.code yX2_versionAt cX2_versionAt 2 (Option.some (Jvm.ClassFile.FieldType.object "ServiceApiary$Version"))) ∈ xTs := xTs_2 (i := 65) rfl rfl
set_option maxRecDepth 20000 in
theorem q169 : (Cond.methodLink RX6 103 yX5_suits) ∈ xTs := xTs_2 (i := 66) rfl rfl
set_option maxRecDepth 20000 in
theorem q170 : (Cond.instanceMethod yX5_suits) ∈ xTs := xTs_2 (i := 67) rfl rfl
set_option maxRecDepth 20000 in
theorem q171 : (Cond.selects RX5 yX5_suits yX5_suits) ∈ xTs := xTs_2 (i := 68) rfl rfl
set_option maxRecDepth 20000 in
theorem q172 : (Cond.code yX5_suits cX5_suits 2 (Option.some Jvm.ClassFile.FieldType.boolean)) ∈ xTs := xTs_2 (i := 69) rfl rfl
set_option maxRecDepth 20000 in
theorem q173 : (Cond.methodLink RL 54 yX6_ofVersion) ∈ xTs := xTs_2 (i := 70) rfl rfl
set_option maxRecDepth 20000 in
theorem q174 : (Cond.instanceMethod yX6_ofVersion) ∈ xTs := xTs_2 (i := 71) rfl rfl
set_option maxRecDepth 20000 in
theorem q175 : (Cond.selects RX6 yX6_ofVersion yX6_ofVersion) ∈ xTs := xTs_2 (i := 72) rfl rfl
set_option maxRecDepth 20000 in
theorem q176 : (Cond.code yX6_ofVersion cX6_ofVersion 5 (Option.some Jvm.ClassFile.FieldType.int)) ∈ xTs := xTs_2 (i := 73) rfl rfl
set_option maxRecDepth 20000 in
theorem q177 : (Cond.methodLink RX6 91 yX6_versionAt) ∈ xTs := xTs_2 (i := 74) rfl rfl
set_option maxRecDepth 20000 in
theorem q178 : (Cond.instanceMethod yX6_versionAt) ∈ xTs := xTs_2 (i := 76) rfl rfl
set_option maxRecDepth 20000 in
theorem q179 : (Cond.code yX6_versionAt cX6_versionAt 4 (Option.some (Jvm.ClassFile.FieldType.object "ServiceApiary$Version"))) ∈ xTs := xTs_2 (i := 77) rfl rfl
set_option maxRecDepth 20000 in
theorem q180 : (Cond.methodLink RX6 99 yX6_versionFact) ∈ xTs := xTs_2 (i := 80) rfl rfl
set_option maxRecDepth 20000 in
theorem q181 : (Cond.instanceMethod yX6_versionFact) ∈ xTs := xTs_2 (i := 82) rfl rfl
set_option maxRecDepth 20000 in
theorem q182 : (Cond.code yX6_versionFact cX6_versionFact 3 (Option.some Jvm.ClassFile.FieldType.int)) ∈ xTs := xTs_2 (i := 83) rfl rfl
set_option maxRecDepth 20000 in
theorem q183 : (Cond.methodLink RX6 290 yX6_countCallers) ∈ xTs := xTs_2 (i := 84) rfl rfl
set_option maxRecDepth 20000 in
theorem q184 : (Cond.instanceMethod yX6_countCallers) ∈ xTs := xTs_2 (i := 86) rfl rfl
set_option maxRecDepth 20000 in
theorem q185 : (Cond.code yX6_countCallers cX6_countCallers 5 (Option.some Jvm.ClassFile.FieldType.int)) ∈ xTs := xTs_2 (i := 87) rfl rfl
set_option maxRecDepth 20000 in
theorem q186 : (Cond.methodLink RX6 323 yX1_isCallerOf) ∈ xTs := xTs_2 (i := 88) rfl rfl
set_option maxRecDepth 20000 in
theorem q187 : (Cond.instanceMethod yX1_isCallerOf) ∈ xTs := xTs_2 (i := 89) rfl rfl
set_option maxRecDepth 20000 in
theorem q188 : (Cond.selects RX1 yX1_isCallerOf yX1_isCallerOf) ∈ xTs := xTs_2 (i := 90) rfl rfl
set_option maxRecDepth 20000 in
theorem q189 : (Cond.code yX1_isCallerOf cX1_isCallerOf 4 (Option.some Jvm.ClassFile.FieldType.boolean)) ∈ xTs := xTs_2 (i := 91) rfl rfl
set_option maxRecDepth 20000 in
theorem q190 : (Cond.methodLink RX1 45 yX1_calledAtOf) ∈ xTs := xTs_2 (i := 92) rfl rfl
set_option maxRecDepth 20000 in
theorem q191 : (Cond.instanceMethod yX1_calledAtOf) ∈ xTs := xTs_2 (i := 93) rfl rfl
set_option maxRecDepth 20000 in
theorem q192 : (Cond.selects RX1 yX1_calledAtOf yX1_calledAtOf) ∈ xTs := xTs_2 (i := 94) rfl rfl
set_option maxRecDepth 20000 in
theorem q193 : (Cond.code yX1_calledAtOf cX1_calledAtOf 3 (Option.some Jvm.ClassFile.FieldType.int)) ∈ xTs := xTs_2 (i := 95) rfl rfl
set_option maxRecDepth 20000 in
theorem q194 : (Cond.methodLink RX6 293 yX6_countHinderers) ∈ xTs := xTs_2 (i := 96) rfl rfl
set_option maxRecDepth 20000 in
theorem q195 : (Cond.instanceMethod yX6_countHinderers) ∈ xTs := xTs_2 (i := 98) rfl rfl
set_option maxRecDepth 20000 in
theorem q196 : (Cond.code yX6_countHinderers cX6_countHinderers 8 (Option.some Jvm.ClassFile.FieldType.int)) ∈ xTs := xTs_2 (i := 99) rfl rfl
set_option maxRecDepth 20000 in
theorem q197 : (Cond.methodLink RX6 228 yX3_isWarned) ∈ xTs := xTs_2 (i := 100) rfl rfl
set_option maxRecDepth 20000 in
theorem q198 : (Cond.instanceMethod yX3_isWarned) ∈ xTs := xTs_2 (i := 101) rfl rfl
set_option maxRecDepth 20000 in
theorem q199 : (Cond.selects RX3 yX3_isWarned yX3_isWarned) ∈ xTs := xTs_2 (i := 102) rfl rfl
set_option maxRecDepth 20000 in
theorem q200 : (Cond.code yX3_isWarned cX3_isWarned 4 (Option.some Jvm.ClassFile.FieldType.boolean)) ∈ xTs := xTs_2 (i := 103) rfl rfl
set_option maxRecDepth 20000 in
theorem q201 : (Cond.methodLink RX3 34 yX3_askedAtOf) ∈ xTs := xTs_2 (i := 104) rfl rfl
set_option maxRecDepth 20000 in
theorem q202 : (Cond.instanceMethod yX3_askedAtOf) ∈ xTs := xTs_2 (i := 105) rfl rfl
set_option maxRecDepth 20000 in
theorem q203 : (Cond.selects RX3 yX3_askedAtOf yX3_askedAtOf) ∈ xTs := xTs_2 (i := 106) rfl rfl
set_option maxRecDepth 20000 in
theorem q204 : (Cond.code yX3_askedAtOf cX3_askedAtOf 2 (Option.some Jvm.ClassFile.FieldType.int)) ∈ xTs := xTs_2 (i := 107) rfl rfl
set_option maxRecDepth 20000 in
theorem q205 : (Cond.methodLink RX3 38 yX3_hasAnswered) ∈ xTs := xTs_2 (i := 108) rfl rfl
set_option maxRecDepth 20000 in
theorem q206 : (Cond.instanceMethod yX3_hasAnswered) ∈ xTs := xTs_2 (i := 109) rfl rfl
set_option maxRecDepth 20000 in
theorem q207 : (Cond.selects RX3 yX3_hasAnswered yX3_hasAnswered) ∈ xTs := xTs_2 (i := 110) rfl rfl
set_option maxRecDepth 20000 in
theorem q208 : (Cond.code yX3_hasAnswered cX3_hasAnswered 2 (Option.some Jvm.ClassFile.FieldType.boolean)) ∈ xTs := xTs_2 (i := 111) rfl rfl
set_option maxRecDepth 20000 in
theorem q209 : (Cond.methodLink RX6 394 yX6_isCallerThen) ∈ xTs := xTs_2 (i := 112) rfl rfl
set_option maxRecDepth 20000 in
theorem q210 : (Cond.instanceMethod yX6_isCallerThen) ∈ xTs := xTs_2 (i := 114) rfl rfl
set_option maxRecDepth 20000 in
theorem q211 : (Cond.code yX6_isCallerThen cX6_isCallerThen 5 (Option.some Jvm.ClassFile.FieldType.boolean)) ∈ xTs := xTs_2 (i := 115) rfl rfl
set_option maxRecDepth 20000 in
theorem q212 : (Cond.methodLink RX6 338 yX6_findRoute) ∈ xTs := xTs_2 (i := 116) rfl rfl
set_option maxRecDepth 20000 in
theorem q213 : (Cond.instanceMethod yX6_findRoute) ∈ xTs := xTs_2 (i := 118) rfl rfl
set_option maxRecDepth 20000 in
theorem q214 : (Cond.code yX6_findRoute cX6_findRoute 5 (Option.some Jvm.ClassFile.FieldType.boolean)) ∈ xTs := xTs_2 (i := 119) rfl rfl
set_option maxRecDepth 20000 in
theorem q215 : (Cond.methodLink RX6 345 yX6_completes) ∈ xTs := xTs_2 (i := 120) rfl rfl
set_option maxRecDepth 20000 in
theorem q216 : (Cond.static yX6_completes) ∈ xTs := xTs_2 (i := 121) rfl rfl
set_option maxRecDepth 20000 in
theorem q217 : (Cond.code yX6_completes cX6_completes 7 (Option.some Jvm.ClassFile.FieldType.boolean)) ∈ xTs := xTs_2 (i := 122) rfl rfl
set_option maxRecDepth 20000 in
theorem q218 : (Cond.methodLink RX6 120 yX6_fits) ∈ xTs := xTs_2 (i := 123) rfl rfl
set_option maxRecDepth 20000 in
theorem q219 : (Cond.static yX6_fits) ∈ xTs := xTs_2 (i := 124) rfl rfl
set_option maxRecDepth 20000 in
theorem q220 : (Cond.code yX6_fits cX6_fits 3 (Option.some Jvm.ClassFile.FieldType.boolean)) ∈ xTs := xTs_2 (i := 125) rfl rfl
set_option maxRecDepth 20000 in
theorem q221 : (Cond.methodLink RX6 355 yX0_makesOf) ∈ xTs := xTs_2 (i := 126) rfl rfl
set_option maxRecDepth 20000 in
theorem q222 : (Cond.instanceMethod yX0_makesOf) ∈ xTs := xTs_2 (i := 127) rfl rfl
set_option maxRecDepth 20000 in
theorem q223 : (Cond.selects RX0 yX0_makesOf yX0_makesOf) ∈ xTs := xTs_2 (i := 128) rfl rfl
set_option maxRecDepth 20000 in
theorem q224 : (Cond.code yX0_makesOf cX0_makesOf 2 (Option.some Jvm.ClassFile.FieldType.int)) ∈ xTs := xTs_2 (i := 129) rfl rfl
set_option maxRecDepth 20000 in
theorem q225 : (Cond.methodLink RX6 302 yX6_countGeneratedFor) ∈ xTs := xTs_2 (i := 130) rfl rfl
set_option maxRecDepth 20000 in
theorem q226 : (Cond.instanceMethod yX6_countGeneratedFor) ∈ xTs := xTs_2 (i := 132) rfl rfl
set_option maxRecDepth 20000 in
theorem q227 : (Cond.code yX6_countGeneratedFor cX6_countGeneratedFor 5 (Option.some Jvm.ClassFile.FieldType.int)) ∈ xTs := xTs_2 (i := 133) rfl rfl
set_option maxRecDepth 20000 in
theorem q228 : (Cond.methodLink RL 81 yX6_isCompatible) ∈ xTs := xTs_2 (i := 134) rfl rfl
set_option maxRecDepth 20000 in
theorem q229 : (Cond.instanceMethod yX6_isCompatible) ∈ xTs := xTs_2 (i := 135) rfl rfl
set_option maxRecDepth 20000 in
theorem q230 : (Cond.selects RX6 yX6_isCompatible yX6_isCompatible) ∈ xTs := xTs_2 (i := 136) rfl rfl
set_option maxRecDepth 20000 in
theorem q231 : (Cond.code yX6_isCompatible cX6_isCompatible 6 (Option.some Jvm.ClassFile.FieldType.boolean)) ∈ xTs := xTs_2 (i := 137) rfl rfl
set_option maxRecDepth 20000 in
theorem q232 : (Cond.methodLink RL 30 yX6_client) ∈ xTs := xTs_2 (i := 138) rfl rfl
set_option maxRecDepth 20000 in
theorem q233 : (Cond.instanceMethod yX6_client) ∈ xTs := xTs_2 (i := 139) rfl rfl
set_option maxRecDepth 20000 in
theorem q234 : (Cond.selects RX6 yX6_client yX6_client) ∈ xTs := xTs_2 (i := 140) rfl rfl
set_option maxRecDepth 20000 in
theorem q235 : (Cond.code yX6_client cX6_client 6 (Option.some Jvm.ClassFile.FieldType.int)) ∈ xTs := xTs_2 (i := 141) rfl rfl
set_option maxRecDepth 20000 in
theorem q236 : (Cond.methodLink RX6 107 yX6_isOwner) ∈ xTs := xTs_2 (i := 142) rfl rfl
set_option maxRecDepth 20000 in
theorem q237 : (Cond.static yX6_isOwner) ∈ xTs := xTs_2 (i := 143) rfl rfl
set_option maxRecDepth 20000 in
theorem q238 : (Cond.code yX6_isOwner cX6_isOwner 1 (Option.some Jvm.ClassFile.FieldType.boolean)) ∈ xTs := xTs_2 (i := 144) rfl rfl
set_option maxRecDepth 20000 in
theorem q239 : (Cond.instantiable RX1 8) ∈ xTs := xTs_2 (i := 147) rfl rfl
set_option maxRecDepth 20000 in
theorem q240 : (Cond.methodLink RX6 134 yX1_init) ∈ xTs := xTs_2 (i := 148) rfl rfl
set_option maxRecDepth 20000 in
theorem q241 : (Cond.instanceMethod yX1_init) ∈ xTs := xTs_2 (i := 149) rfl rfl
set_option maxRecDepth 20000 in
theorem q242 : (Cond.code yX1_init cX1_init 4 (Option.none : Option Jvm.ClassFile.FieldType)) ∈ xTs := xTs_2 (i := 150) rfl rfl
set_option maxRecDepth 20000 in
theorem q243 : (Cond.methodLink RX1 3 objectInit) ∈ xTs := xTs_2 (i := 151) rfl rfl
set_option maxRecDepth 20000 in
theorem q244 : (Cond.methodLink RX1 36 yJ7_fill_53178) ∈ xTs := xTs_2 (i := 152) rfl rfl
set_option maxRecDepth 20000 in
theorem q245 : (Cond.fieldLink RX1 18 "ServiceApiary$Client" "owner" "I") ∈ xTs := xTs_2 (i := 153) rfl rfl
set_option maxRecDepth 20000 in
theorem q246 : (Cond.fieldLink RX6 305 "ServiceApiary$Client" "owner" "I") ∈ xTs := xTs_2 (i := 154) rfl rfl
set_option maxRecDepth 20000 in
theorem q247 : (Cond.fieldLink RX1 28 "ServiceApiary$Client" "face" "LServiceApiary$Face;") ∈ xTs := xTs_2 (i := 155) rfl rfl
set_option maxRecDepth 20000 in
theorem q248 : (Cond.fieldLink RX6 141 "ServiceApiary$Client" "face" "LServiceApiary$Face;") ∈ xTs := xTs_2 (i := 156) rfl rfl
set_option maxRecDepth 20000 in
theorem q249 : (Cond.fieldLink RX1 9 "ServiceApiary$Client" "calledAt" "[I") ∈ xTs := xTs_2 (i := 157) rfl rfl
set_option maxRecDepth 20000 in
theorem q250 : (Cond.fieldLink RX1 15 "ServiceApiary$Client" "servedThisHour" "[I") ∈ xTs := xTs_2 (i := 158) rfl rfl
set_option maxRecDepth 20000 in
theorem q251 : (Cond.fieldLink RX6 378 "ServiceApiary$Client" "servedThisHour" "[I") ∈ xTs := xTs_2 (i := 159) rfl rfl
set_option maxRecDepth 20000 in
theorem q252 : (Cond.fieldLink RX1 29 "ServiceApiary$Client" "version" "LServiceApiary$Version;") ∈ xTs := xTs_2 (i := 160) rfl rfl
set_option maxRecDepth 20000 in
theorem q253 : (Cond.fieldLink RX6 159 "ServiceApiary$Client" "version" "LServiceApiary$Version;") ∈ xTs := xTs_2 (i := 161) rfl rfl
set_option maxRecDepth 20000 in
theorem q254 : (Cond.fieldLink RX1 33 "ServiceApiary$Client" "uses" "I") ∈ xTs := xTs_2 (i := 162) rfl rfl
set_option maxRecDepth 20000 in
theorem q255 : (Cond.fieldLink RX6 152 "ServiceApiary$Client" "uses" "I") ∈ xTs := xTs_2 (i := 163) rfl rfl
set_option maxRecDepth 20000 in
theorem q256 : (Cond.fieldLink RX1 49 "ServiceApiary$Client" "callCount" "I") ∈ xTs := xTs_2 (i := 164) rfl rfl
set_option maxRecDepth 20000 in
theorem q257 : (Cond.fieldLink RX6 309 "ServiceApiary$Client" "callCount" "I") ∈ xTs := xTs_2 (i := 165) rfl rfl
set_option maxRecDepth 20000 in
theorem q258 : (Cond.fieldLink RX1 52 "ServiceApiary$Client" "refusedCount" "I") ∈ xTs := xTs_2 (i := 166) rfl rfl
set_option maxRecDepth 20000 in
theorem q259 : (Cond.fieldLink RX6 310 "ServiceApiary$Client" "refusedCount" "I") ∈ xTs := xTs_2 (i := 167) rfl rfl
set_option maxRecDepth 20000 in
theorem q260 : (Cond.laysFinal "ServiceApiary$Client" "ServiceApiary$Client" "owner" "I") ∈ xTs := xTs_2 (i := 168) rfl rfl
set_option maxRecDepth 20000 in
theorem q261 : (Cond.laysFinal "ServiceApiary$Client" "ServiceApiary$Client" "face" "LServiceApiary$Face;") ∈ xTs := xTs_2 (i := 170) rfl rfl
set_option maxRecDepth 20000 in
theorem q262 : (Cond.laysFinal "ServiceApiary$Client" "ServiceApiary$Client" "calledAt" "[I") ∈ xTs := xTs_2 (i := 172) rfl rfl
set_option maxRecDepth 20000 in
theorem q263 : (Cond.laysFinal "ServiceApiary$Client" "ServiceApiary$Client" "servedThisHour" "[I") ∈ xTs := xTs_2 (i := 174) rfl rfl
set_option maxRecDepth 20000 in
theorem q264 : (Cond.lays "ServiceApiary$Client" "ServiceApiary$Client" "version" "LServiceApiary$Version;") ∈ xTs := xTs_2 (i := 176) rfl rfl
set_option maxRecDepth 20000 in
theorem q265 : (Cond.lays "ServiceApiary$Client" "ServiceApiary$Client" "uses" "I") ∈ xTs := xTs_2 (i := 178) rfl rfl
set_option maxRecDepth 20000 in
theorem q266 : (Cond.lays "ServiceApiary$Client" "ServiceApiary$Client" "callCount" "I") ∈ xTs := xTs_2 (i := 180) rfl rfl
set_option maxRecDepth 20000 in
theorem q267 : (Cond.lays "ServiceApiary$Client" "ServiceApiary$Client" "refusedCount" "I") ∈ xTs := xTs_2 (i := 182) rfl rfl
set_option maxRecDepth 20000 in
theorem q268 : (Cond.methodLink RL 70 yX6_again) ∈ xTs := xTs_2 (i := 185) rfl rfl
set_option maxRecDepth 20000 in
theorem q269 : (Cond.instanceMethod yX6_again) ∈ xTs := xTs_2 (i := 186) rfl rfl
set_option maxRecDepth 20000 in
theorem q270 : (Cond.selects RX6 yX6_again yX6_again) ∈ xTs := xTs_2 (i := 187) rfl rfl
set_option maxRecDepth 20000 in
theorem q271 : (Cond.code yX6_again cX6_again 5 (Option.some Jvm.ClassFile.FieldType.int)) ∈ xTs := xTs_2 (i := 188) rfl rfl
set_option maxRecDepth 20000 in
theorem q272 : (Cond.methodLink RX6 137 yX6_clientAt) ∈ xTs := xTs_2 (i := 189) rfl rfl
set_option maxRecDepth 20000 in
theorem q273 : (Cond.instanceMethod yX6_clientAt) ∈ xTs := xTs_2 (i := 191) rfl rfl
set_option maxRecDepth 20000 in
theorem q274 : (Cond.code yX6_clientAt cX6_clientAt 2 (Option.some (Jvm.ClassFile.FieldType.object "ServiceApiary$Client"))) ∈ xTs := xTs_2 (i := 192) rfl rfl
set_option maxRecDepth 20000 in
theorem q275 : (Cond.methodLink RX6 155 yX5_usesAgain) ∈ xTs := xTs_2 (i := 195) rfl rfl
set_option maxRecDepth 20000 in
theorem q276 : (Cond.instanceMethod yX5_usesAgain) ∈ xTs := xTs_2 (i := 196) rfl rfl
set_option maxRecDepth 20000 in
theorem q277 : (Cond.selects RX5 yX5_usesAgain yX5_usesAgain) ∈ xTs := xTs_2 (i := 197) rfl rfl
set_option maxRecDepth 20000 in
theorem q278 : (Cond.code yX5_usesAgain cX5_usesAgain 2 (Option.some Jvm.ClassFile.FieldType.int)) ∈ xTs := xTs_2 (i := 198) rfl rfl
set_option maxRecDepth 20000 in
theorem q279 : (Cond.methodLink RL 34 yX6_adapter) ∈ xTs := xTs_2 (i := 199) rfl rfl
set_option maxRecDepth 20000 in
theorem q280 : (Cond.instanceMethod yX6_adapter) ∈ xTs := xTs_2 (i := 200) rfl rfl
set_option maxRecDepth 20000 in
theorem q281 : (Cond.selects RX6 yX6_adapter yX6_adapter) ∈ xTs := xTs_2 (i := 201) rfl rfl
set_option maxRecDepth 20000 in
theorem q282 : (Cond.code yX6_adapter cX6_adapter 8 (Option.some Jvm.ClassFile.FieldType.int)) ∈ xTs := xTs_2 (i := 202) rfl rfl
set_option maxRecDepth 20000 in
theorem q283 : (Cond.instantiable RX0 4) ∈ xTs := xTs_2 (i := 205) rfl rfl
set_option maxRecDepth 20000 in
theorem q284 : (Cond.methodLink RX6 170 yX0_init) ∈ xTs := xTs_2 (i := 206) rfl rfl
set_option maxRecDepth 20000 in
theorem q285 : (Cond.instanceMethod yX0_init) ∈ xTs := xTs_2 (i := 207) rfl rfl
set_option maxRecDepth 20000 in
theorem q286 : (Cond.code yX0_init cX0_init 5 (Option.none : Option Jvm.ClassFile.FieldType)) ∈ xTs := xTs_2 (i := 208) rfl rfl
set_option maxRecDepth 20000 in
theorem q287 : (Cond.methodLink RX0 1 objectInit) ∈ xTs := xTs_2 (i := 209) rfl rfl
set_option maxRecDepth 20000 in
theorem q288 : (Cond.fieldLink RX0 7 "ServiceApiary$Adapter" "from" "LServiceApiary$Version;") ∈ xTs := xTs_2 (i := 210) rfl rfl
set_option maxRecDepth 20000 in
theorem q289 : (Cond.fieldLink RX6 349 "ServiceApiary$Adapter" "from" "LServiceApiary$Version;") ∈ xTs := xTs_2 (i := 211) rfl rfl
set_option maxRecDepth 20000 in
theorem q290 : (Cond.fieldLink RX0 13 "ServiceApiary$Adapter" "to" "LServiceApiary$Version;") ∈ xTs := xTs_2 (i := 212) rfl rfl
set_option maxRecDepth 20000 in
theorem q291 : (Cond.fieldLink RX6 352 "ServiceApiary$Adapter" "to" "LServiceApiary$Version;") ∈ xTs := xTs_2 (i := 213) rfl rfl
set_option maxRecDepth 20000 in
theorem q292 : (Cond.fieldLink RX0 16 "ServiceApiary$Adapter" "adds" "I") ∈ xTs := xTs_2 (i := 214) rfl rfl
set_option maxRecDepth 20000 in
theorem q293 : (Cond.fieldLink RX0 20 "ServiceApiary$Adapter" "drops" "I") ∈ xTs := xTs_2 (i := 215) rfl rfl
set_option maxRecDepth 20000 in
theorem q294 : (Cond.laysFinal "ServiceApiary$Adapter" "ServiceApiary$Adapter" "from" "LServiceApiary$Version;") ∈ xTs := xTs_2 (i := 216) rfl rfl
set_option maxRecDepth 20000 in
theorem q295 : (Cond.laysFinal "ServiceApiary$Adapter" "ServiceApiary$Adapter" "to" "LServiceApiary$Version;") ∈ xTs := xTs_2 (i := 218) rfl rfl
set_option maxRecDepth 20000 in
theorem q296 : (Cond.laysFinal "ServiceApiary$Adapter" "ServiceApiary$Adapter" "adds" "I") ∈ xTs := xTs_2 (i := 220) rfl rfl
set_option maxRecDepth 20000 in
theorem q297 : (Cond.laysFinal "ServiceApiary$Adapter" "ServiceApiary$Adapter" "drops" "I") ∈ xTs := xTs_2 (i := 222) rfl rfl
set_option maxRecDepth 20000 in
theorem q298 : (Cond.methodLink RL 48 yX6_ofClient) ∈ xTs := xTs_2 (i := 225) rfl rfl
set_option maxRecDepth 20000 in
theorem q299 : (Cond.instanceMethod yX6_ofClient) ∈ xTs := xTs_2 (i := 226) rfl rfl
set_option maxRecDepth 20000 in
theorem q300 : (Cond.selects RX6 yX6_ofClient yX6_ofClient) ∈ xTs := xTs_2 (i := 227) rfl rfl
set_option maxRecDepth 20000 in
theorem q301 : (Cond.code yX6_ofClient cX6_ofClient 4 (Option.some Jvm.ClassFile.FieldType.int)) ∈ xTs := xTs_2 (i := 228) rfl rfl
set_option maxRecDepth 20000 in
theorem q302 : (Cond.methodLink RX6 177 yX6_clientFact) ∈ xTs := xTs_2 (i := 231) rfl rfl
set_option maxRecDepth 20000 in
theorem q303 : (Cond.instanceMethod yX6_clientFact) ∈ xTs := xTs_2 (i := 233) rfl rfl
set_option maxRecDepth 20000 in
theorem q304 : (Cond.code yX6_clientFact cX6_clientFact 3 (Option.some Jvm.ClassFile.FieldType.int)) ∈ xTs := xTs_2 (i := 234) rfl rfl
set_option maxRecDepth 20000 in
theorem q305 : (Cond.methodLink RX6 181 yX6_findOwnRoute) ∈ xTs := xTs_2 (i := 235) rfl rfl
set_option maxRecDepth 20000 in
theorem q306 : (Cond.instanceMethod yX6_findOwnRoute) ∈ xTs := xTs_2 (i := 237) rfl rfl
set_option maxRecDepth 20000 in
theorem q307 : (Cond.code yX6_findOwnRoute cX6_findOwnRoute 2 (Option.some Jvm.ClassFile.FieldType.boolean)) ∈ xTs := xTs_2 (i := 238) rfl rfl
set_option maxRecDepth 20000 in
theorem q308 : (Cond.methodLink RL 45 yX6_call) ∈ xTs := xTs_2 (i := 239) rfl rfl
set_option maxRecDepth 20000 in
theorem q309 : (Cond.instanceMethod yX6_call) ∈ xTs := xTs_3 (i := 0) rfl rfl
set_option maxRecDepth 20000 in
theorem q310 : (Cond.selects RX6 yX6_call yX6_call) ∈ xTs := xTs_3 (i := 1) rfl rfl
set_option maxRecDepth 20000 in
theorem q311 : (Cond.code yX6_call cX6_call 6 (Option.some Jvm.ClassFile.FieldType.int)) ∈ xTs := xTs_3 (i := 2) rfl rfl
set_option maxRecDepth 20000 in
theorem q312 : (Cond.methodLink RX6 196 yX6_isServedCall) ∈ xTs := xTs_3 (i := 4) rfl rfl
set_option maxRecDepth 20000 in
theorem q313 : (Cond.instanceMethod yX6_isServedCall) ∈ xTs := xTs_3 (i := 6) rfl rfl
set_option maxRecDepth 20000 in
theorem q314 : (Cond.code yX6_isServedCall cX6_isServedCall 5 (Option.some Jvm.ClassFile.FieldType.boolean)) ∈ xTs := xTs_3 (i := 7) rfl rfl
set_option maxRecDepth 20000 in
theorem q315 : (Cond.methodLink RX6 358 yX3_ask) ∈ xTs := xTs_3 (i := 8) rfl rfl
set_option maxRecDepth 20000 in
theorem q316 : (Cond.instanceMethod yX3_ask) ∈ xTs := xTs_3 (i := 9) rfl rfl
set_option maxRecDepth 20000 in
theorem q317 : (Cond.selects RX3 yX3_ask yX3_ask) ∈ xTs := xTs_3 (i := 10) rfl rfl
set_option maxRecDepth 20000 in
theorem q318 : (Cond.code yX3_ask cX3_ask 3 (Option.some Jvm.ClassFile.FieldType.boolean)) ∈ xTs := xTs_3 (i := 11) rfl rfl
set_option maxRecDepth 20000 in
theorem q319 : (Cond.methodLink RX6 361 yX1_servedThisHourBy) ∈ xTs := xTs_3 (i := 12) rfl rfl
set_option maxRecDepth 20000 in
theorem q320 : (Cond.instanceMethod yX1_servedThisHourBy) ∈ xTs := xTs_3 (i := 13) rfl rfl
set_option maxRecDepth 20000 in
theorem q321 : (Cond.selects RX1 yX1_servedThisHourBy yX1_servedThisHourBy) ∈ xTs := xTs_3 (i := 14) rfl rfl
set_option maxRecDepth 20000 in
theorem q322 : (Cond.code yX1_servedThisHourBy cX1_servedThisHourBy 3 (Option.some Jvm.ClassFile.FieldType.int)) ∈ xTs := xTs_3 (i := 15) rfl rfl
set_option maxRecDepth 20000 in
theorem q323 : (Cond.methodLink RX6 364 yX6_outcomeOf) ∈ xTs := xTs_3 (i := 16) rfl rfl
set_option maxRecDepth 20000 in
theorem q324 : (Cond.instanceMethod yX6_outcomeOf) ∈ xTs := xTs_3 (i := 18) rfl rfl
set_option maxRecDepth 20000 in
theorem q325 : (Cond.code yX6_outcomeOf cX6_outcomeOf 6 (Option.some Jvm.ClassFile.FieldType.int)) ∈ xTs := xTs_3 (i := 19) rfl rfl
set_option maxRecDepth 20000 in
theorem q326 : (Cond.methodLink RX6 372 yX3_isBrownedOut) ∈ xTs := xTs_3 (i := 20) rfl rfl
set_option maxRecDepth 20000 in
theorem q327 : (Cond.instanceMethod yX3_isBrownedOut) ∈ xTs := xTs_3 (i := 21) rfl rfl
set_option maxRecDepth 20000 in
theorem q328 : (Cond.selects RX3 yX3_isBrownedOut yX3_isBrownedOut) ∈ xTs := xTs_3 (i := 22) rfl rfl
set_option maxRecDepth 20000 in
theorem q329 : (Cond.code yX3_isBrownedOut cX3_isBrownedOut 3 (Option.some Jvm.ClassFile.FieldType.boolean)) ∈ xTs := xTs_3 (i := 23) rfl rfl
set_option maxRecDepth 20000 in
theorem q330 : (Cond.methodLink RX6 375 yX3_quota) ∈ xTs := xTs_3 (i := 24) rfl rfl
set_option maxRecDepth 20000 in
theorem q331 : (Cond.instanceMethod yX3_quota) ∈ xTs := xTs_3 (i := 25) rfl rfl
set_option maxRecDepth 20000 in
theorem q332 : (Cond.selects RX3 yX3_quota yX3_quota) ∈ xTs := xTs_3 (i := 26) rfl rfl
set_option maxRecDepth 20000 in
theorem q333 : (Cond.code yX3_quota cX3_quota 2 (Option.some Jvm.ClassFile.FieldType.int)) ∈ xTs := xTs_3 (i := 27) rfl rfl
set_option maxRecDepth 20000 in
theorem q334 : (Cond.methodLink RX3 42 Lib.Math.max.name) ∈ xTs := xTs_3 (i := 28) rfl rfl
set_option maxRecDepth 20000 in
theorem q335 : (Cond.static Lib.Math.max.name) ∈ xTs := xTs_3 (i := 29) rfl rfl
set_option maxRecDepth 20000 in
theorem q336 : (Cond.code Lib.Math.max.name Lib.Math.max.code 2 (some .int)) ∈ xTs := xTs_3 (i := 30) rfl rfl
set_option maxRecDepth 20000 in
theorem q337 : (Cond.methodLink RX6 368 yX1_noteCall) ∈ xTs := xTs_3 (i := 31) rfl rfl
set_option maxRecDepth 20000 in
theorem q338 : (Cond.instanceMethod yX1_noteCall) ∈ xTs := xTs_3 (i := 32) rfl rfl
set_option maxRecDepth 20000 in
theorem q339 : (Cond.selects RX1 yX1_noteCall yX1_noteCall) ∈ xTs := xTs_3 (i := 33) rfl rfl
set_option maxRecDepth 20000 in
theorem q340 : (Cond.code yX1_noteCall cX1_noteCall 4 (Option.none : Option Jvm.ClassFile.FieldType)) ∈ xTs := xTs_3 (i := 34) rfl rfl
set_option maxRecDepth 20000 in
theorem q341 : (Cond.methodLink RL 51 yX6_lastCall) ∈ xTs := xTs_3 (i := 35) rfl rfl
set_option maxRecDepth 20000 in
theorem q342 : (Cond.instanceMethod yX6_lastCall) ∈ xTs := xTs_3 (i := 36) rfl rfl
set_option maxRecDepth 20000 in
theorem q343 : (Cond.selects RX6 yX6_lastCall yX6_lastCall) ∈ xTs := xTs_3 (i := 37) rfl rfl
set_option maxRecDepth 20000 in
theorem q344 : (Cond.code yX6_lastCall cX6_lastCall 5 (Option.some Jvm.ClassFile.FieldType.int)) ∈ xTs := xTs_3 (i := 38) rfl rfl
set_option maxRecDepth 20000 in
theorem q345 : (Cond.methodLink RX6 205 yX6_hoursSinceCall) ∈ xTs := xTs_3 (i := 39) rfl rfl
set_option maxRecDepth 20000 in
theorem q346 : (Cond.instanceMethod yX6_hoursSinceCall) ∈ xTs := xTs_3 (i := 41) rfl rfl
set_option maxRecDepth 20000 in
theorem q347 : (Cond.code yX6_hoursSinceCall cX6_hoursSinceCall 4 (Option.some Jvm.ClassFile.FieldType.int)) ∈ xTs := xTs_3 (i := 42) rfl rfl
set_option maxRecDepth 20000 in
theorem q348 : (Cond.methodLink RX6 327 yX1_calledAtOf) ∈ xTs := xTs_3 (i := 43) rfl rfl
set_option maxRecDepth 20000 in
theorem q349 : (Cond.methodLink RL 57 yX6_retire) ∈ xTs := xTs_3 (i := 44) rfl rfl
set_option maxRecDepth 20000 in
theorem q350 : (Cond.instanceMethod yX6_retire) ∈ xTs := xTs_3 (i := 45) rfl rfl
set_option maxRecDepth 20000 in
theorem q351 : (Cond.selects RX6 yX6_retire yX6_retire) ∈ xTs := xTs_3 (i := 46) rfl rfl
set_option maxRecDepth 20000 in
theorem q352 : (Cond.code yX6_retire cX6_retire 5 (Option.some Jvm.ClassFile.FieldType.int)) ∈ xTs := xTs_3 (i := 47) rfl rfl
set_option maxRecDepth 20000 in
theorem q353 : (Cond.methodLink RX6 214 yX6_startRetirement) ∈ xTs := xTs_3 (i := 49) rfl rfl
set_option maxRecDepth 20000 in
theorem q354 : (Cond.instanceMethod yX6_startRetirement) ∈ xTs := xTs_3 (i := 51) rfl rfl
set_option maxRecDepth 20000 in
theorem q355 : (Cond.code yX6_startRetirement cX6_startRetirement 7 (Option.some Jvm.ClassFile.FieldType.int)) ∈ xTs := xTs_3 (i := 52) rfl rfl
set_option maxRecDepth 20000 in
theorem q356 : (Cond.methodLink RX6 390 yX3_start) ∈ xTs := xTs_3 (i := 53) rfl rfl
set_option maxRecDepth 20000 in
theorem q357 : (Cond.instanceMethod yX3_start) ∈ xTs := xTs_3 (i := 54) rfl rfl
set_option maxRecDepth 20000 in
theorem q358 : (Cond.selects RX3 yX3_start yX3_start) ∈ xTs := xTs_3 (i := 55) rfl rfl
set_option maxRecDepth 20000 in
theorem q359 : (Cond.code yX3_start cX3_start 3 (Option.none : Option Jvm.ClassFile.FieldType)) ∈ xTs := xTs_3 (i := 56) rfl rfl
set_option maxRecDepth 20000 in
theorem q360 : (Cond.methodLink RX3 28 yX3_clear) ∈ xTs := xTs_3 (i := 57) rfl rfl
set_option maxRecDepth 20000 in
theorem q361 : (Cond.instanceMethod yX3_clear) ∈ xTs := xTs_3 (i := 58) rfl rfl
set_option maxRecDepth 20000 in
theorem q362 : (Cond.selects RX3 yX3_clear yX3_clear) ∈ xTs := xTs_3 (i := 59) rfl rfl
set_option maxRecDepth 20000 in
theorem q363 : (Cond.code yX3_clear cX3_clear 1 (Option.none : Option Jvm.ClassFile.FieldType)) ∈ xTs := xTs_3 (i := 60) rfl rfl
set_option maxRecDepth 20000 in
theorem q364 : (Cond.methodLink RL 63 yX6_answer) ∈ xTs := xTs_3 (i := 61) rfl rfl
set_option maxRecDepth 20000 in
theorem q365 : (Cond.instanceMethod yX6_answer) ∈ xTs := xTs_3 (i := 62) rfl rfl
set_option maxRecDepth 20000 in
theorem q366 : (Cond.selects RX6 yX6_answer yX6_answer) ∈ xTs := xTs_3 (i := 63) rfl rfl
set_option maxRecDepth 20000 in
theorem q367 : (Cond.code yX6_answer cX6_answer 6 (Option.some Jvm.ClassFile.FieldType.boolean)) ∈ xTs := xTs_3 (i := 64) rfl rfl
set_option maxRecDepth 20000 in
theorem q368 : (Cond.methodLink RX6 220 yX3_askedAtOf) ∈ xTs := xTs_3 (i := 66) rfl rfl
set_option maxRecDepth 20000 in
theorem q369 : (Cond.methodLink RL 60 yX6_asked) ∈ xTs := xTs_3 (i := 68) rfl rfl
set_option maxRecDepth 20000 in
theorem q370 : (Cond.instanceMethod yX6_asked) ∈ xTs := xTs_3 (i := 69) rfl rfl
set_option maxRecDepth 20000 in
theorem q371 : (Cond.selects RX6 yX6_asked yX6_asked) ∈ xTs := xTs_3 (i := 70) rfl rfl
set_option maxRecDepth 20000 in
theorem q372 : (Cond.code yX6_asked cX6_asked 5 (Option.some Jvm.ClassFile.FieldType.int)) ∈ xTs := xTs_3 (i := 71) rfl rfl
set_option maxRecDepth 20000 in
theorem q373 : (Cond.methodLink RX6 242 yX6_askedState) ∈ xTs := xTs_3 (i := 72) rfl rfl
set_option maxRecDepth 20000 in
theorem q374 : (Cond.instanceMethod yX6_askedState) ∈ xTs := xTs_3 (i := 74) rfl rfl
set_option maxRecDepth 20000 in
theorem q375 : (Cond.code yX6_askedState cX6_askedState 4 (Option.some Jvm.ClassFile.FieldType.int)) ∈ xTs := xTs_3 (i := 75) rfl rfl
set_option maxRecDepth 20000 in
theorem q376 : (Cond.methodLink RX6 330 yX3_hasAnswered) ∈ xTs := xTs_3 (i := 76) rfl rfl
set_option maxRecDepth 20000 in
theorem q377 : (Cond.methodLink RL 41 yX6_many) ∈ xTs := xTs_3 (i := 77) rfl rfl
set_option maxRecDepth 20000 in
theorem q378 : (Cond.instanceMethod yX6_many) ∈ xTs := xTs_3 (i := 78) rfl rfl
set_option maxRecDepth 20000 in
theorem q379 : (Cond.selects RX6 yX6_many yX6_many) ∈ xTs := xTs_3 (i := 79) rfl rfl
set_option maxRecDepth 20000 in
theorem q380 : (Cond.code yX6_many cX6_many 2 (Option.some Jvm.ClassFile.FieldType.int)) ∈ xTs := xTs_3 (i := 80) rfl rfl
set_option maxRecDepth 20000 in
theorem q381 : (Cond.methodLink RX6 246 yX6_countOf) ∈ xTs := xTs_3 (i := 81) rfl rfl
set_option maxRecDepth 20000 in
theorem q382 : (Cond.instanceMethod yX6_countOf) ∈ xTs := xTs_3 (i := 83) rfl rfl
set_option maxRecDepth 20000 in
theorem q383 : (Cond.code yX6_countOf cX6_countOf 2 (Option.some Jvm.ClassFile.FieldType.int)) ∈ xTs := xTs_3 (i := 84) rfl rfl
set_option maxRecDepth 20000 in
theorem q384 : (Cond.methodLink RX6 317 yX6_countVersions) ∈ xTs := xTs_3 (i := 85) rfl rfl
set_option maxRecDepth 20000 in
theorem q385 : (Cond.instanceMethod yX6_countVersions) ∈ xTs := xTs_3 (i := 87) rfl rfl
set_option maxRecDepth 20000 in
theorem q386 : (Cond.code yX6_countVersions cX6_countVersions 6 (Option.some Jvm.ClassFile.FieldType.int)) ∈ xTs := xTs_3 (i := 88) rfl rfl
set_option maxRecDepth 20000 in
theorem q387 : (Cond.methodLink RL 38 yX6_wouldCome) ∈ xTs := xTs_3 (i := 89) rfl rfl
set_option maxRecDepth 20000 in
theorem q388 : (Cond.instanceMethod yX6_wouldCome) ∈ xTs := xTs_3 (i := 90) rfl rfl
set_option maxRecDepth 20000 in
theorem q389 : (Cond.selects RX6 yX6_wouldCome yX6_wouldCome) ∈ xTs := xTs_3 (i := 91) rfl rfl
set_option maxRecDepth 20000 in
theorem q390 : (Cond.code yX6_wouldCome cX6_wouldCome 4 (Option.some Jvm.ClassFile.FieldType.int)) ∈ xTs := xTs_3 (i := 92) rfl rfl
set_option maxRecDepth 20000 in
theorem q391 : (Cond.methodLink RX6 257 yX6_outcomeIn) ∈ xTs := xTs_3 (i := 94) rfl rfl
set_option maxRecDepth 20000 in
theorem q392 : (Cond.instanceMethod yX6_outcomeIn) ∈ xTs := xTs_3 (i := 96) rfl rfl
set_option maxRecDepth 20000 in
theorem q393 : (Cond.code yX6_outcomeIn cX6_outcomeIn 6 (Option.some Jvm.ClassFile.FieldType.int)) ∈ xTs := xTs_3 (i := 97) rfl rfl
set_option maxRecDepth 20000 in
theorem q394 : (Cond.methodLink RX6 267 yX6_hoursTillGone) ∈ xTs := xTs_3 (i := 98) rfl rfl
set_option maxRecDepth 20000 in
theorem q395 : (Cond.instanceMethod yX6_hoursTillGone) ∈ xTs := xTs_3 (i := 100) rfl rfl
set_option maxRecDepth 20000 in
theorem q396 : (Cond.code yX6_hoursTillGone cX6_hoursTillGone 6 (Option.some Jvm.ClassFile.FieldType.int)) ∈ xTs := xTs_3 (i := 101) rfl rfl
set_option maxRecDepth 20000 in
theorem q397 : (Cond.methodLink RL 67 yX6_target) ∈ xTs := xTs_3 (i := 102) rfl rfl
set_option maxRecDepth 20000 in
theorem q398 : (Cond.instanceMethod yX6_target) ∈ xTs := xTs_3 (i := 103) rfl rfl
set_option maxRecDepth 20000 in
theorem q399 : (Cond.selects RX6 yX6_target yX6_target) ∈ xTs := xTs_3 (i := 104) rfl rfl
set_option maxRecDepth 20000 in
theorem q400 : (Cond.code yX6_target cX6_target 3 (Option.some Jvm.ClassFile.FieldType.int)) ∈ xTs := xTs_3 (i := 105) rfl rfl
set_option maxRecDepth 20000 in
theorem q401 : (Cond.methodLink RX6 263 yX6_nearestOpen) ∈ xTs := xTs_3 (i := 106) rfl rfl
set_option maxRecDepth 20000 in
theorem q402 : (Cond.instanceMethod yX6_nearestOpen) ∈ xTs := xTs_3 (i := 108) rfl rfl
set_option maxRecDepth 20000 in
theorem q403 : (Cond.code yX6_nearestOpen cX6_nearestOpen 7 (Option.some Jvm.ClassFile.FieldType.int)) ∈ xTs := xTs_3 (i := 109) rfl rfl
set_option maxRecDepth 20000 in
theorem q404 : (Cond.methodLink RX6 333 yJ6_bitCount_0f7a4) ∈ xTs := xTs_3 (i := 110) rfl rfl
set_option maxRecDepth 20000 in
theorem q405 : (Cond.static yJ6_bitCount_0f7a4) ∈ xTs := xTs_3 (i := 111) rfl rfl
set_option maxRecDepth 20000 in
theorem q406 : (Cond.code yJ6_bitCount_0f7a4 cJ6_bitCount_0f7a4 1 (Option.some Jvm.ClassFile.FieldType.int)) ∈ xTs := xTs_3 (i := 112) rfl rfl
set_option maxRecDepth 20000 in
theorem q407 : (Cond.constant RJ6 265 1431655765) ∈ xTs := xTs_3 (i := 113) rfl rfl
set_option maxRecDepth 20000 in
theorem q408 : (Cond.constant RJ6 266 858993459) ∈ xTs := xTs_3 (i := 114) rfl rfl
set_option maxRecDepth 20000 in
theorem q409 : (Cond.constant RJ6 267 252645135) ∈ xTs := xTs_3 (i := 115) rfl rfl
set_option maxRecDepth 20000 in
theorem q410 : (Cond.methodLink RL 77 yX6_digest) ∈ xTs := xTs_3 (i := 116) rfl rfl
set_option maxRecDepth 20000 in
theorem q411 : (Cond.instanceMethod yX6_digest) ∈ xTs := xTs_3 (i := 117) rfl rfl
set_option maxRecDepth 20000 in
theorem q412 : (Cond.selects RX6 yX6_digest yX6_digest) ∈ xTs := xTs_3 (i := 118) rfl rfl
set_option maxRecDepth 20000 in
theorem q413 : (Cond.code yX6_digest cX6_digest 6 (Option.some Jvm.ClassFile.FieldType.long)) ∈ xTs := xTs_3 (i := 119) rfl rfl
set_option maxRecDepth 20000 in
theorem q414 : (Cond.constantLong RX6 271 58106) ∈ xTs := xTs_3 (i := 120) rfl rfl
set_option maxRecDepth 20000 in
theorem q415 : (Cond.constantLong RX6 273 31) ∈ xTs := xTs_3 (i := 121) rfl rfl
set_option maxRecDepth 20000 in
theorem q416 : (Cond.methodLink RX6 275 yX6_digestVersion) ∈ xTs := xTs_3 (i := 122) rfl rfl
set_option maxRecDepth 20000 in
theorem q417 : (Cond.instanceMethod yX6_digestVersion) ∈ xTs := xTs_3 (i := 124) rfl rfl
set_option maxRecDepth 20000 in
theorem q418 : (Cond.code yX6_digestVersion cX6_digestVersion 7 (Option.some Jvm.ClassFile.FieldType.long)) ∈ xTs := xTs_3 (i := 125) rfl rfl
set_option maxRecDepth 20000 in
theorem q419 : (Cond.methodLink RX6 260 yX6_hoursLeft) ∈ xTs := xTs_3 (i := 126) rfl rfl
set_option maxRecDepth 20000 in
theorem q420 : (Cond.instanceMethod yX6_hoursLeft) ∈ xTs := xTs_3 (i := 128) rfl rfl
set_option maxRecDepth 20000 in
theorem q421 : (Cond.code yX6_hoursLeft cX6_hoursLeft 2 (Option.some Jvm.ClassFile.FieldType.int)) ∈ xTs := xTs_3 (i := 129) rfl rfl
set_option maxRecDepth 20000 in
theorem q422 : (Cond.methodLink RX6 279 yX6_digestClient) ∈ xTs := xTs_3 (i := 130) rfl rfl
set_option maxRecDepth 20000 in
theorem q423 : (Cond.instanceMethod yX6_digestClient) ∈ xTs := xTs_3 (i := 132) rfl rfl
set_option maxRecDepth 20000 in
theorem q424 : (Cond.code yX6_digestClient cX6_digestClient 8 (Option.some Jvm.ClassFile.FieldType.long)) ∈ xTs := xTs_3 (i := 133) rfl rfl
set_option maxRecDepth 20000 in
theorem q425 : (Cond.methodLink RL 22 yL_below) ∈ xTs := xTs_3 (i := 134) rfl rfl
set_option maxRecDepth 20000 in
theorem q426 : (Cond.static yL_below) ∈ xTs := xTs_3 (i := 135) rfl rfl
set_option maxRecDepth 20000 in
theorem q427 : (Cond.code yL_below cL_below 2 (Option.some Jvm.ClassFile.FieldType.int)) ∈ xTs := xTs_3 (i := 136) rfl rfl
set_option maxRecDepth 20000 in
theorem q428 : (Cond.constant RL 7 2147483647) ∈ xTs := xTs_3 (i := 137) rfl rfl
set_option maxRecDepth 20000 in
theorem q429 : (Cond.methodLink RL 16 yL_cell) ∈ xTs := xTs_3 (i := 138) rfl rfl
set_option maxRecDepth 20000 in
theorem q430 : (Cond.static yL_cell) ∈ xTs := xTs_3 (i := 139) rfl rfl
set_option maxRecDepth 20000 in
theorem q431 : (Cond.code yL_cell cL_cell 2 (Option.some Jvm.ClassFile.FieldType.int)) ∈ xTs := xTs_3 (i := 140) rfl rfl
set_option maxRecDepth 20000 in
theorem q432 : (Cond.constant RL 8 790386105) ∈ xTs := xTs_3 (i := 141) rfl rfl
set_option maxRecDepth 20000 in
theorem q433 : (Cond.methodLink RL 73 yL_isKind) ∈ xTs := xTs_3 (i := 142) rfl rfl
set_option maxRecDepth 20000 in
theorem q434 : (Cond.static yL_isKind) ∈ xTs := xTs_3 (i := 143) rfl rfl
set_option maxRecDepth 20000 in
theorem q435 : (Cond.code yL_isKind cL_isKind 12 (Option.some Jvm.ClassFile.FieldType.boolean)) ∈ xTs := xTs_3 (i := 144) rfl rfl
set_option maxRecDepth 20000 in
theorem q436 : (Cond.classLink RL 84 "[[I") ∈ xTs := xTs_3 (i := 145) rfl rfl
set_option maxRecDepth 20000 in
theorem q437 : (Cond.methodLink RL 86 yX6_pass) ∈ xTs := xTs_3 (i := 147) rfl rfl
set_option maxRecDepth 20000 in
theorem q438 : (Cond.instanceMethod yX6_pass) ∈ xTs := xTs_3 (i := 148) rfl rfl
set_option maxRecDepth 20000 in
theorem q439 : (Cond.selects RX6 yX6_pass yX6_pass) ∈ xTs := xTs_3 (i := 149) rfl rfl
set_option maxRecDepth 20000 in
theorem q440 : (Cond.code yX6_pass cX6_pass 4 (Option.some Jvm.ClassFile.FieldType.int)) ∈ xTs := xTs_3 (i := 150) rfl rfl
set_option maxRecDepth 20000 in
theorem q441 : (Cond.methodLink RX6 201 yX6_beginHour) ∈ xTs := xTs_3 (i := 152) rfl rfl
set_option maxRecDepth 20000 in
theorem q442 : (Cond.instanceMethod yX6_beginHour) ∈ xTs := xTs_3 (i := 154) rfl rfl
set_option maxRecDepth 20000 in
theorem q443 : (Cond.code yX6_beginHour cX6_beginHour 5 (Option.some Jvm.ClassFile.FieldType.int)) ∈ xTs := xTs_3 (i := 155) rfl rfl
set_option maxRecDepth 20000 in
theorem q444 : (Cond.methodLink RX6 381 yJ7_fill_53178) ∈ xTs := xTs_3 (i := 156) rfl rfl
set_option maxRecDepth 20000 in
theorem q445 : (Cond.methodLink RX6 387 yX6_isGoneAtEnd) ∈ xTs := xTs_3 (i := 157) rfl rfl
set_option maxRecDepth 20000 in
theorem q446 : (Cond.instanceMethod yX6_isGoneAtEnd) ∈ xTs := xTs_3 (i := 159) rfl rfl
set_option maxRecDepth 20000 in
theorem q447 : (Cond.code yX6_isGoneAtEnd cX6_isGoneAtEnd 2 (Option.some Jvm.ClassFile.FieldType.boolean)) ∈ xTs := xTs_3 (i := 160) rfl rfl
set_option maxRecDepth 20000 in
theorem q448 : (Cond.selects RX6 yX6_faceAt yX6_faceAt) ∈ xTs := xTs_0 (i := 1) rfl rfl
set_option maxRecDepth 20000 in
theorem q449 : (Cond.selects RX6 yX6_versionAt yX6_versionAt) ∈ xTs := xTs_0 (i := 2) rfl rfl
set_option maxRecDepth 20000 in
theorem q450 : (Cond.selects RX6 yX6_versionFact yX6_versionFact) ∈ xTs := xTs_0 (i := 3) rfl rfl
set_option maxRecDepth 20000 in
theorem q451 : (Cond.selects RX6 yX6_countCallers yX6_countCallers) ∈ xTs := xTs_0 (i := 4) rfl rfl
set_option maxRecDepth 20000 in
theorem q452 : (Cond.selects RX6 yX6_countHinderers yX6_countHinderers) ∈ xTs := xTs_0 (i := 5) rfl rfl
set_option maxRecDepth 20000 in
theorem q453 : (Cond.selects RX6 yX6_isCallerThen yX6_isCallerThen) ∈ xTs := xTs_0 (i := 6) rfl rfl
set_option maxRecDepth 20000 in
theorem q454 : (Cond.selects RX6 yX6_findRoute yX6_findRoute) ∈ xTs := xTs_0 (i := 7) rfl rfl
set_option maxRecDepth 20000 in
theorem q455 : (Cond.selects RX6 yX6_countGeneratedFor yX6_countGeneratedFor) ∈ xTs := xTs_0 (i := 8) rfl rfl
set_option maxRecDepth 20000 in
theorem q456 : (Cond.selects RX6 yX6_clientAt yX6_clientAt) ∈ xTs := xTs_0 (i := 9) rfl rfl
set_option maxRecDepth 20000 in
theorem q457 : (Cond.selects RX6 yX6_clientFact yX6_clientFact) ∈ xTs := xTs_0 (i := 10) rfl rfl
set_option maxRecDepth 20000 in
theorem q458 : (Cond.selects RX6 yX6_findOwnRoute yX6_findOwnRoute) ∈ xTs := xTs_0 (i := 11) rfl rfl
set_option maxRecDepth 20000 in
theorem q459 : (Cond.selects RX6 yX6_isServedCall yX6_isServedCall) ∈ xTs := xTs_0 (i := 12) rfl rfl
set_option maxRecDepth 20000 in
theorem q460 : (Cond.selects RX6 yX6_outcomeOf yX6_outcomeOf) ∈ xTs := xTs_0 (i := 13) rfl rfl
set_option maxRecDepth 20000 in
theorem q461 : (Cond.selects RX6 yX6_hoursSinceCall yX6_hoursSinceCall) ∈ xTs := xTs_0 (i := 14) rfl rfl
set_option maxRecDepth 20000 in
theorem q462 : (Cond.selects RX6 yX6_startRetirement yX6_startRetirement) ∈ xTs := xTs_0 (i := 15) rfl rfl
set_option maxRecDepth 20000 in
theorem q463 : (Cond.selects RX6 yX6_askedState yX6_askedState) ∈ xTs := xTs_0 (i := 16) rfl rfl
set_option maxRecDepth 20000 in
theorem q464 : (Cond.selects RX6 yX6_countOf yX6_countOf) ∈ xTs := xTs_0 (i := 17) rfl rfl
set_option maxRecDepth 20000 in
theorem q465 : (Cond.selects RX6 yX6_countVersions yX6_countVersions) ∈ xTs := xTs_0 (i := 18) rfl rfl
set_option maxRecDepth 20000 in
theorem q466 : (Cond.selects RX6 yX6_outcomeIn yX6_outcomeIn) ∈ xTs := xTs_0 (i := 19) rfl rfl
set_option maxRecDepth 20000 in
theorem q467 : (Cond.selects RX6 yX6_hoursTillGone yX6_hoursTillGone) ∈ xTs := xTs_0 (i := 20) rfl rfl
set_option maxRecDepth 20000 in
theorem q468 : (Cond.selects RX6 yX6_nearestOpen yX6_nearestOpen) ∈ xTs := xTs_0 (i := 21) rfl rfl
set_option maxRecDepth 20000 in
theorem q469 : (Cond.selects RX6 yX6_digestVersion yX6_digestVersion) ∈ xTs := xTs_0 (i := 22) rfl rfl
set_option maxRecDepth 20000 in
theorem q470 : (Cond.selects RX6 yX6_hoursLeft yX6_hoursLeft) ∈ xTs := xTs_0 (i := 23) rfl rfl
set_option maxRecDepth 20000 in
theorem q471 : (Cond.selects RX6 yX6_digestClient yX6_digestClient) ∈ xTs := xTs_0 (i := 24) rfl rfl
set_option maxRecDepth 20000 in
theorem q472 : (Cond.selects RX6 yX6_beginHour yX6_beginHour) ∈ xTs := xTs_0 (i := 25) rfl rfl
set_option maxRecDepth 20000 in
theorem q473 : (Cond.selects RX6 yX6_isGoneAtEnd yX6_isGoneAtEnd) ∈ xTs := xTs_0 (i := 26) rfl rfl
/-- words of the tables that are kept in another way -/
def x_xt (U : State) : Prop := va_Nw (Cond.arrayOver (FieldType.object "ServiceApiary$Face")) U ∧ va_Nw (Cond.arrayOver (FieldType.object "ServiceApiary$Client")) U ∧ va_Nw (Cond.arrayOver (FieldType.object "ServiceApiary$Adapter")) U ∧ va_Nw (Cond.methodLinkNest RX6 29 yX4_init RX6) U ∧ va_Nw (Cond.arrayOver (FieldType.object "ServiceApiary$Version")) U ∧ True
theorem x1 {U : State} (h : x_xt U) : va_Nw (Cond.arrayOver (FieldType.object "ServiceApiary$Face")) U := h.1
theorem x2 {U : State} (h : x_xt U) : va_Nw (Cond.arrayOver (FieldType.object "ServiceApiary$Client")) U := h.2.1
theorem x3 {U : State} (h : x_xt U) : va_Nw (Cond.arrayOver (FieldType.object "ServiceApiary$Adapter")) U := h.2.2.1
theorem x4 {U : State} (h : x_xt U) : va_Nw (Cond.methodLinkNest RX6 29 yX4_init RX6) U := h.2.2.2.1
theorem x5 {U : State} (h : x_xt U) : va_Nw (Cond.arrayOver (FieldType.object "ServiceApiary$Version")) U := h.2.2.2.2.1
theorem x_xt.warm {s U : State} (hW : s.WarmedH U.vm) (h : x_xt s) : x_xt U := ⟨va_AO.moved hW.alike h.1, va_AO.moved hW.alike h.2.1, va_AO.moved hW.alike h.2.2.1, va_Nw.warmM hW h.2.2.2.1, va_AO.moved hW.alike h.2.2.2.2.1, trivial⟩
theorem x_xt.same {u U : State} (hv : u.vm = U.vm) (h : x_xt u) : x_xt U := ⟨va_AO.moved (by rw [hv]; exact Vm.Alike.refl _) h.1, va_AO.moved (by rw [hv]; exact Vm.Alike.refl _) h.2.1, va_AO.moved (by rw [hv]; exact Vm.Alike.refl _) h.2.2.1, va_Nw.same rfl hv h.2.2.2.1, va_AO.moved (by rw [hv]; exact Vm.Alike.refl _) h.2.2.2.2.1, trivial⟩
set_option maxRecDepth 20000 in
theorem x_xt.of {A : Array Value} {U : State} (h : ∀ w ∈ lw_tbl, w.before A U = true) : x_xt U := ⟨va_AO.of (h _ (List.mem_append_right _ (List.mem_append_left _ (List.mem_of_getElem? (i := 26) (l := tables_1_1) rfl)))), va_AO.of (h _ (List.mem_append_right _ (List.mem_append_left _ (List.mem_of_getElem? (i := 28) (l := tables_1_1) rfl)))), va_AO.of (h _ (List.mem_append_right _ (List.mem_append_left _ (List.mem_of_getElem? (i := 30) (l := tables_1_1) rfl)))), va_Nw.of rfl (h _ (List.mem_append_right _ (List.mem_append_left _ (List.mem_of_getElem? (i := 33) (l := tables_1_1) rfl)))), va_AO.of (h _ (List.mem_append_right _ (List.mem_append_left _ (List.mem_of_getElem? (i := 195) (l := tables_1_1) rfl)))), trivial⟩
set_option maxRecDepth 20000 in
theorem inX0 : ∀ q ∈ u_ws RX0 TX0 4, q ∈ xTs := List.forall_mem_cons.mpr ⟨q294, List.forall_mem_cons.mpr ⟨q295, List.forall_mem_cons.mpr ⟨q296, List.forall_mem_cons.mpr ⟨q297, fun _ h => absurd h List.not_mem_nil⟩⟩⟩⟩
set_option maxRecDepth 20000 in
theorem inX1 : ∀ q ∈ u_ws RX1 TX1 8, q ∈ xTs := List.forall_mem_cons.mpr ⟨q260, List.forall_mem_cons.mpr ⟨q261, List.forall_mem_cons.mpr ⟨q262, List.forall_mem_cons.mpr ⟨q263, List.forall_mem_cons.mpr ⟨q264, List.forall_mem_cons.mpr ⟨q265, List.forall_mem_cons.mpr ⟨q266, List.forall_mem_cons.mpr ⟨q267, fun _ h => absurd h List.not_mem_nil⟩⟩⟩⟩⟩⟩⟩⟩
set_option maxRecDepth 20000 in
theorem inX2 : ∀ q ∈ u_ws RX2 TX2 3, q ∈ xTs := List.forall_mem_cons.mpr ⟨q108, List.forall_mem_cons.mpr ⟨q109, List.forall_mem_cons.mpr ⟨q110, fun _ h => absurd h List.not_mem_nil⟩⟩⟩
set_option maxRecDepth 20000 in
theorem inX3 : ∀ q ∈ u_ws RX3 TX3 4, q ∈ xTs := List.forall_mem_cons.mpr ⟨q61, List.forall_mem_cons.mpr ⟨q62, List.forall_mem_cons.mpr ⟨q63, List.forall_mem_cons.mpr ⟨q64, fun _ h => absurd h List.not_mem_nil⟩⟩⟩⟩
set_option maxRecDepth 20000 in
theorem inX4 : ∀ q ∈ u_ws RX4 TX4 5, q ∈ xTs := List.forall_mem_cons.mpr ⟨q39, List.forall_mem_cons.mpr ⟨q40, List.forall_mem_cons.mpr ⟨q41, List.forall_mem_cons.mpr ⟨q42, List.forall_mem_cons.mpr ⟨q43, fun _ h => absurd h List.not_mem_nil⟩⟩⟩⟩⟩
set_option maxRecDepth 20000 in
theorem inX5 : ∀ q ∈ u_ws RX5 TX5 9, q ∈ xTs := List.forall_mem_cons.mpr ⟨q153, List.forall_mem_cons.mpr ⟨q154, List.forall_mem_cons.mpr ⟨q155, List.forall_mem_cons.mpr ⟨q156, List.forall_mem_cons.mpr ⟨q157, List.forall_mem_cons.mpr ⟨q158, List.forall_mem_cons.mpr ⟨q159, List.forall_mem_cons.mpr ⟨q160, List.forall_mem_cons.mpr ⟨q161, fun _ h => absurd h List.not_mem_nil⟩⟩⟩⟩⟩⟩⟩⟩⟩
set_option maxRecDepth 20000 in
theorem inX6 : ∀ q ∈ u_ws RX6 TX6 12, q ∈ xTs := List.forall_mem_cons.mpr ⟨q77, List.forall_mem_cons.mpr ⟨q78, List.forall_mem_cons.mpr ⟨q79, List.forall_mem_cons.mpr ⟨q80, List.forall_mem_cons.mpr ⟨q81, List.forall_mem_cons.mpr ⟨q82, List.forall_mem_cons.mpr ⟨q83, List.forall_mem_cons.mpr ⟨q84, List.forall_mem_cons.mpr ⟨q85, List.forall_mem_cons.mpr ⟨q86, List.forall_mem_cons.mpr ⟨q87, List.forall_mem_cons.mpr ⟨q88, fun _ h => absurd h List.not_mem_nil⟩⟩⟩⟩⟩⟩⟩⟩⟩⟩⟩⟩
theorem x_gV {own C : String} {idx maxL : Nat} {y : MethodName} {bytes : ByteArray} {rt : Option FieldType} (h1 : Cond.methodLink own idx y ∈ xTs) (h2 : Cond.instanceMethod y ∈ xTs) (h3 : Cond.selects C y y ∈ xTs) (h4 : Cond.initialized C ∈ xTs) (h5 : Cond.code y bytes maxL rt ∈ xTs) : GoodIn xTs (wsV own idx C y (Cond.code y bytes maxL rt :: xTs)) := by
  intro w hw
  unfold wsV at hw
  rcases List.mem_append.mp hw with h | h
  · simp only [List.mem_cons, List.not_mem_nil, or_false] at h
    rcases h with rfl | rfl | rfl | rfl
    · exact xTs_good _ h1
    · exact xTs_good _ h2
    · exact xTs_good _ h3
    · exact xTs_good _ h4
  · rcases List.mem_cons.mp h with rfl | h
    · exact xTs_good _ h5
    · exact xTs_good _ h
theorem x_gS {own : String} {idx maxL : Nat} {y : MethodName} {bytes : ByteArray} {rt : Option FieldType} (h1 : Cond.methodLink own idx y ∈ xTs) (h2 : Cond.static y ∈ xTs) (h4 : Cond.initialized y.cls ∈ xTs) (h5 : Cond.code y bytes maxL rt ∈ xTs) : GoodIn xTs (va_wsS own idx y (Cond.code y bytes maxL rt :: xTs)) := by
  intro w hw
  unfold va_wsS at hw
  rcases List.mem_append.mp hw with h | h
  · simp only [List.mem_cons, List.not_mem_nil, or_false] at h
    rcases h with rfl | rfl | rfl
    · exact xTs_good _ h1
    · exact xTs_good _ h2
    · exact xTs_good _ h4
  · rcases List.mem_cons.mp h with rfl | h
    · exact xTs_good _ h5
    · exact xTs_good _ h
theorem x_gI {maxL : Nat} {y : MethodName} {bytes : ByteArray} {rt : Option FieldType} (h5 : Cond.code y bytes maxL rt ∈ xTs) : GoodIn xTs (Cond.code y bytes maxL rt :: xTs) := by
  intro w hw
  rcases List.mem_cons.mp hw with rfl | h
  · exact xTs_good _ h5
  · exact xTs_good _ h
abbrev wX6_init : List Cond := Cond.code yX6_init cX6_init 1 (Option.none : Option Jvm.ClassFile.FieldType) :: xTs
theorem xd_X6_init : yX6_init.cls ≠ "java/lang/invoke/MethodHandle" ∧ yX6_init.cls ≠ "java/lang/invoke/VarHandle" ∧ (parseMethodDescriptor yX6_init.desc).map (fun d => d.parameters.length) = some 0 := by decide +kernel
abbrev wX4_init : List Cond := Cond.code yX4_init cX4_init 1 (Option.none : Option Jvm.ClassFile.FieldType) :: xTs
theorem xd_X4_init : yX4_init.cls ≠ "java/lang/invoke/MethodHandle" ∧ yX4_init.cls ≠ "java/lang/invoke/VarHandle" ∧ (parseMethodDescriptor yX4_init.desc).map (fun d => d.parameters.length) = some 0 := by decide +kernel
abbrev wX3_init : List Cond := Cond.code yX3_init cX3_init 1 (Option.none : Option Jvm.ClassFile.FieldType) :: xTs
theorem xd_X3_init : yX3_init.cls ≠ "java/lang/invoke/MethodHandle" ∧ yX3_init.cls ≠ "java/lang/invoke/VarHandle" ∧ (parseMethodDescriptor yX3_init.desc).map (fun d => d.parameters.length) = some 0 := by decide +kernel
abbrev wJ7_fill_53178 : List Cond := Cond.code yJ7_fill_53178 cJ7_fill_53178 4 (Option.none : Option Jvm.ClassFile.FieldType) :: xTs
theorem xd_J7_fill_53178 : yJ7_fill_53178.cls ≠ "java/lang/invoke/MethodHandle" ∧ yJ7_fill_53178.cls ≠ "java/lang/invoke/VarHandle" ∧ (parseMethodDescriptor yJ7_fill_53178.desc).map (fun d => d.parameters.length) = some 2 := by decide +kernel
abbrev wX6_open : List Cond := Cond.code yX6_open cX6_open 1 (Option.some Jvm.ClassFile.FieldType.int) :: xTs
theorem xd_X6_open : yX6_open.cls ≠ "java/lang/invoke/MethodHandle" ∧ yX6_open.cls ≠ "java/lang/invoke/VarHandle" ∧ (parseMethodDescriptor yX6_open.desc).map (fun d => d.parameters.length) = some 0 := by decide +kernel
abbrev wX2_init : List Cond := Cond.code yX2_init cX2_init 2 (Option.none : Option Jvm.ClassFile.FieldType) :: xTs
theorem xd_X2_init : yX2_init.cls ≠ "java/lang/invoke/MethodHandle" ∧ yX2_init.cls ≠ "java/lang/invoke/VarHandle" ∧ (parseMethodDescriptor yX2_init.desc).map (fun d => d.parameters.length) = some 1 := by decide +kernel
abbrev wX6_publish : List Cond := Cond.code yX6_publish cX6_publish 8 (Option.some Jvm.ClassFile.FieldType.int) :: xTs
theorem xd_X6_publish : yX6_publish.cls ≠ "java/lang/invoke/MethodHandle" ∧ yX6_publish.cls ≠ "java/lang/invoke/VarHandle" ∧ (parseMethodDescriptor yX6_publish.desc).map (fun d => d.parameters.length) = some 3 := by decide +kernel
abbrev wX6_faceAt : List Cond := Cond.code yX6_faceAt cX6_faceAt 2 (Option.some (Jvm.ClassFile.FieldType.object "ServiceApiary$Face")) :: xTs
theorem xd_X6_faceAt : yX6_faceAt.cls ≠ "java/lang/invoke/MethodHandle" ∧ yX6_faceAt.cls ≠ "java/lang/invoke/VarHandle" ∧ (parseMethodDescriptor yX6_faceAt.desc).map (fun d => d.parameters.length) = some 1 := by decide +kernel
abbrev wX6_isShape : List Cond := Cond.code yX6_isShape cX6_isShape 2 (Option.some Jvm.ClassFile.FieldType.boolean) :: xTs
theorem xd_X6_isShape : yX6_isShape.cls ≠ "java/lang/invoke/MethodHandle" ∧ yX6_isShape.cls ≠ "java/lang/invoke/VarHandle" ∧ (parseMethodDescriptor yX6_isShape.desc).map (fun d => d.parameters.length) = some 2 := by decide +kernel
abbrev wX6_isFieldSet : List Cond := Cond.code yX6_isFieldSet cX6_isFieldSet 1 (Option.some Jvm.ClassFile.FieldType.boolean) :: xTs
theorem xd_X6_isFieldSet : yX6_isFieldSet.cls ≠ "java/lang/invoke/MethodHandle" ∧ yX6_isFieldSet.cls ≠ "java/lang/invoke/VarHandle" ∧ (parseMethodDescriptor yX6_isFieldSet.desc).map (fun d => d.parameters.length) = some 1 := by decide +kernel
abbrev wX5_init : List Cond := Cond.code yX5_init cX5_init 5 (Option.none : Option Jvm.ClassFile.FieldType) :: xTs
theorem xd_X5_init : yX5_init.cls ≠ "java/lang/invoke/MethodHandle" ∧ yX5_init.cls ≠ "java/lang/invoke/VarHandle" ∧ (parseMethodDescriptor yX5_init.desc).map (fun d => d.parameters.length) = some 4 := by decide +kernel
abbrev wX6_countSuited : List Cond := Cond.code yX6_countSuited cX6_countSuited 4 (Option.some Jvm.ClassFile.FieldType.int) :: xTs
theorem xd_X6_countSuited : yX6_countSuited.cls ≠ "java/lang/invoke/MethodHandle" ∧ yX6_countSuited.cls ≠ "java/lang/invoke/VarHandle" ∧ (parseMethodDescriptor yX6_countSuited.desc).map (fun d => d.parameters.length) = some 1 := by decide +kernel
abbrev wX2_versionAt : List Cond := Cond.code yX2_versionAt cX2_versionAt 2 (Option.some (Jvm.ClassFile.FieldType.object "ServiceApiary$Version")) :: xTs
theorem xd_X2_versionAt : yX2_versionAt.cls ≠ "java/lang/invoke/MethodHandle" ∧ yX2_versionAt.cls ≠ "java/lang/invoke/VarHandle" ∧ (parseMethodDescriptor yX2_versionAt.desc).map (fun d => d.parameters.length) = some 1 := by decide +kernel
abbrev wX5_suits : List Cond := Cond.code yX5_suits cX5_suits 2 (Option.some Jvm.ClassFile.FieldType.boolean) :: xTs
theorem xd_X5_suits : yX5_suits.cls ≠ "java/lang/invoke/MethodHandle" ∧ yX5_suits.cls ≠ "java/lang/invoke/VarHandle" ∧ (parseMethodDescriptor yX5_suits.desc).map (fun d => d.parameters.length) = some 1 := by decide +kernel
abbrev wX6_ofVersion : List Cond := Cond.code yX6_ofVersion cX6_ofVersion 5 (Option.some Jvm.ClassFile.FieldType.int) :: xTs
theorem xd_X6_ofVersion : yX6_ofVersion.cls ≠ "java/lang/invoke/MethodHandle" ∧ yX6_ofVersion.cls ≠ "java/lang/invoke/VarHandle" ∧ (parseMethodDescriptor yX6_ofVersion.desc).map (fun d => d.parameters.length) = some 3 := by decide +kernel
abbrev wX6_versionAt : List Cond := Cond.code yX6_versionAt cX6_versionAt 4 (Option.some (Jvm.ClassFile.FieldType.object "ServiceApiary$Version")) :: xTs
theorem xd_X6_versionAt : yX6_versionAt.cls ≠ "java/lang/invoke/MethodHandle" ∧ yX6_versionAt.cls ≠ "java/lang/invoke/VarHandle" ∧ (parseMethodDescriptor yX6_versionAt.desc).map (fun d => d.parameters.length) = some 2 := by decide +kernel
abbrev wX6_versionFact : List Cond := Cond.code yX6_versionFact cX6_versionFact 3 (Option.some Jvm.ClassFile.FieldType.int) :: xTs
theorem xd_X6_versionFact : yX6_versionFact.cls ≠ "java/lang/invoke/MethodHandle" ∧ yX6_versionFact.cls ≠ "java/lang/invoke/VarHandle" ∧ (parseMethodDescriptor yX6_versionFact.desc).map (fun d => d.parameters.length) = some 2 := by decide +kernel
abbrev wX6_countCallers : List Cond := Cond.code yX6_countCallers cX6_countCallers 5 (Option.some Jvm.ClassFile.FieldType.int) :: xTs
theorem xd_X6_countCallers : yX6_countCallers.cls ≠ "java/lang/invoke/MethodHandle" ∧ yX6_countCallers.cls ≠ "java/lang/invoke/VarHandle" ∧ (parseMethodDescriptor yX6_countCallers.desc).map (fun d => d.parameters.length) = some 1 := by decide +kernel
abbrev wX1_isCallerOf : List Cond := Cond.code yX1_isCallerOf cX1_isCallerOf 4 (Option.some Jvm.ClassFile.FieldType.boolean) :: xTs
theorem xd_X1_isCallerOf : yX1_isCallerOf.cls ≠ "java/lang/invoke/MethodHandle" ∧ yX1_isCallerOf.cls ≠ "java/lang/invoke/VarHandle" ∧ (parseMethodDescriptor yX1_isCallerOf.desc).map (fun d => d.parameters.length) = some 2 := by decide +kernel
abbrev wX1_calledAtOf : List Cond := Cond.code yX1_calledAtOf cX1_calledAtOf 3 (Option.some Jvm.ClassFile.FieldType.int) :: xTs
theorem xd_X1_calledAtOf : yX1_calledAtOf.cls ≠ "java/lang/invoke/MethodHandle" ∧ yX1_calledAtOf.cls ≠ "java/lang/invoke/VarHandle" ∧ (parseMethodDescriptor yX1_calledAtOf.desc).map (fun d => d.parameters.length) = some 1 := by decide +kernel
abbrev wX6_countHinderers : List Cond := Cond.code yX6_countHinderers cX6_countHinderers 8 (Option.some Jvm.ClassFile.FieldType.int) :: xTs
theorem xd_X6_countHinderers : yX6_countHinderers.cls ≠ "java/lang/invoke/MethodHandle" ∧ yX6_countHinderers.cls ≠ "java/lang/invoke/VarHandle" ∧ (parseMethodDescriptor yX6_countHinderers.desc).map (fun d => d.parameters.length) = some 4 := by decide +kernel
abbrev wX3_isWarned : List Cond := Cond.code yX3_isWarned cX3_isWarned 4 (Option.some Jvm.ClassFile.FieldType.boolean) :: xTs
theorem xd_X3_isWarned : yX3_isWarned.cls ≠ "java/lang/invoke/MethodHandle" ∧ yX3_isWarned.cls ≠ "java/lang/invoke/VarHandle" ∧ (parseMethodDescriptor yX3_isWarned.desc).map (fun d => d.parameters.length) = some 2 := by decide +kernel
abbrev wX3_askedAtOf : List Cond := Cond.code yX3_askedAtOf cX3_askedAtOf 2 (Option.some Jvm.ClassFile.FieldType.int) :: xTs
theorem xd_X3_askedAtOf : yX3_askedAtOf.cls ≠ "java/lang/invoke/MethodHandle" ∧ yX3_askedAtOf.cls ≠ "java/lang/invoke/VarHandle" ∧ (parseMethodDescriptor yX3_askedAtOf.desc).map (fun d => d.parameters.length) = some 1 := by decide +kernel
abbrev wX3_hasAnswered : List Cond := Cond.code yX3_hasAnswered cX3_hasAnswered 2 (Option.some Jvm.ClassFile.FieldType.boolean) :: xTs
theorem xd_X3_hasAnswered : yX3_hasAnswered.cls ≠ "java/lang/invoke/MethodHandle" ∧ yX3_hasAnswered.cls ≠ "java/lang/invoke/VarHandle" ∧ (parseMethodDescriptor yX3_hasAnswered.desc).map (fun d => d.parameters.length) = some 1 := by decide +kernel
abbrev wX6_isCallerThen : List Cond := Cond.code yX6_isCallerThen cX6_isCallerThen 5 (Option.some Jvm.ClassFile.FieldType.boolean) :: xTs
theorem xd_X6_isCallerThen : yX6_isCallerThen.cls ≠ "java/lang/invoke/MethodHandle" ∧ yX6_isCallerThen.cls ≠ "java/lang/invoke/VarHandle" ∧ (parseMethodDescriptor yX6_isCallerThen.desc).map (fun d => d.parameters.length) = some 4 := by decide +kernel
abbrev wX6_findRoute : List Cond := Cond.code yX6_findRoute cX6_findRoute 5 (Option.some Jvm.ClassFile.FieldType.boolean) :: xTs
theorem xd_X6_findRoute : yX6_findRoute.cls ≠ "java/lang/invoke/MethodHandle" ∧ yX6_findRoute.cls ≠ "java/lang/invoke/VarHandle" ∧ (parseMethodDescriptor yX6_findRoute.desc).map (fun d => d.parameters.length) = some 3 := by decide +kernel
abbrev wX6_completes : List Cond := Cond.code yX6_completes cX6_completes 7 (Option.some Jvm.ClassFile.FieldType.boolean) :: xTs
theorem xd_X6_completes : yX6_completes.cls ≠ "java/lang/invoke/MethodHandle" ∧ yX6_completes.cls ≠ "java/lang/invoke/VarHandle" ∧ (parseMethodDescriptor yX6_completes.desc).map (fun d => d.parameters.length) = some 5 := by decide +kernel
abbrev wX6_fits : List Cond := Cond.code yX6_fits cX6_fits 3 (Option.some Jvm.ClassFile.FieldType.boolean) :: xTs
theorem xd_X6_fits : yX6_fits.cls ≠ "java/lang/invoke/MethodHandle" ∧ yX6_fits.cls ≠ "java/lang/invoke/VarHandle" ∧ (parseMethodDescriptor yX6_fits.desc).map (fun d => d.parameters.length) = some 3 := by decide +kernel
abbrev wX0_makesOf : List Cond := Cond.code yX0_makesOf cX0_makesOf 2 (Option.some Jvm.ClassFile.FieldType.int) :: xTs
theorem xd_X0_makesOf : yX0_makesOf.cls ≠ "java/lang/invoke/MethodHandle" ∧ yX0_makesOf.cls ≠ "java/lang/invoke/VarHandle" ∧ (parseMethodDescriptor yX0_makesOf.desc).map (fun d => d.parameters.length) = some 1 := by decide +kernel
abbrev wX6_countGeneratedFor : List Cond := Cond.code yX6_countGeneratedFor cX6_countGeneratedFor 5 (Option.some Jvm.ClassFile.FieldType.int) :: xTs
theorem xd_X6_countGeneratedFor : yX6_countGeneratedFor.cls ≠ "java/lang/invoke/MethodHandle" ∧ yX6_countGeneratedFor.cls ≠ "java/lang/invoke/VarHandle" ∧ (parseMethodDescriptor yX6_countGeneratedFor.desc).map (fun d => d.parameters.length) = some 1 := by decide +kernel
abbrev wX6_isCompatible : List Cond := Cond.code yX6_isCompatible cX6_isCompatible 6 (Option.some Jvm.ClassFile.FieldType.boolean) :: xTs
theorem xd_X6_isCompatible : yX6_isCompatible.cls ≠ "java/lang/invoke/MethodHandle" ∧ yX6_isCompatible.cls ≠ "java/lang/invoke/VarHandle" ∧ (parseMethodDescriptor yX6_isCompatible.desc).map (fun d => d.parameters.length) = some 3 := by decide +kernel
abbrev wX6_client : List Cond := Cond.code yX6_client cX6_client 6 (Option.some Jvm.ClassFile.FieldType.int) :: xTs
theorem xd_X6_client : yX6_client.cls ≠ "java/lang/invoke/MethodHandle" ∧ yX6_client.cls ≠ "java/lang/invoke/VarHandle" ∧ (parseMethodDescriptor yX6_client.desc).map (fun d => d.parameters.length) = some 4 := by decide +kernel
abbrev wX6_isOwner : List Cond := Cond.code yX6_isOwner cX6_isOwner 1 (Option.some Jvm.ClassFile.FieldType.boolean) :: xTs
theorem xd_X6_isOwner : yX6_isOwner.cls ≠ "java/lang/invoke/MethodHandle" ∧ yX6_isOwner.cls ≠ "java/lang/invoke/VarHandle" ∧ (parseMethodDescriptor yX6_isOwner.desc).map (fun d => d.parameters.length) = some 1 := by decide +kernel
abbrev wX1_init : List Cond := Cond.code yX1_init cX1_init 4 (Option.none : Option Jvm.ClassFile.FieldType) :: xTs
theorem xd_X1_init : yX1_init.cls ≠ "java/lang/invoke/MethodHandle" ∧ yX1_init.cls ≠ "java/lang/invoke/VarHandle" ∧ (parseMethodDescriptor yX1_init.desc).map (fun d => d.parameters.length) = some 3 := by decide +kernel
abbrev wX6_again : List Cond := Cond.code yX6_again cX6_again 5 (Option.some Jvm.ClassFile.FieldType.int) :: xTs
theorem xd_X6_again : yX6_again.cls ≠ "java/lang/invoke/MethodHandle" ∧ yX6_again.cls ≠ "java/lang/invoke/VarHandle" ∧ (parseMethodDescriptor yX6_again.desc).map (fun d => d.parameters.length) = some 2 := by decide +kernel
abbrev wX6_clientAt : List Cond := Cond.code yX6_clientAt cX6_clientAt 2 (Option.some (Jvm.ClassFile.FieldType.object "ServiceApiary$Client")) :: xTs
theorem xd_X6_clientAt : yX6_clientAt.cls ≠ "java/lang/invoke/MethodHandle" ∧ yX6_clientAt.cls ≠ "java/lang/invoke/VarHandle" ∧ (parseMethodDescriptor yX6_clientAt.desc).map (fun d => d.parameters.length) = some 1 := by decide +kernel
abbrev wX5_usesAgain : List Cond := Cond.code yX5_usesAgain cX5_usesAgain 2 (Option.some Jvm.ClassFile.FieldType.int) :: xTs
theorem xd_X5_usesAgain : yX5_usesAgain.cls ≠ "java/lang/invoke/MethodHandle" ∧ yX5_usesAgain.cls ≠ "java/lang/invoke/VarHandle" ∧ (parseMethodDescriptor yX5_usesAgain.desc).map (fun d => d.parameters.length) = some 1 := by decide +kernel
abbrev wX6_adapter : List Cond := Cond.code yX6_adapter cX6_adapter 8 (Option.some Jvm.ClassFile.FieldType.int) :: xTs
theorem xd_X6_adapter : yX6_adapter.cls ≠ "java/lang/invoke/MethodHandle" ∧ yX6_adapter.cls ≠ "java/lang/invoke/VarHandle" ∧ (parseMethodDescriptor yX6_adapter.desc).map (fun d => d.parameters.length) = some 5 := by decide +kernel
abbrev wX0_init : List Cond := Cond.code yX0_init cX0_init 5 (Option.none : Option Jvm.ClassFile.FieldType) :: xTs
theorem xd_X0_init : yX0_init.cls ≠ "java/lang/invoke/MethodHandle" ∧ yX0_init.cls ≠ "java/lang/invoke/VarHandle" ∧ (parseMethodDescriptor yX0_init.desc).map (fun d => d.parameters.length) = some 4 := by decide +kernel
abbrev wX6_ofClient : List Cond := Cond.code yX6_ofClient cX6_ofClient 4 (Option.some Jvm.ClassFile.FieldType.int) :: xTs
theorem xd_X6_ofClient : yX6_ofClient.cls ≠ "java/lang/invoke/MethodHandle" ∧ yX6_ofClient.cls ≠ "java/lang/invoke/VarHandle" ∧ (parseMethodDescriptor yX6_ofClient.desc).map (fun d => d.parameters.length) = some 2 := by decide +kernel
abbrev wX6_clientFact : List Cond := Cond.code yX6_clientFact cX6_clientFact 3 (Option.some Jvm.ClassFile.FieldType.int) :: xTs
theorem xd_X6_clientFact : yX6_clientFact.cls ≠ "java/lang/invoke/MethodHandle" ∧ yX6_clientFact.cls ≠ "java/lang/invoke/VarHandle" ∧ (parseMethodDescriptor yX6_clientFact.desc).map (fun d => d.parameters.length) = some 2 := by decide +kernel
abbrev wX6_findOwnRoute : List Cond := Cond.code yX6_findOwnRoute cX6_findOwnRoute 2 (Option.some Jvm.ClassFile.FieldType.boolean) :: xTs
theorem xd_X6_findOwnRoute : yX6_findOwnRoute.cls ≠ "java/lang/invoke/MethodHandle" ∧ yX6_findOwnRoute.cls ≠ "java/lang/invoke/VarHandle" ∧ (parseMethodDescriptor yX6_findOwnRoute.desc).map (fun d => d.parameters.length) = some 1 := by decide +kernel
abbrev wX6_call : List Cond := Cond.code yX6_call cX6_call 6 (Option.some Jvm.ClassFile.FieldType.int) :: xTs
theorem xd_X6_call : yX6_call.cls ≠ "java/lang/invoke/MethodHandle" ∧ yX6_call.cls ≠ "java/lang/invoke/VarHandle" ∧ (parseMethodDescriptor yX6_call.desc).map (fun d => d.parameters.length) = some 2 := by decide +kernel
abbrev wX6_isServedCall : List Cond := Cond.code yX6_isServedCall cX6_isServedCall 5 (Option.some Jvm.ClassFile.FieldType.boolean) :: xTs
theorem xd_X6_isServedCall : yX6_isServedCall.cls ≠ "java/lang/invoke/MethodHandle" ∧ yX6_isServedCall.cls ≠ "java/lang/invoke/VarHandle" ∧ (parseMethodDescriptor yX6_isServedCall.desc).map (fun d => d.parameters.length) = some 1 := by decide +kernel
abbrev wX3_ask : List Cond := Cond.code yX3_ask cX3_ask 3 (Option.some Jvm.ClassFile.FieldType.boolean) :: xTs
theorem xd_X3_ask : yX3_ask.cls ≠ "java/lang/invoke/MethodHandle" ∧ yX3_ask.cls ≠ "java/lang/invoke/VarHandle" ∧ (parseMethodDescriptor yX3_ask.desc).map (fun d => d.parameters.length) = some 2 := by decide +kernel
abbrev wX1_servedThisHourBy : List Cond := Cond.code yX1_servedThisHourBy cX1_servedThisHourBy 3 (Option.some Jvm.ClassFile.FieldType.int) :: xTs
theorem xd_X1_servedThisHourBy : yX1_servedThisHourBy.cls ≠ "java/lang/invoke/MethodHandle" ∧ yX1_servedThisHourBy.cls ≠ "java/lang/invoke/VarHandle" ∧ (parseMethodDescriptor yX1_servedThisHourBy.desc).map (fun d => d.parameters.length) = some 1 := by decide +kernel
abbrev wX6_outcomeOf : List Cond := Cond.code yX6_outcomeOf cX6_outcomeOf 6 (Option.some Jvm.ClassFile.FieldType.int) :: xTs
theorem xd_X6_outcomeOf : yX6_outcomeOf.cls ≠ "java/lang/invoke/MethodHandle" ∧ yX6_outcomeOf.cls ≠ "java/lang/invoke/VarHandle" ∧ (parseMethodDescriptor yX6_outcomeOf.desc).map (fun d => d.parameters.length) = some 4 := by decide +kernel
abbrev wX3_isBrownedOut : List Cond := Cond.code yX3_isBrownedOut cX3_isBrownedOut 3 (Option.some Jvm.ClassFile.FieldType.boolean) :: xTs
theorem xd_X3_isBrownedOut : yX3_isBrownedOut.cls ≠ "java/lang/invoke/MethodHandle" ∧ yX3_isBrownedOut.cls ≠ "java/lang/invoke/VarHandle" ∧ (parseMethodDescriptor yX3_isBrownedOut.desc).map (fun d => d.parameters.length) = some 1 := by decide +kernel
abbrev wX3_quota : List Cond := Cond.code yX3_quota cX3_quota 2 (Option.some Jvm.ClassFile.FieldType.int) :: xTs
theorem xd_X3_quota : yX3_quota.cls ≠ "java/lang/invoke/MethodHandle" ∧ yX3_quota.cls ≠ "java/lang/invoke/VarHandle" ∧ (parseMethodDescriptor yX3_quota.desc).map (fun d => d.parameters.length) = some 1 := by decide +kernel
abbrev wX1_noteCall : List Cond := Cond.code yX1_noteCall cX1_noteCall 4 (Option.none : Option Jvm.ClassFile.FieldType) :: xTs
theorem xd_X1_noteCall : yX1_noteCall.cls ≠ "java/lang/invoke/MethodHandle" ∧ yX1_noteCall.cls ≠ "java/lang/invoke/VarHandle" ∧ (parseMethodDescriptor yX1_noteCall.desc).map (fun d => d.parameters.length) = some 2 := by decide +kernel
abbrev wX6_lastCall : List Cond := Cond.code yX6_lastCall cX6_lastCall 5 (Option.some Jvm.ClassFile.FieldType.int) :: xTs
theorem xd_X6_lastCall : yX6_lastCall.cls ≠ "java/lang/invoke/MethodHandle" ∧ yX6_lastCall.cls ≠ "java/lang/invoke/VarHandle" ∧ (parseMethodDescriptor yX6_lastCall.desc).map (fun d => d.parameters.length) = some 2 := by decide +kernel
abbrev wX6_hoursSinceCall : List Cond := Cond.code yX6_hoursSinceCall cX6_hoursSinceCall 4 (Option.some Jvm.ClassFile.FieldType.int) :: xTs
theorem xd_X6_hoursSinceCall : yX6_hoursSinceCall.cls ≠ "java/lang/invoke/MethodHandle" ∧ yX6_hoursSinceCall.cls ≠ "java/lang/invoke/VarHandle" ∧ (parseMethodDescriptor yX6_hoursSinceCall.desc).map (fun d => d.parameters.length) = some 2 := by decide +kernel
abbrev wX6_retire : List Cond := Cond.code yX6_retire cX6_retire 5 (Option.some Jvm.ClassFile.FieldType.int) :: xTs
theorem xd_X6_retire : yX6_retire.cls ≠ "java/lang/invoke/MethodHandle" ∧ yX6_retire.cls ≠ "java/lang/invoke/VarHandle" ∧ (parseMethodDescriptor yX6_retire.desc).map (fun d => d.parameters.length) = some 3 := by decide +kernel
abbrev wX6_startRetirement : List Cond := Cond.code yX6_startRetirement cX6_startRetirement 7 (Option.some Jvm.ClassFile.FieldType.int) :: xTs
theorem xd_X6_startRetirement : yX6_startRetirement.cls ≠ "java/lang/invoke/MethodHandle" ∧ yX6_startRetirement.cls ≠ "java/lang/invoke/VarHandle" ∧ (parseMethodDescriptor yX6_startRetirement.desc).map (fun d => d.parameters.length) = some 3 := by decide +kernel
abbrev wX3_start : List Cond := Cond.code yX3_start cX3_start 3 (Option.none : Option Jvm.ClassFile.FieldType) :: xTs
theorem xd_X3_start : yX3_start.cls ≠ "java/lang/invoke/MethodHandle" ∧ yX3_start.cls ≠ "java/lang/invoke/VarHandle" ∧ (parseMethodDescriptor yX3_start.desc).map (fun d => d.parameters.length) = some 2 := by decide +kernel
abbrev wX3_clear : List Cond := Cond.code yX3_clear cX3_clear 1 (Option.none : Option Jvm.ClassFile.FieldType) :: xTs
theorem xd_X3_clear : yX3_clear.cls ≠ "java/lang/invoke/MethodHandle" ∧ yX3_clear.cls ≠ "java/lang/invoke/VarHandle" ∧ (parseMethodDescriptor yX3_clear.desc).map (fun d => d.parameters.length) = some 0 := by decide +kernel
abbrev wX6_answer : List Cond := Cond.code yX6_answer cX6_answer 6 (Option.some Jvm.ClassFile.FieldType.boolean) :: xTs
theorem xd_X6_answer : yX6_answer.cls ≠ "java/lang/invoke/MethodHandle" ∧ yX6_answer.cls ≠ "java/lang/invoke/VarHandle" ∧ (parseMethodDescriptor yX6_answer.desc).map (fun d => d.parameters.length) = some 3 := by decide +kernel
abbrev wX6_asked : List Cond := Cond.code yX6_asked cX6_asked 5 (Option.some Jvm.ClassFile.FieldType.int) :: xTs
theorem xd_X6_asked : yX6_asked.cls ≠ "java/lang/invoke/MethodHandle" ∧ yX6_asked.cls ≠ "java/lang/invoke/VarHandle" ∧ (parseMethodDescriptor yX6_asked.desc).map (fun d => d.parameters.length) = some 3 := by decide +kernel
abbrev wX6_askedState : List Cond := Cond.code yX6_askedState cX6_askedState 4 (Option.some Jvm.ClassFile.FieldType.int) :: xTs
theorem xd_X6_askedState : yX6_askedState.cls ≠ "java/lang/invoke/MethodHandle" ∧ yX6_askedState.cls ≠ "java/lang/invoke/VarHandle" ∧ (parseMethodDescriptor yX6_askedState.desc).map (fun d => d.parameters.length) = some 2 := by decide +kernel
abbrev wX6_many : List Cond := Cond.code yX6_many cX6_many 2 (Option.some Jvm.ClassFile.FieldType.int) :: xTs
theorem xd_X6_many : yX6_many.cls ≠ "java/lang/invoke/MethodHandle" ∧ yX6_many.cls ≠ "java/lang/invoke/VarHandle" ∧ (parseMethodDescriptor yX6_many.desc).map (fun d => d.parameters.length) = some 1 := by decide +kernel
abbrev wX6_countOf : List Cond := Cond.code yX6_countOf cX6_countOf 2 (Option.some Jvm.ClassFile.FieldType.int) :: xTs
theorem xd_X6_countOf : yX6_countOf.cls ≠ "java/lang/invoke/MethodHandle" ∧ yX6_countOf.cls ≠ "java/lang/invoke/VarHandle" ∧ (parseMethodDescriptor yX6_countOf.desc).map (fun d => d.parameters.length) = some 1 := by decide +kernel
abbrev wX6_countVersions : List Cond := Cond.code yX6_countVersions cX6_countVersions 6 (Option.some Jvm.ClassFile.FieldType.int) :: xTs
theorem xd_X6_countVersions : yX6_countVersions.cls ≠ "java/lang/invoke/MethodHandle" ∧ yX6_countVersions.cls ≠ "java/lang/invoke/VarHandle" ∧ (parseMethodDescriptor yX6_countVersions.desc).map (fun d => d.parameters.length) = some 1 := by decide +kernel
abbrev wX6_wouldCome : List Cond := Cond.code yX6_wouldCome cX6_wouldCome 4 (Option.some Jvm.ClassFile.FieldType.int) :: xTs
theorem xd_X6_wouldCome : yX6_wouldCome.cls ≠ "java/lang/invoke/MethodHandle" ∧ yX6_wouldCome.cls ≠ "java/lang/invoke/VarHandle" ∧ (parseMethodDescriptor yX6_wouldCome.desc).map (fun d => d.parameters.length) = some 2 := by decide +kernel
abbrev wX6_outcomeIn : List Cond := Cond.code yX6_outcomeIn cX6_outcomeIn 6 (Option.some Jvm.ClassFile.FieldType.int) :: xTs
theorem xd_X6_outcomeIn : yX6_outcomeIn.cls ≠ "java/lang/invoke/MethodHandle" ∧ yX6_outcomeIn.cls ≠ "java/lang/invoke/VarHandle" ∧ (parseMethodDescriptor yX6_outcomeIn.desc).map (fun d => d.parameters.length) = some 2 := by decide +kernel
abbrev wX6_hoursTillGone : List Cond := Cond.code yX6_hoursTillGone cX6_hoursTillGone 6 (Option.some Jvm.ClassFile.FieldType.int) :: xTs
theorem xd_X6_hoursTillGone : yX6_hoursTillGone.cls ≠ "java/lang/invoke/MethodHandle" ∧ yX6_hoursTillGone.cls ≠ "java/lang/invoke/VarHandle" ∧ (parseMethodDescriptor yX6_hoursTillGone.desc).map (fun d => d.parameters.length) = some 3 := by decide +kernel
abbrev wX6_target : List Cond := Cond.code yX6_target cX6_target 3 (Option.some Jvm.ClassFile.FieldType.int) :: xTs
theorem xd_X6_target : yX6_target.cls ≠ "java/lang/invoke/MethodHandle" ∧ yX6_target.cls ≠ "java/lang/invoke/VarHandle" ∧ (parseMethodDescriptor yX6_target.desc).map (fun d => d.parameters.length) = some 1 := by decide +kernel
abbrev wX6_nearestOpen : List Cond := Cond.code yX6_nearestOpen cX6_nearestOpen 7 (Option.some Jvm.ClassFile.FieldType.int) :: xTs
theorem xd_X6_nearestOpen : yX6_nearestOpen.cls ≠ "java/lang/invoke/MethodHandle" ∧ yX6_nearestOpen.cls ≠ "java/lang/invoke/VarHandle" ∧ (parseMethodDescriptor yX6_nearestOpen.desc).map (fun d => d.parameters.length) = some 1 := by decide +kernel
abbrev wJ6_bitCount_0f7a4 : List Cond := Cond.code yJ6_bitCount_0f7a4 cJ6_bitCount_0f7a4 1 (Option.some Jvm.ClassFile.FieldType.int) :: xTs
theorem xd_J6_bitCount_0f7a4 : yJ6_bitCount_0f7a4.cls ≠ "java/lang/invoke/MethodHandle" ∧ yJ6_bitCount_0f7a4.cls ≠ "java/lang/invoke/VarHandle" ∧ (parseMethodDescriptor yJ6_bitCount_0f7a4.desc).map (fun d => d.parameters.length) = some 1 := by decide +kernel
abbrev wX6_digest : List Cond := Cond.code yX6_digest cX6_digest 6 (Option.some Jvm.ClassFile.FieldType.long) :: xTs
theorem xd_X6_digest : yX6_digest.cls ≠ "java/lang/invoke/MethodHandle" ∧ yX6_digest.cls ≠ "java/lang/invoke/VarHandle" ∧ (parseMethodDescriptor yX6_digest.desc).map (fun d => d.parameters.length) = some 0 := by decide +kernel
abbrev wX6_digestVersion : List Cond := Cond.code yX6_digestVersion cX6_digestVersion 7 (Option.some Jvm.ClassFile.FieldType.long) :: xTs
theorem xd_X6_digestVersion : yX6_digestVersion.cls ≠ "java/lang/invoke/MethodHandle" ∧ yX6_digestVersion.cls ≠ "java/lang/invoke/VarHandle" ∧ (parseMethodDescriptor yX6_digestVersion.desc).map (fun d => d.parameters.length) = some 2 := by decide +kernel
abbrev wX6_hoursLeft : List Cond := Cond.code yX6_hoursLeft cX6_hoursLeft 2 (Option.some Jvm.ClassFile.FieldType.int) :: xTs
theorem xd_X6_hoursLeft : yX6_hoursLeft.cls ≠ "java/lang/invoke/MethodHandle" ∧ yX6_hoursLeft.cls ≠ "java/lang/invoke/VarHandle" ∧ (parseMethodDescriptor yX6_hoursLeft.desc).map (fun d => d.parameters.length) = some 1 := by decide +kernel
abbrev wX6_digestClient : List Cond := Cond.code yX6_digestClient cX6_digestClient 8 (Option.some Jvm.ClassFile.FieldType.long) :: xTs
theorem xd_X6_digestClient : yX6_digestClient.cls ≠ "java/lang/invoke/MethodHandle" ∧ yX6_digestClient.cls ≠ "java/lang/invoke/VarHandle" ∧ (parseMethodDescriptor yX6_digestClient.desc).map (fun d => d.parameters.length) = some 2 := by decide +kernel
abbrev wL_below : List Cond := Cond.code yL_below cL_below 2 (Option.some Jvm.ClassFile.FieldType.int) :: xTs
theorem xd_L_below : yL_below.cls ≠ "java/lang/invoke/MethodHandle" ∧ yL_below.cls ≠ "java/lang/invoke/VarHandle" ∧ (parseMethodDescriptor yL_below.desc).map (fun d => d.parameters.length) = some 2 := by decide +kernel
abbrev wL_cell : List Cond := Cond.code yL_cell cL_cell 2 (Option.some Jvm.ClassFile.FieldType.int) :: xTs
theorem xd_L_cell : yL_cell.cls ≠ "java/lang/invoke/MethodHandle" ∧ yL_cell.cls ≠ "java/lang/invoke/VarHandle" ∧ (parseMethodDescriptor yL_cell.desc).map (fun d => d.parameters.length) = some 2 := by decide +kernel
abbrev wL_isKind : List Cond := Cond.code yL_isKind cL_isKind 12 (Option.some Jvm.ClassFile.FieldType.boolean) :: xTs
theorem xd_L_isKind : yL_isKind.cls ≠ "java/lang/invoke/MethodHandle" ∧ yL_isKind.cls ≠ "java/lang/invoke/VarHandle" ∧ (parseMethodDescriptor yL_isKind.desc).map (fun d => d.parameters.length) = some 3 := by decide +kernel
abbrev wX6_pass : List Cond := Cond.code yX6_pass cX6_pass 4 (Option.some Jvm.ClassFile.FieldType.int) :: xTs
theorem xd_X6_pass : yX6_pass.cls ≠ "java/lang/invoke/MethodHandle" ∧ yX6_pass.cls ≠ "java/lang/invoke/VarHandle" ∧ (parseMethodDescriptor yX6_pass.desc).map (fun d => d.parameters.length) = some 1 := by decide +kernel
abbrev wX6_beginHour : List Cond := Cond.code yX6_beginHour cX6_beginHour 5 (Option.some Jvm.ClassFile.FieldType.int) :: xTs
theorem xd_X6_beginHour : yX6_beginHour.cls ≠ "java/lang/invoke/MethodHandle" ∧ yX6_beginHour.cls ≠ "java/lang/invoke/VarHandle" ∧ (parseMethodDescriptor yX6_beginHour.desc).map (fun d => d.parameters.length) = some 0 := by decide +kernel
abbrev wX6_isGoneAtEnd : List Cond := Cond.code yX6_isGoneAtEnd cX6_isGoneAtEnd 2 (Option.some Jvm.ClassFile.FieldType.boolean) :: xTs
theorem xd_X6_isGoneAtEnd : yX6_isGoneAtEnd.cls ≠ "java/lang/invoke/MethodHandle" ∧ yX6_isGoneAtEnd.cls ≠ "java/lang/invoke/VarHandle" ∧ (parseMethodDescriptor yX6_isGoneAtEnd.desc).map (fun d => d.parameters.length) = some 1 := by decide +kernel
end
section
/-! ===== the X layer: the kit's rows over a world that is a function from addresses to what lies there ===== -/
abbrev xE : Type := (Nat × vp_A) ⊕ (Nat × List Value)
abbrev xW : Type := Nat → Option xE
def x_em (dA : Nat → ClassId) (x : xE) : va_E := match x with
  | .inl a => .inl (dA a.1, a.2)
  | .inr o => .inr o
def x_set (w : xW) (a : Nat) (x : xE) : xW := fun b => if b = a then some x else w b
theorem x_set_eq (w : xW) (a : Nat) (x : xE) : x_set w a x a = some x := if_pos rfl
theorem x_set_ne (w : xW) {a b : Nat} (x : xE) (h : ¬ b = a) : x_set w a x b = w b := if_neg h
/-- the heap holds the world; all its cells lie at B or above -/
def x_P (D : va_G) (dA : Nat → ClassId) (cl : List vw_C) (B : Nat) (w : xW) (H : Heap) : Prop := ∀ (a : Nat) (x : xE), w a = some x → B ≤ a ∧ va_at D cl (a, x_em dA x) H
def x_tys (dA : Nat → ClassId) (tyL : List FieldType) : List (ClassId × FieldType) := (List.range tyL.length).map (fun t => (dA t, tyL.getD t .int))
theorem x_tys_at {dA : Nat → ClassId} {tyL : List FieldType} {t : Nat} {ty : FieldType} (h : tyL[t]? = some ty) : (x_tys dA tyL)[t]? = some (dA t, ty) := by
  have hl : t < tyL.length := (List.getElem?_eq_some_iff.mp h).1
  unfold x_tys
  rw [List.getElem?_map, List.getElem?_range hl]
  simp [List.getD, h]
/-- the world as a list, up to an address -/
def x_L (dA : Nat → ClassId) (w : xW) (n : Nat) : va_W := (List.range n).filterMap (fun a => (w a).map (fun x => (a, x_em dA x)))
theorem x_L_mem {dA : Nat → ClassId} {w : xW} {n : Nat} {q : Nat × va_E} (h : q ∈ x_L dA w n) : q.1 < n ∧ ∃ x, w q.1 = some x ∧ q.2 = x_em dA x := by
  obtain ⟨a, ha, hq⟩ := List.mem_filterMap.mp h
  cases hw : w a with
  | none => rw [hw] at hq; cases hq
  | some x =>
    rw [hw] at hq
    cases hq
    exact ⟨List.mem_range.mp ha, x, hw, rfl⟩
theorem x_L_of {dA : Nat → ClassId} {w : xW} {n a : Nat} {x : xE} (hw : w a = some x) (ha : a < n) : (a, x_em dA x) ∈ x_L dA w n :=
  List.mem_filterMap.mpr ⟨a, List.mem_range.mpr ha, by rw [hw]; rfl⟩
theorem x_L_pw (dA : Nat → ClassId) (w : xW) (n : Nat) : (x_L dA w n).Pairwise (fun p q => p.1 < q.1) := by
  unfold x_L
  rw [List.pairwise_filterMap]
  refine List.Pairwise.imp ?_ List.pairwise_lt_range
  intro a b hab p hp q hq
  cases ha : w a with
  | none => rw [ha] at hp; cases hp
  | some x =>
    cases hb : w b with
    | none => rw [hb] at hq; cases hq
    | some y =>
      rw [ha] at hp
      rw [hb] at hq
      cases hp
      cases hq
      exact hab
theorem x_L_inj {dA : Nat → ClassId} {w : xW} {n i j : Nat} {p q : Nat × va_E} (hi : (x_L dA w n)[i]? = some p) (hj : (x_L dA w n)[j]? = some q) (h : p.1 = q.1) : i = j := by
  have hp := List.pairwise_iff_getElem.mp (x_L_pw dA w n)
  obtain ⟨li, ei⟩ := List.getElem?_eq_some_iff.mp hi
  obtain ⟨lj, ej⟩ := List.getElem?_eq_some_iff.mp hj
  rcases Nat.lt_trichotomy i j with hlt | heq | hgt
  · have := hp i j li lj hlt
    rw [ei, ej] at this
    omega
  · exact heq
  · have := hp j i lj li hgt
    rw [ei, ej] at this
    omega
theorem x_P.lt {D : va_G} {dA : Nat → ClassId} {cl : List vw_C} {B : Nat} {w : xW} {H : Heap} (h : x_P D dA cl B w H) {a : Nat} {x : xE} (hw : w a = some x) : a < H.size :=
  va_at.lt (h a x hw).2
theorem x_P.toL {D : va_G} {dA : Nat → ClassId} {cl : List vw_C} {B : Nat} {w : xW} {H : Heap} (h : x_P D dA cl B w H) : va_P D cl (x_L dA w H.size) H := by
  intro k q hk
  obtain ⟨-, x, hx, he⟩ := x_L_mem (List.mem_of_getElem? hk)
  have := (h q.1 x hx).2
  rw [← he] at this
  exact this
theorem x_P.toD {D : va_G} {dA : Nat → ClassId} {cl : List vw_C} {B : Nat} {w : xW} {H : Heap} (h : x_P D dA cl B w H) : va_D (fun q => B ≤ q) (x_L dA w H.size) := by
  refine ⟨fun i j p q hi hj e => x_L_inj hi hj e, fun k q hk => ?_⟩
  obtain ⟨-, x, hx, he⟩ := x_L_mem (List.mem_of_getElem? hk)
  exact (h q.1 x hx).1
theorem x_P.at {D : va_G} {dA : Nat → ClassId} {cl : List vw_C} {B : Nat} {w : xW} {H : Heap} (h : x_P D dA cl B w H) {a : Nat} {x : xE} (hw : w a = some x) : ∃ i : Nat, (x_L dA w H.size)[i]? = some (a, x_em dA x) :=
  List.getElem?_of_mem (x_L_of hw (h.lt hw))
theorem x_P.ofSet {D : va_G} {dA : Nat → ClassId} {cl : List vw_C} {B : Nat} {w : xW} {H H1 : Heap} (h : x_P D dA cl B w H) {i a : Nat} {x0 x : xE} (hw : w a = some x0) (hi : (x_L dA w H.size)[i]? = some (a, x_em dA x0)) (hP : va_P D cl ((x_L dA w H.size).set i (a, x_em dA x)) H1) : x_P D dA cl B (x_set w a x) H1 := by
  intro b y hb
  by_cases hba : b = a
  · subst hba
    rw [x_set_eq] at hb
    cases hb
    refine ⟨(h b x0 hw).1, hP i _ ?_⟩
    exact List.getElem?_set_self (List.getElem?_eq_some_iff.mp hi).1
  · rw [x_set_ne _ _ hba] at hb
    obtain ⟨j, hj⟩ := h.at hb
    refine ⟨(h b y hb).1, hP j _ ?_⟩
    rw [List.getElem?_set_ne]
    · exact hj
    · intro hij
      subst hij
      rw [hi] at hj
      exact hba (congrArg Prod.fst (Option.some.inj hj)).symm
theorem x_P.ofPush {D : va_G} {dA : Nat → ClassId} {cl : List vw_C} {B : Nat} {w : xW} {H H1 : Heap} (h : x_P D dA cl B w H) {a : Nat} {x : xE} (ha : B ≤ a) (hP : va_P D cl (x_L dA w H.size ++ [(a, x_em dA x)]) H1) (hD : va_D (fun q => B ≤ q) (x_L dA w H.size ++ [(a, x_em dA x)])) : w a = none ∧ x_P D dA cl B (x_set w a x) H1 := by
  have hlast : (x_L dA w H.size ++ [(a, x_em dA x)])[(x_L dA w H.size).length]? = some (a, x_em dA x) := by simp
  have hf : w a = none := by
    cases hw : w a with
    | none => rfl
    | some y =>
      obtain ⟨j, hj⟩ := h.at hw
      have hjl := (List.getElem?_eq_some_iff.mp hj).1
      have hj' : (x_L dA w H.size ++ [(a, x_em dA x)])[j]? = some (a, x_em dA y) := by rw [List.getElem?_append_left hjl]; exact hj
      have := hD.1 _ _ _ _ hj' hlast rfl
      omega
  refine ⟨hf, fun b y hb => ?_⟩
  by_cases hba : b = a
  · subst hba
    rw [x_set_eq] at hb
    cases hb
    exact ⟨ha, hP _ _ hlast⟩
  · rw [x_set_ne _ _ hba] at hb
    obtain ⟨j, hj⟩ := h.at hb
    refine ⟨(h b y hb).1, hP j _ ?_⟩
    rw [List.getElem?_append_left (List.getElem?_eq_some_iff.mp hj).1]
    exact hj
/-- the locals: reading, and both kinds of writing -/
def x_ld (lv : List (Nat × Value)) (i : Nat) : Option Value := match lv with
  | [] => none
  | q :: t => if q.1 = i then some q.2 else x_ld t i
theorem x_ld_has {ls : Array Slot} {n : Nat} {lv : List (Nat × Value)} (h : lv_has ls n lv) {i : Nat} {v : Value} (hl : x_ld lv i = some v) : ls[i]? = some (.val v) := by
  obtain ⟨-, -, h3⟩ := h
  induction lv with
  | nil => cases hl
  | cons q t ih =>
    unfold x_ld at hl
    by_cases hq : q.1 = i
    · rw [if_pos hq] at hl
      cases hl
      rw [← hq]
      exact h3 q List.mem_cons_self
    · rw [if_neg hq] at hl
      exact ih hl (fun q hq => h3 q (List.mem_cons_of_mem _ hq))
def x_st1 (lv : List (Nat × Value)) (i : Nat) (v : Value) : List (Nat × Value) := (i, v) :: lv.filter (fun q => !(q.1 == i) && !(q.1 + 1 == i && q.2.category == 2))
def x_st2 (lv : List (Nat × Value)) (i : Nat) (v : Value) : List (Nat × Value) := (i, v) :: lv.filter (fun q => !(q.1 == i) && (!(q.1 == i + 1) && !(q.1 + 1 == i && q.2.category == 2)))
def x_sub (lv lv' : List (Nat × Value)) : Prop := match lv' with
  | [] => True
  | q :: t => x_ld lv q.1 = some q.2 ∧ x_sub lv t
theorem x_sub_has {ls : Array Slot} {n : Nat} {lv lv' : List (Nat × Value)} (h : lv_has ls n lv) (hs : x_sub lv lv') : lv_has ls n lv' := by
  refine ⟨h.1, h.2.1, ?_⟩
  induction lv' with
  | nil => intro q hq; cases hq
  | cons q t ih =>
    intro r hr
    rcases List.mem_cons.mp hr with rfl | hr
    · exact x_ld_has h hs.1
    · exact ih hs.2 r hr
/-- what stays the same in a method's body -/
def x_Fix (p : Program) (s : State) (m : MethodId) (args : Array Value) (meth : Method) (c : Code) (cc : ByteArray) (nL : Nat) (own : String) (Ts : List Cond) (ret : Option FieldType) (nm : String) (D : va_G) (dA : Nat → ClassId) (cl : List vw_C) (tyL : List FieldType) (B : Nat) : Prop :=
  p.tables.exec = Jvm.exec ∧ c.code = cc ∧ c.maxLocals = nL ∧ s.vm.findClass own = some m.cls ∧ (∀ w ∈ Ts, w.before args s = true) ∧ va_K D cl (x_tys dA tyL) s ∧ B ≤ s.heap.size ∧ meth.sig.returnType = ret ∧ meth.locks = false ∧ meth.name = nm ∧ x_xt s
/-- the machine goes on well from here, whatever heap holds the world -/
def X (p : Program) (l : Launch) (e : Env) (R : Room) (s : State) (m : MethodId) (args : Array Value) (below : List Frame) (meth : Method) (c : Code) (Q : State → Prop) (D : va_G) (dA : Nat → ClassId) (cl : List vw_C) (B nL : Nat) (cells slots pc : Nat) (lv : List (Nat × Value)) (st : List Value) (w : xW) : Prop :=
  ∀ (H : Heap) (locs : List Loc) (ls : Array Slot), x_P D dA cl B w H → va_S (fun q => B ≤ q) s.heap H locs → lv_has ls nL lv → W p l e R s m args below meth c H locs cells slots Q (F0 m pc ls st)
/-- what a method gives back, and the world behind it -/
def x_Q (D : va_G) (dA : Nat → ClassId) (cl : List vw_C) (tyL : List FieldType) (B : Nat) (post : Option Value → xW → Prop) : Array Value → State → Outcome → State → Prop := fun _ st oc t =>
  (∃ (r : Option Value) (w1 : xW), oc = .returned r ∧ post r w1 ∧ x_P D dA cl B w1 t.heap ∧ va_K D cl (x_tys dA tyL) t) ∧ va_F (fun q => B ≤ q) st t
/-- a contract: called with av over the world w, the method returns, and 'post' holds of what it gives back and of the world then -/
def x_Ct (l : Launch) (D : va_G) (dA : Nat → ClassId) (cl : List vw_C) (tyL : List FieldType) (B : Nat) (y : MethodName) (ws : List Cond) (rm : Room) (av : List Value) (w : xW) (post : Option Value → xW → Prop) (mc ms : Nat) : Prop :=
  Met l y ws rm (va_Pc av (fun U => B ≤ U.heap.size ∧ x_P D dA cl B w U.heap ∧ va_K D cl (x_tys dA tyL) U ∧ x_xt U)) (x_Q D dA cl tyL B post) mc ms (fun q => B ≤ q)
section XL
variable {p : Program} {l : Launch} {e : Env} {R : Room} {s : State} {m : MethodId} {args : Array Value} {below : List Frame} {meth : Method} {c : Code} {Q : State → Prop}
variable {D : va_G} {dA : Nat → ClassId} {cl : List vw_C} {tyL : List FieldType} {B nL : Nat} {cells slots pc : Nat} {lv : List (Nat × Value)} {st : List Value} {w : xW}
variable {cc : ByteArray} {own : String} {Ts : List Cond} {ret : Option FieldType} {nm : String}

theorem x_iconst (F : x_Fix p s m args meth c cc nL own Ts ret nm D dA cl tyL B) {n : Int} {v : Int32} (hd : decode cc pc = .ok (.iconst n, 1)) (hv : Int32.ofInt n = v) (k : X p l e R s m args below meth c Q D dA cl B nL cells slots (pc + 1) lv (.int v :: st) w) : X p l e R s m args below meth c Q D dA cl B nL cells slots pc lv st w :=
  fun H locs ls h1 h2 h3 => lv_iconst F.1 F.2.1 hd hv (k H locs ls h1 h2 h3)
theorem x_bipush (F : x_Fix p s m args meth c cc nL own Ts ret nm D dA cl tyL B) {n : Int} {v : Int32} (hd : decode cc pc = .ok (.bipush n, 2)) (hv : (Int8.ofInt n).toInt32 = v) (k : X p l e R s m args below meth c Q D dA cl B nL cells slots (pc + 2) lv (.int v :: st) w) : X p l e R s m args below meth c Q D dA cl B nL cells slots pc lv st w :=
  fun H locs ls h1 h2 h3 => lv_bipush F.1 F.2.1 hd hv (k H locs ls h1 h2 h3)
theorem x_sipush (F : x_Fix p s m args meth c cc nL own Ts ret nm D dA cl tyL B) {n : Int} {v : Int32} (hd : decode cc pc = .ok (.sipush n, 3)) (hv : (Int16.ofInt n).toInt32 = v) (k : X p l e R s m args below meth c Q D dA cl B nL cells slots (pc + 3) lv (.int v :: st) w) : X p l e R s m args below meth c Q D dA cl B nL cells slots pc lv st w :=
  fun H locs ls h1 h2 h3 => lv_sipush F.1 F.2.1 hd hv (k H locs ls h1 h2 h3)
theorem x_null (F : x_Fix p s m args meth c cc nL own Ts ret nm D dA cl tyL B)  (hd : decode cc pc = .ok (.aconst_null, 1)) (k : X p l e R s m args below meth c Q D dA cl B nL cells slots (pc + 1) lv (.null :: st) w) : X p l e R s m args below meth c Q D dA cl B nL cells slots pc lv st w :=
  fun H locs ls h1 h2 h3 => lv_null F.1 F.2.1 hd (k H locs ls h1 h2 h3)
theorem x_iload_n (F : x_Fix p s m args meth c cc nL own Ts ret nm D dA cl tyL B) {k : Fin 4} {i : Nat} {x : Int32} (hd : decode cc pc = .ok (.iload_n k, 1)) (hi : (k : Nat) = i) (hl : x_ld lv i = some (.int x)) (k : X p l e R s m args below meth c Q D dA cl B nL cells slots (pc + 1) lv (.int x :: st) w) : X p l e R s m args below meth c Q D dA cl B nL cells slots pc lv st w :=
  fun H locs ls h1 h2 h3 => lv_iload_n F.1 F.2.1 hd hi (x_ld_has h3 hl) (k H locs ls h1 h2 h3)
theorem x_iload (F : x_Fix p s m args meth c cc nL own Ts ret nm D dA cl tyL B) {i : Nat} {x : Int32} (hd : decode cc pc = .ok (.iload i, 2)) (hl : x_ld lv i = some (.int x)) (k : X p l e R s m args below meth c Q D dA cl B nL cells slots (pc + 2) lv (.int x :: st) w) : X p l e R s m args below meth c Q D dA cl B nL cells slots pc lv st w :=
  fun H locs ls h1 h2 h3 => lv_iload F.1 F.2.1 hd (x_ld_has h3 hl) (k H locs ls h1 h2 h3)
theorem x_lload_n (F : x_Fix p s m args meth c cc nL own Ts ret nm D dA cl tyL B) {k : Fin 4} {i : Nat} {x : Int64} (hd : decode cc pc = .ok (.lload_n k, 1)) (hi : (k : Nat) = i) (hl : x_ld lv i = some (.long x)) (k : X p l e R s m args below meth c Q D dA cl B nL cells slots (pc + 1) lv (.long x :: st) w) : X p l e R s m args below meth c Q D dA cl B nL cells slots pc lv st w :=
  fun H locs ls h1 h2 h3 => lv_lload_n F.1 F.2.1 hd hi (x_ld_has h3 hl) (k H locs ls h1 h2 h3)
theorem x_lload (F : x_Fix p s m args meth c cc nL own Ts ret nm D dA cl tyL B) {i : Nat} {x : Int64} (hd : decode cc pc = .ok (.lload i, 2)) (hl : x_ld lv i = some (.long x)) (k : X p l e R s m args below meth c Q D dA cl B nL cells slots (pc + 2) lv (.long x :: st) w) : X p l e R s m args below meth c Q D dA cl B nL cells slots pc lv st w :=
  fun H locs ls h1 h2 h3 => lv_lload F.1 F.2.1 hd (x_ld_has h3 hl) (k H locs ls h1 h2 h3)
theorem x_aload_n (F : x_Fix p s m args meth c cc nL own Ts ret nm D dA cl tyL B) {k : Fin 4} {i : Nat} {x : Nat} (hd : decode cc pc = .ok (.aload_n k, 1)) (hi : (k : Nat) = i) (hl : x_ld lv i = some (.ref x)) (k : X p l e R s m args below meth c Q D dA cl B nL cells slots (pc + 1) lv (.ref x :: st) w) : X p l e R s m args below meth c Q D dA cl B nL cells slots pc lv st w :=
  fun H locs ls h1 h2 h3 => lv_aload_n F.1 F.2.1 hd hi (x_ld_has h3 hl) (k H locs ls h1 h2 h3)
theorem x_aload (F : x_Fix p s m args meth c cc nL own Ts ret nm D dA cl tyL B) {i : Nat} {x : Nat} (hd : decode cc pc = .ok (.aload i, 2)) (hl : x_ld lv i = some (.ref x)) (k : X p l e R s m args below meth c Q D dA cl B nL cells slots (pc + 2) lv (.ref x :: st) w) : X p l e R s m args below meth c Q D dA cl B nL cells slots pc lv st w :=
  fun H locs ls h1 h2 h3 => lv_aload F.1 F.2.1 hd (x_ld_has h3 hl) (k H locs ls h1 h2 h3)
theorem x_aload_nN (F : x_Fix p s m args meth c cc nL own Ts ret nm D dA cl tyL B) {k : Fin 4} {i : Nat} (hd : decode cc pc = .ok (.aload_n k, 1)) (hi : (k : Nat) = i) (hl : x_ld lv i = some .null) (k : X p l e R s m args below meth c Q D dA cl B nL cells slots (pc + 1) lv (.null :: st) w) : X p l e R s m args below meth c Q D dA cl B nL cells slots pc lv st w :=
  fun H locs ls h1 h2 h3 => lv_aload_nN F.1 F.2.1 hd hi (x_ld_has h3 hl) (k H locs ls h1 h2 h3)
theorem x_aloadN (F : x_Fix p s m args meth c cc nL own Ts ret nm D dA cl tyL B) {i : Nat} (hd : decode cc pc = .ok (.aload i, 2)) (hl : x_ld lv i = some .null) (k : X p l e R s m args below meth c Q D dA cl B nL cells slots (pc + 2) lv (.null :: st) w) : X p l e R s m args below meth c Q D dA cl B nL cells slots pc lv st w :=
  fun H locs ls h1 h2 h3 => lv_aloadN F.1 F.2.1 hd (x_ld_has h3 hl) (k H locs ls h1 h2 h3)
theorem x_aload_nQ (F : x_Fix p s m args meth c cc nL own Ts ret nm D dA cl tyL B) {k : Fin 4} {i : Nat} {o : Option Nat} (hd : decode cc pc = .ok (.aload_n k, 1)) (hi : (k : Nat) = i) (hl : x_ld lv i = some (va_rf o)) (k : X p l e R s m args below meth c Q D dA cl B nL cells slots (pc + 1) lv (va_rf o :: st) w) : X p l e R s m args below meth c Q D dA cl B nL cells slots pc lv st w := by
  cases o with
  | none => exact x_aload_nN F hd hi hl k
  | some a => exact x_aload_n F hd hi hl k
theorem x_aloadQ (F : x_Fix p s m args meth c cc nL own Ts ret nm D dA cl tyL B) {i : Nat} {o : Option Nat} (hd : decode cc pc = .ok (.aload i, 2)) (hl : x_ld lv i = some (va_rf o)) (k : X p l e R s m args below meth c Q D dA cl B nL cells slots (pc + 2) lv (va_rf o :: st) w) : X p l e R s m args below meth c Q D dA cl B nL cells slots pc lv st w := by
  cases o with
  | none => exact x_aloadN F hd hl k
  | some a => exact x_aload F hd hl k
theorem x_istore_n (F : x_Fix p s m args meth c cc nL own Ts ret nm D dA cl tyL B) {k : Fin 4} {i : Nat} {x : Int32} (hd : decode cc pc = .ok (.istore_n k, 1)) (hi : (k : Nat) = i) (hn : i < nL) (kk : X p l e R s m args below meth c Q D dA cl B nL cells slots (pc + 1) (x_st1 lv i (.int x)) st w) : X p l e R s m args below meth c Q D dA cl B nL cells slots pc lv (.int x :: st) w :=
  fun H locs ls h1 h2 h3 => lv_istore_n F.1 F.2.1 hd hi h3 hn rfl (fun ls' h4 => kk H locs ls' h1 h2 h4)
theorem x_istore (F : x_Fix p s m args meth c cc nL own Ts ret nm D dA cl tyL B) {i : Nat} {x : Int32} (hd : decode cc pc = .ok (.istore i, 2)) (hn : i < nL) (kk : X p l e R s m args below meth c Q D dA cl B nL cells slots (pc + 2) (x_st1 lv i (.int x)) st w) : X p l e R s m args below meth c Q D dA cl B nL cells slots pc lv (.int x :: st) w :=
  fun H locs ls h1 h2 h3 => lv_istore F.1 F.2.1 hd h3 hn rfl (fun ls' h4 => kk H locs ls' h1 h2 h4)
theorem x_lstore_n (F : x_Fix p s m args meth c cc nL own Ts ret nm D dA cl tyL B) {k : Fin 4} {i : Nat} {x : Int64} (hd : decode cc pc = .ok (.lstore_n k, 1)) (hi : (k : Nat) = i) (hn : i + 1 < nL) (kk : X p l e R s m args below meth c Q D dA cl B nL cells slots (pc + 1) (x_st2 lv i (.long x)) st w) : X p l e R s m args below meth c Q D dA cl B nL cells slots pc lv (.long x :: st) w :=
  fun H locs ls h1 h2 h3 => lv_lstore_n F.1 F.2.1 hd hi h3 hn rfl (fun ls' h4 => kk H locs ls' h1 h2 h4)
theorem x_lstore (F : x_Fix p s m args meth c cc nL own Ts ret nm D dA cl tyL B) {i : Nat} {x : Int64} (hd : decode cc pc = .ok (.lstore i, 2)) (hn : i + 1 < nL) (kk : X p l e R s m args below meth c Q D dA cl B nL cells slots (pc + 2) (x_st2 lv i (.long x)) st w) : X p l e R s m args below meth c Q D dA cl B nL cells slots pc lv (.long x :: st) w :=
  fun H locs ls h1 h2 h3 => lv_lstore F.1 F.2.1 hd h3 hn rfl (fun ls' h4 => kk H locs ls' h1 h2 h4)
theorem x_astore_n (F : x_Fix p s m args meth c cc nL own Ts ret nm D dA cl tyL B) {k : Fin 4} {i : Nat} {x : Nat} (hd : decode cc pc = .ok (.astore_n k, 1)) (hi : (k : Nat) = i) (hn : i < nL) (kk : X p l e R s m args below meth c Q D dA cl B nL cells slots (pc + 1) (x_st1 lv i (.ref x)) st w) : X p l e R s m args below meth c Q D dA cl B nL cells slots pc lv (.ref x :: st) w :=
  fun H locs ls h1 h2 h3 => lv_astore_n F.1 F.2.1 hd hi h3 hn rfl (fun ls' h4 => kk H locs ls' h1 h2 h4)
theorem x_astore (F : x_Fix p s m args meth c cc nL own Ts ret nm D dA cl tyL B) {i : Nat} {x : Nat} (hd : decode cc pc = .ok (.astore i, 2)) (hn : i < nL) (kk : X p l e R s m args below meth c Q D dA cl B nL cells slots (pc + 2) (x_st1 lv i (.ref x)) st w) : X p l e R s m args below meth c Q D dA cl B nL cells slots pc lv (.ref x :: st) w :=
  fun H locs ls h1 h2 h3 => lv_astore F.1 F.2.1 hd h3 hn rfl (fun ls' h4 => kk H locs ls' h1 h2 h4)
theorem x_astore_nN (F : x_Fix p s m args meth c cc nL own Ts ret nm D dA cl tyL B) {k : Fin 4} {i : Nat} (hd : decode cc pc = .ok (.astore_n k, 1)) (hi : (k : Nat) = i) (hn : i < nL) (kk : X p l e R s m args below meth c Q D dA cl B nL cells slots (pc + 1) (x_st1 lv i (.null)) st w) : X p l e R s m args below meth c Q D dA cl B nL cells slots pc lv (.null :: st) w :=
  fun H locs ls h1 h2 h3 => lv_astore_nN F.1 F.2.1 hd hi h3 hn rfl (fun ls' h4 => kk H locs ls' h1 h2 h4)
theorem x_astoreN (F : x_Fix p s m args meth c cc nL own Ts ret nm D dA cl tyL B) {i : Nat} (hd : decode cc pc = .ok (.astore i, 2)) (hn : i < nL) (kk : X p l e R s m args below meth c Q D dA cl B nL cells slots (pc + 2) (x_st1 lv i (.null)) st w) : X p l e R s m args below meth c Q D dA cl B nL cells slots pc lv (.null :: st) w :=
  fun H locs ls h1 h2 h3 => lv_astoreN F.1 F.2.1 hd h3 hn rfl (fun ls' h4 => kk H locs ls' h1 h2 h4)
theorem x_astore_nQ (F : x_Fix p s m args meth c cc nL own Ts ret nm D dA cl tyL B) {k : Fin 4} {i : Nat} {o : Option Nat} (hd : decode cc pc = .ok (.astore_n k, 1)) (hi : (k : Nat) = i) (hn : i < nL) (kk : X p l e R s m args below meth c Q D dA cl B nL cells slots (pc + 1) (x_st1 lv i (va_rf o)) st w) : X p l e R s m args below meth c Q D dA cl B nL cells slots pc lv (va_rf o :: st) w := by
  cases o with
  | none => exact x_astore_nN F hd hi hn kk
  | some a => exact x_astore_n F hd hi hn kk
theorem x_astoreQ (F : x_Fix p s m args meth c cc nL own Ts ret nm D dA cl tyL B) {i : Nat} {o : Option Nat} (hd : decode cc pc = .ok (.astore i, 2)) (hn : i < nL) (kk : X p l e R s m args below meth c Q D dA cl B nL cells slots (pc + 2) (x_st1 lv i (va_rf o)) st w) : X p l e R s m args below meth c Q D dA cl B nL cells slots pc lv (va_rf o :: st) w := by
  cases o with
  | none => exact x_astoreN F hd hn kk
  | some a => exact x_astore F hd hn kk
theorem x_iinc (F : x_Fix p s m args meth c cc nL own Ts ret nm D dA cl tyL B) {i : Nat} {n : Int} {x v : Int32} (hd : decode cc pc = .ok (.iinc i n, 3)) (hv : Int32.ofInt n = v) (hl : x_ld lv i = some (.int x)) (hn : i < nL) (kk : X p l e R s m args below meth c Q D dA cl B nL cells slots (pc + 3) (x_st1 ((i, .int x) :: lv) i (.int (x + v))) st w) : X p l e R s m args below meth c Q D dA cl B nL cells slots pc lv st w :=
  fun H locs ls h1 h2 h3 => lv_iinc (k := 0) (lv := (i, .int x) :: lv) F.1 F.2.1 hd ⟨h3.1, h3.2.1, fun q hq => (List.mem_cons.mp hq).elim (fun h => h ▸ x_ld_has h3 hl) (fun h => h3.2.2 q h)⟩ rfl (by rw [hv]) hn rfl (fun ls' h4 => kk H locs ls' h1 h2 h4)
theorem x_iadd (F : x_Fix p s m args meth c cc nL own Ts ret nm D dA cl tyL B) {x y : Int32} (hd : decode cc pc = .ok (.iadd, 1)) (k : X p l e R s m args below meth c Q D dA cl B nL cells slots (pc + 1) lv (.int (x + y) :: st) w) : X p l e R s m args below meth c Q D dA cl B nL cells slots pc lv (.int y :: .int x :: st) w :=
  fun H locs ls h1 h2 h3 => lv_iadd F.1 F.2.1 hd (k H locs ls h1 h2 h3)
theorem x_isub (F : x_Fix p s m args meth c cc nL own Ts ret nm D dA cl tyL B) {x y : Int32} (hd : decode cc pc = .ok (.isub, 1)) (k : X p l e R s m args below meth c Q D dA cl B nL cells slots (pc + 1) lv (.int (x - y) :: st) w) : X p l e R s m args below meth c Q D dA cl B nL cells slots pc lv (.int y :: .int x :: st) w :=
  fun H locs ls h1 h2 h3 => lv_isub F.1 F.2.1 hd (k H locs ls h1 h2 h3)
theorem x_imul (F : x_Fix p s m args meth c cc nL own Ts ret nm D dA cl tyL B) {x y : Int32} (hd : decode cc pc = .ok (.imul, 1)) (k : X p l e R s m args below meth c Q D dA cl B nL cells slots (pc + 1) lv (.int (x * y) :: st) w) : X p l e R s m args below meth c Q D dA cl B nL cells slots pc lv (.int y :: .int x :: st) w :=
  fun H locs ls h1 h2 h3 => lv_imul F.1 F.2.1 hd (k H locs ls h1 h2 h3)
theorem x_iand (F : x_Fix p s m args meth c cc nL own Ts ret nm D dA cl tyL B) {x y : Int32} (hd : decode cc pc = .ok (.iand, 1)) (k : X p l e R s m args below meth c Q D dA cl B nL cells slots (pc + 1) lv (.int (x &&& y) :: st) w) : X p l e R s m args below meth c Q D dA cl B nL cells slots pc lv (.int y :: .int x :: st) w :=
  fun H locs ls h1 h2 h3 => lv_iand F.1 F.2.1 hd (k H locs ls h1 h2 h3)
theorem x_ior (F : x_Fix p s m args meth c cc nL own Ts ret nm D dA cl tyL B) {x y : Int32} (hd : decode cc pc = .ok (.ior, 1)) (k : X p l e R s m args below meth c Q D dA cl B nL cells slots (pc + 1) lv (.int (x ||| y) :: st) w) : X p l e R s m args below meth c Q D dA cl B nL cells slots pc lv (.int y :: .int x :: st) w :=
  fun H locs ls h1 h2 h3 => lv_ior F.1 F.2.1 hd (k H locs ls h1 h2 h3)
theorem x_ixor (F : x_Fix p s m args meth c cc nL own Ts ret nm D dA cl tyL B) {x y : Int32} (hd : decode cc pc = .ok (.ixor, 1)) (k : X p l e R s m args below meth c Q D dA cl B nL cells slots (pc + 1) lv (.int (x ^^^ y) :: st) w) : X p l e R s m args below meth c Q D dA cl B nL cells slots pc lv (.int y :: .int x :: st) w :=
  fun H locs ls h1 h2 h3 => lv_ixor F.1 F.2.1 hd (k H locs ls h1 h2 h3)
theorem x_ishl (F : x_Fix p s m args meth c cc nL own Ts ret nm D dA cl tyL B) {x y : Int32} (hd : decode cc pc = .ok (.ishl, 1)) (k : X p l e R s m args below meth c Q D dA cl B nL cells slots (pc + 1) lv (.int (x <<< (y &&& 31)) :: st) w) : X p l e R s m args below meth c Q D dA cl B nL cells slots pc lv (.int y :: .int x :: st) w :=
  fun H locs ls h1 h2 h3 => lv_ishl F.1 F.2.1 hd (k H locs ls h1 h2 h3)
theorem x_ishr (F : x_Fix p s m args meth c cc nL own Ts ret nm D dA cl tyL B) {x y : Int32} (hd : decode cc pc = .ok (.ishr, 1)) (k : X p l e R s m args below meth c Q D dA cl B nL cells slots (pc + 1) lv (.int (x >>> (y &&& 31)) :: st) w) : X p l e R s m args below meth c Q D dA cl B nL cells slots pc lv (.int y :: .int x :: st) w :=
  fun H locs ls h1 h2 h3 => lv_ishr F.1 F.2.1 hd (k H locs ls h1 h2 h3)
theorem x_idiv (F : x_Fix p s m args meth c cc nL own Ts ret nm D dA cl tyL B) {x y : Int32} (hd : decode cc pc = .ok (.idiv, 1)) (hne : ¬ y = 0) (k : X p l e R s m args below meth c Q D dA cl B nL cells slots (pc + 1) lv (.int (x / y) :: st) w) : X p l e R s m args below meth c Q D dA cl B nL cells slots pc lv (.int y :: .int x :: st) w :=
  fun H locs ls h1 h2 h3 => lv_idiv F.1 F.2.1 hd hne (k H locs ls h1 h2 h3)
theorem x_irem (F : x_Fix p s m args meth c cc nL own Ts ret nm D dA cl tyL B) {x y : Int32} (hd : decode cc pc = .ok (.irem, 1)) (hne : ¬ y = 0) (k : X p l e R s m args below meth c Q D dA cl B nL cells slots (pc + 1) lv (.int (x - x / y * y) :: st) w) : X p l e R s m args below meth c Q D dA cl B nL cells slots pc lv (.int y :: .int x :: st) w :=
  fun H locs ls h1 h2 h3 => lv_irem F.1 F.2.1 hd hne (k H locs ls h1 h2 h3)
theorem x_ineg (F : x_Fix p s m args meth c cc nL own Ts ret nm D dA cl tyL B) {x : Int32} (hd : decode cc pc = .ok (.ineg, 1)) (k : X p l e R s m args below meth c Q D dA cl B nL cells slots (pc + 1) lv (.int (-x) :: st) w) : X p l e R s m args below meth c Q D dA cl B nL cells slots pc lv (.int x :: st) w :=
  fun H locs ls h1 h2 h3 => lv_ineg F.1 F.2.1 hd (k H locs ls h1 h2 h3)
theorem x_iushr (F : x_Fix p s m args meth c cc nL own Ts ret nm D dA cl tyL B) {x y : Int32} (hd : decode cc pc = .ok (.iushr, 1)) (k : X p l e R s m args below meth c Q D dA cl B nL cells slots (pc + 1) lv (.int ((x.toUInt32 >>> (y.toUInt32 &&& Int32.toUInt32 31)).toInt32) :: st) w) : X p l e R s m args below meth c Q D dA cl B nL cells slots pc lv (.int y :: .int x :: st) w :=
  fun H locs ls h1 h2 h3 => lv_iushr F.1 F.2.1 hd rfl (k H locs ls h1 h2 h3)
theorem x_ladd (F : x_Fix p s m args meth c cc nL own Ts ret nm D dA cl tyL B) {x y : Int64} (hd : decode cc pc = .ok (.ladd, 1)) (k : X p l e R s m args below meth c Q D dA cl B nL cells slots (pc + 1) lv (.long (x + y) :: st) w) : X p l e R s m args below meth c Q D dA cl B nL cells slots pc lv (.long y :: .long x :: st) w :=
  fun H locs ls h1 h2 h3 => lv_ladd F.1 F.2.1 hd (k H locs ls h1 h2 h3)
theorem x_lmul (F : x_Fix p s m args meth c cc nL own Ts ret nm D dA cl tyL B) {x y : Int64} (hd : decode cc pc = .ok (.lmul, 1)) (k : X p l e R s m args below meth c Q D dA cl B nL cells slots (pc + 1) lv (.long (x * y) :: st) w) : X p l e R s m args below meth c Q D dA cl B nL cells slots pc lv (.long y :: .long x :: st) w :=
  fun H locs ls h1 h2 h3 => lv_lmul F.1 F.2.1 hd (k H locs ls h1 h2 h3)
theorem x_lsub (F : x_Fix p s m args meth c cc nL own Ts ret nm D dA cl tyL B) {x y : Int64} (hd : decode cc pc = .ok (.lsub, 1)) (k : X p l e R s m args below meth c Q D dA cl B nL cells slots (pc + 1) lv (.long (x - y) :: st) w) : X p l e R s m args below meth c Q D dA cl B nL cells slots pc lv (.long y :: .long x :: st) w :=
  fun H locs ls h1 h2 h3 => lv_lsub F.1 F.2.1 hd (k H locs ls h1 h2 h3)
theorem x_i2l (F : x_Fix p s m args meth c cc nL own Ts ret nm D dA cl tyL B) {x : Int32} (hd : decode cc pc = .ok (.i2l, 1)) (k : X p l e R s m args below meth c Q D dA cl B nL cells slots (pc + 1) lv (.long x.toInt64 :: st) w) : X p l e R s m args below meth c Q D dA cl B nL cells slots pc lv (.int x :: st) w :=
  fun H locs ls h1 h2 h3 => lv_i2l F.1 F.2.1 hd rfl (k H locs ls h1 h2 h3)
theorem x_dup (F : x_Fix p s m args meth c cc nL own Ts ret nm D dA cl tyL B) {va : Value} (hd : decode cc pc = .ok (.dup, 1)) (hva : va.category = 1) (k : X p l e R s m args below meth c Q D dA cl B nL cells slots (pc + 1) lv (va :: va :: st) w) : X p l e R s m args below meth c Q D dA cl B nL cells slots pc lv (va :: st) w :=
  fun H locs ls h1 h2 h3 => lv_dup F.1 F.2.1 hd hva (k H locs ls h1 h2 h3)
theorem x_dup2 (F : x_Fix p s m args meth c cc nL own Ts ret nm D dA cl tyL B) {va vb : Value} (hd : decode cc pc = .ok (.dup2, 1)) (hva : va.category = 1) (hvb : vb.category = 1) (k : X p l e R s m args below meth c Q D dA cl B nL cells slots (pc + 1) lv (va :: vb :: va :: vb :: st) w) : X p l e R s m args below meth c Q D dA cl B nL cells slots pc lv (va :: vb :: st) w :=
  fun H locs ls h1 h2 h3 => lv_dup2_11 F.1 F.2.1 hd hva hvb (k H locs ls h1 h2 h3)
theorem x_dup_x1 (F : x_Fix p s m args meth c cc nL own Ts ret nm D dA cl tyL B) {va vb : Value} (hd : decode cc pc = .ok (.dup_x1, 1)) (hva : va.category = 1) (hvb : vb.category = 1) (k : X p l e R s m args below meth c Q D dA cl B nL cells slots (pc + 1) lv (va :: vb :: va :: st) w) : X p l e R s m args below meth c Q D dA cl B nL cells slots pc lv (va :: vb :: st) w :=
  fun H locs ls h1 h2 h3 => lv_dup_x1 F.1 F.2.1 hd hva hvb (k H locs ls h1 h2 h3)
theorem x_pop (F : x_Fix p s m args meth c cc nL own Ts ret nm D dA cl tyL B) {va : Value} (hd : decode cc pc = .ok (.pop, 1)) (hva : va.category = 1) (k : X p l e R s m args below meth c Q D dA cl B nL cells slots (pc + 1) lv st w) : X p l e R s m args below meth c Q D dA cl B nL cells slots pc lv (va :: st) w :=
  fun H locs ls h1 h2 h3 => lv_pop F.1 F.2.1 hd hva (k H locs ls h1 h2 h3)
theorem x_lcmp (F : x_Fix p s m args meth c cc nL own Ts ret nm D dA cl tyL B) {x y : Int64} (hd : decode cc pc = .ok (.lcmp, 1)) (k : X p l e R s m args below meth c Q D dA cl B nL cells slots (pc + 1) lv (.int (lg_cmp x y) :: st) w) : X p l e R s m args below meth c Q D dA cl B nL cells slots pc lv (.long y :: .long x :: st) w :=
  fun H locs ls h1 h2 h3 => W.lcmp F.1 F.2.1 hd (k H locs ls h1 h2 h3)
theorem x_ldc (F : x_Fix p s m args meth c cc nL own Ts ret nm D dA cl tyL B) {index : Nat} {v : Int32} (hd : decode cc pc = .ok (.ldc index, 2)) (hw : Cond.constant own index v ∈ Ts) (k : X p l e R s m args below meth c Q D dA cl B nL cells slots (pc + 2) lv (.int v :: st) w) : X p l e R s m args below meth c Q D dA cl B nL cells slots pc lv st w :=
  fun H locs ls h1 h2 h3 => lv_ldc F.1 F.2.1 F.2.2.2.1 (F.2.2.2.2.1 _ hw) hd (k H locs ls h1 h2 h3)
theorem x_ldcw (F : x_Fix p s m args meth c cc nL own Ts ret nm D dA cl tyL B) {index : Nat} {v : Int32} (hd : decode cc pc = .ok (.ldc_w index, 3)) (hw : Cond.constant own index v ∈ Ts) (k : X p l e R s m args below meth c Q D dA cl B nL cells slots (pc + 3) lv (.int v :: st) w) : X p l e R s m args below meth c Q D dA cl B nL cells slots pc lv st w :=
  fun H locs ls h1 h2 h3 => lv_ldcw F.1 F.2.1 F.2.2.2.1 (F.2.2.2.2.1 _ hw) hd (k H locs ls h1 h2 h3)
theorem x_ldc2 (F : x_Fix p s m args meth c cc nL own Ts ret nm D dA cl tyL B) {index : Nat} {v : Int64} (hd : decode cc pc = .ok (.ldc2_w index, 3)) (hw : Cond.constantLong own index v ∈ Ts) (k : X p l e R s m args below meth c Q D dA cl B nL cells slots (pc + 3) lv (.long v :: st) w) : X p l e R s m args below meth c Q D dA cl B nL cells slots pc lv st w :=
  fun H locs ls h1 h2 h3 => lv_ldc2 F.1 F.2.1 F.2.2.2.1 (F.2.2.2.2.1 _ hw) hd (k H locs ls h1 h2 h3)
theorem x_if_eq (F : x_Fix p s m args meth c cc nL own Ts ret nm D dA cl tyL B) {x : Int32} {off : Int} {tgt : Nat} (hd : decode cc pc = .ok (.ifCond .eq off, 3)) (ht : (pc : Int) + off = (tgt : Int)) (kt : (x = 0) → X p l e R s m args below meth c Q D dA cl B nL cells slots tgt lv st w) (kf : (¬ x = 0) → X p l e R s m args below meth c Q D dA cl B nL cells slots (pc + 3) lv st w) : X p l e R s m args below meth c Q D dA cl B nL cells slots pc lv (.int x :: st) w :=
  fun H locs ls h1 h2 h3 => lv_if_eq F.1 F.2.1 hd ht (fun hc => kt hc H locs ls h1 h2 h3) (fun hc => kf hc H locs ls h1 h2 h3)
theorem x_if_ne (F : x_Fix p s m args meth c cc nL own Ts ret nm D dA cl tyL B) {x : Int32} {off : Int} {tgt : Nat} (hd : decode cc pc = .ok (.ifCond .ne off, 3)) (ht : (pc : Int) + off = (tgt : Int)) (kt : (¬ x = 0) → X p l e R s m args below meth c Q D dA cl B nL cells slots tgt lv st w) (kf : (x = 0) → X p l e R s m args below meth c Q D dA cl B nL cells slots (pc + 3) lv st w) : X p l e R s m args below meth c Q D dA cl B nL cells slots pc lv (.int x :: st) w :=
  fun H locs ls h1 h2 h3 => lv_if_ne F.1 F.2.1 hd ht (fun hc => kt hc H locs ls h1 h2 h3) (fun hc => kf hc H locs ls h1 h2 h3)
theorem x_if_lt (F : x_Fix p s m args meth c cc nL own Ts ret nm D dA cl tyL B) {x : Int32} {off : Int} {tgt : Nat} (hd : decode cc pc = .ok (.ifCond .lt off, 3)) (ht : (pc : Int) + off = (tgt : Int)) (kt : (x < 0) → X p l e R s m args below meth c Q D dA cl B nL cells slots tgt lv st w) (kf : (¬ x < 0) → X p l e R s m args below meth c Q D dA cl B nL cells slots (pc + 3) lv st w) : X p l e R s m args below meth c Q D dA cl B nL cells slots pc lv (.int x :: st) w :=
  fun H locs ls h1 h2 h3 => lv_if_lt F.1 F.2.1 hd ht (fun hc => kt hc H locs ls h1 h2 h3) (fun hc => kf hc H locs ls h1 h2 h3)
theorem x_if_ge (F : x_Fix p s m args meth c cc nL own Ts ret nm D dA cl tyL B) {x : Int32} {off : Int} {tgt : Nat} (hd : decode cc pc = .ok (.ifCond .ge off, 3)) (ht : (pc : Int) + off = (tgt : Int)) (kt : (0 ≤ x) → X p l e R s m args below meth c Q D dA cl B nL cells slots tgt lv st w) (kf : (¬ 0 ≤ x) → X p l e R s m args below meth c Q D dA cl B nL cells slots (pc + 3) lv st w) : X p l e R s m args below meth c Q D dA cl B nL cells slots pc lv (.int x :: st) w :=
  fun H locs ls h1 h2 h3 => lv_if_ge F.1 F.2.1 hd ht (fun hc => kt hc H locs ls h1 h2 h3) (fun hc => kf hc H locs ls h1 h2 h3)
theorem x_if_gt (F : x_Fix p s m args meth c cc nL own Ts ret nm D dA cl tyL B) {x : Int32} {off : Int} {tgt : Nat} (hd : decode cc pc = .ok (.ifCond .gt off, 3)) (ht : (pc : Int) + off = (tgt : Int)) (kt : (0 < x) → X p l e R s m args below meth c Q D dA cl B nL cells slots tgt lv st w) (kf : (¬ 0 < x) → X p l e R s m args below meth c Q D dA cl B nL cells slots (pc + 3) lv st w) : X p l e R s m args below meth c Q D dA cl B nL cells slots pc lv (.int x :: st) w :=
  fun H locs ls h1 h2 h3 => lv_if_gt F.1 F.2.1 hd ht (fun hc => kt hc H locs ls h1 h2 h3) (fun hc => kf hc H locs ls h1 h2 h3)
theorem x_if_le (F : x_Fix p s m args meth c cc nL own Ts ret nm D dA cl tyL B) {x : Int32} {off : Int} {tgt : Nat} (hd : decode cc pc = .ok (.ifCond .le off, 3)) (ht : (pc : Int) + off = (tgt : Int)) (kt : (x ≤ 0) → X p l e R s m args below meth c Q D dA cl B nL cells slots tgt lv st w) (kf : (¬ x ≤ 0) → X p l e R s m args below meth c Q D dA cl B nL cells slots (pc + 3) lv st w) : X p l e R s m args below meth c Q D dA cl B nL cells slots pc lv (.int x :: st) w :=
  fun H locs ls h1 h2 h3 => lv_if_le F.1 F.2.1 hd ht (fun hc => kt hc H locs ls h1 h2 h3) (fun hc => kf hc H locs ls h1 h2 h3)
theorem x_icmp_eq (F : x_Fix p s m args meth c cc nL own Ts ret nm D dA cl tyL B) {x y : Int32} {off : Int} {tgt : Nat} (hd : decode cc pc = .ok (.if_icmp .eq off, 3)) (ht : (pc : Int) + off = (tgt : Int)) (kt : (x = y) → X p l e R s m args below meth c Q D dA cl B nL cells slots tgt lv st w) (kf : (¬ x = y) → X p l e R s m args below meth c Q D dA cl B nL cells slots (pc + 3) lv st w) : X p l e R s m args below meth c Q D dA cl B nL cells slots pc lv (.int y :: .int x :: st) w :=
  fun H locs ls h1 h2 h3 => lv_icmp_eq F.1 F.2.1 hd ht (fun hc => kt hc H locs ls h1 h2 h3) (fun hc => kf hc H locs ls h1 h2 h3)
theorem x_icmp_ne (F : x_Fix p s m args meth c cc nL own Ts ret nm D dA cl tyL B) {x y : Int32} {off : Int} {tgt : Nat} (hd : decode cc pc = .ok (.if_icmp .ne off, 3)) (ht : (pc : Int) + off = (tgt : Int)) (kt : (¬ x = y) → X p l e R s m args below meth c Q D dA cl B nL cells slots tgt lv st w) (kf : (x = y) → X p l e R s m args below meth c Q D dA cl B nL cells slots (pc + 3) lv st w) : X p l e R s m args below meth c Q D dA cl B nL cells slots pc lv (.int y :: .int x :: st) w :=
  fun H locs ls h1 h2 h3 => lv_icmp_ne F.1 F.2.1 hd ht (fun hc => kt hc H locs ls h1 h2 h3) (fun hc => kf hc H locs ls h1 h2 h3)
theorem x_icmp_lt (F : x_Fix p s m args meth c cc nL own Ts ret nm D dA cl tyL B) {x y : Int32} {off : Int} {tgt : Nat} (hd : decode cc pc = .ok (.if_icmp .lt off, 3)) (ht : (pc : Int) + off = (tgt : Int)) (kt : (x < y) → X p l e R s m args below meth c Q D dA cl B nL cells slots tgt lv st w) (kf : (¬ x < y) → X p l e R s m args below meth c Q D dA cl B nL cells slots (pc + 3) lv st w) : X p l e R s m args below meth c Q D dA cl B nL cells slots pc lv (.int y :: .int x :: st) w :=
  fun H locs ls h1 h2 h3 => lv_icmp_lt F.1 F.2.1 hd ht (fun hc => kt hc H locs ls h1 h2 h3) (fun hc => kf hc H locs ls h1 h2 h3)
theorem x_icmp_ge (F : x_Fix p s m args meth c cc nL own Ts ret nm D dA cl tyL B) {x y : Int32} {off : Int} {tgt : Nat} (hd : decode cc pc = .ok (.if_icmp .ge off, 3)) (ht : (pc : Int) + off = (tgt : Int)) (kt : (y ≤ x) → X p l e R s m args below meth c Q D dA cl B nL cells slots tgt lv st w) (kf : (¬ y ≤ x) → X p l e R s m args below meth c Q D dA cl B nL cells slots (pc + 3) lv st w) : X p l e R s m args below meth c Q D dA cl B nL cells slots pc lv (.int y :: .int x :: st) w :=
  fun H locs ls h1 h2 h3 => lv_icmp_ge F.1 F.2.1 hd ht (fun hc => kt hc H locs ls h1 h2 h3) (fun hc => kf hc H locs ls h1 h2 h3)
theorem x_icmp_gt (F : x_Fix p s m args meth c cc nL own Ts ret nm D dA cl tyL B) {x y : Int32} {off : Int} {tgt : Nat} (hd : decode cc pc = .ok (.if_icmp .gt off, 3)) (ht : (pc : Int) + off = (tgt : Int)) (kt : (y < x) → X p l e R s m args below meth c Q D dA cl B nL cells slots tgt lv st w) (kf : (¬ y < x) → X p l e R s m args below meth c Q D dA cl B nL cells slots (pc + 3) lv st w) : X p l e R s m args below meth c Q D dA cl B nL cells slots pc lv (.int y :: .int x :: st) w :=
  fun H locs ls h1 h2 h3 => lv_icmp_gt F.1 F.2.1 hd ht (fun hc => kt hc H locs ls h1 h2 h3) (fun hc => kf hc H locs ls h1 h2 h3)
theorem x_icmp_le (F : x_Fix p s m args meth c cc nL own Ts ret nm D dA cl tyL B) {x y : Int32} {off : Int} {tgt : Nat} (hd : decode cc pc = .ok (.if_icmp .le off, 3)) (ht : (pc : Int) + off = (tgt : Int)) (kt : (x ≤ y) → X p l e R s m args below meth c Q D dA cl B nL cells slots tgt lv st w) (kf : (¬ x ≤ y) → X p l e R s m args below meth c Q D dA cl B nL cells slots (pc + 3) lv st w) : X p l e R s m args below meth c Q D dA cl B nL cells slots pc lv (.int y :: .int x :: st) w :=
  fun H locs ls h1 h2 h3 => lv_icmp_le F.1 F.2.1 hd ht (fun hc => kt hc H locs ls h1 h2 h3) (fun hc => kf hc H locs ls h1 h2 h3)
theorem x_acmp_eq (F : x_Fix p s m args meth c cc nL own Ts ret nm D dA cl tyL B) {rx ry : Option Nat} {off : Int} {tgt : Nat} (hd : decode cc pc = .ok (.if_acmp .eq off, 3)) (ht : (pc : Int) + off = (tgt : Int)) (kt : (rx = ry) → X p l e R s m args below meth c Q D dA cl B nL cells slots tgt lv st w) (kf : (¬ rx = ry) → X p l e R s m args below meth c Q D dA cl B nL cells slots (pc + 3) lv st w) : X p l e R s m args below meth c Q D dA cl B nL cells slots pc lv (va_rf ry :: va_rf rx :: st) w :=
  fun H locs ls h1 h2 h3 => lv_acmp_eq F.1 F.2.1 hd ht (fun hc => kt hc H locs ls h1 h2 h3) (fun hc => kf hc H locs ls h1 h2 h3)
theorem x_acmp_ne (F : x_Fix p s m args meth c cc nL own Ts ret nm D dA cl tyL B) {rx ry : Option Nat} {off : Int} {tgt : Nat} (hd : decode cc pc = .ok (.if_acmp .ne off, 3)) (ht : (pc : Int) + off = (tgt : Int)) (kt : (¬ rx = ry) → X p l e R s m args below meth c Q D dA cl B nL cells slots tgt lv st w) (kf : (rx = ry) → X p l e R s m args below meth c Q D dA cl B nL cells slots (pc + 3) lv st w) : X p l e R s m args below meth c Q D dA cl B nL cells slots pc lv (va_rf ry :: va_rf rx :: st) w :=
  fun H locs ls h1 h2 h3 => lv_acmp_ne F.1 F.2.1 hd ht (fun hc => kt hc H locs ls h1 h2 h3) (fun hc => kf hc H locs ls h1 h2 h3)
theorem x_goto (F : x_Fix p s m args meth c cc nL own Ts ret nm D dA cl tyL B) {off : Int} {tgt : Nat} (hd : decode cc pc = .ok (.goto off, 3)) (ht : (pc : Int) + off = (tgt : Int)) (k : X p l e R s m args below meth c Q D dA cl B nL cells slots tgt lv st w) : X p l e R s m args below meth c Q D dA cl B nL cells slots pc lv st w :=
  fun H locs ls h1 h2 h3 => lv_goto F.1 F.2.1 hd ht (k H locs ls h1 h2 h3)
theorem x_ifnull (F : x_Fix p s m args meth c cc nL own Ts ret nm D dA cl tyL B) {x : Nat} {off : Int} (hd : decode cc pc = .ok (.ifnull off, 3)) (k : X p l e R s m args below meth c Q D dA cl B nL cells slots (pc + 3) lv st w) : X p l e R s m args below meth c Q D dA cl B nL cells slots pc lv (.ref x :: st) w :=
  fun H locs ls h1 h2 h3 => lv_ifnull F.1 F.2.1 hd (k H locs ls h1 h2 h3)
theorem x_ifnonnull (F : x_Fix p s m args meth c cc nL own Ts ret nm D dA cl tyL B) {x : Nat} {off : Int} {tgt : Nat} (hd : decode cc pc = .ok (.ifnonnull off, 3)) (ht : (pc : Int) + off = (tgt : Int)) (k : X p l e R s m args below meth c Q D dA cl B nL cells slots tgt lv st w) : X p l e R s m args below meth c Q D dA cl B nL cells slots pc lv (.ref x :: st) w :=
  fun H locs ls h1 h2 h3 => lv_ifnonnull F.1 F.2.1 hd ht (k H locs ls h1 h2 h3)
theorem x_ifnullN (F : x_Fix p s m args meth c cc nL own Ts ret nm D dA cl tyL B) {off : Int} {tgt : Nat} (hd : decode cc pc = .ok (.ifnull off, 3)) (ht : (pc : Int) + off = (tgt : Int)) (k : X p l e R s m args below meth c Q D dA cl B nL cells slots tgt lv st w) : X p l e R s m args below meth c Q D dA cl B nL cells slots pc lv (.null :: st) w :=
  fun H locs ls h1 h2 h3 => lv_ifnullN F.1 F.2.1 hd ht (k H locs ls h1 h2 h3)
theorem x_ifnonnullN (F : x_Fix p s m args meth c cc nL own Ts ret nm D dA cl tyL B) {off : Int} (hd : decode cc pc = .ok (.ifnonnull off, 3)) (k : X p l e R s m args below meth c Q D dA cl B nL cells slots (pc + 3) lv st w) : X p l e R s m args below meth c Q D dA cl B nL cells slots pc lv (.null :: st) w :=
  fun H locs ls h1 h2 h3 => lv_ifnonnullN F.1 F.2.1 hd (k H locs ls h1 h2 h3)
theorem x_ifnullQ (F : x_Fix p s m args meth c cc nL own Ts ret nm D dA cl tyL B) {o : Option Nat} {off : Int} {tgt : Nat} (hd : decode cc pc = .ok (.ifnull off, 3)) (ht : (pc : Int) + off = (tgt : Int)) (kt : o = none → X p l e R s m args below meth c Q D dA cl B nL cells slots tgt lv st w) (kf : ∀ a, o = some a → X p l e R s m args below meth c Q D dA cl B nL cells slots (pc + 3) lv st w) : X p l e R s m args below meth c Q D dA cl B nL cells slots pc lv (va_rf o :: st) w := by
  cases o with
  | none => exact x_ifnullN F hd ht (kt rfl)
  | some a => exact x_ifnull F hd (kf a rfl)
theorem x_ifnonnullQ (F : x_Fix p s m args meth c cc nL own Ts ret nm D dA cl tyL B) {o : Option Nat} {off : Int} {tgt : Nat} (hd : decode cc pc = .ok (.ifnonnull off, 3)) (ht : (pc : Int) + off = (tgt : Int)) (kt : ∀ a, o = some a → X p l e R s m args below meth c Q D dA cl B nL cells slots tgt lv st w) (kf : o = none → X p l e R s m args below meth c Q D dA cl B nL cells slots (pc + 3) lv st w) : X p l e R s m args below meth c Q D dA cl B nL cells slots pc lv (va_rf o :: st) w := by
  cases o with
  | none => exact x_ifnonnullN F hd (kf rfl)
  | some a => exact x_ifnonnull F hd ht (kt a rfl)
theorem x_tableIn (F : x_Fix p s m args meth c cc nL own Ts ret nm D dA cl tyL B) {dflt lo hi : Int} {offs : Array Int} {len : Nat} {x : Int32} {off : Int} {tgt : Nat} (hd : decode cc pc = .ok (.tableswitch dflt lo hi offs, len)) (g1 : ¬ x.toInt < lo) (g2 : ¬ hi < x.toInt) (ho : offs[(x.toInt - lo).toNat]? = some off) (ht : (pc : Int) + off = (tgt : Int)) (k : X p l e R s m args below meth c Q D dA cl B nL cells slots tgt lv st w) : X p l e R s m args below meth c Q D dA cl B nL cells slots pc lv (.int x :: st) w :=
  fun H locs ls h1 h2 h3 => lv_tableIn F.1 F.2.1 hd g1 g2 ho ht (k H locs ls h1 h2 h3)
theorem x_tableOut (F : x_Fix p s m args meth c cc nL own Ts ret nm D dA cl tyL B) {dflt lo hi : Int} {offs : Array Int} {len : Nat} {x : Int32} {tgt : Nat} (hd : decode cc pc = .ok (.tableswitch dflt lo hi offs, len)) (g : x.toInt < lo ∨ hi < x.toInt) (ht : (pc : Int) + dflt = (tgt : Int)) (k : X p l e R s m args below meth c Q D dA cl B nL cells slots tgt lv st w) : X p l e R s m args below meth c Q D dA cl B nL cells slots pc lv (.int x :: st) w :=
  fun H locs ls h1 h2 h3 => lv_tableOut F.1 F.2.1 hd g ht (k H locs ls h1 h2 h3)
/-- fewer locals, in another order -/
theorem x_lv {lv' : List (Nat × Value)} (h : x_sub lv lv') (k : X p l e R s m args below meth c Q D dA cl B nL cells slots pc lv' st w) : X p l e R s m args below meth c Q D dA cl B nL cells slots pc lv st w := fun H locs ls h1 h2 h3 => k H locs ls h1 h2 (x_sub_has h3 h)
theorem x_widen {n1 n2 : Nat} (h1 : cells ≤ n1) (h2 : slots ≤ n2) (k : X p l e R s m args below meth c Q D dA cl B nL n1 n2 pc lv st w) : X p l e R s m args below meth c Q D dA cl B nL cells slots pc lv st w := fun H locs ls g1 g2 g3 => W.widen h1 h2 (k H locs ls g1 g2 g3)
theorem x_top {v : Value} (k : ∀ v2, v2 = v → X p l e R s m args below meth c Q D dA cl B nL cells slots pc lv (v2 :: st) w) : X p l e R s m args below meth c Q D dA cl B nL cells slots pc lv (v :: st) w := k v rfl
/-- less of the world -/
theorem x_forget {w2 : xW} (h : ∀ a x, w2 a = some x → w a = some x) (k : X p l e R s m args below meth c Q D dA cl B nL cells slots pc lv st w2) : X p l e R s m args below meth c Q D dA cl B nL cells slots pc lv st w := fun H locs ls g1 g2 g3 => k H locs ls (fun a x hx => g1 a x (h a x hx)) g2 g3

/-- getfield -/
theorem x_get (F : x_Fix p s m args meth c cc nL own Ts ret nm D dA cl tyL B) {ref C : String} {T : u_T} {N ci index a k : Nat} {fs : List Value} {v : Value} (hd : decode cc pc = .ok (.getfield index, 3)) (hc : cl[ci]? = some (C, T, N)) (hin : ∀ q ∈ u_ws C T N, q ∈ Ts) (hk : k < N) (hlink : Cond.fieldLink own index ref (T k).2.1 (T k).2.2.1 ∈ Ts) (href : (T k).1 = ref) (hw : w a = some (.inr (ci, fs))) (hv : fs[k]? = some v) (kk : X p l e R s m args below meth c Q D dA cl B nL cells slots (pc + 3) lv (v :: st) w) : X p l e R s m args below meth c Q D dA cl B nL cells slots pc lv (.ref a :: st) w := by
  subst href
  intro H locs ls h1 h2 h3
  obtain ⟨i, hi⟩ := h1.at hw
  exact va_get F.1 F.2.1 F.2.2.2.2.1 hin F.2.2.2.1 F.2.2.2.2.2.1 h1.toL i hi hc k hk (F.2.2.2.2.1 _ hlink) (fun _ h => h) hv hd (kk H locs ls h1 h2 h3)
/-- putfield -/
theorem x_put (F : x_Fix p s m args meth c cc nL own Ts ret nm D dA cl tyL B) {ref C : String} {T : u_T} {N ci index a k : Nat} {fs : List Value} {v : Value} (hd : decode cc pc = .ok (.putfield index, 3)) (hc : cl[ci]? = some (C, T, N)) (hin : ∀ q ∈ u_ws C T N, q ∈ Ts) (ty0 : Nat → FieldType) (hty : ∀ k, k < N → parseFieldDescriptor (T k).2.2.1 = some (ty0 k)) (hnm : ∀ a, a < N → ∀ b, b < N → a ≠ b → (T a).2.1 ≠ (T b).2.1) (hk : k < N) (hlink : Cond.fieldLink own index ref (T k).2.1 (T k).2.2.1 ∈ Ts) (href : (T k).1 = ref) (hfin : (T k).2.2.2 = false) (hw : w a = some (.inr (ci, fs))) (hl : k < fs.length) (hn : narrow (ty0 k) v = v) (hfit : fits (ty0 k) v = true) (kk : X p l e R s m args below meth c Q D dA cl B nL cells slots (pc + 3) lv st (x_set w a (.inr (ci, fs.set k v)))) : X p l e R s m args below meth c Q D dA cl B nL cells slots pc lv (v :: .ref a :: st) w := by
  subst href
  intro H locs ls h1 h2 h3
  obtain ⟨i, hi⟩ := h1.at hw
  exact va_put F.1 F.2.1 F.2.2.2.2.1 hin ty0 hty hnm F.2.2.2.1 F.2.2.2.2.2.1 h1.toL h1.toD h2 i hi hc k hk (F.2.2.2.2.1 _ hlink) (fun _ h => h) hfin (hty k hk) hn hfit hl hd (fun H1 locs1 g1 _ g3 => kk H1 locs1 ls (h1.ofSet hw hi g1) g3 h3)
/-- putfield of a final field, in a constructor -/
theorem x_putF (F : x_Fix p s m args meth c cc nL own Ts ret nm D dA cl tyL B) {ref C : String} {T : u_T} {N ci index a k : Nat} {fs : List Value} {v : Value} (hd : decode cc pc = .ok (.putfield index, 3)) (hc : cl[ci]? = some (C, T, N)) (hin : ∀ q ∈ u_ws C T N, q ∈ Ts) (ty0 : Nat → FieldType) (hty : ∀ k, k < N → parseFieldDescriptor (T k).2.2.1 = some (ty0 k)) (hnm : ∀ a, a < N → ∀ b, b < N → a ≠ b → (T a).2.1 ≠ (T b).2.1) (hk : k < N) (hlink : Cond.fieldLink own index ref (T k).2.1 (T k).2.2.1 ∈ Ts) (href : (T k).1 = ref) (hfin : (T k).2.2.2 = true) (hnm0 : nm = "<init>") (hdecl : (T k).1 = own) (hw : w a = some (.inr (ci, fs))) (hl : k < fs.length) (hn : narrow (ty0 k) v = v) (hfit : fits (ty0 k) v = true) (kk : X p l e R s m args below meth c Q D dA cl B nL cells slots (pc + 3) lv st (x_set w a (.inr (ci, fs.set k v)))) : X p l e R s m args below meth c Q D dA cl B nL cells slots pc lv (v :: .ref a :: st) w := by
  subst href
  intro H locs ls h1 h2 h3
  obtain ⟨i, hi⟩ := h1.at hw
  exact va_putF F.1 F.2.1 F.2.2.2.2.1 hin ty0 hty hnm F.2.2.2.1 F.2.2.2.2.2.1 h1.toL h1.toD h2 i hi hc k hk (F.2.2.2.2.1 _ hlink) (fun _ h => h) hfin (F.2.2.2.2.2.2.2.2.2.1.trans hnm0) hdecl (hty k hk) hn hfit hl hd (fun H1 locs1 g1 _ g3 => kk H1 locs1 ls (h1.ofSet hw hi g1) g3 h3)
/-- new -/
theorem x_new (F : x_Fix p s m args meth c cc nL own Ts ret nm D dA cl tyL B) {C : String} {T : u_T} {N ci index : Nat} {fs : List Value} (hd : decode cc pc = .ok (.new index, 3)) (hc : cl[ci]? = some (C, T, N)) (hin : ∀ q ∈ u_ws C T N, q ∈ Ts) (ty0 : Nat → FieldType) (hty : ∀ k, k < N → parseFieldDescriptor (T k).2.2.1 = some (ty0 k)) (hcl : Cond.classLink own index C ∈ Ts) (hinst : Cond.instantiable C N ∈ Ts) (hini : Cond.initialized C ∈ Ts) (hfs : ∀ j, j < N → defaultValue (ty0 j) = vp_V fs j) (hcells : cells + 1 ≤ R.cells) (hslots : slots + N ≤ R.slots) (kk : ∀ a, w a = none → X p l e R s m args below meth c Q D dA cl B nL (cells + 1) (slots + N) (pc + 3) lv (.ref a :: st) (x_set w a (.inr (ci, fs)))) : X p l e R s m args below meth c Q D dA cl B nL cells slots pc lv st w := by
  intro H locs ls h1 h2 h3
  refine va_new F.1 F.2.1 F.2.2.2.2.1 hin ty0 hty F.2.2.2.1 (F.2.2.2.2.1 _ hcl) (F.2.2.2.2.1 _ hinst) (F.2.2.2.2.1 _ hini) F.2.2.2.2.2.1 h1.toL h1.toD h2 (fun q hq => Nat.le_trans F.2.2.2.2.2.2.1 hq) hc (fs := fs) hfs hcells hslots hd (fun q H1 g1 g2 g3 => ?_)
  have hq : B ≤ q := g2.2 (x_L dA w H.size).length (q, .inr (ci, fs)) (by simp)
  obtain ⟨f1, f2⟩ := h1.ofPush (x := .inr (ci, fs)) hq g1 g2
  exact kk q f1 H1 locs ls f2 g3 h3
/-- the length of an array -/
theorem x_alen (F : x_Fix p s m args meth c cc nL own Ts ret nm D dA cl tyL B) {t a : Nat} {z : vp_A} {ty : FieldType} {v : Int32} (hd : decode cc pc = .ok (.arraylength, 1)) (ht : tyL[t]? = some ty) (hw : w a = some (.inl (t, z))) (hv : Int32.ofNat z.1 = v) (kk : X p l e R s m args below meth c Q D dA cl B nL cells slots (pc + 1) lv (.int v :: st) w) : X p l e R s m args below meth c Q D dA cl B nL cells slots pc lv (.ref a :: st) w := by
  intro H locs ls h1 h2 h3
  obtain ⟨i, hi⟩ := h1.at hw
  exact va_alen F.1 F.2.1 F.2.2.2.2.2.1 h1.toL i t hi (x_tys_at ht) hv hd (kk H locs ls h1 h2 h3)
theorem x_iald (F : x_Fix p s m args meth c cc nL own Ts ret nm D dA cl tyL B) {t a n : Nat} {f : Nat → Int32} {i : Int32} (hd : decode cc pc = .ok (.iaload, 1)) (ht : tyL[t]? = some .int) (hw : w a = some (.inl (t, n, .inl f))) (hin : vp_in i n) (kk : X p l e R s m args below meth c Q D dA cl B nL cells slots (pc + 1) lv (.int (f i.toNatClampNeg) :: st) w) : X p l e R s m args below meth c Q D dA cl B nL cells slots pc lv (.int i :: .ref a :: st) w := by
  intro H locs ls h1 h2 h3
  obtain ⟨j, hj⟩ := h1.at hw
  exact va_iald F.1 F.2.1 F.2.2.2.2.2.1 h1.toL j t hj (x_tys_at ht) hin hd (kk H locs ls h1 h2 h3)
theorem x_iast (F : x_Fix p s m args meth c cc nL own Ts ret nm D dA cl tyL B) {t a n : Nat} {f : Nat → Int32} {i v : Int32} (hd : decode cc pc = .ok (.iastore, 1)) (ht : tyL[t]? = some .int) (hw : w a = some (.inl (t, n, .inl f))) (hin : vp_in i n) (kk : X p l e R s m args below meth c Q D dA cl B nL cells slots (pc + 1) lv st (x_set w a (.inl (t, n, .inl (upd f i.toNatClampNeg v))))) : X p l e R s m args below meth c Q D dA cl B nL cells slots pc lv (.int v :: .int i :: .ref a :: st) w := by
  intro H locs ls h1 h2 h3
  obtain ⟨j, hj⟩ := h1.at hw
  exact va_iast F.1 F.2.1 F.2.2.2.2.2.1 h1.toL h1.toD h2 j t hj (x_tys_at ht) hin hd (fun H1 locs1 g1 _ g3 => kk H1 locs1 ls (h1.ofSet (x := .inl (t, n, .inl (upd f i.toNatClampNeg v))) hw hj g1) g3 h3)
theorem x_aald (F : x_Fix p s m args meth c cc nL own Ts ret nm D dA cl tyL B) {t a n : Nat} {C : String} {f : Nat → Option Nat} {i : Int32} (hd : decode cc pc = .ok (.aaload, 1)) (ht : tyL[t]? = some (.object C)) (hw : w a = some (.inl (t, n, .inr (.inr (.inr (.inr f)))))) (hin : vp_in i n) (kk : X p l e R s m args below meth c Q D dA cl B nL cells slots (pc + 1) lv (va_rf (f i.toNatClampNeg) :: st) w) : X p l e R s m args below meth c Q D dA cl B nL cells slots pc lv (.int i :: .ref a :: st) w := by
  intro H locs ls h1 h2 h3
  obtain ⟨j, hj⟩ := h1.at hw
  exact va_aldq F.1 F.2.1 F.2.2.2.2.2.1 h1.toL j t hj (x_tys_at ht) hin hd (kk H locs ls h1 h2 h3)
theorem x_aast (F : x_Fix p s m args meth c cc nL own Ts ret nm D dA cl tyL B) {t a n v ci N : Nat} {C : String} {T : u_T} {vs : List Value} {f : Nat → Option Nat} {i : Int32} (hd : decode cc pc = .ok (.aastore, 1)) (ht : tyL[t]? = some (.object C)) (hc : cl[ci]? = some (C, T, N)) (hw : w a = some (.inl (t, n, .inr (.inr (.inr (.inr f)))))) (hv : w v = some (.inr (ci, vs))) (hin : vp_in i n) (kk : X p l e R s m args below meth c Q D dA cl B nL cells slots (pc + 1) lv st (x_set w a (.inl (t, n, .inr (.inr (.inr (.inr (va_up f i.toNatClampNeg (some v))))))))) : X p l e R s m args below meth c Q D dA cl B nL cells slots pc lv (.ref v :: .int i :: .ref a :: st) w := by
  intro H locs ls h1 h2 h3
  obtain ⟨j, hj⟩ := h1.at hw
  obtain ⟨j2, hj2⟩ := h1.at hv
  exact va_astq (r := (C, T, N)) F.1 F.2.1 F.2.2.2.2.2.1 h1.toL h1.toD h2 j t j2 ci hj (x_tys_at ht) hj2 hc hin hd (fun H1 locs1 g1 _ g3 => kk H1 locs1 ls (h1.ofSet (x := .inl (t, n, .inr (.inr (.inr (.inr (va_up f i.toNatClampNeg (some v))))))) hw hj g1) g3 h3)
/-- a new int array -/
theorem x_newa (F : x_Fix p s m args meth c cc nL own Ts ret nm D dA cl tyL B) {t N : Nat} {n : Int32} (hd : decode cc pc = .ok (.newarray .int, 2)) (ht : tyL[t]? = some .int) (harr : Cond.arrayClass .int ∈ Ts) (hn : ¬ n < 0) (hN : n.toNatClampNeg = N) (hbytes : N * componentBytes .int ≤ 536870912) (hcells : cells + 1 ≤ R.cells) (hslots : slots + N ≤ R.slots) (kk : ∀ a, w a = none → X p l e R s m args below meth c Q D dA cl B nL (cells + 1) (slots + N) (pc + 2) lv (.ref a :: st) (x_set w a (.inl (t, N, .inl (fun _ => 0))))) : X p l e R s m args below meth c Q D dA cl B nL cells slots pc lv (.int n :: st) w := by
  intro H locs ls h1 h2 h3
  refine va_newa (atype := .int) (ty := .int) (a0 := (N, .inl (fun _ => 0))) F.1 F.2.1 (F.2.2.2.2.1 _ harr) rfl F.2.2.2.2.2.1 h1.toL h1.toD h2 (fun q hq => Nat.le_trans F.2.2.2.2.2.2.1 hq) (fun cA => by rw [vp_cell_i]; rfl) hn hN hbytes hcells hslots hd (fun q cA H1 gK g1 g2 g3 => ?_)
  have hq : B ≤ q := g2.2 (x_L dA w H.size).length (q, .inl (cA, N, .inl (fun _ => 0))) (by simp)
  have e1 : s.vm.findClass ("[" ++ FieldType.int.toString) = some cA := (gK.2 (x_tys dA tyL).length (cA, .int) (by simp)).2
  have e2 : s.vm.findClass ("[" ++ FieldType.int.toString) = some (dA t) := (F.2.2.2.2.2.1.2 t (dA t, .int) (x_tys_at ht)).2
  have hcA : cA = dA t := Option.some.inj (e1.symm.trans e2)
  subst hcA
  obtain ⟨f1, f2⟩ := h1.ofPush (x := .inl (t, N, .inl (fun _ => 0))) hq g1 g2
  exact kk q f1 H1 locs ls f2 g3 h3
/-- a new array of references -/
theorem x_newq (F : x_Fix p s m args meth c cc nL own Ts ret nm D dA cl tyL B) {t N index : Nat} {C : String} {n : Int32} (hd : decode cc pc = .ok (.anewarray index, 3)) (ht : tyL[t]? = some (.object C)) (hcl : Cond.classLink own index C ∈ Ts) (hover : va_AO C s) (hn : ¬ n < 0) (hN : n.toNatClampNeg = N) (hbytes : N * 4 ≤ 536870912) (hcells : cells + 1 ≤ R.cells) (hslots : slots + N ≤ R.slots) (kk : ∀ a, w a = none → X p l e R s m args below meth c Q D dA cl B nL (cells + 1) (slots + N) (pc + 3) lv (.ref a :: st) (x_set w a (.inl (t, N, .inr (.inr (.inr (.inr (fun _ => none)))))))) : X p l e R s m args below meth c Q D dA cl B nL cells slots pc lv (.int n :: st) w := by
  intro H locs ls h1 h2 h3
  refine va_newq F.1 F.2.1 F.2.2.2.1 (F.2.2.2.2.1 _ hcl) hover F.2.2.2.2.2.1 h1.toL h1.toD h2 (fun q hq => Nat.le_trans F.2.2.2.2.2.2.1 hq) hn hN hbytes hcells hslots hd (fun q cA H1 gK g1 g2 g3 => ?_)
  have hq : B ≤ q := g2.2 (x_L dA w H.size).length (q, .inl (cA, N, .inr (.inr (.inr (.inr (fun _ => none)))))) (by simp)
  obtain ⟨_, _, _, _, _, e1⟩ := (gK.2 (x_tys dA tyL).length (cA, .object C) (by simp)).2
  obtain ⟨_, _, _, _, _, e2⟩ := (F.2.2.2.2.2.1.2 t (dA t, .object C) (x_tys_at ht)).2
  have hcA : cA = dA t := Option.some.inj (e1.symm.trans e2)
  subst hcA
  obtain ⟨f1, f2⟩ := h1.ofPush (x := .inl (t, N, .inr (.inr (.inr (.inr (fun _ => none)))))) hq g1 g2
  exact kk q f1 H1 locs ls f2 g3 h3
/-- Object's constructor -/
theorem x_objInit (F : x_Fix p s m args meth c cc nL own Ts ret nm D dA cl tyL B) {idx a : Nat} (hd : decode cc pc = .ok (.invokespecial idx, 3)) (hl : Cond.methodLink own idx objectInit ∈ Ts) (hi : Cond.instanceMethod objectInit ∈ Ts) (hc : Cond.code objectInit ⟨#[0xb1]⟩ 1 none ∈ Ts) (hf : 1 ≤ R.frames) (hlo : (st.map fun v => v.category).sum + 12 ≤ R.locals) (kk : X p l e R s m args below meth c Q D dA cl B nL cells slots (pc + 3) lv st w) : X p l e R s m args below meth c Q D dA cl B nL cells slots pc lv (.ref a :: st) w := by
  intro H locs ls h1 h2 h3
  exact W.objInit F.1 F.2.1 F.2.2.2.1 (F.2.2.2.2.1 _ hl) (F.2.2.2.2.1 _ hi) (F.2.2.2.2.1 _ hc) rfl (h3.1.trans F.2.2.1.symm) rfl hd hf (by simpa [JFrame.monitorRoom] using hlo) (kk H locs ls h1 h2 h3)
/-- Math.max of two ints -/
theorem x_max (F : x_Fix p s m args meth c cc nL own Ts ret nm D dA cl tyL B) {index : Nat} {x y : Int32} (hd : decode cc pc = .ok (.invokestatic index, 3)) (hl : Cond.methodLink own index Lib.Math.max.name ∈ Ts) (hs : Cond.static Lib.Math.max.name ∈ Ts) (hi : Cond.initialized "java/lang/Math" ∈ Ts) (hco : Cond.code Lib.Math.max.name Lib.Math.max.code 2 (some .int) ∈ Ts) (hf : 1 ≤ R.frames) (hlo : (st.map fun v => v.category).sum + 13 ≤ R.locals) (g1 : cells ≤ R.cells) (g2 : slots ≤ R.slots) (kk : X p l e R s m args below meth c Q D dA cl B nL cells slots (pc + 3) lv (.int (if x < y then y else x) :: st) w) : X p l e R s m args below meth c Q D dA cl B nL cells slots pc lv (.int y :: .int x :: st) w := by
  intro H locs ls h1 h2 h3
  exact va_mmax F.1 F.2.1 (F.2.2.1.trans h3.1.symm) F.2.2.2.1 (F.2.2.2.2.1 _ hl) (F.2.2.2.2.1 _ hs) (F.2.2.2.2.1 _ hi) (F.2.2.2.2.1 _ hco) hf hlo g1 g2 hd (kk H locs ls h1 h2 h3)

theorem x_blind {D : va_G} {dA : Nat → ClassId} {cl : List vw_C} {tyL : List FieldType} {B : Nat} {w : xW} {av : List Value} : FrameBlind (va_Pc av (fun U => B ≤ U.heap.size ∧ x_P D dA cl B w U.heap ∧ va_K D cl (x_tys dA tyL) U ∧ x_xt U)) :=
  fun a U g mk q => ⟨q.1, q.2.1, q.2.2.1, va_K.moved (u := U) (U := U.calling g mk a) (Vm.Alike.refl U.vm) q.2.2.2.1, x_xt.same (u := U) (U := U.calling g mk a) rfl q.2.2.2.2⟩
theorem x_goes {R : Room} {post : Option Value → xW → Prop} {a : Array Value} {ls : Array Slot} {H : Heap} {locs : List Loc} {rest st0 : List Value} {mc ms : Nat} (hS : va_S (fun q => B ≤ q) s.heap H locs) (hl : lv_has ls nL lv) (hr : va_Run p l e R s m args below meth c H locs cells slots mc ms (F0 m pc ls st0) rest (x_Q D dA cl tyL B post a) (fun q => B ≤ q)) (k : ∀ r w1, post r w1 → X p l e R s m args below meth c Q D dA cl B nL (cells + mc) (slots + ms) (pc + 3) lv (r.toList ++ rest) w1) : W p l e R s m args below meth c H locs cells slots Q (F0 m pc ls st0) := by
  intro T hT X0
  obtain ⟨v, st₀, t, T', L, h0, X', hL, e1, e2, ⟨⟨r, w1, hv, hp, hw, -⟩, hz, hk⟩, sg⟩ := hr T hT X0
  cases hv
  rw [h0] at hz hk
  have hw' : x_P D dA cl B w1 T'.heap := by rw [e1]; exact hw
  obtain ⟨t2, a1, b1⟩ := k v w1 hp T'.heap (locs ++ L) ls hw' ⟨Nat.le_trans hS.1 (by rw [e1]; exact hz), fun q h1 h2 => by rw [e1, hk q (Nat.lt_of_lt_of_le h1 hS.1) h2]; exact hS.2.1 q h1 h2, fun q hq => by
      rcases List.mem_append.mp hq with h | h
      · exact hS.2.2 q h
      · exact hL q h⟩ hl T' rfl X'
  exact ⟨t2, sg t2 a1, b1⟩
/-- a call: what a program can decide of it -/
def x_call (R : Room) (cells slots : Nat) (rm : Room) (mc ms : Nat) (ws ws2 : List Cond) (y : MethodName) (bytes : ByteArray) (maxL : Nat) (rt : Option FieldType) (n : Nat) : Prop :=
  ws = Cond.code y bytes maxL rt :: ws2 ∧ rm.cells = mc ∧ rm.slots = ms ∧ (y.cls ≠ "java/lang/invoke/MethodHandle" ∧ y.cls ≠ "java/lang/invoke/VarHandle" ∧ (parseMethodDescriptor y.desc).map (fun d => d.parameters.length) = some n) ∧ (rm.frames + 1 ≤ R.frames ∧ 8 + (maxL + 11) + rm.locals ≤ R.locals) ∧ cells + mc ≤ R.cells ∧ slots + ms ≤ R.slots
theorem x_callV (F : x_Fix p s m args meth c cc nL own Ts ret nm D dA cl tyL B) {C : String} {T : u_T} {N ci index maxL n mc ms b : Nat} {y : MethodName} {bytes : ByteArray} {rt : Option FieldType} {ws ws2 : List Cond} {rm : Room} {av rest fs : List Value} {post : Option Value → xW → Prop} (hd : decode cc pc = .ok (.invokevirtual index, 3)) (hG : GoodIn Ts (wsV own index C y ws)) (hy : y.cls = C) (hM : x_Ct l D dA cl tyL B y ws rm (.ref b :: av) w post mc ms) (hC : x_call R cells slots rm mc ms ws ws2 y bytes maxL rt n) (hc : cl[ci]? = some (C, T, N)) (hb : w b = some (.inr (ci, fs))) (hn : av.length = n) (hst : st = av.reverse ++ .ref b :: rest) (hcat : (rest.map fun v => v.category).sum ≤ 8) (k : ∀ r w1, post r w1 → X p l e R s m args below meth c Q D dA cl B nL (cells + mc) (slots + ms) (pc + 3) lv (r.toList ++ rest) w1) : X p l e R s m args below meth c Q D dA cl B nL cells slots pc lv st w := by
  intro H locs ls h1 h2 h3
  obtain ⟨c1, c2, c3, c4, c5, c6⟩ := hC
  obtain ⟨i, hi⟩ := h1.at hb
  exact x_goes h2 h3 (va_runV (As := av) (rest := rest) ⟨F.1, F.2.1, F.2.2.1, F.2.2.2.1, F.2.2.2.2.1⟩ hM (cwV n F.2.2.2.2.1 hG c1 c2 c3 ⟨hy, c4⟩ c5) ⟨x_blind, va_recv F.2.2.2.2.2.1 h1.toL hc hi, fun U hU hW => ⟨rfl, by rw [hU]; exact Nat.le_trans F.2.2.2.2.2.2.1 h2.1, by rw [hU]; exact h1, va_K.moved hW.alike F.2.2.2.2.2.1, x_xt.warm hW F.2.2.2.2.2.2.2.2.2.2⟩⟩ rfl hn h3.1 hst (lv_room hcat) hd c6) k
theorem x_callS (F : x_Fix p s m args meth c cc nL own Ts ret nm D dA cl tyL B) {index maxL n mc ms : Nat} {y : MethodName} {bytes : ByteArray} {rt : Option FieldType} {ws ws2 : List Cond} {rm : Room} {av rest : List Value} {post : Option Value → xW → Prop} (hd : decode cc pc = .ok (.invokestatic index, 3)) (hG : GoodIn Ts (va_wsS own index y ws)) (hM : x_Ct l D dA cl tyL B y ws rm av w post mc ms) (hC : x_call R cells slots rm mc ms ws ws2 y bytes maxL rt n) (hn : av.length = n) (hst : st = av.reverse ++ rest) (hcat : (rest.map fun v => v.category).sum ≤ 8) (k : ∀ r w1, post r w1 → X p l e R s m args below meth c Q D dA cl B nL (cells + mc) (slots + ms) (pc + 3) lv (r.toList ++ rest) w1) : X p l e R s m args below meth c Q D dA cl B nL cells slots pc lv st w := by
  intro H locs ls h1 h2 h3
  obtain ⟨c1, c2, c3, c4, c5, c6⟩ := hC
  exact x_goes h2 h3 (va_runS (As := av) (rest := rest) ⟨F.1, F.2.1, F.2.2.1, F.2.2.2.1, F.2.2.2.2.1⟩ hM (va_cwS n F.2.2.2.2.1 hG c1 c2 c3 c4 c5) ⟨x_blind, fun U hU hW => ⟨rfl, by rw [hU]; exact Nat.le_trans F.2.2.2.2.2.2.1 h2.1, by rw [hU]; exact h1, va_K.moved hW.alike F.2.2.2.2.2.1, x_xt.warm hW F.2.2.2.2.2.2.2.2.2.2⟩⟩ rfl hn h3.1 hst (lv_room hcat) hd c6) k
theorem x_callI (F : x_Fix p s m args meth c cc nL own Ts ret nm D dA cl tyL B) {index maxL n mc ms b : Nat} {y : MethodName} {bytes : ByteArray} {ws ws2 : List Cond} {rm : Room} {av rest : List Value} {post : Option Value → xW → Prop} (hd : decode cc pc = .ok (.invokespecial index, 3)) (hG : GoodIn Ts ws) (hini : Cond.initialized y.cls ∈ Ts) (hlk : Cond.methodLink own index y ∈ Ts) (hin : Cond.instanceMethod y ∈ Ts) (hy : y.name = "<init>") (hM : x_Ct l D dA cl tyL B y ws rm (.ref b :: av) w post mc ms) (hC : x_call R cells slots rm mc ms ws ws2 y bytes maxL none n) (hn : av.length = n) (hst : st = av.reverse ++ .ref b :: rest) (hcat : (rest.map fun v => v.category).sum ≤ 8) (k : ∀ r w1, post r w1 → X p l e R s m args below meth c Q D dA cl B nL (cells + mc) (slots + ms) (pc + 3) lv (r.toList ++ rest) w1) : X p l e R s m args below meth c Q D dA cl B nL cells slots pc lv st w := by
  intro H locs ls h1 h2 h3
  obtain ⟨c1, c2, c3, c4, c5, c6⟩ := hC
  exact x_goes h2 h3 (va_runI (As := av) (rest := rest) ⟨F.1, F.2.1, F.2.2.1, F.2.2.2.1, F.2.2.2.2.1⟩ hM (cwI n F.2.2.2.2.1 hG c1 c2 c3 (F.2.2.2.2.1 _ hini) (F.2.2.2.2.1 _ hlk) (F.2.2.2.2.1 _ hin) hy c4 c5) ⟨x_blind, fun U hU hW => ⟨rfl, by rw [hU]; exact Nat.le_trans F.2.2.2.2.2.2.1 h2.1, by rw [hU]; exact h1, va_K.moved hW.alike F.2.2.2.2.2.1, x_xt.warm hW F.2.2.2.2.2.2.2.2.2.2⟩⟩ rfl hn h3.1 hst (lv_room hcat) hd c6) k
theorem x_Fix.xt (F : x_Fix p s m args meth c cc nL own Ts ret nm D dA cl tyL B) : x_xt s := F.2.2.2.2.2.2.2.2.2.2
theorem x_callIN (F : x_Fix p s m args meth c cc nL own Ts ret nm D dA cl tyL B) {host : String} {index maxL n mc ms b : Nat} {y : MethodName} {bytes : ByteArray} {ws ws2 : List Cond} {rm : Room} {av rest : List Value} {post : Option Value → xW → Prop} (hd : decode cc pc = .ok (.invokespecial index, 3)) (hG : GoodIn Ts ws) (hini : Cond.initialized y.cls ∈ Ts) (hlk : va_Nw (.methodLinkNest own index y host) s) (hin : Cond.instanceMethod y ∈ Ts) (hy : y.name = "<init>") (hM : x_Ct l D dA cl tyL B y ws rm (.ref b :: av) w post mc ms) (hC : x_call R cells slots rm mc ms ws ws2 y bytes maxL none n) (hn : av.length = n) (hst : st = av.reverse ++ .ref b :: rest) (hcat : (rest.map fun v => v.category).sum ≤ 8) (k : ∀ r w1, post r w1 → X p l e R s m args below meth c Q D dA cl B nL (cells + mc) (slots + ms) (pc + 3) lv (r.toList ++ rest) w1) : X p l e R s m args below meth c Q D dA cl B nL cells slots pc lv st w := by
  intro H locs ls h1 h2 h3
  obtain ⟨c1, c2, c3, c4, c5, c6⟩ := hC
  exact x_goes h2 h3 (va_runIN (As := av) (rest := rest) ⟨F.1, F.2.1, F.2.2.1, F.2.2.2.1, F.2.2.2.2.1⟩ hM ⟨va_cnB n F.2.2.2.2.1 hG c1 c2 c3 hlk (F.2.2.2.2.1 _ hini) c4 c5, hy, F.2.2.2.2.1 _ hin⟩ ⟨x_blind, fun U hU hW => ⟨rfl, by rw [hU]; exact Nat.le_trans F.2.2.2.2.2.2.1 h2.1, by rw [hU]; exact h1, va_K.moved hW.alike F.2.2.2.2.2.1, x_xt.warm hW F.2.2.2.2.2.2.2.2.2.2⟩⟩ rfl hn h3.1 hst (lv_room hcat) hd c6) k
/-- a body: its entry -/
theorem x_Ct.of {y : MethodName} {ws ws2 : List Cond} {rm : Room} {av : List Value} {post : Option Value → xW → Prop} {mc ms : Nat} {cc : ByteArray} {maxL : Nat} {rt : Option FieldType} (hy : plainName y.cls = true) (hw : ws = Cond.code y cc maxL rt :: ws2) (hlen : (lg_sl av).length ≤ maxL)
    (body : ∀ (p : Program) (e : Env) (s : State) (m : MethodId) (below : List Frame) (meth : Method) (c : Code), x_Fix p s m av.toArray meth c cc maxL y.cls ws2 rt y.name D dA cl tyL B → X p l e rm s m av.toArray below meth c (MQ below (x_Q D dA cl tyL B post) av.toArray s mc ms (fun q => B ≤ q)) D dA cl B maxL 0 0 0 (lv_args 0 av) [] w) : x_Ct l D dA cl tyL B y ws rm av w post mc ms := by
  refine Met.ofW (cc := cc) (maxL := maxL) (ret := rt) hy hw ?_
  intro p e s m args below meth c s₁ B0 hml hv
  obtain ⟨rfl, hB, hP, hK, hX⟩ := hv
  have hl := lv_entry av hlen
  rw [lg_entry_eq]
  exact body p e s m below meth c ⟨B0.exec, B0.bytes, hml, findClass_of_methodNamed B0.named, (fun q hq => atoms_spec (ws := ws) B0.pre q (by rw [hw]; exact List.mem_cons_of_mem _ hq)), hK, hB, B0.returns, B0.notSynchronized, (name_of_methodNamed B0.named B0.method).1, hX⟩ s.heap [] _ hP va_S.rf hl
section XR
variable {post : Option Value → xW → Prop} {mc ms : Nat}
theorem x_iret (F : x_Fix p s m args meth c cc nL own Ts ret nm D dA cl tyL B) {v : Int32} {ty : FieldType} (hr : ret = some ty) (hn : narrow ty (.int v) = .int v) (hd : decode cc pc = .ok (.ireturn, 1)) (h1 : cells ≤ mc) (h2 : slots ≤ ms) (hq : post (some (.int v)) w) : X p l e R s m args below meth c (MQ below (x_Q D dA cl tyL B post) args s mc ms (fun q => B ≤ q)) D dA cl B nL cells slots pc lv [.int v] w :=
  fun H locs ls g1 g2 g3 => W.widen h1 h2 (W.zret F.1 F.2.1 (F.2.2.2.2.2.2.2.1.trans hr) hn (fun t ht hW => ⟨⟨_, w, rfl, hq, by rw [ht]; exact g1, va_K.moved hW.alike F.2.2.2.2.2.1⟩, g2.F ht⟩) g2.2.2 hd F.2.2.2.2.2.2.2.2.1)
theorem x_lret (F : x_Fix p s m args meth c cc nL own Ts ret nm D dA cl tyL B) {v : Int64} (hr : ret = some .long) (hd : decode cc pc = .ok (.lreturn, 1)) (h1 : cells ≤ mc) (h2 : slots ≤ ms) (hq : post (some (.long v)) w) : X p l e R s m args below meth c (MQ below (x_Q D dA cl tyL B post) args s mc ms (fun q => B ≤ q)) D dA cl B nL cells slots pc lv [.long v] w :=
  fun H locs ls g1 g2 g3 => W.widen h1 h2 (W.lret F.1 F.2.1 (F.2.2.2.2.2.2.2.1.trans hr) (fun t ht hW => ⟨⟨_, w, rfl, hq, by rw [ht]; exact g1, va_K.moved hW.alike F.2.2.2.2.2.1⟩, g2.F ht⟩) g2.2.2 hd F.2.2.2.2.2.2.2.2.1)
theorem x_vret (F : x_Fix p s m args meth c cc nL own Ts ret nm D dA cl tyL B) (hr : ret = none) (hd : decode cc pc = .ok (.return_, 1)) (h1 : cells ≤ mc) (h2 : slots ≤ ms) (hq : post none w) : X p l e R s m args below meth c (MQ below (x_Q D dA cl tyL B post) args s mc ms (fun q => B ≤ q)) D dA cl B nL cells slots pc lv [] w :=
  fun H locs ls g1 g2 g3 => W.widen h1 h2 (W.vret F.1 F.2.1 (F.2.2.2.2.2.2.2.1.trans hr) (fun t ht hW => ⟨⟨_, w, rfl, hq, by rw [ht]; exact g1, va_K.moved hW.alike F.2.2.2.2.2.1⟩, g2.F ht⟩) g2.2.2 hd F.2.2.2.2.2.2.2.2.1)
theorem x_aret (F : x_Fix p s m args meth c cc nL own Ts ret nm D dA cl tyL B) {o : Option Nat} {C : String} (hr : ret = some (.object C)) (hd : decode cc pc = .ok (.areturn, 1)) (h1 : cells ≤ mc) (h2 : slots ≤ ms) (hq : post (some (va_rf o)) w) : X p l e R s m args below meth c (MQ below (x_Q D dA cl tyL B post) args s mc ms (fun q => B ≤ q)) D dA cl B nL cells slots pc lv [va_rf o] w :=
  fun H locs ls g1 g2 g3 => W.widen h1 h2 (W.aret F.1 F.2.1 (F.2.2.2.2.2.2.2.1.trans hr) (Or.inl ⟨C, rfl⟩) (by cases o with | none => exact Or.inl rfl | some a => exact Or.inr ⟨a, rfl⟩) (fun t ht hW => ⟨⟨_, w, rfl, hq, by rw [ht]; exact g1, va_K.moved hW.alike F.2.2.2.2.2.1⟩, g2.F ht⟩) g2.2.2 hd F.2.2.2.2.2.2.2.2.1)
end XR

theorem x_acmp_eqR (F : x_Fix p s m args meth c cc nL own Ts ret nm D dA cl tyL B) {x y : Nat} {off : Int} {tgt : Nat} (hd : decode cc pc = .ok (.if_acmp .eq off, 3)) (ht : (pc : Int) + off = (tgt : Int)) (kt : x = y → X p l e R s m args below meth c Q D dA cl B nL cells slots tgt lv st w) (kf : ¬ x = y → X p l e R s m args below meth c Q D dA cl B nL cells slots (pc + 3) lv st w) : X p l e R s m args below meth c Q D dA cl B nL cells slots pc lv (.ref y :: .ref x :: st) w :=
  x_acmp_eq (rx := some x) (ry := some y) F hd ht (fun h => kt (Option.some.inj h)) (fun h => kf (fun q => h (congrArg some q)))
theorem x_acmp_neR (F : x_Fix p s m args meth c cc nL own Ts ret nm D dA cl tyL B) {x y : Nat} {off : Int} {tgt : Nat} (hd : decode cc pc = .ok (.if_acmp .ne off, 3)) (ht : (pc : Int) + off = (tgt : Int)) (kt : ¬ x = y → X p l e R s m args below meth c Q D dA cl B nL cells slots tgt lv st w) (kf : x = y → X p l e R s m args below meth c Q D dA cl B nL cells slots (pc + 3) lv st w) : X p l e R s m args below meth c Q D dA cl B nL cells slots pc lv (.ref y :: .ref x :: st) w :=
  x_acmp_ne (rx := some x) (ry := some y) F hd ht (fun h => kt (fun q => h (congrArg some q))) (fun h => kf (Option.some.inj h))
theorem x_acmp_neQR (F : x_Fix p s m args meth c cc nL own Ts ret nm D dA cl tyL B) {o : Option Nat} {x : Nat} {off : Int} {tgt : Nat} (hd : decode cc pc = .ok (.if_acmp .ne off, 3)) (ht : (pc : Int) + off = (tgt : Int)) (kt : ¬ some x = o → X p l e R s m args below meth c Q D dA cl B nL cells slots tgt lv st w) (kf : some x = o → X p l e R s m args below meth c Q D dA cl B nL cells slots (pc + 3) lv st w) : X p l e R s m args below meth c Q D dA cl B nL cells slots pc lv (va_rf o :: .ref x :: st) w :=
  x_acmp_ne (rx := some x) (ry := o) F hd ht kt kf
theorem x_acmp_eqQR (F : x_Fix p s m args meth c cc nL own Ts ret nm D dA cl tyL B) {o : Option Nat} {x : Nat} {off : Int} {tgt : Nat} (hd : decode cc pc = .ok (.if_acmp .eq off, 3)) (ht : (pc : Int) + off = (tgt : Int)) (kt : some x = o → X p l e R s m args below meth c Q D dA cl B nL cells slots tgt lv st w) (kf : ¬ some x = o → X p l e R s m args below meth c Q D dA cl B nL cells slots (pc + 3) lv st w) : X p l e R s m args below meth c Q D dA cl B nL cells slots pc lv (va_rf o :: .ref x :: st) w :=
  x_acmp_eq (rx := some x) (ry := o) F hd ht kt kf
theorem x_aretR (F : x_Fix p s m args meth c cc nL own Ts ret nm D dA cl tyL B) {a : Nat} {C : String} {post : Option Value → xW → Prop} {mc ms : Nat} (hr : ret = some (.object C)) (hd : decode cc pc = .ok (.areturn, 1)) (h1 : cells ≤ mc) (h2 : slots ≤ ms) (hq : post (some (.ref a)) w) : X p l e R s m args below meth c (MQ below (x_Q D dA cl tyL B post) args s mc ms (fun q => B ≤ q)) D dA cl B nL cells slots pc lv [.ref a] w :=
  x_aret (o := some a) F hr hd h1 h2 hq
theorem x_aretN (F : x_Fix p s m args meth c cc nL own Ts ret nm D dA cl tyL B) {C : String} {post : Option Value → xW → Prop} {mc ms : Nat} (hr : ret = some (.object C)) (hd : decode cc pc = .ok (.areturn, 1)) (h1 : cells ≤ mc) (h2 : slots ≤ ms) (hq : post (some .null) w) : X p l e R s m args below meth c (MQ below (x_Q D dA cl tyL B post) args s mc ms (fun q => B ≤ q)) D dA cl B nL cells slots pc lv [.null] w :=
  x_aret (o := none) F hr hd h1 h2 hq
/-- a contract of a method that gives a value back -/
def x_Ci (l : Launch) (D : va_G) (dA : Nat → ClassId) (cl : List vw_C) (tyL : List FieldType) (B : Nat) (y : MethodName) (ws : List Cond) (rm : Room) (av : List Value) (w : xW) (post : Value → xW → Prop) (mc ms : Nat) : Prop :=
  x_Ct l D dA cl tyL B y ws rm av w (fun r w1 => ∃ v, r = some v ∧ post v w1) mc ms
/-- .. of one that gives none -/
def x_Cv (l : Launch) (D : va_G) (dA : Nat → ClassId) (cl : List vw_C) (tyL : List FieldType) (B : Nat) (y : MethodName) (ws : List Cond) (rm : Room) (av : List Value) (w : xW) (post : xW → Prop) (mc ms : Nat) : Prop :=
  x_Ct l D dA cl tyL B y ws rm av w (fun r w1 => r = none ∧ post w1) mc ms
theorem x_cVi0 (F : x_Fix p s m args meth c cc nL own Ts ret nm D dA cl tyL B) {C : String} {T : u_T} {N ci index b : Nat} {maxL mc ms : Nat} {y : MethodName} {bytes : ByteArray} {ws ws2 : List Cond} {rm : Room} {rt : Option FieldType} {fs : List Value} {post : Value → xW → Prop} (hd : decode cc pc = .ok (.invokevirtual index, 3)) (hG : GoodIn Ts (wsV own index C y ws)) (hy : y.cls = C) (hM : x_Ci l D dA cl tyL B y ws rm [.ref b] w post mc ms) (hC : x_call R cells slots rm mc ms ws ws2 y bytes maxL rt 0) (hc : cl[ci]? = some (C, T, N)) (hb : w b = some (.inr (ci, fs))) (hcat : (st.map fun v => v.category).sum ≤ 8) (k : ∀ v w1, post v w1 → X p l e R s m args below meth c Q D dA cl B nL (cells + mc) (slots + ms) (pc + 3) lv (v :: st) w1) : X p l e R s m args below meth c Q D dA cl B nL cells slots pc lv (.ref b :: st) w :=
  x_callV (av := []) (rest := st) F hd hG hy hM hC hc hb rfl rfl hcat (fun r w1 ⟨v, hv, hp⟩ => by subst hv; exact k v w1 hp)
theorem x_cSi0 (F : x_Fix p s m args meth c cc nL own Ts ret nm D dA cl tyL B) {index : Nat} {maxL mc ms : Nat} {y : MethodName} {bytes : ByteArray} {ws ws2 : List Cond} {rm : Room} {rt : Option FieldType} {post : Value → xW → Prop} (hd : decode cc pc = .ok (.invokestatic index, 3)) (hG : GoodIn Ts (va_wsS own index y ws)) (hM : x_Ci l D dA cl tyL B y ws rm [] w post mc ms) (hC : x_call R cells slots rm mc ms ws ws2 y bytes maxL rt 0) (hcat : (st.map fun v => v.category).sum ≤ 8) (k : ∀ v w1, post v w1 → X p l e R s m args below meth c Q D dA cl B nL (cells + mc) (slots + ms) (pc + 3) lv (v :: st) w1) : X p l e R s m args below meth c Q D dA cl B nL cells slots pc lv (st) w :=
  x_callS (av := []) (rest := st) F hd hG hM hC rfl rfl hcat (fun r w1 ⟨v, hv, hp⟩ => by subst hv; exact k v w1 hp)
theorem x_cVv0 (F : x_Fix p s m args meth c cc nL own Ts ret nm D dA cl tyL B) {C : String} {T : u_T} {N ci index b : Nat} {maxL mc ms : Nat} {y : MethodName} {bytes : ByteArray} {ws ws2 : List Cond} {rm : Room} {rt : Option FieldType} {fs : List Value} {post : xW → Prop} (hd : decode cc pc = .ok (.invokevirtual index, 3)) (hG : GoodIn Ts (wsV own index C y ws)) (hy : y.cls = C) (hM : x_Cv l D dA cl tyL B y ws rm [.ref b] w post mc ms) (hC : x_call R cells slots rm mc ms ws ws2 y bytes maxL rt 0) (hc : cl[ci]? = some (C, T, N)) (hb : w b = some (.inr (ci, fs))) (hcat : (st.map fun v => v.category).sum ≤ 8) (k : ∀ w1, post w1 → X p l e R s m args below meth c Q D dA cl B nL (cells + mc) (slots + ms) (pc + 3) lv st w1) : X p l e R s m args below meth c Q D dA cl B nL cells slots pc lv (.ref b :: st) w :=
  x_callV (av := []) (rest := st) F hd hG hy hM hC hc hb rfl rfl hcat (fun r w1 ⟨hv, hp⟩ => by subst hv; exact k w1 hp)
theorem x_cSv0 (F : x_Fix p s m args meth c cc nL own Ts ret nm D dA cl tyL B) {index : Nat} {maxL mc ms : Nat} {y : MethodName} {bytes : ByteArray} {ws ws2 : List Cond} {rm : Room} {rt : Option FieldType} {post : xW → Prop} (hd : decode cc pc = .ok (.invokestatic index, 3)) (hG : GoodIn Ts (va_wsS own index y ws)) (hM : x_Cv l D dA cl tyL B y ws rm [] w post mc ms) (hC : x_call R cells slots rm mc ms ws ws2 y bytes maxL rt 0) (hcat : (st.map fun v => v.category).sum ≤ 8) (k : ∀ w1, post w1 → X p l e R s m args below meth c Q D dA cl B nL (cells + mc) (slots + ms) (pc + 3) lv st w1) : X p l e R s m args below meth c Q D dA cl B nL cells slots pc lv (st) w :=
  x_callS (av := []) (rest := st) F hd hG hM hC rfl rfl hcat (fun r w1 ⟨hv, hp⟩ => by subst hv; exact k w1 hp)
theorem x_cI0 (F : x_Fix p s m args meth c cc nL own Ts ret nm D dA cl tyL B) {index b : Nat} {maxL mc ms : Nat} {y : MethodName} {bytes : ByteArray} {ws ws2 : List Cond} {rm : Room} {post : xW → Prop} (hd : decode cc pc = .ok (.invokespecial index, 3)) (hG : GoodIn Ts ws) (hini : Cond.initialized y.cls ∈ Ts) (hlk : Cond.methodLink own index y ∈ Ts) (hin : Cond.instanceMethod y ∈ Ts) (hy : y.name = "<init>") (hM : x_Cv l D dA cl tyL B y ws rm [.ref b] w post mc ms) (hC : x_call R cells slots rm mc ms ws ws2 y bytes maxL none 0) (hcat : (st.map fun v => v.category).sum ≤ 8) (k : ∀ w1, post w1 → X p l e R s m args below meth c Q D dA cl B nL (cells + mc) (slots + ms) (pc + 3) lv st w1) : X p l e R s m args below meth c Q D dA cl B nL cells slots pc lv (.ref b :: st) w :=
  x_callI (av := []) (rest := st) F hd hG hini hlk hin hy hM hC rfl rfl hcat (fun r w1 ⟨hv, hp⟩ => by subst hv; exact k w1 hp)
theorem x_cVi1 (F : x_Fix p s m args meth c cc nL own Ts ret nm D dA cl tyL B) {C : String} {T : u_T} {N ci index b : Nat} {maxL mc ms : Nat} {y : MethodName} {bytes : ByteArray} {ws ws2 : List Cond} {rm : Room} {rt : Option FieldType} {fs : List Value} {v1 : Value} {post : Value → xW → Prop} (hd : decode cc pc = .ok (.invokevirtual index, 3)) (hG : GoodIn Ts (wsV own index C y ws)) (hy : y.cls = C) (hM : x_Ci l D dA cl tyL B y ws rm [.ref b, v1] w post mc ms) (hC : x_call R cells slots rm mc ms ws ws2 y bytes maxL rt 1) (hc : cl[ci]? = some (C, T, N)) (hb : w b = some (.inr (ci, fs))) (hcat : (st.map fun v => v.category).sum ≤ 8) (k : ∀ v w1, post v w1 → X p l e R s m args below meth c Q D dA cl B nL (cells + mc) (slots + ms) (pc + 3) lv (v :: st) w1) : X p l e R s m args below meth c Q D dA cl B nL cells slots pc lv (v1 :: .ref b :: st) w :=
  x_callV (av := [v1]) (rest := st) F hd hG hy hM hC hc hb rfl rfl hcat (fun r w1 ⟨v, hv, hp⟩ => by subst hv; exact k v w1 hp)
theorem x_cSi1 (F : x_Fix p s m args meth c cc nL own Ts ret nm D dA cl tyL B) {index : Nat} {maxL mc ms : Nat} {y : MethodName} {bytes : ByteArray} {ws ws2 : List Cond} {rm : Room} {rt : Option FieldType} {v1 : Value} {post : Value → xW → Prop} (hd : decode cc pc = .ok (.invokestatic index, 3)) (hG : GoodIn Ts (va_wsS own index y ws)) (hM : x_Ci l D dA cl tyL B y ws rm [v1] w post mc ms) (hC : x_call R cells slots rm mc ms ws ws2 y bytes maxL rt 1) (hcat : (st.map fun v => v.category).sum ≤ 8) (k : ∀ v w1, post v w1 → X p l e R s m args below meth c Q D dA cl B nL (cells + mc) (slots + ms) (pc + 3) lv (v :: st) w1) : X p l e R s m args below meth c Q D dA cl B nL cells slots pc lv (v1 :: st) w :=
  x_callS (av := [v1]) (rest := st) F hd hG hM hC rfl rfl hcat (fun r w1 ⟨v, hv, hp⟩ => by subst hv; exact k v w1 hp)
theorem x_cVv1 (F : x_Fix p s m args meth c cc nL own Ts ret nm D dA cl tyL B) {C : String} {T : u_T} {N ci index b : Nat} {maxL mc ms : Nat} {y : MethodName} {bytes : ByteArray} {ws ws2 : List Cond} {rm : Room} {rt : Option FieldType} {fs : List Value} {v1 : Value} {post : xW → Prop} (hd : decode cc pc = .ok (.invokevirtual index, 3)) (hG : GoodIn Ts (wsV own index C y ws)) (hy : y.cls = C) (hM : x_Cv l D dA cl tyL B y ws rm [.ref b, v1] w post mc ms) (hC : x_call R cells slots rm mc ms ws ws2 y bytes maxL rt 1) (hc : cl[ci]? = some (C, T, N)) (hb : w b = some (.inr (ci, fs))) (hcat : (st.map fun v => v.category).sum ≤ 8) (k : ∀ w1, post w1 → X p l e R s m args below meth c Q D dA cl B nL (cells + mc) (slots + ms) (pc + 3) lv st w1) : X p l e R s m args below meth c Q D dA cl B nL cells slots pc lv (v1 :: .ref b :: st) w :=
  x_callV (av := [v1]) (rest := st) F hd hG hy hM hC hc hb rfl rfl hcat (fun r w1 ⟨hv, hp⟩ => by subst hv; exact k w1 hp)
theorem x_cSv1 (F : x_Fix p s m args meth c cc nL own Ts ret nm D dA cl tyL B) {index : Nat} {maxL mc ms : Nat} {y : MethodName} {bytes : ByteArray} {ws ws2 : List Cond} {rm : Room} {rt : Option FieldType} {v1 : Value} {post : xW → Prop} (hd : decode cc pc = .ok (.invokestatic index, 3)) (hG : GoodIn Ts (va_wsS own index y ws)) (hM : x_Cv l D dA cl tyL B y ws rm [v1] w post mc ms) (hC : x_call R cells slots rm mc ms ws ws2 y bytes maxL rt 1) (hcat : (st.map fun v => v.category).sum ≤ 8) (k : ∀ w1, post w1 → X p l e R s m args below meth c Q D dA cl B nL (cells + mc) (slots + ms) (pc + 3) lv st w1) : X p l e R s m args below meth c Q D dA cl B nL cells slots pc lv (v1 :: st) w :=
  x_callS (av := [v1]) (rest := st) F hd hG hM hC rfl rfl hcat (fun r w1 ⟨hv, hp⟩ => by subst hv; exact k w1 hp)
theorem x_cI1 (F : x_Fix p s m args meth c cc nL own Ts ret nm D dA cl tyL B) {index b : Nat} {maxL mc ms : Nat} {y : MethodName} {bytes : ByteArray} {ws ws2 : List Cond} {rm : Room} {v1 : Value} {post : xW → Prop} (hd : decode cc pc = .ok (.invokespecial index, 3)) (hG : GoodIn Ts ws) (hini : Cond.initialized y.cls ∈ Ts) (hlk : Cond.methodLink own index y ∈ Ts) (hin : Cond.instanceMethod y ∈ Ts) (hy : y.name = "<init>") (hM : x_Cv l D dA cl tyL B y ws rm [.ref b, v1] w post mc ms) (hC : x_call R cells slots rm mc ms ws ws2 y bytes maxL none 1) (hcat : (st.map fun v => v.category).sum ≤ 8) (k : ∀ w1, post w1 → X p l e R s m args below meth c Q D dA cl B nL (cells + mc) (slots + ms) (pc + 3) lv st w1) : X p l e R s m args below meth c Q D dA cl B nL cells slots pc lv (v1 :: .ref b :: st) w :=
  x_callI (av := [v1]) (rest := st) F hd hG hini hlk hin hy hM hC rfl rfl hcat (fun r w1 ⟨hv, hp⟩ => by subst hv; exact k w1 hp)
theorem x_cVi2 (F : x_Fix p s m args meth c cc nL own Ts ret nm D dA cl tyL B) {C : String} {T : u_T} {N ci index b : Nat} {maxL mc ms : Nat} {y : MethodName} {bytes : ByteArray} {ws ws2 : List Cond} {rm : Room} {rt : Option FieldType} {fs : List Value} {v1 v2 : Value} {post : Value → xW → Prop} (hd : decode cc pc = .ok (.invokevirtual index, 3)) (hG : GoodIn Ts (wsV own index C y ws)) (hy : y.cls = C) (hM : x_Ci l D dA cl tyL B y ws rm [.ref b, v1, v2] w post mc ms) (hC : x_call R cells slots rm mc ms ws ws2 y bytes maxL rt 2) (hc : cl[ci]? = some (C, T, N)) (hb : w b = some (.inr (ci, fs))) (hcat : (st.map fun v => v.category).sum ≤ 8) (k : ∀ v w1, post v w1 → X p l e R s m args below meth c Q D dA cl B nL (cells + mc) (slots + ms) (pc + 3) lv (v :: st) w1) : X p l e R s m args below meth c Q D dA cl B nL cells slots pc lv (v2 :: v1 :: .ref b :: st) w :=
  x_callV (av := [v1, v2]) (rest := st) F hd hG hy hM hC hc hb rfl rfl hcat (fun r w1 ⟨v, hv, hp⟩ => by subst hv; exact k v w1 hp)
theorem x_cSi2 (F : x_Fix p s m args meth c cc nL own Ts ret nm D dA cl tyL B) {index : Nat} {maxL mc ms : Nat} {y : MethodName} {bytes : ByteArray} {ws ws2 : List Cond} {rm : Room} {rt : Option FieldType} {v1 v2 : Value} {post : Value → xW → Prop} (hd : decode cc pc = .ok (.invokestatic index, 3)) (hG : GoodIn Ts (va_wsS own index y ws)) (hM : x_Ci l D dA cl tyL B y ws rm [v1, v2] w post mc ms) (hC : x_call R cells slots rm mc ms ws ws2 y bytes maxL rt 2) (hcat : (st.map fun v => v.category).sum ≤ 8) (k : ∀ v w1, post v w1 → X p l e R s m args below meth c Q D dA cl B nL (cells + mc) (slots + ms) (pc + 3) lv (v :: st) w1) : X p l e R s m args below meth c Q D dA cl B nL cells slots pc lv (v2 :: v1 :: st) w :=
  x_callS (av := [v1, v2]) (rest := st) F hd hG hM hC rfl rfl hcat (fun r w1 ⟨v, hv, hp⟩ => by subst hv; exact k v w1 hp)
theorem x_cVv2 (F : x_Fix p s m args meth c cc nL own Ts ret nm D dA cl tyL B) {C : String} {T : u_T} {N ci index b : Nat} {maxL mc ms : Nat} {y : MethodName} {bytes : ByteArray} {ws ws2 : List Cond} {rm : Room} {rt : Option FieldType} {fs : List Value} {v1 v2 : Value} {post : xW → Prop} (hd : decode cc pc = .ok (.invokevirtual index, 3)) (hG : GoodIn Ts (wsV own index C y ws)) (hy : y.cls = C) (hM : x_Cv l D dA cl tyL B y ws rm [.ref b, v1, v2] w post mc ms) (hC : x_call R cells slots rm mc ms ws ws2 y bytes maxL rt 2) (hc : cl[ci]? = some (C, T, N)) (hb : w b = some (.inr (ci, fs))) (hcat : (st.map fun v => v.category).sum ≤ 8) (k : ∀ w1, post w1 → X p l e R s m args below meth c Q D dA cl B nL (cells + mc) (slots + ms) (pc + 3) lv st w1) : X p l e R s m args below meth c Q D dA cl B nL cells slots pc lv (v2 :: v1 :: .ref b :: st) w :=
  x_callV (av := [v1, v2]) (rest := st) F hd hG hy hM hC hc hb rfl rfl hcat (fun r w1 ⟨hv, hp⟩ => by subst hv; exact k w1 hp)
theorem x_cSv2 (F : x_Fix p s m args meth c cc nL own Ts ret nm D dA cl tyL B) {index : Nat} {maxL mc ms : Nat} {y : MethodName} {bytes : ByteArray} {ws ws2 : List Cond} {rm : Room} {rt : Option FieldType} {v1 v2 : Value} {post : xW → Prop} (hd : decode cc pc = .ok (.invokestatic index, 3)) (hG : GoodIn Ts (va_wsS own index y ws)) (hM : x_Cv l D dA cl tyL B y ws rm [v1, v2] w post mc ms) (hC : x_call R cells slots rm mc ms ws ws2 y bytes maxL rt 2) (hcat : (st.map fun v => v.category).sum ≤ 8) (k : ∀ w1, post w1 → X p l e R s m args below meth c Q D dA cl B nL (cells + mc) (slots + ms) (pc + 3) lv st w1) : X p l e R s m args below meth c Q D dA cl B nL cells slots pc lv (v2 :: v1 :: st) w :=
  x_callS (av := [v1, v2]) (rest := st) F hd hG hM hC rfl rfl hcat (fun r w1 ⟨hv, hp⟩ => by subst hv; exact k w1 hp)
theorem x_cI2 (F : x_Fix p s m args meth c cc nL own Ts ret nm D dA cl tyL B) {index b : Nat} {maxL mc ms : Nat} {y : MethodName} {bytes : ByteArray} {ws ws2 : List Cond} {rm : Room} {v1 v2 : Value} {post : xW → Prop} (hd : decode cc pc = .ok (.invokespecial index, 3)) (hG : GoodIn Ts ws) (hini : Cond.initialized y.cls ∈ Ts) (hlk : Cond.methodLink own index y ∈ Ts) (hin : Cond.instanceMethod y ∈ Ts) (hy : y.name = "<init>") (hM : x_Cv l D dA cl tyL B y ws rm [.ref b, v1, v2] w post mc ms) (hC : x_call R cells slots rm mc ms ws ws2 y bytes maxL none 2) (hcat : (st.map fun v => v.category).sum ≤ 8) (k : ∀ w1, post w1 → X p l e R s m args below meth c Q D dA cl B nL (cells + mc) (slots + ms) (pc + 3) lv st w1) : X p l e R s m args below meth c Q D dA cl B nL cells slots pc lv (v2 :: v1 :: .ref b :: st) w :=
  x_callI (av := [v1, v2]) (rest := st) F hd hG hini hlk hin hy hM hC rfl rfl hcat (fun r w1 ⟨hv, hp⟩ => by subst hv; exact k w1 hp)
theorem x_cVi3 (F : x_Fix p s m args meth c cc nL own Ts ret nm D dA cl tyL B) {C : String} {T : u_T} {N ci index b : Nat} {maxL mc ms : Nat} {y : MethodName} {bytes : ByteArray} {ws ws2 : List Cond} {rm : Room} {rt : Option FieldType} {fs : List Value} {v1 v2 v3 : Value} {post : Value → xW → Prop} (hd : decode cc pc = .ok (.invokevirtual index, 3)) (hG : GoodIn Ts (wsV own index C y ws)) (hy : y.cls = C) (hM : x_Ci l D dA cl tyL B y ws rm [.ref b, v1, v2, v3] w post mc ms) (hC : x_call R cells slots rm mc ms ws ws2 y bytes maxL rt 3) (hc : cl[ci]? = some (C, T, N)) (hb : w b = some (.inr (ci, fs))) (hcat : (st.map fun v => v.category).sum ≤ 8) (k : ∀ v w1, post v w1 → X p l e R s m args below meth c Q D dA cl B nL (cells + mc) (slots + ms) (pc + 3) lv (v :: st) w1) : X p l e R s m args below meth c Q D dA cl B nL cells slots pc lv (v3 :: v2 :: v1 :: .ref b :: st) w :=
  x_callV (av := [v1, v2, v3]) (rest := st) F hd hG hy hM hC hc hb rfl rfl hcat (fun r w1 ⟨v, hv, hp⟩ => by subst hv; exact k v w1 hp)
theorem x_cSi3 (F : x_Fix p s m args meth c cc nL own Ts ret nm D dA cl tyL B) {index : Nat} {maxL mc ms : Nat} {y : MethodName} {bytes : ByteArray} {ws ws2 : List Cond} {rm : Room} {rt : Option FieldType} {v1 v2 v3 : Value} {post : Value → xW → Prop} (hd : decode cc pc = .ok (.invokestatic index, 3)) (hG : GoodIn Ts (va_wsS own index y ws)) (hM : x_Ci l D dA cl tyL B y ws rm [v1, v2, v3] w post mc ms) (hC : x_call R cells slots rm mc ms ws ws2 y bytes maxL rt 3) (hcat : (st.map fun v => v.category).sum ≤ 8) (k : ∀ v w1, post v w1 → X p l e R s m args below meth c Q D dA cl B nL (cells + mc) (slots + ms) (pc + 3) lv (v :: st) w1) : X p l e R s m args below meth c Q D dA cl B nL cells slots pc lv (v3 :: v2 :: v1 :: st) w :=
  x_callS (av := [v1, v2, v3]) (rest := st) F hd hG hM hC rfl rfl hcat (fun r w1 ⟨v, hv, hp⟩ => by subst hv; exact k v w1 hp)
theorem x_cVv3 (F : x_Fix p s m args meth c cc nL own Ts ret nm D dA cl tyL B) {C : String} {T : u_T} {N ci index b : Nat} {maxL mc ms : Nat} {y : MethodName} {bytes : ByteArray} {ws ws2 : List Cond} {rm : Room} {rt : Option FieldType} {fs : List Value} {v1 v2 v3 : Value} {post : xW → Prop} (hd : decode cc pc = .ok (.invokevirtual index, 3)) (hG : GoodIn Ts (wsV own index C y ws)) (hy : y.cls = C) (hM : x_Cv l D dA cl tyL B y ws rm [.ref b, v1, v2, v3] w post mc ms) (hC : x_call R cells slots rm mc ms ws ws2 y bytes maxL rt 3) (hc : cl[ci]? = some (C, T, N)) (hb : w b = some (.inr (ci, fs))) (hcat : (st.map fun v => v.category).sum ≤ 8) (k : ∀ w1, post w1 → X p l e R s m args below meth c Q D dA cl B nL (cells + mc) (slots + ms) (pc + 3) lv st w1) : X p l e R s m args below meth c Q D dA cl B nL cells slots pc lv (v3 :: v2 :: v1 :: .ref b :: st) w :=
  x_callV (av := [v1, v2, v3]) (rest := st) F hd hG hy hM hC hc hb rfl rfl hcat (fun r w1 ⟨hv, hp⟩ => by subst hv; exact k w1 hp)
theorem x_cSv3 (F : x_Fix p s m args meth c cc nL own Ts ret nm D dA cl tyL B) {index : Nat} {maxL mc ms : Nat} {y : MethodName} {bytes : ByteArray} {ws ws2 : List Cond} {rm : Room} {rt : Option FieldType} {v1 v2 v3 : Value} {post : xW → Prop} (hd : decode cc pc = .ok (.invokestatic index, 3)) (hG : GoodIn Ts (va_wsS own index y ws)) (hM : x_Cv l D dA cl tyL B y ws rm [v1, v2, v3] w post mc ms) (hC : x_call R cells slots rm mc ms ws ws2 y bytes maxL rt 3) (hcat : (st.map fun v => v.category).sum ≤ 8) (k : ∀ w1, post w1 → X p l e R s m args below meth c Q D dA cl B nL (cells + mc) (slots + ms) (pc + 3) lv st w1) : X p l e R s m args below meth c Q D dA cl B nL cells slots pc lv (v3 :: v2 :: v1 :: st) w :=
  x_callS (av := [v1, v2, v3]) (rest := st) F hd hG hM hC rfl rfl hcat (fun r w1 ⟨hv, hp⟩ => by subst hv; exact k w1 hp)
theorem x_cI3 (F : x_Fix p s m args meth c cc nL own Ts ret nm D dA cl tyL B) {index b : Nat} {maxL mc ms : Nat} {y : MethodName} {bytes : ByteArray} {ws ws2 : List Cond} {rm : Room} {v1 v2 v3 : Value} {post : xW → Prop} (hd : decode cc pc = .ok (.invokespecial index, 3)) (hG : GoodIn Ts ws) (hini : Cond.initialized y.cls ∈ Ts) (hlk : Cond.methodLink own index y ∈ Ts) (hin : Cond.instanceMethod y ∈ Ts) (hy : y.name = "<init>") (hM : x_Cv l D dA cl tyL B y ws rm [.ref b, v1, v2, v3] w post mc ms) (hC : x_call R cells slots rm mc ms ws ws2 y bytes maxL none 3) (hcat : (st.map fun v => v.category).sum ≤ 8) (k : ∀ w1, post w1 → X p l e R s m args below meth c Q D dA cl B nL (cells + mc) (slots + ms) (pc + 3) lv st w1) : X p l e R s m args below meth c Q D dA cl B nL cells slots pc lv (v3 :: v2 :: v1 :: .ref b :: st) w :=
  x_callI (av := [v1, v2, v3]) (rest := st) F hd hG hini hlk hin hy hM hC rfl rfl hcat (fun r w1 ⟨hv, hp⟩ => by subst hv; exact k w1 hp)
theorem x_cVi4 (F : x_Fix p s m args meth c cc nL own Ts ret nm D dA cl tyL B) {C : String} {T : u_T} {N ci index b : Nat} {maxL mc ms : Nat} {y : MethodName} {bytes : ByteArray} {ws ws2 : List Cond} {rm : Room} {rt : Option FieldType} {fs : List Value} {v1 v2 v3 v4 : Value} {post : Value → xW → Prop} (hd : decode cc pc = .ok (.invokevirtual index, 3)) (hG : GoodIn Ts (wsV own index C y ws)) (hy : y.cls = C) (hM : x_Ci l D dA cl tyL B y ws rm [.ref b, v1, v2, v3, v4] w post mc ms) (hC : x_call R cells slots rm mc ms ws ws2 y bytes maxL rt 4) (hc : cl[ci]? = some (C, T, N)) (hb : w b = some (.inr (ci, fs))) (hcat : (st.map fun v => v.category).sum ≤ 8) (k : ∀ v w1, post v w1 → X p l e R s m args below meth c Q D dA cl B nL (cells + mc) (slots + ms) (pc + 3) lv (v :: st) w1) : X p l e R s m args below meth c Q D dA cl B nL cells slots pc lv (v4 :: v3 :: v2 :: v1 :: .ref b :: st) w :=
  x_callV (av := [v1, v2, v3, v4]) (rest := st) F hd hG hy hM hC hc hb rfl rfl hcat (fun r w1 ⟨v, hv, hp⟩ => by subst hv; exact k v w1 hp)
theorem x_cSi4 (F : x_Fix p s m args meth c cc nL own Ts ret nm D dA cl tyL B) {index : Nat} {maxL mc ms : Nat} {y : MethodName} {bytes : ByteArray} {ws ws2 : List Cond} {rm : Room} {rt : Option FieldType} {v1 v2 v3 v4 : Value} {post : Value → xW → Prop} (hd : decode cc pc = .ok (.invokestatic index, 3)) (hG : GoodIn Ts (va_wsS own index y ws)) (hM : x_Ci l D dA cl tyL B y ws rm [v1, v2, v3, v4] w post mc ms) (hC : x_call R cells slots rm mc ms ws ws2 y bytes maxL rt 4) (hcat : (st.map fun v => v.category).sum ≤ 8) (k : ∀ v w1, post v w1 → X p l e R s m args below meth c Q D dA cl B nL (cells + mc) (slots + ms) (pc + 3) lv (v :: st) w1) : X p l e R s m args below meth c Q D dA cl B nL cells slots pc lv (v4 :: v3 :: v2 :: v1 :: st) w :=
  x_callS (av := [v1, v2, v3, v4]) (rest := st) F hd hG hM hC rfl rfl hcat (fun r w1 ⟨v, hv, hp⟩ => by subst hv; exact k v w1 hp)
theorem x_cVv4 (F : x_Fix p s m args meth c cc nL own Ts ret nm D dA cl tyL B) {C : String} {T : u_T} {N ci index b : Nat} {maxL mc ms : Nat} {y : MethodName} {bytes : ByteArray} {ws ws2 : List Cond} {rm : Room} {rt : Option FieldType} {fs : List Value} {v1 v2 v3 v4 : Value} {post : xW → Prop} (hd : decode cc pc = .ok (.invokevirtual index, 3)) (hG : GoodIn Ts (wsV own index C y ws)) (hy : y.cls = C) (hM : x_Cv l D dA cl tyL B y ws rm [.ref b, v1, v2, v3, v4] w post mc ms) (hC : x_call R cells slots rm mc ms ws ws2 y bytes maxL rt 4) (hc : cl[ci]? = some (C, T, N)) (hb : w b = some (.inr (ci, fs))) (hcat : (st.map fun v => v.category).sum ≤ 8) (k : ∀ w1, post w1 → X p l e R s m args below meth c Q D dA cl B nL (cells + mc) (slots + ms) (pc + 3) lv st w1) : X p l e R s m args below meth c Q D dA cl B nL cells slots pc lv (v4 :: v3 :: v2 :: v1 :: .ref b :: st) w :=
  x_callV (av := [v1, v2, v3, v4]) (rest := st) F hd hG hy hM hC hc hb rfl rfl hcat (fun r w1 ⟨hv, hp⟩ => by subst hv; exact k w1 hp)
theorem x_cSv4 (F : x_Fix p s m args meth c cc nL own Ts ret nm D dA cl tyL B) {index : Nat} {maxL mc ms : Nat} {y : MethodName} {bytes : ByteArray} {ws ws2 : List Cond} {rm : Room} {rt : Option FieldType} {v1 v2 v3 v4 : Value} {post : xW → Prop} (hd : decode cc pc = .ok (.invokestatic index, 3)) (hG : GoodIn Ts (va_wsS own index y ws)) (hM : x_Cv l D dA cl tyL B y ws rm [v1, v2, v3, v4] w post mc ms) (hC : x_call R cells slots rm mc ms ws ws2 y bytes maxL rt 4) (hcat : (st.map fun v => v.category).sum ≤ 8) (k : ∀ w1, post w1 → X p l e R s m args below meth c Q D dA cl B nL (cells + mc) (slots + ms) (pc + 3) lv st w1) : X p l e R s m args below meth c Q D dA cl B nL cells slots pc lv (v4 :: v3 :: v2 :: v1 :: st) w :=
  x_callS (av := [v1, v2, v3, v4]) (rest := st) F hd hG hM hC rfl rfl hcat (fun r w1 ⟨hv, hp⟩ => by subst hv; exact k w1 hp)
theorem x_cI4 (F : x_Fix p s m args meth c cc nL own Ts ret nm D dA cl tyL B) {index b : Nat} {maxL mc ms : Nat} {y : MethodName} {bytes : ByteArray} {ws ws2 : List Cond} {rm : Room} {v1 v2 v3 v4 : Value} {post : xW → Prop} (hd : decode cc pc = .ok (.invokespecial index, 3)) (hG : GoodIn Ts ws) (hini : Cond.initialized y.cls ∈ Ts) (hlk : Cond.methodLink own index y ∈ Ts) (hin : Cond.instanceMethod y ∈ Ts) (hy : y.name = "<init>") (hM : x_Cv l D dA cl tyL B y ws rm [.ref b, v1, v2, v3, v4] w post mc ms) (hC : x_call R cells slots rm mc ms ws ws2 y bytes maxL none 4) (hcat : (st.map fun v => v.category).sum ≤ 8) (k : ∀ w1, post w1 → X p l e R s m args below meth c Q D dA cl B nL (cells + mc) (slots + ms) (pc + 3) lv st w1) : X p l e R s m args below meth c Q D dA cl B nL cells slots pc lv (v4 :: v3 :: v2 :: v1 :: .ref b :: st) w :=
  x_callI (av := [v1, v2, v3, v4]) (rest := st) F hd hG hini hlk hin hy hM hC rfl rfl hcat (fun r w1 ⟨hv, hp⟩ => by subst hv; exact k w1 hp)
theorem x_cVi5 (F : x_Fix p s m args meth c cc nL own Ts ret nm D dA cl tyL B) {C : String} {T : u_T} {N ci index b : Nat} {maxL mc ms : Nat} {y : MethodName} {bytes : ByteArray} {ws ws2 : List Cond} {rm : Room} {rt : Option FieldType} {fs : List Value} {v1 v2 v3 v4 v5 : Value} {post : Value → xW → Prop} (hd : decode cc pc = .ok (.invokevirtual index, 3)) (hG : GoodIn Ts (wsV own index C y ws)) (hy : y.cls = C) (hM : x_Ci l D dA cl tyL B y ws rm [.ref b, v1, v2, v3, v4, v5] w post mc ms) (hC : x_call R cells slots rm mc ms ws ws2 y bytes maxL rt 5) (hc : cl[ci]? = some (C, T, N)) (hb : w b = some (.inr (ci, fs))) (hcat : (st.map fun v => v.category).sum ≤ 8) (k : ∀ v w1, post v w1 → X p l e R s m args below meth c Q D dA cl B nL (cells + mc) (slots + ms) (pc + 3) lv (v :: st) w1) : X p l e R s m args below meth c Q D dA cl B nL cells slots pc lv (v5 :: v4 :: v3 :: v2 :: v1 :: .ref b :: st) w :=
  x_callV (av := [v1, v2, v3, v4, v5]) (rest := st) F hd hG hy hM hC hc hb rfl rfl hcat (fun r w1 ⟨v, hv, hp⟩ => by subst hv; exact k v w1 hp)
theorem x_cSi5 (F : x_Fix p s m args meth c cc nL own Ts ret nm D dA cl tyL B) {index : Nat} {maxL mc ms : Nat} {y : MethodName} {bytes : ByteArray} {ws ws2 : List Cond} {rm : Room} {rt : Option FieldType} {v1 v2 v3 v4 v5 : Value} {post : Value → xW → Prop} (hd : decode cc pc = .ok (.invokestatic index, 3)) (hG : GoodIn Ts (va_wsS own index y ws)) (hM : x_Ci l D dA cl tyL B y ws rm [v1, v2, v3, v4, v5] w post mc ms) (hC : x_call R cells slots rm mc ms ws ws2 y bytes maxL rt 5) (hcat : (st.map fun v => v.category).sum ≤ 8) (k : ∀ v w1, post v w1 → X p l e R s m args below meth c Q D dA cl B nL (cells + mc) (slots + ms) (pc + 3) lv (v :: st) w1) : X p l e R s m args below meth c Q D dA cl B nL cells slots pc lv (v5 :: v4 :: v3 :: v2 :: v1 :: st) w :=
  x_callS (av := [v1, v2, v3, v4, v5]) (rest := st) F hd hG hM hC rfl rfl hcat (fun r w1 ⟨v, hv, hp⟩ => by subst hv; exact k v w1 hp)
theorem x_cVv5 (F : x_Fix p s m args meth c cc nL own Ts ret nm D dA cl tyL B) {C : String} {T : u_T} {N ci index b : Nat} {maxL mc ms : Nat} {y : MethodName} {bytes : ByteArray} {ws ws2 : List Cond} {rm : Room} {rt : Option FieldType} {fs : List Value} {v1 v2 v3 v4 v5 : Value} {post : xW → Prop} (hd : decode cc pc = .ok (.invokevirtual index, 3)) (hG : GoodIn Ts (wsV own index C y ws)) (hy : y.cls = C) (hM : x_Cv l D dA cl tyL B y ws rm [.ref b, v1, v2, v3, v4, v5] w post mc ms) (hC : x_call R cells slots rm mc ms ws ws2 y bytes maxL rt 5) (hc : cl[ci]? = some (C, T, N)) (hb : w b = some (.inr (ci, fs))) (hcat : (st.map fun v => v.category).sum ≤ 8) (k : ∀ w1, post w1 → X p l e R s m args below meth c Q D dA cl B nL (cells + mc) (slots + ms) (pc + 3) lv st w1) : X p l e R s m args below meth c Q D dA cl B nL cells slots pc lv (v5 :: v4 :: v3 :: v2 :: v1 :: .ref b :: st) w :=
  x_callV (av := [v1, v2, v3, v4, v5]) (rest := st) F hd hG hy hM hC hc hb rfl rfl hcat (fun r w1 ⟨hv, hp⟩ => by subst hv; exact k w1 hp)
theorem x_cSv5 (F : x_Fix p s m args meth c cc nL own Ts ret nm D dA cl tyL B) {index : Nat} {maxL mc ms : Nat} {y : MethodName} {bytes : ByteArray} {ws ws2 : List Cond} {rm : Room} {rt : Option FieldType} {v1 v2 v3 v4 v5 : Value} {post : xW → Prop} (hd : decode cc pc = .ok (.invokestatic index, 3)) (hG : GoodIn Ts (va_wsS own index y ws)) (hM : x_Cv l D dA cl tyL B y ws rm [v1, v2, v3, v4, v5] w post mc ms) (hC : x_call R cells slots rm mc ms ws ws2 y bytes maxL rt 5) (hcat : (st.map fun v => v.category).sum ≤ 8) (k : ∀ w1, post w1 → X p l e R s m args below meth c Q D dA cl B nL (cells + mc) (slots + ms) (pc + 3) lv st w1) : X p l e R s m args below meth c Q D dA cl B nL cells slots pc lv (v5 :: v4 :: v3 :: v2 :: v1 :: st) w :=
  x_callS (av := [v1, v2, v3, v4, v5]) (rest := st) F hd hG hM hC rfl rfl hcat (fun r w1 ⟨hv, hp⟩ => by subst hv; exact k w1 hp)
theorem x_cI5 (F : x_Fix p s m args meth c cc nL own Ts ret nm D dA cl tyL B) {index b : Nat} {maxL mc ms : Nat} {y : MethodName} {bytes : ByteArray} {ws ws2 : List Cond} {rm : Room} {v1 v2 v3 v4 v5 : Value} {post : xW → Prop} (hd : decode cc pc = .ok (.invokespecial index, 3)) (hG : GoodIn Ts ws) (hini : Cond.initialized y.cls ∈ Ts) (hlk : Cond.methodLink own index y ∈ Ts) (hin : Cond.instanceMethod y ∈ Ts) (hy : y.name = "<init>") (hM : x_Cv l D dA cl tyL B y ws rm [.ref b, v1, v2, v3, v4, v5] w post mc ms) (hC : x_call R cells slots rm mc ms ws ws2 y bytes maxL none 5) (hcat : (st.map fun v => v.category).sum ≤ 8) (k : ∀ w1, post w1 → X p l e R s m args below meth c Q D dA cl B nL (cells + mc) (slots + ms) (pc + 3) lv st w1) : X p l e R s m args below meth c Q D dA cl B nL cells slots pc lv (v5 :: v4 :: v3 :: v2 :: v1 :: .ref b :: st) w :=
  x_callI (av := [v1, v2, v3, v4, v5]) (rest := st) F hd hG hini hlk hin hy hM hC rfl rfl hcat (fun r w1 ⟨hv, hp⟩ => by subst hv; exact k w1 hp)
theorem x_cIN0 (F : x_Fix p s m args meth c cc nL own Ts ret nm D dA cl tyL B) {host : String} {index b : Nat} {maxL mc ms : Nat} {y : MethodName} {bytes : ByteArray} {ws ws2 : List Cond} {rm : Room} {post : xW → Prop} (hd : decode cc pc = .ok (.invokespecial index, 3)) (hG : GoodIn Ts ws) (hini : Cond.initialized y.cls ∈ Ts) (hlk : va_Nw (.methodLinkNest own index y host) s) (hin : Cond.instanceMethod y ∈ Ts) (hy : y.name = "<init>") (hM : x_Cv l D dA cl tyL B y ws rm [.ref b] w post mc ms) (hC : x_call R cells slots rm mc ms ws ws2 y bytes maxL none 0) (hcat : (st.map fun v => v.category).sum ≤ 8) (k : ∀ w1, post w1 → X p l e R s m args below meth c Q D dA cl B nL (cells + mc) (slots + ms) (pc + 3) lv st w1) : X p l e R s m args below meth c Q D dA cl B nL cells slots pc lv (.ref b :: st) w :=
  x_callIN (av := []) (rest := st) F hd hG hini hlk hin hy hM hC rfl rfl hcat (fun r w1 ⟨hv, hp⟩ => by subst hv; exact k w1 hp)
end XL
end
