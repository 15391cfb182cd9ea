section
-- ===== PART A: goes FIRST, ahead of the names: the tables' words, and 'selects' of the private methods out of them =====
/-- a private method of a class that the tables say can be made, by its rows of tables_1 -/
def lw_okq (q : MethodName × Nat) : Prop := (q.1.cls ≠ "java/lang/invoke/MethodHandle" ∧ q.1.cls ≠ "java/lang/invoke/VarHandle") ∧ Cond.instantiable q.1.cls q.2 ∈ tables_1 ∧ Cond.privateMethod q.1 ∈ tables_1 ∧ Cond.instanceMethod q.1 ∈ tables_1
theorem lw_p0 : lw_okq (⟨"java/lang/Throwable", "fillInStackTrace", "(I)Ljava/lang/Throwable;"⟩, 6) := ⟨⟨by decide +kernel, by decide +kernel⟩, List.mem_of_getElem? (i := 160) (by decide +kernel), List.mem_of_getElem? (i := 158) (by decide +kernel), List.mem_of_getElem? (i := 159) (by decide +kernel)⟩
theorem lw_p1 : lw_okq (⟨"ServiceApiary", "faceAt", "(I)LServiceApiary$Face;"⟩, 12) := ⟨⟨by decide +kernel, by decide +kernel⟩, List.mem_of_getElem? (i := 18) (by decide +kernel), List.mem_of_getElem? (i := 213) (by decide +kernel), List.mem_of_getElem? (i := 214) (by decide +kernel)⟩
theorem lw_p2 : lw_okq (⟨"ServiceApiary", "versionAt", "(II)LServiceApiary$Version;"⟩, 12) := ⟨⟨by decide +kernel, by decide +kernel⟩, List.mem_of_getElem? (i := 18) (by decide +kernel), List.mem_of_getElem? (i := 315) (by decide +kernel), List.mem_of_getElem? (i := 316) (by decide +kernel)⟩
theorem lw_p3 : lw_okq (⟨"ServiceApiary", "versionFact", "(LServiceApiary$Version;I)I"⟩, 12) := ⟨⟨by decide +kernel, by decide +kernel⟩, List.mem_of_getElem? (i := 18) (by decide +kernel), List.mem_of_getElem? (i := 321) (by decide +kernel), List.mem_of_getElem? (i := 322) (by decide +kernel)⟩
theorem lw_p4 : lw_okq (⟨"ServiceApiary", "countCallers", "(LServiceApiary$Version;)I"⟩, 12) := ⟨⟨by decide +kernel, by decide +kernel⟩, List.mem_of_getElem? (i := 18) (by decide +kernel), List.mem_of_getElem? (i := 325) (by decide +kernel), List.mem_of_getElem? (i := 326) (by decide +kernel)⟩
theorem lw_p5 : lw_okq (⟨"ServiceApiary", "countHinderers", "(LServiceApiary$Version;LServiceApiary$Retirement;IZ)I"⟩, 12) := ⟨⟨by decide +kernel, by decide +kernel⟩, List.mem_of_getElem? (i := 18) (by decide +kernel), List.mem_of_getElem? (i := 337) (by decide +kernel), List.mem_of_getElem? (i := 338) (by decide +kernel)⟩
theorem lw_p6 : lw_okq (⟨"ServiceApiary", "isCallerThen", "(LServiceApiary$Client;LServiceApiary$Version;IZ)Z"⟩, 12) := ⟨⟨by decide +kernel, by decide +kernel⟩, List.mem_of_getElem? (i := 18) (by decide +kernel), List.mem_of_getElem? (i := 353) (by decide +kernel), List.mem_of_getElem? (i := 354) (by decide +kernel)⟩
theorem lw_p7 : lw_okq (⟨"ServiceApiary", "findRoute", "(LServiceApiary$Client;LServiceApiary$Version;LServiceApiary$Version;)Z"⟩, 12) := ⟨⟨by decide +kernel, by decide +kernel⟩, List.mem_of_getElem? (i := 18) (by decide +kernel), List.mem_of_getElem? (i := 357) (by decide +kernel), List.mem_of_getElem? (i := 358) (by decide +kernel)⟩
theorem lw_p8 : lw_okq (⟨"ServiceApiary", "countGeneratedFor", "(LServiceApiary$Version;)I"⟩, 12) := ⟨⟨by decide +kernel, by decide +kernel⟩, List.mem_of_getElem? (i := 18) (by decide +kernel), List.mem_of_getElem? (i := 371) (by decide +kernel), List.mem_of_getElem? (i := 372) (by decide +kernel)⟩
theorem lw_p9 : lw_okq (⟨"ServiceApiary", "clientAt", "(I)LServiceApiary$Client;"⟩, 12) := ⟨⟨by decide +kernel, by decide +kernel⟩, List.mem_of_getElem? (i := 18) (by decide +kernel), List.mem_of_getElem? (i := 430) (by decide +kernel), List.mem_of_getElem? (i := 431) (by decide +kernel)⟩
theorem lw_p10 : lw_okq (⟨"ServiceApiary", "clientFact", "(LServiceApiary$Client;I)I"⟩, 12) := ⟨⟨by decide +kernel, by decide +kernel⟩, List.mem_of_getElem? (i := 18) (by decide +kernel), List.mem_of_getElem? (i := 472) (by decide +kernel), List.mem_of_getElem? (i := 473) (by decide +kernel)⟩
theorem lw_p11 : lw_okq (⟨"ServiceApiary", "findOwnRoute", "(LServiceApiary$Client;)Z"⟩, 12) := ⟨⟨by decide +kernel, by decide +kernel⟩, List.mem_of_getElem? (i := 18) (by decide +kernel), List.mem_of_getElem? (i := 476) (by decide +kernel), List.mem_of_getElem? (i := 477) (by decide +kernel)⟩
theorem lw_p12 : lw_okq (⟨"ServiceApiary", "isServedCall", "(LServiceApiary$Client;)Z"⟩, 12) := ⟨⟨by decide +kernel, by decide +kernel⟩, List.mem_of_getElem? (i := 18) (by decide +kernel), List.mem_of_getElem? (i := 485) (by decide +kernel), List.mem_of_getElem? (i := 486) (by decide +kernel)⟩
theorem lw_p13 : lw_okq (⟨"ServiceApiary", "outcomeOf", "(LServiceApiary$Client;III)I"⟩, 12) := ⟨⟨by decide +kernel, by decide +kernel⟩, List.mem_of_getElem? (i := 18) (by decide +kernel), List.mem_of_getElem? (i := 497) (by decide +kernel), List.mem_of_getElem? (i := 498) (by decide +kernel)⟩
theorem lw_p14 : lw_okq (⟨"ServiceApiary", "hoursSinceCall", "(LServiceApiary$Client;LServiceApiary$Version;)I"⟩, 12) := ⟨⟨by decide +kernel, by decide +kernel⟩, List.mem_of_getElem? (i := 18) (by decide +kernel), List.mem_of_getElem? (i := 520) (by decide +kernel), List.mem_of_getElem? (i := 521) (by decide +kernel)⟩
theorem lw_p15 : lw_okq (⟨"ServiceApiary", "startRetirement", "(LServiceApiary$Version;LServiceApiary$Retirement;I)I"⟩, 12) := ⟨⟨by decide +kernel, by decide +kernel⟩, List.mem_of_getElem? (i := 18) (by decide +kernel), List.mem_of_getElem? (i := 530) (by decide +kernel), List.mem_of_getElem? (i := 531) (by decide +kernel)⟩
def lw_privs_1 : List (MethodName × Nat) := [(⟨"java/lang/Throwable", "fillInStackTrace", "(I)Ljava/lang/Throwable;"⟩, 6), (⟨"ServiceApiary", "faceAt", "(I)LServiceApiary$Face;"⟩, 12), (⟨"ServiceApiary", "versionAt", "(II)LServiceApiary$Version;"⟩, 12), (⟨"ServiceApiary", "versionFact", "(LServiceApiary$Version;I)I"⟩, 12), (⟨"ServiceApiary", "countCallers", "(LServiceApiary$Version;)I"⟩, 12), (⟨"ServiceApiary", "countHinderers", "(LServiceApiary$Version;LServiceApiary$Retirement;IZ)I"⟩, 12), (⟨"ServiceApiary", "isCallerThen", "(LServiceApiary$Client;LServiceApiary$Version;IZ)Z"⟩, 12), (⟨"ServiceApiary", "findRoute", "(LServiceApiary$Client;LServiceApiary$Version;LServiceApiary$Version;)Z"⟩, 12), (⟨"ServiceApiary", "countGeneratedFor", "(LServiceApiary$Version;)I"⟩, 12), (⟨"ServiceApiary", "clientAt", "(I)LServiceApiary$Client;"⟩, 12), (⟨"ServiceApiary", "clientFact", "(LServiceApiary$Client;I)I"⟩, 12), (⟨"ServiceApiary", "findOwnRoute", "(LServiceApiary$Client;)Z"⟩, 12), (⟨"ServiceApiary", "isServedCall", "(LServiceApiary$Client;)Z"⟩, 12), (⟨"ServiceApiary", "outcomeOf", "(LServiceApiary$Client;III)I"⟩, 12), (⟨"ServiceApiary", "hoursSinceCall", "(LServiceApiary$Client;LServiceApiary$Version;)I"⟩, 12), (⟨"ServiceApiary", "startRetirement", "(LServiceApiary$Version;LServiceApiary$Retirement;I)I"⟩, 12)]
theorem lw_r1 : ∀ q ∈ lw_privs_1, lw_okq q := List.forall_mem_cons.mpr ⟨lw_p0, List.forall_mem_cons.mpr ⟨lw_p1, List.forall_mem_cons.mpr ⟨lw_p2, List.forall_mem_cons.mpr ⟨lw_p3, List.forall_mem_cons.mpr ⟨lw_p4, List.forall_mem_cons.mpr ⟨lw_p5, List.forall_mem_cons.mpr ⟨lw_p6, List.forall_mem_cons.mpr ⟨lw_p7, List.forall_mem_cons.mpr ⟨lw_p8, List.forall_mem_cons.mpr ⟨lw_p9, List.forall_mem_cons.mpr ⟨lw_p10, List.forall_mem_cons.mpr ⟨lw_p11, List.forall_mem_cons.mpr ⟨lw_p12, List.forall_mem_cons.mpr ⟨lw_p13, List.forall_mem_cons.mpr ⟨lw_p14, List.forall_mem_cons.mpr ⟨lw_p15, fun _ h => absurd h List.not_mem_nil⟩⟩⟩⟩⟩⟩⟩⟩⟩⟩⟩⟩⟩⟩⟩⟩
theorem lw_p16 : lw_okq (⟨"ServiceApiary", "askedState", "(ILServiceApiary$Version;)I"⟩, 12) := ⟨⟨by decide +kernel, by decide +kernel⟩, List.mem_of_getElem? (i := 18) (by decide +kernel), List.mem_of_getElem? (i := 553) (by decide +kernel), List.mem_of_getElem? (i := 554) (by decide +kernel)⟩
theorem lw_p17 : lw_okq (⟨"ServiceApiary", "countOf", "(I)I"⟩, 12) := ⟨⟨by decide +kernel, by decide +kernel⟩, List.mem_of_getElem? (i := 18) (by decide +kernel), List.mem_of_getElem? (i := 562) (by decide +kernel), List.mem_of_getElem? (i := 563) (by decide +kernel)⟩
theorem lw_p18 : lw_okq (⟨"ServiceApiary", "countVersions", "(I)I"⟩, 12) := ⟨⟨by decide +kernel, by decide +kernel⟩, List.mem_of_getElem? (i := 18) (by decide +kernel), List.mem_of_getElem? (i := 566) (by decide +kernel), List.mem_of_getElem? (i := 567) (by decide +kernel)⟩
theorem lw_p19 : lw_okq (⟨"ServiceApiary", "outcomeIn", "(LServiceApiary$Client;I)I"⟩, 12) := ⟨⟨by decide +kernel, by decide +kernel⟩, List.mem_of_getElem? (i := 18) (by decide +kernel), List.mem_of_getElem? (i := 575) (by decide +kernel), List.mem_of_getElem? (i := 576) (by decide +kernel)⟩
theorem lw_p20 : lw_okq (⟨"ServiceApiary", "hoursTillGone", "(LServiceApiary$Version;LServiceApiary$Retirement;Z)I"⟩, 12) := ⟨⟨by decide +kernel, by decide +kernel⟩, List.mem_of_getElem? (i := 18) (by decide +kernel), List.mem_of_getElem? (i := 579) (by decide +kernel), List.mem_of_getElem? (i := 580) (by decide +kernel)⟩
theorem lw_p21 : lw_okq (⟨"ServiceApiary", "nearestOpen", "(LServiceApiary$Client;)I"⟩, 12) := ⟨⟨by decide +kernel, by decide +kernel⟩, List.mem_of_getElem? (i := 18) (by decide +kernel), List.mem_of_getElem? (i := 587) (by decide +kernel), List.mem_of_getElem? (i := 588) (by decide +kernel)⟩
theorem lw_p22 : lw_okq (⟨"ServiceApiary", "digestVersion", "(JLServiceApiary$Version;)J"⟩, 12) := ⟨⟨by decide +kernel, by decide +kernel⟩, List.mem_of_getElem? (i := 18) (by decide +kernel), List.mem_of_getElem? (i := 603) (by decide +kernel), List.mem_of_getElem? (i := 604) (by decide +kernel)⟩
theorem lw_p23 : lw_okq (⟨"ServiceApiary", "hoursLeft", "(LServiceApiary$Version;)I"⟩, 12) := ⟨⟨by decide +kernel, by decide +kernel⟩, List.mem_of_getElem? (i := 18) (by decide +kernel), List.mem_of_getElem? (i := 607) (by decide +kernel), List.mem_of_getElem? (i := 608) (by decide +kernel)⟩
theorem lw_p24 : lw_okq (⟨"ServiceApiary", "digestClient", "(JLServiceApiary$Client;)J"⟩, 12) := ⟨⟨by decide +kernel, by decide +kernel⟩, List.mem_of_getElem? (i := 18) (by decide +kernel), List.mem_of_getElem? (i := 611) (by decide +kernel), List.mem_of_getElem? (i := 612) (by decide +kernel)⟩
theorem lw_p25 : lw_okq (⟨"ServiceApiary", "beginHour", "()I"⟩, 12) := ⟨⟨by decide +kernel, by decide +kernel⟩, List.mem_of_getElem? (i := 18) (by decide +kernel), List.mem_of_getElem? (i := 633) (by decide +kernel), List.mem_of_getElem? (i := 634) (by decide +kernel)⟩
theorem lw_p26 : lw_okq (⟨"ServiceApiary", "isGoneAtEnd", "(LServiceApiary$Version;)Z"⟩, 12) := ⟨⟨by decide +kernel, by decide +kernel⟩, List.mem_of_getElem? (i := 18) (by decide +kernel), List.mem_of_getElem? (i := 638) (by decide +kernel), List.mem_of_getElem? (i := 639) (by decide +kernel)⟩
def lw_privs_2 : List (MethodName × Nat) := [(⟨"ServiceApiary", "askedState", "(ILServiceApiary$Version;)I"⟩, 12), (⟨"ServiceApiary", "countOf", "(I)I"⟩, 12), (⟨"ServiceApiary", "countVersions", "(I)I"⟩, 12), (⟨"ServiceApiary", "outcomeIn", "(LServiceApiary$Client;I)I"⟩, 12), (⟨"ServiceApiary", "hoursTillGone", "(LServiceApiary$Version;LServiceApiary$Retirement;Z)I"⟩, 12), (⟨"ServiceApiary", "nearestOpen", "(LServiceApiary$Client;)I"⟩, 12), (⟨"ServiceApiary", "digestVersion", "(JLServiceApiary$Version;)J"⟩, 12), (⟨"ServiceApiary", "hoursLeft", "(LServiceApiary$Version;)I"⟩, 12), (⟨"ServiceApiary", "digestClient", "(JLServiceApiary$Client;)J"⟩, 12), (⟨"ServiceApiary", "beginHour", "()I"⟩, 12), (⟨"ServiceApiary", "isGoneAtEnd", "(LServiceApiary$Version;)Z"⟩, 12)]
theorem lw_r2 : ∀ q ∈ lw_privs_2, lw_okq q := List.forall_mem_cons.mpr ⟨lw_p16, List.forall_mem_cons.mpr ⟨lw_p17, List.forall_mem_cons.mpr ⟨lw_p18, List.forall_mem_cons.mpr ⟨lw_p19, List.forall_mem_cons.mpr ⟨lw_p20, List.forall_mem_cons.mpr ⟨lw_p21, List.forall_mem_cons.mpr ⟨lw_p22, List.forall_mem_cons.mpr ⟨lw_p23, List.forall_mem_cons.mpr ⟨lw_p24, List.forall_mem_cons.mpr ⟨lw_p25, List.forall_mem_cons.mpr ⟨lw_p26, fun _ h => absurd h List.not_mem_nil⟩⟩⟩⟩⟩⟩⟩⟩⟩⟩⟩
def lw_privs : List (MethodName × Nat) := lw_privs_1 ++ (lw_privs_2)
def lw_tbl : List Cond := k2_sels lw_privs ++ tables_1
theorem lw_privs_ok : ∀ q ∈ lw_privs, lw_okq q := by
  show ∀ q ∈ lw_privs_1 ++ (lw_privs_2), lw_okq q
  exact List.forall_mem_append.mpr ⟨lw_r1, lw_r2⟩
end
section
def RX0 : String := "ServiceApiary$Adapter"
def TX0 : u_T := fun k => match k with
  | 0 => ("ServiceApiary$Adapter", "from", "LServiceApiary$Version;", true)
  | 1 => ("ServiceApiary$Adapter", "to", "LServiceApiary$Version;", true)
  | 2 => ("ServiceApiary$Adapter", "adds", "I", true)
  | _ => ("ServiceApiary$Adapter", "drops", "I", true)
def tyX0 : Nat → FieldType := fun k => match k with
  | 0 => .object "ServiceApiary$Version"
  | 1 => .object "ServiceApiary$Version"
  | 2 => .int
  | _ => .int
theorem nmX0 : ∀ a, a < 4 → ∀ b, b < 4 → a ≠ b → (TX0 a).2.1 ≠ (TX0 b).2.1 := by decide +kernel
theorem tyX0_ok : ∀ k, k < 4 → parseFieldDescriptor (TX0 k).2.2.1 = some (tyX0 k) := by decide +kernel
abbrev cX0_init : ByteArray := prog_2_method_1_code
def yX0_init : MethodName := ⟨RX0, "<init>", "(LServiceApiary$Version;LServiceApiary$Version;II)V"⟩
abbrev cX0_makesOf : ByteArray := prog_2_method_2_code
def yX0_makesOf : MethodName := ⟨RX0, "makesOf", "(I)I"⟩
def RX1 : String := "ServiceApiary$Client"
def TX1 : u_T := fun k => match k with
  | 0 => ("ServiceApiary$Client", "owner", "I", true)
  | 1 => ("ServiceApiary$Client", "face", "LServiceApiary$Face;", true)
  | 2 => ("ServiceApiary$Client", "calledAt", "[I", true)
  | 3 => ("ServiceApiary$Client", "servedThisHour", "[I", true)
  | 4 => ("ServiceApiary$Client", "version", "LServiceApiary$Version;", false)
  | 5 => ("ServiceApiary$Client", "uses", "I", false)
  | 6 => ("ServiceApiary$Client", "callCount", "I", false)
  | _ => ("ServiceApiary$Client", "refusedCount", "I", false)
def tyX1 : Nat → FieldType := fun k => match k with
  | 0 => .int
  | 1 => .object "ServiceApiary$Face"
  | 2 => .array .int
  | 3 => .array .int
  | 4 => .object "ServiceApiary$Version"
  | 5 => .int
  | 6 => .int
  | _ => .int
theorem nmX1 : ∀ a, a < 8 → ∀ b, b < 8 → a ≠ b → (TX1 a).2.1 ≠ (TX1 b).2.1 := by decide +kernel
theorem tyX1_ok : ∀ k, k < 8 → parseFieldDescriptor (TX1 k).2.2.1 = some (tyX1 k) := by decide +kernel
abbrev cX1_init : ByteArray := prog_3_method_1_code
def yX1_init : MethodName := ⟨RX1, "<init>", "(ILServiceApiary$Version;I)V"⟩
abbrev cX1_calledAtOf : ByteArray := prog_3_method_2_code
def yX1_calledAtOf : MethodName := ⟨RX1, "calledAtOf", "(LServiceApiary$Version;)I"⟩
abbrev cX1_isCallerOf : ByteArray := prog_3_method_3_code
def yX1_isCallerOf : MethodName := ⟨RX1, "isCallerOf", "(LServiceApiary$Version;I)Z"⟩
abbrev cX1_servedThisHourBy : ByteArray := prog_3_method_4_code
def yX1_servedThisHourBy : MethodName := ⟨RX1, "servedThisHourBy", "(LServiceApiary$Version;)I"⟩
abbrev cX1_noteCall : ByteArray := prog_3_method_5_code
def yX1_noteCall : MethodName := ⟨RX1, "noteCall", "(IZ)V"⟩
def RX2 : String := "ServiceApiary$Face"
def TX2 : u_T := fun k => match k with
  | 0 => ("ServiceApiary$Face", "number", "I", true)
  | 1 => ("ServiceApiary$Face", "versions", "[LServiceApiary$Version;", true)
  | _ => ("ServiceApiary$Face", "count", "I", false)
def tyX2 : Nat → FieldType := fun k => match k with
  | 0 => .int
  | 1 => .array (.object "ServiceApiary$Version")
  | _ => .int
theorem nmX2 : ∀ a, a < 3 → ∀ b, b < 3 → a ≠ b → (TX2 a).2.1 ≠ (TX2 b).2.1 := by decide +kernel
theorem tyX2_ok : ∀ k, k < 3 → parseFieldDescriptor (TX2 k).2.2.1 = some (tyX2 k) := by decide +kernel
abbrev cX2_init : ByteArray := prog_4_method_1_code
def yX2_init : MethodName := ⟨RX2, "<init>", "(I)V"⟩
abbrev cX2_versionAt : ByteArray := prog_4_method_2_code
def yX2_versionAt : MethodName := ⟨RX2, "versionAt", "(I)LServiceApiary$Version;"⟩
def RX3 : String := "ServiceApiary$Retirement"
def TX3 : u_T := fun k => match k with
  | 0 => ("ServiceApiary$Retirement", "askedAt", "[I", true)
  | 1 => ("ServiceApiary$Retirement", "began", "I", false)
  | 2 => ("ServiceApiary$Retirement", "end", "I", false)
  | _ => ("ServiceApiary$Retirement", "answered", "I", false)
def tyX3 : Nat → FieldType := fun k => match k with
  | 0 => .array .int
  | 1 => .int
  | 2 => .int
  | _ => .int
theorem nmX3 : ∀ a, a < 4 → ∀ b, b < 4 → a ≠ b → (TX3 a).2.1 ≠ (TX3 b).2.1 := by decide +kernel
theorem tyX3_ok : ∀ k, k < 4 → parseFieldDescriptor (TX3 k).2.2.1 = some (tyX3 k) := by decide +kernel
abbrev cX3_init : ByteArray := prog_5_method_1_code
def yX3_init : MethodName := ⟨RX3, "<init>", "()V"⟩
abbrev cX3_start : ByteArray := prog_5_method_2_code
def yX3_start : MethodName := ⟨RX3, "start", "(II)V"⟩
abbrev cX3_clear : ByteArray := prog_5_method_3_code
def yX3_clear : MethodName := ⟨RX3, "clear", "()V"⟩
abbrev cX3_askedAtOf : ByteArray := prog_5_method_4_code
def yX3_askedAtOf : MethodName := ⟨RX3, "askedAtOf", "(I)I"⟩
abbrev cX3_ask : ByteArray := prog_5_method_5_code
def yX3_ask : MethodName := ⟨RX3, "ask", "(II)Z"⟩
abbrev cX3_hasAnswered : ByteArray := prog_5_method_6_code
def yX3_hasAnswered : MethodName := ⟨RX3, "hasAnswered", "(I)Z"⟩
abbrev cX3_isWarned : ByteArray := prog_5_method_7_code
def yX3_isWarned : MethodName := ⟨RX3, "isWarned", "(II)Z"⟩
abbrev cX3_isBrownedOut : ByteArray := prog_5_method_8_code
def yX3_isBrownedOut : MethodName := ⟨RX3, "isBrownedOut", "(I)Z"⟩
abbrev cX3_quota : ByteArray := prog_5_method_9_code
def yX3_quota : MethodName := ⟨RX3, "quota", "(I)I"⟩
def RX4 : String := "ServiceApiary$Route"
def TX4 : u_T := fun k => match k with
  | 0 => ("ServiceApiary$Route", "steps", "[I", true)
  | 1 => ("ServiceApiary$Route", "length", "I", false)
  | 2 => ("ServiceApiary$Route", "leadsTo", "I", false)
  | 3 => ("ServiceApiary$Route", "makes", "I", false)
  | _ => ("ServiceApiary$Route", "shut", "LServiceApiary$Version;", false)
def tyX4 : Nat → FieldType := fun k => match k with
  | 0 => .array .int
  | 1 => .int
  | 2 => .int
  | 3 => .int
  | _ => .object "ServiceApiary$Version"
theorem nmX4 : ∀ a, a < 5 → ∀ b, b < 5 → a ≠ b → (TX4 a).2.1 ≠ (TX4 b).2.1 := by decide +kernel
theorem tyX4_ok : ∀ k, k < 5 → parseFieldDescriptor (TX4 k).2.2.1 = some (tyX4 k) := by decide +kernel
abbrev cX4_init : ByteArray := prog_6_method_1_code
def yX4_init : MethodName := ⟨RX4, "<init>", "()V"⟩
def RX5 : String := "ServiceApiary$Version"
def TX5 : u_T := fun k => match k with
  | 0 => ("ServiceApiary$Version", "face", "LServiceApiary$Face;", true)
  | 1 => ("ServiceApiary$Version", "number", "I", true)
  | 2 => ("ServiceApiary$Version", "has", "I", true)
  | 3 => ("ServiceApiary$Version", "needs", "I", true)
  | 4 => ("ServiceApiary$Version", "retirement", "LServiceApiary$Retirement;", true)
  | 5 => ("ServiceApiary$Version", "state", "I", false)
  | 6 => ("ServiceApiary$Version", "putOffCount", "I", false)
  | 7 => ("ServiceApiary$Version", "callCount", "I", false)
  | _ => ("ServiceApiary$Version", "refusedCount", "I", false)
def tyX5 : Nat → FieldType := fun k => match k with
  | 0 => .object "ServiceApiary$Face"
  | 1 => .int
  | 2 => .int
  | 3 => .int
  | 4 => .object "ServiceApiary$Retirement"
  | 5 => .int
  | 6 => .int
  | 7 => .int
  | _ => .int
theorem nmX5 : ∀ a, a < 9 → ∀ b, b < 9 → a ≠ b → (TX5 a).2.1 ≠ (TX5 b).2.1 := by decide +kernel
theorem tyX5_ok : ∀ k, k < 9 → parseFieldDescriptor (TX5 k).2.2.1 = some (tyX5 k) := by decide +kernel
abbrev cX5_init : ByteArray := prog_7_method_1_code
def yX5_init : MethodName := ⟨RX5, "<init>", "(LServiceApiary$Face;III)V"⟩
abbrev cX5_suits : ByteArray := prog_7_method_2_code
def yX5_suits : MethodName := ⟨RX5, "suits", "(LServiceApiary$Version;)Z"⟩
abbrev cX5_usesAgain : ByteArray := prog_7_method_3_code
def yX5_usesAgain : MethodName := ⟨RX5, "usesAgain", "(I)I"⟩
def RX6 : String := "ServiceApiary"
def TX6 : u_T := fun k => match k with
  | 0 => ("ServiceApiary", "faces", "[LServiceApiary$Face;", true)
  | 1 => ("ServiceApiary", "clients", "[LServiceApiary$Client;", true)
  | 2 => ("ServiceApiary", "adapters", "[LServiceApiary$Adapter;", true)
  | 3 => ("ServiceApiary", "faceCount", "I", false)
  | 4 => ("ServiceApiary", "clientCount", "I", false)
  | 5 => ("ServiceApiary", "adapterCount", "I", false)
  | 6 => ("ServiceApiary", "now", "I", false)
  | 7 => ("ServiceApiary", "callCount", "I", false)
  | 8 => ("ServiceApiary", "refusedCount", "I", false)
  | 9 => ("ServiceApiary", "byRouteCount", "I", false)
  | 10 => ("ServiceApiary", "route", "LServiceApiary$Route;", true)
  | _ => ("ServiceApiary", "trial", "LServiceApiary$Retirement;", true)
def tyX6 : Nat → FieldType := fun k => match k with
  | 0 => .array (.object "ServiceApiary$Face")
  | 1 => .array (.object "ServiceApiary$Client")
  | 2 => .array (.object "ServiceApiary$Adapter")
  | 3 => .int
  | 4 => .int
  | 5 => .int
  | 6 => .int
  | 7 => .int
  | 8 => .int
  | 9 => .int
  | 10 => .object "ServiceApiary$Route"
  | _ => .object "ServiceApiary$Retirement"
theorem nmX6 : ∀ a, a < 12 → ∀ b, b < 12 → a ≠ b → (TX6 a).2.1 ≠ (TX6 b).2.1 := by decide +kernel
theorem tyX6_ok : ∀ k, k < 12 → parseFieldDescriptor (TX6 k).2.2.1 = some (tyX6 k) := by decide +kernel
abbrev cX6_init : ByteArray := prog_1_method_1_code
def yX6_init : MethodName := ⟨RX6, "<init>", "()V"⟩
abbrev cX6_open : ByteArray := prog_1_method_2_code
def yX6_open : MethodName := ⟨RX6, "open", "()I"⟩
abbrev cX6_publish : ByteArray := prog_1_method_3_code
def yX6_publish : MethodName := ⟨RX6, "publish", "(III)I"⟩
abbrev cX6_ofVersion : ByteArray := prog_1_method_4_code
def yX6_ofVersion : MethodName := ⟨RX6, "ofVersion", "(III)I"⟩
abbrev cX6_isCompatible : ByteArray := prog_1_method_5_code
def yX6_isCompatible : MethodName := ⟨RX6, "isCompatible", "(III)Z"⟩
abbrev cX6_client : ByteArray := prog_1_method_6_code
def yX6_client : MethodName := ⟨RX6, "client", "(IIII)I"⟩
abbrev cX6_again : ByteArray := prog_1_method_7_code
def yX6_again : MethodName := ⟨RX6, "again", "(II)I"⟩
abbrev cX6_adapter : ByteArray := prog_1_method_8_code
def yX6_adapter : MethodName := ⟨RX6, "adapter", "(IIIII)I"⟩
abbrev cX6_ofClient : ByteArray := prog_1_method_9_code
def yX6_ofClient : MethodName := ⟨RX6, "ofClient", "(II)I"⟩
abbrev cX6_call : ByteArray := prog_1_method_11_code
def yX6_call : MethodName := ⟨RX6, "call", "(II)I"⟩
abbrev cX6_pass : ByteArray := prog_1_method_12_code
def yX6_pass : MethodName := ⟨RX6, "pass", "(I)I"⟩
abbrev cX6_lastCall : ByteArray := prog_1_method_13_code
def yX6_lastCall : MethodName := ⟨RX6, "lastCall", "(II)I"⟩
abbrev cX6_retire : ByteArray := prog_1_method_14_code
def yX6_retire : MethodName := ⟨RX6, "retire", "(III)I"⟩
abbrev cX6_answer : ByteArray := prog_1_method_15_code
def yX6_answer : MethodName := ⟨RX6, "answer", "(III)Z"⟩
abbrev cX6_asked : ByteArray := prog_1_method_17_code
def yX6_asked : MethodName := ⟨RX6, "asked", "(III)I"⟩
abbrev cX6_many : ByteArray := prog_1_method_18_code
def yX6_many : MethodName := ⟨RX6, "many", "(I)I"⟩
abbrev cX6_wouldCome : ByteArray := prog_1_method_20_code
def yX6_wouldCome : MethodName := ⟨RX6, "wouldCome", "(II)I"⟩
abbrev cX6_target : ByteArray := prog_1_method_23_code
def yX6_target : MethodName := ⟨RX6, "target", "(I)I"⟩
abbrev cX6_digest : ByteArray := prog_1_method_25_code
def yX6_digest : MethodName := ⟨RX6, "digest", "()J"⟩
abbrev cX6_faceAt : ByteArray := prog_1_method_26_code
def yX6_faceAt : MethodName := ⟨RX6, "faceAt", "(I)LServiceApiary$Face;"⟩
abbrev cX6_versionAt : ByteArray := prog_1_method_27_code
def yX6_versionAt : MethodName := ⟨RX6, "versionAt", "(II)LServiceApiary$Version;"⟩
abbrev cX6_clientAt : ByteArray := prog_1_method_28_code
def yX6_clientAt : MethodName := ⟨RX6, "clientAt", "(I)LServiceApiary$Client;"⟩
abbrev cX6_isOwner : ByteArray := prog_1_method_29_code
def yX6_isOwner : MethodName := ⟨RX6, "isOwner", "(I)Z"⟩
abbrev cX6_isFieldSet : ByteArray := prog_1_method_30_code
def yX6_isFieldSet : MethodName := ⟨RX6, "isFieldSet", "(I)Z"⟩
abbrev cX6_isShape : ByteArray := prog_1_method_31_code
def yX6_isShape : MethodName := ⟨RX6, "isShape", "(II)Z"⟩
abbrev cX6_fits : ByteArray := prog_1_method_32_code
def yX6_fits : MethodName := ⟨RX6, "fits", "(III)Z"⟩
abbrev cX6_countSuited : ByteArray := prog_1_method_33_code
def yX6_countSuited : MethodName := ⟨RX6, "countSuited", "(LServiceApiary$Version;)I"⟩
abbrev cX6_versionFact : ByteArray := prog_1_method_34_code
def yX6_versionFact : MethodName := ⟨RX6, "versionFact", "(LServiceApiary$Version;I)I"⟩
abbrev cX6_clientFact : ByteArray := prog_1_method_35_code
def yX6_clientFact : MethodName := ⟨RX6, "clientFact", "(LServiceApiary$Client;I)I"⟩
abbrev cX6_countOf : ByteArray := prog_1_method_36_code
def yX6_countOf : MethodName := ⟨RX6, "countOf", "(I)I"⟩
abbrev cX6_countVersions : ByteArray := prog_1_method_37_code
def yX6_countVersions : MethodName := ⟨RX6, "countVersions", "(I)I"⟩
abbrev cX6_countCallers : ByteArray := prog_1_method_38_code
def yX6_countCallers : MethodName := ⟨RX6, "countCallers", "(LServiceApiary$Version;)I"⟩
abbrev cX6_countGeneratedFor : ByteArray := prog_1_method_39_code
def yX6_countGeneratedFor : MethodName := ⟨RX6, "countGeneratedFor", "(LServiceApiary$Version;)I"⟩
abbrev cX6_hoursSinceCall : ByteArray := prog_1_method_40_code
def yX6_hoursSinceCall : MethodName := ⟨RX6, "hoursSinceCall", "(LServiceApiary$Client;LServiceApiary$Version;)I"⟩
abbrev cX6_askedState : ByteArray := prog_1_method_41_code
def yX6_askedState : MethodName := ⟨RX6, "askedState", "(ILServiceApiary$Version;)I"⟩
abbrev cX6_nearestOpen : ByteArray := prog_1_method_42_code
def yX6_nearestOpen : MethodName := ⟨RX6, "nearestOpen", "(LServiceApiary$Client;)I"⟩
abbrev cX6_findOwnRoute : ByteArray := prog_1_method_43_code
def yX6_findOwnRoute : MethodName := ⟨RX6, "findOwnRoute", "(LServiceApiary$Client;)Z"⟩
abbrev cX6_findRoute : ByteArray := prog_1_method_44_code
def yX6_findRoute : MethodName := ⟨RX6, "findRoute", "(LServiceApiary$Client;LServiceApiary$Version;LServiceApiary$Version;)Z"⟩
abbrev cX6_completes : ByteArray := prog_1_method_45_code
def yX6_completes : MethodName := ⟨RX6, "completes", "(LServiceApiary$Route;[LServiceApiary$Adapter;LServiceApiary$Version;II)Z"⟩
abbrev cX6_isServedCall : ByteArray := prog_1_method_46_code
def yX6_isServedCall : MethodName := ⟨RX6, "isServedCall", "(LServiceApiary$Client;)Z"⟩
abbrev cX6_outcomeOf : ByteArray := prog_1_method_47_code
def yX6_outcomeOf : MethodName := ⟨RX6, "outcomeOf", "(LServiceApiary$Client;III)I"⟩
abbrev cX6_outcomeIn : ByteArray := prog_1_method_48_code
def yX6_outcomeIn : MethodName := ⟨RX6, "outcomeIn", "(LServiceApiary$Client;I)I"⟩
abbrev cX6_beginHour : ByteArray := prog_1_method_49_code
def yX6_beginHour : MethodName := ⟨RX6, "beginHour", "()I"⟩
abbrev cX6_isGoneAtEnd : ByteArray := prog_1_method_50_code
def yX6_isGoneAtEnd : MethodName := ⟨RX6, "isGoneAtEnd", "(LServiceApiary$Version;)Z"⟩
abbrev cX6_startRetirement : ByteArray := prog_1_method_51_code
def yX6_startRetirement : MethodName := ⟨RX6, "startRetirement", "(LServiceApiary$Version;LServiceApiary$Retirement;I)I"⟩
abbrev cX6_countHinderers : ByteArray := prog_1_method_52_code
def yX6_countHinderers : MethodName := ⟨RX6, "countHinderers", "(LServiceApiary$Version;LServiceApiary$Retirement;IZ)I"⟩
abbrev cX6_isCallerThen : ByteArray := prog_1_method_53_code
def yX6_isCallerThen : MethodName := ⟨RX6, "isCallerThen", "(LServiceApiary$Client;LServiceApiary$Version;IZ)Z"⟩
abbrev cX6_hoursTillGone : ByteArray := prog_1_method_54_code
def yX6_hoursTillGone : MethodName := ⟨RX6, "hoursTillGone", "(LServiceApiary$Version;LServiceApiary$Retirement;Z)I"⟩
abbrev cX6_hoursLeft : ByteArray := prog_1_method_55_code
def yX6_hoursLeft : MethodName := ⟨RX6, "hoursLeft", "(LServiceApiary$Version;)I"⟩
abbrev cX6_digestVersion : ByteArray := prog_1_method_56_code
def yX6_digestVersion : MethodName := ⟨RX6, "digestVersion", "(JLServiceApiary$Version;)J"⟩
abbrev cX6_digestClient : ByteArray := prog_1_method_57_code
def yX6_digestClient : MethodName := ⟨RX6, "digestClient", "(JLServiceApiary$Client;)J"⟩
def RX7 : String := "ServiceApiaryModel$Adapter"
def TX7 : u_T := fun k => match k with
  | _ => ("", "", "", false)
def tyX7 : Nat → FieldType := fun k => match k with
  | _ => .int
theorem nmX7 : ∀ a, a < 0 → ∀ b, b < 0 → a ≠ b → (TX7 a).2.1 ≠ (TX7 b).2.1 := by decide +kernel
theorem tyX7_ok : ∀ k, k < 0 → parseFieldDescriptor (TX7 k).2.2.1 = some (tyX7 k) := by decide +kernel
def RX8 : String := "ServiceApiaryModel$Call"
def TX8 : u_T := fun k => match k with
  | _ => ("", "", "", false)
def tyX8 : Nat → FieldType := fun k => match k with
  | _ => .int
theorem nmX8 : ∀ a, a < 0 → ∀ b, b < 0 → a ≠ b → (TX8 a).2.1 ≠ (TX8 b).2.1 := by decide +kernel
theorem tyX8_ok : ∀ k, k < 0 → parseFieldDescriptor (TX8 k).2.2.1 = some (tyX8 k) := by decide +kernel
def RX9 : String := "ServiceApiaryModel$Client"
def TX9 : u_T := fun k => match k with
  | _ => ("", "", "", false)
def tyX9 : Nat → FieldType := fun k => match k with
  | _ => .int
theorem nmX9 : ∀ a, a < 0 → ∀ b, b < 0 → a ≠ b → (TX9 a).2.1 ≠ (TX9 b).2.1 := by decide +kernel
theorem tyX9_ok : ∀ k, k < 0 → parseFieldDescriptor (TX9 k).2.2.1 = some (tyX9 k) := by decide +kernel
def RX10 : String := "ServiceApiaryModel$Registry"
def TX10 : u_T := fun k => match k with
  | _ => ("", "", "", false)
def tyX10 : Nat → FieldType := fun k => match k with
  | _ => .int
theorem nmX10 : ∀ a, a < 0 → ∀ b, b < 0 → a ≠ b → (TX10 a).2.1 ≠ (TX10 b).2.1 := by decide +kernel
theorem tyX10_ok : ∀ k, k < 0 → parseFieldDescriptor (TX10 k).2.2.1 = some (tyX10 k) := by decide +kernel
def RX11 : String := "ServiceApiaryModel$Version"
def TX11 : u_T := fun k => match k with
  | _ => ("", "", "", false)
def tyX11 : Nat → FieldType := fun k => match k with
  | _ => .int
theorem nmX11 : ∀ a, a < 0 → ∀ b, b < 0 → a ≠ b → (TX11 a).2.1 ≠ (TX11 b).2.1 := by decide +kernel
theorem tyX11_ok : ∀ k, k < 0 → parseFieldDescriptor (TX11 k).2.2.1 = some (tyX11 k) := by decide +kernel
def RX12 : String := "ServiceApiaryModel"
def TX12 : u_T := fun k => match k with
  | _ => ("", "", "", false)
def tyX12 : Nat → FieldType := fun k => match k with
  | _ => .int
theorem nmX12 : ∀ a, a < 0 → ∀ b, b < 0 → a ≠ b → (TX12 a).2.1 ≠ (TX12 b).2.1 := by decide +kernel
theorem tyX12_ok : ∀ k, k < 0 → parseFieldDescriptor (TX12 k).2.2.1 = some (tyX12 k) := by decide +kernel
def RJx145de : String := "java/io/Serializable"
def TJx145de : u_T := fun k => match k with
  | _ => ("", "", "", false)
def tyJx145de : Nat → FieldType := fun k => match k with
  | _ => .int
theorem nmJx145de : ∀ a, a < 0 → ∀ b, b < 0 → a ≠ b → (TJx145de a).2.1 ≠ (TJx145de b).2.1 := by decide +kernel
theorem tyJx145de_ok : ∀ k, k < 0 → parseFieldDescriptor (TJx145de k).2.2.1 = some (tyJx145de k) := by decide +kernel
def RJ6 : String := "java/lang/Integer"
def TJ6 : u_T := fun k => match k with
  | _ => ("", "", "", false)
def tyJ6 : Nat → FieldType := fun k => match k with
  | _ => .int
theorem nmJ6 : ∀ a, a < 0 → ∀ b, b < 0 → a ≠ b → (TJ6 a).2.1 ≠ (TJ6 b).2.1 := by decide +kernel
theorem tyJ6_ok : ∀ k, k < 0 → parseFieldDescriptor (TJ6 k).2.2.1 = some (tyJ6 k) := by decide +kernel
abbrev cJ6_bitCount_0f7a4 : ByteArray := prog_19_method_49_code
def yJ6_bitCount_0f7a4 : MethodName := ⟨RJ6, "bitCount", "(I)I"⟩
def RJ9 : String := "java/lang/Math"
def TJ9 : u_T := fun k => match k with
  | _ => ("", "", "", false)
def tyJ9 : Nat → FieldType := fun k => match k with
  | _ => .int
theorem nmJ9 : ∀ a, a < 0 → ∀ b, b < 0 → a ≠ b → (TJ9 a).2.1 ≠ (TJ9 b).2.1 := by decide +kernel
theorem tyJ9_ok : ∀ k, k < 0 → parseFieldDescriptor (TJ9 k).2.2.1 = some (tyJ9 k) := by decide +kernel
abbrev cJ9_max_7cf53 : ByteArray := prog_20_method_65_code
def yJ9_max_7cf53 : MethodName := ⟨RJ9, "max", "(II)I"⟩
def RJ0 : String := "java/lang/String"
def TJ0 : u_T := fun k => match k with
  | _ => ("", "", "", false)
def tyJ0 : Nat → FieldType := fun k => match k with
  | _ => .int
theorem nmJ0 : ∀ a, a < 0 → ∀ b, b < 0 → a ≠ b → (TJ0 a).2.1 ≠ (TJ0 b).2.1 := by decide +kernel
theorem tyJ0_ok : ∀ k, k < 0 → parseFieldDescriptor (TJ0 k).2.2.1 = some (tyJ0 k) := by decide +kernel
def RJ7 : String := "java/util/Arrays"
def TJ7 : u_T := fun k => match k with
  | _ => ("", "", "", false)
def tyJ7 : Nat → FieldType := fun k => match k with
  | _ => .int
theorem nmJ7 : ∀ a, a < 0 → ∀ b, b < 0 → a ≠ b → (TJ7 a).2.1 ≠ (TJ7 b).2.1 := by decide +kernel
theorem tyJ7_ok : ∀ k, k < 0 → parseFieldDescriptor (TJ7 k).2.2.1 = some (tyJ7 k) := by decide +kernel
abbrev cJ7_fill_53178 : ByteArray := prog_24_method_103_code
def yJ7_fill_53178 : MethodName := ⟨RJ7, "fill", "([II)V"⟩
def RL : String := "ServiceApiaryLaw"
abbrev cL_below : ByteArray := method_2_code
def yL_below : MethodName := ⟨RL, "below", "(II)I"⟩
abbrev cL_cell : ByteArray := method_3_code
def yL_cell : MethodName := ⟨RL, "cell", "([II)I"⟩
abbrev cL_law : ByteArray := code
def yL_law : MethodName := ⟨RL, "law", "([I)Z"⟩
abbrev cL_isKind : ByteArray := method_5_code
def yL_isKind : MethodName := ⟨RL, "isKind", "(LServiceApiary;II)Z"⟩
abbrev vwCl : List vw_C := [(RX0, TX0, 4), (RX1, TX1, 8), (RX2, TX2, 3), (RX3, TX3, 4), (RX4, TX4, 5), (RX5, TX5, 9), (RX6, TX6, 12)]
end
section
/-! the words that a program's rows rest on: those of the tables that the tables alone decide -/
def xTs : List Cond := lw_tbl.filter goodWord
theorem xTs_1 {w : Cond} {i : Nat} (h : tables_1_1[i]? = some w) (g : goodWord w = true) : w ∈ xTs := List.mem_filter.mpr ⟨List.mem_append_right _ (List.mem_append_left _ (List.mem_of_getElem? h)), g⟩
theorem xTs_2 {w : Cond} {i : Nat} (h : tables_1_2[i]? = some w) (g : goodWord w = true) : w ∈ xTs := List.mem_filter.mpr ⟨List.mem_append_right _ (List.mem_append_right _ (List.mem_append_left _ (List.mem_of_getElem? h))), g⟩
theorem xTs_3 {w : Cond} {i : Nat} (h : tables_1_3[i]? = some w) (g : goodWord w = true) : w ∈ xTs := List.mem_filter.mpr ⟨List.mem_append_right _ (List.mem_append_right _ (List.mem_append_right _ (List.mem_of_getElem? h))), g⟩
theorem xTs_0 {w : Cond} {i : Nat} (h : (k2_sels lw_privs)[i]? = some w) (g : goodWord w = true) : w ∈ xTs := List.mem_filter.mpr ⟨List.mem_append_left _ (List.mem_of_getElem? h), g⟩
theorem xTs_sub : ∀ w ∈ xTs, w ∈ lw_tbl := fun w h => (List.mem_filter.mp h).1
theorem xTs_good : GoodIn xTs xTs := fun w h => ⟨h, good_of_word (List.mem_filter.mp h).2⟩
set_option maxRecDepth 20000 in
theorem q0 : (Cond.initialized RL) ∈ xTs := xTs_1 (i := 0) rfl rfl
set_option maxRecDepth 20000 in
theorem q1 : (Cond.initialized RX6) ∈ xTs := xTs_1 (i := 1) rfl rfl
set_option maxRecDepth 20000 in
theorem q2 : (Cond.initialized RX4) ∈ xTs := xTs_1 (i := 2) rfl rfl
set_option maxRecDepth 20000 in
theorem q3 : (Cond.initialized RX3) ∈ xTs := xTs_1 (i := 3) rfl rfl
set_option maxRecDepth 20000 in
theorem q4 : (Cond.initialized RJ7) ∈ xTs := xTs_1 (i := 4) rfl rfl
set_option maxRecDepth 20000 in
theorem q5 : (Cond.initialized "java/lang/Throwable") ∈ xTs := xTs_1 (i := 5) rfl rfl
set_option maxRecDepth 20000 in
theorem q6 : (Cond.initialized "java/lang/Exception") ∈ xTs := xTs_1 (i := 6) rfl rfl
set_option maxRecDepth 20000 in
theorem q7 : (Cond.initialized "java/lang/RuntimeException") ∈ xTs := xTs_1 (i := 7) rfl rfl
set_option maxRecDepth 20000 in
theorem q8 : (Cond.initialized "java/lang/IllegalStateException") ∈ xTs := xTs_1 (i := 8) rfl rfl
set_option maxRecDepth 20000 in
theorem q9 : (Cond.initialized RX2) ∈ xTs := xTs_1 (i := 9) rfl rfl
set_option maxRecDepth 20000 in
theorem q10 : (Cond.initialized "java/lang/IndexOutOfBoundsException") ∈ xTs := xTs_1 (i := 10) rfl rfl
set_option maxRecDepth 20000 in
theorem q11 : (Cond.initialized "java/lang/IllegalArgumentException") ∈ xTs := xTs_1 (i := 11) rfl rfl
set_option maxRecDepth 20000 in
theorem q12 : (Cond.initialized RX5) ∈ xTs := xTs_1 (i := 12) rfl rfl
set_option maxRecDepth 20000 in
theorem q13 : (Cond.initialized RX1) ∈ xTs := xTs_1 (i := 13) rfl rfl
set_option maxRecDepth 20000 in
theorem q14 : (Cond.initialized RX0) ∈ xTs := xTs_1 (i := 14) rfl rfl
set_option maxRecDepth 20000 in
theorem q15 : (Cond.initialized RJ9) ∈ xTs := xTs_1 (i := 15) rfl rfl
set_option maxRecDepth 20000 in
theorem q16 : (Cond.initialized RJ6) ∈ xTs := xTs_1 (i := 16) rfl rfl
set_option maxRecDepth 20000 in
theorem q17 : (Cond.classLink RL 9 RX6) ∈ xTs := xTs_1 (i := 17) rfl rfl
set_option maxRecDepth 20000 in
theorem q18 : (Cond.instantiable RX6 12) ∈ xTs := xTs_1 (i := 18) rfl rfl
set_option maxRecDepth 20000 in
theorem q19 : (Cond.methodLink RL 11 yX6_init) ∈ xTs := xTs_1 (i := 19) rfl rfl
set_option maxRecDepth 20000 in
theorem q20 : (Cond.instanceMethod yX6_init) ∈ xTs := xTs_1 (i := 20) rfl rfl
set_option maxRecDepth 20000 in
theorem q21 : (Cond.code yX6_init cX6_init 1 (Option.none : Option Jvm.ClassFile.FieldType)) ∈ xTs := xTs_1 (i := 21) rfl rfl
set_option maxRecDepth 20000 in
theorem q22 : (Cond.methodLink RX6 1 objectInit) ∈ xTs := xTs_1 (i := 22) rfl rfl
set_option maxRecDepth 20000 in
theorem q23 : (Cond.instanceMethod objectInit) ∈ xTs := xTs_1 (i := 23) rfl rfl
set_option maxRecDepth 20000 in
theorem q24 : (Cond.code objectInit ⟨#[0xb1]⟩ 1 none) ∈ xTs := xTs_1 (i := 24) rfl rfl
set_option maxRecDepth 20000 in
theorem q25 : (Cond.classLink RX6 9 RX2) ∈ xTs := xTs_1 (i := 25) rfl rfl
set_option maxRecDepth 20000 in
theorem q26 : (Cond.classLink RX6 15 RX1) ∈ xTs := xTs_1 (i := 27) rfl rfl
set_option maxRecDepth 20000 in
theorem q27 : (Cond.classLink RX6 21 RX0) ∈ xTs := xTs_1 (i := 29) rfl rfl
set_option maxRecDepth 20000 in
theorem q28 : (Cond.classLink RX6 27 RX4) ∈ xTs := xTs_1 (i := 31) rfl rfl
set_option maxRecDepth 20000 in
theorem q29 : (Cond.instantiable RX4 5) ∈ xTs := xTs_1 (i := 32) rfl rfl
set_option maxRecDepth 20000 in
theorem q30 : (Cond.instanceMethod yX4_init) ∈ xTs := xTs_1 (i := 34) rfl rfl
set_option maxRecDepth 20000 in
theorem q31 : (Cond.code yX4_init cX4_init 1 (Option.none : Option Jvm.ClassFile.FieldType)) ∈ xTs := xTs_1 (i := 35) rfl rfl
set_option maxRecDepth 20000 in
theorem q32 : (Cond.methodLink RX4 3 objectInit) ∈ xTs := xTs_1 (i := 36) rfl rfl
set_option maxRecDepth 20000 in
theorem q33 : (Cond.fieldLink RX4 9 "ServiceApiary$Route" "steps" "[I") ∈ xTs := xTs_1 (i := 37) rfl rfl
set_option maxRecDepth 20000 in
theorem q34 : (Cond.fieldLink RX6 188 "ServiceApiary$Route" "steps" "[I") ∈ xTs := xTs_1 (i := 38) rfl rfl
set_option maxRecDepth 20000 in
theorem q35 : (Cond.fieldLink RX6 185 "ServiceApiary$Route" "length" "I") ∈ xTs := xTs_1 (i := 39) rfl rfl
set_option maxRecDepth 20000 in
theorem q36 : (Cond.fieldLink RX6 311 "ServiceApiary$Route" "leadsTo" "I") ∈ xTs := xTs_1 (i := 40) rfl rfl
set_option maxRecDepth 20000 in
theorem q37 : (Cond.fieldLink RX6 314 "ServiceApiary$Route" "makes" "I") ∈ xTs := xTs_1 (i := 41) rfl rfl
set_option maxRecDepth 20000 in
theorem q38 : (Cond.fieldLink RX6 342 "ServiceApiary$Route" "shut" "LServiceApiary$Version;") ∈ xTs := xTs_1 (i := 42) rfl rfl
set_option maxRecDepth 20000 in
theorem q39 : (Cond.laysFinal "ServiceApiary$Route" "ServiceApiary$Route" "steps" "[I") ∈ xTs := xTs_1 (i := 43) rfl rfl
set_option maxRecDepth 20000 in
theorem q40 : (Cond.lays "ServiceApiary$Route" "ServiceApiary$Route" "length" "I") ∈ xTs := xTs_1 (i := 45) rfl rfl
set_option maxRecDepth 20000 in
theorem q41 : (Cond.lays "ServiceApiary$Route" "ServiceApiary$Route" "leadsTo" "I") ∈ xTs := xTs_1 (i := 47) rfl rfl
set_option maxRecDepth 20000 in
theorem q42 : (Cond.lays "ServiceApiary$Route" "ServiceApiary$Route" "makes" "I") ∈ xTs := xTs_1 (i := 49) rfl rfl
set_option maxRecDepth 20000 in
theorem q43 : (Cond.lays "ServiceApiary$Route" "ServiceApiary$Route" "shut" "LServiceApiary$Version;") ∈ xTs := xTs_1 (i := 51) rfl rfl
set_option maxRecDepth 20000 in
theorem q44 : (Cond.arrayClass FieldType.int) ∈ xTs := xTs_1 (i := 54) rfl rfl
set_option maxRecDepth 20000 in
theorem q45 : (Cond.classLink RX6 34 RX3) ∈ xTs := xTs_1 (i := 55) rfl rfl
set_option maxRecDepth 20000 in
theorem q46 : (Cond.instantiable RX3 4) ∈ xTs := xTs_1 (i := 56) rfl rfl
set_option maxRecDepth 20000 in
theorem q47 : (Cond.methodLink RX6 36 yX3_init) ∈ xTs := xTs_1 (i := 57) rfl rfl
set_option maxRecDepth 20000 in
theorem q48 : (Cond.instanceMethod yX3_init) ∈ xTs := xTs_1 (i := 58) rfl rfl
set_option maxRecDepth 20000 in
theorem q49 : (Cond.code yX3_init cX3_init 1 (Option.none : Option Jvm.ClassFile.FieldType)) ∈ xTs := xTs_1 (i := 59) rfl rfl
set_option maxRecDepth 20000 in
theorem q50 : (Cond.methodLink RX3 3 objectInit) ∈ xTs := xTs_1 (i := 60) rfl rfl
set_option maxRecDepth 20000 in
theorem q51 : (Cond.methodLink RX3 22 yJ7_fill_53178) ∈ xTs := xTs_1 (i := 61) rfl rfl
set_option maxRecDepth 20000 in
theorem q52 : (Cond.static yJ7_fill_53178) ∈ xTs := xTs_1 (i := 62) rfl rfl
set_option maxRecDepth 20000 in
theorem q53 : (Cond.code yJ7_fill_53178 cJ7_fill_53178 4 (Option.none : Option Jvm.ClassFile.FieldType)) ∈ xTs := xTs_1 (i := 63) rfl rfl
set_option maxRecDepth 20000 in
theorem q54 : (Cond.fieldLink RX3 9 "ServiceApiary$Retirement" "askedAt" "[I") ∈ xTs := xTs_1 (i := 64) rfl rfl
set_option maxRecDepth 20000 in
theorem q55 : (Cond.fieldLink RX3 15 "ServiceApiary$Retirement" "began" "I") ∈ xTs := xTs_1 (i := 65) rfl rfl
set_option maxRecDepth 20000 in
theorem q56 : (Cond.fieldLink RX6 287 "ServiceApiary$Retirement" "began" "I") ∈ xTs := xTs_1 (i := 66) rfl rfl
set_option maxRecDepth 20000 in
theorem q57 : (Cond.fieldLink RX3 19 "ServiceApiary$Retirement" "end" "I") ∈ xTs := xTs_1 (i := 67) rfl rfl
set_option maxRecDepth 20000 in
theorem q58 : (Cond.fieldLink RX6 236 "ServiceApiary$Retirement" "end" "I") ∈ xTs := xTs_1 (i := 68) rfl rfl
set_option maxRecDepth 20000 in
theorem q59 : (Cond.fieldLink RX3 31 "ServiceApiary$Retirement" "answered" "I") ∈ xTs := xTs_1 (i := 69) rfl rfl
set_option maxRecDepth 20000 in
theorem q60 : (Cond.fieldLink RX6 231 "ServiceApiary$Retirement" "answered" "I") ∈ xTs := xTs_1 (i := 70) rfl rfl
set_option maxRecDepth 20000 in
theorem q61 : (Cond.laysFinal "ServiceApiary$Retirement" "ServiceApiary$Retirement" "askedAt" "[I") ∈ xTs := xTs_1 (i := 71) rfl rfl
set_option maxRecDepth 20000 in
theorem q62 : (Cond.lays "ServiceApiary$Retirement" "ServiceApiary$Retirement" "began" "I") ∈ xTs := xTs_1 (i := 73) rfl rfl
set_option maxRecDepth 20000 in
theorem q63 : (Cond.lays "ServiceApiary$Retirement" "ServiceApiary$Retirement" "end" "I") ∈ xTs := xTs_1 (i := 75) rfl rfl
set_option maxRecDepth 20000 in
theorem q64 : (Cond.lays "ServiceApiary$Retirement" "ServiceApiary$Retirement" "answered" "I") ∈ xTs := xTs_1 (i := 77) rfl rfl
set_option maxRecDepth 20000 in
theorem q65 : (Cond.fieldLink RX6 11 "ServiceApiary" "faces" "[LServiceApiary$Face;") ∈ xTs := xTs_1 (i := 80) rfl rfl
set_option maxRecDepth 20000 in
theorem q66 : (Cond.fieldLink RX6 17 "ServiceApiary" "clients" "[LServiceApiary$Client;") ∈ xTs := xTs_1 (i := 81) rfl rfl
set_option maxRecDepth 20000 in
theorem q67 : (Cond.fieldLink RX6 23 "ServiceApiary" "adapters" "[LServiceApiary$Adapter;") ∈ xTs := xTs_1 (i := 82) rfl rfl
set_option maxRecDepth 20000 in
theorem q68 : (Cond.fieldLink RX6 41 "ServiceApiary" "faceCount" "I") ∈ xTs := xTs_1 (i := 83) rfl rfl
set_option maxRecDepth 20000 in
theorem q69 : (Cond.fieldLink RX6 126 "ServiceApiary" "clientCount" "I") ∈ xTs := xTs_1 (i := 84) rfl rfl
set_option maxRecDepth 20000 in
theorem q70 : (Cond.fieldLink RX6 165 "ServiceApiary" "adapterCount" "I") ∈ xTs := xTs_1 (i := 85) rfl rfl
set_option maxRecDepth 20000 in
theorem q71 : (Cond.fieldLink RX6 225 "ServiceApiary" "now" "I") ∈ xTs := xTs_1 (i := 86) rfl rfl
set_option maxRecDepth 20000 in
theorem q72 : (Cond.fieldLink RX6 249 "ServiceApiary" "callCount" "I") ∈ xTs := xTs_1 (i := 87) rfl rfl
set_option maxRecDepth 20000 in
theorem q73 : (Cond.fieldLink RX6 252 "ServiceApiary" "refusedCount" "I") ∈ xTs := xTs_1 (i := 88) rfl rfl
set_option maxRecDepth 20000 in
theorem q74 : (Cond.fieldLink RX6 320 "ServiceApiary" "byRouteCount" "I") ∈ xTs := xTs_1 (i := 89) rfl rfl
set_option maxRecDepth 20000 in
theorem q75 : (Cond.fieldLink RX6 30 "ServiceApiary" "route" "LServiceApiary$Route;") ∈ xTs := xTs_1 (i := 90) rfl rfl
set_option maxRecDepth 20000 in
theorem q76 : (Cond.fieldLink RX6 37 "ServiceApiary" "trial" "LServiceApiary$Retirement;") ∈ xTs := xTs_1 (i := 91) rfl rfl
set_option maxRecDepth 20000 in
theorem q77 : (Cond.laysFinal "ServiceApiary" "ServiceApiary" "faces" "[LServiceApiary$Face;") ∈ xTs := xTs_1 (i := 92) rfl rfl
set_option maxRecDepth 20000 in
theorem q78 : (Cond.laysFinal "ServiceApiary" "ServiceApiary" "clients" "[LServiceApiary$Client;") ∈ xTs := xTs_1 (i := 94) rfl rfl
set_option maxRecDepth 20000 in
theorem q79 : (Cond.laysFinal "ServiceApiary" "ServiceApiary" "adapters" "[LServiceApiary$Adapter;") ∈ xTs := xTs_1 (i := 96) rfl rfl
set_option maxRecDepth 20000 in
theorem q80 : (Cond.lays "ServiceApiary" "ServiceApiary" "faceCount" "I") ∈ xTs := xTs_1 (i := 98) rfl rfl
set_option maxRecDepth 20000 in
theorem q81 : (Cond.lays "ServiceApiary" "ServiceApiary" "clientCount" "I") ∈ xTs := xTs_1 (i := 100) rfl rfl
set_option maxRecDepth 20000 in
theorem q82 : (Cond.lays "ServiceApiary" "ServiceApiary" "adapterCount" "I") ∈ xTs := xTs_1 (i := 102) rfl rfl
set_option maxRecDepth 20000 in
theorem q83 : (Cond.lays "ServiceApiary" "ServiceApiary" "now" "I") ∈ xTs := xTs_1 (i := 104) rfl rfl
set_option maxRecDepth 20000 in
theorem q84 : (Cond.lays "ServiceApiary" "ServiceApiary" "callCount" "I") ∈ xTs := xTs_1 (i := 106) rfl rfl
set_option maxRecDepth 20000 in
theorem q85 : (Cond.lays "ServiceApiary" "ServiceApiary" "refusedCount" "I") ∈ xTs := xTs_1 (i := 108) rfl rfl
set_option maxRecDepth 20000 in
theorem q86 : (Cond.lays "ServiceApiary" "ServiceApiary" "byRouteCount" "I") ∈ xTs := xTs_1 (i := 110) rfl rfl
set_option maxRecDepth 20000 in
theorem q87 : (Cond.laysFinal "ServiceApiary" "ServiceApiary" "route" "LServiceApiary$Route;") ∈ xTs := xTs_1 (i := 112) rfl rfl
set_option maxRecDepth 20000 in
theorem q88 : (Cond.laysFinal "ServiceApiary" "ServiceApiary" "trial" "LServiceApiary$Retirement;") ∈ xTs := xTs_1 (i := 114) rfl rfl
set_option maxRecDepth 20000 in
theorem q89 : (Cond.methodLink RL 12 yX6_open) ∈ xTs := xTs_1 (i := 117) rfl rfl
set_option maxRecDepth 20000 in
theorem q90 : (Cond.instanceMethod yX6_open) ∈ xTs := xTs_1 (i := 118) rfl rfl
set_option maxRecDepth 20000 in
theorem q91 : (Cond.selects RX6 yX6_open yX6_open) ∈ xTs := xTs_1 (i := 119) rfl rfl
set_option maxRecDepth 20000 in
theorem q92 : (Cond.code yX6_open cX6_open 1 (Option.some Jvm.ClassFile.FieldType.int)) ∈ xTs := xTs_1 (i := 120) rfl rfl
set_option maxRecDepth 20000 in
theorem q93 : (Cond.classLink RX6 45 "java/lang/IllegalStateException") ∈ xTs := xTs_1 (i := 121) rfl rfl
set_option maxRecDepth 20000 in
theorem q94 : (Cond.instantiable "java/lang/IllegalStateException" 6) ∈ xTs := xTs_1 (i := 122) rfl rfl
set_option maxRecDepth 20000 in
theorem q95 : (Cond.instantiable "java/lang/Throwable" 6) ∈ xTs := xTs_1 (i := 160) rfl rfl
set_option maxRecDepth 20000 in
theorem q96 : (Cond.arrayClass FieldType.byte) ∈ xTs := xTs_1 (i := 188) rfl rfl
set_option maxRecDepth 20000 in
theorem q97 : (Cond.instantiable RX2 3) ∈ xTs := xTs_1 (i := 189) rfl rfl
set_option maxRecDepth 20000 in
theorem q98 : (Cond.methodLink RX6 52 yX2_init) ∈ xTs := xTs_1 (i := 190) rfl rfl
set_option maxRecDepth 20000 in
theorem q99 : (Cond.instanceMethod yX2_init) ∈ xTs := xTs_1 (i := 191) rfl rfl
set_option maxRecDepth 20000 in
theorem q100 : (Cond.code yX2_init cX2_init 2 (Option.none : Option Jvm.ClassFile.FieldType)) ∈ xTs := xTs_1 (i := 192) rfl rfl
set_option maxRecDepth 20000 in
theorem q101 : (Cond.methodLink RX2 3 objectInit) ∈ xTs := xTs_1 (i := 193) rfl rfl
set_option maxRecDepth 20000 in
theorem q102 : (Cond.classLink RX2 9 RX5) ∈ xTs := xTs_1 (i := 194) rfl rfl
set_option maxRecDepth 20000 in
theorem q103 : (Cond.fieldLink RX2 17 "ServiceApiary$Face" "number" "I") ∈ xTs := xTs_1 (i := 196) rfl rfl
set_option maxRecDepth 20000 in
theorem q104 : (Cond.fieldLink RX6 308 "ServiceApiary$Face" "number" "I") ∈ xTs := xTs_1 (i := 197) rfl rfl
set_option maxRecDepth 20000 in
theorem q105 : (Cond.fieldLink RX2 11 "ServiceApiary$Face" "versions" "[LServiceApiary$Version;") ∈ xTs := xTs_1 (i := 198) rfl rfl
set_option maxRecDepth 20000 in
theorem q106 : (Cond.fieldLink RX6 76 "ServiceApiary$Face" "versions" "[LServiceApiary$Version;") ∈ xTs := xTs_1 (i := 199) rfl rfl
set_option maxRecDepth 20000 in
theorem q107 : (Cond.fieldLink RX6 73 "ServiceApiary$Face" "count" "I") ∈ xTs := xTs_1 (i := 200) rfl rfl
set_option maxRecDepth 20000 in
theorem q108 : (Cond.laysFinal "ServiceApiary$Face" "ServiceApiary$Face" "number" "I") ∈ xTs := xTs_1 (i := 201) rfl rfl
set_option maxRecDepth 20000 in
theorem q109 : (Cond.laysFinal "ServiceApiary$Face" "ServiceApiary$Face" "versions" "[LServiceApiary$Version;") ∈ xTs := xTs_1 (i := 203) rfl rfl
set_option maxRecDepth 20000 in
theorem q110 : (Cond.lays "ServiceApiary$Face" "ServiceApiary$Face" "count" "I") ∈ xTs := xTs_1 (i := 205) rfl rfl
set_option maxRecDepth 20000 in
theorem q111 : (Cond.methodLink RL 26 yX6_publish) ∈ xTs := xTs_1 (i := 208) rfl rfl
set_option maxRecDepth 20000 in
theorem q112 : (Cond.instanceMethod yX6_publish) ∈ xTs := xTs_1 (i := 209) rfl rfl
set_option maxRecDepth 20000 in
theorem q113 : (Cond.selects RX6 yX6_publish yX6_publish) ∈ xTs := xTs_1 (i := 210) rfl rfl
set_option maxRecDepth 20000 in
theorem q114 : (Cond.code yX6_publish cX6_publish 8 (Option.some Jvm.ClassFile.FieldType.int)) ∈ xTs := xTs_1 (i := 211) rfl rfl
set_option maxRecDepth 20000 in
theorem q115 : (Cond.methodLink RX6 55 yX6_faceAt) ∈ xTs := xTs_1 (i := 212) rfl rfl
set_option maxRecDepth 20000 in
theorem q116 : (Cond.instanceMethod yX6_faceAt) ∈ xTs := xTs_1 (i := 214) rfl rfl
set_option maxRecDepth 20000 in
theorem q117 : (Cond.code yX6_faceAt cX6_faceAt 2 (Option.some (Jvm.ClassFile.FieldType.object "ServiceApiary$Face"))) ∈ xTs := xTs_1 (i := 215) rfl rfl
set_option maxRecDepth 20000 in
theorem q118 : (Cond.classLink RX6 59 "java/lang/IndexOutOfBoundsException") ∈ xTs := xTs_1 (i := 216) rfl rfl
set_option maxRecDepth 20000 in
theorem q119 : (Cond.instantiable "java/lang/IndexOutOfBoundsException" 6) ∈ xTs := xTs_1 (i := 217) rfl rfl
set_option maxRecDepth 20000 in
theorem q120 : (Cond.methodLink RX6 64 yX6_isShape) ∈ xTs := xTs_1 (i := 232) rfl rfl
set_option maxRecDepth 20000 in
theorem q121 : (Cond.static yX6_isShape) ∈ xTs := xTs_1 (i := 233) rfl rfl
set_option maxRecDepth 20000 in
theorem q122 : (Cond.code yX6_isShape cX6_isShape 2 (Option.some Jvm.ClassFile.FieldType.boolean)) ∈ xTs := xTs_1 (i := 234) rfl rfl
set_option maxRecDepth 20000 in
theorem q123 : (Cond.methodLink RX6 111 yX6_isFieldSet) ∈ xTs := xTs_1 (i := 235) rfl rfl
set_option maxRecDepth 20000 in
theorem q124 : (Cond.static yX6_isFieldSet) ∈ xTs := xTs_1 (i := 236) rfl rfl
set_option maxRecDepth 20000 in
theorem q125 : (Cond.code yX6_isFieldSet cX6_isFieldSet 1 (Option.some Jvm.ClassFile.FieldType.boolean)) ∈ xTs := xTs_1 (i := 237) rfl rfl
set_option maxRecDepth 20000 in
theorem q126 : (Cond.classLink RX6 68 "java/lang/IllegalArgumentException") ∈ xTs := xTs_1 (i := 238) rfl rfl
set_option maxRecDepth 20000 in
theorem q127 : (Cond.instantiable "java/lang/IllegalArgumentException" 6) ∈ xTs := xTs_1 (i := 239) rfl rfl
set_option maxRecDepth 20000 in
theorem q128 : (Cond.classLink RX6 82 RX5) ∈ xTs := xTs_2 (i := 15) rfl rfl
set_option maxRecDepth 20000 in
theorem q129 : (Cond.instantiable RX5 9) ∈ xTs := xTs_2 (i := 16) rfl rfl
set_option maxRecDepth 20000 in
theorem q130 : (Cond.methodLink RX6 84 yX5_init) ∈ xTs := xTs_2 (i := 17) rfl rfl
set_option maxRecDepth 20000 in
theorem q131 : (Cond.instanceMethod yX5_init) ∈ xTs := xTs_2 (i := 18) rfl rfl
set_option maxRecDepth 20000 in
theorem q132 : (Cond.code yX5_init cX5_init 5 (Option.none : Option Jvm.ClassFile.FieldType)) ∈ xTs := xTs_2 (i := 19) rfl rfl
set_option maxRecDepth 20000 in
theorem q133 : (Cond.methodLink RX5 3 objectInit) ∈ xTs := xTs_2 (i := 20) rfl rfl
set_option maxRecDepth 20000 in
theorem q134 : (Cond.classLink RX5 9 RX3) ∈ xTs := xTs_2 (i := 21) rfl rfl
set_option maxRecDepth 20000 in
theorem q135 : (Cond.methodLink RX5 11 yX3_init) ∈ xTs := xTs_2 (i := 22) rfl rfl
set_option maxRecDepth 20000 in
theorem q136 : (Cond.fieldLink RX5 22 "ServiceApiary$Version" "face" "LServiceApiary$Face;") ∈ xTs := xTs_2 (i := 23) rfl rfl
set_option maxRecDepth 20000 in
theorem q137 : (Cond.fieldLink RX1 22 "ServiceApiary$Version" "face" "LServiceApiary$Face;") ∈ xTs := xTs_2 (i := 24) rfl rfl
set_option maxRecDepth 20000 in
theorem q138 : (Cond.fieldLink RX6 286 "ServiceApiary$Version" "face" "LServiceApiary$Face;") ∈ xTs := xTs_2 (i := 25) rfl rfl
set_option maxRecDepth 20000 in
theorem q139 : (Cond.fieldLink RX5 26 "ServiceApiary$Version" "number" "I") ∈ xTs := xTs_2 (i := 26) rfl rfl
set_option maxRecDepth 20000 in
theorem q140 : (Cond.fieldLink RX1 42 "ServiceApiary$Version" "number" "I") ∈ xTs := xTs_2 (i := 27) rfl rfl
set_option maxRecDepth 20000 in
theorem q141 : (Cond.fieldLink RX6 283 "ServiceApiary$Version" "number" "I") ∈ xTs := xTs_2 (i := 28) rfl rfl
set_option maxRecDepth 20000 in
theorem q142 : (Cond.fieldLink RX5 29 "ServiceApiary$Version" "has" "I") ∈ xTs := xTs_2 (i := 29) rfl rfl
set_option maxRecDepth 20000 in
theorem q143 : (Cond.fieldLink RX6 114 "ServiceApiary$Version" "has" "I") ∈ xTs := xTs_2 (i := 30) rfl rfl
set_option maxRecDepth 20000 in
theorem q144 : (Cond.fieldLink RX5 32 "ServiceApiary$Version" "needs" "I") ∈ xTs := xTs_2 (i := 31) rfl rfl
set_option maxRecDepth 20000 in
theorem q145 : (Cond.fieldLink RX6 117 "ServiceApiary$Version" "needs" "I") ∈ xTs := xTs_2 (i := 32) rfl rfl
set_option maxRecDepth 20000 in
theorem q146 : (Cond.fieldLink RX5 12 "ServiceApiary$Version" "retirement" "LServiceApiary$Retirement;") ∈ xTs := xTs_2 (i := 33) rfl rfl
set_option maxRecDepth 20000 in
theorem q147 : (Cond.fieldLink RX6 211 "ServiceApiary$Version" "retirement" "LServiceApiary$Retirement;") ∈ xTs := xTs_2 (i := 34) rfl rfl
set_option maxRecDepth 20000 in
theorem q148 : (Cond.fieldLink RX5 18 "ServiceApiary$Version" "state" "I") ∈ xTs := xTs_2 (i := 35) rfl rfl
set_option maxRecDepth 20000 in
theorem q149 : (Cond.fieldLink RX6 129 "ServiceApiary$Version" "state" "I") ∈ xTs := xTs_2 (i := 36) rfl rfl
set_option maxRecDepth 20000 in
theorem q150 : (Cond.fieldLink RX6 297 "ServiceApiary$Version" "putOffCount" "I") ∈ xTs := xTs_2 (i := 37) rfl rfl
set_option maxRecDepth 20000 in
theorem q151 : (Cond.fieldLink RX6 300 "ServiceApiary$Version" "callCount" "I") ∈ xTs := xTs_2 (i := 38) rfl rfl
set_option maxRecDepth 20000 in
theorem q152 : (Cond.fieldLink RX6 301 "ServiceApiary$Version" "refusedCount" "I") ∈ xTs := xTs_2 (i := 39) rfl rfl
set_option maxRecDepth 20000 in
theorem q153 : (Cond.laysFinal "ServiceApiary$Version" "ServiceApiary$Version" "face" "LServiceApiary$Face;") ∈ xTs := xTs_2 (i := 40) rfl rfl
set_option maxRecDepth 20000 in
theorem q154 : (Cond.laysFinal "ServiceApiary$Version" "ServiceApiary$Version" "number" "I") ∈ xTs := xTs_2 (i := 42) rfl rfl
set_option maxRecDepth 20000 in
theorem q155 : (Cond.laysFinal "ServiceApiary$Version" "ServiceApiary$Version" "has" "I") ∈ xTs := xTs_2 (i := 44) rfl rfl
set_option maxRecDepth 20000 in
theorem q156 : (Cond.laysFinal "ServiceApiary$Version" "ServiceApiary$Version" "needs" "I") ∈ xTs := xTs_2 (i := 46) rfl rfl
set_option maxRecDepth 20000 in
theorem q157 : (Cond.laysFinal "ServiceApiary$Version" "ServiceApiary$Version" "retirement" "LServiceApiary$Retirement;") ∈ xTs := xTs_2 (i := 48) rfl rfl
set_option maxRecDepth 20000 in
theorem q158 : (Cond.lays "ServiceApiary$Version" "ServiceApiary$Version" "state" "I") ∈ xTs := xTs_2 (i := 50) rfl rfl
set_option maxRecDepth 20000 in
theorem q159 : (Cond.lays "ServiceApiary$Version" "ServiceApiary$Version" "putOffCount" "I") ∈ xTs := xTs_2 (i := 52) rfl rfl
set_option maxRecDepth 20000 in
theorem q160 : (Cond.lays "ServiceApiary$Version" "ServiceApiary$Version" "callCount" "I") ∈ xTs := xTs_2 (i := 54) rfl rfl
set_option maxRecDepth 20000 in
theorem q161 : (Cond.lays "ServiceApiary$Version" "ServiceApiary$Version" "refusedCount" "I") ∈ xTs := xTs_2 (i := 56) rfl rfl
set_option maxRecDepth 20000 in
theorem q162 : (Cond.methodLink RX6 87 yX6_countSuited) ∈ xTs := xTs_2 (i := 59) rfl rfl
set_option maxRecDepth 20000 in
theorem q163 : (Cond.static yX6_countSuited) ∈ xTs := xTs_2 (i := 60) rfl rfl
set_option maxRecDepth 20000 in
theorem q164 : (Cond.code yX6_countSuited cX6_countSuited 4 (Option.some Jvm.ClassFile.FieldType.int)) ∈ xTs := xTs_2 (i := 61) rfl rfl
set_option maxRecDepth 20000 in
theorem q165 : (Cond.methodLink RX6 145 yX2_versionAt) ∈ xTs := xTs_2 (i := 62) rfl rfl
set_option maxRecDepth 20000 in
theorem q166 : (Cond.instanceMethod yX2_versionAt) ∈ xTs := xTs_2 (i := 63) rfl rfl
set_option maxRecDepth 20000 in
theorem q167 : (Cond.selects RX2 yX2_versionAt yX2_versionAt) ∈ xTs := xTs_2 (i := 64) rfl rfl
set_option maxRecDepth 20000 in
theorem q168 : (Cond.code yX2_versionAt cX2_versionAt 2 (Option.some (Jvm.ClassFile.FieldType.object "ServiceApiary$Version"))) ∈ xTs := xTs_2 (i := 65) rfl rfl
set_option maxRecDepth 20000 in
theorem q169 : (Cond.methodLink RX6 103 yX5_suits) ∈ xTs := xTs_2 (i := 66) rfl rfl
set_option maxRecDepth 20000 in
theorem q170 : (Cond.instanceMethod yX5_suits) ∈ xTs := xTs_2 (i := 67) rfl rfl
set_option maxRecDepth 20000 in
theorem q171 : (Cond.selects RX5 yX5_suits yX5_suits) ∈ xTs := xTs_2 (i := 68) rfl rfl
set_option maxRecDepth 20000 in
theorem q172 : (Cond.code yX5_suits cX5_suits 2 (Option.some Jvm.ClassFile.FieldType.boolean)) ∈ xTs := xTs_2 (i := 69) rfl rfl
set_option maxRecDepth 20000 in
theorem q173 : (Cond.methodLink RL 54 yX6_ofVersion) ∈ xTs := xTs_2 (i := 70) rfl rfl
set_option maxRecDepth 20000 in
theorem q174 : (Cond.instanceMethod yX6_ofVersion) ∈ xTs := xTs_2 (i := 71) rfl rfl
set_option maxRecDepth 20000 in
theorem q175 : (Cond.selects RX6 yX6_ofVersion yX6_ofVersion) ∈ xTs := xTs_2 (i := 72) rfl rfl
set_option maxRecDepth 20000 in
theorem q176 : (Cond.code yX6_ofVersion cX6_ofVersion 5 (Option.some Jvm.ClassFile.FieldType.int)) ∈ xTs := xTs_2 (i := 73) rfl rfl
set_option maxRecDepth 20000 in
theorem q177 : (Cond.methodLink RX6 91 yX6_versionAt) ∈ xTs := xTs_2 (i := 74) rfl rfl
set_option maxRecDepth 20000 in
theorem q178 : (Cond.instanceMethod yX6_versionAt) ∈ xTs := xTs_2 (i := 76) rfl rfl
set_option maxRecDepth 20000 in
theorem q179 : (Cond.code yX6_versionAt cX6_versionAt 4 (Option.some (Jvm.ClassFile.FieldType.object "ServiceApiary$Version"))) ∈ xTs := xTs_2 (i := 77) rfl rfl
set_option maxRecDepth 20000 in
theorem q180 : (Cond.methodLink RX6 99 yX6_versionFact) ∈ xTs := xTs_2 (i := 80) rfl rfl
set_option maxRecDepth 20000 in
theorem q181 : (Cond.instanceMethod yX6_versionFact) ∈ xTs := xTs_2 (i := 82) rfl rfl
set_option maxRecDepth 20000 in
theorem q182 : (Cond.code yX6_versionFact cX6_versionFact 3 (Option.some Jvm.ClassFile.FieldType.int)) ∈ xTs := xTs_2 (i := 83) rfl rfl
set_option maxRecDepth 20000 in
theorem q183 : (Cond.methodLink RX6 290 yX6_countCallers) ∈ xTs := xTs_2 (i := 84) rfl rfl
set_option maxRecDepth 20000 in
theorem q184 : (Cond.instanceMethod yX6_countCallers) ∈ xTs := xTs_2 (i := 86) rfl rfl
set_option maxRecDepth 20000 in
theorem q185 : (Cond.code yX6_countCallers cX6_countCallers 5 (Option.some Jvm.ClassFile.FieldType.int)) ∈ xTs := xTs_2 (i := 87) rfl rfl
set_option maxRecDepth 20000 in
theorem q186 : (Cond.methodLink RX6 323 yX1_isCallerOf) ∈ xTs := xTs_2 (i := 88) rfl rfl
set_option maxRecDepth 20000 in
theorem q187 : (Cond.instanceMethod yX1_isCallerOf) ∈ xTs := xTs_2 (i := 89) rfl rfl
set_option maxRecDepth 20000 in
theorem q188 : (Cond.selects RX1 yX1_isCallerOf yX1_isCallerOf) ∈ xTs := xTs_2 (i := 90) rfl rfl
set_option maxRecDepth 20000 in
theorem q189 : (Cond.code yX1_isCallerOf cX1_isCallerOf 4 (Option.some Jvm.ClassFile.FieldType.boolean)) ∈ xTs := xTs_2 (i := 91) rfl rfl
set_option maxRecDepth 20000 in
theorem q190 : (Cond.methodLink RX1 45 yX1_calledAtOf) ∈ xTs := xTs_2 (i := 92) rfl rfl
set_option maxRecDepth 20000 in
theorem q191 : (Cond.instanceMethod yX1_calledAtOf) ∈ xTs := xTs_2 (i := 93) rfl rfl
set_option maxRecDepth 20000 in
theorem q192 : (Cond.selects RX1 yX1_calledAtOf yX1_calledAtOf) ∈ xTs := xTs_2 (i := 94) rfl rfl
set_option maxRecDepth 20000 in
theorem q193 : (Cond.code yX1_calledAtOf cX1_calledAtOf 3 (Option.some Jvm.ClassFile.FieldType.int)) ∈ xTs := xTs_2 (i := 95) rfl rfl
set_option maxRecDepth 20000 in
theorem q194 : (Cond.methodLink RX6 293 yX6_countHinderers) ∈ xTs := xTs_2 (i := 96) rfl rfl
set_option maxRecDepth 20000 in
theorem q195 : (Cond.instanceMethod yX6_countHinderers) ∈ xTs := xTs_2 (i := 98) rfl rfl
set_option maxRecDepth 20000 in
theorem q196 : (Cond.code yX6_countHinderers cX6_countHinderers 8 (Option.some Jvm.ClassFile.FieldType.int)) ∈ xTs := xTs_2 (i := 99) rfl rfl
set_option maxRecDepth 20000 in
theorem q197 : (Cond.methodLink RX6 228 yX3_isWarned) ∈ xTs := xTs_2 (i := 100) rfl rfl
set_option maxRecDepth 20000 in
theorem q198 : (Cond.instanceMethod yX3_isWarned) ∈ xTs := xTs_2 (i := 101) rfl rfl
set_option maxRecDepth 20000 in
theorem q199 : (Cond.selects RX3 yX3_isWarned yX3_isWarned) ∈ xTs := xTs_2 (i := 102) rfl rfl
set_option maxRecDepth 20000 in
theorem q200 : (Cond.code yX3_isWarned cX3_isWarned 4 (Option.some Jvm.ClassFile.FieldType.boolean)) ∈ xTs := xTs_2 (i := 103) rfl rfl
set_option maxRecDepth 20000 in
theorem q201 : (Cond.methodLink RX3 34 yX3_askedAtOf) ∈ xTs := xTs_2 (i := 104) rfl rfl
set_option maxRecDepth 20000 in
theorem q202 : (Cond.instanceMethod yX3_askedAtOf) ∈ xTs := xTs_2 (i := 105) rfl rfl
set_option maxRecDepth 20000 in
theorem q203 : (Cond.selects RX3 yX3_askedAtOf yX3_askedAtOf) ∈ xTs := xTs_2 (i := 106) rfl rfl
set_option maxRecDepth 20000 in
theorem q204 : (Cond.code yX3_askedAtOf cX3_askedAtOf 2 (Option.some Jvm.ClassFile.FieldType.int)) ∈ xTs := xTs_2 (i := 107) rfl rfl
set_option maxRecDepth 20000 in
theorem q205 : (Cond.methodLink RX3 38 yX3_hasAnswered) ∈ xTs := xTs_2 (i := 108) rfl rfl
set_option maxRecDepth 20000 in
theorem q206 : (Cond.instanceMethod yX3_hasAnswered) ∈ xTs := xTs_2 (i := 109) rfl rfl
set_option maxRecDepth 20000 in
theorem q207 : (Cond.selects RX3 yX3_hasAnswered yX3_hasAnswered) ∈ xTs := xTs_2 (i := 110) rfl rfl
set_option maxRecDepth 20000 in
theorem q208 : (Cond.code yX3_hasAnswered cX3_hasAnswered 2 (Option.some Jvm.ClassFile.FieldType.boolean)) ∈ xTs := xTs_2 (i := 111) rfl rfl
set_option maxRecDepth 20000 in
theorem q209 : (Cond.methodLink RX6 394 yX6_isCallerThen) ∈ xTs := xTs_2 (i := 112) rfl rfl
set_option maxRecDepth 20000 in
theorem q210 : (Cond.instanceMethod yX6_isCallerThen) ∈ xTs := xTs_2 (i := 114) rfl rfl
set_option maxRecDepth 20000 in
theorem q211 : (Cond.code yX6_isCallerThen cX6_isCallerThen 5 (Option.some Jvm.ClassFile.FieldType.boolean)) ∈ xTs := xTs_2 (i := 115) rfl rfl
set_option maxRecDepth 20000 in
theorem q212 : (Cond.methodLink RX6 338 yX6_findRoute) ∈ xTs := xTs_2 (i := 116) rfl rfl
set_option maxRecDepth 20000 in
theorem q213 : (Cond.instanceMethod yX6_findRoute) ∈ xTs := xTs_2 (i := 118) rfl rfl
set_option maxRecDepth 20000 in
theorem q214 : (Cond.code yX6_findRoute cX6_findRoute 5 (Option.some Jvm.ClassFile.FieldType.boolean)) ∈ xTs := xTs_2 (i := 119) rfl rfl
set_option maxRecDepth 20000 in
theorem q215 : (Cond.methodLink RX6 345 yX6_completes) ∈ xTs := xTs_2 (i := 120) rfl rfl
set_option maxRecDepth 20000 in
theorem q216 : (Cond.static yX6_completes) ∈ xTs := xTs_2 (i := 121) rfl rfl
set_option maxRecDepth 20000 in
theorem q217 : (Cond.code yX6_completes cX6_completes 7 (Option.some Jvm.ClassFile.FieldType.boolean)) ∈ xTs := xTs_2 (i := 122) rfl rfl
set_option maxRecDepth 20000 in
theorem q218 : (Cond.methodLink RX6 120 yX6_fits) ∈ xTs := xTs_2 (i := 123) rfl rfl
set_option maxRecDepth 20000 in
theorem q219 : (Cond.static yX6_fits) ∈ xTs := xTs_2 (i := 124) rfl rfl
set_option maxRecDepth 20000 in
theorem q220 : (Cond.code yX6_fits cX6_fits 3 (Option.some Jvm.ClassFile.FieldType.boolean)) ∈ xTs := xTs_2 (i := 125) rfl rfl
set_option maxRecDepth 20000 in
theorem q221 : (Cond.methodLink RX6 355 yX0_makesOf) ∈ xTs := xTs_2 (i := 126) rfl rfl
set_option maxRecDepth 20000 in
theorem q222 : (Cond.instanceMethod yX0_makesOf) ∈ xTs := xTs_2 (i := 127) rfl rfl
set_option maxRecDepth 20000 in
theorem q223 : (Cond.selects RX0 yX0_makesOf yX0_makesOf) ∈ xTs := xTs_2 (i := 128) rfl rfl
set_option maxRecDepth 20000 in
theorem q224 : (Cond.code yX0_makesOf cX0_makesOf 2 (Option.some Jvm.ClassFile.FieldType.int)) ∈ xTs := xTs_2 (i := 129) rfl rfl
set_option maxRecDepth 20000 in
theorem q225 : (Cond.methodLink RX6 302 yX6_countGeneratedFor) ∈ xTs := xTs_2 (i := 130) rfl rfl
set_option maxRecDepth 20000 in
theorem q226 : (Cond.instanceMethod yX6_countGeneratedFor) ∈ xTs := xTs_2 (i := 132) rfl rfl
set_option maxRecDepth 20000 in
theorem q227 : (Cond.code yX6_countGeneratedFor cX6_countGeneratedFor 5 (Option.some Jvm.ClassFile.FieldType.int)) ∈ xTs := xTs_2 (i := 133) rfl rfl
set_option maxRecDepth 20000 in
theorem q228 : (Cond.methodLink RL 81 yX6_isCompatible) ∈ xTs := xTs_2 (i := 134) rfl rfl
set_option maxRecDepth 20000 in
theorem q229 : (Cond.instanceMethod yX6_isCompatible) ∈ xTs := xTs_2 (i := 135) rfl rfl
set_option maxRecDepth 20000 in
theorem q230 : (Cond.selects RX6 yX6_isCompatible yX6_isCompatible) ∈ xTs := xTs_2 (i := 136) rfl rfl
set_option maxRecDepth 20000 in
theorem q231 : (Cond.code yX6_isCompatible cX6_isCompatible 6 (Option.some Jvm.ClassFile.FieldType.boolean)) ∈ xTs := xTs_2 (i := 137) rfl rfl
set_option maxRecDepth 20000 in
theorem q232 : (Cond.methodLink RL 30 yX6_client) ∈ xTs := xTs_2 (i := 138) rfl rfl
set_option maxRecDepth 20000 in
theorem q233 : (Cond.instanceMethod yX6_client) ∈ xTs := xTs_2 (i := 139) rfl rfl
set_option maxRecDepth 20000 in
theorem q234 : (Cond.selects RX6 yX6_client yX6_client) ∈ xTs := xTs_2 (i := 140) rfl rfl
set_option maxRecDepth 20000 in
theorem q235 : (Cond.code yX6_client cX6_client 6 (Option.some Jvm.ClassFile.FieldType.int)) ∈ xTs := xTs_2 (i := 141) rfl rfl
set_option maxRecDepth 20000 in
theorem q236 : (Cond.methodLink RX6 107 yX6_isOwner) ∈ xTs := xTs_2 (i := 142) rfl rfl
set_option maxRecDepth 20000 in
theorem q237 : (Cond.static yX6_isOwner) ∈ xTs := xTs_2 (i := 143) rfl rfl
set_option maxRecDepth 20000 in
theorem q238 : (Cond.code yX6_isOwner cX6_isOwner 1 (Option.some Jvm.ClassFile.FieldType.boolean)) ∈ xTs := xTs_2 (i := 144) rfl rfl
set_option maxRecDepth 20000 in
theorem q239 : (Cond.instantiable RX1 8) ∈ xTs := xTs_2 (i := 147) rfl rfl
set_option maxRecDepth 20000 in
theorem q240 : (Cond.methodLink RX6 134 yX1_init) ∈ xTs := xTs_2 (i := 148) rfl rfl
set_option maxRecDepth 20000 in
theorem q241 : (Cond.instanceMethod yX1_init) ∈ xTs := xTs_2 (i := 149) rfl rfl
set_option maxRecDepth 20000 in
theorem q242 : (Cond.code yX1_init cX1_init 4 (Option.none : Option Jvm.ClassFile.FieldType)) ∈ xTs := xTs_2 (i := 150) rfl rfl
set_option maxRecDepth 20000 in
theorem q243 : (Cond.methodLink RX1 3 objectInit) ∈ xTs := xTs_2 (i := 151) rfl rfl
set_option maxRecDepth 20000 in
theorem q244 : (Cond.methodLink RX1 36 yJ7_fill_53178) ∈ xTs := xTs_2 (i := 152) rfl rfl
set_option maxRecDepth 20000 in
theorem q245 : (Cond.fieldLink RX1 18 "ServiceApiary$Client" "owner" "I") ∈ xTs := xTs_2 (i := 153) rfl rfl
set_option maxRecDepth 20000 in
theorem q246 : (Cond.fieldLink RX6 305 "ServiceApiary$Client" "owner" "I") ∈ xTs := xTs_2 (i := 154) rfl rfl
set_option maxRecDepth 20000 in
theorem q247 : (Cond.fieldLink RX1 28 "ServiceApiary$Client" "face" "LServiceApiary$Face;") ∈ xTs := xTs_2 (i := 155) rfl rfl
set_option maxRecDepth 20000 in
theorem q248 : (Cond.fieldLink RX6 141 "ServiceApiary$Client" "face" "LServiceApiary$Face;") ∈ xTs := xTs_2 (i := 156) rfl rfl
set_option maxRecDepth 20000 in
theorem q249 : (Cond.fieldLink RX1 9 "ServiceApiary$Client" "calledAt" "[I") ∈ xTs := xTs_2 (i := 157) rfl rfl
set_option maxRecDepth 20000 in
theorem q250 : (Cond.fieldLink RX1 15 "ServiceApiary$Client" "servedThisHour" "[I") ∈ xTs := xTs_2 (i := 158) rfl rfl
set_option maxRecDepth 20000 in
theorem q251 : (Cond.fieldLink RX6 378 "ServiceApiary$Client" "servedThisHour" "[I") ∈ xTs := xTs_2 (i := 159) rfl rfl
set_option maxRecDepth 20000 in
theorem q252 : (Cond.fieldLink RX1 29 "ServiceApiary$Client" "version" "LServiceApiary$Version;") ∈ xTs := xTs_2 (i := 160) rfl rfl
set_option maxRecDepth 20000 in
theorem q253 : (Cond.fieldLink RX6 159 "ServiceApiary$Client" "version" "LServiceApiary$Version;") ∈ xTs := xTs_2 (i := 161) rfl rfl
set_option maxRecDepth 20000 in
theorem q254 : (Cond.fieldLink RX1 33 "ServiceApiary$Client" "uses" "I") ∈ xTs := xTs_2 (i := 162) rfl rfl
set_option maxRecDepth 20000 in
theorem q255 : (Cond.fieldLink RX6 152 "ServiceApiary$Client" "uses" "I") ∈ xTs := xTs_2 (i := 163) rfl rfl
set_option maxRecDepth 20000 in
theorem q256 : (Cond.fieldLink RX1 49 "ServiceApiary$Client" "callCount" "I") ∈ xTs := xTs_2 (i := 164) rfl rfl
set_option maxRecDepth 20000 in
theorem q257 : (Cond.fieldLink RX6 309 "ServiceApiary$Client" "callCount" "I") ∈ xTs := xTs_2 (i := 165) rfl rfl
set_option maxRecDepth 20000 in
theorem q258 : (Cond.fieldLink RX1 52 "ServiceApiary$Client" "refusedCount" "I") ∈ xTs := xTs_2 (i := 166) rfl rfl
set_option maxRecDepth 20000 in
theorem q259 : (Cond.fieldLink RX6 310 "ServiceApiary$Client" "refusedCount" "I") ∈ xTs := xTs_2 (i := 167) rfl rfl
set_option maxRecDepth 20000 in
theorem q260 : (Cond.laysFinal "ServiceApiary$Client" "ServiceApiary$Client" "owner" "I") ∈ xTs := xTs_2 (i := 168) rfl rfl
set_option maxRecDepth 20000 in
theorem q261 : (Cond.laysFinal "ServiceApiary$Client" "ServiceApiary$Client" "face" "LServiceApiary$Face;") ∈ xTs := xTs_2 (i := 170) rfl rfl
set_option maxRecDepth 20000 in
theorem q262 : (Cond.laysFinal "ServiceApiary$Client" "ServiceApiary$Client" "calledAt" "[I") ∈ xTs := xTs_2 (i := 172) rfl rfl
set_option maxRecDepth 20000 in
theorem q263 : (Cond.laysFinal "ServiceApiary$Client" "ServiceApiary$Client" "servedThisHour" "[I") ∈ xTs := xTs_2 (i := 174) rfl rfl
set_option maxRecDepth 20000 in
theorem q264 : (Cond.lays "ServiceApiary$Client" "ServiceApiary$Client" "version" "LServiceApiary$Version;") ∈ xTs := xTs_2 (i := 176) rfl rfl
set_option maxRecDepth 20000 in
theorem q265 : (Cond.lays "ServiceApiary$Client" "ServiceApiary$Client" "uses" "I") ∈ xTs := xTs_2 (i := 178) rfl rfl
set_option maxRecDepth 20000 in
theorem q266 : (Cond.lays "ServiceApiary$Client" "ServiceApiary$Client" "callCount" "I") ∈ xTs := xTs_2 (i := 180) rfl rfl
set_option maxRecDepth 20000 in
theorem q267 : (Cond.lays "ServiceApiary$Client" "ServiceApiary$Client" "refusedCount" "I") ∈ xTs := xTs_2 (i := 182) rfl rfl
set_option maxRecDepth 20000 in
theorem q268 : (Cond.methodLink RL 70 yX6_again) ∈ xTs := xTs_2 (i := 185) rfl rfl
set_option maxRecDepth 20000 in
theorem q269 : (Cond.instanceMethod yX6_again) ∈ xTs := xTs_2 (i := 186) rfl rfl
set_option maxRecDepth 20000 in
theorem q270 : (Cond.selects RX6 yX6_again yX6_again) ∈ xTs := xTs_2 (i := 187) rfl rfl
set_option maxRecDepth 20000 in
theorem q271 : (Cond.code yX6_again cX6_again 5 (Option.some Jvm.ClassFile.FieldType.int)) ∈ xTs := xTs_2 (i := 188) rfl rfl
set_option maxRecDepth 20000 in
theorem q272 : (Cond.methodLink RX6 137 yX6_clientAt) ∈ xTs := xTs_2 (i := 189) rfl rfl
set_option maxRecDepth 20000 in
theorem q273 : (Cond.instanceMethod yX6_clientAt) ∈ xTs := xTs_2 (i := 191) rfl rfl
set_option maxRecDepth 20000 in
theorem q274 : (Cond.code yX6_clientAt cX6_clientAt 2 (Option.some (Jvm.ClassFile.FieldType.object "ServiceApiary$Client"))) ∈ xTs := xTs_2 (i := 192) rfl rfl
set_option maxRecDepth 20000 in
theorem q275 : (Cond.methodLink RX6 155 yX5_usesAgain) ∈ xTs := xTs_2 (i := 195) rfl rfl
set_option maxRecDepth 20000 in
theorem q276 : (Cond.instanceMethod yX5_usesAgain) ∈ xTs := xTs_2 (i := 196) rfl rfl
set_option maxRecDepth 20000 in
theorem q277 : (Cond.selects RX5 yX5_usesAgain yX5_usesAgain) ∈ xTs := xTs_2 (i := 197) rfl rfl
set_option maxRecDepth 20000 in
theorem q278 : (Cond.code yX5_usesAgain cX5_usesAgain 2 (Option.some Jvm.ClassFile.FieldType.int)) ∈ xTs := xTs_2 (i := 198) rfl rfl
set_option maxRecDepth 20000 in
theorem q279 : (Cond.methodLink RL 34 yX6_adapter) ∈ xTs := xTs_2 (i := 199) rfl rfl
set_option maxRecDepth 20000 in
theorem q280 : (Cond.instanceMethod yX6_adapter) ∈ xTs := xTs_2 (i := 200) rfl rfl
set_option maxRecDepth 20000 in
theorem q281 : (Cond.selects RX6 yX6_adapter yX6_adapter) ∈ xTs := xTs_2 (i := 201) rfl rfl
set_option maxRecDepth 20000 in
theorem q282 : (Cond.code yX6_adapter cX6_adapter 8 (Option.some Jvm.ClassFile.FieldType.int)) ∈ xTs := xTs_2 (i := 202) rfl rfl
set_option maxRecDepth 20000 in
theorem q283 : (Cond.instantiable RX0 4) ∈ xTs := xTs_2 (i := 205) rfl rfl
set_option maxRecDepth 20000 in
theorem q284 : (Cond.methodLink RX6 170 yX0_init) ∈ xTs := xTs_2 (i := 206) rfl rfl
set_option maxRecDepth 20000 in
theorem q285 : (Cond.instanceMethod yX0_init) ∈ xTs := xTs_2 (i := 207) rfl rfl
set_option maxRecDepth 20000 in
theorem q286 : (Cond.code yX0_init cX0_init 5 (Option.none : Option Jvm.ClassFile.FieldType)) ∈ xTs := xTs_2 (i := 208) rfl rfl
set_option maxRecDepth 20000 in
theorem q287 : (Cond.methodLink RX0 1 objectInit) ∈ xTs := xTs_2 (i := 209) rfl rfl
set_option maxRecDepth 20000 in
theorem q288 : (Cond.fieldLink RX0 7 "ServiceApiary$Adapter" "from" "LServiceApiary$Version;") ∈ xTs := xTs_2 (i := 210) rfl rfl
set_option maxRecDepth 20000 in
theorem q289 : (Cond.fieldLink RX6 349 "ServiceApiary$Adapter" "from" "LServiceApiary$Version;") ∈ xTs := xTs_2 (i := 211) rfl rfl
set_option maxRecDepth 20000 in
theorem q290 : (Cond.fieldLink RX0 13 "ServiceApiary$Adapter" "to" "LServiceApiary$Version;") ∈ xTs := xTs_2 (i := 212) rfl rfl
set_option maxRecDepth 20000 in
theorem q291 : (Cond.fieldLink RX6 352 "ServiceApiary$Adapter" "to" "LServiceApiary$Version;") ∈ xTs := xTs_2 (i := 213) rfl rfl
set_option maxRecDepth 20000 in
theorem q292 : (Cond.fieldLink RX0 16 "ServiceApiary$Adapter" "adds" "I") ∈ xTs := xTs_2 (i := 214) rfl rfl
set_option maxRecDepth 20000 in
theorem q293 : (Cond.fieldLink RX0 20 "ServiceApiary$Adapter" "drops" "I") ∈ xTs := xTs_2 (i := 215) rfl rfl
set_option maxRecDepth 20000 in
theorem q294 : (Cond.laysFinal "ServiceApiary$Adapter" "ServiceApiary$Adapter" "from" "LServiceApiary$Version;") ∈ xTs := xTs_2 (i := 216) rfl rfl
set_option maxRecDepth 20000 in
theorem q295 : (Cond.laysFinal "ServiceApiary$Adapter" "ServiceApiary$Adapter" "to" "LServiceApiary$Version;") ∈ xTs := xTs_2 (i := 218) rfl rfl
set_option maxRecDepth 20000 in
theorem q296 : (Cond.laysFinal "ServiceApiary$Adapter" "ServiceApiary$Adapter" "adds" "I") ∈ xTs := xTs_2 (i := 220) rfl rfl
set_option maxRecDepth 20000 in
theorem q297 : (Cond.laysFinal "ServiceApiary$Adapter" "ServiceApiary$Adapter" "drops" "I") ∈ xTs := xTs_2 (i := 222) rfl rfl
set_option maxRecDepth 20000 in
theorem q298 : (Cond.methodLink RL 48 yX6_ofClient) ∈ xTs := xTs_2 (i := 225) rfl rfl
set_option maxRecDepth 20000 in
theorem q299 : (Cond.instanceMethod yX6_ofClient) ∈ xTs := xTs_2 (i := 226) rfl rfl
set_option maxRecDepth 20000 in
theorem q300 : (Cond.selects RX6 yX6_ofClient yX6_ofClient) ∈ xTs := xTs_2 (i := 227) rfl rfl
set_option maxRecDepth 20000 in
theorem q301 : (Cond.code yX6_ofClient cX6_ofClient 4 (Option.some Jvm.ClassFile.FieldType.int)) ∈ xTs := xTs_2 (i := 228) rfl rfl
set_option maxRecDepth 20000 in
theorem q302 : (Cond.methodLink RX6 177 yX6_clientFact) ∈ xTs := xTs_2 (i := 231) rfl rfl
set_option maxRecDepth 20000 in
theorem q303 : (Cond.instanceMethod yX6_clientFact) ∈ xTs := xTs_2 (i := 233) rfl rfl
set_option maxRecDepth 20000 in
theorem q304 : (Cond.code yX6_clientFact cX6_clientFact 3 (Option.some Jvm.ClassFile.FieldType.int)) ∈ xTs := xTs_2 (i := 234) rfl rfl
set_option maxRecDepth 20000 in
theorem q305 : (Cond.methodLink RX6 181 yX6_findOwnRoute) ∈ xTs := xTs_2 (i := 235) rfl rfl
set_option maxRecDepth 20000 in
theorem q306 : (Cond.instanceMethod yX6_findOwnRoute) ∈ xTs := xTs_2 (i := 237) rfl rfl
set_option maxRecDepth 20000 in
theorem q307 : (Cond.code yX6_findOwnRoute cX6_findOwnRoute 2 (Option.some Jvm.ClassFile.FieldType.boolean)) ∈ xTs := xTs_2 (i := 238) rfl rfl
set_option maxRecDepth 20000 in
theorem q308 : (Cond.methodLink RL 45 yX6_call) ∈ xTs := xTs_2 (i := 239) rfl rfl
set_option maxRecDepth 20000 in
theorem q309 : (Cond.instanceMethod yX6_call) ∈ xTs := xTs_3 (i := 0) rfl rfl
set_option maxRecDepth 20000 in
theorem q310 : (Cond.selects RX6 yX6_call yX6_call) ∈ xTs := xTs_3 (i := 1) rfl rfl
set_option maxRecDepth 20000 in
theorem q311 : (Cond.code yX6_call cX6_call 6 (Option.some Jvm.ClassFile.FieldType.int)) ∈ xTs := xTs_3 (i := 2) rfl rfl
set_option maxRecDepth 20000 in
theorem q312 : (Cond.methodLink RX6 196 yX6_isServedCall) ∈ xTs := xTs_3 (i := 4) rfl rfl
set_option maxRecDepth 20000 in
theorem q313 : (Cond.instanceMethod yX6_isServedCall) ∈ xTs := xTs_3 (i := 6) rfl rfl
set_option maxRecDepth 20000 in
theorem q314 : (Cond.code yX6_isServedCall cX6_isServedCall 5 (Option.some Jvm.ClassFile.FieldType.boolean)) ∈ xTs := xTs_3 (i := 7) rfl rfl
set_option maxRecDepth 20000 in
theorem q315 : (Cond.methodLink RX6 358 yX3_ask) ∈ xTs := xTs_3 (i := 8) rfl rfl
set_option maxRecDepth 20000 in
theorem q316 : (Cond.instanceMethod yX3_ask) ∈ xTs := xTs_3 (i := 9) rfl rfl
set_option maxRecDepth 20000 in
theorem q317 : (Cond.selects RX3 yX3_ask yX3_ask) ∈ xTs := xTs_3 (i := 10) rfl rfl
set_option maxRecDepth 20000 in
theorem q318 : (Cond.code yX3_ask cX3_ask 3 (Option.some Jvm.ClassFile.FieldType.boolean)) ∈ xTs := xTs_3 (i := 11) rfl rfl
set_option maxRecDepth 20000 in
theorem q319 : (Cond.methodLink RX6 361 yX1_servedThisHourBy) ∈ xTs := xTs_3 (i := 12) rfl rfl
set_option maxRecDepth 20000 in
theorem q320 : (Cond.instanceMethod yX1_servedThisHourBy) ∈ xTs := xTs_3 (i := 13) rfl rfl
set_option maxRecDepth 20000 in
theorem q321 : (Cond.selects RX1 yX1_servedThisHourBy yX1_servedThisHourBy) ∈ xTs := xTs_3 (i := 14) rfl rfl
set_option maxRecDepth 20000 in
theorem q322 : (Cond.code yX1_servedThisHourBy cX1_servedThisHourBy 3 (Option.some Jvm.ClassFile.FieldType.int)) ∈ xTs := xTs_3 (i := 15) rfl rfl
set_option maxRecDepth 20000 in
theorem q323 : (Cond.methodLink RX6 364 yX6_outcomeOf) ∈ xTs := xTs_3 (i := 16) rfl rfl
set_option maxRecDepth 20000 in
theorem q324 : (Cond.instanceMethod yX6_outcomeOf) ∈ xTs := xTs_3 (i := 18) rfl rfl
set_option maxRecDepth 20000 in
theorem q325 : (Cond.code yX6_outcomeOf cX6_outcomeOf 6 (Option.some Jvm.ClassFile.FieldType.int)) ∈ xTs := xTs_3 (i := 19) rfl rfl
set_option maxRecDepth 20000 in
theorem q326 : (Cond.methodLink RX6 372 yX3_isBrownedOut) ∈ xTs := xTs_3 (i := 20) rfl rfl
set_option maxRecDepth 20000 in
theorem q327 : (Cond.instanceMethod yX3_isBrownedOut) ∈ xTs := xTs_3 (i := 21) rfl rfl
set_option maxRecDepth 20000 in
theorem q328 : (Cond.selects RX3 yX3_isBrownedOut yX3_isBrownedOut) ∈ xTs := xTs_3 (i := 22) rfl rfl
set_option maxRecDepth 20000 in
theorem q329 : (Cond.code yX3_isBrownedOut cX3_isBrownedOut 3 (Option.some Jvm.ClassFile.FieldType.boolean)) ∈ xTs := xTs_3 (i := 23) rfl rfl
set_option maxRecDepth 20000 in
theorem q330 : (Cond.methodLink RX6 375 yX3_quota) ∈ xTs := xTs_3 (i := 24) rfl rfl
set_option maxRecDepth 20000 in
theorem q331 : (Cond.instanceMethod yX3_quota) ∈ xTs := xTs_3 (i := 25) rfl rfl
set_option maxRecDepth 20000 in
theorem q332 : (Cond.selects RX3 yX3_quota yX3_quota) ∈ xTs := xTs_3 (i := 26) rfl rfl
set_option maxRecDepth 20000 in
theorem q333 : (Cond.code yX3_quota cX3_quota 2 (Option.some Jvm.ClassFile.FieldType.int)) ∈ xTs := xTs_3 (i := 27) rfl rfl
set_option maxRecDepth 20000 in
theorem q334 : (Cond.methodLink RX3 42 Lib.Math.max.name) ∈ xTs := xTs_3 (i := 28) rfl rfl
set_option maxRecDepth 20000 in
theorem q335 : (Cond.static Lib.Math.max.name) ∈ xTs := xTs_3 (i := 29) rfl rfl
set_option maxRecDepth 20000 in
theorem q336 : (Cond.code Lib.Math.max.name Lib.Math.max.code 2 (some .int)) ∈ xTs := xTs_3 (i := 30) rfl rfl
set_option maxRecDepth 20000 in
theorem q337 : (Cond.methodLink RX6 368 yX1_noteCall) ∈ xTs := xTs_3 (i := 31) rfl rfl
set_option maxRecDepth 20000 in
theorem q338 : (Cond.instanceMethod yX1_noteCall) ∈ xTs := xTs_3 (i := 32) rfl rfl
set_option maxRecDepth 20000 in
theorem q339 : (Cond.selects RX1 yX1_noteCall yX1_noteCall) ∈ xTs := xTs_3 (i := 33) rfl rfl
set_option maxRecDepth 20000 in
theorem q340 : (Cond.code yX1_noteCall cX1_noteCall 4 (Option.none : Option Jvm.ClassFile.FieldType)) ∈ xTs := xTs_3 (i := 34) rfl rfl
set_option maxRecDepth 20000 in
theorem q341 : (Cond.methodLink RL 51 yX6_lastCall) ∈ xTs := xTs_3 (i := 35) rfl rfl
set_option maxRecDepth 20000 in
theorem q342 : (Cond.instanceMethod yX6_lastCall) ∈ xTs := xTs_3 (i := 36) rfl rfl
set_option maxRecDepth 20000 in
theorem q343 : (Cond.selects RX6 yX6_lastCall yX6_lastCall) ∈ xTs := xTs_3 (i := 37) rfl rfl
set_option maxRecDepth 20000 in
theorem q344 : (Cond.code yX6_lastCall cX6_lastCall 5 (Option.some Jvm.ClassFile.FieldType.int)) ∈ xTs := xTs_3 (i := 38) rfl rfl
set_option maxRecDepth 20000 in
theorem q345 : (Cond.methodLink RX6 205 yX6_hoursSinceCall) ∈ xTs := xTs_3 (i := 39) rfl rfl
set_option maxRecDepth 20000 in
theorem q346 : (Cond.instanceMethod yX6_hoursSinceCall) ∈ xTs := xTs_3 (i := 41) rfl rfl
set_option maxRecDepth 20000 in
theorem q347 : (Cond.code yX6_hoursSinceCall cX6_hoursSinceCall 4 (Option.some Jvm.ClassFile.FieldType.int)) ∈ xTs := xTs_3 (i := 42) rfl rfl
set_option maxRecDepth 20000 in
theorem q348 : (Cond.methodLink RX6 327 yX1_calledAtOf) ∈ xTs := xTs_3 (i := 43) rfl rfl
set_option maxRecDepth 20000 in
theorem q349 : (Cond.methodLink RL 57 yX6_retire) ∈ xTs := xTs_3 (i := 44) rfl rfl
set_option maxRecDepth 20000 in
theorem q350 : (Cond.instanceMethod yX6_retire) ∈ xTs := xTs_3 (i := 45) rfl rfl
set_option maxRecDepth 20000 in
theorem q351 : (Cond.selects RX6 yX6_retire yX6_retire) ∈ xTs := xTs_3 (i := 46) rfl rfl
set_option maxRecDepth 20000 in
theorem q352 : (Cond.code yX6_retire cX6_retire 5 (Option.some Jvm.ClassFile.FieldType.int)) ∈ xTs := xTs_3 (i := 47) rfl rfl
set_option maxRecDepth 20000 in
theorem q353 : (Cond.methodLink RX6 214 yX6_startRetirement) ∈ xTs := xTs_3 (i := 49) rfl rfl
set_option maxRecDepth 20000 in
theorem q354 : (Cond.instanceMethod yX6_startRetirement) ∈ xTs := xTs_3 (i := 51) rfl rfl
set_option maxRecDepth 20000 in
theorem q355 : (Cond.code yX6_startRetirement cX6_startRetirement 7 (Option.some Jvm.ClassFile.FieldType.int)) ∈ xTs := xTs_3 (i := 52) rfl rfl
set_option maxRecDepth 20000 in
theorem q356 : (Cond.methodLink RX6 390 yX3_start) ∈ xTs := xTs_3 (i := 53) rfl rfl
set_option maxRecDepth 20000 in
theorem q357 : (Cond.instanceMethod yX3_start) ∈ xTs := xTs_3 (i := 54) rfl rfl
set_option maxRecDepth 20000 in
theorem q358 : (Cond.selects RX3 yX3_start yX3_start) ∈ xTs := xTs_3 (i := 55) rfl rfl
set_option maxRecDepth 20000 in
theorem q359 : (Cond.code yX3_start cX3_start 3 (Option.none : Option Jvm.ClassFile.FieldType)) ∈ xTs := xTs_3 (i := 56) rfl rfl
set_option maxRecDepth 20000 in
theorem q360 : (Cond.methodLink RX3 28 yX3_clear) ∈ xTs := xTs_3 (i := 57) rfl rfl
set_option maxRecDepth 20000 in
theorem q361 : (Cond.instanceMethod yX3_clear) ∈ xTs := xTs_3 (i := 58) rfl rfl
set_option maxRecDepth 20000 in
theorem q362 : (Cond.selects RX3 yX3_clear yX3_clear) ∈ xTs := xTs_3 (i := 59) rfl rfl
set_option maxRecDepth 20000 in
theorem q363 : (Cond.code yX3_clear cX3_clear 1 (Option.none : Option Jvm.ClassFile.FieldType)) ∈ xTs := xTs_3 (i := 60) rfl rfl
set_option maxRecDepth 20000 in
theorem q364 : (Cond.methodLink RL 63 yX6_answer) ∈ xTs := xTs_3 (i := 61) rfl rfl
set_option maxRecDepth 20000 in
theorem q365 : (Cond.instanceMethod yX6_answer) ∈ xTs := xTs_3 (i := 62) rfl rfl
set_option maxRecDepth 20000 in
theorem q366 : (Cond.selects RX6 yX6_answer yX6_answer) ∈ xTs := xTs_3 (i := 63) rfl rfl
set_option maxRecDepth 20000 in
theorem q367 : (Cond.code yX6_answer cX6_answer 6 (Option.some Jvm.ClassFile.FieldType.boolean)) ∈ xTs := xTs_3 (i := 64) rfl rfl
set_option maxRecDepth 20000 in
theorem q368 : (Cond.methodLink RX6 220 yX3_askedAtOf) ∈ xTs := xTs_3 (i := 66) rfl rfl
set_option maxRecDepth 20000 in
theorem q369 : (Cond.methodLink RL 60 yX6_asked) ∈ xTs := xTs_3 (i := 68) rfl rfl
set_option maxRecDepth 20000 in
theorem q370 : (Cond.instanceMethod yX6_asked) ∈ xTs := xTs_3 (i := 69) rfl rfl
set_option maxRecDepth 20000 in
theorem q371 : (Cond.selects RX6 yX6_asked yX6_asked) ∈ xTs := xTs_3 (i := 70) rfl rfl
set_option maxRecDepth 20000 in
theorem q372 : (Cond.code yX6_asked cX6_asked 5 (Option.some Jvm.ClassFile.FieldType.int)) ∈ xTs := xTs_3 (i := 71) rfl rfl
set_option maxRecDepth 20000 in
theorem q373 : (Cond.methodLink RX6 242 yX6_askedState) ∈ xTs := xTs_3 (i := 72) rfl rfl
set_option maxRecDepth 20000 in
theorem q374 : (Cond.instanceMethod yX6_askedState) ∈ xTs := xTs_3 (i := 74) rfl rfl
set_option maxRecDepth 20000 in
theorem q375 : (Cond.code yX6_askedState cX6_askedState 4 (Option.some Jvm.ClassFile.FieldType.int)) ∈ xTs := xTs_3 (i := 75) rfl rfl
set_option maxRecDepth 20000 in
theorem q376 : (Cond.methodLink RX6 330 yX3_hasAnswered) ∈ xTs := xTs_3 (i := 76) rfl rfl
set_option maxRecDepth 20000 in
theorem q377 : (Cond.methodLink RL 41 yX6_many) ∈ xTs := xTs_3 (i := 77) rfl rfl
set_option maxRecDepth 20000 in
theorem q378 : (Cond.instanceMethod yX6_many) ∈ xTs := xTs_3 (i := 78) rfl rfl
set_option maxRecDepth 20000 in
theorem q379 : (Cond.selects RX6 yX6_many yX6_many) ∈ xTs := xTs_3 (i := 79) rfl rfl
set_option maxRecDepth 20000 in
theorem q380 : (Cond.code yX6_many cX6_many 2 (Option.some Jvm.ClassFile.FieldType.int)) ∈ xTs := xTs_3 (i := 80) rfl rfl
set_option maxRecDepth 20000 in
theorem q381 : (Cond.methodLink RX6 246 yX6_countOf) ∈ xTs := xTs_3 (i := 81) rfl rfl
set_option maxRecDepth 20000 in
theorem q382 : (Cond.instanceMethod yX6_countOf) ∈ xTs := xTs_3 (i := 83) rfl rfl
set_option maxRecDepth 20000 in
theorem q383 : (Cond.code yX6_countOf cX6_countOf 2 (Option.some Jvm.ClassFile.FieldType.int)) ∈ xTs := xTs_3 (i := 84) rfl rfl
set_option maxRecDepth 20000 in
theorem q384 : (Cond.methodLink RX6 317 yX6_countVersions) ∈ xTs := xTs_3 (i := 85) rfl rfl
set_option maxRecDepth 20000 in
theorem q385 : (Cond.instanceMethod yX6_countVersions) ∈ xTs := xTs_3 (i := 87) rfl rfl
set_option maxRecDepth 20000 in
theorem q386 : (Cond.code yX6_countVersions cX6_countVersions 6 (Option.some Jvm.ClassFile.FieldType.int)) ∈ xTs := xTs_3 (i := 88) rfl rfl
set_option maxRecDepth 20000 in
theorem q387 : (Cond.methodLink RL 38 yX6_wouldCome) ∈ xTs := xTs_3 (i := 89) rfl rfl
set_option maxRecDepth 20000 in
theorem q388 : (Cond.instanceMethod yX6_wouldCome) ∈ xTs := xTs_3 (i := 90) rfl rfl
set_option maxRecDepth 20000 in
theorem q389 : (Cond.selects RX6 yX6_wouldCome yX6_wouldCome) ∈ xTs := xTs_3 (i := 91) rfl rfl
set_option maxRecDepth 20000 in
theorem q390 : (Cond.code yX6_wouldCome cX6_wouldCome 4 (Option.some Jvm.ClassFile.FieldType.int)) ∈ xTs := xTs_3 (i := 92) rfl rfl
set_option maxRecDepth 20000 in
theorem q391 : (Cond.methodLink RX6 257 yX6_outcomeIn) ∈ xTs := xTs_3 (i := 94) rfl rfl
set_option maxRecDepth 20000 in
theorem q392 : (Cond.instanceMethod yX6_outcomeIn) ∈ xTs := xTs_3 (i := 96) rfl rfl
set_option maxRecDepth 20000 in
theorem q393 : (Cond.code yX6_outcomeIn cX6_outcomeIn 6 (Option.some Jvm.ClassFile.FieldType.int)) ∈ xTs := xTs_3 (i := 97) rfl rfl
set_option maxRecDepth 20000 in
theorem q394 : (Cond.methodLink RX6 267 yX6_hoursTillGone) ∈ xTs := xTs_3 (i := 98) rfl rfl
set_option maxRecDepth 20000 in
theorem q395 : (Cond.instanceMethod yX6_hoursTillGone) ∈ xTs := xTs_3 (i := 100) rfl rfl
set_option maxRecDepth 20000 in
theorem q396 : (Cond.code yX6_hoursTillGone cX6_hoursTillGone 6 (Option.some Jvm.ClassFile.FieldType.int)) ∈ xTs := xTs_3 (i := 101) rfl rfl
set_option maxRecDepth 20000 in
theorem q397 : (Cond.methodLink RL 67 yX6_target) ∈ xTs := xTs_3 (i := 102) rfl rfl
set_option maxRecDepth 20000 in
theorem q398 : (Cond.instanceMethod yX6_target) ∈ xTs := xTs_3 (i := 103) rfl rfl
set_option maxRecDepth 20000 in
theorem q399 : (Cond.selects RX6 yX6_target yX6_target) ∈ xTs := xTs_3 (i := 104) rfl rfl
set_option maxRecDepth 20000 in
theorem q400 : (Cond.code yX6_target cX6_target 3 (Option.some Jvm.ClassFile.FieldType.int)) ∈ xTs := xTs_3 (i := 105) rfl rfl
set_option maxRecDepth 20000 in
theorem q401 : (Cond.methodLink RX6 263 yX6_nearestOpen) ∈ xTs := xTs_3 (i := 106) rfl rfl
set_option maxRecDepth 20000 in
theorem q402 : (Cond.instanceMethod yX6_nearestOpen) ∈ xTs := xTs_3 (i := 108) rfl rfl
set_option maxRecDepth 20000 in
theorem q403 : (Cond.code yX6_nearestOpen cX6_nearestOpen 7 (Option.some Jvm.ClassFile.FieldType.int)) ∈ xTs := xTs_3 (i := 109) rfl rfl
set_option maxRecDepth 20000 in
theorem q404 : (Cond.methodLink RX6 333 yJ6_bitCount_0f7a4) ∈ xTs := xTs_3 (i := 110) rfl rfl
set_option maxRecDepth 20000 in
theorem q405 : (Cond.static yJ6_bitCount_0f7a4) ∈ xTs := xTs_3 (i := 111) rfl rfl
set_option maxRecDepth 20000 in
theorem q406 : (Cond.code yJ6_bitCount_0f7a4 cJ6_bitCount_0f7a4 1 (Option.some Jvm.ClassFile.FieldType.int)) ∈ xTs := xTs_3 (i := 112) rfl rfl
set_option maxRecDepth 20000 in
theorem q407 : (Cond.constant RJ6 265 1431655765) ∈ xTs := xTs_3 (i := 113) rfl rfl
set_option maxRecDepth 20000 in
theorem q408 : (Cond.constant RJ6 266 858993459) ∈ xTs := xTs_3 (i := 114) rfl rfl
set_option maxRecDepth 20000 in
theorem q409 : (Cond.constant RJ6 267 252645135) ∈ xTs := xTs_3 (i := 115) rfl rfl
set_option maxRecDepth 20000 in
theorem q410 : (Cond.methodLink RL 77 yX6_digest) ∈ xTs := xTs_3 (i := 116) rfl rfl
set_option maxRecDepth 20000 in
theorem q411 : (Cond.instanceMethod yX6_digest) ∈ xTs := xTs_3 (i := 117) rfl rfl
set_option maxRecDepth 20000 in
theorem q412 : (Cond.selects RX6 yX6_digest yX6_digest) ∈ xTs := xTs_3 (i := 118) rfl rfl
set_option maxRecDepth 20000 in
theorem q413 : (Cond.code yX6_digest cX6_digest 6 (Option.some Jvm.ClassFile.FieldType.long)) ∈ xTs := xTs_3 (i := 119) rfl rfl
set_option maxRecDepth 20000 in
theorem q414 : (Cond.constantLong RX6 271 58106) ∈ xTs := xTs_3 (i := 120) rfl rfl
set_option maxRecDepth 20000 in
theorem q415 : (Cond.constantLong RX6 273 31) ∈ xTs := xTs_3 (i := 121) rfl rfl
set_option maxRecDepth 20000 in
theorem q416 : (Cond.methodLink RX6 275 yX6_digestVersion) ∈ xTs := xTs_3 (i := 122) rfl rfl
set_option maxRecDepth 20000 in
theorem q417 : (Cond.instanceMethod yX6_digestVersion) ∈ xTs := xTs_3 (i := 124) rfl rfl
set_option maxRecDepth 20000 in
theorem q418 : (Cond.code yX6_digestVersion cX6_digestVersion 7 (Option.some Jvm.ClassFile.FieldType.long)) ∈ xTs := xTs_3 (i := 125) rfl rfl
set_option maxRecDepth 20000 in
theorem q419 : (Cond.methodLink RX6 260 yX6_hoursLeft) ∈ xTs := xTs_3 (i := 126) rfl rfl
set_option maxRecDepth 20000 in
theorem q420 : (Cond.instanceMethod yX6_hoursLeft) ∈ xTs := xTs_3 (i := 128) rfl rfl
set_option maxRecDepth 20000 in
theorem q421 : (Cond.code yX6_hoursLeft cX6_hoursLeft 2 (Option.some Jvm.ClassFile.FieldType.int)) ∈ xTs := xTs_3 (i := 129) rfl rfl
set_option maxRecDepth 20000 in
theorem q422 : (Cond.methodLink RX6 279 yX6_digestClient) ∈ xTs := xTs_3 (i := 130) rfl rfl
set_option maxRecDepth 20000 in
theorem q423 : (Cond.instanceMethod yX6_digestClient) ∈ xTs := xTs_3 (i := 132) rfl rfl
set_option maxRecDepth 20000 in
theorem q424 : (Cond.code yX6_digestClient cX6_digestClient 8 (Option.some Jvm.ClassFile.FieldType.long)) ∈ xTs := xTs_3 (i := 133) rfl rfl
set_option maxRecDepth 20000 in
theorem q425 : (Cond.methodLink RL 22 yL_below) ∈ xTs := xTs_3 (i := 134) rfl rfl
set_option maxRecDepth 20000 in
theorem q426 : (Cond.static yL_below) ∈ xTs := xTs_3 (i := 135) rfl rfl
set_option maxRecDepth 20000 in
theorem q427 : (Cond.code yL_below cL_below 2 (Option.some Jvm.ClassFile.FieldType.int)) ∈ xTs := xTs_3 (i := 136) rfl rfl
set_option maxRecDepth 20000 in
theorem q428 : (Cond.constant RL 7 2147483647) ∈ xTs := xTs_3 (i := 137) rfl rfl
set_option maxRecDepth 20000 in
theorem q429 : (Cond.methodLink RL 16 yL_cell) ∈ xTs := xTs_3 (i := 138) rfl rfl
set_option maxRecDepth 20000 in
theorem q430 : (Cond.static yL_cell) ∈ xTs := xTs_3 (i := 139) rfl rfl
set_option maxRecDepth 20000 in
theorem q431 : (Cond.code yL_cell cL_cell 2 (Option.some Jvm.ClassFile.FieldType.int)) ∈ xTs := xTs_3 (i := 140) rfl rfl
set_option maxRecDepth 20000 in
theorem q432 : (Cond.constant RL 8 790386105) ∈ xTs := xTs_3 (i := 141) rfl rfl
set_option maxRecDepth 20000 in
theorem q433 : (Cond.methodLink RL 73 yL_isKind) ∈ xTs := xTs_3 (i := 142) rfl rfl
set_option maxRecDepth 20000 in
theorem q434 : (Cond.static yL_isKind) ∈ xTs := xTs_3 (i := 143) rfl rfl
set_option maxRecDepth 20000 in
theorem q435 : (Cond.code yL_isKind cL_isKind 12 (Option.some Jvm.ClassFile.FieldType.boolean)) ∈ xTs := xTs_3 (i := 144) rfl rfl
set_option maxRecDepth 20000 in
theorem q436 : (Cond.classLink RL 84 "[[I") ∈ xTs := xTs_3 (i := 145) rfl rfl
set_option maxRecDepth 20000 in
theorem q437 : (Cond.methodLink RL 86 yX6_pass) ∈ xTs := xTs_3 (i := 147) rfl rfl
set_option maxRecDepth 20000 in
theorem q438 : (Cond.instanceMethod yX6_pass) ∈ xTs := xTs_3 (i := 148) rfl rfl
set_option maxRecDepth 20000 in
theorem q439 : (Cond.selects RX6 yX6_pass yX6_pass) ∈ xTs := xTs_3 (i := 149) rfl rfl
set_option maxRecDepth 20000 in
theorem q440 : (Cond.code yX6_pass cX6_pass 4 (Option.some Jvm.ClassFile.FieldType.int)) ∈ xTs := xTs_3 (i := 150) rfl rfl
set_option maxRecDepth 20000 in
theorem q441 : (Cond.methodLink RX6 201 yX6_beginHour) ∈ xTs := xTs_3 (i := 152) rfl rfl
set_option maxRecDepth 20000 in
theorem q442 : (Cond.instanceMethod yX6_beginHour) ∈ xTs := xTs_3 (i := 154) rfl rfl
set_option maxRecDepth 20000 in
theorem q443 : (Cond.code yX6_beginHour cX6_beginHour 5 (Option.some Jvm.ClassFile.FieldType.int)) ∈ xTs := xTs_3 (i := 155) rfl rfl
set_option maxRecDepth 20000 in
theorem q444 : (Cond.methodLink RX6 381 yJ7_fill_53178) ∈ xTs := xTs_3 (i := 156) rfl rfl
set_option maxRecDepth 20000 in
theorem q445 : (Cond.methodLink RX6 387 yX6_isGoneAtEnd) ∈ xTs := xTs_3 (i := 157) rfl rfl
set_option maxRecDepth 20000 in
theorem q446 : (Cond.instanceMethod yX6_isGoneAtEnd) ∈ xTs := xTs_3 (i := 159) rfl rfl
set_option maxRecDepth 20000 in
theorem q447 : (Cond.code yX6_isGoneAtEnd cX6_isGoneAtEnd 2 (Option.some Jvm.ClassFile.FieldType.boolean)) ∈ xTs := xTs_3 (i := 160) rfl rfl
set_option maxRecDepth 20000 in
theorem q448 : (Cond.selects RX6 yX6_faceAt yX6_faceAt) ∈ xTs := xTs_0 (i := 1) rfl rfl
set_option maxRecDepth 20000 in
theorem q449 : (Cond.selects RX6 yX6_versionAt yX6_versionAt) ∈ xTs := xTs_0 (i := 2) rfl rfl
set_option maxRecDepth 20000 in
theorem q450 : (Cond.selects RX6 yX6_versionFact yX6_versionFact) ∈ xTs := xTs_0 (i := 3) rfl rfl
set_option maxRecDepth 20000 in
theorem q451 : (Cond.selects RX6 yX6_countCallers yX6_countCallers) ∈ xTs := xTs_0 (i := 4) rfl rfl
set_option maxRecDepth 20000 in
theorem q452 : (Cond.selects RX6 yX6_countHinderers yX6_countHinderers) ∈ xTs := xTs_0 (i := 5) rfl rfl
set_option maxRecDepth 20000 in
theorem q453 : (Cond.selects RX6 yX6_isCallerThen yX6_isCallerThen) ∈ xTs := xTs_0 (i := 6) rfl rfl
set_option maxRecDepth 20000 in
theorem q454 : (Cond.selects RX6 yX6_findRoute yX6_findRoute) ∈ xTs := xTs_0 (i := 7) rfl rfl
set_option maxRecDepth 20000 in
theorem q455 : (Cond.selects RX6 yX6_countGeneratedFor yX6_countGeneratedFor) ∈ xTs := xTs_0 (i := 8) rfl rfl
set_option maxRecDepth 20000 in
theorem q456 : (Cond.selects RX6 yX6_clientAt yX6_clientAt) ∈ xTs := xTs_0 (i := 9) rfl rfl
set_option maxRecDepth 20000 in
theorem q457 : (Cond.selects RX6 yX6_clientFact yX6_clientFact) ∈ xTs := xTs_0 (i := 10) rfl rfl
set_option maxRecDepth 20000 in
theorem q458 : (Cond.selects RX6 yX6_findOwnRoute yX6_findOwnRoute) ∈ xTs := xTs_0 (i := 11) rfl rfl
set_option maxRecDepth 20000 in
theorem q459 : (Cond.selects RX6 yX6_isServedCall yX6_isServedCall) ∈ xTs := xTs_0 (i := 12) rfl rfl
set_option maxRecDepth 20000 in
theorem q460 : (Cond.selects RX6 yX6_outcomeOf yX6_outcomeOf) ∈ xTs := xTs_0 (i := 13) rfl rfl
set_option maxRecDepth 20000 in
theorem q461 : (Cond.selects RX6 yX6_hoursSinceCall yX6_hoursSinceCall) ∈ xTs := xTs_0 (i := 14) rfl rfl
set_option maxRecDepth 20000 in
theorem q462 : (Cond.selects RX6 yX6_startRetirement yX6_startRetirement) ∈ xTs := xTs_0 (i := 15) rfl rfl
set_option maxRecDepth 20000 in
theorem q463 : (Cond.selects RX6 yX6_askedState yX6_askedState) ∈ xTs := xTs_0 (i := 16) rfl rfl
set_option maxRecDepth 20000 in
theorem q464 : (Cond.selects RX6 yX6_countOf yX6_countOf) ∈ xTs := xTs_0 (i := 17) rfl rfl
set_option maxRecDepth 20000 in
theorem q465 : (Cond.selects RX6 yX6_countVersions yX6_countVersions) ∈ xTs := xTs_0 (i := 18) rfl rfl
set_option maxRecDepth 20000 in
theorem q466 : (Cond.selects RX6 yX6_outcomeIn yX6_outcomeIn) ∈ xTs := xTs_0 (i := 19) rfl rfl
set_option maxRecDepth 20000 in
theorem q467 : (Cond.selects RX6 yX6_hoursTillGone yX6_hoursTillGone) ∈ xTs := xTs_0 (i := 20) rfl rfl
set_option maxRecDepth 20000 in
theorem q468 : (Cond.selects RX6 yX6_nearestOpen yX6_nearestOpen) ∈ xTs := xTs_0 (i := 21) rfl rfl
set_option maxRecDepth 20000 in
theorem q469 : (Cond.selects RX6 yX6_digestVersion yX6_digestVersion) ∈ xTs := xTs_0 (i := 22) rfl rfl
set_option maxRecDepth 20000 in
theorem q470 : (Cond.selects RX6 yX6_hoursLeft yX6_hoursLeft) ∈ xTs := xTs_0 (i := 23) rfl rfl
set_option maxRecDepth 20000 in
theorem q471 : (Cond.selects RX6 yX6_digestClient yX6_digestClient) ∈ xTs := xTs_0 (i := 24) rfl rfl
set_option maxRecDepth 20000 in
theorem q472 : (Cond.selects RX6 yX6_beginHour yX6_beginHour) ∈ xTs := xTs_0 (i := 25) rfl rfl
set_option maxRecDepth 20000 in
theorem q473 : (Cond.selects RX6 yX6_isGoneAtEnd yX6_isGoneAtEnd) ∈ xTs := xTs_0 (i := 26) rfl rfl
/-- words of the tables that are kept in another way -/
def x_xt (U : State) : Prop := va_Nw (Cond.arrayOver (FieldType.object "ServiceApiary$Face")) U ∧ va_Nw (Cond.arrayOver (FieldType.object "ServiceApiary$Client")) U ∧ va_Nw (Cond.arrayOver (FieldType.object "ServiceApiary$Adapter")) U ∧ va_Nw (Cond.methodLinkNest RX6 29 yX4_init RX6) U ∧ va_Nw (Cond.arrayOver (FieldType.object "ServiceApiary$Version")) U ∧ True
theorem x1 {U : State} (h : x_xt U) : va_Nw (Cond.arrayOver (FieldType.object "ServiceApiary$Face")) U := h.1
theorem x2 {U : State} (h : x_xt U) : va_Nw (Cond.arrayOver (FieldType.object "ServiceApiary$Client")) U := h.2.1
theorem x3 {U : State} (h : x_xt U) : va_Nw (Cond.arrayOver (FieldType.object "ServiceApiary$Adapter")) U := h.2.2.1
theorem x4 {U : State} (h : x_xt U) : va_Nw (Cond.methodLinkNest RX6 29 yX4_init RX6) U := h.2.2.2.1
theorem x5 {U : State} (h : x_xt U) : va_Nw (Cond.arrayOver (FieldType.object "ServiceApiary$Version")) U := h.2.2.2.2.1
theorem x_xt.warm {s U : State} (hW : s.WarmedH U.vm) (h : x_xt s) : x_xt U := ⟨va_AO.moved hW.alike h.1, va_AO.moved hW.alike h.2.1, va_AO.moved hW.alike h.2.2.1, va_Nw.warmM hW h.2.2.2.1, va_AO.moved hW.alike h.2.2.2.2.1, trivial⟩
theorem x_xt.same {u U : State} (hv : u.vm = U.vm) (h : x_xt u) : x_xt U := ⟨va_AO.moved (by rw [hv]; exact Vm.Alike.refl _) h.1, va_AO.moved (by rw [hv]; exact Vm.Alike.refl _) h.2.1, va_AO.moved (by rw [hv]; exact Vm.Alike.refl _) h.2.2.1, va_Nw.same rfl hv h.2.2.2.1, va_AO.moved (by rw [hv]; exact Vm.Alike.refl _) h.2.2.2.2.1, trivial⟩
set_option maxRecDepth 20000 in
theorem x_xt.of {A : Array Value} {U : State} (h : ∀ w ∈ lw_tbl, w.before A U = true) : x_xt U := ⟨va_AO.of (h _ (List.mem_append_right _ (List.mem_append_left _ (List.mem_of_getElem? (i := 26) (l := tables_1_1) rfl)))), va_AO.of (h _ (List.mem_append_right _ (List.mem_append_left _ (List.mem_of_getElem? (i := 28) (l := tables_1_1) rfl)))), va_AO.of (h _ (List.mem_append_right _ (List.mem_append_left _ (List.mem_of_getElem? (i := 30) (l := tables_1_1) rfl)))), va_Nw.of rfl (h _ (List.mem_append_right _ (List.mem_append_left _ (List.mem_of_getElem? (i := 33) (l := tables_1_1) rfl)))), va_AO.of (h _ (List.mem_append_right _ (List.mem_append_left _ (List.mem_of_getElem? (i := 195) (l := tables_1_1) rfl)))), trivial⟩
set_option maxRecDepth 20000 in
theorem inX0 : ∀ q ∈ u_ws RX0 TX0 4, q ∈ xTs := List.forall_mem_cons.mpr ⟨q294, List.forall_mem_cons.mpr ⟨q295, List.forall_mem_cons.mpr ⟨q296, List.forall_mem_cons.mpr ⟨q297, fun _ h => absurd h List.not_mem_nil⟩⟩⟩⟩
set_option maxRecDepth 20000 in
theorem inX1 : ∀ q ∈ u_ws RX1 TX1 8, q ∈ xTs := List.forall_mem_cons.mpr ⟨q260, List.forall_mem_cons.mpr ⟨q261, List.forall_mem_cons.mpr ⟨q262, List.forall_mem_cons.mpr ⟨q263, List.forall_mem_cons.mpr ⟨q264, List.forall_mem_cons.mpr ⟨q265, List.forall_mem_cons.mpr ⟨q266, List.forall_mem_cons.mpr ⟨q267, fun _ h => absurd h List.not_mem_nil⟩⟩⟩⟩⟩⟩⟩⟩
set_option maxRecDepth 20000 in
theorem inX2 : ∀ q ∈ u_ws RX2 TX2 3, q ∈ xTs := List.forall_mem_cons.mpr ⟨q108, List.forall_mem_cons.mpr ⟨q109, List.forall_mem_cons.mpr ⟨q110, fun _ h => absurd h List.not_mem_nil⟩⟩⟩
set_option maxRecDepth 20000 in
theorem inX3 : ∀ q ∈ u_ws RX3 TX3 4, q ∈ xTs := List.forall_mem_cons.mpr ⟨q61, List.forall_mem_cons.mpr ⟨q62, List.forall_mem_cons.mpr ⟨q63, List.forall_mem_cons.mpr ⟨q64, fun _ h => absurd h List.not_mem_nil⟩⟩⟩⟩
set_option maxRecDepth 20000 in
theorem inX4 : ∀ q ∈ u_ws RX4 TX4 5, q ∈ xTs := List.forall_mem_cons.mpr ⟨q39, List.forall_mem_cons.mpr ⟨q40, List.forall_mem_cons.mpr ⟨q41, List.forall_mem_cons.mpr ⟨q42, List.forall_mem_cons.mpr ⟨q43, fun _ h => absurd h List.not_mem_nil⟩⟩⟩⟩⟩
set_option maxRecDepth 20000 in
theorem inX5 : ∀ q ∈ u_ws RX5 TX5 9, q ∈ xTs := List.forall_mem_cons.mpr ⟨q153, List.forall_mem_cons.mpr ⟨q154, List.forall_mem_cons.mpr ⟨q155, List.forall_mem_cons.mpr ⟨q156, List.forall_mem_cons.mpr ⟨q157, List.forall_mem_cons.mpr ⟨q158, List.forall_mem_cons.mpr ⟨q159, List.forall_mem_cons.mpr ⟨q160, List.forall_mem_cons.mpr ⟨q161, fun _ h => absurd h List.not_mem_nil⟩⟩⟩⟩⟩⟩⟩⟩⟩
set_option maxRecDepth 20000 in
theorem inX6 : ∀ q ∈ u_ws RX6 TX6 12, q ∈ xTs := List.forall_mem_cons.mpr ⟨q77, List.forall_mem_cons.mpr ⟨q78, List.forall_mem_cons.mpr ⟨q79, List.forall_mem_cons.mpr ⟨q80, List.forall_mem_cons.mpr ⟨q81, List.forall_mem_cons.mpr ⟨q82, List.forall_mem_cons.mpr ⟨q83, List.forall_mem_cons.mpr ⟨q84, List.forall_mem_cons.mpr ⟨q85, List.forall_mem_cons.mpr ⟨q86, List.forall_mem_cons.mpr ⟨q87, List.forall_mem_cons.mpr ⟨q88, fun _ h => absurd h List.not_mem_nil⟩⟩⟩⟩⟩⟩⟩⟩⟩⟩⟩⟩
theorem x_gV {own C : String} {idx maxL : Nat} {y : MethodName} {bytes : ByteArray} {rt : Option FieldType} (h1 : Cond.methodLink own idx y ∈ xTs) (h2 : Cond.instanceMethod y ∈ xTs) (h3 : Cond.selects C y y ∈ xTs) (h4 : Cond.initialized C ∈ xTs) (h5 : Cond.code y bytes maxL rt ∈ xTs) : GoodIn xTs (wsV own idx C y (Cond.code y bytes maxL rt :: xTs)) := by
  intro w hw
  unfold wsV at hw
  rcases List.mem_append.mp hw with h | h
  · simp only [List.mem_cons, List.not_mem_nil, or_false] at h
    rcases h with rfl | rfl | rfl | rfl
    · exact xTs_good _ h1
    · exact xTs_good _ h2
    · exact xTs_good _ h3
    · exact xTs_good _ h4
  · rcases List.mem_cons.mp h with rfl | h
    · exact xTs_good _ h5
    · exact xTs_good _ h
theorem x_gS {own : String} {idx maxL : Nat} {y : MethodName} {bytes : ByteArray} {rt : Option FieldType} (h1 : Cond.methodLink own idx y ∈ xTs) (h2 : Cond.static y ∈ xTs) (h4 : Cond.initialized y.cls ∈ xTs) (h5 : Cond.code y bytes maxL rt ∈ xTs) : GoodIn xTs (va_wsS own idx y (Cond.code y bytes maxL rt :: xTs)) := by
  intro w hw
  unfold va_wsS at hw
  rcases List.mem_append.mp hw with h | h
  · simp only [List.mem_cons, List.not_mem_nil, or_false] at h
    rcases h with rfl | rfl | rfl
    · exact xTs_good _ h1
    · exact xTs_good _ h2
    · exact xTs_good _ h4
  · rcases List.mem_cons.mp h with rfl | h
    · exact xTs_good _ h5
    · exact xTs_good _ h
theorem x_gI {maxL : Nat} {y : MethodName} {bytes : ByteArray} {rt : Option FieldType} (h5 : Cond.code y bytes maxL rt ∈ xTs) : GoodIn xTs (Cond.code y bytes maxL rt :: xTs) := by
  intro w hw
  rcases List.mem_cons.mp hw with rfl | h
  · exact xTs_good _ h5
  · exact xTs_good _ h
abbrev wX6_init : List Cond := Cond.code yX6_init cX6_init 1 (Option.none : Option Jvm.ClassFile.FieldType) :: xTs
theorem xd_X6_init : yX6_init.cls ≠ "java/lang/invoke/MethodHandle" ∧ yX6_init.cls ≠ "java/lang/invoke/VarHandle" ∧ (parseMethodDescriptor yX6_init.desc).map (fun d => d.parameters.length) = some 0 := by decide +kernel
abbrev wX4_init : List Cond := Cond.code yX4_init cX4_init 1 (Option.none : Option Jvm.ClassFile.FieldType) :: xTs
theorem xd_X4_init : yX4_init.cls ≠ "java/lang/invoke/MethodHandle" ∧ yX4_init.cls ≠ "java/lang/invoke/VarHandle" ∧ (parseMethodDescriptor yX4_init.desc).map (fun d => d.parameters.length) = some 0 := by decide +kernel
abbrev wX3_init : List Cond := Cond.code yX3_init cX3_init 1 (Option.none : Option Jvm.ClassFile.FieldType) :: xTs
theorem xd_X3_init : yX3_init.cls ≠ "java/lang/invoke/MethodHandle" ∧ yX3_init.cls ≠ "java/lang/invoke/VarHandle" ∧ (parseMethodDescriptor yX3_init.desc).map (fun d => d.parameters.length) = some 0 := by decide +kernel
abbrev wJ7_fill_53178 : List Cond := Cond.code yJ7_fill_53178 cJ7_fill_53178 4 (Option.none : Option Jvm.ClassFile.FieldType) :: xTs
theorem xd_J7_fill_53178 : yJ7_fill_53178.cls ≠ "java/lang/invoke/MethodHandle" ∧ yJ7_fill_53178.cls ≠ "java/lang/invoke/VarHandle" ∧ (parseMethodDescriptor yJ7_fill_53178.desc).map (fun d => d.parameters.length) = some 2 := by decide +kernel
abbrev wX6_open : List Cond := Cond.code yX6_open cX6_open 1 (Option.some Jvm.ClassFile.FieldType.int) :: xTs
theorem xd_X6_open : yX6_open.cls ≠ "java/lang/invoke/MethodHandle" ∧ yX6_open.cls ≠ "java/lang/invoke/VarHandle" ∧ (parseMethodDescriptor yX6_open.desc).map (fun d => d.parameters.length) = some 0 := by decide +kernel
abbrev wX2_init : List Cond := Cond.code yX2_init cX2_init 2 (Option.none : Option Jvm.ClassFile.FieldType) :: xTs
theorem xd_X2_init : yX2_init.cls ≠ "java/lang/invoke/MethodHandle" ∧ yX2_init.cls ≠ "java/lang/invoke/VarHandle" ∧ (parseMethodDescriptor yX2_init.desc).map (fun d => d.parameters.length) = some 1 := by decide +kernel
abbrev wX6_publish : List Cond := Cond.code yX6_publish cX6_publish 8 (Option.some Jvm.ClassFile.FieldType.int) :: xTs
theorem xd_X6_publish : yX6_publish.cls ≠ "java/lang/invoke/MethodHandle" ∧ yX6_publish.cls ≠ "java/lang/invoke/VarHandle" ∧ (parseMethodDescriptor yX6_publish.desc).map (fun d => d.parameters.length) = some 3 := by decide +kernel
abbrev wX6_faceAt : List Cond := Cond.code yX6_faceAt cX6_faceAt 2 (Option.some (Jvm.ClassFile.FieldType.object "ServiceApiary$Face")) :: xTs
theorem xd_X6_faceAt : yX6_faceAt.cls ≠ "java/lang/invoke/MethodHandle" ∧ yX6_faceAt.cls ≠ "java/lang/invoke/VarHandle" ∧ (parseMethodDescriptor yX6_faceAt.desc).map (fun d => d.parameters.length) = some 1 := by decide +kernel
abbrev wX6_isShape : List Cond := Cond.code yX6_isShape cX6_isShape 2 (Option.some Jvm.ClassFile.FieldType.boolean) :: xTs
theorem xd_X6_isShape : yX6_isShape.cls ≠ "java/lang/invoke/MethodHandle" ∧ yX6_isShape.cls ≠ "java/lang/invoke/VarHandle" ∧ (parseMethodDescriptor yX6_isShape.desc).map (fun d => d.parameters.length) = some 2 := by decide +kernel
abbrev wX6_isFieldSet : List Cond := Cond.code yX6_isFieldSet cX6_isFieldSet 1 (Option.some Jvm.ClassFile.FieldType.boolean) :: xTs
theorem xd_X6_isFieldSet : yX6_isFieldSet.cls ≠ "java/lang/invoke/MethodHandle" ∧ yX6_isFieldSet.cls ≠ "java/lang/invoke/VarHandle" ∧ (parseMethodDescriptor yX6_isFieldSet.desc).map (fun d => d.parameters.length) = some 1 := by decide +kernel
abbrev wX5_init : List Cond := Cond.code yX5_init cX5_init 5 (Option.none : Option Jvm.ClassFile.FieldType) :: xTs
theorem xd_X5_init : yX5_init.cls ≠ "java/lang/invoke/MethodHandle" ∧ yX5_init.cls ≠ "java/lang/invoke/VarHandle" ∧ (parseMethodDescriptor yX5_init.desc).map (fun d => d.parameters.length) = some 4 := by decide +kernel
abbrev wX6_countSuited : List Cond := Cond.code yX6_countSuited cX6_countSuited 4 (Option.some Jvm.ClassFile.FieldType.int) :: xTs
theorem xd_X6_countSuited : yX6_countSuited.cls ≠ "java/lang/invoke/MethodHandle" ∧ yX6_countSuited.cls ≠ "java/lang/invoke/VarHandle" ∧ (parseMethodDescriptor yX6_countSuited.desc).map (fun d => d.parameters.length) = some 1 := by decide +kernel
abbrev wX2_versionAt : List Cond := Cond.code yX2_versionAt cX2_versionAt 2 (Option.some (Jvm.ClassFile.FieldType.object "ServiceApiary$Version")) :: xTs
theorem xd_X2_versionAt : yX2_versionAt.cls ≠ "java/lang/invoke/MethodHandle" ∧ yX2_versionAt.cls ≠ "java/lang/invoke/VarHandle" ∧ (parseMethodDescriptor yX2_versionAt.desc).map (fun d => d.parameters.length) = some 1 := by decide +kernel
abbrev wX5_suits : List Cond := Cond.code yX5_suits cX5_suits 2 (Option.some Jvm.ClassFile.FieldType.boolean) :: xTs
theorem xd_X5_suits : yX5_suits.cls ≠ "java/lang/invoke/MethodHandle" ∧ yX5_suits.cls ≠ "java/lang/invoke/VarHandle" ∧ (parseMethodDescriptor yX5_suits.desc).map (fun d => d.parameters.length) = some 1 := by decide +kernel
abbrev wX6_ofVersion : List Cond := Cond.code yX6_ofVersion cX6_ofVersion 5 (Option.some Jvm.ClassFile.FieldType.int) :: xTs
theorem xd_X6_ofVersion : yX6_ofVersion.cls ≠ "java/lang/invoke/MethodHandle" ∧ yX6_ofVersion.cls ≠ "java/lang/invoke/VarHandle" ∧ (parseMethodDescriptor yX6_ofVersion.desc).map (fun d => d.parameters.length) = some 3 := by decide +kernel
abbrev wX6_versionAt : List Cond := Cond.code yX6_versionAt cX6_versionAt 4 (Option.some (Jvm.ClassFile.FieldType.object "ServiceApiary$Version")) :: xTs
theorem xd_X6_versionAt : yX6_versionAt.cls ≠ "java/lang/invoke/MethodHandle" ∧ yX6_versionAt.cls ≠ "java/lang/invoke/VarHandle" ∧ (parseMethodDescriptor yX6_versionAt.desc).map (fun d => d.parameters.length) = some 2 := by decide +kernel
abbrev wX6_versionFact : List Cond := Cond.code yX6_versionFact cX6_versionFact 3 (Option.some Jvm.ClassFile.FieldType.int) :: xTs
theorem xd_X6_versionFact : yX6_versionFact.cls ≠ "java/lang/invoke/MethodHandle" ∧ yX6_versionFact.cls ≠ "java/lang/invoke/VarHandle" ∧ (parseMethodDescriptor yX6_versionFact.desc).map (fun d => d.parameters.length) = some 2 := by decide +kernel
abbrev wX6_countCallers : List Cond := Cond.code yX6_countCallers cX6_countCallers 5 (Option.some Jvm.ClassFile.FieldType.int) :: xTs
theorem xd_X6_countCallers : yX6_countCallers.cls ≠ "java/lang/invoke/MethodHandle" ∧ yX6_countCallers.cls ≠ "java/lang/invoke/VarHandle" ∧ (parseMethodDescriptor yX6_countCallers.desc).map (fun d => d.parameters.length) = some 1 := by decide +kernel
abbrev wX1_isCallerOf : List Cond := Cond.code yX1_isCallerOf cX1_isCallerOf 4 (Option.some Jvm.ClassFile.FieldType.boolean) :: xTs
theorem xd_X1_isCallerOf : yX1_isCallerOf.cls ≠ "java/lang/invoke/MethodHandle" ∧ yX1_isCallerOf.cls ≠ "java/lang/invoke/VarHandle" ∧ (parseMethodDescriptor yX1_isCallerOf.desc).map (fun d => d.parameters.length) = some 2 := by decide +kernel
abbrev wX1_calledAtOf : List Cond := Cond.code yX1_calledAtOf cX1_calledAtOf 3 (Option.some Jvm.ClassFile.FieldType.int) :: xTs
theorem xd_X1_calledAtOf : yX1_calledAtOf.cls ≠ "java/lang/invoke/MethodHandle" ∧ yX1_calledAtOf.cls ≠ "java/lang/invoke/VarHandle" ∧ (parseMethodDescriptor yX1_calledAtOf.desc).map (fun d => d.parameters.length) = some 1 := by decide +kernel
abbrev wX6_countHinderers : List Cond := Cond.code yX6_countHinderers cX6_countHinderers 8 (Option.some Jvm.ClassFile.FieldType.int) :: xTs
theorem xd_X6_countHinderers : yX6_countHinderers.cls ≠ "java/lang/invoke/MethodHandle" ∧ yX6_countHinderers.cls ≠ "java/lang/invoke/VarHandle" ∧ (parseMethodDescriptor yX6_countHinderers.desc).map (fun d => d.parameters.length) = some 4 := by decide +kernel
abbrev wX3_isWarned : List Cond := Cond.code yX3_isWarned cX3_isWarned 4 (Option.some Jvm.ClassFile.FieldType.boolean) :: xTs
theorem xd_X3_isWarned : yX3_isWarned.cls ≠ "java/lang/invoke/MethodHandle" ∧ yX3_isWarned.cls ≠ "java/lang/invoke/VarHandle" ∧ (parseMethodDescriptor yX3_isWarned.desc).map (fun d => d.parameters.length) = some 2 := by decide +kernel
abbrev wX3_askedAtOf : List Cond := Cond.code yX3_askedAtOf cX3_askedAtOf 2 (Option.some Jvm.ClassFile.FieldType.int) :: xTs
theorem xd_X3_askedAtOf : yX3_askedAtOf.cls ≠ "java/lang/invoke/MethodHandle" ∧ yX3_askedAtOf.cls ≠ "java/lang/invoke/VarHandle" ∧ (parseMethodDescriptor yX3_askedAtOf.desc).map (fun d => d.parameters.length) = some 1 := by decide +kernel
abbrev wX3_hasAnswered : List Cond := Cond.code yX3_hasAnswered cX3_hasAnswered 2 (Option.some Jvm.ClassFile.FieldType.boolean) :: xTs
theorem xd_X3_hasAnswered : yX3_hasAnswered.cls ≠ "java/lang/invoke/MethodHandle" ∧ yX3_hasAnswered.cls ≠ "java/lang/invoke/VarHandle" ∧ (parseMethodDescriptor yX3_hasAnswered.desc).map (fun d => d.parameters.length) = some 1 := by decide +kernel
abbrev wX6_isCallerThen : List Cond := Cond.code yX6_isCallerThen cX6_isCallerThen 5 (Option.some Jvm.ClassFile.FieldType.boolean) :: xTs
theorem xd_X6_isCallerThen : yX6_isCallerThen.cls ≠ "java/lang/invoke/MethodHandle" ∧ yX6_isCallerThen.cls ≠ "java/lang/invoke/VarHandle" ∧ (parseMethodDescriptor yX6_isCallerThen.desc).map (fun d => d.parameters.length) = some 4 := by decide +kernel
abbrev wX6_findRoute : List Cond := Cond.code yX6_findRoute cX6_findRoute 5 (Option.some Jvm.ClassFile.FieldType.boolean) :: xTs
theorem xd_X6_findRoute : yX6_findRoute.cls ≠ "java/lang/invoke/MethodHandle" ∧ yX6_findRoute.cls ≠ "java/lang/invoke/VarHandle" ∧ (parseMethodDescriptor yX6_findRoute.desc).map (fun d => d.parameters.length) = some 3 := by decide +kernel
abbrev wX6_completes : List Cond := Cond.code yX6_completes cX6_completes 7 (Option.some Jvm.ClassFile.FieldType.boolean) :: xTs
theorem xd_X6_completes : yX6_completes.cls ≠ "java/lang/invoke/MethodHandle" ∧ yX6_completes.cls ≠ "java/lang/invoke/VarHandle" ∧ (parseMethodDescriptor yX6_completes.desc).map (fun d => d.parameters.length) = some 5 := by decide +kernel
abbrev wX6_fits : List Cond := Cond.code yX6_fits cX6_fits 3 (Option.some Jvm.ClassFile.FieldType.boolean) :: xTs
theorem xd_X6_fits : yX6_fits.cls ≠ "java/lang/invoke/MethodHandle" ∧ yX6_fits.cls ≠ "java/lang/invoke/VarHandle" ∧ (parseMethodDescriptor yX6_fits.desc).map (fun d => d.parameters.length) = some 3 := by decide +kernel
abbrev wX0_makesOf : List Cond := Cond.code yX0_makesOf cX0_makesOf 2 (Option.some Jvm.ClassFile.FieldType.int) :: xTs
theorem xd_X0_makesOf : yX0_makesOf.cls ≠ "java/lang/invoke/MethodHandle" ∧ yX0_makesOf.cls ≠ "java/lang/invoke/VarHandle" ∧ (parseMethodDescriptor yX0_makesOf.desc).map (fun d => d.parameters.length) = some 1 := by decide +kernel
abbrev wX6_countGeneratedFor : List Cond := Cond.code yX6_countGeneratedFor cX6_countGeneratedFor 5 (Option.some Jvm.ClassFile.FieldType.int) :: xTs
theorem xd_X6_countGeneratedFor : yX6_countGeneratedFor.cls ≠ "java/lang/invoke/MethodHandle" ∧ yX6_countGeneratedFor.cls ≠ "java/lang/invoke/VarHandle" ∧ (parseMethodDescriptor yX6_countGeneratedFor.desc).map (fun d => d.parameters.length) = some 1 := by decide +kernel
abbrev wX6_isCompatible : List Cond := Cond.code yX6_isCompatible cX6_isCompatible 6 (Option.some Jvm.ClassFile.FieldType.boolean) :: xTs
theorem xd_X6_isCompatible : yX6_isCompatible.cls ≠ "java/lang/invoke/MethodHandle" ∧ yX6_isCompatible.cls ≠ "java/lang/invoke/VarHandle" ∧ (parseMethodDescriptor yX6_isCompatible.desc).map (fun d => d.parameters.length) = some 3 := by decide +kernel
abbrev wX6_client : List Cond := Cond.code yX6_client cX6_client 6 (Option.some Jvm.ClassFile.FieldType.int) :: xTs
theorem xd_X6_client : yX6_client.cls ≠ "java/lang/invoke/MethodHandle" ∧ yX6_client.cls ≠ "java/lang/invoke/VarHandle" ∧ (parseMethodDescriptor yX6_client.desc).map (fun d => d.parameters.length) = some 4 := by decide +kernel
abbrev wX6_isOwner : List Cond := Cond.code yX6_isOwner cX6_isOwner 1 (Option.some Jvm.ClassFile.FieldType.boolean) :: xTs
theorem xd_X6_isOwner : yX6_isOwner.cls ≠ "java/lang/invoke/MethodHandle" ∧ yX6_isOwner.cls ≠ "java/lang/invoke/VarHandle" ∧ (parseMethodDescriptor yX6_isOwner.desc).map (fun d => d.parameters.length) = some 1 := by decide +kernel
abbrev wX1_init : List Cond := Cond.code yX1_init cX1_init 4 (Option.none : Option Jvm.ClassFile.FieldType) :: xTs
theorem xd_X1_init : yX1_init.cls ≠ "java/lang/invoke/MethodHandle" ∧ yX1_init.cls ≠ "java/lang/invoke/VarHandle" ∧ (parseMethodDescriptor yX1_init.desc).map (fun d => d.parameters.length) = some 3 := by decide +kernel
abbrev wX6_again : List Cond := Cond.code yX6_again cX6_again 5 (Option.some Jvm.ClassFile.FieldType.int) :: xTs
theorem xd_X6_again : yX6_again.cls ≠ "java/lang/invoke/MethodHandle" ∧ yX6_again.cls ≠ "java/lang/invoke/VarHandle" ∧ (parseMethodDescriptor yX6_again.desc).map (fun d => d.parameters.length) = some 2 := by decide +kernel
abbrev wX6_clientAt : List Cond := Cond.code yX6_clientAt cX6_clientAt 2 (Option.some (Jvm.ClassFile.FieldType.object "ServiceApiary$Client")) :: xTs
theorem xd_X6_clientAt : yX6_clientAt.cls ≠ "java/lang/invoke/MethodHandle" ∧ yX6_clientAt.cls ≠ "java/lang/invoke/VarHandle" ∧ (parseMethodDescriptor yX6_clientAt.desc).map (fun d => d.parameters.length) = some 1 := by decide +kernel
abbrev wX5_usesAgain : List Cond := Cond.code yX5_usesAgain cX5_usesAgain 2 (Option.some Jvm.ClassFile.FieldType.int) :: xTs
theorem xd_X5_usesAgain : yX5_usesAgain.cls ≠ "java/lang/invoke/MethodHandle" ∧ yX5_usesAgain.cls ≠ "java/lang/invoke/VarHandle" ∧ (parseMethodDescriptor yX5_usesAgain.desc).map (fun d => d.parameters.length) = some 1 := by decide +kernel
abbrev wX6_adapter : List Cond := Cond.code yX6_adapter cX6_adapter 8 (Option.some Jvm.ClassFile.FieldType.int) :: xTs
theorem xd_X6_adapter : yX6_adapter.cls ≠ "java/lang/invoke/MethodHandle" ∧ yX6_adapter.cls ≠ "java/lang/invoke/VarHandle" ∧ (parseMethodDescriptor yX6_adapter.desc).map (fun d => d.parameters.length) = some 5 := by decide +kernel
abbrev wX0_init : List Cond := Cond.code yX0_init cX0_init 5 (Option.none : Option Jvm.ClassFile.FieldType) :: xTs
theorem xd_X0_init : yX0_init.cls ≠ "java/lang/invoke/MethodHandle" ∧ yX0_init.cls ≠ "java/lang/invoke/VarHandle" ∧ (parseMethodDescriptor yX0_init.desc).map (fun d => d.parameters.length) = some 4 := by decide +kernel
abbrev wX6_ofClient : List Cond := Cond.code yX6_ofClient cX6_ofClient 4 (Option.some Jvm.ClassFile.FieldType.int) :: xTs
theorem xd_X6_ofClient : yX6_ofClient.cls ≠ "java/lang/invoke/MethodHandle" ∧ yX6_ofClient.cls ≠ "java/lang/invoke/VarHandle" ∧ (parseMethodDescriptor yX6_ofClient.desc).map (fun d => d.parameters.length) = some 2 := by decide +kernel
abbrev wX6_clientFact : List Cond := Cond.code yX6_clientFact cX6_clientFact 3 (Option.some Jvm.ClassFile.FieldType.int) :: xTs
theorem xd_X6_clientFact : yX6_clientFact.cls ≠ "java/lang/invoke/MethodHandle" ∧ yX6_clientFact.cls ≠ "java/lang/invoke/VarHandle" ∧ (parseMethodDescriptor yX6_clientFact.desc).map (fun d => d.parameters.length) = some 2 := by decide +kernel
abbrev wX6_findOwnRoute : List Cond := Cond.code yX6_findOwnRoute cX6_findOwnRoute 2 (Option.some Jvm.ClassFile.FieldType.boolean) :: xTs
theorem xd_X6_findOwnRoute : yX6_findOwnRoute.cls ≠ "java/lang/invoke/MethodHandle" ∧ yX6_findOwnRoute.cls ≠ "java/lang/invoke/VarHandle" ∧ (parseMethodDescriptor yX6_findOwnRoute.desc).map (fun d => d.parameters.length) = some 1 := by decide +kernel
abbrev wX6_call : List Cond := Cond.code yX6_call cX6_call 6 (Option.some Jvm.ClassFile.FieldType.int) :: xTs
theorem xd_X6_call : yX6_call.cls ≠ "java/lang/invoke/MethodHandle" ∧ yX6_call.cls ≠ "java/lang/invoke/VarHandle" ∧ (parseMethodDescriptor yX6_call.desc).map (fun d => d.parameters.length) = some 2 := by decide +kernel
abbrev wX6_isServedCall : List Cond := Cond.code yX6_isServedCall cX6_isServedCall 5 (Option.some Jvm.ClassFile.FieldType.boolean) :: xTs
theorem xd_X6_isServedCall : yX6_isServedCall.cls ≠ "java/lang/invoke/MethodHandle" ∧ yX6_isServedCall.cls ≠ "java/lang/invoke/VarHandle" ∧ (parseMethodDescriptor yX6_isServedCall.desc).map (fun d => d.parameters.length) = some 1 := by decide +kernel
abbrev wX3_ask : List Cond := Cond.code yX3_ask cX3_ask 3 (Option.some Jvm.ClassFile.FieldType.boolean) :: xTs
theorem xd_X3_ask : yX3_ask.cls ≠ "java/lang/invoke/MethodHandle" ∧ yX3_ask.cls ≠ "java/lang/invoke/VarHandle" ∧ (parseMethodDescriptor yX3_ask.desc).map (fun d => d.parameters.length) = some 2 := by decide +kernel
abbrev wX1_servedThisHourBy : List Cond := Cond.code yX1_servedThisHourBy cX1_servedThisHourBy 3 (Option.some Jvm.ClassFile.FieldType.int) :: xTs
theorem xd_X1_servedThisHourBy : yX1_servedThisHourBy.cls ≠ "java/lang/invoke/MethodHandle" ∧ yX1_servedThisHourBy.cls ≠ "java/lang/invoke/VarHandle" ∧ (parseMethodDescriptor yX1_servedThisHourBy.desc).map (fun d => d.parameters.length) = some 1 := by decide +kernel
abbrev wX6_outcomeOf : List Cond := Cond.code yX6_outcomeOf cX6_outcomeOf 6 (Option.some Jvm.ClassFile.FieldType.int) :: xTs
theorem xd_X6_outcomeOf : yX6_outcomeOf.cls ≠ "java/lang/invoke/MethodHandle" ∧ yX6_outcomeOf.cls ≠ "java/lang/invoke/VarHandle" ∧ (parseMethodDescriptor yX6_outcomeOf.desc).map (fun d => d.parameters.length) = some 4 := by decide +kernel
abbrev wX3_isBrownedOut : List Cond := Cond.code yX3_isBrownedOut cX3_isBrownedOut 3 (Option.some Jvm.ClassFile.FieldType.boolean) :: xTs
theorem xd_X3_isBrownedOut : yX3_isBrownedOut.cls ≠ "java/lang/invoke/MethodHandle" ∧ yX3_isBrownedOut.cls ≠ "java/lang/invoke/VarHandle" ∧ (parseMethodDescriptor yX3_isBrownedOut.desc).map (fun d => d.parameters.length) = some 1 := by decide +kernel
abbrev wX3_quota : List Cond := Cond.code yX3_quota cX3_quota 2 (Option.some Jvm.ClassFile.FieldType.int) :: xTs
theorem xd_X3_quota : yX3_quota.cls ≠ "java/lang/invoke/MethodHandle" ∧ yX3_quota.cls ≠ "java/lang/invoke/VarHandle" ∧ (parseMethodDescriptor yX3_quota.desc).map (fun d => d.parameters.length) = some 1 := by decide +kernel
abbrev wX1_noteCall : List Cond := Cond.code yX1_noteCall cX1_noteCall 4 (Option.none : Option Jvm.ClassFile.FieldType) :: xTs
theorem xd_X1_noteCall : yX1_noteCall.cls ≠ "java/lang/invoke/MethodHandle" ∧ yX1_noteCall.cls ≠ "java/lang/invoke/VarHandle" ∧ (parseMethodDescriptor yX1_noteCall.desc).map (fun d => d.parameters.length) = some 2 := by decide +kernel
abbrev wX6_lastCall : List Cond := Cond.code yX6_lastCall cX6_lastCall 5 (Option.some Jvm.ClassFile.FieldType.int) :: xTs
theorem xd_X6_lastCall : yX6_lastCall.cls ≠ "java/lang/invoke/MethodHandle" ∧ yX6_lastCall.cls ≠ "java/lang/invoke/VarHandle" ∧ (parseMethodDescriptor yX6_lastCall.desc).map (fun d => d.parameters.length) = some 2 := by decide +kernel
abbrev wX6_hoursSinceCall : List Cond := Cond.code yX6_hoursSinceCall cX6_hoursSinceCall 4 (Option.some Jvm.ClassFile.FieldType.int) :: xTs
theorem xd_X6_hoursSinceCall : yX6_hoursSinceCall.cls ≠ "java/lang/invoke/MethodHandle" ∧ yX6_hoursSinceCall.cls ≠ "java/lang/invoke/VarHandle" ∧ (parseMethodDescriptor yX6_hoursSinceCall.desc).map (fun d => d.parameters.length) = some 2 := by decide +kernel
abbrev wX6_retire : List Cond := Cond.code yX6_retire cX6_retire 5 (Option.some Jvm.ClassFile.FieldType.int) :: xTs
theorem xd_X6_retire : yX6_retire.cls ≠ "java/lang/invoke/MethodHandle" ∧ yX6_retire.cls ≠ "java/lang/invoke/VarHandle" ∧ (parseMethodDescriptor yX6_retire.desc).map (fun d => d.parameters.length) = some 3 := by decide +kernel
abbrev wX6_startRetirement : List Cond := Cond.code yX6_startRetirement cX6_startRetirement 7 (Option.some Jvm.ClassFile.FieldType.int) :: xTs
theorem xd_X6_startRetirement : yX6_startRetirement.cls ≠ "java/lang/invoke/MethodHandle" ∧ yX6_startRetirement.cls ≠ "java/lang/invoke/VarHandle" ∧ (parseMethodDescriptor yX6_startRetirement.desc).map (fun d => d.parameters.length) = some 3 := by decide +kernel
abbrev wX3_start : List Cond := Cond.code yX3_start cX3_start 3 (Option.none : Option Jvm.ClassFile.FieldType) :: xTs
theorem xd_X3_start : yX3_start.cls ≠ "java/lang/invoke/MethodHandle" ∧ yX3_start.cls ≠ "java/lang/invoke/VarHandle" ∧ (parseMethodDescriptor yX3_start.desc).map (fun d => d.parameters.length) = some 2 := by decide +kernel
abbrev wX3_clear : List Cond := Cond.code yX3_clear cX3_clear 1 (Option.none : Option Jvm.ClassFile.FieldType) :: xTs
theorem xd_X3_clear : yX3_clear.cls ≠ "java/lang/invoke/MethodHandle" ∧ yX3_clear.cls ≠ "java/lang/invoke/VarHandle" ∧ (parseMethodDescriptor yX3_clear.desc).map (fun d => d.parameters.length) = some 0 := by decide +kernel
abbrev wX6_answer : List Cond := Cond.code yX6_answer cX6_answer 6 (Option.some Jvm.ClassFile.FieldType.boolean) :: xTs
theorem xd_X6_answer : yX6_answer.cls ≠ "java/lang/invoke/MethodHandle" ∧ yX6_answer.cls ≠ "java/lang/invoke/VarHandle" ∧ (parseMethodDescriptor yX6_answer.desc).map (fun d => d.parameters.length) = some 3 := by decide +kernel
abbrev wX6_asked : List Cond := Cond.code yX6_asked cX6_asked 5 (Option.some Jvm.ClassFile.FieldType.int) :: xTs
theorem xd_X6_asked : yX6_asked.cls ≠ "java/lang/invoke/MethodHandle" ∧ yX6_asked.cls ≠ "java/lang/invoke/VarHandle" ∧ (parseMethodDescriptor yX6_asked.desc).map (fun d => d.parameters.length) = some 3 := by decide +kernel
abbrev wX6_askedState : List Cond := Cond.code yX6_askedState cX6_askedState 4 (Option.some Jvm.ClassFile.FieldType.int) :: xTs
theorem xd_X6_askedState : yX6_askedState.cls ≠ "java/lang/invoke/MethodHandle" ∧ yX6_askedState.cls ≠ "java/lang/invoke/VarHandle" ∧ (parseMethodDescriptor yX6_askedState.desc).map (fun d => d.parameters.length) = some 2 := by decide +kernel
abbrev wX6_many : List Cond := Cond.code yX6_many cX6_many 2 (Option.some Jvm.ClassFile.FieldType.int) :: xTs
theorem xd_X6_many : yX6_many.cls ≠ "java/lang/invoke/MethodHandle" ∧ yX6_many.cls ≠ "java/lang/invoke/VarHandle" ∧ (parseMethodDescriptor yX6_many.desc).map (fun d => d.parameters.length) = some 1 := by decide +kernel
abbrev wX6_countOf : List Cond := Cond.code yX6_countOf cX6_countOf 2 (Option.some Jvm.ClassFile.FieldType.int) :: xTs
theorem xd_X6_countOf : yX6_countOf.cls ≠ "java/lang/invoke/MethodHandle" ∧ yX6_countOf.cls ≠ "java/lang/invoke/VarHandle" ∧ (parseMethodDescriptor yX6_countOf.desc).map (fun d => d.parameters.length) = some 1 := by decide +kernel
abbrev wX6_countVersions : List Cond := Cond.code yX6_countVersions cX6_countVersions 6 (Option.some Jvm.ClassFile.FieldType.int) :: xTs
theorem xd_X6_countVersions : yX6_countVersions.cls ≠ "java/lang/invoke/MethodHandle" ∧ yX6_countVersions.cls ≠ "java/lang/invoke/VarHandle" ∧ (parseMethodDescriptor yX6_countVersions.desc).map (fun d => d.parameters.length) = some 1 := by decide +kernel
abbrev wX6_wouldCome : List Cond := Cond.code yX6_wouldCome cX6_wouldCome 4 (Option.some Jvm.ClassFile.FieldType.int) :: xTs
theorem xd_X6_wouldCome : yX6_wouldCome.cls ≠ "java/lang/invoke/MethodHandle" ∧ yX6_wouldCome.cls ≠ "java/lang/invoke/VarHandle" ∧ (parseMethodDescriptor yX6_wouldCome.desc).map (fun d => d.parameters.length) = some 2 := by decide +kernel
abbrev wX6_outcomeIn : List Cond := Cond.code yX6_outcomeIn cX6_outcomeIn 6 (Option.some Jvm.ClassFile.FieldType.int) :: xTs
theorem xd_X6_outcomeIn : yX6_outcomeIn.cls ≠ "java/lang/invoke/MethodHandle" ∧ yX6_outcomeIn.cls ≠ "java/lang/invoke/VarHandle" ∧ (parseMethodDescriptor yX6_outcomeIn.desc).map (fun d => d.parameters.length) = some 2 := by decide +kernel
abbrev wX6_hoursTillGone : List Cond := Cond.code yX6_hoursTillGone cX6_hoursTillGone 6 (Option.some Jvm.ClassFile.FieldType.int) :: xTs
theorem xd_X6_hoursTillGone : yX6_hoursTillGone.cls ≠ "java/lang/invoke/MethodHandle" ∧ yX6_hoursTillGone.cls ≠ "java/lang/invoke/VarHandle" ∧ (parseMethodDescriptor yX6_hoursTillGone.desc).map (fun d => d.parameters.length) = some 3 := by decide +kernel
abbrev wX6_target : List Cond := Cond.code yX6_target cX6_target 3 (Option.some Jvm.ClassFile.FieldType.int) :: xTs
theorem xd_X6_target : yX6_target.cls ≠ "java/lang/invoke/MethodHandle" ∧ yX6_target.cls ≠ "java/lang/invoke/VarHandle" ∧ (parseMethodDescriptor yX6_target.desc).map (fun d => d.parameters.length) = some 1 := by decide +kernel
abbrev wX6_nearestOpen : List Cond := Cond.code yX6_nearestOpen cX6_nearestOpen 7 (Option.some Jvm.ClassFile.FieldType.int) :: xTs
theorem xd_X6_nearestOpen : yX6_nearestOpen.cls ≠ "java/lang/invoke/MethodHandle" ∧ yX6_nearestOpen.cls ≠ "java/lang/invoke/VarHandle" ∧ (parseMethodDescriptor yX6_nearestOpen.desc).map (fun d => d.parameters.length) = some 1 := by decide +kernel
abbrev wJ6_bitCount_0f7a4 : List Cond := Cond.code yJ6_bitCount_0f7a4 cJ6_bitCount_0f7a4 1 (Option.some Jvm.ClassFile.FieldType.int) :: xTs
theorem xd_J6_bitCount_0f7a4 : yJ6_bitCount_0f7a4.cls ≠ "java/lang/invoke/MethodHandle" ∧ yJ6_bitCount_0f7a4.cls ≠ "java/lang/invoke/VarHandle" ∧ (parseMethodDescriptor yJ6_bitCount_0f7a4.desc).map (fun d => d.parameters.length) = some 1 := by decide +kernel
abbrev wX6_digest : List Cond := Cond.code yX6_digest cX6_digest 6 (Option.some Jvm.ClassFile.FieldType.long) :: xTs
theorem xd_X6_digest : yX6_digest.cls ≠ "java/lang/invoke/MethodHandle" ∧ yX6_digest.cls ≠ "java/lang/invoke/VarHandle" ∧ (parseMethodDescriptor yX6_digest.desc).map (fun d => d.parameters.length) = some 0 := by decide +kernel
abbrev wX6_digestVersion : List Cond := Cond.code yX6_digestVersion cX6_digestVersion 7 (Option.some Jvm.ClassFile.FieldType.long) :: xTs
theorem xd_X6_digestVersion : yX6_digestVersion.cls ≠ "java/lang/invoke/MethodHandle" ∧ yX6_digestVersion.cls ≠ "java/lang/invoke/VarHandle" ∧ (parseMethodDescriptor yX6_digestVersion.desc).map (fun d => d.parameters.length) = some 2 := by decide +kernel
abbrev wX6_hoursLeft : List Cond := Cond.code yX6_hoursLeft cX6_hoursLeft 2 (Option.some Jvm.ClassFile.FieldType.int) :: xTs
theorem xd_X6_hoursLeft : yX6_hoursLeft.cls ≠ "java/lang/invoke/MethodHandle" ∧ yX6_hoursLeft.cls ≠ "java/lang/invoke/VarHandle" ∧ (parseMethodDescriptor yX6_hoursLeft.desc).map (fun d => d.parameters.length) = some 1 := by decide +kernel
abbrev wX6_digestClient : List Cond := Cond.code yX6_digestClient cX6_digestClient 8 (Option.some Jvm.ClassFile.FieldType.long) :: xTs
theorem xd_X6_digestClient : yX6_digestClient.cls ≠ "java/lang/invoke/MethodHandle" ∧ yX6_digestClient.cls ≠ "java/lang/invoke/VarHandle" ∧ (parseMethodDescriptor yX6_digestClient.desc).map (fun d => d.parameters.length) = some 2 := by decide +kernel
abbrev wL_below : List Cond := Cond.code yL_below cL_below 2 (Option.some Jvm.ClassFile.FieldType.int) :: xTs
theorem xd_L_below : yL_below.cls ≠ "java/lang/invoke/MethodHandle" ∧ yL_below.cls ≠ "java/lang/invoke/VarHandle" ∧ (parseMethodDescriptor yL_below.desc).map (fun d => d.parameters.length) = some 2 := by decide +kernel
abbrev wL_cell : List Cond := Cond.code yL_cell cL_cell 2 (Option.some Jvm.ClassFile.FieldType.int) :: xTs
theorem xd_L_cell : yL_cell.cls ≠ "java/lang/invoke/MethodHandle" ∧ yL_cell.cls ≠ "java/lang/invoke/VarHandle" ∧ (parseMethodDescriptor yL_cell.desc).map (fun d => d.parameters.length) = some 2 := by decide +kernel
abbrev wL_isKind : List Cond := Cond.code yL_isKind cL_isKind 12 (Option.some Jvm.ClassFile.FieldType.boolean) :: xTs
theorem xd_L_isKind : yL_isKind.cls ≠ "java/lang/invoke/MethodHandle" ∧ yL_isKind.cls ≠ "java/lang/invoke/VarHandle" ∧ (parseMethodDescriptor yL_isKind.desc).map (fun d => d.parameters.length) = some 3 := by decide +kernel
abbrev wX6_pass : List Cond := Cond.code yX6_pass cX6_pass 4 (Option.some Jvm.ClassFile.FieldType.int) :: xTs
theorem xd_X6_pass : yX6_pass.cls ≠ "java/lang/invoke/MethodHandle" ∧ yX6_pass.cls ≠ "java/lang/invoke/VarHandle" ∧ (parseMethodDescriptor yX6_pass.desc).map (fun d => d.parameters.length) = some 1 := by decide +kernel
abbrev wX6_beginHour : List Cond := Cond.code yX6_beginHour cX6_beginHour 5 (Option.some Jvm.ClassFile.FieldType.int) :: xTs
theorem xd_X6_beginHour : yX6_beginHour.cls ≠ "java/lang/invoke/MethodHandle" ∧ yX6_beginHour.cls ≠ "java/lang/invoke/VarHandle" ∧ (parseMethodDescriptor yX6_beginHour.desc).map (fun d => d.parameters.length) = some 0 := by decide +kernel
abbrev wX6_isGoneAtEnd : List Cond := Cond.code yX6_isGoneAtEnd cX6_isGoneAtEnd 2 (Option.some Jvm.ClassFile.FieldType.boolean) :: xTs
theorem xd_X6_isGoneAtEnd : yX6_isGoneAtEnd.cls ≠ "java/lang/invoke/MethodHandle" ∧ yX6_isGoneAtEnd.cls ≠ "java/lang/invoke/VarHandle" ∧ (parseMethodDescriptor yX6_isGoneAtEnd.desc).map (fun d => d.parameters.length) = some 1 := by decide +kernel
end
section
theorem dX0_init_0 : decode cX0_init 0 = .ok (.aload_n 0, 1) := by decide +kernel
theorem dX0_init_1 : decode cX0_init 1 = .ok (.invokespecial 1, 3) := by decide +kernel
theorem dX0_init_4 : decode cX0_init 4 = .ok (.aload_n 0, 1) := by decide +kernel
theorem dX0_init_5 : decode cX0_init 5 = .ok (.aload_n 1, 1) := by decide +kernel
theorem dX0_init_6 : decode cX0_init 6 = .ok (.putfield 7, 3) := by decide +kernel
theorem dX0_init_9 : decode cX0_init 9 = .ok (.aload_n 0, 1) := by decide +kernel
theorem dX0_init_10 : decode cX0_init 10 = .ok (.aload_n 2, 1) := by decide +kernel
theorem dX0_init_11 : decode cX0_init 11 = .ok (.putfield 13, 3) := by decide +kernel
theorem dX0_init_14 : decode cX0_init 14 = .ok (.aload_n 0, 1) := by decide +kernel
theorem dX0_init_15 : decode cX0_init 15 = .ok (.iload_n 3, 1) := by decide +kernel
theorem dX0_init_16 : decode cX0_init 16 = .ok (.putfield 16, 3) := by decide +kernel
theorem dX0_init_19 : decode cX0_init 19 = .ok (.aload_n 0, 1) := by decide +kernel
theorem dX0_init_20 : decode cX0_init 20 = .ok (.iload 4, 2) := by decide +kernel
theorem dX0_init_22 : decode cX0_init 22 = .ok (.putfield 20, 3) := by decide +kernel
theorem dX0_init_25 : decode cX0_init 25 = .ok (.return_, 1) := by decide +kernel
theorem dX0_makesOf_0 : decode cX0_makesOf 0 = .ok (.iload_n 1, 1) := by decide +kernel
theorem dX0_makesOf_1 : decode cX0_makesOf 1 = .ok (.aload_n 0, 1) := by decide +kernel
theorem dX0_makesOf_2 : decode cX0_makesOf 2 = .ok (.getfield 20, 3) := by decide +kernel
theorem dX0_makesOf_5 : decode cX0_makesOf 5 = .ok (.iconst (-1), 1) := by decide +kernel
theorem dX0_makesOf_6 : decode cX0_makesOf 6 = .ok (.ixor, 1) := by decide +kernel
theorem dX0_makesOf_7 : decode cX0_makesOf 7 = .ok (.iand, 1) := by decide +kernel
theorem dX0_makesOf_8 : decode cX0_makesOf 8 = .ok (.aload_n 0, 1) := by decide +kernel
theorem dX0_makesOf_9 : decode cX0_makesOf 9 = .ok (.getfield 16, 3) := by decide +kernel
theorem dX0_makesOf_12 : decode cX0_makesOf 12 = .ok (.ior, 1) := by decide +kernel
theorem dX0_makesOf_13 : decode cX0_makesOf 13 = .ok (.ireturn, 1) := by decide +kernel
theorem dX1_init_0 : decode cX1_init 0 = .ok (.aload_n 0, 1) := by decide +kernel
theorem dX1_init_1 : decode cX1_init 1 = .ok (.invokespecial 3, 3) := by decide +kernel
theorem dX1_init_4 : decode cX1_init 4 = .ok (.aload_n 0, 1) := by decide +kernel
theorem dX1_init_5 : decode cX1_init 5 = .ok (.bipush 6, 2) := by decide +kernel
theorem dX1_init_7 : decode cX1_init 7 = .ok (.newarray .int, 2) := by decide +kernel
theorem dX1_init_9 : decode cX1_init 9 = .ok (.putfield 9, 3) := by decide +kernel
theorem dX1_init_12 : decode cX1_init 12 = .ok (.aload_n 0, 1) := by decide +kernel
theorem dX1_init_13 : decode cX1_init 13 = .ok (.bipush 6, 2) := by decide +kernel
theorem dX1_init_15 : decode cX1_init 15 = .ok (.newarray .int, 2) := by decide +kernel
theorem dX1_init_17 : decode cX1_init 17 = .ok (.putfield 15, 3) := by decide +kernel
theorem dX1_init_20 : decode cX1_init 20 = .ok (.aload_n 0, 1) := by decide +kernel
theorem dX1_init_21 : decode cX1_init 21 = .ok (.iload_n 1, 1) := by decide +kernel
theorem dX1_init_22 : decode cX1_init 22 = .ok (.putfield 18, 3) := by decide +kernel
theorem dX1_init_25 : decode cX1_init 25 = .ok (.aload_n 0, 1) := by decide +kernel
theorem dX1_init_26 : decode cX1_init 26 = .ok (.aload_n 2, 1) := by decide +kernel
theorem dX1_init_27 : decode cX1_init 27 = .ok (.getfield 22, 3) := by decide +kernel
theorem dX1_init_30 : decode cX1_init 30 = .ok (.putfield 28, 3) := by decide +kernel
theorem dX1_init_33 : decode cX1_init 33 = .ok (.aload_n 0, 1) := by decide +kernel
theorem dX1_init_34 : decode cX1_init 34 = .ok (.aload_n 2, 1) := by decide +kernel
theorem dX1_init_35 : decode cX1_init 35 = .ok (.putfield 29, 3) := by decide +kernel
theorem dX1_init_38 : decode cX1_init 38 = .ok (.aload_n 0, 1) := by decide +kernel
theorem dX1_init_39 : decode cX1_init 39 = .ok (.iload_n 3, 1) := by decide +kernel
theorem dX1_init_40 : decode cX1_init 40 = .ok (.putfield 33, 3) := by decide +kernel
theorem dX1_init_43 : decode cX1_init 43 = .ok (.aload_n 0, 1) := by decide +kernel
theorem dX1_init_44 : decode cX1_init 44 = .ok (.getfield 9, 3) := by decide +kernel
theorem dX1_init_47 : decode cX1_init 47 = .ok (.iconst (-1), 1) := by decide +kernel
theorem dX1_init_48 : decode cX1_init 48 = .ok (.invokestatic 36, 3) := by decide +kernel
theorem dX1_init_51 : decode cX1_init 51 = .ok (.return_, 1) := by decide +kernel
theorem dX1_calledAtOf_0 : decode cX1_calledAtOf 0 = .ok (.aload_n 1, 1) := by decide +kernel
theorem dX1_calledAtOf_1 : decode cX1_calledAtOf 1 = .ok (.getfield 22, 3) := by decide +kernel
theorem dX1_calledAtOf_4 : decode cX1_calledAtOf 4 = .ok (.aload_n 0, 1) := by decide +kernel
theorem dX1_calledAtOf_5 : decode cX1_calledAtOf 5 = .ok (.getfield 28, 3) := by decide +kernel
theorem dX1_calledAtOf_8 : decode cX1_calledAtOf 8 = .ok (.if_acmp .ne 26, 3) := by decide +kernel
theorem dX1_calledAtOf_11 : decode cX1_calledAtOf 11 = .ok (.aload_n 1, 1) := by decide +kernel
theorem dX1_calledAtOf_12 : decode cX1_calledAtOf 12 = .ok (.getfield 42, 3) := by decide +kernel
theorem dX1_calledAtOf_15 : decode cX1_calledAtOf 15 = .ok (.ifCond .lt 19, 3) := by decide +kernel
theorem dX1_calledAtOf_18 : decode cX1_calledAtOf 18 = .ok (.aload_n 1, 1) := by decide +kernel
theorem dX1_calledAtOf_19 : decode cX1_calledAtOf 19 = .ok (.getfield 42, 3) := by decide +kernel
theorem dX1_calledAtOf_22 : decode cX1_calledAtOf 22 = .ok (.aload_n 0, 1) := by decide +kernel
theorem dX1_calledAtOf_23 : decode cX1_calledAtOf 23 = .ok (.getfield 9, 3) := by decide +kernel
theorem dX1_calledAtOf_26 : decode cX1_calledAtOf 26 = .ok (.arraylength, 1) := by decide +kernel
theorem dX1_calledAtOf_27 : decode cX1_calledAtOf 27 = .ok (.if_icmp .ge 7, 3) := by decide +kernel
theorem dX1_calledAtOf_30 : decode cX1_calledAtOf 30 = .ok (.iconst 1, 1) := by decide +kernel
theorem dX1_calledAtOf_31 : decode cX1_calledAtOf 31 = .ok (.goto 4, 3) := by decide +kernel
theorem dX1_calledAtOf_34 : decode cX1_calledAtOf 34 = .ok (.iconst 0, 1) := by decide +kernel
theorem dX1_calledAtOf_35 : decode cX1_calledAtOf 35 = .ok (.istore_n 2, 1) := by decide +kernel
theorem dX1_calledAtOf_36 : decode cX1_calledAtOf 36 = .ok (.iload_n 2, 1) := by decide +kernel
theorem dX1_calledAtOf_37 : decode cX1_calledAtOf 37 = .ok (.ifCond .eq 15, 3) := by decide +kernel
theorem dX1_calledAtOf_40 : decode cX1_calledAtOf 40 = .ok (.aload_n 0, 1) := by decide +kernel
theorem dX1_calledAtOf_41 : decode cX1_calledAtOf 41 = .ok (.getfield 9, 3) := by decide +kernel
theorem dX1_calledAtOf_44 : decode cX1_calledAtOf 44 = .ok (.aload_n 1, 1) := by decide +kernel
theorem dX1_calledAtOf_45 : decode cX1_calledAtOf 45 = .ok (.getfield 42, 3) := by decide +kernel
theorem dX1_calledAtOf_48 : decode cX1_calledAtOf 48 = .ok (.iaload, 1) := by decide +kernel
theorem dX1_calledAtOf_49 : decode cX1_calledAtOf 49 = .ok (.goto 4, 3) := by decide +kernel
theorem dX1_calledAtOf_52 : decode cX1_calledAtOf 52 = .ok (.iconst (-1), 1) := by decide +kernel
theorem dX1_calledAtOf_53 : decode cX1_calledAtOf 53 = .ok (.ireturn, 1) := by decide +kernel
theorem dX1_isCallerOf_0 : decode cX1_isCallerOf 0 = .ok (.aload_n 0, 1) := by decide +kernel
theorem dX1_isCallerOf_1 : decode cX1_isCallerOf 1 = .ok (.aload_n 1, 1) := by decide +kernel
theorem dX1_isCallerOf_2 : decode cX1_isCallerOf 2 = .ok (.invokevirtual 45, 3) := by decide +kernel
theorem dX1_isCallerOf_5 : decode cX1_isCallerOf 5 = .ok (.istore_n 3, 1) := by decide +kernel
theorem dX1_isCallerOf_6 : decode cX1_isCallerOf 6 = .ok (.iload_n 3, 1) := by decide +kernel
theorem dX1_isCallerOf_7 : decode cX1_isCallerOf 7 = .ok (.iconst (-1), 1) := by decide +kernel
theorem dX1_isCallerOf_8 : decode cX1_isCallerOf 8 = .ok (.if_icmp .eq 15, 3) := by decide +kernel
theorem dX1_isCallerOf_11 : decode cX1_isCallerOf 11 = .ok (.iload_n 2, 1) := by decide +kernel
theorem dX1_isCallerOf_12 : decode cX1_isCallerOf 12 = .ok (.iload_n 3, 1) := by decide +kernel
theorem dX1_isCallerOf_13 : decode cX1_isCallerOf 13 = .ok (.isub, 1) := by decide +kernel
theorem dX1_isCallerOf_14 : decode cX1_isCallerOf 14 = .ok (.bipush 24, 2) := by decide +kernel
theorem dX1_isCallerOf_16 : decode cX1_isCallerOf 16 = .ok (.if_icmp .ge 7, 3) := by decide +kernel
theorem dX1_isCallerOf_19 : decode cX1_isCallerOf 19 = .ok (.iconst 1, 1) := by decide +kernel
theorem dX1_isCallerOf_20 : decode cX1_isCallerOf 20 = .ok (.goto 4, 3) := by decide +kernel
theorem dX1_isCallerOf_23 : decode cX1_isCallerOf 23 = .ok (.iconst 0, 1) := by decide +kernel
theorem dX1_isCallerOf_24 : decode cX1_isCallerOf 24 = .ok (.ireturn, 1) := by decide +kernel
theorem dX1_servedThisHourBy_0 : decode cX1_servedThisHourBy 0 = .ok (.aload_n 1, 1) := by decide +kernel
theorem dX1_servedThisHourBy_1 : decode cX1_servedThisHourBy 1 = .ok (.getfield 22, 3) := by decide +kernel
theorem dX1_servedThisHourBy_4 : decode cX1_servedThisHourBy 4 = .ok (.aload_n 0, 1) := by decide +kernel
theorem dX1_servedThisHourBy_5 : decode cX1_servedThisHourBy 5 = .ok (.getfield 28, 3) := by decide +kernel
theorem dX1_servedThisHourBy_8 : decode cX1_servedThisHourBy 8 = .ok (.if_acmp .ne 26, 3) := by decide +kernel
theorem dX1_servedThisHourBy_11 : decode cX1_servedThisHourBy 11 = .ok (.aload_n 1, 1) := by decide +kernel
theorem dX1_servedThisHourBy_12 : decode cX1_servedThisHourBy 12 = .ok (.getfield 42, 3) := by decide +kernel
theorem dX1_servedThisHourBy_15 : decode cX1_servedThisHourBy 15 = .ok (.ifCond .lt 19, 3) := by decide +kernel
theorem dX1_servedThisHourBy_18 : decode cX1_servedThisHourBy 18 = .ok (.aload_n 1, 1) := by decide +kernel
theorem dX1_servedThisHourBy_19 : decode cX1_servedThisHourBy 19 = .ok (.getfield 42, 3) := by decide +kernel
theorem dX1_servedThisHourBy_22 : decode cX1_servedThisHourBy 22 = .ok (.aload_n 0, 1) := by decide +kernel
theorem dX1_servedThisHourBy_23 : decode cX1_servedThisHourBy 23 = .ok (.getfield 15, 3) := by decide +kernel
theorem dX1_servedThisHourBy_26 : decode cX1_servedThisHourBy 26 = .ok (.arraylength, 1) := by decide +kernel
theorem dX1_servedThisHourBy_27 : decode cX1_servedThisHourBy 27 = .ok (.if_icmp .ge 7, 3) := by decide +kernel
theorem dX1_servedThisHourBy_30 : decode cX1_servedThisHourBy 30 = .ok (.iconst 1, 1) := by decide +kernel
theorem dX1_servedThisHourBy_31 : decode cX1_servedThisHourBy 31 = .ok (.goto 4, 3) := by decide +kernel
theorem dX1_servedThisHourBy_34 : decode cX1_servedThisHourBy 34 = .ok (.iconst 0, 1) := by decide +kernel
theorem dX1_servedThisHourBy_35 : decode cX1_servedThisHourBy 35 = .ok (.istore_n 2, 1) := by decide +kernel
theorem dX1_servedThisHourBy_36 : decode cX1_servedThisHourBy 36 = .ok (.iload_n 2, 1) := by decide +kernel
theorem dX1_servedThisHourBy_37 : decode cX1_servedThisHourBy 37 = .ok (.ifCond .eq 15, 3) := by decide +kernel
theorem dX1_servedThisHourBy_40 : decode cX1_servedThisHourBy 40 = .ok (.aload_n 0, 1) := by decide +kernel
theorem dX1_servedThisHourBy_41 : decode cX1_servedThisHourBy 41 = .ok (.getfield 15, 3) := by decide +kernel
theorem dX1_servedThisHourBy_44 : decode cX1_servedThisHourBy 44 = .ok (.aload_n 1, 1) := by decide +kernel
theorem dX1_servedThisHourBy_45 : decode cX1_servedThisHourBy 45 = .ok (.getfield 42, 3) := by decide +kernel
theorem dX1_servedThisHourBy_48 : decode cX1_servedThisHourBy 48 = .ok (.iaload, 1) := by decide +kernel
theorem dX1_servedThisHourBy_49 : decode cX1_servedThisHourBy 49 = .ok (.goto 4, 3) := by decide +kernel
theorem dX1_servedThisHourBy_52 : decode cX1_servedThisHourBy 52 = .ok (.iconst 0, 1) := by decide +kernel
theorem dX1_servedThisHourBy_53 : decode cX1_servedThisHourBy 53 = .ok (.ireturn, 1) := by decide +kernel
theorem dX1_noteCall_0 : decode cX1_noteCall 0 = .ok (.aload_n 0, 1) := by decide +kernel
theorem dX1_noteCall_1 : decode cX1_noteCall 1 = .ok (.dup, 1) := by decide +kernel
theorem dX1_noteCall_2 : decode cX1_noteCall 2 = .ok (.getfield 49, 3) := by decide +kernel
theorem dX1_noteCall_5 : decode cX1_noteCall 5 = .ok (.iconst 1, 1) := by decide +kernel
theorem dX1_noteCall_6 : decode cX1_noteCall 6 = .ok (.iadd, 1) := by decide +kernel
theorem dX1_noteCall_7 : decode cX1_noteCall 7 = .ok (.putfield 49, 3) := by decide +kernel
theorem dX1_noteCall_10 : decode cX1_noteCall 10 = .ok (.iload_n 2, 1) := by decide +kernel
theorem dX1_noteCall_11 : decode cX1_noteCall 11 = .ok (.ifCond .ne 13, 3) := by decide +kernel
theorem dX1_noteCall_14 : decode cX1_noteCall 14 = .ok (.aload_n 0, 1) := by decide +kernel
theorem dX1_noteCall_15 : decode cX1_noteCall 15 = .ok (.dup, 1) := by decide +kernel
theorem dX1_noteCall_16 : decode cX1_noteCall 16 = .ok (.getfield 52, 3) := by decide +kernel
theorem dX1_noteCall_19 : decode cX1_noteCall 19 = .ok (.iconst 1, 1) := by decide +kernel
theorem dX1_noteCall_20 : decode cX1_noteCall 20 = .ok (.iadd, 1) := by decide +kernel
theorem dX1_noteCall_21 : decode cX1_noteCall 21 = .ok (.putfield 52, 3) := by decide +kernel
theorem dX1_noteCall_24 : decode cX1_noteCall 24 = .ok (.aload_n 0, 1) := by decide +kernel
theorem dX1_noteCall_25 : decode cX1_noteCall 25 = .ok (.getfield 29, 3) := by decide +kernel
theorem dX1_noteCall_28 : decode cX1_noteCall 28 = .ok (.getfield 42, 3) := by decide +kernel
theorem dX1_noteCall_31 : decode cX1_noteCall 31 = .ok (.istore_n 3, 1) := by decide +kernel
theorem dX1_noteCall_32 : decode cX1_noteCall 32 = .ok (.iload_n 3, 1) := by decide +kernel
theorem dX1_noteCall_33 : decode cX1_noteCall 33 = .ok (.ifCond .lt 46, 3) := by decide +kernel
theorem dX1_noteCall_36 : decode cX1_noteCall 36 = .ok (.iload_n 3, 1) := by decide +kernel
theorem dX1_noteCall_37 : decode cX1_noteCall 37 = .ok (.aload_n 0, 1) := by decide +kernel
theorem dX1_noteCall_38 : decode cX1_noteCall 38 = .ok (.getfield 9, 3) := by decide +kernel
theorem dX1_noteCall_41 : decode cX1_noteCall 41 = .ok (.arraylength, 1) := by decide +kernel
theorem dX1_noteCall_42 : decode cX1_noteCall 42 = .ok (.if_icmp .ge 37, 3) := by decide +kernel
theorem dX1_noteCall_45 : decode cX1_noteCall 45 = .ok (.iload_n 3, 1) := by decide +kernel
theorem dX1_noteCall_46 : decode cX1_noteCall 46 = .ok (.aload_n 0, 1) := by decide +kernel
theorem dX1_noteCall_47 : decode cX1_noteCall 47 = .ok (.getfield 15, 3) := by decide +kernel
theorem dX1_noteCall_50 : decode cX1_noteCall 50 = .ok (.arraylength, 1) := by decide +kernel
theorem dX1_noteCall_51 : decode cX1_noteCall 51 = .ok (.if_icmp .ge 28, 3) := by decide +kernel
theorem dX1_noteCall_54 : decode cX1_noteCall 54 = .ok (.aload_n 0, 1) := by decide +kernel
theorem dX1_noteCall_55 : decode cX1_noteCall 55 = .ok (.getfield 9, 3) := by decide +kernel
theorem dX1_noteCall_58 : decode cX1_noteCall 58 = .ok (.iload_n 3, 1) := by decide +kernel
theorem dX1_noteCall_59 : decode cX1_noteCall 59 = .ok (.iload_n 1, 1) := by decide +kernel
theorem dX1_noteCall_60 : decode cX1_noteCall 60 = .ok (.iastore, 1) := by decide +kernel
theorem dX1_noteCall_61 : decode cX1_noteCall 61 = .ok (.aload_n 0, 1) := by decide +kernel
theorem dX1_noteCall_62 : decode cX1_noteCall 62 = .ok (.getfield 15, 3) := by decide +kernel
theorem dX1_noteCall_65 : decode cX1_noteCall 65 = .ok (.iload_n 3, 1) := by decide +kernel
theorem dX1_noteCall_66 : decode cX1_noteCall 66 = .ok (.dup2, 1) := by decide +kernel
theorem dX1_noteCall_67 : decode cX1_noteCall 67 = .ok (.iaload, 1) := by decide +kernel
theorem dX1_noteCall_68 : decode cX1_noteCall 68 = .ok (.iload_n 2, 1) := by decide +kernel
theorem dX1_noteCall_69 : decode cX1_noteCall 69 = .ok (.ifCond .eq 7, 3) := by decide +kernel
theorem dX1_noteCall_72 : decode cX1_noteCall 72 = .ok (.iconst 1, 1) := by decide +kernel
theorem dX1_noteCall_73 : decode cX1_noteCall 73 = .ok (.goto 4, 3) := by decide +kernel
theorem dX1_noteCall_76 : decode cX1_noteCall 76 = .ok (.iconst 0, 1) := by decide +kernel
theorem dX1_noteCall_77 : decode cX1_noteCall 77 = .ok (.iadd, 1) := by decide +kernel
theorem dX1_noteCall_78 : decode cX1_noteCall 78 = .ok (.iastore, 1) := by decide +kernel
theorem dX1_noteCall_79 : decode cX1_noteCall 79 = .ok (.return_, 1) := by decide +kernel
theorem dX2_init_0 : decode cX2_init 0 = .ok (.aload_n 0, 1) := by decide +kernel
theorem dX2_init_1 : decode cX2_init 1 = .ok (.invokespecial 3, 3) := by decide +kernel
theorem dX2_init_4 : decode cX2_init 4 = .ok (.aload_n 0, 1) := by decide +kernel
theorem dX2_init_5 : decode cX2_init 5 = .ok (.bipush 6, 2) := by decide +kernel
theorem dX2_init_7 : decode cX2_init 7 = .ok (.anewarray 9, 3) := by decide +kernel
theorem dX2_init_10 : decode cX2_init 10 = .ok (.putfield 11, 3) := by decide +kernel
theorem dX2_init_13 : decode cX2_init 13 = .ok (.aload_n 0, 1) := by decide +kernel
theorem dX2_init_14 : decode cX2_init 14 = .ok (.iload_n 1, 1) := by decide +kernel
theorem dX2_init_15 : decode cX2_init 15 = .ok (.putfield 17, 3) := by decide +kernel
theorem dX2_init_18 : decode cX2_init 18 = .ok (.return_, 1) := by decide +kernel
theorem dX2_versionAt_0 : decode cX2_versionAt 0 = .ok (.iload_n 1, 1) := by decide +kernel
theorem dX2_versionAt_1 : decode cX2_versionAt 1 = .ok (.ifCond .lt 21, 3) := by decide +kernel
theorem dX2_versionAt_4 : decode cX2_versionAt 4 = .ok (.iload_n 1, 1) := by decide +kernel
theorem dX2_versionAt_5 : decode cX2_versionAt 5 = .ok (.aload_n 0, 1) := by decide +kernel
theorem dX2_versionAt_6 : decode cX2_versionAt 6 = .ok (.getfield 11, 3) := by decide +kernel
theorem dX2_versionAt_9 : decode cX2_versionAt 9 = .ok (.arraylength, 1) := by decide +kernel
theorem dX2_versionAt_10 : decode cX2_versionAt 10 = .ok (.if_icmp .ge 12, 3) := by decide +kernel
theorem dX2_versionAt_13 : decode cX2_versionAt 13 = .ok (.aload_n 0, 1) := by decide +kernel
theorem dX2_versionAt_14 : decode cX2_versionAt 14 = .ok (.getfield 11, 3) := by decide +kernel
theorem dX2_versionAt_17 : decode cX2_versionAt 17 = .ok (.iload_n 1, 1) := by decide +kernel
theorem dX2_versionAt_18 : decode cX2_versionAt 18 = .ok (.aaload, 1) := by decide +kernel
theorem dX2_versionAt_19 : decode cX2_versionAt 19 = .ok (.goto 4, 3) := by decide +kernel
theorem dX2_versionAt_22 : decode cX2_versionAt 22 = .ok (.aconst_null, 1) := by decide +kernel
theorem dX2_versionAt_23 : decode cX2_versionAt 23 = .ok (.areturn, 1) := by decide +kernel
theorem dX3_init_0 : decode cX3_init 0 = .ok (.aload_n 0, 1) := by decide +kernel
theorem dX3_init_1 : decode cX3_init 1 = .ok (.invokespecial 3, 3) := by decide +kernel
theorem dX3_init_4 : decode cX3_init 4 = .ok (.aload_n 0, 1) := by decide +kernel
theorem dX3_init_5 : decode cX3_init 5 = .ok (.iconst 5, 1) := by decide +kernel
theorem dX3_init_6 : decode cX3_init 6 = .ok (.newarray .int, 2) := by decide +kernel
theorem dX3_init_8 : decode cX3_init 8 = .ok (.putfield 9, 3) := by decide +kernel
theorem dX3_init_11 : decode cX3_init 11 = .ok (.aload_n 0, 1) := by decide +kernel
theorem dX3_init_12 : decode cX3_init 12 = .ok (.iconst (-1), 1) := by decide +kernel
theorem dX3_init_13 : decode cX3_init 13 = .ok (.putfield 15, 3) := by decide +kernel
theorem dX3_init_16 : decode cX3_init 16 = .ok (.aload_n 0, 1) := by decide +kernel
theorem dX3_init_17 : decode cX3_init 17 = .ok (.iconst (-1), 1) := by decide +kernel
theorem dX3_init_18 : decode cX3_init 18 = .ok (.putfield 19, 3) := by decide +kernel
theorem dX3_init_21 : decode cX3_init 21 = .ok (.aload_n 0, 1) := by decide +kernel
theorem dX3_init_22 : decode cX3_init 22 = .ok (.getfield 9, 3) := by decide +kernel
theorem dX3_init_25 : decode cX3_init 25 = .ok (.iconst (-1), 1) := by decide +kernel
theorem dX3_init_26 : decode cX3_init 26 = .ok (.invokestatic 22, 3) := by decide +kernel
theorem dX3_init_29 : decode cX3_init 29 = .ok (.return_, 1) := by decide +kernel
theorem dX3_start_0 : decode cX3_start 0 = .ok (.aload_n 0, 1) := by decide +kernel
theorem dX3_start_1 : decode cX3_start 1 = .ok (.invokevirtual 28, 3) := by decide +kernel
theorem dX3_start_4 : decode cX3_start 4 = .ok (.aload_n 0, 1) := by decide +kernel
theorem dX3_start_5 : decode cX3_start 5 = .ok (.iload_n 1, 1) := by decide +kernel
theorem dX3_start_6 : decode cX3_start 6 = .ok (.putfield 15, 3) := by decide +kernel
theorem dX3_start_9 : decode cX3_start 9 = .ok (.aload_n 0, 1) := by decide +kernel
theorem dX3_start_10 : decode cX3_start 10 = .ok (.iload_n 1, 1) := by decide +kernel
theorem dX3_start_11 : decode cX3_start 11 = .ok (.iload_n 2, 1) := by decide +kernel
theorem dX3_start_12 : decode cX3_start 12 = .ok (.bipush 24, 2) := by decide +kernel
theorem dX3_start_14 : decode cX3_start 14 = .ok (.imul, 1) := by decide +kernel
theorem dX3_start_15 : decode cX3_start 15 = .ok (.iadd, 1) := by decide +kernel
theorem dX3_start_16 : decode cX3_start 16 = .ok (.putfield 19, 3) := by decide +kernel
theorem dX3_start_19 : decode cX3_start 19 = .ok (.return_, 1) := by decide +kernel
theorem dX3_clear_0 : decode cX3_clear 0 = .ok (.aload_n 0, 1) := by decide +kernel
theorem dX3_clear_1 : decode cX3_clear 1 = .ok (.iconst (-1), 1) := by decide +kernel
theorem dX3_clear_2 : decode cX3_clear 2 = .ok (.putfield 15, 3) := by decide +kernel
theorem dX3_clear_5 : decode cX3_clear 5 = .ok (.aload_n 0, 1) := by decide +kernel
theorem dX3_clear_6 : decode cX3_clear 6 = .ok (.iconst (-1), 1) := by decide +kernel
theorem dX3_clear_7 : decode cX3_clear 7 = .ok (.putfield 19, 3) := by decide +kernel
theorem dX3_clear_10 : decode cX3_clear 10 = .ok (.aload_n 0, 1) := by decide +kernel
theorem dX3_clear_11 : decode cX3_clear 11 = .ok (.iconst 0, 1) := by decide +kernel
theorem dX3_clear_12 : decode cX3_clear 12 = .ok (.putfield 31, 3) := by decide +kernel
theorem dX3_clear_15 : decode cX3_clear 15 = .ok (.aload_n 0, 1) := by decide +kernel
theorem dX3_clear_16 : decode cX3_clear 16 = .ok (.getfield 9, 3) := by decide +kernel
theorem dX3_clear_19 : decode cX3_clear 19 = .ok (.iconst (-1), 1) := by decide +kernel
theorem dX3_clear_20 : decode cX3_clear 20 = .ok (.invokestatic 22, 3) := by decide +kernel
theorem dX3_clear_23 : decode cX3_clear 23 = .ok (.return_, 1) := by decide +kernel
theorem dX3_askedAtOf_0 : decode cX3_askedAtOf 0 = .ok (.iload_n 1, 1) := by decide +kernel
theorem dX3_askedAtOf_1 : decode cX3_askedAtOf 1 = .ok (.ifCond .lt 21, 3) := by decide +kernel
theorem dX3_askedAtOf_4 : decode cX3_askedAtOf 4 = .ok (.iload_n 1, 1) := by decide +kernel
theorem dX3_askedAtOf_5 : decode cX3_askedAtOf 5 = .ok (.aload_n 0, 1) := by decide +kernel
theorem dX3_askedAtOf_6 : decode cX3_askedAtOf 6 = .ok (.getfield 9, 3) := by decide +kernel
theorem dX3_askedAtOf_9 : decode cX3_askedAtOf 9 = .ok (.arraylength, 1) := by decide +kernel
theorem dX3_askedAtOf_10 : decode cX3_askedAtOf 10 = .ok (.if_icmp .ge 12, 3) := by decide +kernel
theorem dX3_askedAtOf_13 : decode cX3_askedAtOf 13 = .ok (.aload_n 0, 1) := by decide +kernel
theorem dX3_askedAtOf_14 : decode cX3_askedAtOf 14 = .ok (.getfield 9, 3) := by decide +kernel
theorem dX3_askedAtOf_17 : decode cX3_askedAtOf 17 = .ok (.iload_n 1, 1) := by decide +kernel
theorem dX3_askedAtOf_18 : decode cX3_askedAtOf 18 = .ok (.iaload, 1) := by decide +kernel
theorem dX3_askedAtOf_19 : decode cX3_askedAtOf 19 = .ok (.goto 4, 3) := by decide +kernel
theorem dX3_askedAtOf_22 : decode cX3_askedAtOf 22 = .ok (.iconst (-1), 1) := by decide +kernel
theorem dX3_askedAtOf_23 : decode cX3_askedAtOf 23 = .ok (.ireturn, 1) := by decide +kernel
theorem dX3_ask_0 : decode cX3_ask 0 = .ok (.iload_n 1, 1) := by decide +kernel
theorem dX3_ask_1 : decode cX3_ask 1 = .ok (.ifCond .lt 22, 3) := by decide +kernel
theorem dX3_ask_4 : decode cX3_ask 4 = .ok (.iload_n 1, 1) := by decide +kernel
theorem dX3_ask_5 : decode cX3_ask 5 = .ok (.aload_n 0, 1) := by decide +kernel
theorem dX3_ask_6 : decode cX3_ask 6 = .ok (.getfield 9, 3) := by decide +kernel
theorem dX3_ask_9 : decode cX3_ask 9 = .ok (.arraylength, 1) := by decide +kernel
theorem dX3_ask_10 : decode cX3_ask 10 = .ok (.if_icmp .ge 13, 3) := by decide +kernel
theorem dX3_ask_13 : decode cX3_ask 13 = .ok (.aload_n 0, 1) := by decide +kernel
theorem dX3_ask_14 : decode cX3_ask 14 = .ok (.getfield 9, 3) := by decide +kernel
theorem dX3_ask_17 : decode cX3_ask 17 = .ok (.iload_n 1, 1) := by decide +kernel
theorem dX3_ask_18 : decode cX3_ask 18 = .ok (.iaload, 1) := by decide +kernel
theorem dX3_ask_19 : decode cX3_ask 19 = .ok (.iconst (-1), 1) := by decide +kernel
theorem dX3_ask_20 : decode cX3_ask 20 = .ok (.if_icmp .eq 5, 3) := by decide +kernel
theorem dX3_ask_23 : decode cX3_ask 23 = .ok (.iconst 0, 1) := by decide +kernel
theorem dX3_ask_24 : decode cX3_ask 24 = .ok (.ireturn, 1) := by decide +kernel
theorem dX3_ask_25 : decode cX3_ask 25 = .ok (.aload_n 0, 1) := by decide +kernel
theorem dX3_ask_26 : decode cX3_ask 26 = .ok (.getfield 9, 3) := by decide +kernel
theorem dX3_ask_29 : decode cX3_ask 29 = .ok (.iload_n 1, 1) := by decide +kernel
theorem dX3_ask_30 : decode cX3_ask 30 = .ok (.iload_n 2, 1) := by decide +kernel
theorem dX3_ask_31 : decode cX3_ask 31 = .ok (.iastore, 1) := by decide +kernel
theorem dX3_ask_32 : decode cX3_ask 32 = .ok (.iconst 1, 1) := by decide +kernel
theorem dX3_ask_33 : decode cX3_ask 33 = .ok (.ireturn, 1) := by decide +kernel
theorem dX3_hasAnswered_0 : decode cX3_hasAnswered 0 = .ok (.aload_n 0, 1) := by decide +kernel
theorem dX3_hasAnswered_1 : decode cX3_hasAnswered 1 = .ok (.getfield 31, 3) := by decide +kernel
theorem dX3_hasAnswered_4 : decode cX3_hasAnswered 4 = .ok (.iload_n 1, 1) := by decide +kernel
theorem dX3_hasAnswered_5 : decode cX3_hasAnswered 5 = .ok (.ishr, 1) := by decide +kernel
theorem dX3_hasAnswered_6 : decode cX3_hasAnswered 6 = .ok (.iconst 1, 1) := by decide +kernel
theorem dX3_hasAnswered_7 : decode cX3_hasAnswered 7 = .ok (.iand, 1) := by decide +kernel
theorem dX3_hasAnswered_8 : decode cX3_hasAnswered 8 = .ok (.iconst 1, 1) := by decide +kernel
theorem dX3_hasAnswered_9 : decode cX3_hasAnswered 9 = .ok (.if_icmp .ne 7, 3) := by decide +kernel
theorem dX3_hasAnswered_12 : decode cX3_hasAnswered 12 = .ok (.iconst 1, 1) := by decide +kernel
theorem dX3_hasAnswered_13 : decode cX3_hasAnswered 13 = .ok (.goto 4, 3) := by decide +kernel
theorem dX3_hasAnswered_16 : decode cX3_hasAnswered 16 = .ok (.iconst 0, 1) := by decide +kernel
theorem dX3_hasAnswered_17 : decode cX3_hasAnswered 17 = .ok (.ireturn, 1) := by decide +kernel
theorem dX3_isWarned_0 : decode cX3_isWarned 0 = .ok (.aload_n 0, 1) := by decide +kernel
theorem dX3_isWarned_1 : decode cX3_isWarned 1 = .ok (.iload_n 1, 1) := by decide +kernel
theorem dX3_isWarned_2 : decode cX3_isWarned 2 = .ok (.invokevirtual 34, 3) := by decide +kernel
theorem dX3_isWarned_5 : decode cX3_isWarned 5 = .ok (.istore_n 3, 1) := by decide +kernel
theorem dX3_isWarned_6 : decode cX3_isWarned 6 = .ok (.aload_n 0, 1) := by decide +kernel
theorem dX3_isWarned_7 : decode cX3_isWarned 7 = .ok (.iload_n 1, 1) := by decide +kernel
theorem dX3_isWarned_8 : decode cX3_isWarned 8 = .ok (.invokevirtual 38, 3) := by decide +kernel
theorem dX3_isWarned_11 : decode cX3_isWarned 11 = .ok (.ifCond .ne 16, 3) := by decide +kernel
theorem dX3_isWarned_14 : decode cX3_isWarned 14 = .ok (.iload_n 3, 1) := by decide +kernel
theorem dX3_isWarned_15 : decode cX3_isWarned 15 = .ok (.iconst (-1), 1) := by decide +kernel
theorem dX3_isWarned_16 : decode cX3_isWarned 16 = .ok (.if_icmp .eq 15, 3) := by decide +kernel
theorem dX3_isWarned_19 : decode cX3_isWarned 19 = .ok (.iload_n 2, 1) := by decide +kernel
theorem dX3_isWarned_20 : decode cX3_isWarned 20 = .ok (.iload_n 3, 1) := by decide +kernel
theorem dX3_isWarned_21 : decode cX3_isWarned 21 = .ok (.isub, 1) := by decide +kernel
theorem dX3_isWarned_22 : decode cX3_isWarned 22 = .ok (.bipush 72, 2) := by decide +kernel
theorem dX3_isWarned_24 : decode cX3_isWarned 24 = .ok (.if_icmp .lt 7, 3) := by decide +kernel
theorem dX3_isWarned_27 : decode cX3_isWarned 27 = .ok (.iconst 1, 1) := by decide +kernel
theorem dX3_isWarned_28 : decode cX3_isWarned 28 = .ok (.goto 4, 3) := by decide +kernel
theorem dX3_isWarned_31 : decode cX3_isWarned 31 = .ok (.iconst 0, 1) := by decide +kernel
theorem dX3_isWarned_32 : decode cX3_isWarned 32 = .ok (.ireturn, 1) := by decide +kernel
theorem dX3_isBrownedOut_0 : decode cX3_isBrownedOut 0 = .ok (.iload_n 1, 1) := by decide +kernel
theorem dX3_isBrownedOut_1 : decode cX3_isBrownedOut 1 = .ok (.aload_n 0, 1) := by decide +kernel
theorem dX3_isBrownedOut_2 : decode cX3_isBrownedOut 2 = .ok (.getfield 15, 3) := by decide +kernel
theorem dX3_isBrownedOut_5 : decode cX3_isBrownedOut 5 = .ok (.isub, 1) := by decide +kernel
theorem dX3_isBrownedOut_6 : decode cX3_isBrownedOut 6 = .ok (.bipush 24, 2) := by decide +kernel
theorem dX3_isBrownedOut_8 : decode cX3_isBrownedOut 8 = .ok (.irem, 1) := by decide +kernel
theorem dX3_isBrownedOut_9 : decode cX3_isBrownedOut 9 = .ok (.istore_n 2, 1) := by decide +kernel
theorem dX3_isBrownedOut_10 : decode cX3_isBrownedOut 10 = .ok (.iload_n 2, 1) := by decide +kernel
theorem dX3_isBrownedOut_11 : decode cX3_isBrownedOut 11 = .ok (.iconst 2, 1) := by decide +kernel
theorem dX3_isBrownedOut_12 : decode cX3_isBrownedOut 12 = .ok (.iload_n 1, 1) := by decide +kernel
theorem dX3_isBrownedOut_13 : decode cX3_isBrownedOut 13 = .ok (.aload_n 0, 1) := by decide +kernel
theorem dX3_isBrownedOut_14 : decode cX3_isBrownedOut 14 = .ok (.getfield 15, 3) := by decide +kernel
theorem dX3_isBrownedOut_17 : decode cX3_isBrownedOut 17 = .ok (.isub, 1) := by decide +kernel
theorem dX3_isBrownedOut_18 : decode cX3_isBrownedOut 18 = .ok (.bipush 24, 2) := by decide +kernel
theorem dX3_isBrownedOut_20 : decode cX3_isBrownedOut 20 = .ok (.idiv, 1) := by decide +kernel
theorem dX3_isBrownedOut_21 : decode cX3_isBrownedOut 21 = .ok (.imul, 1) := by decide +kernel
theorem dX3_isBrownedOut_22 : decode cX3_isBrownedOut 22 = .ok (.if_icmp .ge 13, 3) := by decide +kernel
theorem dX3_isBrownedOut_25 : decode cX3_isBrownedOut 25 = .ok (.iload_n 2, 1) := by decide +kernel
theorem dX3_isBrownedOut_26 : decode cX3_isBrownedOut 26 = .ok (.bipush 12, 2) := by decide +kernel
theorem dX3_isBrownedOut_28 : decode cX3_isBrownedOut 28 = .ok (.if_icmp .ge 7, 3) := by decide +kernel
theorem dX3_isBrownedOut_31 : decode cX3_isBrownedOut 31 = .ok (.iconst 1, 1) := by decide +kernel
theorem dX3_isBrownedOut_32 : decode cX3_isBrownedOut 32 = .ok (.goto 4, 3) := by decide +kernel
theorem dX3_isBrownedOut_35 : decode cX3_isBrownedOut 35 = .ok (.iconst 0, 1) := by decide +kernel
theorem dX3_isBrownedOut_36 : decode cX3_isBrownedOut 36 = .ok (.ireturn, 1) := by decide +kernel
theorem dX3_quota_0 : decode cX3_quota 0 = .ok (.iconst 1, 1) := by decide +kernel
theorem dX3_quota_1 : decode cX3_quota 1 = .ok (.bipush 8, 2) := by decide +kernel
theorem dX3_quota_3 : decode cX3_quota 3 = .ok (.iload_n 1, 1) := by decide +kernel
theorem dX3_quota_4 : decode cX3_quota 4 = .ok (.aload_n 0, 1) := by decide +kernel
theorem dX3_quota_5 : decode cX3_quota 5 = .ok (.getfield 15, 3) := by decide +kernel
theorem dX3_quota_8 : decode cX3_quota 8 = .ok (.isub, 1) := by decide +kernel
theorem dX3_quota_9 : decode cX3_quota 9 = .ok (.bipush 24, 2) := by decide +kernel
theorem dX3_quota_11 : decode cX3_quota 11 = .ok (.idiv, 1) := by decide +kernel
theorem dX3_quota_12 : decode cX3_quota 12 = .ok (.isub, 1) := by decide +kernel
theorem dX3_quota_13 : decode cX3_quota 13 = .ok (.invokestatic 42, 3) := by decide +kernel
theorem dX3_quota_16 : decode cX3_quota 16 = .ok (.ireturn, 1) := by decide +kernel
theorem dX4_init_0 : decode cX4_init 0 = .ok (.aload_n 0, 1) := by decide +kernel
theorem dX4_init_1 : decode cX4_init 1 = .ok (.invokespecial 3, 3) := by decide +kernel
theorem dX4_init_4 : decode cX4_init 4 = .ok (.aload_n 0, 1) := by decide +kernel
theorem dX4_init_5 : decode cX4_init 5 = .ok (.iconst 3, 1) := by decide +kernel
theorem dX4_init_6 : decode cX4_init 6 = .ok (.newarray .int, 2) := by decide +kernel
theorem dX4_init_8 : decode cX4_init 8 = .ok (.putfield 9, 3) := by decide +kernel
theorem dX4_init_11 : decode cX4_init 11 = .ok (.return_, 1) := by decide +kernel
theorem dX5_init_0 : decode cX5_init 0 = .ok (.aload_n 0, 1) := by decide +kernel
theorem dX5_init_1 : decode cX5_init 1 = .ok (.invokespecial 3, 3) := by decide +kernel
theorem dX5_init_4 : decode cX5_init 4 = .ok (.aload_n 0, 1) := by decide +kernel
theorem dX5_init_5 : decode cX5_init 5 = .ok (.new 9, 3) := by decide +kernel
theorem dX5_init_8 : decode cX5_init 8 = .ok (.dup, 1) := by decide +kernel
theorem dX5_init_9 : decode cX5_init 9 = .ok (.invokespecial 11, 3) := by decide +kernel
theorem dX5_init_12 : decode cX5_init 12 = .ok (.putfield 12, 3) := by decide +kernel
theorem dX5_init_15 : decode cX5_init 15 = .ok (.aload_n 0, 1) := by decide +kernel
theorem dX5_init_16 : decode cX5_init 16 = .ok (.iconst 0, 1) := by decide +kernel
theorem dX5_init_17 : decode cX5_init 17 = .ok (.putfield 18, 3) := by decide +kernel
theorem dX5_init_20 : decode cX5_init 20 = .ok (.aload_n 0, 1) := by decide +kernel
theorem dX5_init_21 : decode cX5_init 21 = .ok (.aload_n 1, 1) := by decide +kernel
theorem dX5_init_22 : decode cX5_init 22 = .ok (.putfield 22, 3) := by decide +kernel
theorem dX5_init_25 : decode cX5_init 25 = .ok (.aload_n 0, 1) := by decide +kernel
theorem dX5_init_26 : decode cX5_init 26 = .ok (.iload_n 2, 1) := by decide +kernel
theorem dX5_init_27 : decode cX5_init 27 = .ok (.putfield 26, 3) := by decide +kernel
theorem dX5_init_30 : decode cX5_init 30 = .ok (.aload_n 0, 1) := by decide +kernel
theorem dX5_init_31 : decode cX5_init 31 = .ok (.iload_n 3, 1) := by decide +kernel
theorem dX5_init_32 : decode cX5_init 32 = .ok (.putfield 29, 3) := by decide +kernel
theorem dX5_init_35 : decode cX5_init 35 = .ok (.aload_n 0, 1) := by decide +kernel
theorem dX5_init_36 : decode cX5_init 36 = .ok (.iload 4, 2) := by decide +kernel
theorem dX5_init_38 : decode cX5_init 38 = .ok (.putfield 32, 3) := by decide +kernel
theorem dX5_init_41 : decode cX5_init 41 = .ok (.return_, 1) := by decide +kernel
theorem dX5_suits_0 : decode cX5_suits 0 = .ok (.aload_n 1, 1) := by decide +kernel
theorem dX5_suits_1 : decode cX5_suits 1 = .ok (.getfield 29, 3) := by decide +kernel
theorem dX5_suits_4 : decode cX5_suits 4 = .ok (.aload_n 0, 1) := by decide +kernel
theorem dX5_suits_5 : decode cX5_suits 5 = .ok (.getfield 29, 3) := by decide +kernel
theorem dX5_suits_8 : decode cX5_suits 8 = .ok (.iconst (-1), 1) := by decide +kernel
theorem dX5_suits_9 : decode cX5_suits 9 = .ok (.ixor, 1) := by decide +kernel
theorem dX5_suits_10 : decode cX5_suits 10 = .ok (.iand, 1) := by decide +kernel
theorem dX5_suits_11 : decode cX5_suits 11 = .ok (.ifCond .ne 21, 3) := by decide +kernel
theorem dX5_suits_14 : decode cX5_suits 14 = .ok (.aload_n 0, 1) := by decide +kernel
theorem dX5_suits_15 : decode cX5_suits 15 = .ok (.getfield 32, 3) := by decide +kernel
theorem dX5_suits_18 : decode cX5_suits 18 = .ok (.aload_n 1, 1) := by decide +kernel
theorem dX5_suits_19 : decode cX5_suits 19 = .ok (.getfield 32, 3) := by decide +kernel
theorem dX5_suits_22 : decode cX5_suits 22 = .ok (.iconst (-1), 1) := by decide +kernel
theorem dX5_suits_23 : decode cX5_suits 23 = .ok (.ixor, 1) := by decide +kernel
theorem dX5_suits_24 : decode cX5_suits 24 = .ok (.iand, 1) := by decide +kernel
theorem dX5_suits_25 : decode cX5_suits 25 = .ok (.ifCond .ne 7, 3) := by decide +kernel
theorem dX5_suits_28 : decode cX5_suits 28 = .ok (.iconst 1, 1) := by decide +kernel
theorem dX5_suits_29 : decode cX5_suits 29 = .ok (.goto 4, 3) := by decide +kernel
theorem dX5_suits_32 : decode cX5_suits 32 = .ok (.iconst 0, 1) := by decide +kernel
theorem dX5_suits_33 : decode cX5_suits 33 = .ok (.ireturn, 1) := by decide +kernel
theorem dX5_usesAgain_0 : decode cX5_usesAgain 0 = .ok (.aload_n 0, 1) := by decide +kernel
theorem dX5_usesAgain_1 : decode cX5_usesAgain 1 = .ok (.getfield 32, 3) := by decide +kernel
theorem dX5_usesAgain_4 : decode cX5_usesAgain 4 = .ok (.iload_n 1, 1) := by decide +kernel
theorem dX5_usesAgain_5 : decode cX5_usesAgain 5 = .ok (.aload_n 0, 1) := by decide +kernel
theorem dX5_usesAgain_6 : decode cX5_usesAgain 6 = .ok (.getfield 29, 3) := by decide +kernel
theorem dX5_usesAgain_9 : decode cX5_usesAgain 9 = .ok (.iand, 1) := by decide +kernel
theorem dX5_usesAgain_10 : decode cX5_usesAgain 10 = .ok (.ior, 1) := by decide +kernel
theorem dX5_usesAgain_11 : decode cX5_usesAgain 11 = .ok (.ireturn, 1) := by decide +kernel
theorem dX6_init_0 : decode cX6_init 0 = .ok (.aload_n 0, 1) := by decide +kernel
theorem dX6_init_1 : decode cX6_init 1 = .ok (.invokespecial 1, 3) := by decide +kernel
theorem dX6_init_4 : decode cX6_init 4 = .ok (.aload_n 0, 1) := by decide +kernel
theorem dX6_init_5 : decode cX6_init 5 = .ok (.iconst 4, 1) := by decide +kernel
theorem dX6_init_6 : decode cX6_init 6 = .ok (.anewarray 9, 3) := by decide +kernel
theorem dX6_init_9 : decode cX6_init 9 = .ok (.putfield 11, 3) := by decide +kernel
theorem dX6_init_12 : decode cX6_init 12 = .ok (.aload_n 0, 1) := by decide +kernel
theorem dX6_init_13 : decode cX6_init 13 = .ok (.bipush 10, 2) := by decide +kernel
theorem dX6_init_15 : decode cX6_init 15 = .ok (.anewarray 15, 3) := by decide +kernel
theorem dX6_init_18 : decode cX6_init 18 = .ok (.putfield 17, 3) := by decide +kernel
theorem dX6_init_21 : decode cX6_init 21 = .ok (.aload_n 0, 1) := by decide +kernel
theorem dX6_init_22 : decode cX6_init 22 = .ok (.bipush 10, 2) := by decide +kernel
theorem dX6_init_24 : decode cX6_init 24 = .ok (.anewarray 21, 3) := by decide +kernel
theorem dX6_init_27 : decode cX6_init 27 = .ok (.putfield 23, 3) := by decide +kernel
theorem dX6_init_30 : decode cX6_init 30 = .ok (.aload_n 0, 1) := by decide +kernel
theorem dX6_init_31 : decode cX6_init 31 = .ok (.new 27, 3) := by decide +kernel
theorem dX6_init_34 : decode cX6_init 34 = .ok (.dup, 1) := by decide +kernel
theorem dX6_init_35 : decode cX6_init 35 = .ok (.invokespecial 29, 3) := by decide +kernel
theorem dX6_init_38 : decode cX6_init 38 = .ok (.putfield 30, 3) := by decide +kernel
theorem dX6_init_41 : decode cX6_init 41 = .ok (.aload_n 0, 1) := by decide +kernel
theorem dX6_init_42 : decode cX6_init 42 = .ok (.new 34, 3) := by decide +kernel
theorem dX6_init_45 : decode cX6_init 45 = .ok (.dup, 1) := by decide +kernel
theorem dX6_init_46 : decode cX6_init 46 = .ok (.invokespecial 36, 3) := by decide +kernel
theorem dX6_init_49 : decode cX6_init 49 = .ok (.putfield 37, 3) := by decide +kernel
theorem dX6_init_52 : decode cX6_init 52 = .ok (.return_, 1) := by decide +kernel
end
section
theorem dX6_open_0 : decode cX6_open 0 = .ok (.aload_n 0, 1) := by decide +kernel
theorem dX6_open_1 : decode cX6_open 1 = .ok (.getfield 41, 3) := by decide +kernel
theorem dX6_open_4 : decode cX6_open 4 = .ok (.ifCond .lt 15, 3) := by decide +kernel
theorem dX6_open_7 : decode cX6_open 7 = .ok (.aload_n 0, 1) := by decide +kernel
theorem dX6_open_8 : decode cX6_open 8 = .ok (.getfield 41, 3) := by decide +kernel
theorem dX6_open_11 : decode cX6_open 11 = .ok (.aload_n 0, 1) := by decide +kernel
theorem dX6_open_12 : decode cX6_open 12 = .ok (.getfield 11, 3) := by decide +kernel
theorem dX6_open_15 : decode cX6_open 15 = .ok (.arraylength, 1) := by decide +kernel
theorem dX6_open_16 : decode cX6_open 16 = .ok (.if_icmp .lt 13, 3) := by decide +kernel
theorem dX6_open_19 : decode cX6_open 19 = .ok (.new 45, 3) := by decide +kernel
theorem dX6_open_22 : decode cX6_open 22 = .ok (.dup, 1) := by decide +kernel
theorem dX6_open_23 : decode cX6_open 23 = .ok (.ldc 47, 2) := by decide +kernel
theorem dX6_open_25 : decode cX6_open 25 = .ok (.invokespecial 49, 3) := by decide +kernel
theorem dX6_open_28 : decode cX6_open 28 = .ok (.athrow, 1) := by decide +kernel
theorem dX6_open_29 : decode cX6_open 29 = .ok (.aload_n 0, 1) := by decide +kernel
theorem dX6_open_30 : decode cX6_open 30 = .ok (.getfield 11, 3) := by decide +kernel
theorem dX6_open_33 : decode cX6_open 33 = .ok (.aload_n 0, 1) := by decide +kernel
theorem dX6_open_34 : decode cX6_open 34 = .ok (.getfield 41, 3) := by decide +kernel
theorem dX6_open_37 : decode cX6_open 37 = .ok (.new 9, 3) := by decide +kernel
theorem dX6_open_40 : decode cX6_open 40 = .ok (.dup, 1) := by decide +kernel
theorem dX6_open_41 : decode cX6_open 41 = .ok (.aload_n 0, 1) := by decide +kernel
theorem dX6_open_42 : decode cX6_open 42 = .ok (.getfield 41, 3) := by decide +kernel
theorem dX6_open_45 : decode cX6_open 45 = .ok (.invokespecial 52, 3) := by decide +kernel
theorem dX6_open_48 : decode cX6_open 48 = .ok (.aastore, 1) := by decide +kernel
theorem dX6_open_49 : decode cX6_open 49 = .ok (.aload_n 0, 1) := by decide +kernel
theorem dX6_open_50 : decode cX6_open 50 = .ok (.dup, 1) := by decide +kernel
theorem dX6_open_51 : decode cX6_open 51 = .ok (.getfield 41, 3) := by decide +kernel
theorem dX6_open_54 : decode cX6_open 54 = .ok (.dup_x1, 1) := by decide +kernel
theorem dX6_open_55 : decode cX6_open 55 = .ok (.iconst 1, 1) := by decide +kernel
theorem dX6_open_56 : decode cX6_open 56 = .ok (.iadd, 1) := by decide +kernel
theorem dX6_open_57 : decode cX6_open 57 = .ok (.putfield 41, 3) := by decide +kernel
theorem dX6_open_60 : decode cX6_open 60 = .ok (.ireturn, 1) := by decide +kernel
theorem dX6_publish_0 : decode cX6_publish 0 = .ok (.aload_n 0, 1) := by decide +kernel
theorem dX6_publish_1 : decode cX6_publish 1 = .ok (.iload_n 1, 1) := by decide +kernel
theorem dX6_publish_2 : decode cX6_publish 2 = .ok (.invokevirtual 55, 3) := by decide +kernel
theorem dX6_publish_5 : decode cX6_publish 5 = .ok (.astore 4, 2) := by decide +kernel
theorem dX6_publish_7 : decode cX6_publish 7 = .ok (.aload 4, 2) := by decide +kernel
theorem dX6_publish_9 : decode cX6_publish 9 = .ok (.ifnonnull 13, 3) := by decide +kernel
theorem dX6_publish_12 : decode cX6_publish 12 = .ok (.new 59, 3) := by decide +kernel
theorem dX6_publish_15 : decode cX6_publish 15 = .ok (.dup, 1) := by decide +kernel
theorem dX6_publish_16 : decode cX6_publish 16 = .ok (.ldc 61, 2) := by decide +kernel
theorem dX6_publish_18 : decode cX6_publish 18 = .ok (.invokespecial 63, 3) := by decide +kernel
theorem dX6_publish_21 : decode cX6_publish 21 = .ok (.athrow, 1) := by decide +kernel
theorem dX6_publish_22 : decode cX6_publish 22 = .ok (.iload_n 2, 1) := by decide +kernel
theorem dX6_publish_23 : decode cX6_publish 23 = .ok (.iload_n 3, 1) := by decide +kernel
theorem dX6_publish_24 : decode cX6_publish 24 = .ok (.invokestatic 64, 3) := by decide +kernel
theorem dX6_publish_27 : decode cX6_publish 27 = .ok (.ifCond .ne 13, 3) := by decide +kernel
theorem dX6_publish_30 : decode cX6_publish 30 = .ok (.new 68, 3) := by decide +kernel
theorem dX6_publish_33 : decode cX6_publish 33 = .ok (.dup, 1) := by decide +kernel
theorem dX6_publish_34 : decode cX6_publish 34 = .ok (.ldc 70, 2) := by decide +kernel
theorem dX6_publish_36 : decode cX6_publish 36 = .ok (.invokespecial 72, 3) := by decide +kernel
theorem dX6_publish_39 : decode cX6_publish 39 = .ok (.athrow, 1) := by decide +kernel
theorem dX6_publish_40 : decode cX6_publish 40 = .ok (.aload 4, 2) := by decide +kernel
theorem dX6_publish_42 : decode cX6_publish 42 = .ok (.getfield 73, 3) := by decide +kernel
theorem dX6_publish_45 : decode cX6_publish 45 = .ok (.istore 5, 2) := by decide +kernel
theorem dX6_publish_47 : decode cX6_publish 47 = .ok (.iload 5, 2) := by decide +kernel
theorem dX6_publish_49 : decode cX6_publish 49 = .ok (.ifCond .lt 14, 3) := by decide +kernel
theorem dX6_publish_52 : decode cX6_publish 52 = .ok (.iload 5, 2) := by decide +kernel
theorem dX6_publish_54 : decode cX6_publish 54 = .ok (.aload 4, 2) := by decide +kernel
theorem dX6_publish_56 : decode cX6_publish 56 = .ok (.getfield 76, 3) := by decide +kernel
theorem dX6_publish_59 : decode cX6_publish 59 = .ok (.arraylength, 1) := by decide +kernel
theorem dX6_publish_60 : decode cX6_publish 60 = .ok (.if_icmp .lt 13, 3) := by decide +kernel
theorem dX6_publish_63 : decode cX6_publish 63 = .ok (.new 45, 3) := by decide +kernel
theorem dX6_publish_66 : decode cX6_publish 66 = .ok (.dup, 1) := by decide +kernel
theorem dX6_publish_67 : decode cX6_publish 67 = .ok (.ldc 80, 2) := by decide +kernel
theorem dX6_publish_69 : decode cX6_publish 69 = .ok (.invokespecial 49, 3) := by decide +kernel
theorem dX6_publish_72 : decode cX6_publish 72 = .ok (.athrow, 1) := by decide +kernel
theorem dX6_publish_73 : decode cX6_publish 73 = .ok (.new 82, 3) := by decide +kernel
theorem dX6_publish_76 : decode cX6_publish 76 = .ok (.dup, 1) := by decide +kernel
theorem dX6_publish_77 : decode cX6_publish 77 = .ok (.aload 4, 2) := by decide +kernel
theorem dX6_publish_79 : decode cX6_publish 79 = .ok (.iload 5, 2) := by decide +kernel
theorem dX6_publish_81 : decode cX6_publish 81 = .ok (.iload_n 2, 1) := by decide +kernel
theorem dX6_publish_82 : decode cX6_publish 82 = .ok (.iload_n 3, 1) := by decide +kernel
theorem dX6_publish_83 : decode cX6_publish 83 = .ok (.invokespecial 84, 3) := by decide +kernel
theorem dX6_publish_86 : decode cX6_publish 86 = .ok (.astore 6, 2) := by decide +kernel
theorem dX6_publish_88 : decode cX6_publish 88 = .ok (.aload 6, 2) := by decide +kernel
theorem dX6_publish_90 : decode cX6_publish 90 = .ok (.invokestatic 87, 3) := by decide +kernel
theorem dX6_publish_93 : decode cX6_publish 93 = .ok (.istore 7, 2) := by decide +kernel
theorem dX6_publish_95 : decode cX6_publish 95 = .ok (.aload 4, 2) := by decide +kernel
theorem dX6_publish_97 : decode cX6_publish 97 = .ok (.getfield 76, 3) := by decide +kernel
theorem dX6_publish_100 : decode cX6_publish 100 = .ok (.iload 5, 2) := by decide +kernel
theorem dX6_publish_102 : decode cX6_publish 102 = .ok (.aload 6, 2) := by decide +kernel
theorem dX6_publish_104 : decode cX6_publish 104 = .ok (.aastore, 1) := by decide +kernel
theorem dX6_publish_105 : decode cX6_publish 105 = .ok (.aload 4, 2) := by decide +kernel
theorem dX6_publish_107 : decode cX6_publish 107 = .ok (.iload 5, 2) := by decide +kernel
theorem dX6_publish_109 : decode cX6_publish 109 = .ok (.iconst 1, 1) := by decide +kernel
theorem dX6_publish_110 : decode cX6_publish 110 = .ok (.iadd, 1) := by decide +kernel
theorem dX6_publish_111 : decode cX6_publish 111 = .ok (.putfield 73, 3) := by decide +kernel
theorem dX6_publish_114 : decode cX6_publish 114 = .ok (.iload 7, 2) := by decide +kernel
theorem dX6_publish_116 : decode cX6_publish 116 = .ok (.ireturn, 1) := by decide +kernel
theorem dX6_ofVersion_0 : decode cX6_ofVersion 0 = .ok (.aload_n 0, 1) := by decide +kernel
theorem dX6_ofVersion_1 : decode cX6_ofVersion 1 = .ok (.iload_n 1, 1) := by decide +kernel
theorem dX6_ofVersion_2 : decode cX6_ofVersion 2 = .ok (.iload_n 2, 1) := by decide +kernel
theorem dX6_ofVersion_3 : decode cX6_ofVersion 3 = .ok (.invokevirtual 91, 3) := by decide +kernel
theorem dX6_ofVersion_6 : decode cX6_ofVersion 6 = .ok (.astore 4, 2) := by decide +kernel
theorem dX6_ofVersion_8 : decode cX6_ofVersion 8 = .ok (.aload 4, 2) := by decide +kernel
theorem dX6_ofVersion_10 : decode cX6_ofVersion 10 = .ok (.ifnonnull 13, 3) := by decide +kernel
theorem dX6_ofVersion_13 : decode cX6_ofVersion 13 = .ok (.new 59, 3) := by decide +kernel
theorem dX6_ofVersion_16 : decode cX6_ofVersion 16 = .ok (.dup, 1) := by decide +kernel
theorem dX6_ofVersion_17 : decode cX6_ofVersion 17 = .ok (.ldc 95, 2) := by decide +kernel
theorem dX6_ofVersion_19 : decode cX6_ofVersion 19 = .ok (.invokespecial 63, 3) := by decide +kernel
theorem dX6_ofVersion_22 : decode cX6_ofVersion 22 = .ok (.athrow, 1) := by decide +kernel
theorem dX6_ofVersion_23 : decode cX6_ofVersion 23 = .ok (.iload_n 3, 1) := by decide +kernel
theorem dX6_ofVersion_24 : decode cX6_ofVersion 24 = .ok (.ifCond .lt 9, 3) := by decide +kernel
theorem dX6_ofVersion_27 : decode cX6_ofVersion 27 = .ok (.iload_n 3, 1) := by decide +kernel
theorem dX6_ofVersion_28 : decode cX6_ofVersion 28 = .ok (.bipush 10, 2) := by decide +kernel
theorem dX6_ofVersion_30 : decode cX6_ofVersion 30 = .ok (.if_icmp .le 13, 3) := by decide +kernel
theorem dX6_ofVersion_33 : decode cX6_ofVersion 33 = .ok (.new 68, 3) := by decide +kernel
theorem dX6_ofVersion_36 : decode cX6_ofVersion 36 = .ok (.dup, 1) := by decide +kernel
theorem dX6_ofVersion_37 : decode cX6_ofVersion 37 = .ok (.ldc 97, 2) := by decide +kernel
theorem dX6_ofVersion_39 : decode cX6_ofVersion 39 = .ok (.invokespecial 72, 3) := by decide +kernel
theorem dX6_ofVersion_42 : decode cX6_ofVersion 42 = .ok (.athrow, 1) := by decide +kernel
theorem dX6_ofVersion_43 : decode cX6_ofVersion 43 = .ok (.aload_n 0, 1) := by decide +kernel
theorem dX6_ofVersion_44 : decode cX6_ofVersion 44 = .ok (.aload 4, 2) := by decide +kernel
theorem dX6_ofVersion_46 : decode cX6_ofVersion 46 = .ok (.iload_n 3, 1) := by decide +kernel
theorem dX6_ofVersion_47 : decode cX6_ofVersion 47 = .ok (.invokevirtual 99, 3) := by decide +kernel
theorem dX6_ofVersion_50 : decode cX6_ofVersion 50 = .ok (.ireturn, 1) := by decide +kernel
theorem dX6_isCompatible_0 : decode cX6_isCompatible 0 = .ok (.aload_n 0, 1) := by decide +kernel
theorem dX6_isCompatible_1 : decode cX6_isCompatible 1 = .ok (.iload_n 1, 1) := by decide +kernel
theorem dX6_isCompatible_2 : decode cX6_isCompatible 2 = .ok (.iload_n 2, 1) := by decide +kernel
theorem dX6_isCompatible_3 : decode cX6_isCompatible 3 = .ok (.invokevirtual 91, 3) := by decide +kernel
theorem dX6_isCompatible_6 : decode cX6_isCompatible 6 = .ok (.astore 4, 2) := by decide +kernel
theorem dX6_isCompatible_8 : decode cX6_isCompatible 8 = .ok (.aload_n 0, 1) := by decide +kernel
theorem dX6_isCompatible_9 : decode cX6_isCompatible 9 = .ok (.iload_n 1, 1) := by decide +kernel
theorem dX6_isCompatible_10 : decode cX6_isCompatible 10 = .ok (.iload_n 3, 1) := by decide +kernel
theorem dX6_isCompatible_11 : decode cX6_isCompatible 11 = .ok (.invokevirtual 91, 3) := by decide +kernel
theorem dX6_isCompatible_14 : decode cX6_isCompatible 14 = .ok (.astore 5, 2) := by decide +kernel
theorem dX6_isCompatible_16 : decode cX6_isCompatible 16 = .ok (.aload 4, 2) := by decide +kernel
theorem dX6_isCompatible_18 : decode cX6_isCompatible 18 = .ok (.ifnull 8, 3) := by decide +kernel
theorem dX6_isCompatible_21 : decode cX6_isCompatible 21 = .ok (.aload 5, 2) := by decide +kernel
theorem dX6_isCompatible_23 : decode cX6_isCompatible 23 = .ok (.ifnonnull 13, 3) := by decide +kernel
theorem dX6_isCompatible_26 : decode cX6_isCompatible 26 = .ok (.new 59, 3) := by decide +kernel
theorem dX6_isCompatible_29 : decode cX6_isCompatible 29 = .ok (.dup, 1) := by decide +kernel
theorem dX6_isCompatible_30 : decode cX6_isCompatible 30 = .ok (.ldc 95, 2) := by decide +kernel
theorem dX6_isCompatible_32 : decode cX6_isCompatible 32 = .ok (.invokespecial 63, 3) := by decide +kernel
theorem dX6_isCompatible_35 : decode cX6_isCompatible 35 = .ok (.athrow, 1) := by decide +kernel
theorem dX6_isCompatible_36 : decode cX6_isCompatible 36 = .ok (.aload 4, 2) := by decide +kernel
theorem dX6_isCompatible_38 : decode cX6_isCompatible 38 = .ok (.aload 5, 2) := by decide +kernel
theorem dX6_isCompatible_40 : decode cX6_isCompatible 40 = .ok (.invokevirtual 103, 3) := by decide +kernel
theorem dX6_isCompatible_43 : decode cX6_isCompatible 43 = .ok (.ireturn, 1) := by decide +kernel
theorem dX6_client_0 : decode cX6_client 0 = .ok (.aload_n 0, 1) := by decide +kernel
theorem dX6_client_1 : decode cX6_client 1 = .ok (.iload_n 2, 1) := by decide +kernel
theorem dX6_client_2 : decode cX6_client 2 = .ok (.iload_n 3, 1) := by decide +kernel
theorem dX6_client_3 : decode cX6_client 3 = .ok (.invokevirtual 91, 3) := by decide +kernel
theorem dX6_client_6 : decode cX6_client 6 = .ok (.astore 5, 2) := by decide +kernel
theorem dX6_client_8 : decode cX6_client 8 = .ok (.aload 5, 2) := by decide +kernel
theorem dX6_client_10 : decode cX6_client 10 = .ok (.ifnonnull 13, 3) := by decide +kernel
theorem dX6_client_13 : decode cX6_client 13 = .ok (.new 59, 3) := by decide +kernel
theorem dX6_client_16 : decode cX6_client 16 = .ok (.dup, 1) := by decide +kernel
theorem dX6_client_17 : decode cX6_client 17 = .ok (.ldc 95, 2) := by decide +kernel
theorem dX6_client_19 : decode cX6_client 19 = .ok (.invokespecial 63, 3) := by decide +kernel
theorem dX6_client_22 : decode cX6_client 22 = .ok (.athrow, 1) := by decide +kernel
theorem dX6_client_23 : decode cX6_client 23 = .ok (.iload_n 1, 1) := by decide +kernel
theorem dX6_client_24 : decode cX6_client 24 = .ok (.invokestatic 107, 3) := by decide +kernel
theorem dX6_client_27 : decode cX6_client 27 = .ok (.ifCond .eq 29, 3) := by decide +kernel
theorem dX6_client_30 : decode cX6_client 30 = .ok (.iload 4, 2) := by decide +kernel
theorem dX6_client_32 : decode cX6_client 32 = .ok (.invokestatic 111, 3) := by decide +kernel
theorem dX6_client_35 : decode cX6_client 35 = .ok (.ifCond .eq 21, 3) := by decide +kernel
theorem dX6_client_38 : decode cX6_client 38 = .ok (.iload 4, 2) := by decide +kernel
theorem dX6_client_40 : decode cX6_client 40 = .ok (.aload 5, 2) := by decide +kernel
theorem dX6_client_42 : decode cX6_client 42 = .ok (.getfield 114, 3) := by decide +kernel
theorem dX6_client_45 : decode cX6_client 45 = .ok (.aload 5, 2) := by decide +kernel
theorem dX6_client_47 : decode cX6_client 47 = .ok (.getfield 117, 3) := by decide +kernel
theorem dX6_client_50 : decode cX6_client 50 = .ok (.invokestatic 120, 3) := by decide +kernel
theorem dX6_client_53 : decode cX6_client 53 = .ok (.ifCond .ne 13, 3) := by decide +kernel
theorem dX6_client_56 : decode cX6_client 56 = .ok (.new 68, 3) := by decide +kernel
theorem dX6_client_59 : decode cX6_client 59 = .ok (.dup, 1) := by decide +kernel
theorem dX6_client_60 : decode cX6_client 60 = .ok (.ldc 124, 2) := by decide +kernel
theorem dX6_client_62 : decode cX6_client 62 = .ok (.invokespecial 72, 3) := by decide +kernel
theorem dX6_client_65 : decode cX6_client 65 = .ok (.athrow, 1) := by decide +kernel
theorem dX6_client_66 : decode cX6_client 66 = .ok (.aload_n 0, 1) := by decide +kernel
theorem dX6_client_67 : decode cX6_client 67 = .ok (.getfield 126, 3) := by decide +kernel
theorem dX6_client_70 : decode cX6_client 70 = .ok (.ifCond .lt 23, 3) := by decide +kernel
theorem dX6_client_73 : decode cX6_client 73 = .ok (.aload_n 0, 1) := by decide +kernel
theorem dX6_client_74 : decode cX6_client 74 = .ok (.getfield 126, 3) := by decide +kernel
theorem dX6_client_77 : decode cX6_client 77 = .ok (.aload_n 0, 1) := by decide +kernel
theorem dX6_client_78 : decode cX6_client 78 = .ok (.getfield 17, 3) := by decide +kernel
theorem dX6_client_81 : decode cX6_client 81 = .ok (.arraylength, 1) := by decide +kernel
theorem dX6_client_82 : decode cX6_client 82 = .ok (.if_icmp .ge 11, 3) := by decide +kernel
theorem dX6_client_85 : decode cX6_client 85 = .ok (.aload 5, 2) := by decide +kernel
theorem dX6_client_87 : decode cX6_client 87 = .ok (.getfield 129, 3) := by decide +kernel
theorem dX6_client_90 : decode cX6_client 90 = .ok (.ifCond .eq 13, 3) := by decide +kernel
theorem dX6_client_93 : decode cX6_client 93 = .ok (.new 45, 3) := by decide +kernel
theorem dX6_client_96 : decode cX6_client 96 = .ok (.dup, 1) := by decide +kernel
theorem dX6_client_97 : decode cX6_client 97 = .ok (.ldc 132, 2) := by decide +kernel
theorem dX6_client_99 : decode cX6_client 99 = .ok (.invokespecial 49, 3) := by decide +kernel
theorem dX6_client_102 : decode cX6_client 102 = .ok (.athrow, 1) := by decide +kernel
theorem dX6_client_103 : decode cX6_client 103 = .ok (.aload_n 0, 1) := by decide +kernel
theorem dX6_client_104 : decode cX6_client 104 = .ok (.getfield 17, 3) := by decide +kernel
theorem dX6_client_107 : decode cX6_client 107 = .ok (.aload_n 0, 1) := by decide +kernel
theorem dX6_client_108 : decode cX6_client 108 = .ok (.getfield 126, 3) := by decide +kernel
theorem dX6_client_111 : decode cX6_client 111 = .ok (.new 15, 3) := by decide +kernel
theorem dX6_client_114 : decode cX6_client 114 = .ok (.dup, 1) := by decide +kernel
theorem dX6_client_115 : decode cX6_client 115 = .ok (.iload_n 1, 1) := by decide +kernel
theorem dX6_client_116 : decode cX6_client 116 = .ok (.aload 5, 2) := by decide +kernel
theorem dX6_client_118 : decode cX6_client 118 = .ok (.iload 4, 2) := by decide +kernel
theorem dX6_client_120 : decode cX6_client 120 = .ok (.invokespecial 134, 3) := by decide +kernel
theorem dX6_client_123 : decode cX6_client 123 = .ok (.aastore, 1) := by decide +kernel
theorem dX6_client_124 : decode cX6_client 124 = .ok (.aload_n 0, 1) := by decide +kernel
theorem dX6_client_125 : decode cX6_client 125 = .ok (.dup, 1) := by decide +kernel
theorem dX6_client_126 : decode cX6_client 126 = .ok (.getfield 126, 3) := by decide +kernel
theorem dX6_client_129 : decode cX6_client 129 = .ok (.dup_x1, 1) := by decide +kernel
theorem dX6_client_130 : decode cX6_client 130 = .ok (.iconst 1, 1) := by decide +kernel
theorem dX6_client_131 : decode cX6_client 131 = .ok (.iadd, 1) := by decide +kernel
theorem dX6_client_132 : decode cX6_client 132 = .ok (.putfield 126, 3) := by decide +kernel
theorem dX6_client_135 : decode cX6_client 135 = .ok (.ireturn, 1) := by decide +kernel
theorem dX6_again_0 : decode cX6_again 0 = .ok (.aload_n 0, 1) := by decide +kernel
theorem dX6_again_1 : decode cX6_again 1 = .ok (.iload_n 1, 1) := by decide +kernel
theorem dX6_again_2 : decode cX6_again 2 = .ok (.invokevirtual 137, 3) := by decide +kernel
theorem dX6_again_5 : decode cX6_again 5 = .ok (.astore_n 3, 1) := by decide +kernel
theorem dX6_again_6 : decode cX6_again 6 = .ok (.aload_n 3, 1) := by decide +kernel
theorem dX6_again_7 : decode cX6_again 7 = .ok (.ifnonnull 7, 3) := by decide +kernel
theorem dX6_again_10 : decode cX6_again 10 = .ok (.aconst_null, 1) := by decide +kernel
theorem dX6_again_11 : decode cX6_again 11 = .ok (.goto 11, 3) := by decide +kernel
theorem dX6_again_14 : decode cX6_again 14 = .ok (.aload_n 3, 1) := by decide +kernel
theorem dX6_again_15 : decode cX6_again 15 = .ok (.getfield 141, 3) := by decide +kernel
theorem dX6_again_18 : decode cX6_again 18 = .ok (.iload_n 2, 1) := by decide +kernel
theorem dX6_again_19 : decode cX6_again 19 = .ok (.invokevirtual 145, 3) := by decide +kernel
theorem dX6_again_22 : decode cX6_again 22 = .ok (.astore 4, 2) := by decide +kernel
theorem dX6_again_24 : decode cX6_again 24 = .ok (.aload_n 3, 1) := by decide +kernel
theorem dX6_again_25 : decode cX6_again 25 = .ok (.ifnull 8, 3) := by decide +kernel
theorem dX6_again_28 : decode cX6_again 28 = .ok (.aload 4, 2) := by decide +kernel
theorem dX6_again_30 : decode cX6_again 30 = .ok (.ifnonnull 13, 3) := by decide +kernel
theorem dX6_again_33 : decode cX6_again 33 = .ok (.new 59, 3) := by decide +kernel
theorem dX6_again_36 : decode cX6_again 36 = .ok (.dup, 1) := by decide +kernel
theorem dX6_again_37 : decode cX6_again 37 = .ok (.ldc 148, 2) := by decide +kernel
theorem dX6_again_39 : decode cX6_again 39 = .ok (.invokespecial 63, 3) := by decide +kernel
theorem dX6_again_42 : decode cX6_again 42 = .ok (.athrow, 1) := by decide +kernel
theorem dX6_again_43 : decode cX6_again 43 = .ok (.aload 4, 2) := by decide +kernel
theorem dX6_again_45 : decode cX6_again 45 = .ok (.getfield 129, 3) := by decide +kernel
theorem dX6_again_48 : decode cX6_again 48 = .ok (.ifCond .eq 13, 3) := by decide +kernel
theorem dX6_again_51 : decode cX6_again 51 = .ok (.new 45, 3) := by decide +kernel
theorem dX6_again_54 : decode cX6_again 54 = .ok (.dup, 1) := by decide +kernel
theorem dX6_again_55 : decode cX6_again 55 = .ok (.ldc 150, 2) := by decide +kernel
theorem dX6_again_57 : decode cX6_again 57 = .ok (.invokespecial 49, 3) := by decide +kernel
theorem dX6_again_60 : decode cX6_again 60 = .ok (.athrow, 1) := by decide +kernel
theorem dX6_again_61 : decode cX6_again 61 = .ok (.aload_n 3, 1) := by decide +kernel
theorem dX6_again_62 : decode cX6_again 62 = .ok (.aload 4, 2) := by decide +kernel
theorem dX6_again_64 : decode cX6_again 64 = .ok (.aload_n 3, 1) := by decide +kernel
theorem dX6_again_65 : decode cX6_again 65 = .ok (.getfield 152, 3) := by decide +kernel
theorem dX6_again_68 : decode cX6_again 68 = .ok (.invokevirtual 155, 3) := by decide +kernel
theorem dX6_again_71 : decode cX6_again 71 = .ok (.putfield 152, 3) := by decide +kernel
theorem dX6_again_74 : decode cX6_again 74 = .ok (.aload_n 3, 1) := by decide +kernel
theorem dX6_again_75 : decode cX6_again 75 = .ok (.aload 4, 2) := by decide +kernel
theorem dX6_again_77 : decode cX6_again 77 = .ok (.putfield 159, 3) := by decide +kernel
theorem dX6_again_80 : decode cX6_again 80 = .ok (.aload_n 3, 1) := by decide +kernel
theorem dX6_again_81 : decode cX6_again 81 = .ok (.getfield 152, 3) := by decide +kernel
theorem dX6_again_84 : decode cX6_again 84 = .ok (.ireturn, 1) := by decide +kernel
theorem dX6_adapter_0 : decode cX6_adapter 0 = .ok (.aload_n 0, 1) := by decide +kernel
theorem dX6_adapter_1 : decode cX6_adapter 1 = .ok (.iload_n 1, 1) := by decide +kernel
theorem dX6_adapter_2 : decode cX6_adapter 2 = .ok (.iload_n 2, 1) := by decide +kernel
theorem dX6_adapter_3 : decode cX6_adapter 3 = .ok (.invokevirtual 91, 3) := by decide +kernel
theorem dX6_adapter_6 : decode cX6_adapter 6 = .ok (.astore 6, 2) := by decide +kernel
theorem dX6_adapter_8 : decode cX6_adapter 8 = .ok (.aload_n 0, 1) := by decide +kernel
theorem dX6_adapter_9 : decode cX6_adapter 9 = .ok (.iload_n 1, 1) := by decide +kernel
theorem dX6_adapter_10 : decode cX6_adapter 10 = .ok (.iload_n 3, 1) := by decide +kernel
theorem dX6_adapter_11 : decode cX6_adapter 11 = .ok (.invokevirtual 91, 3) := by decide +kernel
theorem dX6_adapter_14 : decode cX6_adapter 14 = .ok (.astore 7, 2) := by decide +kernel
theorem dX6_adapter_16 : decode cX6_adapter 16 = .ok (.aload 6, 2) := by decide +kernel
theorem dX6_adapter_18 : decode cX6_adapter 18 = .ok (.ifnull 8, 3) := by decide +kernel
theorem dX6_adapter_21 : decode cX6_adapter 21 = .ok (.aload 7, 2) := by decide +kernel
theorem dX6_adapter_23 : decode cX6_adapter 23 = .ok (.ifnonnull 13, 3) := by decide +kernel
theorem dX6_adapter_26 : decode cX6_adapter 26 = .ok (.new 59, 3) := by decide +kernel
theorem dX6_adapter_29 : decode cX6_adapter 29 = .ok (.dup, 1) := by decide +kernel
theorem dX6_adapter_30 : decode cX6_adapter 30 = .ok (.ldc 95, 2) := by decide +kernel
theorem dX6_adapter_32 : decode cX6_adapter 32 = .ok (.invokespecial 63, 3) := by decide +kernel
theorem dX6_adapter_35 : decode cX6_adapter 35 = .ok (.athrow, 1) := by decide +kernel
theorem dX6_adapter_36 : decode cX6_adapter 36 = .ok (.aload 6, 2) := by decide +kernel
theorem dX6_adapter_38 : decode cX6_adapter 38 = .ok (.aload 7, 2) := by decide +kernel
theorem dX6_adapter_40 : decode cX6_adapter 40 = .ok (.if_acmp .eq 19, 3) := by decide +kernel
theorem dX6_adapter_43 : decode cX6_adapter 43 = .ok (.iload 4, 2) := by decide +kernel
theorem dX6_adapter_45 : decode cX6_adapter 45 = .ok (.invokestatic 111, 3) := by decide +kernel
theorem dX6_adapter_48 : decode cX6_adapter 48 = .ok (.ifCond .eq 11, 3) := by decide +kernel
theorem dX6_adapter_51 : decode cX6_adapter 51 = .ok (.iload 5, 2) := by decide +kernel
theorem dX6_adapter_53 : decode cX6_adapter 53 = .ok (.invokestatic 111, 3) := by decide +kernel
theorem dX6_adapter_56 : decode cX6_adapter 56 = .ok (.ifCond .ne 13, 3) := by decide +kernel
theorem dX6_adapter_59 : decode cX6_adapter 59 = .ok (.new 68, 3) := by decide +kernel
theorem dX6_adapter_62 : decode cX6_adapter 62 = .ok (.dup, 1) := by decide +kernel
theorem dX6_adapter_63 : decode cX6_adapter 63 = .ok (.ldc 163, 2) := by decide +kernel
theorem dX6_adapter_65 : decode cX6_adapter 65 = .ok (.invokespecial 72, 3) := by decide +kernel
theorem dX6_adapter_68 : decode cX6_adapter 68 = .ok (.athrow, 1) := by decide +kernel
theorem dX6_adapter_69 : decode cX6_adapter 69 = .ok (.aload_n 0, 1) := by decide +kernel
theorem dX6_adapter_70 : decode cX6_adapter 70 = .ok (.getfield 165, 3) := by decide +kernel
theorem dX6_adapter_73 : decode cX6_adapter 73 = .ok (.ifCond .lt 15, 3) := by decide +kernel
theorem dX6_adapter_76 : decode cX6_adapter 76 = .ok (.aload_n 0, 1) := by decide +kernel
theorem dX6_adapter_77 : decode cX6_adapter 77 = .ok (.getfield 165, 3) := by decide +kernel
theorem dX6_adapter_80 : decode cX6_adapter 80 = .ok (.aload_n 0, 1) := by decide +kernel
theorem dX6_adapter_81 : decode cX6_adapter 81 = .ok (.getfield 23, 3) := by decide +kernel
theorem dX6_adapter_84 : decode cX6_adapter 84 = .ok (.arraylength, 1) := by decide +kernel
theorem dX6_adapter_85 : decode cX6_adapter 85 = .ok (.if_icmp .lt 13, 3) := by decide +kernel
theorem dX6_adapter_88 : decode cX6_adapter 88 = .ok (.new 45, 3) := by decide +kernel
theorem dX6_adapter_91 : decode cX6_adapter 91 = .ok (.dup, 1) := by decide +kernel
theorem dX6_adapter_92 : decode cX6_adapter 92 = .ok (.ldc 168, 2) := by decide +kernel
theorem dX6_adapter_94 : decode cX6_adapter 94 = .ok (.invokespecial 49, 3) := by decide +kernel
theorem dX6_adapter_97 : decode cX6_adapter 97 = .ok (.athrow, 1) := by decide +kernel
theorem dX6_adapter_98 : decode cX6_adapter 98 = .ok (.aload_n 0, 1) := by decide +kernel
theorem dX6_adapter_99 : decode cX6_adapter 99 = .ok (.getfield 23, 3) := by decide +kernel
theorem dX6_adapter_102 : decode cX6_adapter 102 = .ok (.aload_n 0, 1) := by decide +kernel
theorem dX6_adapter_103 : decode cX6_adapter 103 = .ok (.getfield 165, 3) := by decide +kernel
theorem dX6_adapter_106 : decode cX6_adapter 106 = .ok (.new 21, 3) := by decide +kernel
theorem dX6_adapter_109 : decode cX6_adapter 109 = .ok (.dup, 1) := by decide +kernel
theorem dX6_adapter_110 : decode cX6_adapter 110 = .ok (.aload 6, 2) := by decide +kernel
theorem dX6_adapter_112 : decode cX6_adapter 112 = .ok (.aload 7, 2) := by decide +kernel
theorem dX6_adapter_114 : decode cX6_adapter 114 = .ok (.iload 4, 2) := by decide +kernel
theorem dX6_adapter_116 : decode cX6_adapter 116 = .ok (.iload 5, 2) := by decide +kernel
theorem dX6_adapter_118 : decode cX6_adapter 118 = .ok (.invokespecial 170, 3) := by decide +kernel
theorem dX6_adapter_121 : decode cX6_adapter 121 = .ok (.aastore, 1) := by decide +kernel
theorem dX6_adapter_122 : decode cX6_adapter 122 = .ok (.aload_n 0, 1) := by decide +kernel
theorem dX6_adapter_123 : decode cX6_adapter 123 = .ok (.dup, 1) := by decide +kernel
theorem dX6_adapter_124 : decode cX6_adapter 124 = .ok (.getfield 165, 3) := by decide +kernel
theorem dX6_adapter_127 : decode cX6_adapter 127 = .ok (.dup_x1, 1) := by decide +kernel
theorem dX6_adapter_128 : decode cX6_adapter 128 = .ok (.iconst 1, 1) := by decide +kernel
theorem dX6_adapter_129 : decode cX6_adapter 129 = .ok (.iadd, 1) := by decide +kernel
theorem dX6_adapter_130 : decode cX6_adapter 130 = .ok (.putfield 165, 3) := by decide +kernel
theorem dX6_adapter_133 : decode cX6_adapter 133 = .ok (.ireturn, 1) := by decide +kernel
theorem dX6_ofClient_0 : decode cX6_ofClient 0 = .ok (.aload_n 0, 1) := by decide +kernel
theorem dX6_ofClient_1 : decode cX6_ofClient 1 = .ok (.iload_n 1, 1) := by decide +kernel
theorem dX6_ofClient_2 : decode cX6_ofClient 2 = .ok (.invokevirtual 137, 3) := by decide +kernel
theorem dX6_ofClient_5 : decode cX6_ofClient 5 = .ok (.astore_n 3, 1) := by decide +kernel
theorem dX6_ofClient_6 : decode cX6_ofClient 6 = .ok (.aload_n 3, 1) := by decide +kernel
theorem dX6_ofClient_7 : decode cX6_ofClient 7 = .ok (.ifnonnull 13, 3) := by decide +kernel
theorem dX6_ofClient_10 : decode cX6_ofClient 10 = .ok (.new 59, 3) := by decide +kernel
theorem dX6_ofClient_13 : decode cX6_ofClient 13 = .ok (.dup, 1) := by decide +kernel
theorem dX6_ofClient_14 : decode cX6_ofClient 14 = .ok (.ldc 173, 2) := by decide +kernel
theorem dX6_ofClient_16 : decode cX6_ofClient 16 = .ok (.invokespecial 63, 3) := by decide +kernel
theorem dX6_ofClient_19 : decode cX6_ofClient 19 = .ok (.athrow, 1) := by decide +kernel
theorem dX6_ofClient_20 : decode cX6_ofClient 20 = .ok (.iload_n 2, 1) := by decide +kernel
theorem dX6_ofClient_21 : decode cX6_ofClient 21 = .ok (.ifCond .lt 9, 3) := by decide +kernel
theorem dX6_ofClient_24 : decode cX6_ofClient 24 = .ok (.iload_n 2, 1) := by decide +kernel
theorem dX6_ofClient_25 : decode cX6_ofClient 25 = .ok (.bipush 8, 2) := by decide +kernel
theorem dX6_ofClient_27 : decode cX6_ofClient 27 = .ok (.if_icmp .le 13, 3) := by decide +kernel
theorem dX6_ofClient_30 : decode cX6_ofClient 30 = .ok (.new 68, 3) := by decide +kernel
theorem dX6_ofClient_33 : decode cX6_ofClient 33 = .ok (.dup, 1) := by decide +kernel
theorem dX6_ofClient_34 : decode cX6_ofClient 34 = .ok (.ldc 175, 2) := by decide +kernel
theorem dX6_ofClient_36 : decode cX6_ofClient 36 = .ok (.invokespecial 72, 3) := by decide +kernel
theorem dX6_ofClient_39 : decode cX6_ofClient 39 = .ok (.athrow, 1) := by decide +kernel
theorem dX6_ofClient_40 : decode cX6_ofClient 40 = .ok (.aload_n 0, 1) := by decide +kernel
theorem dX6_ofClient_41 : decode cX6_ofClient 41 = .ok (.aload_n 3, 1) := by decide +kernel
theorem dX6_ofClient_42 : decode cX6_ofClient 42 = .ok (.iload_n 2, 1) := by decide +kernel
theorem dX6_ofClient_43 : decode cX6_ofClient 43 = .ok (.invokevirtual 177, 3) := by decide +kernel
theorem dX6_ofClient_46 : decode cX6_ofClient 46 = .ok (.ireturn, 1) := by decide +kernel
theorem dX6_call_0 : decode cX6_call 0 = .ok (.aload_n 0, 1) := by decide +kernel
theorem dX6_call_1 : decode cX6_call 1 = .ok (.iload_n 1, 1) := by decide +kernel
theorem dX6_call_2 : decode cX6_call 2 = .ok (.invokevirtual 137, 3) := by decide +kernel
theorem dX6_call_5 : decode cX6_call 5 = .ok (.astore_n 3, 1) := by decide +kernel
theorem dX6_call_6 : decode cX6_call 6 = .ok (.aload_n 3, 1) := by decide +kernel
theorem dX6_call_7 : decode cX6_call 7 = .ok (.ifnonnull 13, 3) := by decide +kernel
theorem dX6_call_10 : decode cX6_call 10 = .ok (.new 59, 3) := by decide +kernel
theorem dX6_call_13 : decode cX6_call 13 = .ok (.dup, 1) := by decide +kernel
theorem dX6_call_14 : decode cX6_call 14 = .ok (.ldc 173, 2) := by decide +kernel
theorem dX6_call_16 : decode cX6_call 16 = .ok (.invokespecial 63, 3) := by decide +kernel
theorem dX6_call_19 : decode cX6_call 19 = .ok (.athrow, 1) := by decide +kernel
theorem dX6_call_20 : decode cX6_call 20 = .ok (.iload_n 2, 1) := by decide +kernel
theorem dX6_call_21 : decode cX6_call 21 = .ok (.iconst 1, 1) := by decide +kernel
theorem dX6_call_22 : decode cX6_call 22 = .ok (.if_icmp .lt 9, 3) := by decide +kernel
theorem dX6_call_25 : decode cX6_call 25 = .ok (.iload_n 2, 1) := by decide +kernel
theorem dX6_call_26 : decode cX6_call 26 = .ok (.bipush 20, 2) := by decide +kernel
theorem dX6_call_28 : decode cX6_call 28 = .ok (.if_icmp .le 13, 3) := by decide +kernel
theorem dX6_call_31 : decode cX6_call 31 = .ok (.new 68, 3) := by decide +kernel
theorem dX6_call_34 : decode cX6_call 34 = .ok (.dup, 1) := by decide +kernel
theorem dX6_call_35 : decode cX6_call 35 = .ok (.ldc 194, 2) := by decide +kernel
theorem dX6_call_37 : decode cX6_call 37 = .ok (.invokespecial 72, 3) := by decide +kernel
theorem dX6_call_40 : decode cX6_call 40 = .ok (.athrow, 1) := by decide +kernel
theorem dX6_call_41 : decode cX6_call 41 = .ok (.iconst 0, 1) := by decide +kernel
theorem dX6_call_42 : decode cX6_call 42 = .ok (.istore 4, 2) := by decide +kernel
theorem dX6_call_44 : decode cX6_call 44 = .ok (.iconst 0, 1) := by decide +kernel
theorem dX6_call_45 : decode cX6_call 45 = .ok (.istore 5, 2) := by decide +kernel
theorem dX6_call_47 : decode cX6_call 47 = .ok (.iload 5, 2) := by decide +kernel
theorem dX6_call_49 : decode cX6_call 49 = .ok (.iload_n 2, 1) := by decide +kernel
theorem dX6_call_50 : decode cX6_call 50 = .ok (.if_icmp .ge 20, 3) := by decide +kernel
theorem dX6_call_53 : decode cX6_call 53 = .ok (.aload_n 0, 1) := by decide +kernel
theorem dX6_call_54 : decode cX6_call 54 = .ok (.aload_n 3, 1) := by decide +kernel
theorem dX6_call_55 : decode cX6_call 55 = .ok (.invokevirtual 196, 3) := by decide +kernel
theorem dX6_call_58 : decode cX6_call 58 = .ok (.ifCond .eq 6, 3) := by decide +kernel
theorem dX6_call_61 : decode cX6_call 61 = .ok (.iinc 4 1, 3) := by decide +kernel
theorem dX6_call_64 : decode cX6_call 64 = .ok (.iinc 5 1, 3) := by decide +kernel
theorem dX6_call_67 : decode cX6_call 67 = .ok (.goto (-20), 3) := by decide +kernel
theorem dX6_call_70 : decode cX6_call 70 = .ok (.iload 4, 2) := by decide +kernel
theorem dX6_call_72 : decode cX6_call 72 = .ok (.ireturn, 1) := by decide +kernel
theorem dX6_pass_0 : decode cX6_pass 0 = .ok (.iload_n 1, 1) := by decide +kernel
theorem dX6_pass_1 : decode cX6_pass 1 = .ok (.iconst 1, 1) := by decide +kernel
theorem dX6_pass_2 : decode cX6_pass 2 = .ok (.if_icmp .lt 9, 3) := by decide +kernel
theorem dX6_pass_5 : decode cX6_pass 5 = .ok (.iload_n 1, 1) := by decide +kernel
theorem dX6_pass_6 : decode cX6_pass 6 = .ok (.bipush 100, 2) := by decide +kernel
theorem dX6_pass_8 : decode cX6_pass 8 = .ok (.if_icmp .le 13, 3) := by decide +kernel
theorem dX6_pass_11 : decode cX6_pass 11 = .ok (.new 68, 3) := by decide +kernel
theorem dX6_pass_14 : decode cX6_pass 14 = .ok (.dup, 1) := by decide +kernel
theorem dX6_pass_15 : decode cX6_pass 15 = .ok (.ldc 199, 2) := by decide +kernel
theorem dX6_pass_17 : decode cX6_pass 17 = .ok (.invokespecial 72, 3) := by decide +kernel
theorem dX6_pass_20 : decode cX6_pass 20 = .ok (.athrow, 1) := by decide +kernel
theorem dX6_pass_21 : decode cX6_pass 21 = .ok (.iconst 0, 1) := by decide +kernel
theorem dX6_pass_22 : decode cX6_pass 22 = .ok (.istore_n 2, 1) := by decide +kernel
theorem dX6_pass_23 : decode cX6_pass 23 = .ok (.iconst 0, 1) := by decide +kernel
theorem dX6_pass_24 : decode cX6_pass 24 = .ok (.istore_n 3, 1) := by decide +kernel
theorem dX6_pass_25 : decode cX6_pass 25 = .ok (.iload_n 3, 1) := by decide +kernel
theorem dX6_pass_26 : decode cX6_pass 26 = .ok (.iload_n 1, 1) := by decide +kernel
theorem dX6_pass_27 : decode cX6_pass 27 = .ok (.if_icmp .ge 16, 3) := by decide +kernel
theorem dX6_pass_30 : decode cX6_pass 30 = .ok (.iload_n 2, 1) := by decide +kernel
theorem dX6_pass_31 : decode cX6_pass 31 = .ok (.aload_n 0, 1) := by decide +kernel
theorem dX6_pass_32 : decode cX6_pass 32 = .ok (.invokevirtual 201, 3) := by decide +kernel
theorem dX6_pass_35 : decode cX6_pass 35 = .ok (.iadd, 1) := by decide +kernel
theorem dX6_pass_36 : decode cX6_pass 36 = .ok (.istore_n 2, 1) := by decide +kernel
theorem dX6_pass_37 : decode cX6_pass 37 = .ok (.iinc 3 1, 3) := by decide +kernel
theorem dX6_pass_40 : decode cX6_pass 40 = .ok (.goto (-15), 3) := by decide +kernel
theorem dX6_pass_43 : decode cX6_pass 43 = .ok (.iload_n 2, 1) := by decide +kernel
theorem dX6_pass_44 : decode cX6_pass 44 = .ok (.ireturn, 1) := by decide +kernel
theorem dX6_lastCall_0 : decode cX6_lastCall 0 = .ok (.aload_n 0, 1) := by decide +kernel
theorem dX6_lastCall_1 : decode cX6_lastCall 1 = .ok (.iload_n 1, 1) := by decide +kernel
theorem dX6_lastCall_2 : decode cX6_lastCall 2 = .ok (.invokevirtual 137, 3) := by decide +kernel
theorem dX6_lastCall_5 : decode cX6_lastCall 5 = .ok (.astore_n 3, 1) := by decide +kernel
theorem dX6_lastCall_6 : decode cX6_lastCall 6 = .ok (.aload_n 3, 1) := by decide +kernel
theorem dX6_lastCall_7 : decode cX6_lastCall 7 = .ok (.ifnonnull 7, 3) := by decide +kernel
theorem dX6_lastCall_10 : decode cX6_lastCall 10 = .ok (.aconst_null, 1) := by decide +kernel
theorem dX6_lastCall_11 : decode cX6_lastCall 11 = .ok (.goto 11, 3) := by decide +kernel
theorem dX6_lastCall_14 : decode cX6_lastCall 14 = .ok (.aload_n 3, 1) := by decide +kernel
theorem dX6_lastCall_15 : decode cX6_lastCall 15 = .ok (.getfield 141, 3) := by decide +kernel
theorem dX6_lastCall_18 : decode cX6_lastCall 18 = .ok (.iload_n 2, 1) := by decide +kernel
theorem dX6_lastCall_19 : decode cX6_lastCall 19 = .ok (.invokevirtual 145, 3) := by decide +kernel
theorem dX6_lastCall_22 : decode cX6_lastCall 22 = .ok (.astore 4, 2) := by decide +kernel
theorem dX6_lastCall_24 : decode cX6_lastCall 24 = .ok (.aload_n 3, 1) := by decide +kernel
theorem dX6_lastCall_25 : decode cX6_lastCall 25 = .ok (.ifnull 8, 3) := by decide +kernel
theorem dX6_lastCall_28 : decode cX6_lastCall 28 = .ok (.aload 4, 2) := by decide +kernel
theorem dX6_lastCall_30 : decode cX6_lastCall 30 = .ok (.ifnonnull 13, 3) := by decide +kernel
theorem dX6_lastCall_33 : decode cX6_lastCall 33 = .ok (.new 59, 3) := by decide +kernel
theorem dX6_lastCall_36 : decode cX6_lastCall 36 = .ok (.dup, 1) := by decide +kernel
theorem dX6_lastCall_37 : decode cX6_lastCall 37 = .ok (.ldc 148, 2) := by decide +kernel
theorem dX6_lastCall_39 : decode cX6_lastCall 39 = .ok (.invokespecial 63, 3) := by decide +kernel
theorem dX6_lastCall_42 : decode cX6_lastCall 42 = .ok (.athrow, 1) := by decide +kernel
theorem dX6_lastCall_43 : decode cX6_lastCall 43 = .ok (.aload_n 0, 1) := by decide +kernel
theorem dX6_lastCall_44 : decode cX6_lastCall 44 = .ok (.aload_n 3, 1) := by decide +kernel
theorem dX6_lastCall_45 : decode cX6_lastCall 45 = .ok (.aload 4, 2) := by decide +kernel
theorem dX6_lastCall_47 : decode cX6_lastCall 47 = .ok (.invokevirtual 205, 3) := by decide +kernel
theorem dX6_lastCall_50 : decode cX6_lastCall 50 = .ok (.ireturn, 1) := by decide +kernel
end
section
theorem dX6_retire_0 : decode cX6_retire 0 = .ok (.aload_n 0, 1) := by decide +kernel
theorem dX6_retire_1 : decode cX6_retire 1 = .ok (.iload_n 1, 1) := by decide +kernel
theorem dX6_retire_2 : decode cX6_retire 2 = .ok (.iload_n 2, 1) := by decide +kernel
theorem dX6_retire_3 : decode cX6_retire 3 = .ok (.invokevirtual 91, 3) := by decide +kernel
theorem dX6_retire_6 : decode cX6_retire 6 = .ok (.astore 4, 2) := by decide +kernel
theorem dX6_retire_8 : decode cX6_retire 8 = .ok (.aload 4, 2) := by decide +kernel
theorem dX6_retire_10 : decode cX6_retire 10 = .ok (.ifnonnull 13, 3) := by decide +kernel
theorem dX6_retire_13 : decode cX6_retire 13 = .ok (.new 59, 3) := by decide +kernel
theorem dX6_retire_16 : decode cX6_retire 16 = .ok (.dup, 1) := by decide +kernel
theorem dX6_retire_17 : decode cX6_retire 17 = .ok (.ldc 95, 2) := by decide +kernel
theorem dX6_retire_19 : decode cX6_retire 19 = .ok (.invokespecial 63, 3) := by decide +kernel
theorem dX6_retire_22 : decode cX6_retire 22 = .ok (.athrow, 1) := by decide +kernel
theorem dX6_retire_23 : decode cX6_retire 23 = .ok (.iload_n 3, 1) := by decide +kernel
theorem dX6_retire_24 : decode cX6_retire 24 = .ok (.iconst 1, 1) := by decide +kernel
theorem dX6_retire_25 : decode cX6_retire 25 = .ok (.if_icmp .lt 9, 3) := by decide +kernel
theorem dX6_retire_28 : decode cX6_retire 28 = .ok (.iload_n 3, 1) := by decide +kernel
theorem dX6_retire_29 : decode cX6_retire 29 = .ok (.bipush 9, 2) := by decide +kernel
theorem dX6_retire_31 : decode cX6_retire 31 = .ok (.if_icmp .le 13, 3) := by decide +kernel
theorem dX6_retire_34 : decode cX6_retire 34 = .ok (.new 68, 3) := by decide +kernel
theorem dX6_retire_37 : decode cX6_retire 37 = .ok (.dup, 1) := by decide +kernel
theorem dX6_retire_38 : decode cX6_retire 38 = .ok (.ldc 209, 2) := by decide +kernel
theorem dX6_retire_40 : decode cX6_retire 40 = .ok (.invokespecial 72, 3) := by decide +kernel
theorem dX6_retire_43 : decode cX6_retire 43 = .ok (.athrow, 1) := by decide +kernel
theorem dX6_retire_44 : decode cX6_retire 44 = .ok (.aload 4, 2) := by decide +kernel
theorem dX6_retire_46 : decode cX6_retire 46 = .ok (.getfield 129, 3) := by decide +kernel
theorem dX6_retire_49 : decode cX6_retire 49 = .ok (.ifCond .eq 13, 3) := by decide +kernel
theorem dX6_retire_52 : decode cX6_retire 52 = .ok (.new 45, 3) := by decide +kernel
theorem dX6_retire_55 : decode cX6_retire 55 = .ok (.dup, 1) := by decide +kernel
theorem dX6_retire_56 : decode cX6_retire 56 = .ok (.ldc 150, 2) := by decide +kernel
theorem dX6_retire_58 : decode cX6_retire 58 = .ok (.invokespecial 49, 3) := by decide +kernel
theorem dX6_retire_61 : decode cX6_retire 61 = .ok (.athrow, 1) := by decide +kernel
theorem dX6_retire_62 : decode cX6_retire 62 = .ok (.aload 4, 2) := by decide +kernel
theorem dX6_retire_64 : decode cX6_retire 64 = .ok (.iconst 1, 1) := by decide +kernel
theorem dX6_retire_65 : decode cX6_retire 65 = .ok (.putfield 129, 3) := by decide +kernel
theorem dX6_retire_68 : decode cX6_retire 68 = .ok (.aload_n 0, 1) := by decide +kernel
theorem dX6_retire_69 : decode cX6_retire 69 = .ok (.aload 4, 2) := by decide +kernel
theorem dX6_retire_71 : decode cX6_retire 71 = .ok (.aload 4, 2) := by decide +kernel
theorem dX6_retire_73 : decode cX6_retire 73 = .ok (.getfield 211, 3) := by decide +kernel
theorem dX6_retire_76 : decode cX6_retire 76 = .ok (.iload_n 3, 1) := by decide +kernel
theorem dX6_retire_77 : decode cX6_retire 77 = .ok (.invokevirtual 214, 3) := by decide +kernel
theorem dX6_retire_80 : decode cX6_retire 80 = .ok (.ireturn, 1) := by decide +kernel
theorem dX6_answer_0 : decode cX6_answer 0 = .ok (.aload_n 0, 1) := by decide +kernel
theorem dX6_answer_1 : decode cX6_answer 1 = .ok (.iload_n 2, 1) := by decide +kernel
theorem dX6_answer_2 : decode cX6_answer 2 = .ok (.iload_n 3, 1) := by decide +kernel
theorem dX6_answer_3 : decode cX6_answer 3 = .ok (.invokevirtual 91, 3) := by decide +kernel
theorem dX6_answer_6 : decode cX6_answer 6 = .ok (.astore 4, 2) := by decide +kernel
theorem dX6_answer_8 : decode cX6_answer 8 = .ok (.aload 4, 2) := by decide +kernel
theorem dX6_answer_10 : decode cX6_answer 10 = .ok (.ifnull 10, 3) := by decide +kernel
theorem dX6_answer_13 : decode cX6_answer 13 = .ok (.iload_n 1, 1) := by decide +kernel
theorem dX6_answer_14 : decode cX6_answer 14 = .ok (.invokestatic 107, 3) := by decide +kernel
theorem dX6_answer_17 : decode cX6_answer 17 = .ok (.ifCond .ne 13, 3) := by decide +kernel
theorem dX6_answer_20 : decode cX6_answer 20 = .ok (.new 59, 3) := by decide +kernel
theorem dX6_answer_23 : decode cX6_answer 23 = .ok (.dup, 1) := by decide +kernel
theorem dX6_answer_24 : decode cX6_answer 24 = .ok (.ldc 218, 2) := by decide +kernel
theorem dX6_answer_26 : decode cX6_answer 26 = .ok (.invokespecial 63, 3) := by decide +kernel
theorem dX6_answer_29 : decode cX6_answer 29 = .ok (.athrow, 1) := by decide +kernel
theorem dX6_answer_30 : decode cX6_answer 30 = .ok (.aload 4, 2) := by decide +kernel
theorem dX6_answer_32 : decode cX6_answer 32 = .ok (.getfield 129, 3) := by decide +kernel
theorem dX6_answer_35 : decode cX6_answer 35 = .ok (.iconst 1, 1) := by decide +kernel
theorem dX6_answer_36 : decode cX6_answer 36 = .ok (.if_icmp .ne 16, 3) := by decide +kernel
theorem dX6_answer_39 : decode cX6_answer 39 = .ok (.aload 4, 2) := by decide +kernel
theorem dX6_answer_41 : decode cX6_answer 41 = .ok (.getfield 211, 3) := by decide +kernel
theorem dX6_answer_44 : decode cX6_answer 44 = .ok (.iload_n 1, 1) := by decide +kernel
theorem dX6_answer_45 : decode cX6_answer 45 = .ok (.invokevirtual 220, 3) := by decide +kernel
theorem dX6_answer_48 : decode cX6_answer 48 = .ok (.iconst (-1), 1) := by decide +kernel
theorem dX6_answer_49 : decode cX6_answer 49 = .ok (.if_icmp .ne 13, 3) := by decide +kernel
theorem dX6_answer_52 : decode cX6_answer 52 = .ok (.new 45, 3) := by decide +kernel
theorem dX6_answer_55 : decode cX6_answer 55 = .ok (.dup, 1) := by decide +kernel
theorem dX6_answer_56 : decode cX6_answer 56 = .ok (.ldc 223, 2) := by decide +kernel
theorem dX6_answer_58 : decode cX6_answer 58 = .ok (.invokespecial 49, 3) := by decide +kernel
theorem dX6_answer_61 : decode cX6_answer 61 = .ok (.athrow, 1) := by decide +kernel
theorem dX6_answer_62 : decode cX6_answer 62 = .ok (.aload 4, 2) := by decide +kernel
theorem dX6_answer_64 : decode cX6_answer 64 = .ok (.getfield 211, 3) := by decide +kernel
theorem dX6_answer_67 : decode cX6_answer 67 = .ok (.iload_n 1, 1) := by decide +kernel
theorem dX6_answer_68 : decode cX6_answer 68 = .ok (.aload_n 0, 1) := by decide +kernel
theorem dX6_answer_69 : decode cX6_answer 69 = .ok (.getfield 225, 3) := by decide +kernel
theorem dX6_answer_72 : decode cX6_answer 72 = .ok (.invokevirtual 228, 3) := by decide +kernel
theorem dX6_answer_75 : decode cX6_answer 75 = .ok (.istore 5, 2) := by decide +kernel
theorem dX6_answer_77 : decode cX6_answer 77 = .ok (.aload 4, 2) := by decide +kernel
theorem dX6_answer_79 : decode cX6_answer 79 = .ok (.getfield 211, 3) := by decide +kernel
theorem dX6_answer_82 : decode cX6_answer 82 = .ok (.dup, 1) := by decide +kernel
theorem dX6_answer_83 : decode cX6_answer 83 = .ok (.getfield 231, 3) := by decide +kernel
theorem dX6_answer_86 : decode cX6_answer 86 = .ok (.iconst 1, 1) := by decide +kernel
theorem dX6_answer_87 : decode cX6_answer 87 = .ok (.iload_n 1, 1) := by decide +kernel
theorem dX6_answer_88 : decode cX6_answer 88 = .ok (.ishl, 1) := by decide +kernel
theorem dX6_answer_89 : decode cX6_answer 89 = .ok (.ior, 1) := by decide +kernel
theorem dX6_answer_90 : decode cX6_answer 90 = .ok (.putfield 231, 3) := by decide +kernel
theorem dX6_answer_93 : decode cX6_answer 93 = .ok (.iload 5, 2) := by decide +kernel
theorem dX6_answer_95 : decode cX6_answer 95 = .ok (.ireturn, 1) := by decide +kernel
theorem dX6_asked_0 : decode cX6_asked 0 = .ok (.aload_n 0, 1) := by decide +kernel
theorem dX6_asked_1 : decode cX6_asked 1 = .ok (.iload_n 2, 1) := by decide +kernel
theorem dX6_asked_2 : decode cX6_asked 2 = .ok (.iload_n 3, 1) := by decide +kernel
theorem dX6_asked_3 : decode cX6_asked 3 = .ok (.invokevirtual 91, 3) := by decide +kernel
theorem dX6_asked_6 : decode cX6_asked 6 = .ok (.astore 4, 2) := by decide +kernel
theorem dX6_asked_8 : decode cX6_asked 8 = .ok (.aload 4, 2) := by decide +kernel
theorem dX6_asked_10 : decode cX6_asked 10 = .ok (.ifnull 10, 3) := by decide +kernel
theorem dX6_asked_13 : decode cX6_asked 13 = .ok (.iload_n 1, 1) := by decide +kernel
theorem dX6_asked_14 : decode cX6_asked 14 = .ok (.invokestatic 107, 3) := by decide +kernel
theorem dX6_asked_17 : decode cX6_asked 17 = .ok (.ifCond .ne 13, 3) := by decide +kernel
theorem dX6_asked_20 : decode cX6_asked 20 = .ok (.new 59, 3) := by decide +kernel
theorem dX6_asked_23 : decode cX6_asked 23 = .ok (.dup, 1) := by decide +kernel
theorem dX6_asked_24 : decode cX6_asked 24 = .ok (.ldc 218, 2) := by decide +kernel
theorem dX6_asked_26 : decode cX6_asked 26 = .ok (.invokespecial 63, 3) := by decide +kernel
theorem dX6_asked_29 : decode cX6_asked 29 = .ok (.athrow, 1) := by decide +kernel
theorem dX6_asked_30 : decode cX6_asked 30 = .ok (.aload_n 0, 1) := by decide +kernel
theorem dX6_asked_31 : decode cX6_asked 31 = .ok (.iload_n 1, 1) := by decide +kernel
theorem dX6_asked_32 : decode cX6_asked 32 = .ok (.aload 4, 2) := by decide +kernel
theorem dX6_asked_34 : decode cX6_asked 34 = .ok (.invokevirtual 242, 3) := by decide +kernel
theorem dX6_asked_37 : decode cX6_asked 37 = .ok (.ireturn, 1) := by decide +kernel
theorem dX6_many_0 : decode cX6_many 0 = .ok (.iload_n 1, 1) := by decide +kernel
theorem dX6_many_1 : decode cX6_many 1 = .ok (.ifCond .lt 9, 3) := by decide +kernel
theorem dX6_many_4 : decode cX6_many 4 = .ok (.iload_n 1, 1) := by decide +kernel
theorem dX6_many_5 : decode cX6_many 5 = .ok (.bipush 10, 2) := by decide +kernel
theorem dX6_many_7 : decode cX6_many 7 = .ok (.if_icmp .le 13, 3) := by decide +kernel
theorem dX6_many_10 : decode cX6_many 10 = .ok (.new 68, 3) := by decide +kernel
theorem dX6_many_13 : decode cX6_many 13 = .ok (.dup, 1) := by decide +kernel
theorem dX6_many_14 : decode cX6_many 14 = .ok (.ldc 97, 2) := by decide +kernel
theorem dX6_many_16 : decode cX6_many 16 = .ok (.invokespecial 72, 3) := by decide +kernel
theorem dX6_many_19 : decode cX6_many 19 = .ok (.athrow, 1) := by decide +kernel
theorem dX6_many_20 : decode cX6_many 20 = .ok (.aload_n 0, 1) := by decide +kernel
theorem dX6_many_21 : decode cX6_many 21 = .ok (.iload_n 1, 1) := by decide +kernel
theorem dX6_many_22 : decode cX6_many 22 = .ok (.invokevirtual 246, 3) := by decide +kernel
theorem dX6_many_25 : decode cX6_many 25 = .ok (.ireturn, 1) := by decide +kernel
theorem dX6_wouldCome_0 : decode cX6_wouldCome 0 = .ok (.aload_n 0, 1) := by decide +kernel
theorem dX6_wouldCome_1 : decode cX6_wouldCome 1 = .ok (.iload_n 1, 1) := by decide +kernel
theorem dX6_wouldCome_2 : decode cX6_wouldCome 2 = .ok (.invokevirtual 137, 3) := by decide +kernel
theorem dX6_wouldCome_5 : decode cX6_wouldCome 5 = .ok (.astore_n 3, 1) := by decide +kernel
theorem dX6_wouldCome_6 : decode cX6_wouldCome 6 = .ok (.aload_n 3, 1) := by decide +kernel
theorem dX6_wouldCome_7 : decode cX6_wouldCome 7 = .ok (.ifnonnull 13, 3) := by decide +kernel
theorem dX6_wouldCome_10 : decode cX6_wouldCome 10 = .ok (.new 59, 3) := by decide +kernel
theorem dX6_wouldCome_13 : decode cX6_wouldCome 13 = .ok (.dup, 1) := by decide +kernel
theorem dX6_wouldCome_14 : decode cX6_wouldCome 14 = .ok (.ldc 173, 2) := by decide +kernel
theorem dX6_wouldCome_16 : decode cX6_wouldCome 16 = .ok (.invokespecial 63, 3) := by decide +kernel
theorem dX6_wouldCome_19 : decode cX6_wouldCome 19 = .ok (.athrow, 1) := by decide +kernel
theorem dX6_wouldCome_20 : decode cX6_wouldCome 20 = .ok (.iload_n 2, 1) := by decide +kernel
theorem dX6_wouldCome_21 : decode cX6_wouldCome 21 = .ok (.ifCond .lt 9, 3) := by decide +kernel
theorem dX6_wouldCome_24 : decode cX6_wouldCome 24 = .ok (.iload_n 2, 1) := by decide +kernel
theorem dX6_wouldCome_25 : decode cX6_wouldCome 25 = .ok (.bipush 100, 2) := by decide +kernel
theorem dX6_wouldCome_27 : decode cX6_wouldCome 27 = .ok (.if_icmp .le 13, 3) := by decide +kernel
theorem dX6_wouldCome_30 : decode cX6_wouldCome 30 = .ok (.new 68, 3) := by decide +kernel
theorem dX6_wouldCome_33 : decode cX6_wouldCome 33 = .ok (.dup, 1) := by decide +kernel
theorem dX6_wouldCome_34 : decode cX6_wouldCome 34 = .ok (.ldc 255, 2) := by decide +kernel
theorem dX6_wouldCome_36 : decode cX6_wouldCome 36 = .ok (.invokespecial 72, 3) := by decide +kernel
theorem dX6_wouldCome_39 : decode cX6_wouldCome 39 = .ok (.athrow, 1) := by decide +kernel
theorem dX6_wouldCome_40 : decode cX6_wouldCome 40 = .ok (.aload_n 0, 1) := by decide +kernel
theorem dX6_wouldCome_41 : decode cX6_wouldCome 41 = .ok (.aload_n 3, 1) := by decide +kernel
theorem dX6_wouldCome_42 : decode cX6_wouldCome 42 = .ok (.iload_n 2, 1) := by decide +kernel
theorem dX6_wouldCome_43 : decode cX6_wouldCome 43 = .ok (.invokevirtual 257, 3) := by decide +kernel
theorem dX6_wouldCome_46 : decode cX6_wouldCome 46 = .ok (.ireturn, 1) := by decide +kernel
theorem dX6_target_0 : decode cX6_target 0 = .ok (.aload_n 0, 1) := by decide +kernel
theorem dX6_target_1 : decode cX6_target 1 = .ok (.iload_n 1, 1) := by decide +kernel
theorem dX6_target_2 : decode cX6_target 2 = .ok (.invokevirtual 137, 3) := by decide +kernel
theorem dX6_target_5 : decode cX6_target 5 = .ok (.astore_n 2, 1) := by decide +kernel
theorem dX6_target_6 : decode cX6_target 6 = .ok (.aload_n 2, 1) := by decide +kernel
theorem dX6_target_7 : decode cX6_target 7 = .ok (.ifnonnull 13, 3) := by decide +kernel
theorem dX6_target_10 : decode cX6_target 10 = .ok (.new 59, 3) := by decide +kernel
theorem dX6_target_13 : decode cX6_target 13 = .ok (.dup, 1) := by decide +kernel
theorem dX6_target_14 : decode cX6_target 14 = .ok (.ldc 173, 2) := by decide +kernel
theorem dX6_target_16 : decode cX6_target 16 = .ok (.invokespecial 63, 3) := by decide +kernel
theorem dX6_target_19 : decode cX6_target 19 = .ok (.athrow, 1) := by decide +kernel
theorem dX6_target_20 : decode cX6_target 20 = .ok (.aload_n 0, 1) := by decide +kernel
theorem dX6_target_21 : decode cX6_target 21 = .ok (.aload_n 2, 1) := by decide +kernel
theorem dX6_target_22 : decode cX6_target 22 = .ok (.invokevirtual 263, 3) := by decide +kernel
theorem dX6_target_25 : decode cX6_target 25 = .ok (.ireturn, 1) := by decide +kernel
theorem dX6_digest_0 : decode cX6_digest 0 = .ok (.ldc2_w 271, 3) := by decide +kernel
theorem dX6_digest_3 : decode cX6_digest 3 = .ok (.lstore_n 1, 1) := by decide +kernel
theorem dX6_digest_4 : decode cX6_digest 4 = .ok (.iconst 0, 1) := by decide +kernel
theorem dX6_digest_5 : decode cX6_digest 5 = .ok (.istore_n 3, 1) := by decide +kernel
theorem dX6_digest_6 : decode cX6_digest 6 = .ok (.iload_n 3, 1) := by decide +kernel
theorem dX6_digest_7 : decode cX6_digest 7 = .ok (.bipush 10, 2) := by decide +kernel
theorem dX6_digest_9 : decode cX6_digest 9 = .ok (.if_icmp .gt 22, 3) := by decide +kernel
theorem dX6_digest_12 : decode cX6_digest 12 = .ok (.lload_n 1, 1) := by decide +kernel
theorem dX6_digest_13 : decode cX6_digest 13 = .ok (.ldc2_w 273, 3) := by decide +kernel
theorem dX6_digest_16 : decode cX6_digest 16 = .ok (.lmul, 1) := by decide +kernel
theorem dX6_digest_17 : decode cX6_digest 17 = .ok (.aload_n 0, 1) := by decide +kernel
theorem dX6_digest_18 : decode cX6_digest 18 = .ok (.iload_n 3, 1) := by decide +kernel
theorem dX6_digest_19 : decode cX6_digest 19 = .ok (.invokevirtual 246, 3) := by decide +kernel
theorem dX6_digest_22 : decode cX6_digest 22 = .ok (.i2l, 1) := by decide +kernel
theorem dX6_digest_23 : decode cX6_digest 23 = .ok (.ladd, 1) := by decide +kernel
theorem dX6_digest_24 : decode cX6_digest 24 = .ok (.lstore_n 1, 1) := by decide +kernel
theorem dX6_digest_25 : decode cX6_digest 25 = .ok (.iinc 3 1, 3) := by decide +kernel
theorem dX6_digest_28 : decode cX6_digest 28 = .ok (.goto (-22), 3) := by decide +kernel
theorem dX6_digest_31 : decode cX6_digest 31 = .ok (.iconst 0, 1) := by decide +kernel
theorem dX6_digest_32 : decode cX6_digest 32 = .ok (.istore_n 3, 1) := by decide +kernel
theorem dX6_digest_33 : decode cX6_digest 33 = .ok (.iload_n 3, 1) := by decide +kernel
theorem dX6_digest_34 : decode cX6_digest 34 = .ok (.iconst 4, 1) := by decide +kernel
theorem dX6_digest_35 : decode cX6_digest 35 = .ok (.if_icmp .ge 47, 3) := by decide +kernel
theorem dX6_digest_38 : decode cX6_digest 38 = .ok (.iconst 0, 1) := by decide +kernel
theorem dX6_digest_39 : decode cX6_digest 39 = .ok (.istore 4, 2) := by decide +kernel
theorem dX6_digest_41 : decode cX6_digest 41 = .ok (.iload 4, 2) := by decide +kernel
theorem dX6_digest_43 : decode cX6_digest 43 = .ok (.bipush 6, 2) := by decide +kernel
theorem dX6_digest_45 : decode cX6_digest 45 = .ok (.if_icmp .ge 31, 3) := by decide +kernel
theorem dX6_digest_48 : decode cX6_digest 48 = .ok (.aload_n 0, 1) := by decide +kernel
theorem dX6_digest_49 : decode cX6_digest 49 = .ok (.iload_n 3, 1) := by decide +kernel
theorem dX6_digest_50 : decode cX6_digest 50 = .ok (.iload 4, 2) := by decide +kernel
theorem dX6_digest_52 : decode cX6_digest 52 = .ok (.invokevirtual 91, 3) := by decide +kernel
theorem dX6_digest_55 : decode cX6_digest 55 = .ok (.astore 5, 2) := by decide +kernel
theorem dX6_digest_57 : decode cX6_digest 57 = .ok (.aload 5, 2) := by decide +kernel
theorem dX6_digest_59 : decode cX6_digest 59 = .ok (.ifnull 11, 3) := by decide +kernel
theorem dX6_digest_62 : decode cX6_digest 62 = .ok (.aload_n 0, 1) := by decide +kernel
theorem dX6_digest_63 : decode cX6_digest 63 = .ok (.lload_n 1, 1) := by decide +kernel
theorem dX6_digest_64 : decode cX6_digest 64 = .ok (.aload 5, 2) := by decide +kernel
theorem dX6_digest_66 : decode cX6_digest 66 = .ok (.invokevirtual 275, 3) := by decide +kernel
theorem dX6_digest_69 : decode cX6_digest 69 = .ok (.lstore_n 1, 1) := by decide +kernel
theorem dX6_digest_70 : decode cX6_digest 70 = .ok (.iinc 4 1, 3) := by decide +kernel
theorem dX6_digest_73 : decode cX6_digest 73 = .ok (.goto (-32), 3) := by decide +kernel
theorem dX6_digest_76 : decode cX6_digest 76 = .ok (.iinc 3 1, 3) := by decide +kernel
theorem dX6_digest_79 : decode cX6_digest 79 = .ok (.goto (-46), 3) := by decide +kernel
theorem dX6_digest_82 : decode cX6_digest 82 = .ok (.iconst 0, 1) := by decide +kernel
theorem dX6_digest_83 : decode cX6_digest 83 = .ok (.istore_n 3, 1) := by decide +kernel
theorem dX6_digest_84 : decode cX6_digest 84 = .ok (.iload_n 3, 1) := by decide +kernel
theorem dX6_digest_85 : decode cX6_digest 85 = .ok (.aload_n 0, 1) := by decide +kernel
theorem dX6_digest_86 : decode cX6_digest 86 = .ok (.getfield 17, 3) := by decide +kernel
theorem dX6_digest_89 : decode cX6_digest 89 = .ok (.arraylength, 1) := by decide +kernel
theorem dX6_digest_90 : decode cX6_digest 90 = .ok (.if_icmp .ge 30, 3) := by decide +kernel
theorem dX6_digest_93 : decode cX6_digest 93 = .ok (.aload_n 0, 1) := by decide +kernel
theorem dX6_digest_94 : decode cX6_digest 94 = .ok (.getfield 17, 3) := by decide +kernel
theorem dX6_digest_97 : decode cX6_digest 97 = .ok (.iload_n 3, 1) := by decide +kernel
theorem dX6_digest_98 : decode cX6_digest 98 = .ok (.aaload, 1) := by decide +kernel
theorem dX6_digest_99 : decode cX6_digest 99 = .ok (.astore 4, 2) := by decide +kernel
theorem dX6_digest_101 : decode cX6_digest 101 = .ok (.aload 4, 2) := by decide +kernel
theorem dX6_digest_103 : decode cX6_digest 103 = .ok (.ifnull 11, 3) := by decide +kernel
theorem dX6_digest_106 : decode cX6_digest 106 = .ok (.aload_n 0, 1) := by decide +kernel
theorem dX6_digest_107 : decode cX6_digest 107 = .ok (.lload_n 1, 1) := by decide +kernel
theorem dX6_digest_108 : decode cX6_digest 108 = .ok (.aload 4, 2) := by decide +kernel
theorem dX6_digest_110 : decode cX6_digest 110 = .ok (.invokevirtual 279, 3) := by decide +kernel
theorem dX6_digest_113 : decode cX6_digest 113 = .ok (.lstore_n 1, 1) := by decide +kernel
theorem dX6_digest_114 : decode cX6_digest 114 = .ok (.iinc 3 1, 3) := by decide +kernel
theorem dX6_digest_117 : decode cX6_digest 117 = .ok (.goto (-33), 3) := by decide +kernel
theorem dX6_digest_120 : decode cX6_digest 120 = .ok (.lload_n 1, 1) := by decide +kernel
theorem dX6_digest_121 : decode cX6_digest 121 = .ok (.lreturn, 1) := by decide +kernel
theorem dX6_faceAt_0 : decode cX6_faceAt 0 = .ok (.iload_n 1, 1) := by decide +kernel
theorem dX6_faceAt_1 : decode cX6_faceAt 1 = .ok (.ifCond .lt 21, 3) := by decide +kernel
theorem dX6_faceAt_4 : decode cX6_faceAt 4 = .ok (.iload_n 1, 1) := by decide +kernel
theorem dX6_faceAt_5 : decode cX6_faceAt 5 = .ok (.aload_n 0, 1) := by decide +kernel
theorem dX6_faceAt_6 : decode cX6_faceAt 6 = .ok (.getfield 11, 3) := by decide +kernel
theorem dX6_faceAt_9 : decode cX6_faceAt 9 = .ok (.arraylength, 1) := by decide +kernel
theorem dX6_faceAt_10 : decode cX6_faceAt 10 = .ok (.if_icmp .ge 12, 3) := by decide +kernel
theorem dX6_faceAt_13 : decode cX6_faceAt 13 = .ok (.aload_n 0, 1) := by decide +kernel
theorem dX6_faceAt_14 : decode cX6_faceAt 14 = .ok (.getfield 11, 3) := by decide +kernel
theorem dX6_faceAt_17 : decode cX6_faceAt 17 = .ok (.iload_n 1, 1) := by decide +kernel
theorem dX6_faceAt_18 : decode cX6_faceAt 18 = .ok (.aaload, 1) := by decide +kernel
theorem dX6_faceAt_19 : decode cX6_faceAt 19 = .ok (.goto 4, 3) := by decide +kernel
theorem dX6_faceAt_22 : decode cX6_faceAt 22 = .ok (.aconst_null, 1) := by decide +kernel
theorem dX6_faceAt_23 : decode cX6_faceAt 23 = .ok (.areturn, 1) := by decide +kernel
theorem dX6_versionAt_0 : decode cX6_versionAt 0 = .ok (.aload_n 0, 1) := by decide +kernel
theorem dX6_versionAt_1 : decode cX6_versionAt 1 = .ok (.iload_n 1, 1) := by decide +kernel
theorem dX6_versionAt_2 : decode cX6_versionAt 2 = .ok (.invokevirtual 55, 3) := by decide +kernel
theorem dX6_versionAt_5 : decode cX6_versionAt 5 = .ok (.astore_n 3, 1) := by decide +kernel
theorem dX6_versionAt_6 : decode cX6_versionAt 6 = .ok (.aload_n 3, 1) := by decide +kernel
theorem dX6_versionAt_7 : decode cX6_versionAt 7 = .ok (.ifnonnull 7, 3) := by decide +kernel
theorem dX6_versionAt_10 : decode cX6_versionAt 10 = .ok (.aconst_null, 1) := by decide +kernel
theorem dX6_versionAt_11 : decode cX6_versionAt 11 = .ok (.goto 8, 3) := by decide +kernel
theorem dX6_versionAt_14 : decode cX6_versionAt 14 = .ok (.aload_n 3, 1) := by decide +kernel
theorem dX6_versionAt_15 : decode cX6_versionAt 15 = .ok (.iload_n 2, 1) := by decide +kernel
theorem dX6_versionAt_16 : decode cX6_versionAt 16 = .ok (.invokevirtual 145, 3) := by decide +kernel
theorem dX6_versionAt_19 : decode cX6_versionAt 19 = .ok (.areturn, 1) := by decide +kernel
theorem dX6_clientAt_0 : decode cX6_clientAt 0 = .ok (.iload_n 1, 1) := by decide +kernel
theorem dX6_clientAt_1 : decode cX6_clientAt 1 = .ok (.ifCond .lt 21, 3) := by decide +kernel
theorem dX6_clientAt_4 : decode cX6_clientAt 4 = .ok (.iload_n 1, 1) := by decide +kernel
theorem dX6_clientAt_5 : decode cX6_clientAt 5 = .ok (.aload_n 0, 1) := by decide +kernel
theorem dX6_clientAt_6 : decode cX6_clientAt 6 = .ok (.getfield 17, 3) := by decide +kernel
theorem dX6_clientAt_9 : decode cX6_clientAt 9 = .ok (.arraylength, 1) := by decide +kernel
theorem dX6_clientAt_10 : decode cX6_clientAt 10 = .ok (.if_icmp .ge 12, 3) := by decide +kernel
theorem dX6_clientAt_13 : decode cX6_clientAt 13 = .ok (.aload_n 0, 1) := by decide +kernel
theorem dX6_clientAt_14 : decode cX6_clientAt 14 = .ok (.getfield 17, 3) := by decide +kernel
theorem dX6_clientAt_17 : decode cX6_clientAt 17 = .ok (.iload_n 1, 1) := by decide +kernel
theorem dX6_clientAt_18 : decode cX6_clientAt 18 = .ok (.aaload, 1) := by decide +kernel
theorem dX6_clientAt_19 : decode cX6_clientAt 19 = .ok (.goto 4, 3) := by decide +kernel
theorem dX6_clientAt_22 : decode cX6_clientAt 22 = .ok (.aconst_null, 1) := by decide +kernel
theorem dX6_clientAt_23 : decode cX6_clientAt 23 = .ok (.areturn, 1) := by decide +kernel
theorem dX6_isOwner_0 : decode cX6_isOwner 0 = .ok (.iload_n 0, 1) := by decide +kernel
theorem dX6_isOwner_1 : decode cX6_isOwner 1 = .ok (.ifCond .lt 12, 3) := by decide +kernel
theorem dX6_isOwner_4 : decode cX6_isOwner 4 = .ok (.iload_n 0, 1) := by decide +kernel
theorem dX6_isOwner_5 : decode cX6_isOwner 5 = .ok (.iconst 5, 1) := by decide +kernel
theorem dX6_isOwner_6 : decode cX6_isOwner 6 = .ok (.if_icmp .ge 7, 3) := by decide +kernel
theorem dX6_isOwner_9 : decode cX6_isOwner 9 = .ok (.iconst 1, 1) := by decide +kernel
theorem dX6_isOwner_10 : decode cX6_isOwner 10 = .ok (.goto 4, 3) := by decide +kernel
theorem dX6_isOwner_13 : decode cX6_isOwner 13 = .ok (.iconst 0, 1) := by decide +kernel
theorem dX6_isOwner_14 : decode cX6_isOwner 14 = .ok (.ireturn, 1) := by decide +kernel
theorem dX6_isFieldSet_0 : decode cX6_isFieldSet 0 = .ok (.iload_n 0, 1) := by decide +kernel
theorem dX6_isFieldSet_1 : decode cX6_isFieldSet 1 = .ok (.ifCond .lt 14, 3) := by decide +kernel
theorem dX6_isFieldSet_4 : decode cX6_isFieldSet 4 = .ok (.iload_n 0, 1) := by decide +kernel
theorem dX6_isFieldSet_5 : decode cX6_isFieldSet 5 = .ok (.sipush 255, 3) := by decide +kernel
theorem dX6_isFieldSet_8 : decode cX6_isFieldSet 8 = .ok (.if_icmp .gt 7, 3) := by decide +kernel
theorem dX6_isFieldSet_11 : decode cX6_isFieldSet 11 = .ok (.iconst 1, 1) := by decide +kernel
theorem dX6_isFieldSet_12 : decode cX6_isFieldSet 12 = .ok (.goto 4, 3) := by decide +kernel
theorem dX6_isFieldSet_15 : decode cX6_isFieldSet 15 = .ok (.iconst 0, 1) := by decide +kernel
theorem dX6_isFieldSet_16 : decode cX6_isFieldSet 16 = .ok (.ireturn, 1) := by decide +kernel
theorem dX6_isShape_0 : decode cX6_isShape 0 = .ok (.iload_n 0, 1) := by decide +kernel
theorem dX6_isShape_1 : decode cX6_isShape 1 = .ok (.invokestatic 111, 3) := by decide +kernel
theorem dX6_isShape_4 : decode cX6_isShape 4 = .ok (.ifCond .eq 19, 3) := by decide +kernel
theorem dX6_isShape_7 : decode cX6_isShape 7 = .ok (.iload_n 1, 1) := by decide +kernel
theorem dX6_isShape_8 : decode cX6_isShape 8 = .ok (.ifCond .lt 15, 3) := by decide +kernel
theorem dX6_isShape_11 : decode cX6_isShape 11 = .ok (.iload_n 1, 1) := by decide +kernel
theorem dX6_isShape_12 : decode cX6_isShape 12 = .ok (.iload_n 0, 1) := by decide +kernel
theorem dX6_isShape_13 : decode cX6_isShape 13 = .ok (.iconst (-1), 1) := by decide +kernel
theorem dX6_isShape_14 : decode cX6_isShape 14 = .ok (.ixor, 1) := by decide +kernel
theorem dX6_isShape_15 : decode cX6_isShape 15 = .ok (.iand, 1) := by decide +kernel
theorem dX6_isShape_16 : decode cX6_isShape 16 = .ok (.ifCond .ne 7, 3) := by decide +kernel
theorem dX6_isShape_19 : decode cX6_isShape 19 = .ok (.iconst 1, 1) := by decide +kernel
theorem dX6_isShape_20 : decode cX6_isShape 20 = .ok (.goto 4, 3) := by decide +kernel
theorem dX6_isShape_23 : decode cX6_isShape 23 = .ok (.iconst 0, 1) := by decide +kernel
theorem dX6_isShape_24 : decode cX6_isShape 24 = .ok (.ireturn, 1) := by decide +kernel
theorem dX6_fits_0 : decode cX6_fits 0 = .ok (.iload_n 2, 1) := by decide +kernel
theorem dX6_fits_1 : decode cX6_fits 1 = .ok (.iload_n 0, 1) := by decide +kernel
theorem dX6_fits_2 : decode cX6_fits 2 = .ok (.iconst (-1), 1) := by decide +kernel
theorem dX6_fits_3 : decode cX6_fits 3 = .ok (.ixor, 1) := by decide +kernel
theorem dX6_fits_4 : decode cX6_fits 4 = .ok (.iand, 1) := by decide +kernel
theorem dX6_fits_5 : decode cX6_fits 5 = .ok (.ifCond .ne 15, 3) := by decide +kernel
theorem dX6_fits_8 : decode cX6_fits 8 = .ok (.iload_n 0, 1) := by decide +kernel
theorem dX6_fits_9 : decode cX6_fits 9 = .ok (.iload_n 1, 1) := by decide +kernel
theorem dX6_fits_10 : decode cX6_fits 10 = .ok (.iconst (-1), 1) := by decide +kernel
theorem dX6_fits_11 : decode cX6_fits 11 = .ok (.ixor, 1) := by decide +kernel
theorem dX6_fits_12 : decode cX6_fits 12 = .ok (.iand, 1) := by decide +kernel
theorem dX6_fits_13 : decode cX6_fits 13 = .ok (.ifCond .ne 7, 3) := by decide +kernel
theorem dX6_fits_16 : decode cX6_fits 16 = .ok (.iconst 1, 1) := by decide +kernel
theorem dX6_fits_17 : decode cX6_fits 17 = .ok (.goto 4, 3) := by decide +kernel
theorem dX6_fits_20 : decode cX6_fits 20 = .ok (.iconst 0, 1) := by decide +kernel
theorem dX6_fits_21 : decode cX6_fits 21 = .ok (.ireturn, 1) := by decide +kernel
theorem dX6_countSuited_0 : decode cX6_countSuited 0 = .ok (.iconst 0, 1) := by decide +kernel
theorem dX6_countSuited_1 : decode cX6_countSuited 1 = .ok (.istore_n 1, 1) := by decide +kernel
theorem dX6_countSuited_2 : decode cX6_countSuited 2 = .ok (.iconst 0, 1) := by decide +kernel
theorem dX6_countSuited_3 : decode cX6_countSuited 3 = .ok (.istore_n 2, 1) := by decide +kernel
theorem dX6_countSuited_4 : decode cX6_countSuited 4 = .ok (.iload_n 2, 1) := by decide +kernel
theorem dX6_countSuited_5 : decode cX6_countSuited 5 = .ok (.aload_n 0, 1) := by decide +kernel
theorem dX6_countSuited_6 : decode cX6_countSuited 6 = .ok (.getfield 283, 3) := by decide +kernel
theorem dX6_countSuited_9 : decode cX6_countSuited 9 = .ok (.if_icmp .ge 33, 3) := by decide +kernel
theorem dX6_countSuited_12 : decode cX6_countSuited 12 = .ok (.aload_n 0, 1) := by decide +kernel
theorem dX6_countSuited_13 : decode cX6_countSuited 13 = .ok (.getfield 286, 3) := by decide +kernel
theorem dX6_countSuited_16 : decode cX6_countSuited 16 = .ok (.iload_n 2, 1) := by decide +kernel
theorem dX6_countSuited_17 : decode cX6_countSuited 17 = .ok (.invokevirtual 145, 3) := by decide +kernel
theorem dX6_countSuited_20 : decode cX6_countSuited 20 = .ok (.astore_n 3, 1) := by decide +kernel
theorem dX6_countSuited_21 : decode cX6_countSuited 21 = .ok (.aload_n 3, 1) := by decide +kernel
theorem dX6_countSuited_22 : decode cX6_countSuited 22 = .ok (.ifnull 14, 3) := by decide +kernel
theorem dX6_countSuited_25 : decode cX6_countSuited 25 = .ok (.aload_n 0, 1) := by decide +kernel
theorem dX6_countSuited_26 : decode cX6_countSuited 26 = .ok (.aload_n 3, 1) := by decide +kernel
theorem dX6_countSuited_27 : decode cX6_countSuited 27 = .ok (.invokevirtual 103, 3) := by decide +kernel
theorem dX6_countSuited_30 : decode cX6_countSuited 30 = .ok (.ifCond .eq 6, 3) := by decide +kernel
theorem dX6_countSuited_33 : decode cX6_countSuited 33 = .ok (.iinc 1 1, 3) := by decide +kernel
theorem dX6_countSuited_36 : decode cX6_countSuited 36 = .ok (.iinc 2 1, 3) := by decide +kernel
theorem dX6_countSuited_39 : decode cX6_countSuited 39 = .ok (.goto (-35), 3) := by decide +kernel
theorem dX6_countSuited_42 : decode cX6_countSuited 42 = .ok (.iload_n 1, 1) := by decide +kernel
theorem dX6_countSuited_43 : decode cX6_countSuited 43 = .ok (.ireturn, 1) := by decide +kernel
theorem dX6_versionFact_0 : decode cX6_versionFact 0 = .ok (.iload_n 2, 1) := by decide +kernel
theorem dX6_versionFact_1 : decode cX6_versionFact 1 = .ok (.tableswitch 134 0 9 #[55, 60, 65, 70, 78, 86, 92, 119, 124, 129], 55) := by decide +kernel
theorem dX6_versionFact_56 : decode cX6_versionFact 56 = .ok (.aload_n 1, 1) := by decide +kernel
theorem dX6_versionFact_57 : decode cX6_versionFact 57 = .ok (.getfield 114, 3) := by decide +kernel
theorem dX6_versionFact_60 : decode cX6_versionFact 60 = .ok (.ireturn, 1) := by decide +kernel
theorem dX6_versionFact_61 : decode cX6_versionFact 61 = .ok (.aload_n 1, 1) := by decide +kernel
theorem dX6_versionFact_62 : decode cX6_versionFact 62 = .ok (.getfield 117, 3) := by decide +kernel
theorem dX6_versionFact_65 : decode cX6_versionFact 65 = .ok (.ireturn, 1) := by decide +kernel
theorem dX6_versionFact_66 : decode cX6_versionFact 66 = .ok (.aload_n 1, 1) := by decide +kernel
theorem dX6_versionFact_67 : decode cX6_versionFact 67 = .ok (.getfield 129, 3) := by decide +kernel
theorem dX6_versionFact_70 : decode cX6_versionFact 70 = .ok (.ireturn, 1) := by decide +kernel
theorem dX6_versionFact_71 : decode cX6_versionFact 71 = .ok (.aload_n 1, 1) := by decide +kernel
theorem dX6_versionFact_72 : decode cX6_versionFact 72 = .ok (.getfield 211, 3) := by decide +kernel
theorem dX6_versionFact_75 : decode cX6_versionFact 75 = .ok (.getfield 287, 3) := by decide +kernel
theorem dX6_versionFact_78 : decode cX6_versionFact 78 = .ok (.ireturn, 1) := by decide +kernel
theorem dX6_versionFact_79 : decode cX6_versionFact 79 = .ok (.aload_n 1, 1) := by decide +kernel
theorem dX6_versionFact_80 : decode cX6_versionFact 80 = .ok (.getfield 211, 3) := by decide +kernel
theorem dX6_versionFact_83 : decode cX6_versionFact 83 = .ok (.getfield 236, 3) := by decide +kernel
theorem dX6_versionFact_86 : decode cX6_versionFact 86 = .ok (.ireturn, 1) := by decide +kernel
theorem dX6_versionFact_87 : decode cX6_versionFact 87 = .ok (.aload_n 0, 1) := by decide +kernel
theorem dX6_versionFact_88 : decode cX6_versionFact 88 = .ok (.aload_n 1, 1) := by decide +kernel
theorem dX6_versionFact_89 : decode cX6_versionFact 89 = .ok (.invokevirtual 290, 3) := by decide +kernel
theorem dX6_versionFact_92 : decode cX6_versionFact 92 = .ok (.ireturn, 1) := by decide +kernel
theorem dX6_versionFact_93 : decode cX6_versionFact 93 = .ok (.aload_n 1, 1) := by decide +kernel
theorem dX6_versionFact_94 : decode cX6_versionFact 94 = .ok (.getfield 129, 3) := by decide +kernel
theorem dX6_versionFact_97 : decode cX6_versionFact 97 = .ok (.iconst 1, 1) := by decide +kernel
theorem dX6_versionFact_98 : decode cX6_versionFact 98 = .ok (.if_icmp .ne 20, 3) := by decide +kernel
theorem dX6_versionFact_101 : decode cX6_versionFact 101 = .ok (.aload_n 0, 1) := by decide +kernel
theorem dX6_versionFact_102 : decode cX6_versionFact 102 = .ok (.aload_n 1, 1) := by decide +kernel
theorem dX6_versionFact_103 : decode cX6_versionFact 103 = .ok (.aload_n 1, 1) := by decide +kernel
theorem dX6_versionFact_104 : decode cX6_versionFact 104 = .ok (.getfield 211, 3) := by decide +kernel
theorem dX6_versionFact_107 : decode cX6_versionFact 107 = .ok (.aload_n 0, 1) := by decide +kernel
theorem dX6_versionFact_108 : decode cX6_versionFact 108 = .ok (.getfield 225, 3) := by decide +kernel
theorem dX6_versionFact_111 : decode cX6_versionFact 111 = .ok (.iconst 0, 1) := by decide +kernel
theorem dX6_versionFact_112 : decode cX6_versionFact 112 = .ok (.invokevirtual 293, 3) := by decide +kernel
theorem dX6_versionFact_115 : decode cX6_versionFact 115 = .ok (.goto 4, 3) := by decide +kernel
theorem dX6_versionFact_118 : decode cX6_versionFact 118 = .ok (.iconst 0, 1) := by decide +kernel
theorem dX6_versionFact_119 : decode cX6_versionFact 119 = .ok (.ireturn, 1) := by decide +kernel
theorem dX6_versionFact_120 : decode cX6_versionFact 120 = .ok (.aload_n 1, 1) := by decide +kernel
theorem dX6_versionFact_121 : decode cX6_versionFact 121 = .ok (.getfield 297, 3) := by decide +kernel
theorem dX6_versionFact_124 : decode cX6_versionFact 124 = .ok (.ireturn, 1) := by decide +kernel
theorem dX6_versionFact_125 : decode cX6_versionFact 125 = .ok (.aload_n 1, 1) := by decide +kernel
theorem dX6_versionFact_126 : decode cX6_versionFact 126 = .ok (.getfield 300, 3) := by decide +kernel
theorem dX6_versionFact_129 : decode cX6_versionFact 129 = .ok (.ireturn, 1) := by decide +kernel
theorem dX6_versionFact_130 : decode cX6_versionFact 130 = .ok (.aload_n 1, 1) := by decide +kernel
theorem dX6_versionFact_131 : decode cX6_versionFact 131 = .ok (.getfield 301, 3) := by decide +kernel
theorem dX6_versionFact_134 : decode cX6_versionFact 134 = .ok (.ireturn, 1) := by decide +kernel
theorem dX6_versionFact_135 : decode cX6_versionFact 135 = .ok (.aload_n 0, 1) := by decide +kernel
theorem dX6_versionFact_136 : decode cX6_versionFact 136 = .ok (.aload_n 1, 1) := by decide +kernel
theorem dX6_versionFact_137 : decode cX6_versionFact 137 = .ok (.invokevirtual 302, 3) := by decide +kernel
theorem dX6_versionFact_140 : decode cX6_versionFact 140 = .ok (.ireturn, 1) := by decide +kernel
theorem dX6_clientFact_0 : decode cX6_clientFact 0 = .ok (.iload_n 2, 1) := by decide +kernel
theorem dX6_clientFact_1 : decode cX6_clientFact 1 = .ok (.tableswitch 123 0 7 #[47, 52, 60, 68, 73, 78, 83, 103], 47) := by decide +kernel
theorem dX6_clientFact_48 : decode cX6_clientFact 48 = .ok (.aload_n 1, 1) := by decide +kernel
theorem dX6_clientFact_49 : decode cX6_clientFact 49 = .ok (.getfield 305, 3) := by decide +kernel
theorem dX6_clientFact_52 : decode cX6_clientFact 52 = .ok (.ireturn, 1) := by decide +kernel
theorem dX6_clientFact_53 : decode cX6_clientFact 53 = .ok (.aload_n 1, 1) := by decide +kernel
theorem dX6_clientFact_54 : decode cX6_clientFact 54 = .ok (.getfield 141, 3) := by decide +kernel
theorem dX6_clientFact_57 : decode cX6_clientFact 57 = .ok (.getfield 308, 3) := by decide +kernel
theorem dX6_clientFact_60 : decode cX6_clientFact 60 = .ok (.ireturn, 1) := by decide +kernel
theorem dX6_clientFact_61 : decode cX6_clientFact 61 = .ok (.aload_n 1, 1) := by decide +kernel
theorem dX6_clientFact_62 : decode cX6_clientFact 62 = .ok (.getfield 159, 3) := by decide +kernel
theorem dX6_clientFact_65 : decode cX6_clientFact 65 = .ok (.getfield 283, 3) := by decide +kernel
theorem dX6_clientFact_68 : decode cX6_clientFact 68 = .ok (.ireturn, 1) := by decide +kernel
theorem dX6_clientFact_69 : decode cX6_clientFact 69 = .ok (.aload_n 1, 1) := by decide +kernel
theorem dX6_clientFact_70 : decode cX6_clientFact 70 = .ok (.getfield 152, 3) := by decide +kernel
theorem dX6_clientFact_73 : decode cX6_clientFact 73 = .ok (.ireturn, 1) := by decide +kernel
theorem dX6_clientFact_74 : decode cX6_clientFact 74 = .ok (.aload_n 1, 1) := by decide +kernel
theorem dX6_clientFact_75 : decode cX6_clientFact 75 = .ok (.getfield 309, 3) := by decide +kernel
theorem dX6_clientFact_78 : decode cX6_clientFact 78 = .ok (.ireturn, 1) := by decide +kernel
theorem dX6_clientFact_79 : decode cX6_clientFact 79 = .ok (.aload_n 1, 1) := by decide +kernel
theorem dX6_clientFact_80 : decode cX6_clientFact 80 = .ok (.getfield 310, 3) := by decide +kernel
theorem dX6_clientFact_83 : decode cX6_clientFact 83 = .ok (.ireturn, 1) := by decide +kernel
theorem dX6_clientFact_84 : decode cX6_clientFact 84 = .ok (.aload_n 0, 1) := by decide +kernel
theorem dX6_clientFact_85 : decode cX6_clientFact 85 = .ok (.aload_n 1, 1) := by decide +kernel
theorem dX6_clientFact_86 : decode cX6_clientFact 86 = .ok (.invokevirtual 181, 3) := by decide +kernel
theorem dX6_clientFact_89 : decode cX6_clientFact 89 = .ok (.ifCond .eq 13, 3) := by decide +kernel
theorem dX6_clientFact_92 : decode cX6_clientFact 92 = .ok (.aload_n 0, 1) := by decide +kernel
theorem dX6_clientFact_93 : decode cX6_clientFact 93 = .ok (.getfield 30, 3) := by decide +kernel
theorem dX6_clientFact_96 : decode cX6_clientFact 96 = .ok (.getfield 185, 3) := by decide +kernel
theorem dX6_clientFact_99 : decode cX6_clientFact 99 = .ok (.goto 4, 3) := by decide +kernel
theorem dX6_clientFact_102 : decode cX6_clientFact 102 = .ok (.iconst (-1), 1) := by decide +kernel
theorem dX6_clientFact_103 : decode cX6_clientFact 103 = .ok (.ireturn, 1) := by decide +kernel
theorem dX6_clientFact_104 : decode cX6_clientFact 104 = .ok (.aload_n 0, 1) := by decide +kernel
theorem dX6_clientFact_105 : decode cX6_clientFact 105 = .ok (.aload_n 1, 1) := by decide +kernel
theorem dX6_clientFact_106 : decode cX6_clientFact 106 = .ok (.invokevirtual 181, 3) := by decide +kernel
theorem dX6_clientFact_109 : decode cX6_clientFact 109 = .ok (.ifCond .eq 13, 3) := by decide +kernel
theorem dX6_clientFact_112 : decode cX6_clientFact 112 = .ok (.aload_n 0, 1) := by decide +kernel
theorem dX6_clientFact_113 : decode cX6_clientFact 113 = .ok (.getfield 30, 3) := by decide +kernel
theorem dX6_clientFact_116 : decode cX6_clientFact 116 = .ok (.getfield 311, 3) := by decide +kernel
theorem dX6_clientFact_119 : decode cX6_clientFact 119 = .ok (.goto 4, 3) := by decide +kernel
theorem dX6_clientFact_122 : decode cX6_clientFact 122 = .ok (.iconst (-1), 1) := by decide +kernel
theorem dX6_clientFact_123 : decode cX6_clientFact 123 = .ok (.ireturn, 1) := by decide +kernel
theorem dX6_clientFact_124 : decode cX6_clientFact 124 = .ok (.aload_n 0, 1) := by decide +kernel
theorem dX6_clientFact_125 : decode cX6_clientFact 125 = .ok (.aload_n 1, 1) := by decide +kernel
theorem dX6_clientFact_126 : decode cX6_clientFact 126 = .ok (.invokevirtual 181, 3) := by decide +kernel
theorem dX6_clientFact_129 : decode cX6_clientFact 129 = .ok (.ifCond .eq 13, 3) := by decide +kernel
theorem dX6_clientFact_132 : decode cX6_clientFact 132 = .ok (.aload_n 0, 1) := by decide +kernel
theorem dX6_clientFact_133 : decode cX6_clientFact 133 = .ok (.getfield 30, 3) := by decide +kernel
theorem dX6_clientFact_136 : decode cX6_clientFact 136 = .ok (.getfield 314, 3) := by decide +kernel
theorem dX6_clientFact_139 : decode cX6_clientFact 139 = .ok (.goto 4, 3) := by decide +kernel
theorem dX6_clientFact_142 : decode cX6_clientFact 142 = .ok (.iconst (-1), 1) := by decide +kernel
theorem dX6_clientFact_143 : decode cX6_clientFact 143 = .ok (.ireturn, 1) := by decide +kernel
end
section
theorem dX6_countOf_0 : decode cX6_countOf 0 = .ok (.iload_n 1, 1) := by decide +kernel
theorem dX6_countOf_1 : decode cX6_countOf 1 = .ok (.tableswitch 121 0 9 #[55, 60, 78, 84, 90, 96, 101, 106, 111, 116], 55) := by decide +kernel
theorem dX6_countOf_56 : decode cX6_countOf 56 = .ok (.aload_n 0, 1) := by decide +kernel
theorem dX6_countOf_57 : decode cX6_countOf 57 = .ok (.getfield 41, 3) := by decide +kernel
theorem dX6_countOf_60 : decode cX6_countOf 60 = .ok (.ireturn, 1) := by decide +kernel
theorem dX6_countOf_61 : decode cX6_countOf 61 = .ok (.aload_n 0, 1) := by decide +kernel
theorem dX6_countOf_62 : decode cX6_countOf 62 = .ok (.iconst 0, 1) := by decide +kernel
theorem dX6_countOf_63 : decode cX6_countOf 63 = .ok (.invokevirtual 317, 3) := by decide +kernel
theorem dX6_countOf_66 : decode cX6_countOf 66 = .ok (.aload_n 0, 1) := by decide +kernel
theorem dX6_countOf_67 : decode cX6_countOf 67 = .ok (.iconst 1, 1) := by decide +kernel
theorem dX6_countOf_68 : decode cX6_countOf 68 = .ok (.invokevirtual 317, 3) := by decide +kernel
theorem dX6_countOf_71 : decode cX6_countOf 71 = .ok (.iadd, 1) := by decide +kernel
theorem dX6_countOf_72 : decode cX6_countOf 72 = .ok (.aload_n 0, 1) := by decide +kernel
theorem dX6_countOf_73 : decode cX6_countOf 73 = .ok (.iconst 2, 1) := by decide +kernel
theorem dX6_countOf_74 : decode cX6_countOf 74 = .ok (.invokevirtual 317, 3) := by decide +kernel
theorem dX6_countOf_77 : decode cX6_countOf 77 = .ok (.iadd, 1) := by decide +kernel
theorem dX6_countOf_78 : decode cX6_countOf 78 = .ok (.ireturn, 1) := by decide +kernel
theorem dX6_countOf_79 : decode cX6_countOf 79 = .ok (.aload_n 0, 1) := by decide +kernel
theorem dX6_countOf_80 : decode cX6_countOf 80 = .ok (.iconst 0, 1) := by decide +kernel
theorem dX6_countOf_81 : decode cX6_countOf 81 = .ok (.invokevirtual 317, 3) := by decide +kernel
theorem dX6_countOf_84 : decode cX6_countOf 84 = .ok (.ireturn, 1) := by decide +kernel
theorem dX6_countOf_85 : decode cX6_countOf 85 = .ok (.aload_n 0, 1) := by decide +kernel
theorem dX6_countOf_86 : decode cX6_countOf 86 = .ok (.iconst 1, 1) := by decide +kernel
theorem dX6_countOf_87 : decode cX6_countOf 87 = .ok (.invokevirtual 317, 3) := by decide +kernel
theorem dX6_countOf_90 : decode cX6_countOf 90 = .ok (.ireturn, 1) := by decide +kernel
theorem dX6_countOf_91 : decode cX6_countOf 91 = .ok (.aload_n 0, 1) := by decide +kernel
theorem dX6_countOf_92 : decode cX6_countOf 92 = .ok (.iconst 2, 1) := by decide +kernel
theorem dX6_countOf_93 : decode cX6_countOf 93 = .ok (.invokevirtual 317, 3) := by decide +kernel
theorem dX6_countOf_96 : decode cX6_countOf 96 = .ok (.ireturn, 1) := by decide +kernel
theorem dX6_countOf_97 : decode cX6_countOf 97 = .ok (.aload_n 0, 1) := by decide +kernel
theorem dX6_countOf_98 : decode cX6_countOf 98 = .ok (.getfield 126, 3) := by decide +kernel
theorem dX6_countOf_101 : decode cX6_countOf 101 = .ok (.ireturn, 1) := by decide +kernel
theorem dX6_countOf_102 : decode cX6_countOf 102 = .ok (.aload_n 0, 1) := by decide +kernel
theorem dX6_countOf_103 : decode cX6_countOf 103 = .ok (.getfield 165, 3) := by decide +kernel
theorem dX6_countOf_106 : decode cX6_countOf 106 = .ok (.ireturn, 1) := by decide +kernel
theorem dX6_countOf_107 : decode cX6_countOf 107 = .ok (.aload_n 0, 1) := by decide +kernel
theorem dX6_countOf_108 : decode cX6_countOf 108 = .ok (.getfield 249, 3) := by decide +kernel
theorem dX6_countOf_111 : decode cX6_countOf 111 = .ok (.ireturn, 1) := by decide +kernel
theorem dX6_countOf_112 : decode cX6_countOf 112 = .ok (.aload_n 0, 1) := by decide +kernel
theorem dX6_countOf_113 : decode cX6_countOf 113 = .ok (.getfield 252, 3) := by decide +kernel
theorem dX6_countOf_116 : decode cX6_countOf 116 = .ok (.ireturn, 1) := by decide +kernel
theorem dX6_countOf_117 : decode cX6_countOf 117 = .ok (.aload_n 0, 1) := by decide +kernel
theorem dX6_countOf_118 : decode cX6_countOf 118 = .ok (.getfield 320, 3) := by decide +kernel
theorem dX6_countOf_121 : decode cX6_countOf 121 = .ok (.ireturn, 1) := by decide +kernel
theorem dX6_countOf_122 : decode cX6_countOf 122 = .ok (.aload_n 0, 1) := by decide +kernel
theorem dX6_countOf_123 : decode cX6_countOf 123 = .ok (.getfield 225, 3) := by decide +kernel
theorem dX6_countOf_126 : decode cX6_countOf 126 = .ok (.ireturn, 1) := by decide +kernel
theorem dX6_countVersions_0 : decode cX6_countVersions 0 = .ok (.iconst 0, 1) := by decide +kernel
theorem dX6_countVersions_1 : decode cX6_countVersions 1 = .ok (.istore_n 2, 1) := by decide +kernel
theorem dX6_countVersions_2 : decode cX6_countVersions 2 = .ok (.iconst 0, 1) := by decide +kernel
theorem dX6_countVersions_3 : decode cX6_countVersions 3 = .ok (.istore_n 3, 1) := by decide +kernel
theorem dX6_countVersions_4 : decode cX6_countVersions 4 = .ok (.iload_n 3, 1) := by decide +kernel
theorem dX6_countVersions_5 : decode cX6_countVersions 5 = .ok (.iconst 4, 1) := by decide +kernel
theorem dX6_countVersions_6 : decode cX6_countVersions 6 = .ok (.if_icmp .ge 51, 3) := by decide +kernel
theorem dX6_countVersions_9 : decode cX6_countVersions 9 = .ok (.iconst 0, 1) := by decide +kernel
theorem dX6_countVersions_10 : decode cX6_countVersions 10 = .ok (.istore 4, 2) := by decide +kernel
theorem dX6_countVersions_12 : decode cX6_countVersions 12 = .ok (.iload 4, 2) := by decide +kernel
theorem dX6_countVersions_14 : decode cX6_countVersions 14 = .ok (.bipush 6, 2) := by decide +kernel
theorem dX6_countVersions_16 : decode cX6_countVersions 16 = .ok (.if_icmp .ge 35, 3) := by decide +kernel
theorem dX6_countVersions_19 : decode cX6_countVersions 19 = .ok (.aload_n 0, 1) := by decide +kernel
theorem dX6_countVersions_20 : decode cX6_countVersions 20 = .ok (.iload_n 3, 1) := by decide +kernel
theorem dX6_countVersions_21 : decode cX6_countVersions 21 = .ok (.iload 4, 2) := by decide +kernel
theorem dX6_countVersions_23 : decode cX6_countVersions 23 = .ok (.invokevirtual 91, 3) := by decide +kernel
theorem dX6_countVersions_26 : decode cX6_countVersions 26 = .ok (.astore 5, 2) := by decide +kernel
theorem dX6_countVersions_28 : decode cX6_countVersions 28 = .ok (.aload 5, 2) := by decide +kernel
theorem dX6_countVersions_30 : decode cX6_countVersions 30 = .ok (.ifnull 15, 3) := by decide +kernel
theorem dX6_countVersions_33 : decode cX6_countVersions 33 = .ok (.aload 5, 2) := by decide +kernel
theorem dX6_countVersions_35 : decode cX6_countVersions 35 = .ok (.getfield 129, 3) := by decide +kernel
theorem dX6_countVersions_38 : decode cX6_countVersions 38 = .ok (.iload_n 1, 1) := by decide +kernel
theorem dX6_countVersions_39 : decode cX6_countVersions 39 = .ok (.if_icmp .ne 6, 3) := by decide +kernel
theorem dX6_countVersions_42 : decode cX6_countVersions 42 = .ok (.iinc 2 1, 3) := by decide +kernel
theorem dX6_countVersions_45 : decode cX6_countVersions 45 = .ok (.iinc 4 1, 3) := by decide +kernel
theorem dX6_countVersions_48 : decode cX6_countVersions 48 = .ok (.goto (-36), 3) := by decide +kernel
theorem dX6_countVersions_51 : decode cX6_countVersions 51 = .ok (.iinc 3 1, 3) := by decide +kernel
theorem dX6_countVersions_54 : decode cX6_countVersions 54 = .ok (.goto (-50), 3) := by decide +kernel
theorem dX6_countVersions_57 : decode cX6_countVersions 57 = .ok (.iload_n 2, 1) := by decide +kernel
theorem dX6_countVersions_58 : decode cX6_countVersions 58 = .ok (.ireturn, 1) := by decide +kernel
theorem dX6_countCallers_0 : decode cX6_countCallers 0 = .ok (.iconst 0, 1) := by decide +kernel
theorem dX6_countCallers_1 : decode cX6_countCallers 1 = .ok (.istore_n 2, 1) := by decide +kernel
theorem dX6_countCallers_2 : decode cX6_countCallers 2 = .ok (.iconst 0, 1) := by decide +kernel
theorem dX6_countCallers_3 : decode cX6_countCallers 3 = .ok (.istore_n 3, 1) := by decide +kernel
theorem dX6_countCallers_4 : decode cX6_countCallers 4 = .ok (.iload_n 3, 1) := by decide +kernel
theorem dX6_countCallers_5 : decode cX6_countCallers 5 = .ok (.aload_n 0, 1) := by decide +kernel
theorem dX6_countCallers_6 : decode cX6_countCallers 6 = .ok (.getfield 17, 3) := by decide +kernel
theorem dX6_countCallers_9 : decode cX6_countCallers 9 = .ok (.arraylength, 1) := by decide +kernel
theorem dX6_countCallers_10 : decode cX6_countCallers 10 = .ok (.if_icmp .ge 38, 3) := by decide +kernel
theorem dX6_countCallers_13 : decode cX6_countCallers 13 = .ok (.aload_n 0, 1) := by decide +kernel
theorem dX6_countCallers_14 : decode cX6_countCallers 14 = .ok (.getfield 17, 3) := by decide +kernel
theorem dX6_countCallers_17 : decode cX6_countCallers 17 = .ok (.iload_n 3, 1) := by decide +kernel
theorem dX6_countCallers_18 : decode cX6_countCallers 18 = .ok (.aaload, 1) := by decide +kernel
theorem dX6_countCallers_19 : decode cX6_countCallers 19 = .ok (.astore 4, 2) := by decide +kernel
theorem dX6_countCallers_21 : decode cX6_countCallers 21 = .ok (.aload 4, 2) := by decide +kernel
theorem dX6_countCallers_23 : decode cX6_countCallers 23 = .ok (.ifnull 19, 3) := by decide +kernel
theorem dX6_countCallers_26 : decode cX6_countCallers 26 = .ok (.aload 4, 2) := by decide +kernel
theorem dX6_countCallers_28 : decode cX6_countCallers 28 = .ok (.aload_n 1, 1) := by decide +kernel
theorem dX6_countCallers_29 : decode cX6_countCallers 29 = .ok (.aload_n 0, 1) := by decide +kernel
theorem dX6_countCallers_30 : decode cX6_countCallers 30 = .ok (.getfield 225, 3) := by decide +kernel
theorem dX6_countCallers_33 : decode cX6_countCallers 33 = .ok (.invokevirtual 323, 3) := by decide +kernel
theorem dX6_countCallers_36 : decode cX6_countCallers 36 = .ok (.ifCond .eq 6, 3) := by decide +kernel
theorem dX6_countCallers_39 : decode cX6_countCallers 39 = .ok (.iinc 2 1, 3) := by decide +kernel
theorem dX6_countCallers_42 : decode cX6_countCallers 42 = .ok (.iinc 3 1, 3) := by decide +kernel
theorem dX6_countCallers_45 : decode cX6_countCallers 45 = .ok (.goto (-41), 3) := by decide +kernel
theorem dX6_countCallers_48 : decode cX6_countCallers 48 = .ok (.iload_n 2, 1) := by decide +kernel
theorem dX6_countCallers_49 : decode cX6_countCallers 49 = .ok (.ireturn, 1) := by decide +kernel
theorem dX6_countGeneratedFor_0 : decode cX6_countGeneratedFor 0 = .ok (.iconst 0, 1) := by decide +kernel
theorem dX6_countGeneratedFor_1 : decode cX6_countGeneratedFor 1 = .ok (.istore_n 2, 1) := by decide +kernel
theorem dX6_countGeneratedFor_2 : decode cX6_countGeneratedFor 2 = .ok (.iconst 0, 1) := by decide +kernel
theorem dX6_countGeneratedFor_3 : decode cX6_countGeneratedFor 3 = .ok (.istore_n 3, 1) := by decide +kernel
theorem dX6_countGeneratedFor_4 : decode cX6_countGeneratedFor 4 = .ok (.iload_n 3, 1) := by decide +kernel
theorem dX6_countGeneratedFor_5 : decode cX6_countGeneratedFor 5 = .ok (.aload_n 0, 1) := by decide +kernel
theorem dX6_countGeneratedFor_6 : decode cX6_countGeneratedFor 6 = .ok (.getfield 17, 3) := by decide +kernel
theorem dX6_countGeneratedFor_9 : decode cX6_countGeneratedFor 9 = .ok (.arraylength, 1) := by decide +kernel
theorem dX6_countGeneratedFor_10 : decode cX6_countGeneratedFor 10 = .ok (.if_icmp .ge 34, 3) := by decide +kernel
theorem dX6_countGeneratedFor_13 : decode cX6_countGeneratedFor 13 = .ok (.aload_n 0, 1) := by decide +kernel
theorem dX6_countGeneratedFor_14 : decode cX6_countGeneratedFor 14 = .ok (.getfield 17, 3) := by decide +kernel
theorem dX6_countGeneratedFor_17 : decode cX6_countGeneratedFor 17 = .ok (.iload_n 3, 1) := by decide +kernel
theorem dX6_countGeneratedFor_18 : decode cX6_countGeneratedFor 18 = .ok (.aaload, 1) := by decide +kernel
theorem dX6_countGeneratedFor_19 : decode cX6_countGeneratedFor 19 = .ok (.astore 4, 2) := by decide +kernel
theorem dX6_countGeneratedFor_21 : decode cX6_countGeneratedFor 21 = .ok (.aload 4, 2) := by decide +kernel
theorem dX6_countGeneratedFor_23 : decode cX6_countGeneratedFor 23 = .ok (.ifnull 15, 3) := by decide +kernel
theorem dX6_countGeneratedFor_26 : decode cX6_countGeneratedFor 26 = .ok (.aload 4, 2) := by decide +kernel
theorem dX6_countGeneratedFor_28 : decode cX6_countGeneratedFor 28 = .ok (.getfield 159, 3) := by decide +kernel
theorem dX6_countGeneratedFor_31 : decode cX6_countGeneratedFor 31 = .ok (.aload_n 1, 1) := by decide +kernel
theorem dX6_countGeneratedFor_32 : decode cX6_countGeneratedFor 32 = .ok (.if_acmp .ne 6, 3) := by decide +kernel
theorem dX6_countGeneratedFor_35 : decode cX6_countGeneratedFor 35 = .ok (.iinc 2 1, 3) := by decide +kernel
theorem dX6_countGeneratedFor_38 : decode cX6_countGeneratedFor 38 = .ok (.iinc 3 1, 3) := by decide +kernel
theorem dX6_countGeneratedFor_41 : decode cX6_countGeneratedFor 41 = .ok (.goto (-37), 3) := by decide +kernel
theorem dX6_countGeneratedFor_44 : decode cX6_countGeneratedFor 44 = .ok (.iload_n 2, 1) := by decide +kernel
theorem dX6_countGeneratedFor_45 : decode cX6_countGeneratedFor 45 = .ok (.ireturn, 1) := by decide +kernel
theorem dX6_hoursSinceCall_0 : decode cX6_hoursSinceCall 0 = .ok (.aload_n 1, 1) := by decide +kernel
theorem dX6_hoursSinceCall_1 : decode cX6_hoursSinceCall 1 = .ok (.aload_n 2, 1) := by decide +kernel
theorem dX6_hoursSinceCall_2 : decode cX6_hoursSinceCall 2 = .ok (.invokevirtual 327, 3) := by decide +kernel
theorem dX6_hoursSinceCall_5 : decode cX6_hoursSinceCall 5 = .ok (.istore_n 3, 1) := by decide +kernel
theorem dX6_hoursSinceCall_6 : decode cX6_hoursSinceCall 6 = .ok (.iload_n 3, 1) := by decide +kernel
theorem dX6_hoursSinceCall_7 : decode cX6_hoursSinceCall 7 = .ok (.iconst (-1), 1) := by decide +kernel
theorem dX6_hoursSinceCall_8 : decode cX6_hoursSinceCall 8 = .ok (.if_icmp .ne 7, 3) := by decide +kernel
theorem dX6_hoursSinceCall_11 : decode cX6_hoursSinceCall 11 = .ok (.iconst (-1), 1) := by decide +kernel
theorem dX6_hoursSinceCall_12 : decode cX6_hoursSinceCall 12 = .ok (.goto 9, 3) := by decide +kernel
theorem dX6_hoursSinceCall_15 : decode cX6_hoursSinceCall 15 = .ok (.aload_n 0, 1) := by decide +kernel
theorem dX6_hoursSinceCall_16 : decode cX6_hoursSinceCall 16 = .ok (.getfield 225, 3) := by decide +kernel
theorem dX6_hoursSinceCall_19 : decode cX6_hoursSinceCall 19 = .ok (.iload_n 3, 1) := by decide +kernel
theorem dX6_hoursSinceCall_20 : decode cX6_hoursSinceCall 20 = .ok (.isub, 1) := by decide +kernel
theorem dX6_hoursSinceCall_21 : decode cX6_hoursSinceCall 21 = .ok (.ireturn, 1) := by decide +kernel
theorem dX6_askedState_0 : decode cX6_askedState 0 = .ok (.aload_n 2, 1) := by decide +kernel
theorem dX6_askedState_1 : decode cX6_askedState 1 = .ok (.getfield 211, 3) := by decide +kernel
theorem dX6_askedState_4 : decode cX6_askedState 4 = .ok (.astore_n 3, 1) := by decide +kernel
theorem dX6_askedState_5 : decode cX6_askedState 5 = .ok (.aload_n 2, 1) := by decide +kernel
theorem dX6_askedState_6 : decode cX6_askedState 6 = .ok (.getfield 129, 3) := by decide +kernel
theorem dX6_askedState_9 : decode cX6_askedState 9 = .ok (.iconst 1, 1) := by decide +kernel
theorem dX6_askedState_10 : decode cX6_askedState 10 = .ok (.if_icmp .ne 12, 3) := by decide +kernel
theorem dX6_askedState_13 : decode cX6_askedState 13 = .ok (.aload_n 3, 1) := by decide +kernel
theorem dX6_askedState_14 : decode cX6_askedState 14 = .ok (.iload_n 1, 1) := by decide +kernel
theorem dX6_askedState_15 : decode cX6_askedState 15 = .ok (.invokevirtual 220, 3) := by decide +kernel
theorem dX6_askedState_18 : decode cX6_askedState 18 = .ok (.iconst (-1), 1) := by decide +kernel
theorem dX6_askedState_19 : decode cX6_askedState 19 = .ok (.if_icmp .ne 5, 3) := by decide +kernel
theorem dX6_askedState_22 : decode cX6_askedState 22 = .ok (.iconst 0, 1) := by decide +kernel
theorem dX6_askedState_23 : decode cX6_askedState 23 = .ok (.ireturn, 1) := by decide +kernel
theorem dX6_askedState_24 : decode cX6_askedState 24 = .ok (.aload_n 3, 1) := by decide +kernel
theorem dX6_askedState_25 : decode cX6_askedState 25 = .ok (.iload_n 1, 1) := by decide +kernel
theorem dX6_askedState_26 : decode cX6_askedState 26 = .ok (.invokevirtual 330, 3) := by decide +kernel
theorem dX6_askedState_29 : decode cX6_askedState 29 = .ok (.ifCond .eq 5, 3) := by decide +kernel
theorem dX6_askedState_32 : decode cX6_askedState 32 = .ok (.iconst 3, 1) := by decide +kernel
theorem dX6_askedState_33 : decode cX6_askedState 33 = .ok (.ireturn, 1) := by decide +kernel
theorem dX6_askedState_34 : decode cX6_askedState 34 = .ok (.aload_n 3, 1) := by decide +kernel
theorem dX6_askedState_35 : decode cX6_askedState 35 = .ok (.iload_n 1, 1) := by decide +kernel
theorem dX6_askedState_36 : decode cX6_askedState 36 = .ok (.aload_n 0, 1) := by decide +kernel
theorem dX6_askedState_37 : decode cX6_askedState 37 = .ok (.getfield 225, 3) := by decide +kernel
theorem dX6_askedState_40 : decode cX6_askedState 40 = .ok (.invokevirtual 228, 3) := by decide +kernel
theorem dX6_askedState_43 : decode cX6_askedState 43 = .ok (.ifCond .eq 7, 3) := by decide +kernel
theorem dX6_askedState_46 : decode cX6_askedState 46 = .ok (.iconst 2, 1) := by decide +kernel
theorem dX6_askedState_47 : decode cX6_askedState 47 = .ok (.goto 4, 3) := by decide +kernel
theorem dX6_askedState_50 : decode cX6_askedState 50 = .ok (.iconst 1, 1) := by decide +kernel
theorem dX6_askedState_51 : decode cX6_askedState 51 = .ok (.ireturn, 1) := by decide +kernel
theorem dX6_nearestOpen_0 : decode cX6_nearestOpen 0 = .ok (.iconst (-1), 1) := by decide +kernel
theorem dX6_nearestOpen_1 : decode cX6_nearestOpen 1 = .ok (.istore_n 2, 1) := by decide +kernel
theorem dX6_nearestOpen_2 : decode cX6_nearestOpen 2 = .ok (.iconst 0, 1) := by decide +kernel
theorem dX6_nearestOpen_3 : decode cX6_nearestOpen 3 = .ok (.istore_n 3, 1) := by decide +kernel
theorem dX6_nearestOpen_4 : decode cX6_nearestOpen 4 = .ok (.iconst 0, 1) := by decide +kernel
theorem dX6_nearestOpen_5 : decode cX6_nearestOpen 5 = .ok (.istore 4, 2) := by decide +kernel
theorem dX6_nearestOpen_7 : decode cX6_nearestOpen 7 = .ok (.iload 4, 2) := by decide +kernel
theorem dX6_nearestOpen_9 : decode cX6_nearestOpen 9 = .ok (.bipush 6, 2) := by decide +kernel
theorem dX6_nearestOpen_11 : decode cX6_nearestOpen 11 = .ok (.if_icmp .ge 69, 3) := by decide +kernel
theorem dX6_nearestOpen_14 : decode cX6_nearestOpen 14 = .ok (.aload_n 1, 1) := by decide +kernel
theorem dX6_nearestOpen_15 : decode cX6_nearestOpen 15 = .ok (.getfield 141, 3) := by decide +kernel
theorem dX6_nearestOpen_18 : decode cX6_nearestOpen 18 = .ok (.iload 4, 2) := by decide +kernel
theorem dX6_nearestOpen_20 : decode cX6_nearestOpen 20 = .ok (.invokevirtual 145, 3) := by decide +kernel
theorem dX6_nearestOpen_23 : decode cX6_nearestOpen 23 = .ok (.astore 5, 2) := by decide +kernel
theorem dX6_nearestOpen_25 : decode cX6_nearestOpen 25 = .ok (.aload 5, 2) := by decide +kernel
theorem dX6_nearestOpen_27 : decode cX6_nearestOpen 27 = .ok (.ifnull 47, 3) := by decide +kernel
theorem dX6_nearestOpen_30 : decode cX6_nearestOpen 30 = .ok (.aload 5, 2) := by decide +kernel
theorem dX6_nearestOpen_32 : decode cX6_nearestOpen 32 = .ok (.getfield 129, 3) := by decide +kernel
theorem dX6_nearestOpen_35 : decode cX6_nearestOpen 35 = .ok (.ifCond .ne 39, 3) := by decide +kernel
theorem dX6_nearestOpen_38 : decode cX6_nearestOpen 38 = .ok (.aload 5, 2) := by decide +kernel
theorem dX6_nearestOpen_40 : decode cX6_nearestOpen 40 = .ok (.aload_n 1, 1) := by decide +kernel
theorem dX6_nearestOpen_41 : decode cX6_nearestOpen 41 = .ok (.getfield 152, 3) := by decide +kernel
theorem dX6_nearestOpen_44 : decode cX6_nearestOpen 44 = .ok (.invokevirtual 155, 3) := by decide +kernel
theorem dX6_nearestOpen_47 : decode cX6_nearestOpen 47 = .ok (.aload_n 1, 1) := by decide +kernel
theorem dX6_nearestOpen_48 : decode cX6_nearestOpen 48 = .ok (.getfield 152, 3) := by decide +kernel
theorem dX6_nearestOpen_51 : decode cX6_nearestOpen 51 = .ok (.ixor, 1) := by decide +kernel
theorem dX6_nearestOpen_52 : decode cX6_nearestOpen 52 = .ok (.invokestatic 333, 3) := by decide +kernel
theorem dX6_nearestOpen_55 : decode cX6_nearestOpen 55 = .ok (.istore 6, 2) := by decide +kernel
theorem dX6_nearestOpen_57 : decode cX6_nearestOpen 57 = .ok (.iload_n 2, 1) := by decide +kernel
theorem dX6_nearestOpen_58 : decode cX6_nearestOpen 58 = .ok (.iconst (-1), 1) := by decide +kernel
theorem dX6_nearestOpen_59 : decode cX6_nearestOpen 59 = .ok (.if_icmp .eq 9, 3) := by decide +kernel
theorem dX6_nearestOpen_62 : decode cX6_nearestOpen 62 = .ok (.iload 6, 2) := by decide +kernel
theorem dX6_nearestOpen_64 : decode cX6_nearestOpen 64 = .ok (.iload_n 3, 1) := by decide +kernel
theorem dX6_nearestOpen_65 : decode cX6_nearestOpen 65 = .ok (.if_icmp .gt 9, 3) := by decide +kernel
theorem dX6_nearestOpen_68 : decode cX6_nearestOpen 68 = .ok (.iload 4, 2) := by decide +kernel
theorem dX6_nearestOpen_70 : decode cX6_nearestOpen 70 = .ok (.istore_n 2, 1) := by decide +kernel
theorem dX6_nearestOpen_71 : decode cX6_nearestOpen 71 = .ok (.iload 6, 2) := by decide +kernel
theorem dX6_nearestOpen_73 : decode cX6_nearestOpen 73 = .ok (.istore_n 3, 1) := by decide +kernel
theorem dX6_nearestOpen_74 : decode cX6_nearestOpen 74 = .ok (.iinc 4 1, 3) := by decide +kernel
theorem dX6_nearestOpen_77 : decode cX6_nearestOpen 77 = .ok (.goto (-70), 3) := by decide +kernel
theorem dX6_nearestOpen_80 : decode cX6_nearestOpen 80 = .ok (.iload_n 2, 1) := by decide +kernel
theorem dX6_nearestOpen_81 : decode cX6_nearestOpen 81 = .ok (.ireturn, 1) := by decide +kernel
theorem dX6_findOwnRoute_0 : decode cX6_findOwnRoute 0 = .ok (.aload_n 0, 1) := by decide +kernel
theorem dX6_findOwnRoute_1 : decode cX6_findOwnRoute 1 = .ok (.aload_n 1, 1) := by decide +kernel
theorem dX6_findOwnRoute_2 : decode cX6_findOwnRoute 2 = .ok (.aload_n 1, 1) := by decide +kernel
theorem dX6_findOwnRoute_3 : decode cX6_findOwnRoute 3 = .ok (.getfield 159, 3) := by decide +kernel
theorem dX6_findOwnRoute_6 : decode cX6_findOwnRoute 6 = .ok (.aconst_null, 1) := by decide +kernel
theorem dX6_findOwnRoute_7 : decode cX6_findOwnRoute 7 = .ok (.invokevirtual 338, 3) := by decide +kernel
theorem dX6_findOwnRoute_10 : decode cX6_findOwnRoute 10 = .ok (.ireturn, 1) := by decide +kernel
theorem dX6_findRoute_0 : decode cX6_findRoute 0 = .ok (.aload_n 0, 1) := by decide +kernel
theorem dX6_findRoute_1 : decode cX6_findRoute 1 = .ok (.getfield 30, 3) := by decide +kernel
theorem dX6_findRoute_4 : decode cX6_findRoute 4 = .ok (.aload_n 3, 1) := by decide +kernel
theorem dX6_findRoute_5 : decode cX6_findRoute 5 = .ok (.putfield 342, 3) := by decide +kernel
theorem dX6_findRoute_8 : decode cX6_findRoute 8 = .ok (.iconst 1, 1) := by decide +kernel
theorem dX6_findRoute_9 : decode cX6_findRoute 9 = .ok (.istore 4, 2) := by decide +kernel
theorem dX6_findRoute_11 : decode cX6_findRoute 11 = .ok (.iload 4, 2) := by decide +kernel
theorem dX6_findRoute_13 : decode cX6_findRoute 13 = .ok (.iconst 3, 1) := by decide +kernel
theorem dX6_findRoute_14 : decode cX6_findRoute 14 = .ok (.if_icmp .gt 40, 3) := by decide +kernel
theorem dX6_findRoute_17 : decode cX6_findRoute 17 = .ok (.aload_n 0, 1) := by decide +kernel
theorem dX6_findRoute_18 : decode cX6_findRoute 18 = .ok (.getfield 30, 3) := by decide +kernel
theorem dX6_findRoute_21 : decode cX6_findRoute 21 = .ok (.iload 4, 2) := by decide +kernel
theorem dX6_findRoute_23 : decode cX6_findRoute 23 = .ok (.putfield 185, 3) := by decide +kernel
theorem dX6_findRoute_26 : decode cX6_findRoute 26 = .ok (.aload_n 0, 1) := by decide +kernel
theorem dX6_findRoute_27 : decode cX6_findRoute 27 = .ok (.getfield 30, 3) := by decide +kernel
theorem dX6_findRoute_30 : decode cX6_findRoute 30 = .ok (.aload_n 0, 1) := by decide +kernel
theorem dX6_findRoute_31 : decode cX6_findRoute 31 = .ok (.getfield 23, 3) := by decide +kernel
theorem dX6_findRoute_34 : decode cX6_findRoute 34 = .ok (.aload_n 2, 1) := by decide +kernel
theorem dX6_findRoute_35 : decode cX6_findRoute 35 = .ok (.aload_n 1, 1) := by decide +kernel
theorem dX6_findRoute_36 : decode cX6_findRoute 36 = .ok (.getfield 152, 3) := by decide +kernel
theorem dX6_findRoute_39 : decode cX6_findRoute 39 = .ok (.iconst 0, 1) := by decide +kernel
theorem dX6_findRoute_40 : decode cX6_findRoute 40 = .ok (.invokestatic 345, 3) := by decide +kernel
theorem dX6_findRoute_43 : decode cX6_findRoute 43 = .ok (.ifCond .eq 5, 3) := by decide +kernel
theorem dX6_findRoute_46 : decode cX6_findRoute 46 = .ok (.iconst 1, 1) := by decide +kernel
theorem dX6_findRoute_47 : decode cX6_findRoute 47 = .ok (.ireturn, 1) := by decide +kernel
theorem dX6_findRoute_48 : decode cX6_findRoute 48 = .ok (.iinc 4 1, 3) := by decide +kernel
theorem dX6_findRoute_51 : decode cX6_findRoute 51 = .ok (.goto (-40), 3) := by decide +kernel
theorem dX6_findRoute_54 : decode cX6_findRoute 54 = .ok (.aload_n 0, 1) := by decide +kernel
theorem dX6_findRoute_55 : decode cX6_findRoute 55 = .ok (.getfield 30, 3) := by decide +kernel
theorem dX6_findRoute_58 : decode cX6_findRoute 58 = .ok (.iconst 0, 1) := by decide +kernel
theorem dX6_findRoute_59 : decode cX6_findRoute 59 = .ok (.putfield 185, 3) := by decide +kernel
theorem dX6_findRoute_62 : decode cX6_findRoute 62 = .ok (.iconst 0, 1) := by decide +kernel
theorem dX6_findRoute_63 : decode cX6_findRoute 63 = .ok (.ireturn, 1) := by decide +kernel
theorem dX6_completes_0 : decode cX6_completes 0 = .ok (.iload 4, 2) := by decide +kernel
theorem dX6_completes_2 : decode cX6_completes 2 = .ok (.ifCond .lt 9, 3) := by decide +kernel
theorem dX6_completes_5 : decode cX6_completes 5 = .ok (.iload 4, 2) := by decide +kernel
theorem dX6_completes_7 : decode cX6_completes 7 = .ok (.iconst 3, 1) := by decide +kernel
theorem dX6_completes_8 : decode cX6_completes 8 = .ok (.if_icmp .le 5, 3) := by decide +kernel
theorem dX6_completes_11 : decode cX6_completes 11 = .ok (.iconst 0, 1) := by decide +kernel
theorem dX6_completes_12 : decode cX6_completes 12 = .ok (.ireturn, 1) := by decide +kernel
theorem dX6_completes_13 : decode cX6_completes 13 = .ok (.iload 4, 2) := by decide +kernel
theorem dX6_completes_15 : decode cX6_completes 15 = .ok (.aload_n 0, 1) := by decide +kernel
theorem dX6_completes_16 : decode cX6_completes 16 = .ok (.getfield 185, 3) := by decide +kernel
theorem dX6_completes_19 : decode cX6_completes 19 = .ok (.if_icmp .ge 13, 3) := by decide +kernel
theorem dX6_completes_22 : decode cX6_completes 22 = .ok (.iload 4, 2) := by decide +kernel
theorem dX6_completes_24 : decode cX6_completes 24 = .ok (.aload_n 0, 1) := by decide +kernel
theorem dX6_completes_25 : decode cX6_completes 25 = .ok (.getfield 188, 3) := by decide +kernel
theorem dX6_completes_28 : decode cX6_completes 28 = .ok (.arraylength, 1) := by decide +kernel
theorem dX6_completes_29 : decode cX6_completes 29 = .ok (.if_icmp .lt 52, 3) := by decide +kernel
theorem dX6_completes_32 : decode cX6_completes 32 = .ok (.aload_n 0, 1) := by decide +kernel
theorem dX6_completes_33 : decode cX6_completes 33 = .ok (.aload_n 2, 1) := by decide +kernel
theorem dX6_completes_34 : decode cX6_completes 34 = .ok (.getfield 283, 3) := by decide +kernel
theorem dX6_completes_37 : decode cX6_completes 37 = .ok (.putfield 311, 3) := by decide +kernel
theorem dX6_completes_40 : decode cX6_completes 40 = .ok (.aload_n 0, 1) := by decide +kernel
theorem dX6_completes_41 : decode cX6_completes 41 = .ok (.iload_n 3, 1) := by decide +kernel
theorem dX6_completes_42 : decode cX6_completes 42 = .ok (.putfield 314, 3) := by decide +kernel
theorem dX6_completes_45 : decode cX6_completes 45 = .ok (.aload_n 2, 1) := by decide +kernel
theorem dX6_completes_46 : decode cX6_completes 46 = .ok (.getfield 129, 3) := by decide +kernel
theorem dX6_completes_49 : decode cX6_completes 49 = .ok (.ifCond .ne 30, 3) := by decide +kernel
theorem dX6_completes_52 : decode cX6_completes 52 = .ok (.aload_n 2, 1) := by decide +kernel
theorem dX6_completes_53 : decode cX6_completes 53 = .ok (.aload_n 0, 1) := by decide +kernel
theorem dX6_completes_54 : decode cX6_completes 54 = .ok (.getfield 342, 3) := by decide +kernel
theorem dX6_completes_57 : decode cX6_completes 57 = .ok (.if_acmp .eq 22, 3) := by decide +kernel
theorem dX6_completes_60 : decode cX6_completes 60 = .ok (.iload_n 3, 1) := by decide +kernel
theorem dX6_completes_61 : decode cX6_completes 61 = .ok (.aload_n 2, 1) := by decide +kernel
theorem dX6_completes_62 : decode cX6_completes 62 = .ok (.getfield 114, 3) := by decide +kernel
theorem dX6_completes_65 : decode cX6_completes 65 = .ok (.aload_n 2, 1) := by decide +kernel
theorem dX6_completes_66 : decode cX6_completes 66 = .ok (.getfield 117, 3) := by decide +kernel
theorem dX6_completes_69 : decode cX6_completes 69 = .ok (.invokestatic 120, 3) := by decide +kernel
theorem dX6_completes_72 : decode cX6_completes 72 = .ok (.ifCond .eq 7, 3) := by decide +kernel
theorem dX6_completes_75 : decode cX6_completes 75 = .ok (.iconst 1, 1) := by decide +kernel
theorem dX6_completes_76 : decode cX6_completes 76 = .ok (.goto 4, 3) := by decide +kernel
theorem dX6_completes_79 : decode cX6_completes 79 = .ok (.iconst 0, 1) := by decide +kernel
theorem dX6_completes_80 : decode cX6_completes 80 = .ok (.ireturn, 1) := by decide +kernel
theorem dX6_completes_81 : decode cX6_completes 81 = .ok (.iconst 0, 1) := by decide +kernel
theorem dX6_completes_82 : decode cX6_completes 82 = .ok (.istore 5, 2) := by decide +kernel
theorem dX6_completes_84 : decode cX6_completes 84 = .ok (.iload 5, 2) := by decide +kernel
theorem dX6_completes_86 : decode cX6_completes 86 = .ok (.aload_n 1, 1) := by decide +kernel
theorem dX6_completes_87 : decode cX6_completes 87 = .ok (.arraylength, 1) := by decide +kernel
theorem dX6_completes_88 : decode cX6_completes 88 = .ok (.if_icmp .ge 63, 3) := by decide +kernel
theorem dX6_completes_91 : decode cX6_completes 91 = .ok (.aload_n 1, 1) := by decide +kernel
theorem dX6_completes_92 : decode cX6_completes 92 = .ok (.iload 5, 2) := by decide +kernel
theorem dX6_completes_94 : decode cX6_completes 94 = .ok (.aaload, 1) := by decide +kernel
theorem dX6_completes_95 : decode cX6_completes 95 = .ok (.astore 6, 2) := by decide +kernel
theorem dX6_completes_97 : decode cX6_completes 97 = .ok (.aload 6, 2) := by decide +kernel
theorem dX6_completes_99 : decode cX6_completes 99 = .ok (.ifnull 46, 3) := by decide +kernel
theorem dX6_completes_102 : decode cX6_completes 102 = .ok (.aload 6, 2) := by decide +kernel
theorem dX6_completes_104 : decode cX6_completes 104 = .ok (.getfield 349, 3) := by decide +kernel
theorem dX6_completes_107 : decode cX6_completes 107 = .ok (.aload_n 2, 1) := by decide +kernel
theorem dX6_completes_108 : decode cX6_completes 108 = .ok (.if_acmp .ne 37, 3) := by decide +kernel
theorem dX6_completes_111 : decode cX6_completes 111 = .ok (.aload_n 0, 1) := by decide +kernel
theorem dX6_completes_112 : decode cX6_completes 112 = .ok (.getfield 188, 3) := by decide +kernel
theorem dX6_completes_115 : decode cX6_completes 115 = .ok (.iload 4, 2) := by decide +kernel
theorem dX6_completes_117 : decode cX6_completes 117 = .ok (.iload 5, 2) := by decide +kernel
theorem dX6_completes_119 : decode cX6_completes 119 = .ok (.iastore, 1) := by decide +kernel
theorem dX6_completes_120 : decode cX6_completes 120 = .ok (.aload_n 0, 1) := by decide +kernel
theorem dX6_completes_121 : decode cX6_completes 121 = .ok (.aload_n 1, 1) := by decide +kernel
theorem dX6_completes_122 : decode cX6_completes 122 = .ok (.aload 6, 2) := by decide +kernel
theorem dX6_completes_124 : decode cX6_completes 124 = .ok (.getfield 352, 3) := by decide +kernel
theorem dX6_completes_127 : decode cX6_completes 127 = .ok (.aload 6, 2) := by decide +kernel
theorem dX6_completes_129 : decode cX6_completes 129 = .ok (.iload_n 3, 1) := by decide +kernel
theorem dX6_completes_130 : decode cX6_completes 130 = .ok (.invokevirtual 355, 3) := by decide +kernel
theorem dX6_completes_133 : decode cX6_completes 133 = .ok (.iload 4, 2) := by decide +kernel
theorem dX6_completes_135 : decode cX6_completes 135 = .ok (.iconst 1, 1) := by decide +kernel
theorem dX6_completes_136 : decode cX6_completes 136 = .ok (.iadd, 1) := by decide +kernel
theorem dX6_completes_137 : decode cX6_completes 137 = .ok (.invokestatic 345, 3) := by decide +kernel
theorem dX6_completes_140 : decode cX6_completes 140 = .ok (.ifCond .eq 5, 3) := by decide +kernel
theorem dX6_completes_143 : decode cX6_completes 143 = .ok (.iconst 1, 1) := by decide +kernel
theorem dX6_completes_144 : decode cX6_completes 144 = .ok (.ireturn, 1) := by decide +kernel
theorem dX6_completes_145 : decode cX6_completes 145 = .ok (.iinc 5 1, 3) := by decide +kernel
theorem dX6_completes_148 : decode cX6_completes 148 = .ok (.goto (-64), 3) := by decide +kernel
theorem dX6_completes_151 : decode cX6_completes 151 = .ok (.iconst 0, 1) := by decide +kernel
theorem dX6_completes_152 : decode cX6_completes 152 = .ok (.ireturn, 1) := by decide +kernel
theorem dX6_isServedCall_0 : decode cX6_isServedCall 0 = .ok (.aload_n 1, 1) := by decide +kernel
theorem dX6_isServedCall_1 : decode cX6_isServedCall 1 = .ok (.getfield 159, 3) := by decide +kernel
theorem dX6_isServedCall_4 : decode cX6_isServedCall 4 = .ok (.astore_n 2, 1) := by decide +kernel
theorem dX6_isServedCall_5 : decode cX6_isServedCall 5 = .ok (.aload_n 2, 1) := by decide +kernel
theorem dX6_isServedCall_6 : decode cX6_isServedCall 6 = .ok (.getfield 129, 3) := by decide +kernel
theorem dX6_isServedCall_9 : decode cX6_isServedCall 9 = .ok (.iconst 1, 1) := by decide +kernel
theorem dX6_isServedCall_10 : decode cX6_isServedCall 10 = .ok (.if_icmp .ne 19, 3) := by decide +kernel
theorem dX6_isServedCall_13 : decode cX6_isServedCall 13 = .ok (.aload_n 2, 1) := by decide +kernel
theorem dX6_isServedCall_14 : decode cX6_isServedCall 14 = .ok (.getfield 211, 3) := by decide +kernel
theorem dX6_isServedCall_17 : decode cX6_isServedCall 17 = .ok (.aload_n 1, 1) := by decide +kernel
theorem dX6_isServedCall_18 : decode cX6_isServedCall 18 = .ok (.getfield 305, 3) := by decide +kernel
theorem dX6_isServedCall_21 : decode cX6_isServedCall 21 = .ok (.aload_n 0, 1) := by decide +kernel
theorem dX6_isServedCall_22 : decode cX6_isServedCall 22 = .ok (.getfield 225, 3) := by decide +kernel
theorem dX6_isServedCall_25 : decode cX6_isServedCall 25 = .ok (.invokevirtual 358, 3) := by decide +kernel
theorem dX6_isServedCall_28 : decode cX6_isServedCall 28 = .ok (.pop, 1) := by decide +kernel
theorem dX6_isServedCall_29 : decode cX6_isServedCall 29 = .ok (.aload_n 0, 1) := by decide +kernel
theorem dX6_isServedCall_30 : decode cX6_isServedCall 30 = .ok (.aload_n 1, 1) := by decide +kernel
theorem dX6_isServedCall_31 : decode cX6_isServedCall 31 = .ok (.aload_n 2, 1) := by decide +kernel
theorem dX6_isServedCall_32 : decode cX6_isServedCall 32 = .ok (.getfield 129, 3) := by decide +kernel
theorem dX6_isServedCall_35 : decode cX6_isServedCall 35 = .ok (.aload_n 0, 1) := by decide +kernel
theorem dX6_isServedCall_36 : decode cX6_isServedCall 36 = .ok (.getfield 225, 3) := by decide +kernel
theorem dX6_isServedCall_39 : decode cX6_isServedCall 39 = .ok (.aload_n 1, 1) := by decide +kernel
theorem dX6_isServedCall_40 : decode cX6_isServedCall 40 = .ok (.aload_n 2, 1) := by decide +kernel
theorem dX6_isServedCall_41 : decode cX6_isServedCall 41 = .ok (.invokevirtual 361, 3) := by decide +kernel
theorem dX6_isServedCall_44 : decode cX6_isServedCall 44 = .ok (.invokevirtual 364, 3) := by decide +kernel
theorem dX6_isServedCall_47 : decode cX6_isServedCall 47 = .ok (.istore_n 3, 1) := by decide +kernel
theorem dX6_isServedCall_48 : decode cX6_isServedCall 48 = .ok (.iload_n 3, 1) := by decide +kernel
theorem dX6_isServedCall_49 : decode cX6_isServedCall 49 = .ok (.ifCond .eq 8, 3) := by decide +kernel
theorem dX6_isServedCall_52 : decode cX6_isServedCall 52 = .ok (.iload_n 3, 1) := by decide +kernel
theorem dX6_isServedCall_53 : decode cX6_isServedCall 53 = .ok (.iconst 1, 1) := by decide +kernel
theorem dX6_isServedCall_54 : decode cX6_isServedCall 54 = .ok (.if_icmp .ne 7, 3) := by decide +kernel
theorem dX6_isServedCall_57 : decode cX6_isServedCall 57 = .ok (.iconst 1, 1) := by decide +kernel
theorem dX6_isServedCall_58 : decode cX6_isServedCall 58 = .ok (.goto 4, 3) := by decide +kernel
theorem dX6_isServedCall_61 : decode cX6_isServedCall 61 = .ok (.iconst 0, 1) := by decide +kernel
theorem dX6_isServedCall_62 : decode cX6_isServedCall 62 = .ok (.istore 4, 2) := by decide +kernel
theorem dX6_isServedCall_64 : decode cX6_isServedCall 64 = .ok (.aload_n 1, 1) := by decide +kernel
theorem dX6_isServedCall_65 : decode cX6_isServedCall 65 = .ok (.aload_n 0, 1) := by decide +kernel
theorem dX6_isServedCall_66 : decode cX6_isServedCall 66 = .ok (.getfield 225, 3) := by decide +kernel
theorem dX6_isServedCall_69 : decode cX6_isServedCall 69 = .ok (.iload 4, 2) := by decide +kernel
theorem dX6_isServedCall_71 : decode cX6_isServedCall 71 = .ok (.invokevirtual 368, 3) := by decide +kernel
theorem dX6_isServedCall_74 : decode cX6_isServedCall 74 = .ok (.aload_n 2, 1) := by decide +kernel
theorem dX6_isServedCall_75 : decode cX6_isServedCall 75 = .ok (.dup, 1) := by decide +kernel
theorem dX6_isServedCall_76 : decode cX6_isServedCall 76 = .ok (.getfield 300, 3) := by decide +kernel
theorem dX6_isServedCall_79 : decode cX6_isServedCall 79 = .ok (.iconst 1, 1) := by decide +kernel
theorem dX6_isServedCall_80 : decode cX6_isServedCall 80 = .ok (.iadd, 1) := by decide +kernel
theorem dX6_isServedCall_81 : decode cX6_isServedCall 81 = .ok (.putfield 300, 3) := by decide +kernel
theorem dX6_isServedCall_84 : decode cX6_isServedCall 84 = .ok (.aload_n 0, 1) := by decide +kernel
theorem dX6_isServedCall_85 : decode cX6_isServedCall 85 = .ok (.dup, 1) := by decide +kernel
theorem dX6_isServedCall_86 : decode cX6_isServedCall 86 = .ok (.getfield 249, 3) := by decide +kernel
theorem dX6_isServedCall_89 : decode cX6_isServedCall 89 = .ok (.iconst 1, 1) := by decide +kernel
theorem dX6_isServedCall_90 : decode cX6_isServedCall 90 = .ok (.iadd, 1) := by decide +kernel
theorem dX6_isServedCall_91 : decode cX6_isServedCall 91 = .ok (.putfield 249, 3) := by decide +kernel
theorem dX6_isServedCall_94 : decode cX6_isServedCall 94 = .ok (.iload 4, 2) := by decide +kernel
theorem dX6_isServedCall_96 : decode cX6_isServedCall 96 = .ok (.ifCond .ne 23, 3) := by decide +kernel
theorem dX6_isServedCall_99 : decode cX6_isServedCall 99 = .ok (.aload_n 2, 1) := by decide +kernel
theorem dX6_isServedCall_100 : decode cX6_isServedCall 100 = .ok (.dup, 1) := by decide +kernel
theorem dX6_isServedCall_101 : decode cX6_isServedCall 101 = .ok (.getfield 301, 3) := by decide +kernel
theorem dX6_isServedCall_104 : decode cX6_isServedCall 104 = .ok (.iconst 1, 1) := by decide +kernel
theorem dX6_isServedCall_105 : decode cX6_isServedCall 105 = .ok (.iadd, 1) := by decide +kernel
theorem dX6_isServedCall_106 : decode cX6_isServedCall 106 = .ok (.putfield 301, 3) := by decide +kernel
theorem dX6_isServedCall_109 : decode cX6_isServedCall 109 = .ok (.aload_n 0, 1) := by decide +kernel
theorem dX6_isServedCall_110 : decode cX6_isServedCall 110 = .ok (.dup, 1) := by decide +kernel
theorem dX6_isServedCall_111 : decode cX6_isServedCall 111 = .ok (.getfield 252, 3) := by decide +kernel
theorem dX6_isServedCall_114 : decode cX6_isServedCall 114 = .ok (.iconst 1, 1) := by decide +kernel
theorem dX6_isServedCall_115 : decode cX6_isServedCall 115 = .ok (.iadd, 1) := by decide +kernel
theorem dX6_isServedCall_116 : decode cX6_isServedCall 116 = .ok (.putfield 252, 3) := by decide +kernel
theorem dX6_isServedCall_119 : decode cX6_isServedCall 119 = .ok (.iload_n 3, 1) := by decide +kernel
theorem dX6_isServedCall_120 : decode cX6_isServedCall 120 = .ok (.iconst 1, 1) := by decide +kernel
theorem dX6_isServedCall_121 : decode cX6_isServedCall 121 = .ok (.if_icmp .ne 13, 3) := by decide +kernel
theorem dX6_isServedCall_124 : decode cX6_isServedCall 124 = .ok (.aload_n 0, 1) := by decide +kernel
theorem dX6_isServedCall_125 : decode cX6_isServedCall 125 = .ok (.dup, 1) := by decide +kernel
theorem dX6_isServedCall_126 : decode cX6_isServedCall 126 = .ok (.getfield 320, 3) := by decide +kernel
theorem dX6_isServedCall_129 : decode cX6_isServedCall 129 = .ok (.iconst 1, 1) := by decide +kernel
theorem dX6_isServedCall_130 : decode cX6_isServedCall 130 = .ok (.iadd, 1) := by decide +kernel
theorem dX6_isServedCall_131 : decode cX6_isServedCall 131 = .ok (.putfield 320, 3) := by decide +kernel
theorem dX6_isServedCall_134 : decode cX6_isServedCall 134 = .ok (.iload 4, 2) := by decide +kernel
theorem dX6_isServedCall_136 : decode cX6_isServedCall 136 = .ok (.ireturn, 1) := by decide +kernel
theorem dX6_outcomeOf_0 : decode cX6_outcomeOf 0 = .ok (.aload_n 1, 1) := by decide +kernel
theorem dX6_outcomeOf_1 : decode cX6_outcomeOf 1 = .ok (.getfield 159, 3) := by decide +kernel
theorem dX6_outcomeOf_4 : decode cX6_outcomeOf 4 = .ok (.astore 5, 2) := by decide +kernel
theorem dX6_outcomeOf_6 : decode cX6_outcomeOf 6 = .ok (.iload_n 2, 1) := by decide +kernel
theorem dX6_outcomeOf_7 : decode cX6_outcomeOf 7 = .ok (.ifCond .ne 5, 3) := by decide +kernel
theorem dX6_outcomeOf_10 : decode cX6_outcomeOf 10 = .ok (.iconst 0, 1) := by decide +kernel
theorem dX6_outcomeOf_11 : decode cX6_outcomeOf 11 = .ok (.ireturn, 1) := by decide +kernel
theorem dX6_outcomeOf_12 : decode cX6_outcomeOf 12 = .ok (.iload_n 2, 1) := by decide +kernel
theorem dX6_outcomeOf_13 : decode cX6_outcomeOf 13 = .ok (.iconst 2, 1) := by decide +kernel
theorem dX6_outcomeOf_14 : decode cX6_outcomeOf 14 = .ok (.if_icmp .ne 21, 3) := by decide +kernel
theorem dX6_outcomeOf_17 : decode cX6_outcomeOf 17 = .ok (.aload_n 0, 1) := by decide +kernel
theorem dX6_outcomeOf_18 : decode cX6_outcomeOf 18 = .ok (.aload_n 1, 1) := by decide +kernel
theorem dX6_outcomeOf_19 : decode cX6_outcomeOf 19 = .ok (.aload 5, 2) := by decide +kernel
theorem dX6_outcomeOf_21 : decode cX6_outcomeOf 21 = .ok (.aload 5, 2) := by decide +kernel
theorem dX6_outcomeOf_23 : decode cX6_outcomeOf 23 = .ok (.invokevirtual 338, 3) := by decide +kernel
theorem dX6_outcomeOf_26 : decode cX6_outcomeOf 26 = .ok (.ifCond .eq 7, 3) := by decide +kernel
theorem dX6_outcomeOf_29 : decode cX6_outcomeOf 29 = .ok (.iconst 1, 1) := by decide +kernel
theorem dX6_outcomeOf_30 : decode cX6_outcomeOf 30 = .ok (.goto 4, 3) := by decide +kernel
theorem dX6_outcomeOf_33 : decode cX6_outcomeOf 33 = .ok (.iconst 4, 1) := by decide +kernel
theorem dX6_outcomeOf_34 : decode cX6_outcomeOf 34 = .ok (.ireturn, 1) := by decide +kernel
theorem dX6_outcomeOf_35 : decode cX6_outcomeOf 35 = .ok (.aload 5, 2) := by decide +kernel
theorem dX6_outcomeOf_37 : decode cX6_outcomeOf 37 = .ok (.getfield 211, 3) := by decide +kernel
theorem dX6_outcomeOf_40 : decode cX6_outcomeOf 40 = .ok (.iload_n 3, 1) := by decide +kernel
theorem dX6_outcomeOf_41 : decode cX6_outcomeOf 41 = .ok (.invokevirtual 372, 3) := by decide +kernel
theorem dX6_outcomeOf_44 : decode cX6_outcomeOf 44 = .ok (.ifCond .eq 5, 3) := by decide +kernel
theorem dX6_outcomeOf_47 : decode cX6_outcomeOf 47 = .ok (.iconst 2, 1) := by decide +kernel
theorem dX6_outcomeOf_48 : decode cX6_outcomeOf 48 = .ok (.ireturn, 1) := by decide +kernel
theorem dX6_outcomeOf_49 : decode cX6_outcomeOf 49 = .ok (.iload 4, 2) := by decide +kernel
theorem dX6_outcomeOf_51 : decode cX6_outcomeOf 51 = .ok (.aload 5, 2) := by decide +kernel
theorem dX6_outcomeOf_53 : decode cX6_outcomeOf 53 = .ok (.getfield 211, 3) := by decide +kernel
theorem dX6_outcomeOf_56 : decode cX6_outcomeOf 56 = .ok (.iload_n 3, 1) := by decide +kernel
theorem dX6_outcomeOf_57 : decode cX6_outcomeOf 57 = .ok (.invokevirtual 375, 3) := by decide +kernel
theorem dX6_outcomeOf_60 : decode cX6_outcomeOf 60 = .ok (.if_icmp .lt 7, 3) := by decide +kernel
theorem dX6_outcomeOf_63 : decode cX6_outcomeOf 63 = .ok (.iconst 3, 1) := by decide +kernel
theorem dX6_outcomeOf_64 : decode cX6_outcomeOf 64 = .ok (.goto 4, 3) := by decide +kernel
theorem dX6_outcomeOf_67 : decode cX6_outcomeOf 67 = .ok (.iconst 0, 1) := by decide +kernel
theorem dX6_outcomeOf_68 : decode cX6_outcomeOf 68 = .ok (.ireturn, 1) := by decide +kernel
end
section
theorem dX6_outcomeIn_0 : decode cX6_outcomeIn 0 = .ok (.aload_n 1, 1) := by decide +kernel
theorem dX6_outcomeIn_1 : decode cX6_outcomeIn 1 = .ok (.getfield 159, 3) := by decide +kernel
theorem dX6_outcomeIn_4 : decode cX6_outcomeIn 4 = .ok (.astore_n 3, 1) := by decide +kernel
theorem dX6_outcomeIn_5 : decode cX6_outcomeIn 5 = .ok (.aload_n 3, 1) := by decide +kernel
theorem dX6_outcomeIn_6 : decode cX6_outcomeIn 6 = .ok (.getfield 129, 3) := by decide +kernel
theorem dX6_outcomeIn_9 : decode cX6_outcomeIn 9 = .ok (.istore 4, 2) := by decide +kernel
theorem dX6_outcomeIn_11 : decode cX6_outcomeIn 11 = .ok (.iload 4, 2) := by decide +kernel
theorem dX6_outcomeIn_13 : decode cX6_outcomeIn 13 = .ok (.iconst 1, 1) := by decide +kernel
theorem dX6_outcomeIn_14 : decode cX6_outcomeIn 14 = .ok (.if_icmp .ne 30, 3) := by decide +kernel
theorem dX6_outcomeIn_17 : decode cX6_outcomeIn 17 = .ok (.aload_n 0, 1) := by decide +kernel
theorem dX6_outcomeIn_18 : decode cX6_outcomeIn 18 = .ok (.aload_n 3, 1) := by decide +kernel
theorem dX6_outcomeIn_19 : decode cX6_outcomeIn 19 = .ok (.aload_n 3, 1) := by decide +kernel
theorem dX6_outcomeIn_20 : decode cX6_outcomeIn 20 = .ok (.getfield 211, 3) := by decide +kernel
theorem dX6_outcomeIn_23 : decode cX6_outcomeIn 23 = .ok (.iconst 0, 1) := by decide +kernel
theorem dX6_outcomeIn_24 : decode cX6_outcomeIn 24 = .ok (.invokevirtual 267, 3) := by decide +kernel
theorem dX6_outcomeIn_27 : decode cX6_outcomeIn 27 = .ok (.istore 5, 2) := by decide +kernel
theorem dX6_outcomeIn_29 : decode cX6_outcomeIn 29 = .ok (.iload 5, 2) := by decide +kernel
theorem dX6_outcomeIn_31 : decode cX6_outcomeIn 31 = .ok (.iconst (-1), 1) := by decide +kernel
theorem dX6_outcomeIn_32 : decode cX6_outcomeIn 32 = .ok (.if_icmp .eq 12, 3) := by decide +kernel
theorem dX6_outcomeIn_35 : decode cX6_outcomeIn 35 = .ok (.iload 5, 2) := by decide +kernel
theorem dX6_outcomeIn_37 : decode cX6_outcomeIn 37 = .ok (.iload_n 2, 1) := by decide +kernel
theorem dX6_outcomeIn_38 : decode cX6_outcomeIn 38 = .ok (.if_icmp .gt 6, 3) := by decide +kernel
theorem dX6_outcomeIn_41 : decode cX6_outcomeIn 41 = .ok (.iconst 2, 1) := by decide +kernel
theorem dX6_outcomeIn_42 : decode cX6_outcomeIn 42 = .ok (.istore 4, 2) := by decide +kernel
theorem dX6_outcomeIn_44 : decode cX6_outcomeIn 44 = .ok (.aload_n 0, 1) := by decide +kernel
theorem dX6_outcomeIn_45 : decode cX6_outcomeIn 45 = .ok (.aload_n 1, 1) := by decide +kernel
theorem dX6_outcomeIn_46 : decode cX6_outcomeIn 46 = .ok (.iload 4, 2) := by decide +kernel
theorem dX6_outcomeIn_48 : decode cX6_outcomeIn 48 = .ok (.aload_n 0, 1) := by decide +kernel
theorem dX6_outcomeIn_49 : decode cX6_outcomeIn 49 = .ok (.getfield 225, 3) := by decide +kernel
theorem dX6_outcomeIn_52 : decode cX6_outcomeIn 52 = .ok (.iload_n 2, 1) := by decide +kernel
theorem dX6_outcomeIn_53 : decode cX6_outcomeIn 53 = .ok (.iadd, 1) := by decide +kernel
theorem dX6_outcomeIn_54 : decode cX6_outcomeIn 54 = .ok (.iload_n 2, 1) := by decide +kernel
theorem dX6_outcomeIn_55 : decode cX6_outcomeIn 55 = .ok (.ifCond .ne 11, 3) := by decide +kernel
theorem dX6_outcomeIn_58 : decode cX6_outcomeIn 58 = .ok (.aload_n 1, 1) := by decide +kernel
theorem dX6_outcomeIn_59 : decode cX6_outcomeIn 59 = .ok (.aload_n 3, 1) := by decide +kernel
theorem dX6_outcomeIn_60 : decode cX6_outcomeIn 60 = .ok (.invokevirtual 361, 3) := by decide +kernel
theorem dX6_outcomeIn_63 : decode cX6_outcomeIn 63 = .ok (.goto 4, 3) := by decide +kernel
theorem dX6_outcomeIn_66 : decode cX6_outcomeIn 66 = .ok (.iconst 0, 1) := by decide +kernel
theorem dX6_outcomeIn_67 : decode cX6_outcomeIn 67 = .ok (.invokevirtual 364, 3) := by decide +kernel
theorem dX6_outcomeIn_70 : decode cX6_outcomeIn 70 = .ok (.ireturn, 1) := by decide +kernel
theorem dX6_beginHour_0 : decode cX6_beginHour 0 = .ok (.aload_n 0, 1) := by decide +kernel
theorem dX6_beginHour_1 : decode cX6_beginHour 1 = .ok (.dup, 1) := by decide +kernel
theorem dX6_beginHour_2 : decode cX6_beginHour 2 = .ok (.getfield 225, 3) := by decide +kernel
theorem dX6_beginHour_5 : decode cX6_beginHour 5 = .ok (.iconst 1, 1) := by decide +kernel
theorem dX6_beginHour_6 : decode cX6_beginHour 6 = .ok (.iadd, 1) := by decide +kernel
theorem dX6_beginHour_7 : decode cX6_beginHour 7 = .ok (.putfield 225, 3) := by decide +kernel
theorem dX6_beginHour_10 : decode cX6_beginHour 10 = .ok (.iconst 0, 1) := by decide +kernel
theorem dX6_beginHour_11 : decode cX6_beginHour 11 = .ok (.istore_n 1, 1) := by decide +kernel
theorem dX6_beginHour_12 : decode cX6_beginHour 12 = .ok (.iload_n 1, 1) := by decide +kernel
theorem dX6_beginHour_13 : decode cX6_beginHour 13 = .ok (.aload_n 0, 1) := by decide +kernel
theorem dX6_beginHour_14 : decode cX6_beginHour 14 = .ok (.getfield 17, 3) := by decide +kernel
theorem dX6_beginHour_17 : decode cX6_beginHour 17 = .ok (.arraylength, 1) := by decide +kernel
theorem dX6_beginHour_18 : decode cX6_beginHour 18 = .ok (.if_icmp .ge 28, 3) := by decide +kernel
theorem dX6_beginHour_21 : decode cX6_beginHour 21 = .ok (.aload_n 0, 1) := by decide +kernel
theorem dX6_beginHour_22 : decode cX6_beginHour 22 = .ok (.getfield 17, 3) := by decide +kernel
theorem dX6_beginHour_25 : decode cX6_beginHour 25 = .ok (.iload_n 1, 1) := by decide +kernel
theorem dX6_beginHour_26 : decode cX6_beginHour 26 = .ok (.aaload, 1) := by decide +kernel
theorem dX6_beginHour_27 : decode cX6_beginHour 27 = .ok (.astore_n 2, 1) := by decide +kernel
theorem dX6_beginHour_28 : decode cX6_beginHour 28 = .ok (.aload_n 2, 1) := by decide +kernel
theorem dX6_beginHour_29 : decode cX6_beginHour 29 = .ok (.ifnull 11, 3) := by decide +kernel
theorem dX6_beginHour_32 : decode cX6_beginHour 32 = .ok (.aload_n 2, 1) := by decide +kernel
theorem dX6_beginHour_33 : decode cX6_beginHour 33 = .ok (.getfield 378, 3) := by decide +kernel
theorem dX6_beginHour_36 : decode cX6_beginHour 36 = .ok (.iconst 0, 1) := by decide +kernel
theorem dX6_beginHour_37 : decode cX6_beginHour 37 = .ok (.invokestatic 381, 3) := by decide +kernel
theorem dX6_beginHour_40 : decode cX6_beginHour 40 = .ok (.iinc 1 1, 3) := by decide +kernel
theorem dX6_beginHour_43 : decode cX6_beginHour 43 = .ok (.goto (-31), 3) := by decide +kernel
theorem dX6_beginHour_46 : decode cX6_beginHour 46 = .ok (.iconst 0, 1) := by decide +kernel
theorem dX6_beginHour_47 : decode cX6_beginHour 47 = .ok (.istore_n 1, 1) := by decide +kernel
theorem dX6_beginHour_48 : decode cX6_beginHour 48 = .ok (.iconst 0, 1) := by decide +kernel
theorem dX6_beginHour_49 : decode cX6_beginHour 49 = .ok (.istore_n 2, 1) := by decide +kernel
theorem dX6_beginHour_50 : decode cX6_beginHour 50 = .ok (.iload_n 2, 1) := by decide +kernel
theorem dX6_beginHour_51 : decode cX6_beginHour 51 = .ok (.iconst 4, 1) := by decide +kernel
theorem dX6_beginHour_52 : decode cX6_beginHour 52 = .ok (.if_icmp .ge 72, 3) := by decide +kernel
theorem dX6_beginHour_55 : decode cX6_beginHour 55 = .ok (.iconst 0, 1) := by decide +kernel
theorem dX6_beginHour_56 : decode cX6_beginHour 56 = .ok (.istore_n 3, 1) := by decide +kernel
theorem dX6_beginHour_57 : decode cX6_beginHour 57 = .ok (.iload_n 3, 1) := by decide +kernel
theorem dX6_beginHour_58 : decode cX6_beginHour 58 = .ok (.bipush 6, 2) := by decide +kernel
theorem dX6_beginHour_60 : decode cX6_beginHour 60 = .ok (.if_icmp .ge 58, 3) := by decide +kernel
theorem dX6_beginHour_63 : decode cX6_beginHour 63 = .ok (.aload_n 0, 1) := by decide +kernel
theorem dX6_beginHour_64 : decode cX6_beginHour 64 = .ok (.iload_n 2, 1) := by decide +kernel
theorem dX6_beginHour_65 : decode cX6_beginHour 65 = .ok (.iload_n 3, 1) := by decide +kernel
theorem dX6_beginHour_66 : decode cX6_beginHour 66 = .ok (.invokevirtual 91, 3) := by decide +kernel
theorem dX6_beginHour_69 : decode cX6_beginHour 69 = .ok (.astore 4, 2) := by decide +kernel
theorem dX6_beginHour_71 : decode cX6_beginHour 71 = .ok (.aload 4, 2) := by decide +kernel
theorem dX6_beginHour_73 : decode cX6_beginHour 73 = .ok (.ifnull 39, 3) := by decide +kernel
theorem dX6_beginHour_76 : decode cX6_beginHour 76 = .ok (.aload 4, 2) := by decide +kernel
theorem dX6_beginHour_78 : decode cX6_beginHour 78 = .ok (.getfield 129, 3) := by decide +kernel
theorem dX6_beginHour_81 : decode cX6_beginHour 81 = .ok (.iconst 1, 1) := by decide +kernel
theorem dX6_beginHour_82 : decode cX6_beginHour 82 = .ok (.if_icmp .ne 30, 3) := by decide +kernel
theorem dX6_beginHour_85 : decode cX6_beginHour 85 = .ok (.aload 4, 2) := by decide +kernel
theorem dX6_beginHour_87 : decode cX6_beginHour 87 = .ok (.getfield 211, 3) := by decide +kernel
theorem dX6_beginHour_90 : decode cX6_beginHour 90 = .ok (.getfield 236, 3) := by decide +kernel
theorem dX6_beginHour_93 : decode cX6_beginHour 93 = .ok (.aload_n 0, 1) := by decide +kernel
theorem dX6_beginHour_94 : decode cX6_beginHour 94 = .ok (.getfield 225, 3) := by decide +kernel
theorem dX6_beginHour_97 : decode cX6_beginHour 97 = .ok (.if_icmp .ne 15, 3) := by decide +kernel
theorem dX6_beginHour_100 : decode cX6_beginHour 100 = .ok (.aload_n 0, 1) := by decide +kernel
theorem dX6_beginHour_101 : decode cX6_beginHour 101 = .ok (.aload 4, 2) := by decide +kernel
theorem dX6_beginHour_103 : decode cX6_beginHour 103 = .ok (.invokevirtual 387, 3) := by decide +kernel
theorem dX6_beginHour_106 : decode cX6_beginHour 106 = .ok (.ifCond .eq 6, 3) := by decide +kernel
theorem dX6_beginHour_109 : decode cX6_beginHour 109 = .ok (.iinc 1 1, 3) := by decide +kernel
theorem dX6_beginHour_112 : decode cX6_beginHour 112 = .ok (.iinc 3 1, 3) := by decide +kernel
theorem dX6_beginHour_115 : decode cX6_beginHour 115 = .ok (.goto (-58), 3) := by decide +kernel
theorem dX6_beginHour_118 : decode cX6_beginHour 118 = .ok (.iinc 2 1, 3) := by decide +kernel
theorem dX6_beginHour_121 : decode cX6_beginHour 121 = .ok (.goto (-71), 3) := by decide +kernel
theorem dX6_beginHour_124 : decode cX6_beginHour 124 = .ok (.iload_n 1, 1) := by decide +kernel
theorem dX6_beginHour_125 : decode cX6_beginHour 125 = .ok (.ireturn, 1) := by decide +kernel
theorem dX6_isGoneAtEnd_0 : decode cX6_isGoneAtEnd 0 = .ok (.aload_n 0, 1) := by decide +kernel
theorem dX6_isGoneAtEnd_1 : decode cX6_isGoneAtEnd 1 = .ok (.aload_n 1, 1) := by decide +kernel
theorem dX6_isGoneAtEnd_2 : decode cX6_isGoneAtEnd 2 = .ok (.aload_n 1, 1) := by decide +kernel
theorem dX6_isGoneAtEnd_3 : decode cX6_isGoneAtEnd 3 = .ok (.getfield 211, 3) := by decide +kernel
theorem dX6_isGoneAtEnd_6 : decode cX6_isGoneAtEnd 6 = .ok (.aload_n 0, 1) := by decide +kernel
theorem dX6_isGoneAtEnd_7 : decode cX6_isGoneAtEnd 7 = .ok (.getfield 225, 3) := by decide +kernel
theorem dX6_isGoneAtEnd_10 : decode cX6_isGoneAtEnd 10 = .ok (.iconst 0, 1) := by decide +kernel
theorem dX6_isGoneAtEnd_11 : decode cX6_isGoneAtEnd 11 = .ok (.invokevirtual 293, 3) := by decide +kernel
theorem dX6_isGoneAtEnd_14 : decode cX6_isGoneAtEnd 14 = .ok (.ifCond .ne 10, 3) := by decide +kernel
theorem dX6_isGoneAtEnd_17 : decode cX6_isGoneAtEnd 17 = .ok (.aload_n 1, 1) := by decide +kernel
theorem dX6_isGoneAtEnd_18 : decode cX6_isGoneAtEnd 18 = .ok (.iconst 2, 1) := by decide +kernel
theorem dX6_isGoneAtEnd_19 : decode cX6_isGoneAtEnd 19 = .ok (.putfield 129, 3) := by decide +kernel
theorem dX6_isGoneAtEnd_22 : decode cX6_isGoneAtEnd 22 = .ok (.iconst 1, 1) := by decide +kernel
theorem dX6_isGoneAtEnd_23 : decode cX6_isGoneAtEnd 23 = .ok (.ireturn, 1) := by decide +kernel
theorem dX6_isGoneAtEnd_24 : decode cX6_isGoneAtEnd 24 = .ok (.aload_n 1, 1) := by decide +kernel
theorem dX6_isGoneAtEnd_25 : decode cX6_isGoneAtEnd 25 = .ok (.getfield 211, 3) := by decide +kernel
theorem dX6_isGoneAtEnd_28 : decode cX6_isGoneAtEnd 28 = .ok (.dup, 1) := by decide +kernel
theorem dX6_isGoneAtEnd_29 : decode cX6_isGoneAtEnd 29 = .ok (.getfield 236, 3) := by decide +kernel
theorem dX6_isGoneAtEnd_32 : decode cX6_isGoneAtEnd 32 = .ok (.bipush 24, 2) := by decide +kernel
theorem dX6_isGoneAtEnd_34 : decode cX6_isGoneAtEnd 34 = .ok (.iadd, 1) := by decide +kernel
theorem dX6_isGoneAtEnd_35 : decode cX6_isGoneAtEnd 35 = .ok (.putfield 236, 3) := by decide +kernel
theorem dX6_isGoneAtEnd_38 : decode cX6_isGoneAtEnd 38 = .ok (.aload_n 1, 1) := by decide +kernel
theorem dX6_isGoneAtEnd_39 : decode cX6_isGoneAtEnd 39 = .ok (.dup, 1) := by decide +kernel
theorem dX6_isGoneAtEnd_40 : decode cX6_isGoneAtEnd 40 = .ok (.getfield 297, 3) := by decide +kernel
theorem dX6_isGoneAtEnd_43 : decode cX6_isGoneAtEnd 43 = .ok (.iconst 1, 1) := by decide +kernel
theorem dX6_isGoneAtEnd_44 : decode cX6_isGoneAtEnd 44 = .ok (.iadd, 1) := by decide +kernel
theorem dX6_isGoneAtEnd_45 : decode cX6_isGoneAtEnd 45 = .ok (.putfield 297, 3) := by decide +kernel
theorem dX6_isGoneAtEnd_48 : decode cX6_isGoneAtEnd 48 = .ok (.iconst 0, 1) := by decide +kernel
theorem dX6_isGoneAtEnd_49 : decode cX6_isGoneAtEnd 49 = .ok (.ireturn, 1) := by decide +kernel
theorem dX6_startRetirement_0 : decode cX6_startRetirement 0 = .ok (.aload_n 2, 1) := by decide +kernel
theorem dX6_startRetirement_1 : decode cX6_startRetirement 1 = .ok (.aload_n 0, 1) := by decide +kernel
theorem dX6_startRetirement_2 : decode cX6_startRetirement 2 = .ok (.getfield 225, 3) := by decide +kernel
theorem dX6_startRetirement_5 : decode cX6_startRetirement 5 = .ok (.iload_n 3, 1) := by decide +kernel
theorem dX6_startRetirement_6 : decode cX6_startRetirement 6 = .ok (.invokevirtual 390, 3) := by decide +kernel
theorem dX6_startRetirement_9 : decode cX6_startRetirement 9 = .ok (.iconst 0, 1) := by decide +kernel
theorem dX6_startRetirement_10 : decode cX6_startRetirement 10 = .ok (.istore 4, 2) := by decide +kernel
theorem dX6_startRetirement_12 : decode cX6_startRetirement 12 = .ok (.iconst 0, 1) := by decide +kernel
theorem dX6_startRetirement_13 : decode cX6_startRetirement 13 = .ok (.istore 5, 2) := by decide +kernel
theorem dX6_startRetirement_15 : decode cX6_startRetirement 15 = .ok (.iload 5, 2) := by decide +kernel
theorem dX6_startRetirement_17 : decode cX6_startRetirement 17 = .ok (.aload_n 0, 1) := by decide +kernel
theorem dX6_startRetirement_18 : decode cX6_startRetirement 18 = .ok (.getfield 17, 3) := by decide +kernel
theorem dX6_startRetirement_21 : decode cX6_startRetirement 21 = .ok (.arraylength, 1) := by decide +kernel
theorem dX6_startRetirement_22 : decode cX6_startRetirement 22 = .ok (.if_icmp .ge 55, 3) := by decide +kernel
theorem dX6_startRetirement_25 : decode cX6_startRetirement 25 = .ok (.aload_n 0, 1) := by decide +kernel
theorem dX6_startRetirement_26 : decode cX6_startRetirement 26 = .ok (.getfield 17, 3) := by decide +kernel
theorem dX6_startRetirement_29 : decode cX6_startRetirement 29 = .ok (.iload 5, 2) := by decide +kernel
theorem dX6_startRetirement_31 : decode cX6_startRetirement 31 = .ok (.aaload, 1) := by decide +kernel
theorem dX6_startRetirement_32 : decode cX6_startRetirement 32 = .ok (.astore 6, 2) := by decide +kernel
theorem dX6_startRetirement_34 : decode cX6_startRetirement 34 = .ok (.aload 6, 2) := by decide +kernel
theorem dX6_startRetirement_36 : decode cX6_startRetirement 36 = .ok (.ifnull 35, 3) := by decide +kernel
theorem dX6_startRetirement_39 : decode cX6_startRetirement 39 = .ok (.aload 6, 2) := by decide +kernel
theorem dX6_startRetirement_41 : decode cX6_startRetirement 41 = .ok (.aload_n 1, 1) := by decide +kernel
theorem dX6_startRetirement_42 : decode cX6_startRetirement 42 = .ok (.aload_n 0, 1) := by decide +kernel
theorem dX6_startRetirement_43 : decode cX6_startRetirement 43 = .ok (.getfield 225, 3) := by decide +kernel
theorem dX6_startRetirement_46 : decode cX6_startRetirement 46 = .ok (.invokevirtual 323, 3) := by decide +kernel
theorem dX6_startRetirement_49 : decode cX6_startRetirement 49 = .ok (.ifCond .eq 22, 3) := by decide +kernel
theorem dX6_startRetirement_52 : decode cX6_startRetirement 52 = .ok (.aload_n 2, 1) := by decide +kernel
theorem dX6_startRetirement_53 : decode cX6_startRetirement 53 = .ok (.aload 6, 2) := by decide +kernel
theorem dX6_startRetirement_55 : decode cX6_startRetirement 55 = .ok (.getfield 305, 3) := by decide +kernel
theorem dX6_startRetirement_58 : decode cX6_startRetirement 58 = .ok (.aload_n 0, 1) := by decide +kernel
theorem dX6_startRetirement_59 : decode cX6_startRetirement 59 = .ok (.getfield 225, 3) := by decide +kernel
theorem dX6_startRetirement_62 : decode cX6_startRetirement 62 = .ok (.invokevirtual 358, 3) := by decide +kernel
theorem dX6_startRetirement_65 : decode cX6_startRetirement 65 = .ok (.ifCond .eq 6, 3) := by decide +kernel
theorem dX6_startRetirement_68 : decode cX6_startRetirement 68 = .ok (.iinc 4 1, 3) := by decide +kernel
theorem dX6_startRetirement_71 : decode cX6_startRetirement 71 = .ok (.iinc 5 1, 3) := by decide +kernel
theorem dX6_startRetirement_74 : decode cX6_startRetirement 74 = .ok (.goto (-59), 3) := by decide +kernel
theorem dX6_startRetirement_77 : decode cX6_startRetirement 77 = .ok (.iload 4, 2) := by decide +kernel
theorem dX6_startRetirement_79 : decode cX6_startRetirement 79 = .ok (.ireturn, 1) := by decide +kernel
theorem dX6_countHinderers_0 : decode cX6_countHinderers 0 = .ok (.iconst 0, 1) := by decide +kernel
theorem dX6_countHinderers_1 : decode cX6_countHinderers 1 = .ok (.istore 5, 2) := by decide +kernel
theorem dX6_countHinderers_3 : decode cX6_countHinderers 3 = .ok (.iconst 0, 1) := by decide +kernel
theorem dX6_countHinderers_4 : decode cX6_countHinderers 4 = .ok (.istore 6, 2) := by decide +kernel
theorem dX6_countHinderers_6 : decode cX6_countHinderers 6 = .ok (.iload 6, 2) := by decide +kernel
theorem dX6_countHinderers_8 : decode cX6_countHinderers 8 = .ok (.aload_n 0, 1) := by decide +kernel
theorem dX6_countHinderers_9 : decode cX6_countHinderers 9 = .ok (.getfield 17, 3) := by decide +kernel
theorem dX6_countHinderers_12 : decode cX6_countHinderers 12 = .ok (.arraylength, 1) := by decide +kernel
theorem dX6_countHinderers_13 : decode cX6_countHinderers 13 = .ok (.if_icmp .ge 63, 3) := by decide +kernel
theorem dX6_countHinderers_16 : decode cX6_countHinderers 16 = .ok (.aload_n 0, 1) := by decide +kernel
theorem dX6_countHinderers_17 : decode cX6_countHinderers 17 = .ok (.getfield 17, 3) := by decide +kernel
theorem dX6_countHinderers_20 : decode cX6_countHinderers 20 = .ok (.iload 6, 2) := by decide +kernel
theorem dX6_countHinderers_22 : decode cX6_countHinderers 22 = .ok (.aaload, 1) := by decide +kernel
theorem dX6_countHinderers_23 : decode cX6_countHinderers 23 = .ok (.astore 7, 2) := by decide +kernel
theorem dX6_countHinderers_25 : decode cX6_countHinderers 25 = .ok (.aload 7, 2) := by decide +kernel
theorem dX6_countHinderers_27 : decode cX6_countHinderers 27 = .ok (.ifnull 43, 3) := by decide +kernel
theorem dX6_countHinderers_30 : decode cX6_countHinderers 30 = .ok (.aload_n 2, 1) := by decide +kernel
theorem dX6_countHinderers_31 : decode cX6_countHinderers 31 = .ok (.aload 7, 2) := by decide +kernel
theorem dX6_countHinderers_33 : decode cX6_countHinderers 33 = .ok (.getfield 305, 3) := by decide +kernel
theorem dX6_countHinderers_36 : decode cX6_countHinderers 36 = .ok (.iload_n 3, 1) := by decide +kernel
theorem dX6_countHinderers_37 : decode cX6_countHinderers 37 = .ok (.invokevirtual 228, 3) := by decide +kernel
theorem dX6_countHinderers_40 : decode cX6_countHinderers 40 = .ok (.ifCond .ne 30, 3) := by decide +kernel
theorem dX6_countHinderers_43 : decode cX6_countHinderers 43 = .ok (.aload_n 0, 1) := by decide +kernel
theorem dX6_countHinderers_44 : decode cX6_countHinderers 44 = .ok (.aload 7, 2) := by decide +kernel
theorem dX6_countHinderers_46 : decode cX6_countHinderers 46 = .ok (.aload_n 1, 1) := by decide +kernel
theorem dX6_countHinderers_47 : decode cX6_countHinderers 47 = .ok (.iload_n 3, 1) := by decide +kernel
theorem dX6_countHinderers_48 : decode cX6_countHinderers 48 = .ok (.iload 4, 2) := by decide +kernel
theorem dX6_countHinderers_50 : decode cX6_countHinderers 50 = .ok (.invokevirtual 394, 3) := by decide +kernel
theorem dX6_countHinderers_53 : decode cX6_countHinderers 53 = .ok (.ifCond .eq 17, 3) := by decide +kernel
theorem dX6_countHinderers_56 : decode cX6_countHinderers 56 = .ok (.aload_n 0, 1) := by decide +kernel
theorem dX6_countHinderers_57 : decode cX6_countHinderers 57 = .ok (.aload 7, 2) := by decide +kernel
theorem dX6_countHinderers_59 : decode cX6_countHinderers 59 = .ok (.aload_n 1, 1) := by decide +kernel
theorem dX6_countHinderers_60 : decode cX6_countHinderers 60 = .ok (.aload_n 1, 1) := by decide +kernel
theorem dX6_countHinderers_61 : decode cX6_countHinderers 61 = .ok (.invokevirtual 338, 3) := by decide +kernel
theorem dX6_countHinderers_64 : decode cX6_countHinderers 64 = .ok (.ifCond .ne 6, 3) := by decide +kernel
theorem dX6_countHinderers_67 : decode cX6_countHinderers 67 = .ok (.iinc 5 1, 3) := by decide +kernel
theorem dX6_countHinderers_70 : decode cX6_countHinderers 70 = .ok (.iinc 6 1, 3) := by decide +kernel
theorem dX6_countHinderers_73 : decode cX6_countHinderers 73 = .ok (.goto (-67), 3) := by decide +kernel
theorem dX6_countHinderers_76 : decode cX6_countHinderers 76 = .ok (.iload 5, 2) := by decide +kernel
theorem dX6_countHinderers_78 : decode cX6_countHinderers 78 = .ok (.ireturn, 1) := by decide +kernel
theorem dX6_isCallerThen_0 : decode cX6_isCallerThen 0 = .ok (.aload_n 1, 1) := by decide +kernel
theorem dX6_isCallerThen_1 : decode cX6_isCallerThen 1 = .ok (.aload_n 2, 1) := by decide +kernel
theorem dX6_isCallerThen_2 : decode cX6_isCallerThen 2 = .ok (.iload_n 3, 1) := by decide +kernel
theorem dX6_isCallerThen_3 : decode cX6_isCallerThen 3 = .ok (.invokevirtual 323, 3) := by decide +kernel
theorem dX6_isCallerThen_6 : decode cX6_isCallerThen 6 = .ok (.ifCond .ne 28, 3) := by decide +kernel
theorem dX6_isCallerThen_9 : decode cX6_isCallerThen 9 = .ok (.iload 4, 2) := by decide +kernel
theorem dX6_isCallerThen_11 : decode cX6_isCallerThen 11 = .ok (.ifCond .eq 27, 3) := by decide +kernel
theorem dX6_isCallerThen_14 : decode cX6_isCallerThen 14 = .ok (.aload_n 1, 1) := by decide +kernel
theorem dX6_isCallerThen_15 : decode cX6_isCallerThen 15 = .ok (.getfield 159, 3) := by decide +kernel
theorem dX6_isCallerThen_18 : decode cX6_isCallerThen 18 = .ok (.aload_n 2, 1) := by decide +kernel
theorem dX6_isCallerThen_19 : decode cX6_isCallerThen 19 = .ok (.if_acmp .ne 19, 3) := by decide +kernel
theorem dX6_isCallerThen_22 : decode cX6_isCallerThen 22 = .ok (.aload_n 1, 1) := by decide +kernel
theorem dX6_isCallerThen_23 : decode cX6_isCallerThen 23 = .ok (.aload_n 2, 1) := by decide +kernel
theorem dX6_isCallerThen_24 : decode cX6_isCallerThen 24 = .ok (.aload_n 0, 1) := by decide +kernel
theorem dX6_isCallerThen_25 : decode cX6_isCallerThen 25 = .ok (.getfield 225, 3) := by decide +kernel
theorem dX6_isCallerThen_28 : decode cX6_isCallerThen 28 = .ok (.invokevirtual 323, 3) := by decide +kernel
theorem dX6_isCallerThen_31 : decode cX6_isCallerThen 31 = .ok (.ifCond .eq 7, 3) := by decide +kernel
theorem dX6_isCallerThen_34 : decode cX6_isCallerThen 34 = .ok (.iconst 1, 1) := by decide +kernel
theorem dX6_isCallerThen_35 : decode cX6_isCallerThen 35 = .ok (.goto 4, 3) := by decide +kernel
theorem dX6_isCallerThen_38 : decode cX6_isCallerThen 38 = .ok (.iconst 0, 1) := by decide +kernel
theorem dX6_isCallerThen_39 : decode cX6_isCallerThen 39 = .ok (.ireturn, 1) := by decide +kernel
theorem dX6_hoursTillGone_0 : decode cX6_hoursTillGone 0 = .ok (.aload_n 2, 1) := by decide +kernel
theorem dX6_hoursTillGone_1 : decode cX6_hoursTillGone 1 = .ok (.getfield 236, 3) := by decide +kernel
theorem dX6_hoursTillGone_4 : decode cX6_hoursTillGone 4 = .ok (.istore 4, 2) := by decide +kernel
theorem dX6_hoursTillGone_6 : decode cX6_hoursTillGone 6 = .ok (.iconst 0, 1) := by decide +kernel
theorem dX6_hoursTillGone_7 : decode cX6_hoursTillGone 7 = .ok (.istore 5, 2) := by decide +kernel
theorem dX6_hoursTillGone_9 : decode cX6_hoursTillGone 9 = .ok (.iload 5, 2) := by decide +kernel
theorem dX6_hoursTillGone_11 : decode cX6_hoursTillGone 11 = .ok (.bipush 100, 2) := by decide +kernel
theorem dX6_hoursTillGone_13 : decode cX6_hoursTillGone 13 = .ok (.if_icmp .ge 32, 3) := by decide +kernel
theorem dX6_hoursTillGone_16 : decode cX6_hoursTillGone 16 = .ok (.aload_n 0, 1) := by decide +kernel
theorem dX6_hoursTillGone_17 : decode cX6_hoursTillGone 17 = .ok (.aload_n 1, 1) := by decide +kernel
theorem dX6_hoursTillGone_18 : decode cX6_hoursTillGone 18 = .ok (.aload_n 2, 1) := by decide +kernel
theorem dX6_hoursTillGone_19 : decode cX6_hoursTillGone 19 = .ok (.iload 4, 2) := by decide +kernel
theorem dX6_hoursTillGone_21 : decode cX6_hoursTillGone 21 = .ok (.iload_n 3, 1) := by decide +kernel
theorem dX6_hoursTillGone_22 : decode cX6_hoursTillGone 22 = .ok (.invokevirtual 293, 3) := by decide +kernel
theorem dX6_hoursTillGone_25 : decode cX6_hoursTillGone 25 = .ok (.ifCond .ne 11, 3) := by decide +kernel
theorem dX6_hoursTillGone_28 : decode cX6_hoursTillGone 28 = .ok (.iload 4, 2) := by decide +kernel
theorem dX6_hoursTillGone_30 : decode cX6_hoursTillGone 30 = .ok (.aload_n 0, 1) := by decide +kernel
theorem dX6_hoursTillGone_31 : decode cX6_hoursTillGone 31 = .ok (.getfield 225, 3) := by decide +kernel
theorem dX6_hoursTillGone_34 : decode cX6_hoursTillGone 34 = .ok (.isub, 1) := by decide +kernel
theorem dX6_hoursTillGone_35 : decode cX6_hoursTillGone 35 = .ok (.ireturn, 1) := by decide +kernel
theorem dX6_hoursTillGone_36 : decode cX6_hoursTillGone 36 = .ok (.iinc 4 24, 3) := by decide +kernel
theorem dX6_hoursTillGone_39 : decode cX6_hoursTillGone 39 = .ok (.iinc 5 1, 3) := by decide +kernel
theorem dX6_hoursTillGone_42 : decode cX6_hoursTillGone 42 = .ok (.goto (-33), 3) := by decide +kernel
theorem dX6_hoursTillGone_45 : decode cX6_hoursTillGone 45 = .ok (.iconst (-1), 1) := by decide +kernel
theorem dX6_hoursTillGone_46 : decode cX6_hoursTillGone 46 = .ok (.ireturn, 1) := by decide +kernel
theorem dX6_hoursLeft_0 : decode cX6_hoursLeft 0 = .ok (.aload_n 1, 1) := by decide +kernel
theorem dX6_hoursLeft_1 : decode cX6_hoursLeft 1 = .ok (.getfield 129, 3) := by decide +kernel
theorem dX6_hoursLeft_4 : decode cX6_hoursLeft 4 = .ok (.ifCond .ne 5, 3) := by decide +kernel
theorem dX6_hoursLeft_7 : decode cX6_hoursLeft 7 = .ok (.iconst (-1), 1) := by decide +kernel
theorem dX6_hoursLeft_8 : decode cX6_hoursLeft 8 = .ok (.ireturn, 1) := by decide +kernel
theorem dX6_hoursLeft_9 : decode cX6_hoursLeft 9 = .ok (.aload_n 1, 1) := by decide +kernel
theorem dX6_hoursLeft_10 : decode cX6_hoursLeft 10 = .ok (.getfield 129, 3) := by decide +kernel
theorem dX6_hoursLeft_13 : decode cX6_hoursLeft 13 = .ok (.iconst 2, 1) := by decide +kernel
theorem dX6_hoursLeft_14 : decode cX6_hoursLeft 14 = .ok (.if_icmp .ne 7, 3) := by decide +kernel
theorem dX6_hoursLeft_17 : decode cX6_hoursLeft 17 = .ok (.iconst 0, 1) := by decide +kernel
theorem dX6_hoursLeft_18 : decode cX6_hoursLeft 18 = .ok (.goto 13, 3) := by decide +kernel
theorem dX6_hoursLeft_21 : decode cX6_hoursLeft 21 = .ok (.aload_n 0, 1) := by decide +kernel
theorem dX6_hoursLeft_22 : decode cX6_hoursLeft 22 = .ok (.aload_n 1, 1) := by decide +kernel
theorem dX6_hoursLeft_23 : decode cX6_hoursLeft 23 = .ok (.aload_n 1, 1) := by decide +kernel
theorem dX6_hoursLeft_24 : decode cX6_hoursLeft 24 = .ok (.getfield 211, 3) := by decide +kernel
theorem dX6_hoursLeft_27 : decode cX6_hoursLeft 27 = .ok (.iconst 1, 1) := by decide +kernel
theorem dX6_hoursLeft_28 : decode cX6_hoursLeft 28 = .ok (.invokevirtual 267, 3) := by decide +kernel
theorem dX6_hoursLeft_31 : decode cX6_hoursLeft 31 = .ok (.ireturn, 1) := by decide +kernel
theorem dX6_digestVersion_0 : decode cX6_digestVersion 0 = .ok (.lload_n 1, 1) := by decide +kernel
theorem dX6_digestVersion_1 : decode cX6_digestVersion 1 = .ok (.lstore 4, 2) := by decide +kernel
theorem dX6_digestVersion_3 : decode cX6_digestVersion 3 = .ok (.iconst 0, 1) := by decide +kernel
theorem dX6_digestVersion_4 : decode cX6_digestVersion 4 = .ok (.istore 6, 2) := by decide +kernel
theorem dX6_digestVersion_6 : decode cX6_digestVersion 6 = .ok (.iload 6, 2) := by decide +kernel
theorem dX6_digestVersion_8 : decode cX6_digestVersion 8 = .ok (.bipush 10, 2) := by decide +kernel
theorem dX6_digestVersion_10 : decode cX6_digestVersion 10 = .ok (.if_icmp .gt 26, 3) := by decide +kernel
theorem dX6_digestVersion_13 : decode cX6_digestVersion 13 = .ok (.lload 4, 2) := by decide +kernel
theorem dX6_digestVersion_15 : decode cX6_digestVersion 15 = .ok (.ldc2_w 273, 3) := by decide +kernel
theorem dX6_digestVersion_18 : decode cX6_digestVersion 18 = .ok (.lmul, 1) := by decide +kernel
theorem dX6_digestVersion_19 : decode cX6_digestVersion 19 = .ok (.aload_n 0, 1) := by decide +kernel
theorem dX6_digestVersion_20 : decode cX6_digestVersion 20 = .ok (.aload_n 3, 1) := by decide +kernel
theorem dX6_digestVersion_21 : decode cX6_digestVersion 21 = .ok (.iload 6, 2) := by decide +kernel
theorem dX6_digestVersion_23 : decode cX6_digestVersion 23 = .ok (.invokevirtual 99, 3) := by decide +kernel
theorem dX6_digestVersion_26 : decode cX6_digestVersion 26 = .ok (.i2l, 1) := by decide +kernel
theorem dX6_digestVersion_27 : decode cX6_digestVersion 27 = .ok (.ladd, 1) := by decide +kernel
theorem dX6_digestVersion_28 : decode cX6_digestVersion 28 = .ok (.lstore 4, 2) := by decide +kernel
theorem dX6_digestVersion_30 : decode cX6_digestVersion 30 = .ok (.iinc 6 1, 3) := by decide +kernel
theorem dX6_digestVersion_33 : decode cX6_digestVersion 33 = .ok (.goto (-27), 3) := by decide +kernel
theorem dX6_digestVersion_36 : decode cX6_digestVersion 36 = .ok (.lload 4, 2) := by decide +kernel
theorem dX6_digestVersion_38 : decode cX6_digestVersion 38 = .ok (.ldc2_w 273, 3) := by decide +kernel
theorem dX6_digestVersion_41 : decode cX6_digestVersion 41 = .ok (.lmul, 1) := by decide +kernel
theorem dX6_digestVersion_42 : decode cX6_digestVersion 42 = .ok (.aload_n 0, 1) := by decide +kernel
theorem dX6_digestVersion_43 : decode cX6_digestVersion 43 = .ok (.aload_n 3, 1) := by decide +kernel
theorem dX6_digestVersion_44 : decode cX6_digestVersion 44 = .ok (.invokevirtual 260, 3) := by decide +kernel
theorem dX6_digestVersion_47 : decode cX6_digestVersion 47 = .ok (.i2l, 1) := by decide +kernel
theorem dX6_digestVersion_48 : decode cX6_digestVersion 48 = .ok (.ladd, 1) := by decide +kernel
theorem dX6_digestVersion_49 : decode cX6_digestVersion 49 = .ok (.lstore 4, 2) := by decide +kernel
theorem dX6_digestVersion_51 : decode cX6_digestVersion 51 = .ok (.iconst 0, 1) := by decide +kernel
theorem dX6_digestVersion_52 : decode cX6_digestVersion 52 = .ok (.istore 6, 2) := by decide +kernel
theorem dX6_digestVersion_54 : decode cX6_digestVersion 54 = .ok (.iload 6, 2) := by decide +kernel
theorem dX6_digestVersion_56 : decode cX6_digestVersion 56 = .ok (.iconst 5, 1) := by decide +kernel
theorem dX6_digestVersion_57 : decode cX6_digestVersion 57 = .ok (.if_icmp .ge 26, 3) := by decide +kernel
theorem dX6_digestVersion_60 : decode cX6_digestVersion 60 = .ok (.lload 4, 2) := by decide +kernel
theorem dX6_digestVersion_62 : decode cX6_digestVersion 62 = .ok (.ldc2_w 273, 3) := by decide +kernel
theorem dX6_digestVersion_65 : decode cX6_digestVersion 65 = .ok (.lmul, 1) := by decide +kernel
theorem dX6_digestVersion_66 : decode cX6_digestVersion 66 = .ok (.aload_n 0, 1) := by decide +kernel
theorem dX6_digestVersion_67 : decode cX6_digestVersion 67 = .ok (.iload 6, 2) := by decide +kernel
theorem dX6_digestVersion_69 : decode cX6_digestVersion 69 = .ok (.aload_n 3, 1) := by decide +kernel
theorem dX6_digestVersion_70 : decode cX6_digestVersion 70 = .ok (.invokevirtual 242, 3) := by decide +kernel
theorem dX6_digestVersion_73 : decode cX6_digestVersion 73 = .ok (.i2l, 1) := by decide +kernel
theorem dX6_digestVersion_74 : decode cX6_digestVersion 74 = .ok (.ladd, 1) := by decide +kernel
theorem dX6_digestVersion_75 : decode cX6_digestVersion 75 = .ok (.lstore 4, 2) := by decide +kernel
theorem dX6_digestVersion_77 : decode cX6_digestVersion 77 = .ok (.iinc 6 1, 3) := by decide +kernel
theorem dX6_digestVersion_80 : decode cX6_digestVersion 80 = .ok (.goto (-26), 3) := by decide +kernel
theorem dX6_digestVersion_83 : decode cX6_digestVersion 83 = .ok (.lload 4, 2) := by decide +kernel
theorem dX6_digestVersion_85 : decode cX6_digestVersion 85 = .ok (.lreturn, 1) := by decide +kernel
theorem dX6_digestClient_0 : decode cX6_digestClient 0 = .ok (.lload_n 1, 1) := by decide +kernel
theorem dX6_digestClient_1 : decode cX6_digestClient 1 = .ok (.lstore 4, 2) := by decide +kernel
theorem dX6_digestClient_3 : decode cX6_digestClient 3 = .ok (.iconst 0, 1) := by decide +kernel
theorem dX6_digestClient_4 : decode cX6_digestClient 4 = .ok (.istore 6, 2) := by decide +kernel
theorem dX6_digestClient_6 : decode cX6_digestClient 6 = .ok (.iload 6, 2) := by decide +kernel
theorem dX6_digestClient_8 : decode cX6_digestClient 8 = .ok (.bipush 8, 2) := by decide +kernel
theorem dX6_digestClient_10 : decode cX6_digestClient 10 = .ok (.if_icmp .gt 26, 3) := by decide +kernel
theorem dX6_digestClient_13 : decode cX6_digestClient 13 = .ok (.lload 4, 2) := by decide +kernel
theorem dX6_digestClient_15 : decode cX6_digestClient 15 = .ok (.ldc2_w 273, 3) := by decide +kernel
theorem dX6_digestClient_18 : decode cX6_digestClient 18 = .ok (.lmul, 1) := by decide +kernel
theorem dX6_digestClient_19 : decode cX6_digestClient 19 = .ok (.aload_n 0, 1) := by decide +kernel
theorem dX6_digestClient_20 : decode cX6_digestClient 20 = .ok (.aload_n 3, 1) := by decide +kernel
theorem dX6_digestClient_21 : decode cX6_digestClient 21 = .ok (.iload 6, 2) := by decide +kernel
theorem dX6_digestClient_23 : decode cX6_digestClient 23 = .ok (.invokevirtual 177, 3) := by decide +kernel
theorem dX6_digestClient_26 : decode cX6_digestClient 26 = .ok (.i2l, 1) := by decide +kernel
theorem dX6_digestClient_27 : decode cX6_digestClient 27 = .ok (.ladd, 1) := by decide +kernel
theorem dX6_digestClient_28 : decode cX6_digestClient 28 = .ok (.lstore 4, 2) := by decide +kernel
theorem dX6_digestClient_30 : decode cX6_digestClient 30 = .ok (.iinc 6 1, 3) := by decide +kernel
theorem dX6_digestClient_33 : decode cX6_digestClient 33 = .ok (.goto (-27), 3) := by decide +kernel
theorem dX6_digestClient_36 : decode cX6_digestClient 36 = .ok (.aload_n 0, 1) := by decide +kernel
theorem dX6_digestClient_37 : decode cX6_digestClient 37 = .ok (.aload_n 3, 1) := by decide +kernel
theorem dX6_digestClient_38 : decode cX6_digestClient 38 = .ok (.invokevirtual 181, 3) := by decide +kernel
theorem dX6_digestClient_41 : decode cX6_digestClient 41 = .ok (.pop, 1) := by decide +kernel
theorem dX6_digestClient_42 : decode cX6_digestClient 42 = .ok (.iconst 0, 1) := by decide +kernel
theorem dX6_digestClient_43 : decode cX6_digestClient 43 = .ok (.istore 6, 2) := by decide +kernel
theorem dX6_digestClient_45 : decode cX6_digestClient 45 = .ok (.iload 6, 2) := by decide +kernel
theorem dX6_digestClient_47 : decode cX6_digestClient 47 = .ok (.aload_n 0, 1) := by decide +kernel
theorem dX6_digestClient_48 : decode cX6_digestClient 48 = .ok (.getfield 30, 3) := by decide +kernel
theorem dX6_digestClient_51 : decode cX6_digestClient 51 = .ok (.getfield 185, 3) := by decide +kernel
theorem dX6_digestClient_54 : decode cX6_digestClient 54 = .ok (.if_icmp .ge 42, 3) := by decide +kernel
theorem dX6_digestClient_57 : decode cX6_digestClient 57 = .ok (.iload 6, 2) := by decide +kernel
theorem dX6_digestClient_59 : decode cX6_digestClient 59 = .ok (.aload_n 0, 1) := by decide +kernel
theorem dX6_digestClient_60 : decode cX6_digestClient 60 = .ok (.getfield 30, 3) := by decide +kernel
theorem dX6_digestClient_63 : decode cX6_digestClient 63 = .ok (.getfield 188, 3) := by decide +kernel
theorem dX6_digestClient_66 : decode cX6_digestClient 66 = .ok (.arraylength, 1) := by decide +kernel
theorem dX6_digestClient_67 : decode cX6_digestClient 67 = .ok (.if_icmp .ge 29, 3) := by decide +kernel
theorem dX6_digestClient_70 : decode cX6_digestClient 70 = .ok (.lload 4, 2) := by decide +kernel
theorem dX6_digestClient_72 : decode cX6_digestClient 72 = .ok (.ldc2_w 273, 3) := by decide +kernel
theorem dX6_digestClient_75 : decode cX6_digestClient 75 = .ok (.lmul, 1) := by decide +kernel
theorem dX6_digestClient_76 : decode cX6_digestClient 76 = .ok (.aload_n 0, 1) := by decide +kernel
theorem dX6_digestClient_77 : decode cX6_digestClient 77 = .ok (.getfield 30, 3) := by decide +kernel
theorem dX6_digestClient_80 : decode cX6_digestClient 80 = .ok (.getfield 188, 3) := by decide +kernel
theorem dX6_digestClient_83 : decode cX6_digestClient 83 = .ok (.iload 6, 2) := by decide +kernel
theorem dX6_digestClient_85 : decode cX6_digestClient 85 = .ok (.iaload, 1) := by decide +kernel
theorem dX6_digestClient_86 : decode cX6_digestClient 86 = .ok (.i2l, 1) := by decide +kernel
theorem dX6_digestClient_87 : decode cX6_digestClient 87 = .ok (.ladd, 1) := by decide +kernel
theorem dX6_digestClient_88 : decode cX6_digestClient 88 = .ok (.lstore 4, 2) := by decide +kernel
theorem dX6_digestClient_90 : decode cX6_digestClient 90 = .ok (.iinc 6 1, 3) := by decide +kernel
theorem dX6_digestClient_93 : decode cX6_digestClient 93 = .ok (.goto (-48), 3) := by decide +kernel
theorem dX6_digestClient_96 : decode cX6_digestClient 96 = .ok (.iconst 0, 1) := by decide +kernel
theorem dX6_digestClient_97 : decode cX6_digestClient 97 = .ok (.istore 6, 2) := by decide +kernel
theorem dX6_digestClient_99 : decode cX6_digestClient 99 = .ok (.iload 6, 2) := by decide +kernel
theorem dX6_digestClient_101 : decode cX6_digestClient 101 = .ok (.bipush 6, 2) := by decide +kernel
theorem dX6_digestClient_103 : decode cX6_digestClient 103 = .ok (.if_icmp .ge 42, 3) := by decide +kernel
theorem dX6_digestClient_106 : decode cX6_digestClient 106 = .ok (.aload_n 3, 1) := by decide +kernel
theorem dX6_digestClient_107 : decode cX6_digestClient 107 = .ok (.getfield 141, 3) := by decide +kernel
theorem dX6_digestClient_110 : decode cX6_digestClient 110 = .ok (.iload 6, 2) := by decide +kernel
theorem dX6_digestClient_112 : decode cX6_digestClient 112 = .ok (.invokevirtual 145, 3) := by decide +kernel
theorem dX6_digestClient_115 : decode cX6_digestClient 115 = .ok (.astore 7, 2) := by decide +kernel
theorem dX6_digestClient_117 : decode cX6_digestClient 117 = .ok (.aload 7, 2) := by decide +kernel
theorem dX6_digestClient_119 : decode cX6_digestClient 119 = .ok (.ifnull 20, 3) := by decide +kernel
theorem dX6_digestClient_122 : decode cX6_digestClient 122 = .ok (.lload 4, 2) := by decide +kernel
theorem dX6_digestClient_124 : decode cX6_digestClient 124 = .ok (.ldc2_w 273, 3) := by decide +kernel
theorem dX6_digestClient_127 : decode cX6_digestClient 127 = .ok (.lmul, 1) := by decide +kernel
theorem dX6_digestClient_128 : decode cX6_digestClient 128 = .ok (.aload_n 0, 1) := by decide +kernel
theorem dX6_digestClient_129 : decode cX6_digestClient 129 = .ok (.aload_n 3, 1) := by decide +kernel
theorem dX6_digestClient_130 : decode cX6_digestClient 130 = .ok (.aload 7, 2) := by decide +kernel
theorem dX6_digestClient_132 : decode cX6_digestClient 132 = .ok (.invokevirtual 205, 3) := by decide +kernel
theorem dX6_digestClient_135 : decode cX6_digestClient 135 = .ok (.i2l, 1) := by decide +kernel
theorem dX6_digestClient_136 : decode cX6_digestClient 136 = .ok (.ladd, 1) := by decide +kernel
theorem dX6_digestClient_137 : decode cX6_digestClient 137 = .ok (.lstore 4, 2) := by decide +kernel
theorem dX6_digestClient_139 : decode cX6_digestClient 139 = .ok (.iinc 6 1, 3) := by decide +kernel
theorem dX6_digestClient_142 : decode cX6_digestClient 142 = .ok (.goto (-43), 3) := by decide +kernel
theorem dX6_digestClient_145 : decode cX6_digestClient 145 = .ok (.lload 4, 2) := by decide +kernel
theorem dX6_digestClient_147 : decode cX6_digestClient 147 = .ok (.ldc2_w 273, 3) := by decide +kernel
theorem dX6_digestClient_150 : decode cX6_digestClient 150 = .ok (.lmul, 1) := by decide +kernel
theorem dX6_digestClient_151 : decode cX6_digestClient 151 = .ok (.aload_n 0, 1) := by decide +kernel
theorem dX6_digestClient_152 : decode cX6_digestClient 152 = .ok (.aload_n 3, 1) := by decide +kernel
theorem dX6_digestClient_153 : decode cX6_digestClient 153 = .ok (.iconst 0, 1) := by decide +kernel
theorem dX6_digestClient_154 : decode cX6_digestClient 154 = .ok (.invokevirtual 257, 3) := by decide +kernel
theorem dX6_digestClient_157 : decode cX6_digestClient 157 = .ok (.i2l, 1) := by decide +kernel
theorem dX6_digestClient_158 : decode cX6_digestClient 158 = .ok (.ladd, 1) := by decide +kernel
theorem dX6_digestClient_159 : decode cX6_digestClient 159 = .ok (.lstore 4, 2) := by decide +kernel
theorem dX6_digestClient_161 : decode cX6_digestClient 161 = .ok (.lload 4, 2) := by decide +kernel
theorem dX6_digestClient_163 : decode cX6_digestClient 163 = .ok (.ldc2_w 273, 3) := by decide +kernel
theorem dX6_digestClient_166 : decode cX6_digestClient 166 = .ok (.lmul, 1) := by decide +kernel
theorem dX6_digestClient_167 : decode cX6_digestClient 167 = .ok (.aload_n 0, 1) := by decide +kernel
theorem dX6_digestClient_168 : decode cX6_digestClient 168 = .ok (.aload_n 3, 1) := by decide +kernel
theorem dX6_digestClient_169 : decode cX6_digestClient 169 = .ok (.bipush 30, 2) := by decide +kernel
theorem dX6_digestClient_171 : decode cX6_digestClient 171 = .ok (.invokevirtual 257, 3) := by decide +kernel
theorem dX6_digestClient_174 : decode cX6_digestClient 174 = .ok (.i2l, 1) := by decide +kernel
theorem dX6_digestClient_175 : decode cX6_digestClient 175 = .ok (.ladd, 1) := by decide +kernel
theorem dX6_digestClient_176 : decode cX6_digestClient 176 = .ok (.lstore 4, 2) := by decide +kernel
theorem dX6_digestClient_178 : decode cX6_digestClient 178 = .ok (.lload 4, 2) := by decide +kernel
theorem dX6_digestClient_180 : decode cX6_digestClient 180 = .ok (.ldc2_w 273, 3) := by decide +kernel
theorem dX6_digestClient_183 : decode cX6_digestClient 183 = .ok (.lmul, 1) := by decide +kernel
theorem dX6_digestClient_184 : decode cX6_digestClient 184 = .ok (.aload_n 0, 1) := by decide +kernel
theorem dX6_digestClient_185 : decode cX6_digestClient 185 = .ok (.aload_n 3, 1) := by decide +kernel
theorem dX6_digestClient_186 : decode cX6_digestClient 186 = .ok (.invokevirtual 263, 3) := by decide +kernel
theorem dX6_digestClient_189 : decode cX6_digestClient 189 = .ok (.i2l, 1) := by decide +kernel
theorem dX6_digestClient_190 : decode cX6_digestClient 190 = .ok (.ladd, 1) := by decide +kernel
theorem dX6_digestClient_191 : decode cX6_digestClient 191 = .ok (.lreturn, 1) := by decide +kernel
end
section
theorem dJ6_bitCount_0f7a4_0 : decode cJ6_bitCount_0f7a4 0 = .ok (.iload_n 0, 1) := by decide +kernel
theorem dJ6_bitCount_0f7a4_1 : decode cJ6_bitCount_0f7a4 1 = .ok (.iload_n 0, 1) := by decide +kernel
theorem dJ6_bitCount_0f7a4_2 : decode cJ6_bitCount_0f7a4 2 = .ok (.iconst 1, 1) := by decide +kernel
theorem dJ6_bitCount_0f7a4_3 : decode cJ6_bitCount_0f7a4 3 = .ok (.iushr, 1) := by decide +kernel
theorem dJ6_bitCount_0f7a4_4 : decode cJ6_bitCount_0f7a4 4 = .ok (.ldc_w 265, 3) := by decide +kernel
theorem dJ6_bitCount_0f7a4_7 : decode cJ6_bitCount_0f7a4 7 = .ok (.iand, 1) := by decide +kernel
theorem dJ6_bitCount_0f7a4_8 : decode cJ6_bitCount_0f7a4 8 = .ok (.isub, 1) := by decide +kernel
theorem dJ6_bitCount_0f7a4_9 : decode cJ6_bitCount_0f7a4 9 = .ok (.istore_n 0, 1) := by decide +kernel
theorem dJ6_bitCount_0f7a4_10 : decode cJ6_bitCount_0f7a4 10 = .ok (.iload_n 0, 1) := by decide +kernel
theorem dJ6_bitCount_0f7a4_11 : decode cJ6_bitCount_0f7a4 11 = .ok (.ldc_w 266, 3) := by decide +kernel
theorem dJ6_bitCount_0f7a4_14 : decode cJ6_bitCount_0f7a4 14 = .ok (.iand, 1) := by decide +kernel
theorem dJ6_bitCount_0f7a4_15 : decode cJ6_bitCount_0f7a4 15 = .ok (.iload_n 0, 1) := by decide +kernel
theorem dJ6_bitCount_0f7a4_16 : decode cJ6_bitCount_0f7a4 16 = .ok (.iconst 2, 1) := by decide +kernel
theorem dJ6_bitCount_0f7a4_17 : decode cJ6_bitCount_0f7a4 17 = .ok (.iushr, 1) := by decide +kernel
theorem dJ6_bitCount_0f7a4_18 : decode cJ6_bitCount_0f7a4 18 = .ok (.ldc_w 266, 3) := by decide +kernel
theorem dJ6_bitCount_0f7a4_21 : decode cJ6_bitCount_0f7a4 21 = .ok (.iand, 1) := by decide +kernel
theorem dJ6_bitCount_0f7a4_22 : decode cJ6_bitCount_0f7a4 22 = .ok (.iadd, 1) := by decide +kernel
theorem dJ6_bitCount_0f7a4_23 : decode cJ6_bitCount_0f7a4 23 = .ok (.istore_n 0, 1) := by decide +kernel
theorem dJ6_bitCount_0f7a4_24 : decode cJ6_bitCount_0f7a4 24 = .ok (.iload_n 0, 1) := by decide +kernel
theorem dJ6_bitCount_0f7a4_25 : decode cJ6_bitCount_0f7a4 25 = .ok (.iload_n 0, 1) := by decide +kernel
theorem dJ6_bitCount_0f7a4_26 : decode cJ6_bitCount_0f7a4 26 = .ok (.iconst 4, 1) := by decide +kernel
theorem dJ6_bitCount_0f7a4_27 : decode cJ6_bitCount_0f7a4 27 = .ok (.iushr, 1) := by decide +kernel
theorem dJ6_bitCount_0f7a4_28 : decode cJ6_bitCount_0f7a4 28 = .ok (.iadd, 1) := by decide +kernel
theorem dJ6_bitCount_0f7a4_29 : decode cJ6_bitCount_0f7a4 29 = .ok (.ldc_w 267, 3) := by decide +kernel
theorem dJ6_bitCount_0f7a4_32 : decode cJ6_bitCount_0f7a4 32 = .ok (.iand, 1) := by decide +kernel
theorem dJ6_bitCount_0f7a4_33 : decode cJ6_bitCount_0f7a4 33 = .ok (.istore_n 0, 1) := by decide +kernel
theorem dJ6_bitCount_0f7a4_34 : decode cJ6_bitCount_0f7a4 34 = .ok (.iload_n 0, 1) := by decide +kernel
theorem dJ6_bitCount_0f7a4_35 : decode cJ6_bitCount_0f7a4 35 = .ok (.iload_n 0, 1) := by decide +kernel
theorem dJ6_bitCount_0f7a4_36 : decode cJ6_bitCount_0f7a4 36 = .ok (.bipush 8, 2) := by decide +kernel
theorem dJ6_bitCount_0f7a4_38 : decode cJ6_bitCount_0f7a4 38 = .ok (.iushr, 1) := by decide +kernel
theorem dJ6_bitCount_0f7a4_39 : decode cJ6_bitCount_0f7a4 39 = .ok (.iadd, 1) := by decide +kernel
theorem dJ6_bitCount_0f7a4_40 : decode cJ6_bitCount_0f7a4 40 = .ok (.istore_n 0, 1) := by decide +kernel
theorem dJ6_bitCount_0f7a4_41 : decode cJ6_bitCount_0f7a4 41 = .ok (.iload_n 0, 1) := by decide +kernel
theorem dJ6_bitCount_0f7a4_42 : decode cJ6_bitCount_0f7a4 42 = .ok (.iload_n 0, 1) := by decide +kernel
theorem dJ6_bitCount_0f7a4_43 : decode cJ6_bitCount_0f7a4 43 = .ok (.bipush 16, 2) := by decide +kernel
theorem dJ6_bitCount_0f7a4_45 : decode cJ6_bitCount_0f7a4 45 = .ok (.iushr, 1) := by decide +kernel
theorem dJ6_bitCount_0f7a4_46 : decode cJ6_bitCount_0f7a4 46 = .ok (.iadd, 1) := by decide +kernel
theorem dJ6_bitCount_0f7a4_47 : decode cJ6_bitCount_0f7a4 47 = .ok (.istore_n 0, 1) := by decide +kernel
theorem dJ6_bitCount_0f7a4_48 : decode cJ6_bitCount_0f7a4 48 = .ok (.iload_n 0, 1) := by decide +kernel
theorem dJ6_bitCount_0f7a4_49 : decode cJ6_bitCount_0f7a4 49 = .ok (.bipush 63, 2) := by decide +kernel
theorem dJ6_bitCount_0f7a4_51 : decode cJ6_bitCount_0f7a4 51 = .ok (.iand, 1) := by decide +kernel
theorem dJ6_bitCount_0f7a4_52 : decode cJ6_bitCount_0f7a4 52 = .ok (.ireturn, 1) := by decide +kernel
theorem dJ7_fill_53178_0 : decode cJ7_fill_53178 0 = .ok (.iconst 0, 1) := by decide +kernel
theorem dJ7_fill_53178_1 : decode cJ7_fill_53178 1 = .ok (.istore_n 2, 1) := by decide +kernel
theorem dJ7_fill_53178_2 : decode cJ7_fill_53178 2 = .ok (.aload_n 0, 1) := by decide +kernel
theorem dJ7_fill_53178_3 : decode cJ7_fill_53178 3 = .ok (.arraylength, 1) := by decide +kernel
theorem dJ7_fill_53178_4 : decode cJ7_fill_53178 4 = .ok (.istore_n 3, 1) := by decide +kernel
theorem dJ7_fill_53178_5 : decode cJ7_fill_53178 5 = .ok (.iload_n 2, 1) := by decide +kernel
theorem dJ7_fill_53178_6 : decode cJ7_fill_53178 6 = .ok (.iload_n 3, 1) := by decide +kernel
theorem dJ7_fill_53178_7 : decode cJ7_fill_53178 7 = .ok (.if_icmp .ge 13, 3) := by decide +kernel
theorem dJ7_fill_53178_10 : decode cJ7_fill_53178 10 = .ok (.aload_n 0, 1) := by decide +kernel
theorem dJ7_fill_53178_11 : decode cJ7_fill_53178 11 = .ok (.iload_n 2, 1) := by decide +kernel
theorem dJ7_fill_53178_12 : decode cJ7_fill_53178 12 = .ok (.iload_n 1, 1) := by decide +kernel
theorem dJ7_fill_53178_13 : decode cJ7_fill_53178 13 = .ok (.iastore, 1) := by decide +kernel
theorem dJ7_fill_53178_14 : decode cJ7_fill_53178 14 = .ok (.iinc 2 1, 3) := by decide +kernel
theorem dJ7_fill_53178_17 : decode cJ7_fill_53178 17 = .ok (.goto (-12), 3) := by decide +kernel
theorem dJ7_fill_53178_20 : decode cJ7_fill_53178 20 = .ok (.return_, 1) := by decide +kernel
theorem dL_below_0 : decode cL_below 0 = .ok (.iload_n 0, 1) := by decide +kernel
theorem dL_below_1 : decode cL_below 1 = .ok (.ldc 7, 2) := by decide +kernel
theorem dL_below_3 : decode cL_below 3 = .ok (.iand, 1) := by decide +kernel
theorem dL_below_4 : decode cL_below 4 = .ok (.iload_n 1, 1) := by decide +kernel
theorem dL_below_5 : decode cL_below 5 = .ok (.irem, 1) := by decide +kernel
theorem dL_below_6 : decode cL_below 6 = .ok (.ireturn, 1) := by decide +kernel
theorem dL_cell_0 : decode cL_cell 0 = .ok (.iload_n 1, 1) := by decide +kernel
theorem dL_cell_1 : decode cL_cell 1 = .ok (.aload_n 0, 1) := by decide +kernel
theorem dL_cell_2 : decode cL_cell 2 = .ok (.arraylength, 1) := by decide +kernel
theorem dL_cell_3 : decode cL_cell 3 = .ok (.if_icmp .ge 9, 3) := by decide +kernel
theorem dL_cell_6 : decode cL_cell 6 = .ok (.aload_n 0, 1) := by decide +kernel
theorem dL_cell_7 : decode cL_cell 7 = .ok (.iload_n 1, 1) := by decide +kernel
theorem dL_cell_8 : decode cL_cell 8 = .ok (.iaload, 1) := by decide +kernel
theorem dL_cell_9 : decode cL_cell 9 = .ok (.goto 9, 3) := by decide +kernel
theorem dL_cell_12 : decode cL_cell 12 = .ok (.ldc 8, 2) := by decide +kernel
theorem dL_cell_14 : decode cL_cell 14 = .ok (.iload_n 1, 1) := by decide +kernel
theorem dL_cell_15 : decode cL_cell 15 = .ok (.iconst 3, 1) := by decide +kernel
theorem dL_cell_16 : decode cL_cell 16 = .ok (.iadd, 1) := by decide +kernel
theorem dL_cell_17 : decode cL_cell 17 = .ok (.imul, 1) := by decide +kernel
theorem dL_cell_18 : decode cL_cell 18 = .ok (.ireturn, 1) := by decide +kernel
theorem dL_law_0 : decode cL_law 0 = .ok (.new 9, 3) := by decide +kernel
theorem dL_law_3 : decode cL_law 3 = .ok (.dup, 1) := by decide +kernel
theorem dL_law_4 : decode cL_law 4 = .ok (.invokespecial 11, 3) := by decide +kernel
theorem dL_law_7 : decode cL_law 7 = .ok (.astore_n 1, 1) := by decide +kernel
theorem dL_law_8 : decode cL_law 8 = .ok (.aload_n 1, 1) := by decide +kernel
theorem dL_law_9 : decode cL_law 9 = .ok (.invokevirtual 12, 3) := by decide +kernel
theorem dL_law_12 : decode cL_law 12 = .ok (.ifCond .eq 5, 3) := by decide +kernel
theorem dL_law_15 : decode cL_law 15 = .ok (.iconst 0, 1) := by decide +kernel
theorem dL_law_16 : decode cL_law 16 = .ok (.ireturn, 1) := by decide +kernel
theorem dL_law_17 : decode cL_law 17 = .ok (.iconst 2, 1) := by decide +kernel
theorem dL_law_18 : decode cL_law 18 = .ok (.aload_n 0, 1) := by decide +kernel
theorem dL_law_19 : decode cL_law 19 = .ok (.iconst 0, 1) := by decide +kernel
theorem dL_law_20 : decode cL_law 20 = .ok (.invokestatic 16, 3) := by decide +kernel
theorem dL_law_23 : decode cL_law 23 = .ok (.iconst 4, 1) := by decide +kernel
theorem dL_law_24 : decode cL_law 24 = .ok (.invokestatic 22, 3) := by decide +kernel
theorem dL_law_27 : decode cL_law 27 = .ok (.iadd, 1) := by decide +kernel
theorem dL_law_28 : decode cL_law 28 = .ok (.istore_n 2, 1) := by decide +kernel
theorem dL_law_29 : decode cL_law 29 = .ok (.iload_n 2, 1) := by decide +kernel
theorem dL_law_30 : decode cL_law 30 = .ok (.newarray .int, 2) := by decide +kernel
theorem dL_law_32 : decode cL_law 32 = .ok (.astore_n 3, 1) := by decide +kernel
theorem dL_law_33 : decode cL_law 33 = .ok (.iload_n 2, 1) := by decide +kernel
theorem dL_law_34 : decode cL_law 34 = .ok (.newarray .int, 2) := by decide +kernel
theorem dL_law_36 : decode cL_law 36 = .ok (.astore 4, 2) := by decide +kernel
theorem dL_law_38 : decode cL_law 38 = .ok (.iconst 0, 1) := by decide +kernel
theorem dL_law_39 : decode cL_law 39 = .ok (.istore 5, 2) := by decide +kernel
theorem dL_law_41 : decode cL_law 41 = .ok (.iload 5, 2) := by decide +kernel
theorem dL_law_43 : decode cL_law 43 = .ok (.iload_n 2, 1) := by decide +kernel
theorem dL_law_44 : decode cL_law 44 = .ok (.if_icmp .ge 157, 3) := by decide +kernel
theorem dL_law_47 : decode cL_law 47 = .ok (.aload_n 3, 1) := by decide +kernel
theorem dL_law_48 : decode cL_law 48 = .ok (.iload 5, 2) := by decide +kernel
theorem dL_law_50 : decode cL_law 50 = .ok (.aload_n 0, 1) := by decide +kernel
theorem dL_law_51 : decode cL_law 51 = .ok (.iload 5, 2) := by decide +kernel
theorem dL_law_53 : decode cL_law 53 = .ok (.invokestatic 16, 3) := by decide +kernel
theorem dL_law_56 : decode cL_law 56 = .ok (.sipush 256, 3) := by decide +kernel
theorem dL_law_59 : decode cL_law 59 = .ok (.invokestatic 22, 3) := by decide +kernel
theorem dL_law_62 : decode cL_law 62 = .ok (.iload 5, 2) := by decide +kernel
theorem dL_law_64 : decode cL_law 64 = .ok (.ifCond .ne 9, 3) := by decide +kernel
theorem dL_law_67 : decode cL_law 67 = .ok (.sipush 255, 3) := by decide +kernel
theorem dL_law_70 : decode cL_law 70 = .ok (.goto 4, 3) := by decide +kernel
theorem dL_law_73 : decode cL_law 73 = .ok (.iconst 1, 1) := by decide +kernel
theorem dL_law_74 : decode cL_law 74 = .ok (.ior, 1) := by decide +kernel
theorem dL_law_75 : decode cL_law 75 = .ok (.iastore, 1) := by decide +kernel
theorem dL_law_76 : decode cL_law 76 = .ok (.aload 4, 2) := by decide +kernel
theorem dL_law_78 : decode cL_law 78 = .ok (.iload 5, 2) := by decide +kernel
theorem dL_law_80 : decode cL_law 80 = .ok (.aload_n 3, 1) := by decide +kernel
theorem dL_law_81 : decode cL_law 81 = .ok (.iload 5, 2) := by decide +kernel
theorem dL_law_83 : decode cL_law 83 = .ok (.iaload, 1) := by decide +kernel
theorem dL_law_84 : decode cL_law 84 = .ok (.aload_n 0, 1) := by decide +kernel
theorem dL_law_85 : decode cL_law 85 = .ok (.iload 5, 2) := by decide +kernel
theorem dL_law_87 : decode cL_law 87 = .ok (.invokestatic 16, 3) := by decide +kernel
theorem dL_law_90 : decode cL_law 90 = .ok (.iconst 3, 1) := by decide +kernel
theorem dL_law_91 : decode cL_law 91 = .ok (.ishr, 1) := by decide +kernel
theorem dL_law_92 : decode cL_law 92 = .ok (.sipush 256, 3) := by decide +kernel
theorem dL_law_95 : decode cL_law 95 = .ok (.invokestatic 22, 3) := by decide +kernel
theorem dL_law_98 : decode cL_law 98 = .ok (.iand, 1) := by decide +kernel
theorem dL_law_99 : decode cL_law 99 = .ok (.aload_n 0, 1) := by decide +kernel
theorem dL_law_100 : decode cL_law 100 = .ok (.iload 5, 2) := by decide +kernel
theorem dL_law_102 : decode cL_law 102 = .ok (.iconst 1, 1) := by decide +kernel
theorem dL_law_103 : decode cL_law 103 = .ok (.iadd, 1) := by decide +kernel
theorem dL_law_104 : decode cL_law 104 = .ok (.invokestatic 16, 3) := by decide +kernel
theorem dL_law_107 : decode cL_law 107 = .ok (.sipush 256, 3) := by decide +kernel
theorem dL_law_110 : decode cL_law 110 = .ok (.invokestatic 22, 3) := by decide +kernel
theorem dL_law_113 : decode cL_law 113 = .ok (.iand, 1) := by decide +kernel
theorem dL_law_114 : decode cL_law 114 = .ok (.iastore, 1) := by decide +kernel
theorem dL_law_115 : decode cL_law 115 = .ok (.iconst 0, 1) := by decide +kernel
theorem dL_law_116 : decode cL_law 116 = .ok (.istore 6, 2) := by decide +kernel
theorem dL_law_118 : decode cL_law 118 = .ok (.iconst 0, 1) := by decide +kernel
theorem dL_law_119 : decode cL_law 119 = .ok (.istore 7, 2) := by decide +kernel
theorem dL_law_121 : decode cL_law 121 = .ok (.iload 7, 2) := by decide +kernel
theorem dL_law_123 : decode cL_law 123 = .ok (.iload 5, 2) := by decide +kernel
theorem dL_law_125 : decode cL_law 125 = .ok (.if_icmp .ge 49, 3) := by decide +kernel
theorem dL_law_128 : decode cL_law 128 = .ok (.iload 6, 2) := by decide +kernel
theorem dL_law_130 : decode cL_law 130 = .ok (.aload_n 3, 1) := by decide +kernel
theorem dL_law_131 : decode cL_law 131 = .ok (.iload 7, 2) := by decide +kernel
theorem dL_law_133 : decode cL_law 133 = .ok (.iaload, 1) := by decide +kernel
theorem dL_law_134 : decode cL_law 134 = .ok (.aload_n 3, 1) := by decide +kernel
theorem dL_law_135 : decode cL_law 135 = .ok (.iload 5, 2) := by decide +kernel
theorem dL_law_137 : decode cL_law 137 = .ok (.iaload, 1) := by decide +kernel
theorem dL_law_138 : decode cL_law 138 = .ok (.iconst (-1), 1) := by decide +kernel
theorem dL_law_139 : decode cL_law 139 = .ok (.ixor, 1) := by decide +kernel
theorem dL_law_140 : decode cL_law 140 = .ok (.iand, 1) := by decide +kernel
theorem dL_law_141 : decode cL_law 141 = .ok (.ifCond .ne 23, 3) := by decide +kernel
theorem dL_law_144 : decode cL_law 144 = .ok (.aload 4, 2) := by decide +kernel
theorem dL_law_146 : decode cL_law 146 = .ok (.iload 5, 2) := by decide +kernel
theorem dL_law_148 : decode cL_law 148 = .ok (.iaload, 1) := by decide +kernel
theorem dL_law_149 : decode cL_law 149 = .ok (.aload 4, 2) := by decide +kernel
theorem dL_law_151 : decode cL_law 151 = .ok (.iload 7, 2) := by decide +kernel
theorem dL_law_153 : decode cL_law 153 = .ok (.iaload, 1) := by decide +kernel
theorem dL_law_154 : decode cL_law 154 = .ok (.iconst (-1), 1) := by decide +kernel
theorem dL_law_155 : decode cL_law 155 = .ok (.ixor, 1) := by decide +kernel
theorem dL_law_156 : decode cL_law 156 = .ok (.iand, 1) := by decide +kernel
theorem dL_law_157 : decode cL_law 157 = .ok (.ifCond .ne 7, 3) := by decide +kernel
theorem dL_law_160 : decode cL_law 160 = .ok (.iconst 1, 1) := by decide +kernel
theorem dL_law_161 : decode cL_law 161 = .ok (.goto 4, 3) := by decide +kernel
theorem dL_law_164 : decode cL_law 164 = .ok (.iconst 0, 1) := by decide +kernel
theorem dL_law_165 : decode cL_law 165 = .ok (.iadd, 1) := by decide +kernel
theorem dL_law_166 : decode cL_law 166 = .ok (.istore 6, 2) := by decide +kernel
theorem dL_law_168 : decode cL_law 168 = .ok (.iinc 7 1, 3) := by decide +kernel
theorem dL_law_171 : decode cL_law 171 = .ok (.goto (-50), 3) := by decide +kernel
theorem dL_law_174 : decode cL_law 174 = .ok (.aload_n 1, 1) := by decide +kernel
theorem dL_law_175 : decode cL_law 175 = .ok (.iconst 0, 1) := by decide +kernel
theorem dL_law_176 : decode cL_law 176 = .ok (.aload_n 3, 1) := by decide +kernel
theorem dL_law_177 : decode cL_law 177 = .ok (.iload 5, 2) := by decide +kernel
theorem dL_law_179 : decode cL_law 179 = .ok (.iaload, 1) := by decide +kernel
theorem dL_law_180 : decode cL_law 180 = .ok (.aload 4, 2) := by decide +kernel
theorem dL_law_182 : decode cL_law 182 = .ok (.iload 5, 2) := by decide +kernel
theorem dL_law_184 : decode cL_law 184 = .ok (.iaload, 1) := by decide +kernel
theorem dL_law_185 : decode cL_law 185 = .ok (.invokevirtual 26, 3) := by decide +kernel
theorem dL_law_188 : decode cL_law 188 = .ok (.iload 6, 2) := by decide +kernel
theorem dL_law_190 : decode cL_law 190 = .ok (.if_icmp .eq 5, 3) := by decide +kernel
theorem dL_law_193 : decode cL_law 193 = .ok (.iconst 0, 1) := by decide +kernel
theorem dL_law_194 : decode cL_law 194 = .ok (.ireturn, 1) := by decide +kernel
theorem dL_law_195 : decode cL_law 195 = .ok (.iinc 5 1, 3) := by decide +kernel
theorem dL_law_198 : decode cL_law 198 = .ok (.goto (-157), 3) := by decide +kernel
theorem dL_law_201 : decode cL_law 201 = .ok (.iconst 2, 1) := by decide +kernel
theorem dL_law_202 : decode cL_law 202 = .ok (.aload_n 0, 1) := by decide +kernel
theorem dL_law_203 : decode cL_law 203 = .ok (.iconst 1, 1) := by decide +kernel
theorem dL_law_204 : decode cL_law 204 = .ok (.invokestatic 16, 3) := by decide +kernel
theorem dL_law_207 : decode cL_law 207 = .ok (.bipush 6, 2) := by decide +kernel
theorem dL_law_209 : decode cL_law 209 = .ok (.invokestatic 22, 3) := by decide +kernel
theorem dL_law_212 : decode cL_law 212 = .ok (.iadd, 1) := by decide +kernel
theorem dL_law_213 : decode cL_law 213 = .ok (.istore 5, 2) := by decide +kernel
theorem dL_law_215 : decode cL_law 215 = .ok (.iconst 0, 1) := by decide +kernel
theorem dL_law_216 : decode cL_law 216 = .ok (.istore 6, 2) := by decide +kernel
theorem dL_law_218 : decode cL_law 218 = .ok (.iload 6, 2) := by decide +kernel
theorem dL_law_220 : decode cL_law 220 = .ok (.iload 5, 2) := by decide +kernel
theorem dL_law_222 : decode cL_law 222 = .ok (.if_icmp .ge 72, 3) := by decide +kernel
theorem dL_law_225 : decode cL_law 225 = .ok (.aload_n 0, 1) := by decide +kernel
theorem dL_law_226 : decode cL_law 226 = .ok (.iload 6, 2) := by decide +kernel
theorem dL_law_228 : decode cL_law 228 = .ok (.invokestatic 16, 3) := by decide +kernel
theorem dL_law_231 : decode cL_law 231 = .ok (.iconst 4, 1) := by decide +kernel
theorem dL_law_232 : decode cL_law 232 = .ok (.ishr, 1) := by decide +kernel
theorem dL_law_233 : decode cL_law 233 = .ok (.iload_n 2, 1) := by decide +kernel
theorem dL_law_234 : decode cL_law 234 = .ok (.invokestatic 22, 3) := by decide +kernel
theorem dL_law_237 : decode cL_law 237 = .ok (.istore 7, 2) := by decide +kernel
theorem dL_law_239 : decode cL_law 239 = .ok (.aload_n 1, 1) := by decide +kernel
theorem dL_law_240 : decode cL_law 240 = .ok (.aload_n 0, 1) := by decide +kernel
theorem dL_law_241 : decode cL_law 241 = .ok (.iload 6, 2) := by decide +kernel
theorem dL_law_243 : decode cL_law 243 = .ok (.invokestatic 16, 3) := by decide +kernel
theorem dL_law_246 : decode cL_law 246 = .ok (.iconst 5, 1) := by decide +kernel
theorem dL_law_247 : decode cL_law 247 = .ok (.invokestatic 22, 3) := by decide +kernel
theorem dL_law_250 : decode cL_law 250 = .ok (.iconst 0, 1) := by decide +kernel
theorem dL_law_251 : decode cL_law 251 = .ok (.iload 7, 2) := by decide +kernel
theorem dL_law_253 : decode cL_law 253 = .ok (.aload_n 0, 1) := by decide +kernel
theorem dL_law_254 : decode cL_law 254 = .ok (.iload 6, 2) := by decide +kernel
theorem dL_law_256 : decode cL_law 256 = .ok (.invokestatic 16, 3) := by decide +kernel
theorem dL_law_259 : decode cL_law 259 = .ok (.iconst 2, 1) := by decide +kernel
theorem dL_law_260 : decode cL_law 260 = .ok (.ishr, 1) := by decide +kernel
theorem dL_law_261 : decode cL_law 261 = .ok (.sipush 256, 3) := by decide +kernel
theorem dL_law_264 : decode cL_law 264 = .ok (.invokestatic 22, 3) := by decide +kernel
theorem dL_law_267 : decode cL_law 267 = .ok (.aload_n 3, 1) := by decide +kernel
theorem dL_law_268 : decode cL_law 268 = .ok (.iload 7, 2) := by decide +kernel
theorem dL_law_270 : decode cL_law 270 = .ok (.iaload, 1) := by decide +kernel
theorem dL_law_271 : decode cL_law 271 = .ok (.iand, 1) := by decide +kernel
theorem dL_law_272 : decode cL_law 272 = .ok (.aload 4, 2) := by decide +kernel
theorem dL_law_274 : decode cL_law 274 = .ok (.iload 7, 2) := by decide +kernel
theorem dL_law_276 : decode cL_law 276 = .ok (.iaload, 1) := by decide +kernel
theorem dL_law_277 : decode cL_law 277 = .ok (.ior, 1) := by decide +kernel
theorem dL_law_278 : decode cL_law 278 = .ok (.invokevirtual 30, 3) := by decide +kernel
theorem dL_law_281 : decode cL_law 281 = .ok (.iload 6, 2) := by decide +kernel
theorem dL_law_283 : decode cL_law 283 = .ok (.if_icmp .eq 5, 3) := by decide +kernel
theorem dL_law_286 : decode cL_law 286 = .ok (.iconst 0, 1) := by decide +kernel
theorem dL_law_287 : decode cL_law 287 = .ok (.ireturn, 1) := by decide +kernel
theorem dL_law_288 : decode cL_law 288 = .ok (.iinc 6 1, 3) := by decide +kernel
theorem dL_law_291 : decode cL_law 291 = .ok (.goto (-73), 3) := by decide +kernel
theorem dL_law_294 : decode cL_law 294 = .ok (.iconst 0, 1) := by decide +kernel
theorem dL_law_295 : decode cL_law 295 = .ok (.istore 6, 2) := by decide +kernel
theorem dL_law_297 : decode cL_law 297 = .ok (.iload 6, 2) := by decide +kernel
theorem dL_law_299 : decode cL_law 299 = .ok (.bipush 6, 2) := by decide +kernel
theorem dL_law_301 : decode cL_law 301 = .ok (.if_icmp .ge 75, 3) := by decide +kernel
theorem dL_law_304 : decode cL_law 304 = .ok (.aload_n 0, 1) := by decide +kernel
theorem dL_law_305 : decode cL_law 305 = .ok (.iload 6, 2) := by decide +kernel
theorem dL_law_307 : decode cL_law 307 = .ok (.iconst 3, 1) := by decide +kernel
theorem dL_law_308 : decode cL_law 308 = .ok (.iadd, 1) := by decide +kernel
theorem dL_law_309 : decode cL_law 309 = .ok (.invokestatic 16, 3) := by decide +kernel
theorem dL_law_312 : decode cL_law 312 = .ok (.iload_n 2, 1) := by decide +kernel
theorem dL_law_313 : decode cL_law 313 = .ok (.invokestatic 22, 3) := by decide +kernel
theorem dL_law_316 : decode cL_law 316 = .ok (.istore 7, 2) := by decide +kernel
theorem dL_law_318 : decode cL_law 318 = .ok (.iload 7, 2) := by decide +kernel
theorem dL_law_320 : decode cL_law 320 = .ok (.iconst 1, 1) := by decide +kernel
theorem dL_law_321 : decode cL_law 321 = .ok (.iadd, 1) := by decide +kernel
theorem dL_law_322 : decode cL_law 322 = .ok (.aload_n 0, 1) := by decide +kernel
theorem dL_law_323 : decode cL_law 323 = .ok (.iload 6, 2) := by decide +kernel
theorem dL_law_325 : decode cL_law 325 = .ok (.iconst 4, 1) := by decide +kernel
theorem dL_law_326 : decode cL_law 326 = .ok (.iadd, 1) := by decide +kernel
theorem dL_law_327 : decode cL_law 327 = .ok (.invokestatic 16, 3) := by decide +kernel
theorem dL_law_330 : decode cL_law 330 = .ok (.iload_n 2, 1) := by decide +kernel
theorem dL_law_331 : decode cL_law 331 = .ok (.iconst 1, 1) := by decide +kernel
theorem dL_law_332 : decode cL_law 332 = .ok (.isub, 1) := by decide +kernel
theorem dL_law_333 : decode cL_law 333 = .ok (.invokestatic 22, 3) := by decide +kernel
theorem dL_law_336 : decode cL_law 336 = .ok (.iadd, 1) := by decide +kernel
theorem dL_law_337 : decode cL_law 337 = .ok (.iload_n 2, 1) := by decide +kernel
theorem dL_law_338 : decode cL_law 338 = .ok (.irem, 1) := by decide +kernel
theorem dL_law_339 : decode cL_law 339 = .ok (.istore 8, 2) := by decide +kernel
theorem dL_law_341 : decode cL_law 341 = .ok (.aload_n 1, 1) := by decide +kernel
theorem dL_law_342 : decode cL_law 342 = .ok (.iconst 0, 1) := by decide +kernel
theorem dL_law_343 : decode cL_law 343 = .ok (.iload 7, 2) := by decide +kernel
theorem dL_law_345 : decode cL_law 345 = .ok (.iload 8, 2) := by decide +kernel
theorem dL_law_347 : decode cL_law 347 = .ok (.aload 4, 2) := by decide +kernel
theorem dL_law_349 : decode cL_law 349 = .ok (.iload 8, 2) := by decide +kernel
theorem dL_law_351 : decode cL_law 351 = .ok (.iaload, 1) := by decide +kernel
theorem dL_law_352 : decode cL_law 352 = .ok (.sipush 255, 3) := by decide +kernel
theorem dL_law_355 : decode cL_law 355 = .ok (.aload_n 3, 1) := by decide +kernel
theorem dL_law_356 : decode cL_law 356 = .ok (.iload 8, 2) := by decide +kernel
theorem dL_law_358 : decode cL_law 358 = .ok (.iaload, 1) := by decide +kernel
theorem dL_law_359 : decode cL_law 359 = .ok (.isub, 1) := by decide +kernel
theorem dL_law_360 : decode cL_law 360 = .ok (.invokevirtual 34, 3) := by decide +kernel
theorem dL_law_363 : decode cL_law 363 = .ok (.iload 6, 2) := by decide +kernel
theorem dL_law_365 : decode cL_law 365 = .ok (.if_icmp .eq 5, 3) := by decide +kernel
theorem dL_law_368 : decode cL_law 368 = .ok (.iconst 0, 1) := by decide +kernel
theorem dL_law_369 : decode cL_law 369 = .ok (.ireturn, 1) := by decide +kernel
theorem dL_law_370 : decode cL_law 370 = .ok (.iinc 6 1, 3) := by decide +kernel
theorem dL_law_373 : decode cL_law 373 = .ok (.goto (-76), 3) := by decide +kernel
theorem dL_law_376 : decode cL_law 376 = .ok (.iconst 0, 1) := by decide +kernel
theorem dL_law_377 : decode cL_law 377 = .ok (.istore 6, 2) := by decide +kernel
theorem dL_law_379 : decode cL_law 379 = .ok (.iload 6, 2) := by decide +kernel
theorem dL_law_381 : decode cL_law 381 = .ok (.bipush 60, 2) := by decide +kernel
theorem dL_law_383 : decode cL_law 383 = .ok (.if_icmp .ge 354, 3) := by decide +kernel
theorem dL_law_386 : decode cL_law 386 = .ok (.aload_n 0, 1) := by decide +kernel
theorem dL_law_387 : decode cL_law 387 = .ok (.iload 6, 2) := by decide +kernel
theorem dL_law_389 : decode cL_law 389 = .ok (.bipush 16, 2) := by decide +kernel
theorem dL_law_391 : decode cL_law 391 = .ok (.irem, 1) := by decide +kernel
theorem dL_law_392 : decode cL_law 392 = .ok (.invokestatic 16, 3) := by decide +kernel
theorem dL_law_395 : decode cL_law 395 = .ok (.iload 6, 2) := by decide +kernel
theorem dL_law_397 : decode cL_law 397 = .ok (.bipush 16, 2) := by decide +kernel
theorem dL_law_399 : decode cL_law 399 = .ok (.idiv, 1) := by decide +kernel
theorem dL_law_400 : decode cL_law 400 = .ok (.iconst 2, 1) := by decide +kernel
theorem dL_law_401 : decode cL_law 401 = .ok (.imul, 1) := by decide +kernel
theorem dL_law_402 : decode cL_law 402 = .ok (.ishr, 1) := by decide +kernel
theorem dL_law_403 : decode cL_law 403 = .ok (.bipush 7, 2) := by decide +kernel
theorem dL_law_405 : decode cL_law 405 = .ok (.iload 6, 2) := by decide +kernel
theorem dL_law_407 : decode cL_law 407 = .ok (.imul, 1) := by decide +kernel
theorem dL_law_408 : decode cL_law 408 = .ok (.iadd, 1) := by decide +kernel
theorem dL_law_409 : decode cL_law 409 = .ok (.istore 7, 2) := by decide +kernel
theorem dL_law_411 : decode cL_law 411 = .ok (.iload 7, 2) := by decide +kernel
theorem dL_law_413 : decode cL_law 413 = .ok (.iconst 3, 1) := by decide +kernel
theorem dL_law_414 : decode cL_law 414 = .ok (.ishr, 1) := by decide +kernel
theorem dL_law_415 : decode cL_law 415 = .ok (.iload 5, 2) := by decide +kernel
theorem dL_law_417 : decode cL_law 417 = .ok (.invokestatic 22, 3) := by decide +kernel
theorem dL_law_420 : decode cL_law 420 = .ok (.istore 8, 2) := by decide +kernel
theorem dL_law_422 : decode cL_law 422 = .ok (.iload 7, 2) := by decide +kernel
theorem dL_law_424 : decode cL_law 424 = .ok (.iconst 5, 1) := by decide +kernel
theorem dL_law_425 : decode cL_law 425 = .ok (.ishr, 1) := by decide +kernel
theorem dL_law_426 : decode cL_law 426 = .ok (.iload_n 2, 1) := by decide +kernel
theorem dL_law_427 : decode cL_law 427 = .ok (.invokestatic 22, 3) := by decide +kernel
theorem dL_law_430 : decode cL_law 430 = .ok (.istore 9, 2) := by decide +kernel
theorem dL_law_432 : decode cL_law 432 = .ok (.iload 7, 2) := by decide +kernel
theorem dL_law_434 : decode cL_law 434 = .ok (.bipush 7, 2) := by decide +kernel
theorem dL_law_436 : decode cL_law 436 = .ok (.invokestatic 22, 3) := by decide +kernel
theorem dL_law_439 : decode cL_law 439 = .ok (.tableswitch 280 0 4 #[33, 33, 126, 160, 224], 33) := by decide +kernel
theorem dL_law_472 : decode cL_law 472 = .ok (.aload_n 1, 1) := by decide +kernel
theorem dL_law_473 : decode cL_law 473 = .ok (.iload 8, 2) := by decide +kernel
theorem dL_law_475 : decode cL_law 475 = .ok (.iconst 0, 1) := by decide +kernel
theorem dL_law_476 : decode cL_law 476 = .ok (.invokevirtual 38, 3) := by decide +kernel
theorem dL_law_479 : decode cL_law 479 = .ok (.istore 10, 2) := by decide +kernel
theorem dL_law_481 : decode cL_law 481 = .ok (.aload_n 1, 1) := by decide +kernel
theorem dL_law_482 : decode cL_law 482 = .ok (.bipush 7, 2) := by decide +kernel
theorem dL_law_484 : decode cL_law 484 = .ok (.invokevirtual 41, 3) := by decide +kernel
theorem dL_law_487 : decode cL_law 487 = .ok (.aload_n 1, 1) := by decide +kernel
theorem dL_law_488 : decode cL_law 488 = .ok (.bipush 8, 2) := by decide +kernel
theorem dL_law_490 : decode cL_law 490 = .ok (.invokevirtual 41, 3) := by decide +kernel
theorem dL_law_493 : decode cL_law 493 = .ok (.isub, 1) := by decide +kernel
theorem dL_law_494 : decode cL_law 494 = .ok (.istore 11, 2) := by decide +kernel
theorem dL_law_496 : decode cL_law 496 = .ok (.aload_n 1, 1) := by decide +kernel
theorem dL_law_497 : decode cL_law 497 = .ok (.iload 8, 2) := by decide +kernel
theorem dL_law_499 : decode cL_law 499 = .ok (.iconst 1, 1) := by decide +kernel
theorem dL_law_500 : decode cL_law 500 = .ok (.invokevirtual 45, 3) := by decide +kernel
theorem dL_law_503 : decode cL_law 503 = .ok (.iload 10, 2) := by decide +kernel
theorem dL_law_505 : decode cL_law 505 = .ok (.iconst 2, 1) := by decide +kernel
theorem dL_law_506 : decode cL_law 506 = .ok (.if_icmp .ge 7, 3) := by decide +kernel
theorem dL_law_509 : decode cL_law 509 = .ok (.iconst 1, 1) := by decide +kernel
theorem dL_law_510 : decode cL_law 510 = .ok (.goto 4, 3) := by decide +kernel
theorem dL_law_513 : decode cL_law 513 = .ok (.iconst 0, 1) := by decide +kernel
theorem dL_law_514 : decode cL_law 514 = .ok (.if_icmp .ne 49, 3) := by decide +kernel
theorem dL_law_517 : decode cL_law 517 = .ok (.aload_n 1, 1) := by decide +kernel
theorem dL_law_518 : decode cL_law 518 = .ok (.bipush 7, 2) := by decide +kernel
theorem dL_law_520 : decode cL_law 520 = .ok (.invokevirtual 41, 3) := by decide +kernel
theorem dL_law_523 : decode cL_law 523 = .ok (.aload_n 1, 1) := by decide +kernel
theorem dL_law_524 : decode cL_law 524 = .ok (.bipush 8, 2) := by decide +kernel
theorem dL_law_526 : decode cL_law 526 = .ok (.invokevirtual 41, 3) := by decide +kernel
theorem dL_law_529 : decode cL_law 529 = .ok (.isub, 1) := by decide +kernel
theorem dL_law_530 : decode cL_law 530 = .ok (.iload 11, 2) := by decide +kernel
theorem dL_law_532 : decode cL_law 532 = .ok (.iload 10, 2) := by decide +kernel
theorem dL_law_534 : decode cL_law 534 = .ok (.iconst 2, 1) := by decide +kernel
theorem dL_law_535 : decode cL_law 535 = .ok (.if_icmp .ge 7, 3) := by decide +kernel
theorem dL_law_538 : decode cL_law 538 = .ok (.iconst 1, 1) := by decide +kernel
theorem dL_law_539 : decode cL_law 539 = .ok (.goto 4, 3) := by decide +kernel
theorem dL_law_542 : decode cL_law 542 = .ok (.iconst 0, 1) := by decide +kernel
theorem dL_law_543 : decode cL_law 543 = .ok (.iadd, 1) := by decide +kernel
theorem dL_law_544 : decode cL_law 544 = .ok (.if_icmp .ne 19, 3) := by decide +kernel
theorem dL_law_547 : decode cL_law 547 = .ok (.aload_n 1, 1) := by decide +kernel
theorem dL_law_548 : decode cL_law 548 = .ok (.iload 8, 2) := by decide +kernel
theorem dL_law_550 : decode cL_law 550 = .ok (.aload_n 1, 1) := by decide +kernel
theorem dL_law_551 : decode cL_law 551 = .ok (.iload 8, 2) := by decide +kernel
theorem dL_law_553 : decode cL_law 553 = .ok (.iconst 2, 1) := by decide +kernel
theorem dL_law_554 : decode cL_law 554 = .ok (.invokevirtual 48, 3) := by decide +kernel
theorem dL_law_557 : decode cL_law 557 = .ok (.invokevirtual 51, 3) := by decide +kernel
theorem dL_law_560 : decode cL_law 560 = .ok (.ifCond .eq 171, 3) := by decide +kernel
theorem dL_law_563 : decode cL_law 563 = .ok (.iconst 0, 1) := by decide +kernel
theorem dL_law_564 : decode cL_law 564 = .ok (.ireturn, 1) := by decide +kernel
theorem dL_law_565 : decode cL_law 565 = .ok (.aload_n 1, 1) := by decide +kernel
theorem dL_law_566 : decode cL_law 566 = .ok (.iconst 0, 1) := by decide +kernel
theorem dL_law_567 : decode cL_law 567 = .ok (.iload 9, 2) := by decide +kernel
theorem dL_law_569 : decode cL_law 569 = .ok (.iconst 2, 1) := by decide +kernel
theorem dL_law_570 : decode cL_law 570 = .ok (.invokevirtual 54, 3) := by decide +kernel
theorem dL_law_573 : decode cL_law 573 = .ok (.ifCond .ne 158, 3) := by decide +kernel
theorem dL_law_576 : decode cL_law 576 = .ok (.aload_n 1, 1) := by decide +kernel
theorem dL_law_577 : decode cL_law 577 = .ok (.iconst 0, 1) := by decide +kernel
theorem dL_law_578 : decode cL_law 578 = .ok (.iload 9, 2) := by decide +kernel
theorem dL_law_580 : decode cL_law 580 = .ok (.iconst 1, 1) := by decide +kernel
theorem dL_law_581 : decode cL_law 581 = .ok (.iload 7, 2) := by decide +kernel
theorem dL_law_583 : decode cL_law 583 = .ok (.iconst 2, 1) := by decide +kernel
theorem dL_law_584 : decode cL_law 584 = .ok (.ishr, 1) := by decide +kernel
theorem dL_law_585 : decode cL_law 585 = .ok (.iconst 4, 1) := by decide +kernel
theorem dL_law_586 : decode cL_law 586 = .ok (.invokestatic 22, 3) := by decide +kernel
theorem dL_law_589 : decode cL_law 589 = .ok (.iadd, 1) := by decide +kernel
theorem dL_law_590 : decode cL_law 590 = .ok (.invokevirtual 57, 3) := by decide +kernel
theorem dL_law_593 : decode cL_law 593 = .ok (.iconst 5, 1) := by decide +kernel
theorem dL_law_594 : decode cL_law 594 = .ok (.if_icmp .le 137, 3) := by decide +kernel
theorem dL_law_597 : decode cL_law 597 = .ok (.iconst 0, 1) := by decide +kernel
theorem dL_law_598 : decode cL_law 598 = .ok (.ireturn, 1) := by decide +kernel
theorem dL_law_599 : decode cL_law 599 = .ok (.iload 7, 2) := by decide +kernel
theorem dL_law_601 : decode cL_law 601 = .ok (.iconst 2, 1) := by decide +kernel
theorem dL_law_602 : decode cL_law 602 = .ok (.ishr, 1) := by decide +kernel
theorem dL_law_603 : decode cL_law 603 = .ok (.iconst 5, 1) := by decide +kernel
theorem dL_law_604 : decode cL_law 604 = .ok (.invokestatic 22, 3) := by decide +kernel
theorem dL_law_607 : decode cL_law 607 = .ok (.istore 12, 2) := by decide +kernel
theorem dL_law_609 : decode cL_law 609 = .ok (.aload_n 1, 1) := by decide +kernel
theorem dL_law_610 : decode cL_law 610 = .ok (.iload 12, 2) := by decide +kernel
theorem dL_law_612 : decode cL_law 612 = .ok (.iconst 0, 1) := by decide +kernel
theorem dL_law_613 : decode cL_law 613 = .ok (.iload 9, 2) := by decide +kernel
theorem dL_law_615 : decode cL_law 615 = .ok (.invokevirtual 60, 3) := by decide +kernel
theorem dL_law_618 : decode cL_law 618 = .ok (.istore 13, 2) := by decide +kernel
theorem dL_law_620 : decode cL_law 620 = .ok (.iload 13, 2) := by decide +kernel
theorem dL_law_622 : decode cL_law 622 = .ok (.ifCond .le 109, 3) := by decide +kernel
theorem dL_law_625 : decode cL_law 625 = .ok (.aload_n 1, 1) := by decide +kernel
theorem dL_law_626 : decode cL_law 626 = .ok (.iload 12, 2) := by decide +kernel
theorem dL_law_628 : decode cL_law 628 = .ok (.iconst 0, 1) := by decide +kernel
theorem dL_law_629 : decode cL_law 629 = .ok (.iload 9, 2) := by decide +kernel
theorem dL_law_631 : decode cL_law 631 = .ok (.invokevirtual 63, 3) := by decide +kernel
theorem dL_law_634 : decode cL_law 634 = .ok (.iload 13, 2) := by decide +kernel
theorem dL_law_636 : decode cL_law 636 = .ok (.iconst 1, 1) := by decide +kernel
theorem dL_law_637 : decode cL_law 637 = .ok (.if_icmp .le 7, 3) := by decide +kernel
theorem dL_law_640 : decode cL_law 640 = .ok (.iconst 1, 1) := by decide +kernel
theorem dL_law_641 : decode cL_law 641 = .ok (.goto 4, 3) := by decide +kernel
theorem dL_law_644 : decode cL_law 644 = .ok (.iconst 0, 1) := by decide +kernel
theorem dL_law_645 : decode cL_law 645 = .ok (.if_icmp .ne 16, 3) := by decide +kernel
theorem dL_law_648 : decode cL_law 648 = .ok (.aload_n 1, 1) := by decide +kernel
theorem dL_law_649 : decode cL_law 649 = .ok (.iload 12, 2) := by decide +kernel
theorem dL_law_651 : decode cL_law 651 = .ok (.iconst 0, 1) := by decide +kernel
theorem dL_law_652 : decode cL_law 652 = .ok (.iload 9, 2) := by decide +kernel
theorem dL_law_654 : decode cL_law 654 = .ok (.invokevirtual 60, 3) := by decide +kernel
theorem dL_law_657 : decode cL_law 657 = .ok (.iconst 3, 1) := by decide +kernel
theorem dL_law_658 : decode cL_law 658 = .ok (.if_icmp .eq 73, 3) := by decide +kernel
theorem dL_law_661 : decode cL_law 661 = .ok (.iconst 0, 1) := by decide +kernel
theorem dL_law_662 : decode cL_law 662 = .ok (.ireturn, 1) := by decide +kernel
theorem dL_law_663 : decode cL_law 663 = .ok (.aload_n 1, 1) := by decide +kernel
theorem dL_law_664 : decode cL_law 664 = .ok (.iload 8, 2) := by decide +kernel
theorem dL_law_666 : decode cL_law 666 = .ok (.invokevirtual 67, 3) := by decide +kernel
theorem dL_law_669 : decode cL_law 669 = .ok (.istore 14, 2) := by decide +kernel
theorem dL_law_671 : decode cL_law 671 = .ok (.iload 14, 2) := by decide +kernel
theorem dL_law_673 : decode cL_law 673 = .ok (.ifCond .lt 58, 3) := by decide +kernel
theorem dL_law_676 : decode cL_law 676 = .ok (.aload_n 1, 1) := by decide +kernel
theorem dL_law_677 : decode cL_law 677 = .ok (.iconst 0, 1) := by decide +kernel
theorem dL_law_678 : decode cL_law 678 = .ok (.iload 14, 2) := by decide +kernel
theorem dL_law_680 : decode cL_law 680 = .ok (.iconst 2, 1) := by decide +kernel
theorem dL_law_681 : decode cL_law 681 = .ok (.invokevirtual 54, 3) := by decide +kernel
theorem dL_law_684 : decode cL_law 684 = .ok (.ifCond .ne 33, 3) := by decide +kernel
theorem dL_law_687 : decode cL_law 687 = .ok (.aload_n 1, 1) := by decide +kernel
theorem dL_law_688 : decode cL_law 688 = .ok (.iload 8, 2) := by decide +kernel
theorem dL_law_690 : decode cL_law 690 = .ok (.iload 14, 2) := by decide +kernel
theorem dL_law_692 : decode cL_law 692 = .ok (.invokevirtual 70, 3) := by decide +kernel
theorem dL_law_695 : decode cL_law 695 = .ok (.aload_n 1, 1) := by decide +kernel
theorem dL_law_696 : decode cL_law 696 = .ok (.iload 8, 2) := by decide +kernel
theorem dL_law_698 : decode cL_law 698 = .ok (.iconst 3, 1) := by decide +kernel
theorem dL_law_699 : decode cL_law 699 = .ok (.invokevirtual 48, 3) := by decide +kernel
theorem dL_law_702 : decode cL_law 702 = .ok (.if_icmp .ne 15, 3) := by decide +kernel
theorem dL_law_705 : decode cL_law 705 = .ok (.aload_n 1, 1) := by decide +kernel
theorem dL_law_706 : decode cL_law 706 = .ok (.iload 8, 2) := by decide +kernel
theorem dL_law_708 : decode cL_law 708 = .ok (.iconst 2, 1) := by decide +kernel
theorem dL_law_709 : decode cL_law 709 = .ok (.invokevirtual 48, 3) := by decide +kernel
theorem dL_law_712 : decode cL_law 712 = .ok (.iload 14, 2) := by decide +kernel
theorem dL_law_714 : decode cL_law 714 = .ok (.if_icmp .eq 17, 3) := by decide +kernel
theorem dL_law_717 : decode cL_law 717 = .ok (.iconst 0, 1) := by decide +kernel
theorem dL_law_718 : decode cL_law 718 = .ok (.ireturn, 1) := by decide +kernel
theorem dL_law_719 : decode cL_law 719 = .ok (.aload_n 1, 1) := by decide +kernel
theorem dL_law_720 : decode cL_law 720 = .ok (.iload_n 2, 1) := by decide +kernel
theorem dL_law_721 : decode cL_law 721 = .ok (.iload 5, 2) := by decide +kernel
theorem dL_law_723 : decode cL_law 723 = .ok (.invokestatic 73, 3) := by decide +kernel
theorem dL_law_726 : decode cL_law 726 = .ok (.ifCond .ne 5, 3) := by decide +kernel
theorem dL_law_729 : decode cL_law 729 = .ok (.iconst 0, 1) := by decide +kernel
theorem dL_law_730 : decode cL_law 730 = .ok (.ireturn, 1) := by decide +kernel
theorem dL_law_731 : decode cL_law 731 = .ok (.iinc 6 1, 3) := by decide +kernel
theorem dL_law_734 : decode cL_law 734 = .ok (.goto (-355), 3) := by decide +kernel
theorem dL_law_737 : decode cL_law 737 = .ok (.aload_n 1, 1) := by decide +kernel
theorem dL_law_738 : decode cL_law 738 = .ok (.invokevirtual 77, 3) := by decide +kernel
theorem dL_law_741 : decode cL_law 741 = .ok (.lstore 6, 2) := by decide +kernel
theorem dL_law_743 : decode cL_law 743 = .ok (.iconst 0, 1) := by decide +kernel
theorem dL_law_744 : decode cL_law 744 = .ok (.istore 8, 2) := by decide +kernel
theorem dL_law_746 : decode cL_law 746 = .ok (.iload 8, 2) := by decide +kernel
theorem dL_law_748 : decode cL_law 748 = .ok (.iload_n 2, 1) := by decide +kernel
theorem dL_law_749 : decode cL_law 749 = .ok (.if_icmp .ge 115, 3) := by decide +kernel
theorem dL_law_752 : decode cL_law 752 = .ok (.iconst 0, 1) := by decide +kernel
theorem dL_law_753 : decode cL_law 753 = .ok (.istore 9, 2) := by decide +kernel
theorem dL_law_755 : decode cL_law 755 = .ok (.iload 9, 2) := by decide +kernel
theorem dL_law_757 : decode cL_law 757 = .ok (.iload_n 2, 1) := by decide +kernel
theorem dL_law_758 : decode cL_law 758 = .ok (.if_icmp .ge 100, 3) := by decide +kernel
theorem dL_law_761 : decode cL_law 761 = .ok (.aload_n 1, 1) := by decide +kernel
theorem dL_law_762 : decode cL_law 762 = .ok (.iconst 0, 1) := by decide +kernel
theorem dL_law_763 : decode cL_law 763 = .ok (.iload 8, 2) := by decide +kernel
theorem dL_law_765 : decode cL_law 765 = .ok (.iload 9, 2) := by decide +kernel
theorem dL_law_767 : decode cL_law 767 = .ok (.invokevirtual 81, 3) := by decide +kernel
theorem dL_law_770 : decode cL_law 770 = .ok (.ifCond .eq 82, 3) := by decide +kernel
theorem dL_law_773 : decode cL_law 773 = .ok (.iconst 0, 1) := by decide +kernel
theorem dL_law_774 : decode cL_law 774 = .ok (.istore 10, 2) := by decide +kernel
theorem dL_law_776 : decode cL_law 776 = .ok (.iload 10, 2) := by decide +kernel
theorem dL_law_778 : decode cL_law 778 = .ok (.sipush 256, 3) := by decide +kernel
theorem dL_law_781 : decode cL_law 781 = .ok (.if_icmp .ge 71, 3) := by decide +kernel
theorem dL_law_784 : decode cL_law 784 = .ok (.iload 10, 2) := by decide +kernel
theorem dL_law_786 : decode cL_law 786 = .ok (.aload_n 3, 1) := by decide +kernel
theorem dL_law_787 : decode cL_law 787 = .ok (.iload 9, 2) := by decide +kernel
theorem dL_law_789 : decode cL_law 789 = .ok (.iaload, 1) := by decide +kernel
theorem dL_law_790 : decode cL_law 790 = .ok (.ior, 1) := by decide +kernel
theorem dL_law_791 : decode cL_law 791 = .ok (.aload_n 3, 1) := by decide +kernel
theorem dL_law_792 : decode cL_law 792 = .ok (.iload 9, 2) := by decide +kernel
theorem dL_law_794 : decode cL_law 794 = .ok (.iaload, 1) := by decide +kernel
theorem dL_law_795 : decode cL_law 795 = .ok (.if_icmp .ne 51, 3) := by decide +kernel
theorem dL_law_798 : decode cL_law 798 = .ok (.iload 10, 2) := by decide +kernel
theorem dL_law_800 : decode cL_law 800 = .ok (.aload 4, 2) := by decide +kernel
theorem dL_law_802 : decode cL_law 802 = .ok (.iload 9, 2) := by decide +kernel
theorem dL_law_804 : decode cL_law 804 = .ok (.iaload, 1) := by decide +kernel
theorem dL_law_805 : decode cL_law 805 = .ok (.iand, 1) := by decide +kernel
theorem dL_law_806 : decode cL_law 806 = .ok (.aload 4, 2) := by decide +kernel
theorem dL_law_808 : decode cL_law 808 = .ok (.iload 9, 2) := by decide +kernel
theorem dL_law_810 : decode cL_law 810 = .ok (.iaload, 1) := by decide +kernel
theorem dL_law_811 : decode cL_law 811 = .ok (.if_icmp .ne 35, 3) := by decide +kernel
theorem dL_law_814 : decode cL_law 814 = .ok (.iload 10, 2) := by decide +kernel
theorem dL_law_816 : decode cL_law 816 = .ok (.aload_n 3, 1) := by decide +kernel
theorem dL_law_817 : decode cL_law 817 = .ok (.iload 8, 2) := by decide +kernel
theorem dL_law_819 : decode cL_law 819 = .ok (.iaload, 1) := by decide +kernel
theorem dL_law_820 : decode cL_law 820 = .ok (.ior, 1) := by decide +kernel
theorem dL_law_821 : decode cL_law 821 = .ok (.aload_n 3, 1) := by decide +kernel
theorem dL_law_822 : decode cL_law 822 = .ok (.iload 8, 2) := by decide +kernel
theorem dL_law_824 : decode cL_law 824 = .ok (.iaload, 1) := by decide +kernel
theorem dL_law_825 : decode cL_law 825 = .ok (.if_icmp .ne 19, 3) := by decide +kernel
theorem dL_law_828 : decode cL_law 828 = .ok (.iload 10, 2) := by decide +kernel
theorem dL_law_830 : decode cL_law 830 = .ok (.aload 4, 2) := by decide +kernel
theorem dL_law_832 : decode cL_law 832 = .ok (.iload 8, 2) := by decide +kernel
theorem dL_law_834 : decode cL_law 834 = .ok (.iaload, 1) := by decide +kernel
theorem dL_law_835 : decode cL_law 835 = .ok (.iand, 1) := by decide +kernel
theorem dL_law_836 : decode cL_law 836 = .ok (.aload 4, 2) := by decide +kernel
theorem dL_law_838 : decode cL_law 838 = .ok (.iload 8, 2) := by decide +kernel
theorem dL_law_840 : decode cL_law 840 = .ok (.iaload, 1) := by decide +kernel
theorem dL_law_841 : decode cL_law 841 = .ok (.if_icmp .eq 5, 3) := by decide +kernel
theorem dL_law_844 : decode cL_law 844 = .ok (.iconst 0, 1) := by decide +kernel
theorem dL_law_845 : decode cL_law 845 = .ok (.ireturn, 1) := by decide +kernel
theorem dL_law_846 : decode cL_law 846 = .ok (.iinc 10 1, 3) := by decide +kernel
theorem dL_law_849 : decode cL_law 849 = .ok (.goto (-73), 3) := by decide +kernel
theorem dL_law_852 : decode cL_law 852 = .ok (.iinc 9 1, 3) := by decide +kernel
theorem dL_law_855 : decode cL_law 855 = .ok (.goto (-100), 3) := by decide +kernel
theorem dL_law_858 : decode cL_law 858 = .ok (.iinc 8 1, 3) := by decide +kernel
theorem dL_law_861 : decode cL_law 861 = .ok (.goto (-115), 3) := by decide +kernel
theorem dL_law_864 : decode cL_law 864 = .ok (.aload_n 1, 1) := by decide +kernel
theorem dL_law_865 : decode cL_law 865 = .ok (.invokevirtual 77, 3) := by decide +kernel
theorem dL_law_868 : decode cL_law 868 = .ok (.lload 6, 2) := by decide +kernel
theorem dL_law_870 : decode cL_law 870 = .ok (.lcmp, 1) := by decide +kernel
theorem dL_law_871 : decode cL_law 871 = .ok (.ifCond .ne 65, 3) := by decide +kernel
theorem dL_law_874 : decode cL_law 874 = .ok (.aload_n 1, 1) := by decide +kernel
theorem dL_law_875 : decode cL_law 875 = .ok (.iconst 2, 1) := by decide +kernel
theorem dL_law_876 : decode cL_law 876 = .ok (.invokevirtual 41, 3) := by decide +kernel
theorem dL_law_879 : decode cL_law 879 = .ok (.aload_n 1, 1) := by decide +kernel
theorem dL_law_880 : decode cL_law 880 = .ok (.iconst 3, 1) := by decide +kernel
theorem dL_law_881 : decode cL_law 881 = .ok (.invokevirtual 41, 3) := by decide +kernel
theorem dL_law_884 : decode cL_law 884 = .ok (.iadd, 1) := by decide +kernel
theorem dL_law_885 : decode cL_law 885 = .ok (.aload_n 1, 1) := by decide +kernel
theorem dL_law_886 : decode cL_law 886 = .ok (.iconst 4, 1) := by decide +kernel
theorem dL_law_887 : decode cL_law 887 = .ok (.invokevirtual 41, 3) := by decide +kernel
theorem dL_law_890 : decode cL_law 890 = .ok (.iadd, 1) := by decide +kernel
theorem dL_law_891 : decode cL_law 891 = .ok (.iload_n 2, 1) := by decide +kernel
theorem dL_law_892 : decode cL_law 892 = .ok (.if_icmp .ne 44, 3) := by decide +kernel
theorem dL_law_895 : decode cL_law 895 = .ok (.aload_n 1, 1) := by decide +kernel
theorem dL_law_896 : decode cL_law 896 = .ok (.bipush 8, 2) := by decide +kernel
theorem dL_law_898 : decode cL_law 898 = .ok (.invokevirtual 41, 3) := by decide +kernel
theorem dL_law_901 : decode cL_law 901 = .ok (.aload_n 1, 1) := by decide +kernel
theorem dL_law_902 : decode cL_law 902 = .ok (.bipush 7, 2) := by decide +kernel
theorem dL_law_904 : decode cL_law 904 = .ok (.invokevirtual 41, 3) := by decide +kernel
theorem dL_law_907 : decode cL_law 907 = .ok (.if_icmp .gt 29, 3) := by decide +kernel
theorem dL_law_910 : decode cL_law 910 = .ok (.aload_n 1, 1) := by decide +kernel
theorem dL_law_911 : decode cL_law 911 = .ok (.bipush 9, 2) := by decide +kernel
theorem dL_law_913 : decode cL_law 913 = .ok (.invokevirtual 41, 3) := by decide +kernel
theorem dL_law_916 : decode cL_law 916 = .ok (.aload_n 1, 1) := by decide +kernel
theorem dL_law_917 : decode cL_law 917 = .ok (.bipush 7, 2) := by decide +kernel
theorem dL_law_919 : decode cL_law 919 = .ok (.invokevirtual 41, 3) := by decide +kernel
theorem dL_law_922 : decode cL_law 922 = .ok (.aload_n 1, 1) := by decide +kernel
theorem dL_law_923 : decode cL_law 923 = .ok (.bipush 8, 2) := by decide +kernel
theorem dL_law_925 : decode cL_law 925 = .ok (.invokevirtual 41, 3) := by decide +kernel
theorem dL_law_928 : decode cL_law 928 = .ok (.isub, 1) := by decide +kernel
theorem dL_law_929 : decode cL_law 929 = .ok (.if_icmp .gt 7, 3) := by decide +kernel
theorem dL_law_932 : decode cL_law 932 = .ok (.iconst 1, 1) := by decide +kernel
theorem dL_law_933 : decode cL_law 933 = .ok (.goto 4, 3) := by decide +kernel
theorem dL_law_936 : decode cL_law 936 = .ok (.iconst 0, 1) := by decide +kernel
theorem dL_law_937 : decode cL_law 937 = .ok (.ireturn, 1) := by decide +kernel
end
section
theorem dL_isKind_0 : decode cL_isKind 0 = .ok (.iload_n 1, 1) := by decide +kernel
theorem dL_isKind_1 : decode cL_isKind 1 = .ok (.newarray .int, 2) := by decide +kernel
theorem dL_isKind_3 : decode cL_isKind 3 = .ok (.astore_n 3, 1) := by decide +kernel
theorem dL_isKind_4 : decode cL_isKind 4 = .ok (.iload_n 1, 1) := by decide +kernel
theorem dL_isKind_5 : decode cL_isKind 5 = .ok (.iconst 5, 1) := by decide +kernel
theorem dL_isKind_6 : decode cL_isKind 6 = .ok (.multianewarray 84 2, 4) := by decide +kernel
theorem dL_isKind_10 : decode cL_isKind 10 = .ok (.astore 4, 2) := by decide +kernel
theorem dL_isKind_12 : decode cL_isKind 12 = .ok (.iload_n 1, 1) := by decide +kernel
theorem dL_isKind_13 : decode cL_isKind 13 = .ok (.newarray .int, 2) := by decide +kernel
theorem dL_isKind_15 : decode cL_isKind 15 = .ok (.astore 5, 2) := by decide +kernel
theorem dL_isKind_17 : decode cL_isKind 17 = .ok (.iconst 0, 1) := by decide +kernel
theorem dL_isKind_18 : decode cL_isKind 18 = .ok (.istore 6, 2) := by decide +kernel
theorem dL_isKind_20 : decode cL_isKind 20 = .ok (.iload 6, 2) := by decide +kernel
theorem dL_isKind_22 : decode cL_isKind 22 = .ok (.iload_n 1, 1) := by decide +kernel
theorem dL_isKind_23 : decode cL_isKind 23 = .ok (.if_icmp .ge 66, 3) := by decide +kernel
theorem dL_isKind_26 : decode cL_isKind 26 = .ok (.aload_n 3, 1) := by decide +kernel
theorem dL_isKind_27 : decode cL_isKind 27 = .ok (.iload 6, 2) := by decide +kernel
theorem dL_isKind_29 : decode cL_isKind 29 = .ok (.aload_n 0, 1) := by decide +kernel
theorem dL_isKind_30 : decode cL_isKind 30 = .ok (.iconst 0, 1) := by decide +kernel
theorem dL_isKind_31 : decode cL_isKind 31 = .ok (.iload 6, 2) := by decide +kernel
theorem dL_isKind_33 : decode cL_isKind 33 = .ok (.iconst 2, 1) := by decide +kernel
theorem dL_isKind_34 : decode cL_isKind 34 = .ok (.invokevirtual 54, 3) := by decide +kernel
theorem dL_isKind_37 : decode cL_isKind 37 = .ok (.iastore, 1) := by decide +kernel
theorem dL_isKind_38 : decode cL_isKind 38 = .ok (.aload 5, 2) := by decide +kernel
theorem dL_isKind_40 : decode cL_isKind 40 = .ok (.iload 6, 2) := by decide +kernel
theorem dL_isKind_42 : decode cL_isKind 42 = .ok (.aload_n 0, 1) := by decide +kernel
theorem dL_isKind_43 : decode cL_isKind 43 = .ok (.iconst 0, 1) := by decide +kernel
theorem dL_isKind_44 : decode cL_isKind 44 = .ok (.iload 6, 2) := by decide +kernel
theorem dL_isKind_46 : decode cL_isKind 46 = .ok (.iconst 4, 1) := by decide +kernel
theorem dL_isKind_47 : decode cL_isKind 47 = .ok (.invokevirtual 54, 3) := by decide +kernel
theorem dL_isKind_50 : decode cL_isKind 50 = .ok (.iastore, 1) := by decide +kernel
theorem dL_isKind_51 : decode cL_isKind 51 = .ok (.iconst 0, 1) := by decide +kernel
theorem dL_isKind_52 : decode cL_isKind 52 = .ok (.istore 7, 2) := by decide +kernel
theorem dL_isKind_54 : decode cL_isKind 54 = .ok (.iload 7, 2) := by decide +kernel
theorem dL_isKind_56 : decode cL_isKind 56 = .ok (.iconst 5, 1) := by decide +kernel
theorem dL_isKind_57 : decode cL_isKind 57 = .ok (.if_icmp .ge 26, 3) := by decide +kernel
theorem dL_isKind_60 : decode cL_isKind 60 = .ok (.aload 4, 2) := by decide +kernel
theorem dL_isKind_62 : decode cL_isKind 62 = .ok (.iload 6, 2) := by decide +kernel
theorem dL_isKind_64 : decode cL_isKind 64 = .ok (.aaload, 1) := by decide +kernel
theorem dL_isKind_65 : decode cL_isKind 65 = .ok (.iload 7, 2) := by decide +kernel
theorem dL_isKind_67 : decode cL_isKind 67 = .ok (.aload_n 0, 1) := by decide +kernel
theorem dL_isKind_68 : decode cL_isKind 68 = .ok (.iload 7, 2) := by decide +kernel
theorem dL_isKind_70 : decode cL_isKind 70 = .ok (.iconst 0, 1) := by decide +kernel
theorem dL_isKind_71 : decode cL_isKind 71 = .ok (.iload 6, 2) := by decide +kernel
theorem dL_isKind_73 : decode cL_isKind 73 = .ok (.invokevirtual 60, 3) := by decide +kernel
theorem dL_isKind_76 : decode cL_isKind 76 = .ok (.iastore, 1) := by decide +kernel
theorem dL_isKind_77 : decode cL_isKind 77 = .ok (.iinc 7 1, 3) := by decide +kernel
theorem dL_isKind_80 : decode cL_isKind 80 = .ok (.goto (-26), 3) := by decide +kernel
theorem dL_isKind_83 : decode cL_isKind 83 = .ok (.iinc 6 1, 3) := by decide +kernel
theorem dL_isKind_86 : decode cL_isKind 86 = .ok (.goto (-66), 3) := by decide +kernel
theorem dL_isKind_89 : decode cL_isKind 89 = .ok (.iload_n 2, 1) := by decide +kernel
theorem dL_isKind_90 : decode cL_isKind 90 = .ok (.newarray .int, 2) := by decide +kernel
theorem dL_isKind_92 : decode cL_isKind 92 = .ok (.astore 6, 2) := by decide +kernel
theorem dL_isKind_94 : decode cL_isKind 94 = .ok (.iconst 0, 1) := by decide +kernel
theorem dL_isKind_95 : decode cL_isKind 95 = .ok (.istore 7, 2) := by decide +kernel
theorem dL_isKind_97 : decode cL_isKind 97 = .ok (.iload 7, 2) := by decide +kernel
theorem dL_isKind_99 : decode cL_isKind 99 = .ok (.iload_n 2, 1) := by decide +kernel
theorem dL_isKind_100 : decode cL_isKind 100 = .ok (.if_icmp .ge 21, 3) := by decide +kernel
theorem dL_isKind_103 : decode cL_isKind 103 = .ok (.aload 6, 2) := by decide +kernel
theorem dL_isKind_105 : decode cL_isKind 105 = .ok (.iload 7, 2) := by decide +kernel
theorem dL_isKind_107 : decode cL_isKind 107 = .ok (.aload_n 0, 1) := by decide +kernel
theorem dL_isKind_108 : decode cL_isKind 108 = .ok (.iload 7, 2) := by decide +kernel
theorem dL_isKind_110 : decode cL_isKind 110 = .ok (.iconst 1, 1) := by decide +kernel
theorem dL_isKind_111 : decode cL_isKind 111 = .ok (.invokevirtual 38, 3) := by decide +kernel
theorem dL_isKind_114 : decode cL_isKind 114 = .ok (.iastore, 1) := by decide +kernel
theorem dL_isKind_115 : decode cL_isKind 115 = .ok (.iinc 7 1, 3) := by decide +kernel
theorem dL_isKind_118 : decode cL_isKind 118 = .ok (.goto (-21), 3) := by decide +kernel
theorem dL_isKind_121 : decode cL_isKind 121 = .ok (.aload_n 0, 1) := by decide +kernel
theorem dL_isKind_122 : decode cL_isKind 122 = .ok (.iconst 1, 1) := by decide +kernel
theorem dL_isKind_123 : decode cL_isKind 123 = .ok (.invokevirtual 86, 3) := by decide +kernel
theorem dL_isKind_126 : decode cL_isKind 126 = .ok (.istore 7, 2) := by decide +kernel
theorem dL_isKind_128 : decode cL_isKind 128 = .ok (.iconst 0, 1) := by decide +kernel
theorem dL_isKind_129 : decode cL_isKind 129 = .ok (.istore 8, 2) := by decide +kernel
theorem dL_isKind_131 : decode cL_isKind 131 = .ok (.iload 8, 2) := by decide +kernel
theorem dL_isKind_133 : decode cL_isKind 133 = .ok (.iload_n 2, 1) := by decide +kernel
theorem dL_isKind_134 : decode cL_isKind 134 = .ok (.if_icmp .ge 26, 3) := by decide +kernel
theorem dL_isKind_137 : decode cL_isKind 137 = .ok (.aload_n 0, 1) := by decide +kernel
theorem dL_isKind_138 : decode cL_isKind 138 = .ok (.iload 8, 2) := by decide +kernel
theorem dL_isKind_140 : decode cL_isKind 140 = .ok (.iconst 0, 1) := by decide +kernel
theorem dL_isKind_141 : decode cL_isKind 141 = .ok (.invokevirtual 38, 3) := by decide +kernel
theorem dL_isKind_144 : decode cL_isKind 144 = .ok (.aload 6, 2) := by decide +kernel
theorem dL_isKind_146 : decode cL_isKind 146 = .ok (.iload 8, 2) := by decide +kernel
theorem dL_isKind_148 : decode cL_isKind 148 = .ok (.iaload, 1) := by decide +kernel
theorem dL_isKind_149 : decode cL_isKind 149 = .ok (.if_icmp .eq 5, 3) := by decide +kernel
theorem dL_isKind_152 : decode cL_isKind 152 = .ok (.iconst 0, 1) := by decide +kernel
theorem dL_isKind_153 : decode cL_isKind 153 = .ok (.ireturn, 1) := by decide +kernel
theorem dL_isKind_154 : decode cL_isKind 154 = .ok (.iinc 8 1, 3) := by decide +kernel
theorem dL_isKind_157 : decode cL_isKind 157 = .ok (.goto (-26), 3) := by decide +kernel
theorem dL_isKind_160 : decode cL_isKind 160 = .ok (.iconst 0, 1) := by decide +kernel
theorem dL_isKind_161 : decode cL_isKind 161 = .ok (.istore 8, 2) := by decide +kernel
theorem dL_isKind_163 : decode cL_isKind 163 = .ok (.iload 8, 2) := by decide +kernel
theorem dL_isKind_165 : decode cL_isKind 165 = .ok (.iload_n 1, 1) := by decide +kernel
theorem dL_isKind_166 : decode cL_isKind 166 = .ok (.if_icmp .ge 177, 3) := by decide +kernel
theorem dL_isKind_169 : decode cL_isKind 169 = .ok (.aload_n 0, 1) := by decide +kernel
theorem dL_isKind_170 : decode cL_isKind 170 = .ok (.iconst 0, 1) := by decide +kernel
theorem dL_isKind_171 : decode cL_isKind 171 = .ok (.iload 8, 2) := by decide +kernel
theorem dL_isKind_173 : decode cL_isKind 173 = .ok (.iconst 2, 1) := by decide +kernel
theorem dL_isKind_174 : decode cL_isKind 174 = .ok (.invokevirtual 54, 3) := by decide +kernel
theorem dL_isKind_177 : decode cL_isKind 177 = .ok (.istore 9, 2) := by decide +kernel
theorem dL_isKind_179 : decode cL_isKind 179 = .ok (.aload_n 3, 1) := by decide +kernel
theorem dL_isKind_180 : decode cL_isKind 180 = .ok (.iload 8, 2) := by decide +kernel
theorem dL_isKind_182 : decode cL_isKind 182 = .ok (.iaload, 1) := by decide +kernel
theorem dL_isKind_183 : decode cL_isKind 183 = .ok (.iconst 1, 1) := by decide +kernel
theorem dL_isKind_184 : decode cL_isKind 184 = .ok (.if_icmp .eq 14, 3) := by decide +kernel
theorem dL_isKind_187 : decode cL_isKind 187 = .ok (.iload 9, 2) := by decide +kernel
theorem dL_isKind_189 : decode cL_isKind 189 = .ok (.aload_n 3, 1) := by decide +kernel
theorem dL_isKind_190 : decode cL_isKind 190 = .ok (.iload 8, 2) := by decide +kernel
theorem dL_isKind_192 : decode cL_isKind 192 = .ok (.iaload, 1) := by decide +kernel
theorem dL_isKind_193 : decode cL_isKind 193 = .ok (.if_icmp .eq 5, 3) := by decide +kernel
theorem dL_isKind_196 : decode cL_isKind 196 = .ok (.iconst 0, 1) := by decide +kernel
theorem dL_isKind_197 : decode cL_isKind 197 = .ok (.ireturn, 1) := by decide +kernel
theorem dL_isKind_198 : decode cL_isKind 198 = .ok (.aload_n 3, 1) := by decide +kernel
theorem dL_isKind_199 : decode cL_isKind 199 = .ok (.iload 8, 2) := by decide +kernel
theorem dL_isKind_201 : decode cL_isKind 201 = .ok (.iaload, 1) := by decide +kernel
theorem dL_isKind_202 : decode cL_isKind 202 = .ok (.iconst 1, 1) := by decide +kernel
theorem dL_isKind_203 : decode cL_isKind 203 = .ok (.if_icmp .ne 9, 3) := by decide +kernel
theorem dL_isKind_206 : decode cL_isKind 206 = .ok (.iload 9, 2) := by decide +kernel
theorem dL_isKind_208 : decode cL_isKind 208 = .ok (.iconst 1, 1) := by decide +kernel
theorem dL_isKind_209 : decode cL_isKind 209 = .ok (.if_icmp .ne 28, 3) := by decide +kernel
theorem dL_isKind_212 : decode cL_isKind 212 = .ok (.iload 9, 2) := by decide +kernel
theorem dL_isKind_214 : decode cL_isKind 214 = .ok (.iconst 1, 1) := by decide +kernel
theorem dL_isKind_215 : decode cL_isKind 215 = .ok (.if_icmp .ne 122, 3) := by decide +kernel
theorem dL_isKind_218 : decode cL_isKind 218 = .ok (.aload_n 0, 1) := by decide +kernel
theorem dL_isKind_219 : decode cL_isKind 219 = .ok (.iconst 0, 1) := by decide +kernel
theorem dL_isKind_220 : decode cL_isKind 220 = .ok (.iload 8, 2) := by decide +kernel
theorem dL_isKind_222 : decode cL_isKind 222 = .ok (.iconst 4, 1) := by decide +kernel
theorem dL_isKind_223 : decode cL_isKind 223 = .ok (.invokevirtual 54, 3) := by decide +kernel
theorem dL_isKind_226 : decode cL_isKind 226 = .ok (.aload_n 0, 1) := by decide +kernel
theorem dL_isKind_227 : decode cL_isKind 227 = .ok (.bipush 10, 2) := by decide +kernel
theorem dL_isKind_229 : decode cL_isKind 229 = .ok (.invokevirtual 41, 3) := by decide +kernel
theorem dL_isKind_232 : decode cL_isKind 232 = .ok (.if_icmp .gt 105, 3) := by decide +kernel
theorem dL_isKind_235 : decode cL_isKind 235 = .ok (.iconst 0, 1) := by decide +kernel
theorem dL_isKind_236 : decode cL_isKind 236 = .ok (.ireturn, 1) := by decide +kernel
theorem dL_isKind_237 : decode cL_isKind 237 = .ok (.iinc 7 (-1), 3) := by decide +kernel
theorem dL_isKind_240 : decode cL_isKind 240 = .ok (.aload 5, 2) := by decide +kernel
theorem dL_isKind_242 : decode cL_isKind 242 = .ok (.iload 8, 2) := by decide +kernel
theorem dL_isKind_244 : decode cL_isKind 244 = .ok (.iaload, 1) := by decide +kernel
theorem dL_isKind_245 : decode cL_isKind 245 = .ok (.aload_n 0, 1) := by decide +kernel
theorem dL_isKind_246 : decode cL_isKind 246 = .ok (.bipush 10, 2) := by decide +kernel
theorem dL_isKind_248 : decode cL_isKind 248 = .ok (.invokevirtual 41, 3) := by decide +kernel
theorem dL_isKind_251 : decode cL_isKind 251 = .ok (.if_icmp .eq 5, 3) := by decide +kernel
theorem dL_isKind_254 : decode cL_isKind 254 = .ok (.iconst 0, 1) := by decide +kernel
theorem dL_isKind_255 : decode cL_isKind 255 = .ok (.ireturn, 1) := by decide +kernel
theorem dL_isKind_256 : decode cL_isKind 256 = .ok (.iconst 0, 1) := by decide +kernel
theorem dL_isKind_257 : decode cL_isKind 257 = .ok (.istore 10, 2) := by decide +kernel
theorem dL_isKind_259 : decode cL_isKind 259 = .ok (.iload 10, 2) := by decide +kernel
theorem dL_isKind_261 : decode cL_isKind 261 = .ok (.iload_n 2, 1) := by decide +kernel
theorem dL_isKind_262 : decode cL_isKind 262 = .ok (.if_icmp .ge 75, 3) := by decide +kernel
theorem dL_isKind_265 : decode cL_isKind 265 = .ok (.aload_n 0, 1) := by decide +kernel
theorem dL_isKind_266 : decode cL_isKind 266 = .ok (.iload 10, 2) := by decide +kernel
theorem dL_isKind_268 : decode cL_isKind 268 = .ok (.iload 8, 2) := by decide +kernel
theorem dL_isKind_270 : decode cL_isKind 270 = .ok (.invokevirtual 51, 3) := by decide +kernel
theorem dL_isKind_273 : decode cL_isKind 273 = .ok (.istore 11, 2) := by decide +kernel
theorem dL_isKind_275 : decode cL_isKind 275 = .ok (.iload 11, 2) := by decide +kernel
theorem dL_isKind_277 : decode cL_isKind 277 = .ok (.ifCond .lt 54, 3) := by decide +kernel
theorem dL_isKind_280 : decode cL_isKind 280 = .ok (.iload 11, 2) := by decide +kernel
theorem dL_isKind_282 : decode cL_isKind 282 = .ok (.bipush 24, 2) := by decide +kernel
theorem dL_isKind_284 : decode cL_isKind 284 = .ok (.if_icmp .ge 47, 3) := by decide +kernel
theorem dL_isKind_287 : decode cL_isKind 287 = .ok (.aload_n 0, 1) := by decide +kernel
theorem dL_isKind_288 : decode cL_isKind 288 = .ok (.iload 10, 2) := by decide +kernel
theorem dL_isKind_290 : decode cL_isKind 290 = .ok (.iconst 2, 1) := by decide +kernel
theorem dL_isKind_291 : decode cL_isKind 291 = .ok (.invokevirtual 48, 3) := by decide +kernel
theorem dL_isKind_294 : decode cL_isKind 294 = .ok (.iload 8, 2) := by decide +kernel
theorem dL_isKind_296 : decode cL_isKind 296 = .ok (.if_icmp .ne 35, 3) := by decide +kernel
theorem dL_isKind_299 : decode cL_isKind 299 = .ok (.aload_n 0, 1) := by decide +kernel
theorem dL_isKind_300 : decode cL_isKind 300 = .ok (.iload 10, 2) := by decide +kernel
theorem dL_isKind_302 : decode cL_isKind 302 = .ok (.iconst 0, 1) := by decide +kernel
theorem dL_isKind_303 : decode cL_isKind 303 = .ok (.invokevirtual 38, 3) := by decide +kernel
theorem dL_isKind_306 : decode cL_isKind 306 = .ok (.iconst 4, 1) := by decide +kernel
theorem dL_isKind_307 : decode cL_isKind 307 = .ok (.if_icmp .eq 6, 3) := by decide +kernel
theorem dL_isKind_310 : decode cL_isKind 310 = .ok (.goto 21, 3) := by decide +kernel
theorem dL_isKind_313 : decode cL_isKind 313 = .ok (.aload 4, 2) := by decide +kernel
theorem dL_isKind_315 : decode cL_isKind 315 = .ok (.iload 8, 2) := by decide +kernel
theorem dL_isKind_317 : decode cL_isKind 317 = .ok (.aaload, 1) := by decide +kernel
theorem dL_isKind_318 : decode cL_isKind 318 = .ok (.aload_n 0, 1) := by decide +kernel
theorem dL_isKind_319 : decode cL_isKind 319 = .ok (.iload 10, 2) := by decide +kernel
theorem dL_isKind_321 : decode cL_isKind 321 = .ok (.iconst 0, 1) := by decide +kernel
theorem dL_isKind_322 : decode cL_isKind 322 = .ok (.invokevirtual 48, 3) := by decide +kernel
theorem dL_isKind_325 : decode cL_isKind 325 = .ok (.iaload, 1) := by decide +kernel
theorem dL_isKind_326 : decode cL_isKind 326 = .ok (.ifCond .ne 5, 3) := by decide +kernel
theorem dL_isKind_329 : decode cL_isKind 329 = .ok (.iconst 0, 1) := by decide +kernel
theorem dL_isKind_330 : decode cL_isKind 330 = .ok (.ireturn, 1) := by decide +kernel
theorem dL_isKind_331 : decode cL_isKind 331 = .ok (.iinc 10 1, 3) := by decide +kernel
theorem dL_isKind_334 : decode cL_isKind 334 = .ok (.goto (-75), 3) := by decide +kernel
theorem dL_isKind_337 : decode cL_isKind 337 = .ok (.iinc 8 1, 3) := by decide +kernel
theorem dL_isKind_340 : decode cL_isKind 340 = .ok (.goto (-177), 3) := by decide +kernel
theorem dL_isKind_343 : decode cL_isKind 343 = .ok (.iload 7, 2) := by decide +kernel
theorem dL_isKind_345 : decode cL_isKind 345 = .ok (.ifCond .ne 7, 3) := by decide +kernel
theorem dL_isKind_348 : decode cL_isKind 348 = .ok (.iconst 1, 1) := by decide +kernel
theorem dL_isKind_349 : decode cL_isKind 349 = .ok (.goto 4, 3) := by decide +kernel
theorem dL_isKind_352 : decode cL_isKind 352 = .ok (.iconst 0, 1) := by decide +kernel
theorem dL_isKind_353 : decode cL_isKind 353 = .ok (.ireturn, 1) := by decide +kernel
end
section
/-! ===== the X layer: the kit's rows over a world that is a function from addresses to what lies there ===== -/
abbrev xE : Type := (Nat × vp_A) ⊕ (Nat × List Value)
abbrev xW : Type := Nat → Option xE
def x_em (dA : Nat → ClassId) (x : xE) : va_E := match x with
  | .inl a => .inl (dA a.1, a.2)
  | .inr o => .inr o
def x_set (w : xW) (a : Nat) (x : xE) : xW := fun b => if b = a then some x else w b
theorem x_set_eq (w : xW) (a : Nat) (x : xE) : x_set w a x a = some x := if_pos rfl
theorem x_set_ne (w : xW) {a b : Nat} (x : xE) (h : ¬ b = a) : x_set w a x b = w b := if_neg h
/-- the heap holds the world; all its cells lie at B or above -/
def x_P (D : va_G) (dA : Nat → ClassId) (cl : List vw_C) (B : Nat) (w : xW) (H : Heap) : Prop := ∀ (a : Nat) (x : xE), w a = some x → B ≤ a ∧ va_at D cl (a, x_em dA x) H
def x_tys (dA : Nat → ClassId) (tyL : List FieldType) : List (ClassId × FieldType) := (List.range tyL.length).map (fun t => (dA t, tyL.getD t .int))
theorem x_tys_at {dA : Nat → ClassId} {tyL : List FieldType} {t : Nat} {ty : FieldType} (h : tyL[t]? = some ty) : (x_tys dA tyL)[t]? = some (dA t, ty) := by
  have hl : t < tyL.length := (List.getElem?_eq_some_iff.mp h).1
  unfold x_tys
  rw [List.getElem?_map, List.getElem?_range hl]
  simp [List.getD, h]
/-- the world as a list, up to an address -/
def x_L (dA : Nat → ClassId) (w : xW) (n : Nat) : va_W := (List.range n).filterMap (fun a => (w a).map (fun x => (a, x_em dA x)))
theorem x_L_mem {dA : Nat → ClassId} {w : xW} {n : Nat} {q : Nat × va_E} (h : q ∈ x_L dA w n) : q.1 < n ∧ ∃ x, w q.1 = some x ∧ q.2 = x_em dA x := by
  obtain ⟨a, ha, hq⟩ := List.mem_filterMap.mp h
  cases hw : w a with
  | none => rw [hw] at hq; cases hq
  | some x =>
    rw [hw] at hq
    cases hq
    exact ⟨List.mem_range.mp ha, x, hw, rfl⟩
theorem x_L_of {dA : Nat → ClassId} {w : xW} {n a : Nat} {x : xE} (hw : w a = some x) (ha : a < n) : (a, x_em dA x) ∈ x_L dA w n :=
  List.mem_filterMap.mpr ⟨a, List.mem_range.mpr ha, by rw [hw]; rfl⟩
theorem x_L_pw (dA : Nat → ClassId) (w : xW) (n : Nat) : (x_L dA w n).Pairwise (fun p q => p.1 < q.1) := by
  unfold x_L
  rw [List.pairwise_filterMap]
  refine List.Pairwise.imp ?_ List.pairwise_lt_range
  intro a b hab p hp q hq
  cases ha : w a with
  | none => rw [ha] at hp; cases hp
  | some x =>
    cases hb : w b with
    | none => rw [hb] at hq; cases hq
    | some y =>
      rw [ha] at hp
      rw [hb] at hq
      cases hp
      cases hq
      exact hab
theorem x_L_inj {dA : Nat → ClassId} {w : xW} {n i j : Nat} {p q : Nat × va_E} (hi : (x_L dA w n)[i]? = some p) (hj : (x_L dA w n)[j]? = some q) (h : p.1 = q.1) : i = j := by
  have hp := List.pairwise_iff_getElem.mp (x_L_pw dA w n)
  obtain ⟨li, ei⟩ := List.getElem?_eq_some_iff.mp hi
  obtain ⟨lj, ej⟩ := List.getElem?_eq_some_iff.mp hj
  rcases Nat.lt_trichotomy i j with hlt | heq | hgt
  · have := hp i j li lj hlt
    rw [ei, ej] at this
    omega
  · exact heq
  · have := hp j i lj li hgt
    rw [ei, ej] at this
    omega
theorem x_P.lt {D : va_G} {dA : Nat → ClassId} {cl : List vw_C} {B : Nat} {w : xW} {H : Heap} (h : x_P D dA cl B w H) {a : Nat} {x : xE} (hw : w a = some x) : a < H.size :=
  va_at.lt (h a x hw).2
theorem x_P.toL {D : va_G} {dA : Nat → ClassId} {cl : List vw_C} {B : Nat} {w : xW} {H : Heap} (h : x_P D dA cl B w H) : va_P D cl (x_L dA w H.size) H := by
  intro k q hk
  obtain ⟨-, x, hx, he⟩ := x_L_mem (List.mem_of_getElem? hk)
  have := (h q.1 x hx).2
  rw [← he] at this
  exact this
theorem x_P.toD {D : va_G} {dA : Nat → ClassId} {cl : List vw_C} {B : Nat} {w : xW} {H : Heap} (h : x_P D dA cl B w H) : va_D (fun q => B ≤ q) (x_L dA w H.size) := by
  refine ⟨fun i j p q hi hj e => x_L_inj hi hj e, fun k q hk => ?_⟩
  obtain ⟨-, x, hx, he⟩ := x_L_mem (List.mem_of_getElem? hk)
  exact (h q.1 x hx).1
theorem x_P.at {D : va_G} {dA : Nat → ClassId} {cl : List vw_C} {B : Nat} {w : xW} {H : Heap} (h : x_P D dA cl B w H) {a : Nat} {x : xE} (hw : w a = some x) : ∃ i : Nat, (x_L dA w H.size)[i]? = some (a, x_em dA x) :=
  List.getElem?_of_mem (x_L_of hw (h.lt hw))
theorem x_P.ofSet {D : va_G} {dA : Nat → ClassId} {cl : List vw_C} {B : Nat} {w : xW} {H H1 : Heap} (h : x_P D dA cl B w H) {i a : Nat} {x0 x : xE} (hw : w a = some x0) (hi : (x_L dA w H.size)[i]? = some (a, x_em dA x0)) (hP : va_P D cl ((x_L dA w H.size).set i (a, x_em dA x)) H1) : x_P D dA cl B (x_set w a x) H1 := by
  intro b y hb
  by_cases hba : b = a
  · subst hba
    rw [x_set_eq] at hb
    cases hb
    refine ⟨(h b x0 hw).1, hP i _ ?_⟩
    exact List.getElem?_set_self (List.getElem?_eq_some_iff.mp hi).1
  · rw [x_set_ne _ _ hba] at hb
    obtain ⟨j, hj⟩ := h.at hb
    refine ⟨(h b y hb).1, hP j _ ?_⟩
    rw [List.getElem?_set_ne]
    · exact hj
    · intro hij
      subst hij
      rw [hi] at hj
      exact hba (congrArg Prod.fst (Option.some.inj hj)).symm
theorem x_P.ofPush {D : va_G} {dA : Nat → ClassId} {cl : List vw_C} {B : Nat} {w : xW} {H H1 : Heap} (h : x_P D dA cl B w H) {a : Nat} {x : xE} (ha : B ≤ a) (hP : va_P D cl (x_L dA w H.size ++ [(a, x_em dA x)]) H1) (hD : va_D (fun q => B ≤ q) (x_L dA w H.size ++ [(a, x_em dA x)])) : w a = none ∧ x_P D dA cl B (x_set w a x) H1 := by
  have hlast : (x_L dA w H.size ++ [(a, x_em dA x)])[(x_L dA w H.size).length]? = some (a, x_em dA x) := by simp
  have hf : w a = none := by
    cases hw : w a with
    | none => rfl
    | some y =>
      obtain ⟨j, hj⟩ := h.at hw
      have hjl := (List.getElem?_eq_some_iff.mp hj).1
      have hj' : (x_L dA w H.size ++ [(a, x_em dA x)])[j]? = some (a, x_em dA y) := by rw [List.getElem?_append_left hjl]; exact hj
      have := hD.1 _ _ _ _ hj' hlast rfl
      omega
  refine ⟨hf, fun b y hb => ?_⟩
  by_cases hba : b = a
  · subst hba
    rw [x_set_eq] at hb
    cases hb
    exact ⟨ha, hP _ _ hlast⟩
  · rw [x_set_ne _ _ hba] at hb
    obtain ⟨j, hj⟩ := h.at hb
    refine ⟨(h b y hb).1, hP j _ ?_⟩
    rw [List.getElem?_append_left (List.getElem?_eq_some_iff.mp hj).1]
    exact hj
/-- the locals: reading, and both kinds of writing -/
def x_ld (lv : List (Nat × Value)) (i : Nat) : Option Value := match lv with
  | [] => none
  | q :: t => if q.1 = i then some q.2 else x_ld t i
theorem x_ld_has {ls : Array Slot} {n : Nat} {lv : List (Nat × Value)} (h : lv_has ls n lv) {i : Nat} {v : Value} (hl : x_ld lv i = some v) : ls[i]? = some (.val v) := by
  obtain ⟨-, -, h3⟩ := h
  induction lv with
  | nil => cases hl
  | cons q t ih =>
    unfold x_ld at hl
    by_cases hq : q.1 = i
    · rw [if_pos hq] at hl
      cases hl
      rw [← hq]
      exact h3 q List.mem_cons_self
    · rw [if_neg hq] at hl
      exact ih hl (fun q hq => h3 q (List.mem_cons_of_mem _ hq))
def x_st1 (lv : List (Nat × Value)) (i : Nat) (v : Value) : List (Nat × Value) := (i, v) :: lv.filter (fun q => !(q.1 == i) && !(q.1 + 1 == i && q.2.category == 2))
def x_st2 (lv : List (Nat × Value)) (i : Nat) (v : Value) : List (Nat × Value) := (i, v) :: lv.filter (fun q => !(q.1 == i) && (!(q.1 == i + 1) && !(q.1 + 1 == i && q.2.category == 2)))
def x_sub (lv lv' : List (Nat × Value)) : Prop := match lv' with
  | [] => True
  | q :: t => x_ld lv q.1 = some q.2 ∧ x_sub lv t
theorem x_sub_has {ls : Array Slot} {n : Nat} {lv lv' : List (Nat × Value)} (h : lv_has ls n lv) (hs : x_sub lv lv') : lv_has ls n lv' := by
  refine ⟨h.1, h.2.1, ?_⟩
  induction lv' with
  | nil => intro q hq; cases hq
  | cons q t ih =>
    intro r hr
    rcases List.mem_cons.mp hr with rfl | hr
    · exact x_ld_has h hs.1
    · exact ih hs.2 r hr
/-- what stays the same in a method's body -/
def x_Fix (p : Program) (s : State) (m : MethodId) (args : Array Value) (meth : Method) (c : Code) (cc : ByteArray) (nL : Nat) (own : String) (Ts : List Cond) (ret : Option FieldType) (nm : String) (D : va_G) (dA : Nat → ClassId) (cl : List vw_C) (tyL : List FieldType) (B : Nat) : Prop :=
  p.tables.exec = Jvm.exec ∧ c.code = cc ∧ c.maxLocals = nL ∧ s.vm.findClass own = some m.cls ∧ (∀ w ∈ Ts, w.before args s = true) ∧ va_K D cl (x_tys dA tyL) s ∧ B ≤ s.heap.size ∧ meth.sig.returnType = ret ∧ meth.locks = false ∧ meth.name = nm ∧ x_xt s
/-- the machine goes on well from here, whatever heap holds the world -/
def X (p : Program) (l : Launch) (e : Env) (R : Room) (s : State) (m : MethodId) (args : Array Value) (below : List Frame) (meth : Method) (c : Code) (Q : State → Prop) (D : va_G) (dA : Nat → ClassId) (cl : List vw_C) (B nL : Nat) (cells slots pc : Nat) (lv : List (Nat × Value)) (st : List Value) (w : xW) : Prop :=
  ∀ (H : Heap) (locs : List Loc) (ls : Array Slot), x_P D dA cl B w H → va_S (fun q => B ≤ q) s.heap H locs → lv_has ls nL lv → W p l e R s m args below meth c H locs cells slots Q (F0 m pc ls st)
/-- what a method gives back, and the world behind it -/
def x_Q (D : va_G) (dA : Nat → ClassId) (cl : List vw_C) (tyL : List FieldType) (B : Nat) (post : Option Value → xW → Prop) : Array Value → State → Outcome → State → Prop := fun _ st oc t =>
  (∃ (r : Option Value) (w1 : xW), oc = .returned r ∧ post r w1 ∧ x_P D dA cl B w1 t.heap ∧ va_K D cl (x_tys dA tyL) t) ∧ va_F (fun q => B ≤ q) st t
/-- a contract: called with av over the world w, the method returns, and 'post' holds of what it gives back and of the world then -/
def x_Ct (l : Launch) (D : va_G) (dA : Nat → ClassId) (cl : List vw_C) (tyL : List FieldType) (B : Nat) (y : MethodName) (ws : List Cond) (rm : Room) (av : List Value) (w : xW) (post : Option Value → xW → Prop) (mc ms : Nat) : Prop :=
  Met l y ws rm (va_Pc av (fun U => B ≤ U.heap.size ∧ x_P D dA cl B w U.heap ∧ va_K D cl (x_tys dA tyL) U ∧ x_xt U)) (x_Q D dA cl tyL B post) mc ms (fun q => B ≤ q)
section XL
variable {p : Program} {l : Launch} {e : Env} {R : Room} {s : State} {m : MethodId} {args : Array Value} {below : List Frame} {meth : Method} {c : Code} {Q : State → Prop}
variable {D : va_G} {dA : Nat → ClassId} {cl : List vw_C} {tyL : List FieldType} {B nL : Nat} {cells slots pc : Nat} {lv : List (Nat × Value)} {st : List Value} {w : xW}
variable {cc : ByteArray} {own : String} {Ts : List Cond} {ret : Option FieldType} {nm : String}

theorem x_iconst (F : x_Fix p s m args meth c cc nL own Ts ret nm D dA cl tyL B) {n : Int} {v : Int32} (hd : decode cc pc = .ok (.iconst n, 1)) (hv : Int32.ofInt n = v) (k : X p l e R s m args below meth c Q D dA cl B nL cells slots (pc + 1) lv (.int v :: st) w) : X p l e R s m args below meth c Q D dA cl B nL cells slots pc lv st w :=
  fun H locs ls h1 h2 h3 => lv_iconst F.1 F.2.1 hd hv (k H locs ls h1 h2 h3)
theorem x_bipush (F : x_Fix p s m args meth c cc nL own Ts ret nm D dA cl tyL B) {n : Int} {v : Int32} (hd : decode cc pc = .ok (.bipush n, 2)) (hv : (Int8.ofInt n).toInt32 = v) (k : X p l e R s m args below meth c Q D dA cl B nL cells slots (pc + 2) lv (.int v :: st) w) : X p l e R s m args below meth c Q D dA cl B nL cells slots pc lv st w :=
  fun H locs ls h1 h2 h3 => lv_bipush F.1 F.2.1 hd hv (k H locs ls h1 h2 h3)
theorem x_sipush (F : x_Fix p s m args meth c cc nL own Ts ret nm D dA cl tyL B) {n : Int} {v : Int32} (hd : decode cc pc = .ok (.sipush n, 3)) (hv : (Int16.ofInt n).toInt32 = v) (k : X p l e R s m args below meth c Q D dA cl B nL cells slots (pc + 3) lv (.int v :: st) w) : X p l e R s m args below meth c Q D dA cl B nL cells slots pc lv st w :=
  fun H locs ls h1 h2 h3 => lv_sipush F.1 F.2.1 hd hv (k H locs ls h1 h2 h3)
theorem x_null (F : x_Fix p s m args meth c cc nL own Ts ret nm D dA cl tyL B)  (hd : decode cc pc = .ok (.aconst_null, 1)) (k : X p l e R s m args below meth c Q D dA cl B nL cells slots (pc + 1) lv (.null :: st) w) : X p l e R s m args below meth c Q D dA cl B nL cells slots pc lv st w :=
  fun H locs ls h1 h2 h3 => lv_null F.1 F.2.1 hd (k H locs ls h1 h2 h3)
theorem x_iload_n (F : x_Fix p s m args meth c cc nL own Ts ret nm D dA cl tyL B) {k : Fin 4} {i : Nat} {x : Int32} (hd : decode cc pc = .ok (.iload_n k, 1)) (hi : (k : Nat) = i) (hl : x_ld lv i = some (.int x)) (k : X p l e R s m args below meth c Q D dA cl B nL cells slots (pc + 1) lv (.int x :: st) w) : X p l e R s m args below meth c Q D dA cl B nL cells slots pc lv st w :=
  fun H locs ls h1 h2 h3 => lv_iload_n F.1 F.2.1 hd hi (x_ld_has h3 hl) (k H locs ls h1 h2 h3)
theorem x_iload (F : x_Fix p s m args meth c cc nL own Ts ret nm D dA cl tyL B) {i : Nat} {x : Int32} (hd : decode cc pc = .ok (.iload i, 2)) (hl : x_ld lv i = some (.int x)) (k : X p l e R s m args below meth c Q D dA cl B nL cells slots (pc + 2) lv (.int x :: st) w) : X p l e R s m args below meth c Q D dA cl B nL cells slots pc lv st w :=
  fun H locs ls h1 h2 h3 => lv_iload F.1 F.2.1 hd (x_ld_has h3 hl) (k H locs ls h1 h2 h3)
theorem x_lload_n (F : x_Fix p s m args meth c cc nL own Ts ret nm D dA cl tyL B) {k : Fin 4} {i : Nat} {x : Int64} (hd : decode cc pc = .ok (.lload_n k, 1)) (hi : (k : Nat) = i) (hl : x_ld lv i = some (.long x)) (k : X p l e R s m args below meth c Q D dA cl B nL cells slots (pc + 1) lv (.long x :: st) w) : X p l e R s m args below meth c Q D dA cl B nL cells slots pc lv st w :=
  fun H locs ls h1 h2 h3 => lv_lload_n F.1 F.2.1 hd hi (x_ld_has h3 hl) (k H locs ls h1 h2 h3)
theorem x_lload (F : x_Fix p s m args meth c cc nL own Ts ret nm D dA cl tyL B) {i : Nat} {x : Int64} (hd : decode cc pc = .ok (.lload i, 2)) (hl : x_ld lv i = some (.long x)) (k : X p l e R s m args below meth c Q D dA cl B nL cells slots (pc + 2) lv (.long x :: st) w) : X p l e R s m args below meth c Q D dA cl B nL cells slots pc lv st w :=
  fun H locs ls h1 h2 h3 => lv_lload F.1 F.2.1 hd (x_ld_has h3 hl) (k H locs ls h1 h2 h3)
theorem x_aload_n (F : x_Fix p s m args meth c cc nL own Ts ret nm D dA cl tyL B) {k : Fin 4} {i : Nat} {x : Nat} (hd : decode cc pc = .ok (.aload_n k, 1)) (hi : (k : Nat) = i) (hl : x_ld lv i = some (.ref x)) (k : X p l e R s m args below meth c Q D dA cl B nL cells slots (pc + 1) lv (.ref x :: st) w) : X p l e R s m args below meth c Q D dA cl B nL cells slots pc lv st w :=
  fun H locs ls h1 h2 h3 => lv_aload_n F.1 F.2.1 hd hi (x_ld_has h3 hl) (k H locs ls h1 h2 h3)
theorem x_aload (F : x_Fix p s m args meth c cc nL own Ts ret nm D dA cl tyL B) {i : Nat} {x : Nat} (hd : decode cc pc = .ok (.aload i, 2)) (hl : x_ld lv i = some (.ref x)) (k : X p l e R s m args below meth c Q D dA cl B nL cells slots (pc + 2) lv (.ref x :: st) w) : X p l e R s m args below meth c Q D dA cl B nL cells slots pc lv st w :=
  fun H locs ls h1 h2 h3 => lv_aload F.1 F.2.1 hd (x_ld_has h3 hl) (k H locs ls h1 h2 h3)
theorem x_aload_nN (F : x_Fix p s m args meth c cc nL own Ts ret nm D dA cl tyL B) {k : Fin 4} {i : Nat} (hd : decode cc pc = .ok (.aload_n k, 1)) (hi : (k : Nat) = i) (hl : x_ld lv i = some .null) (k : X p l e R s m args below meth c Q D dA cl B nL cells slots (pc + 1) lv (.null :: st) w) : X p l e R s m args below meth c Q D dA cl B nL cells slots pc lv st w :=
  fun H locs ls h1 h2 h3 => lv_aload_nN F.1 F.2.1 hd hi (x_ld_has h3 hl) (k H locs ls h1 h2 h3)
theorem x_aloadN (F : x_Fix p s m args meth c cc nL own Ts ret nm D dA cl tyL B) {i : Nat} (hd : decode cc pc = .ok (.aload i, 2)) (hl : x_ld lv i = some .null) (k : X p l e R s m args below meth c Q D dA cl B nL cells slots (pc + 2) lv (.null :: st) w) : X p l e R s m args below meth c Q D dA cl B nL cells slots pc lv st w :=
  fun H locs ls h1 h2 h3 => lv_aloadN F.1 F.2.1 hd (x_ld_has h3 hl) (k H locs ls h1 h2 h3)
theorem x_aload_nQ (F : x_Fix p s m args meth c cc nL own Ts ret nm D dA cl tyL B) {k : Fin 4} {i : Nat} {o : Option Nat} (hd : decode cc pc = .ok (.aload_n k, 1)) (hi : (k : Nat) = i) (hl : x_ld lv i = some (va_rf o)) (k : X p l e R s m args below meth c Q D dA cl B nL cells slots (pc + 1) lv (va_rf o :: st) w) : X p l e R s m args below meth c Q D dA cl B nL cells slots pc lv st w := by
  cases o with
  | none => exact x_aload_nN F hd hi hl k
  | some a => exact x_aload_n F hd hi hl k
theorem x_aloadQ (F : x_Fix p s m args meth c cc nL own Ts ret nm D dA cl tyL B) {i : Nat} {o : Option Nat} (hd : decode cc pc = .ok (.aload i, 2)) (hl : x_ld lv i = some (va_rf o)) (k : X p l e R s m args below meth c Q D dA cl B nL cells slots (pc + 2) lv (va_rf o :: st) w) : X p l e R s m args below meth c Q D dA cl B nL cells slots pc lv st w := by
  cases o with
  | none => exact x_aloadN F hd hl k
  | some a => exact x_aload F hd hl k
theorem x_istore_n (F : x_Fix p s m args meth c cc nL own Ts ret nm D dA cl tyL B) {k : Fin 4} {i : Nat} {x : Int32} (hd : decode cc pc = .ok (.istore_n k, 1)) (hi : (k : Nat) = i) (hn : i < nL) (kk : X p l e R s m args below meth c Q D dA cl B nL cells slots (pc + 1) (x_st1 lv i (.int x)) st w) : X p l e R s m args below meth c Q D dA cl B nL cells slots pc lv (.int x :: st) w :=
  fun H locs ls h1 h2 h3 => lv_istore_n F.1 F.2.1 hd hi h3 hn rfl (fun ls' h4 => kk H locs ls' h1 h2 h4)
theorem x_istore (F : x_Fix p s m args meth c cc nL own Ts ret nm D dA cl tyL B) {i : Nat} {x : Int32} (hd : decode cc pc = .ok (.istore i, 2)) (hn : i < nL) (kk : X p l e R s m args below meth c Q D dA cl B nL cells slots (pc + 2) (x_st1 lv i (.int x)) st w) : X p l e R s m args below meth c Q D dA cl B nL cells slots pc lv (.int x :: st) w :=
  fun H locs ls h1 h2 h3 => lv_istore F.1 F.2.1 hd h3 hn rfl (fun ls' h4 => kk H locs ls' h1 h2 h4)
theorem x_lstore_n (F : x_Fix p s m args meth c cc nL own Ts ret nm D dA cl tyL B) {k : Fin 4} {i : Nat} {x : Int64} (hd : decode cc pc = .ok (.lstore_n k, 1)) (hi : (k : Nat) = i) (hn : i + 1 < nL) (kk : X p l e R s m args below meth c Q D dA cl B nL cells slots (pc + 1) (x_st2 lv i (.long x)) st w) : X p l e R s m args below meth c Q D dA cl B nL cells slots pc lv (.long x :: st) w :=
  fun H locs ls h1 h2 h3 => lv_lstore_n F.1 F.2.1 hd hi h3 hn rfl (fun ls' h4 => kk H locs ls' h1 h2 h4)
theorem x_lstore (F : x_Fix p s m args meth c cc nL own Ts ret nm D dA cl tyL B) {i : Nat} {x : Int64} (hd : decode cc pc = .ok (.lstore i, 2)) (hn : i + 1 < nL) (kk : X p l e R s m args below meth c Q D dA cl B nL cells slots (pc + 2) (x_st2 lv i (.long x)) st w) : X p l e R s m args below meth c Q D dA cl B nL cells slots pc lv (.long x :: st) w :=
  fun H locs ls h1 h2 h3 => lv_lstore F.1 F.2.1 hd h3 hn rfl (fun ls' h4 => kk H locs ls' h1 h2 h4)
theorem x_astore_n (F : x_Fix p s m args meth c cc nL own Ts ret nm D dA cl tyL B) {k : Fin 4} {i : Nat} {x : Nat} (hd : decode cc pc = .ok (.astore_n k, 1)) (hi : (k : Nat) = i) (hn : i < nL) (kk : X p l e R s m args below meth c Q D dA cl B nL cells slots (pc + 1) (x_st1 lv i (.ref x)) st w) : X p l e R s m args below meth c Q D dA cl B nL cells slots pc lv (.ref x :: st) w :=
  fun H locs ls h1 h2 h3 => lv_astore_n F.1 F.2.1 hd hi h3 hn rfl (fun ls' h4 => kk H locs ls' h1 h2 h4)
theorem x_astore (F : x_Fix p s m args meth c cc nL own Ts ret nm D dA cl tyL B) {i : Nat} {x : Nat} (hd : decode cc pc = .ok (.astore i, 2)) (hn : i < nL) (kk : X p l e R s m args below meth c Q D dA cl B nL cells slots (pc + 2) (x_st1 lv i (.ref x)) st w) : X p l e R s m args below meth c Q D dA cl B nL cells slots pc lv (.ref x :: st) w :=
  fun H locs ls h1 h2 h3 => lv_astore F.1 F.2.1 hd h3 hn rfl (fun ls' h4 => kk H locs ls' h1 h2 h4)
theorem x_astore_nN (F : x_Fix p s m args meth c cc nL own Ts ret nm D dA cl tyL B) {k : Fin 4} {i : Nat} (hd : decode cc pc = .ok (.astore_n k, 1)) (hi : (k : Nat) = i) (hn : i < nL) (kk : X p l e R s m args below meth c Q D dA cl B nL cells slots (pc + 1) (x_st1 lv i (.null)) st w) : X p l e R s m args below meth c Q D dA cl B nL cells slots pc lv (.null :: st) w :=
  fun H locs ls h1 h2 h3 => lv_astore_nN F.1 F.2.1 hd hi h3 hn rfl (fun ls' h4 => kk H locs ls' h1 h2 h4)
theorem x_astoreN (F : x_Fix p s m args meth c cc nL own Ts ret nm D dA cl tyL B) {i : Nat} (hd : decode cc pc = .ok (.astore i, 2)) (hn : i < nL) (kk : X p l e R s m args below meth c Q D dA cl B nL cells slots (pc + 2) (x_st1 lv i (.null)) st w) : X p l e R s m args below meth c Q D dA cl B nL cells slots pc lv (.null :: st) w :=
  fun H locs ls h1 h2 h3 => lv_astoreN F.1 F.2.1 hd h3 hn rfl (fun ls' h4 => kk H locs ls' h1 h2 h4)
theorem x_astore_nQ (F : x_Fix p s m args meth c cc nL own Ts ret nm D dA cl tyL B) {k : Fin 4} {i : Nat} {o : Option Nat} (hd : decode cc pc = .ok (.astore_n k, 1)) (hi : (k : Nat) = i) (hn : i < nL) (kk : X p l e R s m args below meth c Q D dA cl B nL cells slots (pc + 1) (x_st1 lv i (va_rf o)) st w) : X p l e R s m args below meth c Q D dA cl B nL cells slots pc lv (va_rf o :: st) w := by
  cases o with
  | none => exact x_astore_nN F hd hi hn kk
  | some a => exact x_astore_n F hd hi hn kk
theorem x_astoreQ (F : x_Fix p s m args meth c cc nL own Ts ret nm D dA cl tyL B) {i : Nat} {o : Option Nat} (hd : decode cc pc = .ok (.astore i, 2)) (hn : i < nL) (kk : X p l e R s m args below meth c Q D dA cl B nL cells slots (pc + 2) (x_st1 lv i (va_rf o)) st w) : X p l e R s m args below meth c Q D dA cl B nL cells slots pc lv (va_rf o :: st) w := by
  cases o with
  | none => exact x_astoreN F hd hn kk
  | some a => exact x_astore F hd hn kk
theorem x_iinc (F : x_Fix p s m args meth c cc nL own Ts ret nm D dA cl tyL B) {i : Nat} {n : Int} {x v : Int32} (hd : decode cc pc = .ok (.iinc i n, 3)) (hv : Int32.ofInt n = v) (hl : x_ld lv i = some (.int x)) (hn : i < nL) (kk : X p l e R s m args below meth c Q D dA cl B nL cells slots (pc + 3) (x_st1 ((i, .int x) :: lv) i (.int (x + v))) st w) : X p l e R s m args below meth c Q D dA cl B nL cells slots pc lv st w :=
  fun H locs ls h1 h2 h3 => lv_iinc (k := 0) (lv := (i, .int x) :: lv) F.1 F.2.1 hd ⟨h3.1, h3.2.1, fun q hq => (List.mem_cons.mp hq).elim (fun h => h ▸ x_ld_has h3 hl) (fun h => h3.2.2 q h)⟩ rfl (by rw [hv]) hn rfl (fun ls' h4 => kk H locs ls' h1 h2 h4)
theorem x_iadd (F : x_Fix p s m args meth c cc nL own Ts ret nm D dA cl tyL B) {x y : Int32} (hd : decode cc pc = .ok (.iadd, 1)) (k : X p l e R s m args below meth c Q D dA cl B nL cells slots (pc + 1) lv (.int (x + y) :: st) w) : X p l e R s m args below meth c Q D dA cl B nL cells slots pc lv (.int y :: .int x :: st) w :=
  fun H locs ls h1 h2 h3 => lv_iadd F.1 F.2.1 hd (k H locs ls h1 h2 h3)
theorem x_isub (F : x_Fix p s m args meth c cc nL own Ts ret nm D dA cl tyL B) {x y : Int32} (hd : decode cc pc = .ok (.isub, 1)) (k : X p l e R s m args below meth c Q D dA cl B nL cells slots (pc + 1) lv (.int (x - y) :: st) w) : X p l e R s m args below meth c Q D dA cl B nL cells slots pc lv (.int y :: .int x :: st) w :=
  fun H locs ls h1 h2 h3 => lv_isub F.1 F.2.1 hd (k H locs ls h1 h2 h3)
theorem x_imul (F : x_Fix p s m args meth c cc nL own Ts ret nm D dA cl tyL B) {x y : Int32} (hd : decode cc pc = .ok (.imul, 1)) (k : X p l e R s m args below meth c Q D dA cl B nL cells slots (pc + 1) lv (.int (x * y) :: st) w) : X p l e R s m args below meth c Q D dA cl B nL cells slots pc lv (.int y :: .int x :: st) w :=
  fun H locs ls h1 h2 h3 => lv_imul F.1 F.2.1 hd (k H locs ls h1 h2 h3)
theorem x_iand (F : x_Fix p s m args meth c cc nL own Ts ret nm D dA cl tyL B) {x y : Int32} (hd : decode cc pc = .ok (.iand, 1)) (k : X p l e R s m args below meth c Q D dA cl B nL cells slots (pc + 1) lv (.int (x &&& y) :: st) w) : X p l e R s m args below meth c Q D dA cl B nL cells slots pc lv (.int y :: .int x :: st) w :=
  fun H locs ls h1 h2 h3 => lv_iand F.1 F.2.1 hd (k H locs ls h1 h2 h3)
theorem x_ior (F : x_Fix p s m args meth c cc nL own Ts ret nm D dA cl tyL B) {x y : Int32} (hd : decode cc pc = .ok (.ior, 1)) (k : X p l e R s m args below meth c Q D dA cl B nL cells slots (pc + 1) lv (.int (x ||| y) :: st) w) : X p l e R s m args below meth c Q D dA cl B nL cells slots pc lv (.int y :: .int x :: st) w :=
  fun H locs ls h1 h2 h3 => lv_ior F.1 F.2.1 hd (k H locs ls h1 h2 h3)
theorem x_ixor (F : x_Fix p s m args meth c cc nL own Ts ret nm D dA cl tyL B) {x y : Int32} (hd : decode cc pc = .ok (.ixor, 1)) (k : X p l e R s m args below meth c Q D dA cl B nL cells slots (pc + 1) lv (.int (x ^^^ y) :: st) w) : X p l e R s m args below meth c Q D dA cl B nL cells slots pc lv (.int y :: .int x :: st) w :=
  fun H locs ls h1 h2 h3 => lv_ixor F.1 F.2.1 hd (k H locs ls h1 h2 h3)
theorem x_ishl (F : x_Fix p s m args meth c cc nL own Ts ret nm D dA cl tyL B) {x y : Int32} (hd : decode cc pc = .ok (.ishl, 1)) (k : X p l e R s m args below meth c Q D dA cl B nL cells slots (pc + 1) lv (.int (x <<< (y &&& 31)) :: st) w) : X p l e R s m args below meth c Q D dA cl B nL cells slots pc lv (.int y :: .int x :: st) w :=
  fun H locs ls h1 h2 h3 => lv_ishl F.1 F.2.1 hd (k H locs ls h1 h2 h3)
theorem x_ishr (F : x_Fix p s m args meth c cc nL own Ts ret nm D dA cl tyL B) {x y : Int32} (hd : decode cc pc = .ok (.ishr, 1)) (k : X p l e R s m args below meth c Q D dA cl B nL cells slots (pc + 1) lv (.int (x >>> (y &&& 31)) :: st) w) : X p l e R s m args below meth c Q D dA cl B nL cells slots pc lv (.int y :: .int x :: st) w :=
  fun H locs ls h1 h2 h3 => lv_ishr F.1 F.2.1 hd (k H locs ls h1 h2 h3)
theorem x_idiv (F : x_Fix p s m args meth c cc nL own Ts ret nm D dA cl tyL B) {x y : Int32} (hd : decode cc pc = .ok (.idiv, 1)) (hne : ¬ y = 0) (k : X p l e R s m args below meth c Q D dA cl B nL cells slots (pc + 1) lv (.int (x / y) :: st) w) : X p l e R s m args below meth c Q D dA cl B nL cells slots pc lv (.int y :: .int x :: st) w :=
  fun H locs ls h1 h2 h3 => lv_idiv F.1 F.2.1 hd hne (k H locs ls h1 h2 h3)
theorem x_irem (F : x_Fix p s m args meth c cc nL own Ts ret nm D dA cl tyL B) {x y : Int32} (hd : decode cc pc = .ok (.irem, 1)) (hne : ¬ y = 0) (k : X p l e R s m args below meth c Q D dA cl B nL cells slots (pc + 1) lv (.int (x - x / y * y) :: st) w) : X p l e R s m args below meth c Q D dA cl B nL cells slots pc lv (.int y :: .int x :: st) w :=
  fun H locs ls h1 h2 h3 => lv_irem F.1 F.2.1 hd hne (k H locs ls h1 h2 h3)
theorem x_ineg (F : x_Fix p s m args meth c cc nL own Ts ret nm D dA cl tyL B) {x : Int32} (hd : decode cc pc = .ok (.ineg, 1)) (k : X p l e R s m args below meth c Q D dA cl B nL cells slots (pc + 1) lv (.int (-x) :: st) w) : X p l e R s m args below meth c Q D dA cl B nL cells slots pc lv (.int x :: st) w :=
  fun H locs ls h1 h2 h3 => lv_ineg F.1 F.2.1 hd (k H locs ls h1 h2 h3)
theorem x_iushr (F : x_Fix p s m args meth c cc nL own Ts ret nm D dA cl tyL B) {x y : Int32} (hd : decode cc pc = .ok (.iushr, 1)) (k : X p l e R s m args below meth c Q D dA cl B nL cells slots (pc + 1) lv (.int ((x.toUInt32 >>> (y.toUInt32 &&& Int32.toUInt32 31)).toInt32) :: st) w) : X p l e R s m args below meth c Q D dA cl B nL cells slots pc lv (.int y :: .int x :: st) w :=
  fun H locs ls h1 h2 h3 => lv_iushr F.1 F.2.1 hd rfl (k H locs ls h1 h2 h3)
theorem x_ladd (F : x_Fix p s m args meth c cc nL own Ts ret nm D dA cl tyL B) {x y : Int64} (hd : decode cc pc = .ok (.ladd, 1)) (k : X p l e R s m args below meth c Q D dA cl B nL cells slots (pc + 1) lv (.long (x + y) :: st) w) : X p l e R s m args below meth c Q D dA cl B nL cells slots pc lv (.long y :: .long x :: st) w :=
  fun H locs ls h1 h2 h3 => lv_ladd F.1 F.2.1 hd (k H locs ls h1 h2 h3)
theorem x_lmul (F : x_Fix p s m args meth c cc nL own Ts ret nm D dA cl tyL B) {x y : Int64} (hd : decode cc pc = .ok (.lmul, 1)) (k : X p l e R s m args below meth c Q D dA cl B nL cells slots (pc + 1) lv (.long (x * y) :: st) w) : X p l e R s m args below meth c Q D dA cl B nL cells slots pc lv (.long y :: .long x :: st) w :=
  fun H locs ls h1 h2 h3 => lv_lmul F.1 F.2.1 hd (k H locs ls h1 h2 h3)
theorem x_lsub (F : x_Fix p s m args meth c cc nL own Ts ret nm D dA cl tyL B) {x y : Int64} (hd : decode cc pc = .ok (.lsub, 1)) (k : X p l e R s m args below meth c Q D dA cl B nL cells slots (pc + 1) lv (.long (x - y) :: st) w) : X p l e R s m args below meth c Q D dA cl B nL cells slots pc lv (.long y :: .long x :: st) w :=
  fun H locs ls h1 h2 h3 => lv_lsub F.1 F.2.1 hd (k H locs ls h1 h2 h3)
theorem x_i2l (F : x_Fix p s m args meth c cc nL own Ts ret nm D dA cl tyL B) {x : Int32} (hd : decode cc pc = .ok (.i2l, 1)) (k : X p l e R s m args below meth c Q D dA cl B nL cells slots (pc + 1) lv (.long x.toInt64 :: st) w) : X p l e R s m args below meth c Q D dA cl B nL cells slots pc lv (.int x :: st) w :=
  fun H locs ls h1 h2 h3 => lv_i2l F.1 F.2.1 hd rfl (k H locs ls h1 h2 h3)
theorem x_dup (F : x_Fix p s m args meth c cc nL own Ts ret nm D dA cl tyL B) {va : Value} (hd : decode cc pc = .ok (.dup, 1)) (hva : va.category = 1) (k : X p l e R s m args below meth c Q D dA cl B nL cells slots (pc + 1) lv (va :: va :: st) w) : X p l e R s m args below meth c Q D dA cl B nL cells slots pc lv (va :: st) w :=
  fun H locs ls h1 h2 h3 => lv_dup F.1 F.2.1 hd hva (k H locs ls h1 h2 h3)
theorem x_dup2 (F : x_Fix p s m args meth c cc nL own Ts ret nm D dA cl tyL B) {va vb : Value} (hd : decode cc pc = .ok (.dup2, 1)) (hva : va.category = 1) (hvb : vb.category = 1) (k : X p l e R s m args below meth c Q D dA cl B nL cells slots (pc + 1) lv (va :: vb :: va :: vb :: st) w) : X p l e R s m args below meth c Q D dA cl B nL cells slots pc lv (va :: vb :: st) w :=
  fun H locs ls h1 h2 h3 => lv_dup2_11 F.1 F.2.1 hd hva hvb (k H locs ls h1 h2 h3)
theorem x_dup_x1 (F : x_Fix p s m args meth c cc nL own Ts ret nm D dA cl tyL B) {va vb : Value} (hd : decode cc pc = .ok (.dup_x1, 1)) (hva : va.category = 1) (hvb : vb.category = 1) (k : X p l e R s m args below meth c Q D dA cl B nL cells slots (pc + 1) lv (va :: vb :: va :: st) w) : X p l e R s m args below meth c Q D dA cl B nL cells slots pc lv (va :: vb :: st) w :=
  fun H locs ls h1 h2 h3 => lv_dup_x1 F.1 F.2.1 hd hva hvb (k H locs ls h1 h2 h3)
theorem x_pop (F : x_Fix p s m args meth c cc nL own Ts ret nm D dA cl tyL B) {va : Value} (hd : decode cc pc = .ok (.pop, 1)) (hva : va.category = 1) (k : X p l e R s m args below meth c Q D dA cl B nL cells slots (pc + 1) lv st w) : X p l e R s m args below meth c Q D dA cl B nL cells slots pc lv (va :: st) w :=
  fun H locs ls h1 h2 h3 => lv_pop F.1 F.2.1 hd hva (k H locs ls h1 h2 h3)
theorem x_lcmp (F : x_Fix p s m args meth c cc nL own Ts ret nm D dA cl tyL B) {x y : Int64} (hd : decode cc pc = .ok (.lcmp, 1)) (k : X p l e R s m args below meth c Q D dA cl B nL cells slots (pc + 1) lv (.int (lg_cmp x y) :: st) w) : X p l e R s m args below meth c Q D dA cl B nL cells slots pc lv (.long y :: .long x :: st) w :=
  fun H locs ls h1 h2 h3 => W.lcmp F.1 F.2.1 hd (k H locs ls h1 h2 h3)
theorem x_ldc (F : x_Fix p s m args meth c cc nL own Ts ret nm D dA cl tyL B) {index : Nat} {v : Int32} (hd : decode cc pc = .ok (.ldc index, 2)) (hw : Cond.constant own index v ∈ Ts) (k : X p l e R s m args below meth c Q D dA cl B nL cells slots (pc + 2) lv (.int v :: st) w) : X p l e R s m args below meth c Q D dA cl B nL cells slots pc lv st w :=
  fun H locs ls h1 h2 h3 => lv_ldc F.1 F.2.1 F.2.2.2.1 (F.2.2.2.2.1 _ hw) hd (k H locs ls h1 h2 h3)
theorem x_ldcw (F : x_Fix p s m args meth c cc nL own Ts ret nm D dA cl tyL B) {index : Nat} {v : Int32} (hd : decode cc pc = .ok (.ldc_w index, 3)) (hw : Cond.constant own index v ∈ Ts) (k : X p l e R s m args below meth c Q D dA cl B nL cells slots (pc + 3) lv (.int v :: st) w) : X p l e R s m args below meth c Q D dA cl B nL cells slots pc lv st w :=
  fun H locs ls h1 h2 h3 => lv_ldcw F.1 F.2.1 F.2.2.2.1 (F.2.2.2.2.1 _ hw) hd (k H locs ls h1 h2 h3)
theorem x_ldc2 (F : x_Fix p s m args meth c cc nL own Ts ret nm D dA cl tyL B) {index : Nat} {v : Int64} (hd : decode cc pc = .ok (.ldc2_w index, 3)) (hw : Cond.constantLong own index v ∈ Ts) (k : X p l e R s m args below meth c Q D dA cl B nL cells slots (pc + 3) lv (.long v :: st) w) : X p l e R s m args below meth c Q D dA cl B nL cells slots pc lv st w :=
  fun H locs ls h1 h2 h3 => lv_ldc2 F.1 F.2.1 F.2.2.2.1 (F.2.2.2.2.1 _ hw) hd (k H locs ls h1 h2 h3)
theorem x_if_eq (F : x_Fix p s m args meth c cc nL own Ts ret nm D dA cl tyL B) {x : Int32} {off : Int} {tgt : Nat} (hd : decode cc pc = .ok (.ifCond .eq off, 3)) (ht : (pc : Int) + off = (tgt : Int)) (kt : (x = 0) → X p l e R s m args below meth c Q D dA cl B nL cells slots tgt lv st w) (kf : (¬ x = 0) → X p l e R s m args below meth c Q D dA cl B nL cells slots (pc + 3) lv st w) : X p l e R s m args below meth c Q D dA cl B nL cells slots pc lv (.int x :: st) w :=
  fun H locs ls h1 h2 h3 => lv_if_eq F.1 F.2.1 hd ht (fun hc => kt hc H locs ls h1 h2 h3) (fun hc => kf hc H locs ls h1 h2 h3)
theorem x_if_ne (F : x_Fix p s m args meth c cc nL own Ts ret nm D dA cl tyL B) {x : Int32} {off : Int} {tgt : Nat} (hd : decode cc pc = .ok (.ifCond .ne off, 3)) (ht : (pc : Int) + off = (tgt : Int)) (kt : (¬ x = 0) → X p l e R s m args below meth c Q D dA cl B nL cells slots tgt lv st w) (kf : (x = 0) → X p l e R s m args below meth c Q D dA cl B nL cells slots (pc + 3) lv st w) : X p l e R s m args below meth c Q D dA cl B nL cells slots pc lv (.int x :: st) w :=
  fun H locs ls h1 h2 h3 => lv_if_ne F.1 F.2.1 hd ht (fun hc => kt hc H locs ls h1 h2 h3) (fun hc => kf hc H locs ls h1 h2 h3)
theorem x_if_lt (F : x_Fix p s m args meth c cc nL own Ts ret nm D dA cl tyL B) {x : Int32} {off : Int} {tgt : Nat} (hd : decode cc pc = .ok (.ifCond .lt off, 3)) (ht : (pc : Int) + off = (tgt : Int)) (kt : (x < 0) → X p l e R s m args below meth c Q D dA cl B nL cells slots tgt lv st w) (kf : (¬ x < 0) → X p l e R s m args below meth c Q D dA cl B nL cells slots (pc + 3) lv st w) : X p l e R s m args below meth c Q D dA cl B nL cells slots pc lv (.int x :: st) w :=
  fun H locs ls h1 h2 h3 => lv_if_lt F.1 F.2.1 hd ht (fun hc => kt hc H locs ls h1 h2 h3) (fun hc => kf hc H locs ls h1 h2 h3)
theorem x_if_ge (F : x_Fix p s m args meth c cc nL own Ts ret nm D dA cl tyL B) {x : Int32} {off : Int} {tgt : Nat} (hd : decode cc pc = .ok (.ifCond .ge off, 3)) (ht : (pc : Int) + off = (tgt : Int)) (kt : (0 ≤ x) → X p l e R s m args below meth c Q D dA cl B nL cells slots tgt lv st w) (kf : (¬ 0 ≤ x) → X p l e R s m args below meth c Q D dA cl B nL cells slots (pc + 3) lv st w) : X p l e R s m args below meth c Q D dA cl B nL cells slots pc lv (.int x :: st) w :=
  fun H locs ls h1 h2 h3 => lv_if_ge F.1 F.2.1 hd ht (fun hc => kt hc H locs ls h1 h2 h3) (fun hc => kf hc H locs ls h1 h2 h3)
theorem x_if_gt (F : x_Fix p s m args meth c cc nL own Ts ret nm D dA cl tyL B) {x : Int32} {off : Int} {tgt : Nat} (hd : decode cc pc = .ok (.ifCond .gt off, 3)) (ht : (pc : Int) + off = (tgt : Int)) (kt : (0 < x) → X p l e R s m args below meth c Q D dA cl B nL cells slots tgt lv st w) (kf : (¬ 0 < x) → X p l e R s m args below meth c Q D dA cl B nL cells slots (pc + 3) lv st w) : X p l e R s m args below meth c Q D dA cl B nL cells slots pc lv (.int x :: st) w :=
  fun H locs ls h1 h2 h3 => lv_if_gt F.1 F.2.1 hd ht (fun hc => kt hc H locs ls h1 h2 h3) (fun hc => kf hc H locs ls h1 h2 h3)
theorem x_if_le (F : x_Fix p s m args meth c cc nL own Ts ret nm D dA cl tyL B) {x : Int32} {off : Int} {tgt : Nat} (hd : decode cc pc = .ok (.ifCond .le off, 3)) (ht : (pc : Int) + off = (tgt : Int)) (kt : (x ≤ 0) → X p l e R s m args below meth c Q D dA cl B nL cells slots tgt lv st w) (kf : (¬ x ≤ 0) → X p l e R s m args below meth c Q D dA cl B nL cells slots (pc + 3) lv st w) : X p l e R s m args below meth c Q D dA cl B nL cells slots pc lv (.int x :: st) w :=
  fun H locs ls h1 h2 h3 => lv_if_le F.1 F.2.1 hd ht (fun hc => kt hc H locs ls h1 h2 h3) (fun hc => kf hc H locs ls h1 h2 h3)
theorem x_icmp_eq (F : x_Fix p s m args meth c cc nL own Ts ret nm D dA cl tyL B) {x y : Int32} {off : Int} {tgt : Nat} (hd : decode cc pc = .ok (.if_icmp .eq off, 3)) (ht : (pc : Int) + off = (tgt : Int)) (kt : (x = y) → X p l e R s m args below meth c Q D dA cl B nL cells slots tgt lv st w) (kf : (¬ x = y) → X p l e R s m args below meth c Q D dA cl B nL cells slots (pc + 3) lv st w) : X p l e R s m args below meth c Q D dA cl B nL cells slots pc lv (.int y :: .int x :: st) w :=
  fun H locs ls h1 h2 h3 => lv_icmp_eq F.1 F.2.1 hd ht (fun hc => kt hc H locs ls h1 h2 h3) (fun hc => kf hc H locs ls h1 h2 h3)
theorem x_icmp_ne (F : x_Fix p s m args meth c cc nL own Ts ret nm D dA cl tyL B) {x y : Int32} {off : Int} {tgt : Nat} (hd : decode cc pc = .ok (.if_icmp .ne off, 3)) (ht : (pc : Int) + off = (tgt : Int)) (kt : (¬ x = y) → X p l e R s m args below meth c Q D dA cl B nL cells slots tgt lv st w) (kf : (x = y) → X p l e R s m args below meth c Q D dA cl B nL cells slots (pc + 3) lv st w) : X p l e R s m args below meth c Q D dA cl B nL cells slots pc lv (.int y :: .int x :: st) w :=
  fun H locs ls h1 h2 h3 => lv_icmp_ne F.1 F.2.1 hd ht (fun hc => kt hc H locs ls h1 h2 h3) (fun hc => kf hc H locs ls h1 h2 h3)
theorem x_icmp_lt (F : x_Fix p s m args meth c cc nL own Ts ret nm D dA cl tyL B) {x y : Int32} {off : Int} {tgt : Nat} (hd : decode cc pc = .ok (.if_icmp .lt off, 3)) (ht : (pc : Int) + off = (tgt : Int)) (kt : (x < y) → X p l e R s m args below meth c Q D dA cl B nL cells slots tgt lv st w) (kf : (¬ x < y) → X p l e R s m args below meth c Q D dA cl B nL cells slots (pc + 3) lv st w) : X p l e R s m args below meth c Q D dA cl B nL cells slots pc lv (.int y :: .int x :: st) w :=
  fun H locs ls h1 h2 h3 => lv_icmp_lt F.1 F.2.1 hd ht (fun hc => kt hc H locs ls h1 h2 h3) (fun hc => kf hc H locs ls h1 h2 h3)
theorem x_icmp_ge (F : x_Fix p s m args meth c cc nL own Ts ret nm D dA cl tyL B) {x y : Int32} {off : Int} {tgt : Nat} (hd : decode cc pc = .ok (.if_icmp .ge off, 3)) (ht : (pc : Int) + off = (tgt : Int)) (kt : (y ≤ x) → X p l e R s m args below meth c Q D dA cl B nL cells slots tgt lv st w) (kf : (¬ y ≤ x) → X p l e R s m args below meth c Q D dA cl B nL cells slots (pc + 3) lv st w) : X p l e R s m args below meth c Q D dA cl B nL cells slots pc lv (.int y :: .int x :: st) w :=
  fun H locs ls h1 h2 h3 => lv_icmp_ge F.1 F.2.1 hd ht (fun hc => kt hc H locs ls h1 h2 h3) (fun hc => kf hc H locs ls h1 h2 h3)
theorem x_icmp_gt (F : x_Fix p s m args meth c cc nL own Ts ret nm D dA cl tyL B) {x y : Int32} {off : Int} {tgt : Nat} (hd : decode cc pc = .ok (.if_icmp .gt off, 3)) (ht : (pc : Int) + off = (tgt : Int)) (kt : (y < x) → X p l e R s m args below meth c Q D dA cl B nL cells slots tgt lv st w) (kf : (¬ y < x) → X p l e R s m args below meth c Q D dA cl B nL cells slots (pc + 3) lv st w) : X p l e R s m args below meth c Q D dA cl B nL cells slots pc lv (.int y :: .int x :: st) w :=
  fun H locs ls h1 h2 h3 => lv_icmp_gt F.1 F.2.1 hd ht (fun hc => kt hc H locs ls h1 h2 h3) (fun hc => kf hc H locs ls h1 h2 h3)
theorem x_icmp_le (F : x_Fix p s m args meth c cc nL own Ts ret nm D dA cl tyL B) {x y : Int32} {off : Int} {tgt : Nat} (hd : decode cc pc = .ok (.if_icmp .le off, 3)) (ht : (pc : Int) + off = (tgt : Int)) (kt : (x ≤ y) → X p l e R s m args below meth c Q D dA cl B nL cells slots tgt lv st w) (kf : (¬ x ≤ y) → X p l e R s m args below meth c Q D dA cl B nL cells slots (pc + 3) lv st w) : X p l e R s m args below meth c Q D dA cl B nL cells slots pc lv (.int y :: .int x :: st) w :=
  fun H locs ls h1 h2 h3 => lv_icmp_le F.1 F.2.1 hd ht (fun hc => kt hc H locs ls h1 h2 h3) (fun hc => kf hc H locs ls h1 h2 h3)
theorem x_acmp_eq (F : x_Fix p s m args meth c cc nL own Ts ret nm D dA cl tyL B) {rx ry : Option Nat} {off : Int} {tgt : Nat} (hd : decode cc pc = .ok (.if_acmp .eq off, 3)) (ht : (pc : Int) + off = (tgt : Int)) (kt : (rx = ry) → X p l e R s m args below meth c Q D dA cl B nL cells slots tgt lv st w) (kf : (¬ rx = ry) → X p l e R s m args below meth c Q D dA cl B nL cells slots (pc + 3) lv st w) : X p l e R s m args below meth c Q D dA cl B nL cells slots pc lv (va_rf ry :: va_rf rx :: st) w :=
  fun H locs ls h1 h2 h3 => lv_acmp_eq F.1 F.2.1 hd ht (fun hc => kt hc H locs ls h1 h2 h3) (fun hc => kf hc H locs ls h1 h2 h3)
theorem x_acmp_ne (F : x_Fix p s m args meth c cc nL own Ts ret nm D dA cl tyL B) {rx ry : Option Nat} {off : Int} {tgt : Nat} (hd : decode cc pc = .ok (.if_acmp .ne off, 3)) (ht : (pc : Int) + off = (tgt : Int)) (kt : (¬ rx = ry) → X p l e R s m args below meth c Q D dA cl B nL cells slots tgt lv st w) (kf : (rx = ry) → X p l e R s m args below meth c Q D dA cl B nL cells slots (pc + 3) lv st w) : X p l e R s m args below meth c Q D dA cl B nL cells slots pc lv (va_rf ry :: va_rf rx :: st) w :=
  fun H locs ls h1 h2 h3 => lv_acmp_ne F.1 F.2.1 hd ht (fun hc => kt hc H locs ls h1 h2 h3) (fun hc => kf hc H locs ls h1 h2 h3)
theorem x_goto (F : x_Fix p s m args meth c cc nL own Ts ret nm D dA cl tyL B) {off : Int} {tgt : Nat} (hd : decode cc pc = .ok (.goto off, 3)) (ht : (pc : Int) + off = (tgt : Int)) (k : X p l e R s m args below meth c Q D dA cl B nL cells slots tgt lv st w) : X p l e R s m args below meth c Q D dA cl B nL cells slots pc lv st w :=
  fun H locs ls h1 h2 h3 => lv_goto F.1 F.2.1 hd ht (k H locs ls h1 h2 h3)
theorem x_ifnull (F : x_Fix p s m args meth c cc nL own Ts ret nm D dA cl tyL B) {x : Nat} {off : Int} (hd : decode cc pc = .ok (.ifnull off, 3)) (k : X p l e R s m args below meth c Q D dA cl B nL cells slots (pc + 3) lv st w) : X p l e R s m args below meth c Q D dA cl B nL cells slots pc lv (.ref x :: st) w :=
  fun H locs ls h1 h2 h3 => lv_ifnull F.1 F.2.1 hd (k H locs ls h1 h2 h3)
theorem x_ifnonnull (F : x_Fix p s m args meth c cc nL own Ts ret nm D dA cl tyL B) {x : Nat} {off : Int} {tgt : Nat} (hd : decode cc pc = .ok (.ifnonnull off, 3)) (ht : (pc : Int) + off = (tgt : Int)) (k : X p l e R s m args below meth c Q D dA cl B nL cells slots tgt lv st w) : X p l e R s m args below meth c Q D dA cl B nL cells slots pc lv (.ref x :: st) w :=
  fun H locs ls h1 h2 h3 => lv_ifnonnull F.1 F.2.1 hd ht (k H locs ls h1 h2 h3)
theorem x_ifnullN (F : x_Fix p s m args meth c cc nL own Ts ret nm D dA cl tyL B) {off : Int} {tgt : Nat} (hd : decode cc pc = .ok (.ifnull off, 3)) (ht : (pc : Int) + off = (tgt : Int)) (k : X p l e R s m args below meth c Q D dA cl B nL cells slots tgt lv st w) : X p l e R s m args below meth c Q D dA cl B nL cells slots pc lv (.null :: st) w :=
  fun H locs ls h1 h2 h3 => lv_ifnullN F.1 F.2.1 hd ht (k H locs ls h1 h2 h3)
theorem x_ifnonnullN (F : x_Fix p s m args meth c cc nL own Ts ret nm D dA cl tyL B) {off : Int} (hd : decode cc pc = .ok (.ifnonnull off, 3)) (k : X p l e R s m args below meth c Q D dA cl B nL cells slots (pc + 3) lv st w) : X p l e R s m args below meth c Q D dA cl B nL cells slots pc lv (.null :: st) w :=
  fun H locs ls h1 h2 h3 => lv_ifnonnullN F.1 F.2.1 hd (k H locs ls h1 h2 h3)
theorem x_ifnullQ (F : x_Fix p s m args meth c cc nL own Ts ret nm D dA cl tyL B) {o : Option Nat} {off : Int} {tgt : Nat} (hd : decode cc pc = .ok (.ifnull off, 3)) (ht : (pc : Int) + off = (tgt : Int)) (kt : o = none → X p l e R s m args below meth c Q D dA cl B nL cells slots tgt lv st w) (kf : ∀ a, o = some a → X p l e R s m args below meth c Q D dA cl B nL cells slots (pc + 3) lv st w) : X p l e R s m args below meth c Q D dA cl B nL cells slots pc lv (va_rf o :: st) w := by
  cases o with
  | none => exact x_ifnullN F hd ht (kt rfl)
  | some a => exact x_ifnull F hd (kf a rfl)
theorem x_ifnonnullQ (F : x_Fix p s m args meth c cc nL own Ts ret nm D dA cl tyL B) {o : Option Nat} {off : Int} {tgt : Nat} (hd : decode cc pc = .ok (.ifnonnull off, 3)) (ht : (pc : Int) + off = (tgt : Int)) (kt : ∀ a, o = some a → X p l e R s m args below meth c Q D dA cl B nL cells slots tgt lv st w) (kf : o = none → X p l e R s m args below meth c Q D dA cl B nL cells slots (pc + 3) lv st w) : X p l e R s m args below meth c Q D dA cl B nL cells slots pc lv (va_rf o :: st) w := by
  cases o with
  | none => exact x_ifnonnullN F hd (kf rfl)
  | some a => exact x_ifnonnull F hd ht (kt a rfl)
theorem x_tableIn (F : x_Fix p s m args meth c cc nL own Ts ret nm D dA cl tyL B) {dflt lo hi : Int} {offs : Array Int} {len : Nat} {x : Int32} {off : Int} {tgt : Nat} (hd : decode cc pc = .ok (.tableswitch dflt lo hi offs, len)) (g1 : ¬ x.toInt < lo) (g2 : ¬ hi < x.toInt) (ho : offs[(x.toInt - lo).toNat]? = some off) (ht : (pc : Int) + off = (tgt : Int)) (k : X p l e R s m args below meth c Q D dA cl B nL cells slots tgt lv st w) : X p l e R s m args below meth c Q D dA cl B nL cells slots pc lv (.int x :: st) w :=
  fun H locs ls h1 h2 h3 => lv_tableIn F.1 F.2.1 hd g1 g2 ho ht (k H locs ls h1 h2 h3)
theorem x_tableOut (F : x_Fix p s m args meth c cc nL own Ts ret nm D dA cl tyL B) {dflt lo hi : Int} {offs : Array Int} {len : Nat} {x : Int32} {tgt : Nat} (hd : decode cc pc = .ok (.tableswitch dflt lo hi offs, len)) (g : x.toInt < lo ∨ hi < x.toInt) (ht : (pc : Int) + dflt = (tgt : Int)) (k : X p l e R s m args below meth c Q D dA cl B nL cells slots tgt lv st w) : X p l e R s m args below meth c Q D dA cl B nL cells slots pc lv (.int x :: st) w :=
  fun H locs ls h1 h2 h3 => lv_tableOut F.1 F.2.1 hd g ht (k H locs ls h1 h2 h3)
/-- fewer locals, in another order -/
theorem x_lv {lv' : List (Nat × Value)} (h : x_sub lv lv') (k : X p l e R s m args below meth c Q D dA cl B nL cells slots pc lv' st w) : X p l e R s m args below meth c Q D dA cl B nL cells slots pc lv st w := fun H locs ls h1 h2 h3 => k H locs ls h1 h2 (x_sub_has h3 h)
theorem x_lk {lv' : List (Nat × Value)} (k : X p l e R s m args below meth c Q D dA cl B nL cells slots pc lv' st w) (h : x_sub lv lv') : X p l e R s m args below meth c Q D dA cl B nL cells slots pc lv st w := x_lv h k
theorem x_widen {n1 n2 : Nat} (h1 : cells ≤ n1) (h2 : slots ≤ n2) (k : X p l e R s m args below meth c Q D dA cl B nL n1 n2 pc lv st w) : X p l e R s m args below meth c Q D dA cl B nL cells slots pc lv st w := fun H locs ls g1 g2 g3 => W.widen h1 h2 (k H locs ls g1 g2 g3)
theorem x_top {v : Value} (k : ∀ v2, v2 = v → X p l e R s m args below meth c Q D dA cl B nL cells slots pc lv (v2 :: st) w) : X p l e R s m args below meth c Q D dA cl B nL cells slots pc lv (v :: st) w := k v rfl
theorem x_wd (k : ∀ w2, w2 = w → X p l e R s m args below meth c Q D dA cl B nL cells slots pc lv st w2) : X p l e R s m args below meth c Q D dA cl B nL cells slots pc lv st w := k w rfl
/-- less of the world -/
theorem x_forget {w2 : xW} (h : ∀ a x, w2 a = some x → w a = some x) (k : X p l e R s m args below meth c Q D dA cl B nL cells slots pc lv st w2) : X p l e R s m args below meth c Q D dA cl B nL cells slots pc lv st w := fun H locs ls g1 g2 g3 => k H locs ls (fun a x hx => g1 a x (h a x hx)) g2 g3

/-- getfield -/
theorem x_get (F : x_Fix p s m args meth c cc nL own Ts ret nm D dA cl tyL B) {ref C : String} {T : u_T} {N ci index a k : Nat} {fs : List Value} {v : Value} (hd : decode cc pc = .ok (.getfield index, 3)) (hc : cl[ci]? = some (C, T, N)) (hin : ∀ q ∈ u_ws C T N, q ∈ Ts) (hk : k < N) (hlink : Cond.fieldLink own index ref (T k).2.1 (T k).2.2.1 ∈ Ts) (href : (T k).1 = ref) (hw : w a = some (.inr (ci, fs))) (hv : fs[k]? = some v) (kk : X p l e R s m args below meth c Q D dA cl B nL cells slots (pc + 3) lv (v :: st) w) : X p l e R s m args below meth c Q D dA cl B nL cells slots pc lv (.ref a :: st) w := by
  subst href
  intro H locs ls h1 h2 h3
  obtain ⟨i, hi⟩ := h1.at hw
  exact va_get F.1 F.2.1 F.2.2.2.2.1 hin F.2.2.2.1 F.2.2.2.2.2.1 h1.toL i hi hc k hk (F.2.2.2.2.1 _ hlink) (fun _ h => h) hv hd (kk H locs ls h1 h2 h3)
/-- putfield -/
theorem x_put (F : x_Fix p s m args meth c cc nL own Ts ret nm D dA cl tyL B) {ref C : String} {T : u_T} {N ci index a k : Nat} {fs : List Value} {v : Value} (hd : decode cc pc = .ok (.putfield index, 3)) (hc : cl[ci]? = some (C, T, N)) (hin : ∀ q ∈ u_ws C T N, q ∈ Ts) (ty0 : Nat → FieldType) (hty : ∀ k, k < N → parseFieldDescriptor (T k).2.2.1 = some (ty0 k)) (hnm : ∀ a, a < N → ∀ b, b < N → a ≠ b → (T a).2.1 ≠ (T b).2.1) (hk : k < N) (hlink : Cond.fieldLink own index ref (T k).2.1 (T k).2.2.1 ∈ Ts) (href : (T k).1 = ref) (hfin : (T k).2.2.2 = false) (hw : w a = some (.inr (ci, fs))) (hl : k < fs.length) (hn : narrow (ty0 k) v = v) (hfit : fits (ty0 k) v = true) (kk : X p l e R s m args below meth c Q D dA cl B nL cells slots (pc + 3) lv st (x_set w a (.inr (ci, fs.set k v)))) : X p l e R s m args below meth c Q D dA cl B nL cells slots pc lv (v :: .ref a :: st) w := by
  subst href
  intro H locs ls h1 h2 h3
  obtain ⟨i, hi⟩ := h1.at hw
  exact va_put F.1 F.2.1 F.2.2.2.2.1 hin ty0 hty hnm F.2.2.2.1 F.2.2.2.2.2.1 h1.toL h1.toD h2 i hi hc k hk (F.2.2.2.2.1 _ hlink) (fun _ h => h) hfin (hty k hk) hn hfit hl hd (fun H1 locs1 g1 _ g3 => kk H1 locs1 ls (h1.ofSet hw hi g1) g3 h3)
/-- putfield of a final field, in a constructor -/
theorem x_putF (F : x_Fix p s m args meth c cc nL own Ts ret nm D dA cl tyL B) {ref C : String} {T : u_T} {N ci index a k : Nat} {fs : List Value} {v : Value} (hd : decode cc pc = .ok (.putfield index, 3)) (hc : cl[ci]? = some (C, T, N)) (hin : ∀ q ∈ u_ws C T N, q ∈ Ts) (ty0 : Nat → FieldType) (hty : ∀ k, k < N → parseFieldDescriptor (T k).2.2.1 = some (ty0 k)) (hnm : ∀ a, a < N → ∀ b, b < N → a ≠ b → (T a).2.1 ≠ (T b).2.1) (hk : k < N) (hlink : Cond.fieldLink own index ref (T k).2.1 (T k).2.2.1 ∈ Ts) (href : (T k).1 = ref) (hfin : (T k).2.2.2 = true) (hnm0 : nm = "<init>") (hdecl : (T k).1 = own) (hw : w a = some (.inr (ci, fs))) (hl : k < fs.length) (hn : narrow (ty0 k) v = v) (hfit : fits (ty0 k) v = true) (kk : X p l e R s m args below meth c Q D dA cl B nL cells slots (pc + 3) lv st (x_set w a (.inr (ci, fs.set k v)))) : X p l e R s m args below meth c Q D dA cl B nL cells slots pc lv (v :: .ref a :: st) w := by
  subst href
  intro H locs ls h1 h2 h3
  obtain ⟨i, hi⟩ := h1.at hw
  exact va_putF F.1 F.2.1 F.2.2.2.2.1 hin ty0 hty hnm F.2.2.2.1 F.2.2.2.2.2.1 h1.toL h1.toD h2 i hi hc k hk (F.2.2.2.2.1 _ hlink) (fun _ h => h) hfin (F.2.2.2.2.2.2.2.2.2.1.trans hnm0) hdecl (hty k hk) hn hfit hl hd (fun H1 locs1 g1 _ g3 => kk H1 locs1 ls (h1.ofSet hw hi g1) g3 h3)
/-- new -/
theorem x_new (F : x_Fix p s m args meth c cc nL own Ts ret nm D dA cl tyL B) {C : String} {T : u_T} {N ci index : Nat} {fs : List Value} (hd : decode cc pc = .ok (.new index, 3)) (hc : cl[ci]? = some (C, T, N)) (hin : ∀ q ∈ u_ws C T N, q ∈ Ts) (ty0 : Nat → FieldType) (hty : ∀ k, k < N → parseFieldDescriptor (T k).2.2.1 = some (ty0 k)) (hcl : Cond.classLink own index C ∈ Ts) (hinst : Cond.instantiable C N ∈ Ts) (hini : Cond.initialized C ∈ Ts) (hfs : ∀ j, j < N → defaultValue (ty0 j) = vp_V fs j) (hcells : cells + 1 ≤ R.cells) (hslots : slots + N ≤ R.slots) (kk : ∀ a, w a = none → X p l e R s m args below meth c Q D dA cl B nL (cells + 1) (slots + N) (pc + 3) lv (.ref a :: st) (x_set w a (.inr (ci, fs)))) : X p l e R s m args below meth c Q D dA cl B nL cells slots pc lv st w := by
  intro H locs ls h1 h2 h3
  refine va_new F.1 F.2.1 F.2.2.2.2.1 hin ty0 hty F.2.2.2.1 (F.2.2.2.2.1 _ hcl) (F.2.2.2.2.1 _ hinst) (F.2.2.2.2.1 _ hini) F.2.2.2.2.2.1 h1.toL h1.toD h2 (fun q hq => Nat.le_trans F.2.2.2.2.2.2.1 hq) hc (fs := fs) hfs hcells hslots hd (fun q H1 g1 g2 g3 => ?_)
  have hq : B ≤ q := g2.2 (x_L dA w H.size).length (q, .inr (ci, fs)) (by simp)
  obtain ⟨f1, f2⟩ := h1.ofPush (x := .inr (ci, fs)) hq g1 g2
  exact kk q f1 H1 locs ls f2 g3 h3
/-- the length of an array -/
theorem x_alen (F : x_Fix p s m args meth c cc nL own Ts ret nm D dA cl tyL B) {t a : Nat} {z : vp_A} {ty : FieldType} {v : Int32} (hd : decode cc pc = .ok (.arraylength, 1)) (ht : tyL[t]? = some ty) (hw : w a = some (.inl (t, z))) (hv : Int32.ofNat z.1 = v) (kk : X p l e R s m args below meth c Q D dA cl B nL cells slots (pc + 1) lv (.int v :: st) w) : X p l e R s m args below meth c Q D dA cl B nL cells slots pc lv (.ref a :: st) w := by
  intro H locs ls h1 h2 h3
  obtain ⟨i, hi⟩ := h1.at hw
  exact va_alen F.1 F.2.1 F.2.2.2.2.2.1 h1.toL i t hi (x_tys_at ht) hv hd (kk H locs ls h1 h2 h3)
theorem x_iald (F : x_Fix p s m args meth c cc nL own Ts ret nm D dA cl tyL B) {t a n : Nat} {f : Nat → Int32} {i : Int32} (hd : decode cc pc = .ok (.iaload, 1)) (ht : tyL[t]? = some .int) (hw : w a = some (.inl (t, n, .inl f))) (hin : vp_in i n) (kk : X p l e R s m args below meth c Q D dA cl B nL cells slots (pc + 1) lv (.int (f i.toNatClampNeg) :: st) w) : X p l e R s m args below meth c Q D dA cl B nL cells slots pc lv (.int i :: .ref a :: st) w := by
  intro H locs ls h1 h2 h3
  obtain ⟨j, hj⟩ := h1.at hw
  exact va_iald F.1 F.2.1 F.2.2.2.2.2.1 h1.toL j t hj (x_tys_at ht) hin hd (kk H locs ls h1 h2 h3)
theorem x_iast (F : x_Fix p s m args meth c cc nL own Ts ret nm D dA cl tyL B) {t a n : Nat} {f : Nat → Int32} {i v : Int32} (hd : decode cc pc = .ok (.iastore, 1)) (ht : tyL[t]? = some .int) (hw : w a = some (.inl (t, n, .inl f))) (hin : vp_in i n) (kk : X p l e R s m args below meth c Q D dA cl B nL cells slots (pc + 1) lv st (x_set w a (.inl (t, n, .inl (upd f i.toNatClampNeg v))))) : X p l e R s m args below meth c Q D dA cl B nL cells slots pc lv (.int v :: .int i :: .ref a :: st) w := by
  intro H locs ls h1 h2 h3
  obtain ⟨j, hj⟩ := h1.at hw
  exact va_iast F.1 F.2.1 F.2.2.2.2.2.1 h1.toL h1.toD h2 j t hj (x_tys_at ht) hin hd (fun H1 locs1 g1 _ g3 => kk H1 locs1 ls (h1.ofSet (x := .inl (t, n, .inl (upd f i.toNatClampNeg v))) hw hj g1) g3 h3)
theorem x_aald (F : x_Fix p s m args meth c cc nL own Ts ret nm D dA cl tyL B) {t a n : Nat} {C : String} {f : Nat → Option Nat} {i : Int32} (hd : decode cc pc = .ok (.aaload, 1)) (ht : tyL[t]? = some (.object C)) (hw : w a = some (.inl (t, n, .inr (.inr (.inr (.inr f)))))) (hin : vp_in i n) (kk : X p l e R s m args below meth c Q D dA cl B nL cells slots (pc + 1) lv (va_rf (f i.toNatClampNeg) :: st) w) : X p l e R s m args below meth c Q D dA cl B nL cells slots pc lv (.int i :: .ref a :: st) w := by
  intro H locs ls h1 h2 h3
  obtain ⟨j, hj⟩ := h1.at hw
  exact va_aldq F.1 F.2.1 F.2.2.2.2.2.1 h1.toL j t hj (x_tys_at ht) hin hd (kk H locs ls h1 h2 h3)
theorem x_aast (F : x_Fix p s m args meth c cc nL own Ts ret nm D dA cl tyL B) {t a n v ci N : Nat} {C : String} {T : u_T} {vs : List Value} {f : Nat → Option Nat} {i : Int32} (hd : decode cc pc = .ok (.aastore, 1)) (ht : tyL[t]? = some (.object C)) (hc : cl[ci]? = some (C, T, N)) (hw : w a = some (.inl (t, n, .inr (.inr (.inr (.inr f)))))) (hv : w v = some (.inr (ci, vs))) (hin : vp_in i n) (kk : X p l e R s m args below meth c Q D dA cl B nL cells slots (pc + 1) lv st (x_set w a (.inl (t, n, .inr (.inr (.inr (.inr (va_up f i.toNatClampNeg (some v))))))))) : X p l e R s m args below meth c Q D dA cl B nL cells slots pc lv (.ref v :: .int i :: .ref a :: st) w := by
  intro H locs ls h1 h2 h3
  obtain ⟨j, hj⟩ := h1.at hw
  obtain ⟨j2, hj2⟩ := h1.at hv
  exact va_astq (r := (C, T, N)) F.1 F.2.1 F.2.2.2.2.2.1 h1.toL h1.toD h2 j t j2 ci hj (x_tys_at ht) hj2 hc hin hd (fun H1 locs1 g1 _ g3 => kk H1 locs1 ls (h1.ofSet (x := .inl (t, n, .inr (.inr (.inr (.inr (va_up f i.toNatClampNeg (some v))))))) hw hj g1) g3 h3)
/-- a new int array -/
theorem x_newa (F : x_Fix p s m args meth c cc nL own Ts ret nm D dA cl tyL B) {t N : Nat} {n : Int32} (hd : decode cc pc = .ok (.newarray .int, 2)) (ht : tyL[t]? = some .int) (harr : Cond.arrayClass .int ∈ Ts) (hn : ¬ n < 0) (hN : n.toNatClampNeg = N) (hbytes : N * componentBytes .int ≤ 536870912) (hcells : cells + 1 ≤ R.cells) (hslots : slots + N ≤ R.slots) (kk : ∀ a, w a = none → X p l e R s m args below meth c Q D dA cl B nL (cells + 1) (slots + N) (pc + 2) lv (.ref a :: st) (x_set w a (.inl (t, N, .inl (fun _ => 0))))) : X p l e R s m args below meth c Q D dA cl B nL cells slots pc lv (.int n :: st) w := by
  intro H locs ls h1 h2 h3
  refine va_newa (atype := .int) (ty := .int) (a0 := (N, .inl (fun _ => 0))) F.1 F.2.1 (F.2.2.2.2.1 _ harr) rfl F.2.2.2.2.2.1 h1.toL h1.toD h2 (fun q hq => Nat.le_trans F.2.2.2.2.2.2.1 hq) (fun cA => by rw [vp_cell_i]; rfl) hn hN hbytes hcells hslots hd (fun q cA H1 gK g1 g2 g3 => ?_)
  have hq : B ≤ q := g2.2 (x_L dA w H.size).length (q, .inl (cA, N, .inl (fun _ => 0))) (by simp)
  have e1 : s.vm.findClass ("[" ++ FieldType.int.toString) = some cA := (gK.2 (x_tys dA tyL).length (cA, .int) (by simp)).2
  have e2 : s.vm.findClass ("[" ++ FieldType.int.toString) = some (dA t) := (F.2.2.2.2.2.1.2 t (dA t, .int) (x_tys_at ht)).2
  have hcA : cA = dA t := Option.some.inj (e1.symm.trans e2)
  subst hcA
  obtain ⟨f1, f2⟩ := h1.ofPush (x := .inl (t, N, .inl (fun _ => 0))) hq g1 g2
  exact kk q f1 H1 locs ls f2 g3 h3
/-- a new array of references -/
theorem x_newq (F : x_Fix p s m args meth c cc nL own Ts ret nm D dA cl tyL B) {t N index : Nat} {C : String} {n : Int32} (hd : decode cc pc = .ok (.anewarray index, 3)) (ht : tyL[t]? = some (.object C)) (hcl : Cond.classLink own index C ∈ Ts) (hover : va_AO C s) (hn : ¬ n < 0) (hN : n.toNatClampNeg = N) (hbytes : N * 4 ≤ 536870912) (hcells : cells + 1 ≤ R.cells) (hslots : slots + N ≤ R.slots) (kk : ∀ a, w a = none → X p l e R s m args below meth c Q D dA cl B nL (cells + 1) (slots + N) (pc + 3) lv (.ref a :: st) (x_set w a (.inl (t, N, .inr (.inr (.inr (.inr (fun _ => none)))))))) : X p l e R s m args below meth c Q D dA cl B nL cells slots pc lv (.int n :: st) w := by
  intro H locs ls h1 h2 h3
  refine va_newq F.1 F.2.1 F.2.2.2.1 (F.2.2.2.2.1 _ hcl) hover F.2.2.2.2.2.1 h1.toL h1.toD h2 (fun q hq => Nat.le_trans F.2.2.2.2.2.2.1 hq) hn hN hbytes hcells hslots hd (fun q cA H1 gK g1 g2 g3 => ?_)
  have hq : B ≤ q := g2.2 (x_L dA w H.size).length (q, .inl (cA, N, .inr (.inr (.inr (.inr (fun _ => none)))))) (by simp)
  obtain ⟨_, _, _, _, _, e1⟩ := (gK.2 (x_tys dA tyL).length (cA, .object C) (by simp)).2
  obtain ⟨_, _, _, _, _, e2⟩ := (F.2.2.2.2.2.1.2 t (dA t, .object C) (x_tys_at ht)).2
  have hcA : cA = dA t := Option.some.inj (e1.symm.trans e2)
  subst hcA
  obtain ⟨f1, f2⟩ := h1.ofPush (x := .inl (t, N, .inr (.inr (.inr (.inr (fun _ => none)))))) hq g1 g2
  exact kk q f1 H1 locs ls f2 g3 h3
/-- Object's constructor -/
theorem x_objInit (F : x_Fix p s m args meth c cc nL own Ts ret nm D dA cl tyL B) {idx a : Nat} (hd : decode cc pc = .ok (.invokespecial idx, 3)) (hl : Cond.methodLink own idx objectInit ∈ Ts) (hi : Cond.instanceMethod objectInit ∈ Ts) (hc : Cond.code objectInit ⟨#[0xb1]⟩ 1 none ∈ Ts) (hf : 1 ≤ R.frames) (hlo : (st.map fun v => v.category).sum + 12 ≤ R.locals) (kk : X p l e R s m args below meth c Q D dA cl B nL cells slots (pc + 3) lv st w) : X p l e R s m args below meth c Q D dA cl B nL cells slots pc lv (.ref a :: st) w := by
  intro H locs ls h1 h2 h3
  exact W.objInit F.1 F.2.1 F.2.2.2.1 (F.2.2.2.2.1 _ hl) (F.2.2.2.2.1 _ hi) (F.2.2.2.2.1 _ hc) rfl (h3.1.trans F.2.2.1.symm) rfl hd hf (by simpa [JFrame.monitorRoom] using hlo) (kk H locs ls h1 h2 h3)
/-- Math.max of two ints -/
theorem x_max (F : x_Fix p s m args meth c cc nL own Ts ret nm D dA cl tyL B) {index : Nat} {x y : Int32} (hd : decode cc pc = .ok (.invokestatic index, 3)) (hl : Cond.methodLink own index Lib.Math.max.name ∈ Ts) (hs : Cond.static Lib.Math.max.name ∈ Ts) (hi : Cond.initialized "java/lang/Math" ∈ Ts) (hco : Cond.code Lib.Math.max.name Lib.Math.max.code 2 (some .int) ∈ Ts) (hf : 1 ≤ R.frames) (hlo : (st.map fun v => v.category).sum + 13 ≤ R.locals) (g1 : cells ≤ R.cells) (g2 : slots ≤ R.slots) (kk : X p l e R s m args below meth c Q D dA cl B nL cells slots (pc + 3) lv (.int (if x < y then y else x) :: st) w) : X p l e R s m args below meth c Q D dA cl B nL cells slots pc lv (.int y :: .int x :: st) w := by
  intro H locs ls h1 h2 h3
  exact va_mmax F.1 F.2.1 (F.2.2.1.trans h3.1.symm) F.2.2.2.1 (F.2.2.2.2.1 _ hl) (F.2.2.2.2.1 _ hs) (F.2.2.2.2.1 _ hi) (F.2.2.2.2.1 _ hco) hf hlo g1 g2 hd (kk H locs ls h1 h2 h3)

theorem x_blind {D : va_G} {dA : Nat → ClassId} {cl : List vw_C} {tyL : List FieldType} {B : Nat} {w : xW} {av : List Value} : FrameBlind (va_Pc av (fun U => B ≤ U.heap.size ∧ x_P D dA cl B w U.heap ∧ va_K D cl (x_tys dA tyL) U ∧ x_xt U)) :=
  fun a U g mk q => ⟨q.1, q.2.1, q.2.2.1, va_K.moved (u := U) (U := U.calling g mk a) (Vm.Alike.refl U.vm) q.2.2.2.1, x_xt.same (u := U) (U := U.calling g mk a) rfl q.2.2.2.2⟩
theorem x_goes {R : Room} {post : Option Value → xW → Prop} {a : Array Value} {ls : Array Slot} {H : Heap} {locs : List Loc} {rest st0 : List Value} {mc ms : Nat} (hS : va_S (fun q => B ≤ q) s.heap H locs) (hl : lv_has ls nL lv) (hr : va_Run p l e R s m args below meth c H locs cells slots mc ms (F0 m pc ls st0) rest (x_Q D dA cl tyL B post a) (fun q => B ≤ q)) (k : ∀ r w1, post r w1 → X p l e R s m args below meth c Q D dA cl B nL (cells + mc) (slots + ms) (pc + 3) lv (r.toList ++ rest) w1) : W p l e R s m args below meth c H locs cells slots Q (F0 m pc ls st0) := by
  intro T hT X0
  obtain ⟨v, st₀, t, T', L, h0, X', hL, e1, e2, ⟨⟨r, w1, hv, hp, hw, -⟩, hz, hk⟩, sg⟩ := hr T hT X0
  cases hv
  rw [h0] at hz hk
  have hw' : x_P D dA cl B w1 T'.heap := by rw [e1]; exact hw
  obtain ⟨t2, a1, b1⟩ := k v w1 hp T'.heap (locs ++ L) ls hw' ⟨Nat.le_trans hS.1 (by rw [e1]; exact hz), fun q h1 h2 => by rw [e1, hk q (Nat.lt_of_lt_of_le h1 hS.1) h2]; exact hS.2.1 q h1 h2, fun q hq => by
      rcases List.mem_append.mp hq with h | h
      · exact hS.2.2 q h
      · exact hL q h⟩ hl T' rfl X'
  exact ⟨t2, sg t2 a1, b1⟩
/-- a call: what a program can decide of it -/
def x_call (R : Room) (cells slots : Nat) (rm : Room) (mc ms : Nat) (ws ws2 : List Cond) (y : MethodName) (bytes : ByteArray) (maxL : Nat) (rt : Option FieldType) (n : Nat) : Prop :=
  ws = Cond.code y bytes maxL rt :: ws2 ∧ rm.cells = mc ∧ rm.slots = ms ∧ (y.cls ≠ "java/lang/invoke/MethodHandle" ∧ y.cls ≠ "java/lang/invoke/VarHandle" ∧ (parseMethodDescriptor y.desc).map (fun d => d.parameters.length) = some n) ∧ (rm.frames + 1 ≤ R.frames ∧ 8 + (maxL + 11) + rm.locals ≤ R.locals) ∧ cells + mc ≤ R.cells ∧ slots + ms ≤ R.slots
theorem x_callV (F : x_Fix p s m args meth c cc nL own Ts ret nm D dA cl tyL B) {C : String} {T : u_T} {N ci index maxL n mc ms b : Nat} {y : MethodName} {bytes : ByteArray} {rt : Option FieldType} {ws ws2 : List Cond} {rm : Room} {av rest fs : List Value} {post : Option Value → xW → Prop} (hd : decode cc pc = .ok (.invokevirtual index, 3)) (hG : GoodIn Ts (wsV own index C y ws)) (hy : y.cls = C) (hM : x_Ct l D dA cl tyL B y ws rm (.ref b :: av) w post mc ms) (hC : x_call R cells slots rm mc ms ws ws2 y bytes maxL rt n) (hc : cl[ci]? = some (C, T, N)) (hb : w b = some (.inr (ci, fs))) (hn : av.length = n) (hst : st = av.reverse ++ .ref b :: rest) (hcat : (rest.map fun v => v.category).sum ≤ 8) (k : ∀ r w1, post r w1 → X p l e R s m args below meth c Q D dA cl B nL (cells + mc) (slots + ms) (pc + 3) lv (r.toList ++ rest) w1) : X p l e R s m args below meth c Q D dA cl B nL cells slots pc lv st w := by
  intro H locs ls h1 h2 h3
  obtain ⟨c1, c2, c3, c4, c5, c6⟩ := hC
  obtain ⟨i, hi⟩ := h1.at hb
  exact x_goes h2 h3 (va_runV (As := av) (rest := rest) ⟨F.1, F.2.1, F.2.2.1, F.2.2.2.1, F.2.2.2.2.1⟩ hM (cwV n F.2.2.2.2.1 hG c1 c2 c3 ⟨hy, c4⟩ c5) ⟨x_blind, va_recv F.2.2.2.2.2.1 h1.toL hc hi, fun U hU hW => ⟨rfl, by rw [hU]; exact Nat.le_trans F.2.2.2.2.2.2.1 h2.1, by rw [hU]; exact h1, va_K.moved hW.alike F.2.2.2.2.2.1, x_xt.warm hW F.2.2.2.2.2.2.2.2.2.2⟩⟩ rfl hn h3.1 hst (lv_room hcat) hd c6) k
theorem x_callS (F : x_Fix p s m args meth c cc nL own Ts ret nm D dA cl tyL B) {index maxL n mc ms : Nat} {y : MethodName} {bytes : ByteArray} {rt : Option FieldType} {ws ws2 : List Cond} {rm : Room} {av rest : List Value} {post : Option Value → xW → Prop} (hd : decode cc pc = .ok (.invokestatic index, 3)) (hG : GoodIn Ts (va_wsS own index y ws)) (hM : x_Ct l D dA cl tyL B y ws rm av w post mc ms) (hC : x_call R cells slots rm mc ms ws ws2 y bytes maxL rt n) (hn : av.length = n) (hst : st = av.reverse ++ rest) (hcat : (rest.map fun v => v.category).sum ≤ 8) (k : ∀ r w1, post r w1 → X p l e R s m args below meth c Q D dA cl B nL (cells + mc) (slots + ms) (pc + 3) lv (r.toList ++ rest) w1) : X p l e R s m args below meth c Q D dA cl B nL cells slots pc lv st w := by
  intro H locs ls h1 h2 h3
  obtain ⟨c1, c2, c3, c4, c5, c6⟩ := hC
  exact x_goes h2 h3 (va_runS (As := av) (rest := rest) ⟨F.1, F.2.1, F.2.2.1, F.2.2.2.1, F.2.2.2.2.1⟩ hM (va_cwS n F.2.2.2.2.1 hG c1 c2 c3 c4 c5) ⟨x_blind, fun U hU hW => ⟨rfl, by rw [hU]; exact Nat.le_trans F.2.2.2.2.2.2.1 h2.1, by rw [hU]; exact h1, va_K.moved hW.alike F.2.2.2.2.2.1, x_xt.warm hW F.2.2.2.2.2.2.2.2.2.2⟩⟩ rfl hn h3.1 hst (lv_room hcat) hd c6) k
theorem x_callI (F : x_Fix p s m args meth c cc nL own Ts ret nm D dA cl tyL B) {index maxL n mc ms b : Nat} {y : MethodName} {bytes : ByteArray} {ws ws2 : List Cond} {rm : Room} {av rest : List Value} {post : Option Value → xW → Prop} (hd : decode cc pc = .ok (.invokespecial index, 3)) (hG : GoodIn Ts ws) (hini : Cond.initialized y.cls ∈ Ts) (hlk : Cond.methodLink own index y ∈ Ts) (hin : Cond.instanceMethod y ∈ Ts) (hy : y.name = "<init>") (hM : x_Ct l D dA cl tyL B y ws rm (.ref b :: av) w post mc ms) (hC : x_call R cells slots rm mc ms ws ws2 y bytes maxL none n) (hn : av.length = n) (hst : st = av.reverse ++ .ref b :: rest) (hcat : (rest.map fun v => v.category).sum ≤ 8) (k : ∀ r w1, post r w1 → X p l e R s m args below meth c Q D dA cl B nL (cells + mc) (slots + ms) (pc + 3) lv (r.toList ++ rest) w1) : X p l e R s m args below meth c Q D dA cl B nL cells slots pc lv st w := by
  intro H locs ls h1 h2 h3
  obtain ⟨c1, c2, c3, c4, c5, c6⟩ := hC
  exact x_goes h2 h3 (va_runI (As := av) (rest := rest) ⟨F.1, F.2.1, F.2.2.1, F.2.2.2.1, F.2.2.2.2.1⟩ hM (cwI n F.2.2.2.2.1 hG c1 c2 c3 (F.2.2.2.2.1 _ hini) (F.2.2.2.2.1 _ hlk) (F.2.2.2.2.1 _ hin) hy c4 c5) ⟨x_blind, fun U hU hW => ⟨rfl, by rw [hU]; exact Nat.le_trans F.2.2.2.2.2.2.1 h2.1, by rw [hU]; exact h1, va_K.moved hW.alike F.2.2.2.2.2.1, x_xt.warm hW F.2.2.2.2.2.2.2.2.2.2⟩⟩ rfl hn h3.1 hst (lv_room hcat) hd c6) k
theorem x_Fix.xt (F : x_Fix p s m args meth c cc nL own Ts ret nm D dA cl tyL B) : x_xt s := F.2.2.2.2.2.2.2.2.2.2
theorem x_callIN (F : x_Fix p s m args meth c cc nL own Ts ret nm D dA cl tyL B) {host : String} {index maxL n mc ms b : Nat} {y : MethodName} {bytes : ByteArray} {ws ws2 : List Cond} {rm : Room} {av rest : List Value} {post : Option Value → xW → Prop} (hd : decode cc pc = .ok (.invokespecial index, 3)) (hG : GoodIn Ts ws) (hini : Cond.initialized y.cls ∈ Ts) (hlk : va_Nw (.methodLinkNest own index y host) s) (hin : Cond.instanceMethod y ∈ Ts) (hy : y.name = "<init>") (hM : x_Ct l D dA cl tyL B y ws rm (.ref b :: av) w post mc ms) (hC : x_call R cells slots rm mc ms ws ws2 y bytes maxL none n) (hn : av.length = n) (hst : st = av.reverse ++ .ref b :: rest) (hcat : (rest.map fun v => v.category).sum ≤ 8) (k : ∀ r w1, post r w1 → X p l e R s m args below meth c Q D dA cl B nL (cells + mc) (slots + ms) (pc + 3) lv (r.toList ++ rest) w1) : X p l e R s m args below meth c Q D dA cl B nL cells slots pc lv st w := by
  intro H locs ls h1 h2 h3
  obtain ⟨c1, c2, c3, c4, c5, c6⟩ := hC
  exact x_goes h2 h3 (va_runIN (As := av) (rest := rest) ⟨F.1, F.2.1, F.2.2.1, F.2.2.2.1, F.2.2.2.2.1⟩ hM ⟨va_cnB n F.2.2.2.2.1 hG c1 c2 c3 hlk (F.2.2.2.2.1 _ hini) c4 c5, hy, F.2.2.2.2.1 _ hin⟩ ⟨x_blind, fun U hU hW => ⟨rfl, by rw [hU]; exact Nat.le_trans F.2.2.2.2.2.2.1 h2.1, by rw [hU]; exact h1, va_K.moved hW.alike F.2.2.2.2.2.1, x_xt.warm hW F.2.2.2.2.2.2.2.2.2.2⟩⟩ rfl hn h3.1 hst (lv_room hcat) hd c6) k
/-- a body: its entry -/
theorem x_Ct.of {y : MethodName} {ws ws2 : List Cond} {rm : Room} {av : List Value} {post : Option Value → xW → Prop} {mc ms : Nat} {cc : ByteArray} {maxL : Nat} {rt : Option FieldType} (hy : plainName y.cls = true) (hw : ws = Cond.code y cc maxL rt :: ws2) (hlen : (lg_sl av).length ≤ maxL)
    (body : ∀ (p : Program) (e : Env) (s : State) (m : MethodId) (below : List Frame) (meth : Method) (c : Code), x_Fix p s m av.toArray meth c cc maxL y.cls ws2 rt y.name D dA cl tyL B → X p l e rm s m av.toArray below meth c (MQ below (x_Q D dA cl tyL B post) av.toArray s mc ms (fun q => B ≤ q)) D dA cl B maxL 0 0 0 (lv_args 0 av) [] w) : x_Ct l D dA cl tyL B y ws rm av w post mc ms := by
  refine Met.ofW (cc := cc) (maxL := maxL) (ret := rt) hy hw ?_
  intro p e s m args below meth c s₁ B0 hml hv
  obtain ⟨rfl, hB, hP, hK, hX⟩ := hv
  have hl := lv_entry av hlen
  rw [lg_entry_eq]
  exact body p e s m below meth c ⟨B0.exec, B0.bytes, hml, findClass_of_methodNamed B0.named, (fun q hq => atoms_spec (ws := ws) B0.pre q (by rw [hw]; exact List.mem_cons_of_mem _ hq)), hK, hB, B0.returns, B0.notSynchronized, (name_of_methodNamed B0.named B0.method).1, hX⟩ s.heap [] _ hP va_S.rf hl
section XR
variable {post : Option Value → xW → Prop} {mc ms : Nat}
theorem x_iret (F : x_Fix p s m args meth c cc nL own Ts ret nm D dA cl tyL B) {v : Int32} {ty : FieldType} (hr : ret = some ty) (hn : narrow ty (.int v) = .int v) (hd : decode cc pc = .ok (.ireturn, 1)) (h1 : cells ≤ mc) (h2 : slots ≤ ms) (hq : post (some (.int v)) w) : X p l e R s m args below meth c (MQ below (x_Q D dA cl tyL B post) args s mc ms (fun q => B ≤ q)) D dA cl B nL cells slots pc lv [.int v] w :=
  fun H locs ls g1 g2 g3 => W.widen h1 h2 (W.zret F.1 F.2.1 (F.2.2.2.2.2.2.2.1.trans hr) hn (fun t ht hW => ⟨⟨_, w, rfl, hq, by rw [ht]; exact g1, va_K.moved hW.alike F.2.2.2.2.2.1⟩, g2.F ht⟩) g2.2.2 hd F.2.2.2.2.2.2.2.2.1)
theorem x_lret (F : x_Fix p s m args meth c cc nL own Ts ret nm D dA cl tyL B) {v : Int64} (hr : ret = some .long) (hd : decode cc pc = .ok (.lreturn, 1)) (h1 : cells ≤ mc) (h2 : slots ≤ ms) (hq : post (some (.long v)) w) : X p l e R s m args below meth c (MQ below (x_Q D dA cl tyL B post) args s mc ms (fun q => B ≤ q)) D dA cl B nL cells slots pc lv [.long v] w :=
  fun H locs ls g1 g2 g3 => W.widen h1 h2 (W.lret F.1 F.2.1 (F.2.2.2.2.2.2.2.1.trans hr) (fun t ht hW => ⟨⟨_, w, rfl, hq, by rw [ht]; exact g1, va_K.moved hW.alike F.2.2.2.2.2.1⟩, g2.F ht⟩) g2.2.2 hd F.2.2.2.2.2.2.2.2.1)
theorem x_vret (F : x_Fix p s m args meth c cc nL own Ts ret nm D dA cl tyL B) (hr : ret = none) (hd : decode cc pc = .ok (.return_, 1)) (h1 : cells ≤ mc) (h2 : slots ≤ ms) (hq : post none w) : X p l e R s m args below meth c (MQ below (x_Q D dA cl tyL B post) args s mc ms (fun q => B ≤ q)) D dA cl B nL cells slots pc lv [] w :=
  fun H locs ls g1 g2 g3 => W.widen h1 h2 (W.vret F.1 F.2.1 (F.2.2.2.2.2.2.2.1.trans hr) (fun t ht hW => ⟨⟨_, w, rfl, hq, by rw [ht]; exact g1, va_K.moved hW.alike F.2.2.2.2.2.1⟩, g2.F ht⟩) g2.2.2 hd F.2.2.2.2.2.2.2.2.1)
theorem x_aret (F : x_Fix p s m args meth c cc nL own Ts ret nm D dA cl tyL B) {o : Option Nat} {C : String} (hr : ret = some (.object C)) (hd : decode cc pc = .ok (.areturn, 1)) (h1 : cells ≤ mc) (h2 : slots ≤ ms) (hq : post (some (va_rf o)) w) : X p l e R s m args below meth c (MQ below (x_Q D dA cl tyL B post) args s mc ms (fun q => B ≤ q)) D dA cl B nL cells slots pc lv [va_rf o] w :=
  fun H locs ls g1 g2 g3 => W.widen h1 h2 (W.aret F.1 F.2.1 (F.2.2.2.2.2.2.2.1.trans hr) (Or.inl ⟨C, rfl⟩) (by cases o with | none => exact Or.inl rfl | some a => exact Or.inr ⟨a, rfl⟩) (fun t ht hW => ⟨⟨_, w, rfl, hq, by rw [ht]; exact g1, va_K.moved hW.alike F.2.2.2.2.2.1⟩, g2.F ht⟩) g2.2.2 hd F.2.2.2.2.2.2.2.2.1)
end XR

theorem x_acmp_eqR (F : x_Fix p s m args meth c cc nL own Ts ret nm D dA cl tyL B) {x y : Nat} {off : Int} {tgt : Nat} (hd : decode cc pc = .ok (.if_acmp .eq off, 3)) (ht : (pc : Int) + off = (tgt : Int)) (kt : x = y → X p l e R s m args below meth c Q D dA cl B nL cells slots tgt lv st w) (kf : ¬ x = y → X p l e R s m args below meth c Q D dA cl B nL cells slots (pc + 3) lv st w) : X p l e R s m args below meth c Q D dA cl B nL cells slots pc lv (.ref y :: .ref x :: st) w :=
  x_acmp_eq (rx := some x) (ry := some y) F hd ht (fun h => kt (Option.some.inj h)) (fun h => kf (fun q => h (congrArg some q)))
theorem x_acmp_neR (F : x_Fix p s m args meth c cc nL own Ts ret nm D dA cl tyL B) {x y : Nat} {off : Int} {tgt : Nat} (hd : decode cc pc = .ok (.if_acmp .ne off, 3)) (ht : (pc : Int) + off = (tgt : Int)) (kt : ¬ x = y → X p l e R s m args below meth c Q D dA cl B nL cells slots tgt lv st w) (kf : x = y → X p l e R s m args below meth c Q D dA cl B nL cells slots (pc + 3) lv st w) : X p l e R s m args below meth c Q D dA cl B nL cells slots pc lv (.ref y :: .ref x :: st) w :=
  x_acmp_ne (rx := some x) (ry := some y) F hd ht (fun h => kt (fun q => h (congrArg some q))) (fun h => kf (Option.some.inj h))
theorem x_acmp_neQR (F : x_Fix p s m args meth c cc nL own Ts ret nm D dA cl tyL B) {o : Option Nat} {x : Nat} {off : Int} {tgt : Nat} (hd : decode cc pc = .ok (.if_acmp .ne off, 3)) (ht : (pc : Int) + off = (tgt : Int)) (kt : ¬ some x = o → X p l e R s m args below meth c Q D dA cl B nL cells slots tgt lv st w) (kf : some x = o → X p l e R s m args below meth c Q D dA cl B nL cells slots (pc + 3) lv st w) : X p l e R s m args below meth c Q D dA cl B nL cells slots pc lv (va_rf o :: .ref x :: st) w :=
  x_acmp_ne (rx := some x) (ry := o) F hd ht kt kf
theorem x_acmp_eqQR (F : x_Fix p s m args meth c cc nL own Ts ret nm D dA cl tyL B) {o : Option Nat} {x : Nat} {off : Int} {tgt : Nat} (hd : decode cc pc = .ok (.if_acmp .eq off, 3)) (ht : (pc : Int) + off = (tgt : Int)) (kt : some x = o → X p l e R s m args below meth c Q D dA cl B nL cells slots tgt lv st w) (kf : ¬ some x = o → X p l e R s m args below meth c Q D dA cl B nL cells slots (pc + 3) lv st w) : X p l e R s m args below meth c Q D dA cl B nL cells slots pc lv (va_rf o :: .ref x :: st) w :=
  x_acmp_eq (rx := some x) (ry := o) F hd ht kt kf
theorem x_aretR (F : x_Fix p s m args meth c cc nL own Ts ret nm D dA cl tyL B) {a : Nat} {C : String} {post : Option Value → xW → Prop} {mc ms : Nat} (hr : ret = some (.object C)) (hd : decode cc pc = .ok (.areturn, 1)) (h1 : cells ≤ mc) (h2 : slots ≤ ms) (hq : post (some (.ref a)) w) : X p l e R s m args below meth c (MQ below (x_Q D dA cl tyL B post) args s mc ms (fun q => B ≤ q)) D dA cl B nL cells slots pc lv [.ref a] w :=
  x_aret (o := some a) F hr hd h1 h2 hq
theorem x_aretN (F : x_Fix p s m args meth c cc nL own Ts ret nm D dA cl tyL B) {C : String} {post : Option Value → xW → Prop} {mc ms : Nat} (hr : ret = some (.object C)) (hd : decode cc pc = .ok (.areturn, 1)) (h1 : cells ≤ mc) (h2 : slots ≤ ms) (hq : post (some .null) w) : X p l e R s m args below meth c (MQ below (x_Q D dA cl tyL B post) args s mc ms (fun q => B ≤ q)) D dA cl B nL cells slots pc lv [.null] w :=
  x_aret (o := none) F hr hd h1 h2 hq
/-- a contract of a method that gives a value back -/
def x_Ci (l : Launch) (D : va_G) (dA : Nat → ClassId) (cl : List vw_C) (tyL : List FieldType) (B : Nat) (y : MethodName) (ws : List Cond) (rm : Room) (av : List Value) (w : xW) (post : Value → xW → Prop) (mc ms : Nat) : Prop :=
  x_Ct l D dA cl tyL B y ws rm av w (fun r w1 => ∃ v, r = some v ∧ post v w1) mc ms
/-- .. of one that gives none -/
def x_Cv (l : Launch) (D : va_G) (dA : Nat → ClassId) (cl : List vw_C) (tyL : List FieldType) (B : Nat) (y : MethodName) (ws : List Cond) (rm : Room) (av : List Value) (w : xW) (post : xW → Prop) (mc ms : Nat) : Prop :=
  x_Ct l D dA cl tyL B y ws rm av w (fun r w1 => r = none ∧ post w1) mc ms
theorem x_cVi0 (F : x_Fix p s m args meth c cc nL own Ts ret nm D dA cl tyL B) {C : String} {T : u_T} {N ci index b : Nat} {maxL mc ms : Nat} {y : MethodName} {bytes : ByteArray} {ws ws2 : List Cond} {rm : Room} {rt : Option FieldType} {fs : List Value} {post : Value → xW → Prop} (hd : decode cc pc = .ok (.invokevirtual index, 3)) (hG : GoodIn Ts (wsV own index C y ws)) (hy : y.cls = C) (hM : x_Ci l D dA cl tyL B y ws rm [.ref b] w post mc ms) (hC : x_call R cells slots rm mc ms ws ws2 y bytes maxL rt 0) (hc : cl[ci]? = some (C, T, N)) (hb : w b = some (.inr (ci, fs))) (hcat : (st.map fun v => v.category).sum ≤ 8) (k : ∀ v w1, post v w1 → X p l e R s m args below meth c Q D dA cl B nL (cells + mc) (slots + ms) (pc + 3) lv (v :: st) w1) : X p l e R s m args below meth c Q D dA cl B nL cells slots pc lv (.ref b :: st) w :=
  x_callV (av := []) (rest := st) F hd hG hy hM hC hc hb rfl rfl hcat (fun r w1 ⟨v, hv, hp⟩ => by subst hv; exact k v w1 hp)
theorem x_cSi0 (F : x_Fix p s m args meth c cc nL own Ts ret nm D dA cl tyL B) {index : Nat} {maxL mc ms : Nat} {y : MethodName} {bytes : ByteArray} {ws ws2 : List Cond} {rm : Room} {rt : Option FieldType} {post : Value → xW → Prop} (hd : decode cc pc = .ok (.invokestatic index, 3)) (hG : GoodIn Ts (va_wsS own index y ws)) (hM : x_Ci l D dA cl tyL B y ws rm [] w post mc ms) (hC : x_call R cells slots rm mc ms ws ws2 y bytes maxL rt 0) (hcat : (st.map fun v => v.category).sum ≤ 8) (k : ∀ v w1, post v w1 → X p l e R s m args below meth c Q D dA cl B nL (cells + mc) (slots + ms) (pc + 3) lv (v :: st) w1) : X p l e R s m args below meth c Q D dA cl B nL cells slots pc lv (st) w :=
  x_callS (av := []) (rest := st) F hd hG hM hC rfl rfl hcat (fun r w1 ⟨v, hv, hp⟩ => by subst hv; exact k v w1 hp)
theorem x_cVv0 (F : x_Fix p s m args meth c cc nL own Ts ret nm D dA cl tyL B) {C : String} {T : u_T} {N ci index b : Nat} {maxL mc ms : Nat} {y : MethodName} {bytes : ByteArray} {ws ws2 : List Cond} {rm : Room} {rt : Option FieldType} {fs : List Value} {post : xW → Prop} (hd : decode cc pc = .ok (.invokevirtual index, 3)) (hG : GoodIn Ts (wsV own index C y ws)) (hy : y.cls = C) (hM : x_Cv l D dA cl tyL B y ws rm [.ref b] w post mc ms) (hC : x_call R cells slots rm mc ms ws ws2 y bytes maxL rt 0) (hc : cl[ci]? = some (C, T, N)) (hb : w b = some (.inr (ci, fs))) (hcat : (st.map fun v => v.category).sum ≤ 8) (k : ∀ w1, post w1 → X p l e R s m args below meth c Q D dA cl B nL (cells + mc) (slots + ms) (pc + 3) lv st w1) : X p l e R s m args below meth c Q D dA cl B nL cells slots pc lv (.ref b :: st) w :=
  x_callV (av := []) (rest := st) F hd hG hy hM hC hc hb rfl rfl hcat (fun r w1 ⟨hv, hp⟩ => by subst hv; exact k w1 hp)
theorem x_cSv0 (F : x_Fix p s m args meth c cc nL own Ts ret nm D dA cl tyL B) {index : Nat} {maxL mc ms : Nat} {y : MethodName} {bytes : ByteArray} {ws ws2 : List Cond} {rm : Room} {rt : Option FieldType} {post : xW → Prop} (hd : decode cc pc = .ok (.invokestatic index, 3)) (hG : GoodIn Ts (va_wsS own index y ws)) (hM : x_Cv l D dA cl tyL B y ws rm [] w post mc ms) (hC : x_call R cells slots rm mc ms ws ws2 y bytes maxL rt 0) (hcat : (st.map fun v => v.category).sum ≤ 8) (k : ∀ w1, post w1 → X p l e R s m args below meth c Q D dA cl B nL (cells + mc) (slots + ms) (pc + 3) lv st w1) : X p l e R s m args below meth c Q D dA cl B nL cells slots pc lv (st) w :=
  x_callS (av := []) (rest := st) F hd hG hM hC rfl rfl hcat (fun r w1 ⟨hv, hp⟩ => by subst hv; exact k w1 hp)
theorem x_cI0 (F : x_Fix p s m args meth c cc nL own Ts ret nm D dA cl tyL B) {index b : Nat} {maxL mc ms : Nat} {y : MethodName} {bytes : ByteArray} {ws ws2 : List Cond} {rm : Room} {post : xW → Prop} (hd : decode cc pc = .ok (.invokespecial index, 3)) (hG : GoodIn Ts ws) (hini : Cond.initialized y.cls ∈ Ts) (hlk : Cond.methodLink own index y ∈ Ts) (hin : Cond.instanceMethod y ∈ Ts) (hy : y.name = "<init>") (hM : x_Cv l D dA cl tyL B y ws rm [.ref b] w post mc ms) (hC : x_call R cells slots rm mc ms ws ws2 y bytes maxL none 0) (hcat : (st.map fun v => v.category).sum ≤ 8) (k : ∀ w1, post w1 → X p l e R s m args below meth c Q D dA cl B nL (cells + mc) (slots + ms) (pc + 3) lv st w1) : X p l e R s m args below meth c Q D dA cl B nL cells slots pc lv (.ref b :: st) w :=
  x_callI (av := []) (rest := st) F hd hG hini hlk hin hy hM hC rfl rfl hcat (fun r w1 ⟨hv, hp⟩ => by subst hv; exact k w1 hp)
theorem x_cVi1 (F : x_Fix p s m args meth c cc nL own Ts ret nm D dA cl tyL B) {C : String} {T : u_T} {N ci index b : Nat} {maxL mc ms : Nat} {y : MethodName} {bytes : ByteArray} {ws ws2 : List Cond} {rm : Room} {rt : Option FieldType} {fs : List Value} {v1 : Value} {post : Value → xW → Prop} (hd : decode cc pc = .ok (.invokevirtual index, 3)) (hG : GoodIn Ts (wsV own index C y ws)) (hy : y.cls = C) (hM : x_Ci l D dA cl tyL B y ws rm [.ref b, v1] w post mc ms) (hC : x_call R cells slots rm mc ms ws ws2 y bytes maxL rt 1) (hc : cl[ci]? = some (C, T, N)) (hb : w b = some (.inr (ci, fs))) (hcat : (st.map fun v => v.category).sum ≤ 8) (k : ∀ v w1, post v w1 → X p l e R s m args below meth c Q D dA cl B nL (cells + mc) (slots + ms) (pc + 3) lv (v :: st) w1) : X p l e R s m args below meth c Q D dA cl B nL cells slots pc lv (v1 :: .ref b :: st) w :=
  x_callV (av := [v1]) (rest := st) F hd hG hy hM hC hc hb rfl rfl hcat (fun r w1 ⟨v, hv, hp⟩ => by subst hv; exact k v w1 hp)
theorem x_cSi1 (F : x_Fix p s m args meth c cc nL own Ts ret nm D dA cl tyL B) {index : Nat} {maxL mc ms : Nat} {y : MethodName} {bytes : ByteArray} {ws ws2 : List Cond} {rm : Room} {rt : Option FieldType} {v1 : Value} {post : Value → xW → Prop} (hd : decode cc pc = .ok (.invokestatic index, 3)) (hG : GoodIn Ts (va_wsS own index y ws)) (hM : x_Ci l D dA cl tyL B y ws rm [v1] w post mc ms) (hC : x_call R cells slots rm mc ms ws ws2 y bytes maxL rt 1) (hcat : (st.map fun v => v.category).sum ≤ 8) (k : ∀ v w1, post v w1 → X p l e R s m args below meth c Q D dA cl B nL (cells + mc) (slots + ms) (pc + 3) lv (v :: st) w1) : X p l e R s m args below meth c Q D dA cl B nL cells slots pc lv (v1 :: st) w :=
  x_callS (av := [v1]) (rest := st) F hd hG hM hC rfl rfl hcat (fun r w1 ⟨v, hv, hp⟩ => by subst hv; exact k v w1 hp)
theorem x_cVv1 (F : x_Fix p s m args meth c cc nL own Ts ret nm D dA cl tyL B) {C : String} {T : u_T} {N ci index b : Nat} {maxL mc ms : Nat} {y : MethodName} {bytes : ByteArray} {ws ws2 : List Cond} {rm : Room} {rt : Option FieldType} {fs : List Value} {v1 : Value} {post : xW → Prop} (hd : decode cc pc = .ok (.invokevirtual index, 3)) (hG : GoodIn Ts (wsV own index C y ws)) (hy : y.cls = C) (hM : x_Cv l D dA cl tyL B y ws rm [.ref b, v1] w post mc ms) (hC : x_call R cells slots rm mc ms ws ws2 y bytes maxL rt 1) (hc : cl[ci]? = some (C, T, N)) (hb : w b = some (.inr (ci, fs))) (hcat : (st.map fun v => v.category).sum ≤ 8) (k : ∀ w1, post w1 → X p l e R s m args below meth c Q D dA cl B nL (cells + mc) (slots + ms) (pc + 3) lv st w1) : X p l e R s m args below meth c Q D dA cl B nL cells slots pc lv (v1 :: .ref b :: st) w :=
  x_callV (av := [v1]) (rest := st) F hd hG hy hM hC hc hb rfl rfl hcat (fun r w1 ⟨hv, hp⟩ => by subst hv; exact k w1 hp)
theorem x_cSv1 (F : x_Fix p s m args meth c cc nL own Ts ret nm D dA cl tyL B) {index : Nat} {maxL mc ms : Nat} {y : MethodName} {bytes : ByteArray} {ws ws2 : List Cond} {rm : Room} {rt : Option FieldType} {v1 : Value} {post : xW → Prop} (hd : decode cc pc = .ok (.invokestatic index, 3)) (hG : GoodIn Ts (va_wsS own index y ws)) (hM : x_Cv l D dA cl tyL B y ws rm [v1] w post mc ms) (hC : x_call R cells slots rm mc ms ws ws2 y bytes maxL rt 1) (hcat : (st.map fun v => v.category).sum ≤ 8) (k : ∀ w1, post w1 → X p l e R s m args below meth c Q D dA cl B nL (cells + mc) (slots + ms) (pc + 3) lv st w1) : X p l e R s m args below meth c Q D dA cl B nL cells slots pc lv (v1 :: st) w :=
  x_callS (av := [v1]) (rest := st) F hd hG hM hC rfl rfl hcat (fun r w1 ⟨hv, hp⟩ => by subst hv; exact k w1 hp)
theorem x_cI1 (F : x_Fix p s m args meth c cc nL own Ts ret nm D dA cl tyL B) {index b : Nat} {maxL mc ms : Nat} {y : MethodName} {bytes : ByteArray} {ws ws2 : List Cond} {rm : Room} {v1 : Value} {post : xW → Prop} (hd : decode cc pc = .ok (.invokespecial index, 3)) (hG : GoodIn Ts ws) (hini : Cond.initialized y.cls ∈ Ts) (hlk : Cond.methodLink own index y ∈ Ts) (hin : Cond.instanceMethod y ∈ Ts) (hy : y.name = "<init>") (hM : x_Cv l D dA cl tyL B y ws rm [.ref b, v1] w post mc ms) (hC : x_call R cells slots rm mc ms ws ws2 y bytes maxL none 1) (hcat : (st.map fun v => v.category).sum ≤ 8) (k : ∀ w1, post w1 → X p l e R s m args below meth c Q D dA cl B nL (cells + mc) (slots + ms) (pc + 3) lv st w1) : X p l e R s m args below meth c Q D dA cl B nL cells slots pc lv (v1 :: .ref b :: st) w :=
  x_callI (av := [v1]) (rest := st) F hd hG hini hlk hin hy hM hC rfl rfl hcat (fun r w1 ⟨hv, hp⟩ => by subst hv; exact k w1 hp)
theorem x_cVi2 (F : x_Fix p s m args meth c cc nL own Ts ret nm D dA cl tyL B) {C : String} {T : u_T} {N ci index b : Nat} {maxL mc ms : Nat} {y : MethodName} {bytes : ByteArray} {ws ws2 : List Cond} {rm : Room} {rt : Option FieldType} {fs : List Value} {v1 v2 : Value} {post : Value → xW → Prop} (hd : decode cc pc = .ok (.invokevirtual index, 3)) (hG : GoodIn Ts (wsV own index C y ws)) (hy : y.cls = C) (hM : x_Ci l D dA cl tyL B y ws rm [.ref b, v1, v2] w post mc ms) (hC : x_call R cells slots rm mc ms ws ws2 y bytes maxL rt 2) (hc : cl[ci]? = some (C, T, N)) (hb : w b = some (.inr (ci, fs))) (hcat : (st.map fun v => v.category).sum ≤ 8) (k : ∀ v w1, post v w1 → X p l e R s m args below meth c Q D dA cl B nL (cells + mc) (slots + ms) (pc + 3) lv (v :: st) w1) : X p l e R s m args below meth c Q D dA cl B nL cells slots pc lv (v2 :: v1 :: .ref b :: st) w :=
  x_callV (av := [v1, v2]) (rest := st) F hd hG hy hM hC hc hb rfl rfl hcat (fun r w1 ⟨v, hv, hp⟩ => by subst hv; exact k v w1 hp)
theorem x_cSi2 (F : x_Fix p s m args meth c cc nL own Ts ret nm D dA cl tyL B) {index : Nat} {maxL mc ms : Nat} {y : MethodName} {bytes : ByteArray} {ws ws2 : List Cond} {rm : Room} {rt : Option FieldType} {v1 v2 : Value} {post : Value → xW → Prop} (hd : decode cc pc = .ok (.invokestatic index, 3)) (hG : GoodIn Ts (va_wsS own index y ws)) (hM : x_Ci l D dA cl tyL B y ws rm [v1, v2] w post mc ms) (hC : x_call R cells slots rm mc ms ws ws2 y bytes maxL rt 2) (hcat : (st.map fun v => v.category).sum ≤ 8) (k : ∀ v w1, post v w1 → X p l e R s m args below meth c Q D dA cl B nL (cells + mc) (slots + ms) (pc + 3) lv (v :: st) w1) : X p l e R s m args below meth c Q D dA cl B nL cells slots pc lv (v2 :: v1 :: st) w :=
  x_callS (av := [v1, v2]) (rest := st) F hd hG hM hC rfl rfl hcat (fun r w1 ⟨v, hv, hp⟩ => by subst hv; exact k v w1 hp)
theorem x_cVv2 (F : x_Fix p s m args meth c cc nL own Ts ret nm D dA cl tyL B) {C : String} {T : u_T} {N ci index b : Nat} {maxL mc ms : Nat} {y : MethodName} {bytes : ByteArray} {ws ws2 : List Cond} {rm : Room} {rt : Option FieldType} {fs : List Value} {v1 v2 : Value} {post : xW → Prop} (hd : decode cc pc = .ok (.invokevirtual index, 3)) (hG : GoodIn Ts (wsV own index C y ws)) (hy : y.cls = C) (hM : x_Cv l D dA cl tyL B y ws rm [.ref b, v1, v2] w post mc ms) (hC : x_call R cells slots rm mc ms ws ws2 y bytes maxL rt 2) (hc : cl[ci]? = some (C, T, N)) (hb : w b = some (.inr (ci, fs))) (hcat : (st.map fun v => v.category).sum ≤ 8) (k : ∀ w1, post w1 → X p l e R s m args below meth c Q D dA cl B nL (cells + mc) (slots + ms) (pc + 3) lv st w1) : X p l e R s m args below meth c Q D dA cl B nL cells slots pc lv (v2 :: v1 :: .ref b :: st) w :=
  x_callV (av := [v1, v2]) (rest := st) F hd hG hy hM hC hc hb rfl rfl hcat (fun r w1 ⟨hv, hp⟩ => by subst hv; exact k w1 hp)
theorem x_cSv2 (F : x_Fix p s m args meth c cc nL own Ts ret nm D dA cl tyL B) {index : Nat} {maxL mc ms : Nat} {y : MethodName} {bytes : ByteArray} {ws ws2 : List Cond} {rm : Room} {rt : Option FieldType} {v1 v2 : Value} {post : xW → Prop} (hd : decode cc pc = .ok (.invokestatic index, 3)) (hG : GoodIn Ts (va_wsS own index y ws)) (hM : x_Cv l D dA cl tyL B y ws rm [v1, v2] w post mc ms) (hC : x_call R cells slots rm mc ms ws ws2 y bytes maxL rt 2) (hcat : (st.map fun v => v.category).sum ≤ 8) (k : ∀ w1, post w1 → X p l e R s m args below meth c Q D dA cl B nL (cells + mc) (slots + ms) (pc + 3) lv st w1) : X p l e R s m args below meth c Q D dA cl B nL cells slots pc lv (v2 :: v1 :: st) w :=
  x_callS (av := [v1, v2]) (rest := st) F hd hG hM hC rfl rfl hcat (fun r w1 ⟨hv, hp⟩ => by subst hv; exact k w1 hp)
theorem x_cI2 (F : x_Fix p s m args meth c cc nL own Ts ret nm D dA cl tyL B) {index b : Nat} {maxL mc ms : Nat} {y : MethodName} {bytes : ByteArray} {ws ws2 : List Cond} {rm : Room} {v1 v2 : Value} {post : xW → Prop} (hd : decode cc pc = .ok (.invokespecial index, 3)) (hG : GoodIn Ts ws) (hini : Cond.initialized y.cls ∈ Ts) (hlk : Cond.methodLink own index y ∈ Ts) (hin : Cond.instanceMethod y ∈ Ts) (hy : y.name = "<init>") (hM : x_Cv l D dA cl tyL B y ws rm [.ref b, v1, v2] w post mc ms) (hC : x_call R cells slots rm mc ms ws ws2 y bytes maxL none 2) (hcat : (st.map fun v => v.category).sum ≤ 8) (k : ∀ w1, post w1 → X p l e R s m args below meth c Q D dA cl B nL (cells + mc) (slots + ms) (pc + 3) lv st w1) : X p l e R s m args below meth c Q D dA cl B nL cells slots pc lv (v2 :: v1 :: .ref b :: st) w :=
  x_callI (av := [v1, v2]) (rest := st) F hd hG hini hlk hin hy hM hC rfl rfl hcat (fun r w1 ⟨hv, hp⟩ => by subst hv; exact k w1 hp)
theorem x_cVi3 (F : x_Fix p s m args meth c cc nL own Ts ret nm D dA cl tyL B) {C : String} {T : u_T} {N ci index b : Nat} {maxL mc ms : Nat} {y : MethodName} {bytes : ByteArray} {ws ws2 : List Cond} {rm : Room} {rt : Option FieldType} {fs : List Value} {v1 v2 v3 : Value} {post : Value → xW → Prop} (hd : decode cc pc = .ok (.invokevirtual index, 3)) (hG : GoodIn Ts (wsV own index C y ws)) (hy : y.cls = C) (hM : x_Ci l D dA cl tyL B y ws rm [.ref b, v1, v2, v3] w post mc ms) (hC : x_call R cells slots rm mc ms ws ws2 y bytes maxL rt 3) (hc : cl[ci]? = some (C, T, N)) (hb : w b = some (.inr (ci, fs))) (hcat : (st.map fun v => v.category).sum ≤ 8) (k : ∀ v w1, post v w1 → X p l e R s m args below meth c Q D dA cl B nL (cells + mc) (slots + ms) (pc + 3) lv (v :: st) w1) : X p l e R s m args below meth c Q D dA cl B nL cells slots pc lv (v3 :: v2 :: v1 :: .ref b :: st) w :=
  x_callV (av := [v1, v2, v3]) (rest := st) F hd hG hy hM hC hc hb rfl rfl hcat (fun r w1 ⟨v, hv, hp⟩ => by subst hv; exact k v w1 hp)
theorem x_cSi3 (F : x_Fix p s m args meth c cc nL own Ts ret nm D dA cl tyL B) {index : Nat} {maxL mc ms : Nat} {y : MethodName} {bytes : ByteArray} {ws ws2 : List Cond} {rm : Room} {rt : Option FieldType} {v1 v2 v3 : Value} {post : Value → xW → Prop} (hd : decode cc pc = .ok (.invokestatic index, 3)) (hG : GoodIn Ts (va_wsS own index y ws)) (hM : x_Ci l D dA cl tyL B y ws rm [v1, v2, v3] w post mc ms) (hC : x_call R cells slots rm mc ms ws ws2 y bytes maxL rt 3) (hcat : (st.map fun v => v.category).sum ≤ 8) (k : ∀ v w1, post v w1 → X p l e R s m args below meth c Q D dA cl B nL (cells + mc) (slots + ms) (pc + 3) lv (v :: st) w1) : X p l e R s m args below meth c Q D dA cl B nL cells slots pc lv (v3 :: v2 :: v1 :: st) w :=
  x_callS (av := [v1, v2, v3]) (rest := st) F hd hG hM hC rfl rfl hcat (fun r w1 ⟨v, hv, hp⟩ => by subst hv; exact k v w1 hp)
theorem x_cVv3 (F : x_Fix p s m args meth c cc nL own Ts ret nm D dA cl tyL B) {C : String} {T : u_T} {N ci index b : Nat} {maxL mc ms : Nat} {y : MethodName} {bytes : ByteArray} {ws ws2 : List Cond} {rm : Room} {rt : Option FieldType} {fs : List Value} {v1 v2 v3 : Value} {post : xW → Prop} (hd : decode cc pc = .ok (.invokevirtual index, 3)) (hG : GoodIn Ts (wsV own index C y ws)) (hy : y.cls = C) (hM : x_Cv l D dA cl tyL B y ws rm [.ref b, v1, v2, v3] w post mc ms) (hC : x_call R cells slots rm mc ms ws ws2 y bytes maxL rt 3) (hc : cl[ci]? = some (C, T, N)) (hb : w b = some (.inr (ci, fs))) (hcat : (st.map fun v => v.category).sum ≤ 8) (k : ∀ w1, post w1 → X p l e R s m args below meth c Q D dA cl B nL (cells + mc) (slots + ms) (pc + 3) lv st w1) : X p l e R s m args below meth c Q D dA cl B nL cells slots pc lv (v3 :: v2 :: v1 :: .ref b :: st) w :=
  x_callV (av := [v1, v2, v3]) (rest := st) F hd hG hy hM hC hc hb rfl rfl hcat (fun r w1 ⟨hv, hp⟩ => by subst hv; exact k w1 hp)
theorem x_cSv3 (F : x_Fix p s m args meth c cc nL own Ts ret nm D dA cl tyL B) {index : Nat} {maxL mc ms : Nat} {y : MethodName} {bytes : ByteArray} {ws ws2 : List Cond} {rm : Room} {rt : Option FieldType} {v1 v2 v3 : Value} {post : xW → Prop} (hd : decode cc pc = .ok (.invokestatic index, 3)) (hG : GoodIn Ts (va_wsS own index y ws)) (hM : x_Cv l D dA cl tyL B y ws rm [v1, v2, v3] w post mc ms) (hC : x_call R cells slots rm mc ms ws ws2 y bytes maxL rt 3) (hcat : (st.map fun v => v.category).sum ≤ 8) (k : ∀ w1, post w1 → X p l e R s m args below meth c Q D dA cl B nL (cells + mc) (slots + ms) (pc + 3) lv st w1) : X p l e R s m args below meth c Q D dA cl B nL cells slots pc lv (v3 :: v2 :: v1 :: st) w :=
  x_callS (av := [v1, v2, v3]) (rest := st) F hd hG hM hC rfl rfl hcat (fun r w1 ⟨hv, hp⟩ => by subst hv; exact k w1 hp)
theorem x_cI3 (F : x_Fix p s m args meth c cc nL own Ts ret nm D dA cl tyL B) {index b : Nat} {maxL mc ms : Nat} {y : MethodName} {bytes : ByteArray} {ws ws2 : List Cond} {rm : Room} {v1 v2 v3 : Value} {post : xW → Prop} (hd : decode cc pc = .ok (.invokespecial index, 3)) (hG : GoodIn Ts ws) (hini : Cond.initialized y.cls ∈ Ts) (hlk : Cond.methodLink own index y ∈ Ts) (hin : Cond.instanceMethod y ∈ Ts) (hy : y.name = "<init>") (hM : x_Cv l D dA cl tyL B y ws rm [.ref b, v1, v2, v3] w post mc ms) (hC : x_call R cells slots rm mc ms ws ws2 y bytes maxL none 3) (hcat : (st.map fun v => v.category).sum ≤ 8) (k : ∀ w1, post w1 → X p l e R s m args below meth c Q D dA cl B nL (cells + mc) (slots + ms) (pc + 3) lv st w1) : X p l e R s m args below meth c Q D dA cl B nL cells slots pc lv (v3 :: v2 :: v1 :: .ref b :: st) w :=
  x_callI (av := [v1, v2, v3]) (rest := st) F hd hG hini hlk hin hy hM hC rfl rfl hcat (fun r w1 ⟨hv, hp⟩ => by subst hv; exact k w1 hp)
theorem x_cVi4 (F : x_Fix p s m args meth c cc nL own Ts ret nm D dA cl tyL B) {C : String} {T : u_T} {N ci index b : Nat} {maxL mc ms : Nat} {y : MethodName} {bytes : ByteArray} {ws ws2 : List Cond} {rm : Room} {rt : Option FieldType} {fs : List Value} {v1 v2 v3 v4 : Value} {post : Value → xW → Prop} (hd : decode cc pc = .ok (.invokevirtual index, 3)) (hG : GoodIn Ts (wsV own index C y ws)) (hy : y.cls = C) (hM : x_Ci l D dA cl tyL B y ws rm [.ref b, v1, v2, v3, v4] w post mc ms) (hC : x_call R cells slots rm mc ms ws ws2 y bytes maxL rt 4) (hc : cl[ci]? = some (C, T, N)) (hb : w b = some (.inr (ci, fs))) (hcat : (st.map fun v => v.category).sum ≤ 8) (k : ∀ v w1, post v w1 → X p l e R s m args below meth c Q D dA cl B nL (cells + mc) (slots + ms) (pc + 3) lv (v :: st) w1) : X p l e R s m args below meth c Q D dA cl B nL cells slots pc lv (v4 :: v3 :: v2 :: v1 :: .ref b :: st) w :=
  x_callV (av := [v1, v2, v3, v4]) (rest := st) F hd hG hy hM hC hc hb rfl rfl hcat (fun r w1 ⟨v, hv, hp⟩ => by subst hv; exact k v w1 hp)
theorem x_cSi4 (F : x_Fix p s m args meth c cc nL own Ts ret nm D dA cl tyL B) {index : Nat} {maxL mc ms : Nat} {y : MethodName} {bytes : ByteArray} {ws ws2 : List Cond} {rm : Room} {rt : Option FieldType} {v1 v2 v3 v4 : Value} {post : Value → xW → Prop} (hd : decode cc pc = .ok (.invokestatic index, 3)) (hG : GoodIn Ts (va_wsS own index y ws)) (hM : x_Ci l D dA cl tyL B y ws rm [v1, v2, v3, v4] w post mc ms) (hC : x_call R cells slots rm mc ms ws ws2 y bytes maxL rt 4) (hcat : (st.map fun v => v.category).sum ≤ 8) (k : ∀ v w1, post v w1 → X p l e R s m args below meth c Q D dA cl B nL (cells + mc) (slots + ms) (pc + 3) lv (v :: st) w1) : X p l e R s m args below meth c Q D dA cl B nL cells slots pc lv (v4 :: v3 :: v2 :: v1 :: st) w :=
  x_callS (av := [v1, v2, v3, v4]) (rest := st) F hd hG hM hC rfl rfl hcat (fun r w1 ⟨v, hv, hp⟩ => by subst hv; exact k v w1 hp)
theorem x_cVv4 (F : x_Fix p s m args meth c cc nL own Ts ret nm D dA cl tyL B) {C : String} {T : u_T} {N ci index b : Nat} {maxL mc ms : Nat} {y : MethodName} {bytes : ByteArray} {ws ws2 : List Cond} {rm : Room} {rt : Option FieldType} {fs : List Value} {v1 v2 v3 v4 : Value} {post : xW → Prop} (hd : decode cc pc = .ok (.invokevirtual index, 3)) (hG : GoodIn Ts (wsV own index C y ws)) (hy : y.cls = C) (hM : x_Cv l D dA cl tyL B y ws rm [.ref b, v1, v2, v3, v4] w post mc ms) (hC : x_call R cells slots rm mc ms ws ws2 y bytes maxL rt 4) (hc : cl[ci]? = some (C, T, N)) (hb : w b = some (.inr (ci, fs))) (hcat : (st.map fun v => v.category).sum ≤ 8) (k : ∀ w1, post w1 → X p l e R s m args below meth c Q D dA cl B nL (cells + mc) (slots + ms) (pc + 3) lv st w1) : X p l e R s m args below meth c Q D dA cl B nL cells slots pc lv (v4 :: v3 :: v2 :: v1 :: .ref b :: st) w :=
  x_callV (av := [v1, v2, v3, v4]) (rest := st) F hd hG hy hM hC hc hb rfl rfl hcat (fun r w1 ⟨hv, hp⟩ => by subst hv; exact k w1 hp)
theorem x_cSv4 (F : x_Fix p s m args meth c cc nL own Ts ret nm D dA cl tyL B) {index : Nat} {maxL mc ms : Nat} {y : MethodName} {bytes : ByteArray} {ws ws2 : List Cond} {rm : Room} {rt : Option FieldType} {v1 v2 v3 v4 : Value} {post : xW → Prop} (hd : decode cc pc = .ok (.invokestatic index, 3)) (hG : GoodIn Ts (va_wsS own index y ws)) (hM : x_Cv l D dA cl tyL B y ws rm [v1, v2, v3, v4] w post mc ms) (hC : x_call R cells slots rm mc ms ws ws2 y bytes maxL rt 4) (hcat : (st.map fun v => v.category).sum ≤ 8) (k : ∀ w1, post w1 → X p l e R s m args below meth c Q D dA cl B nL (cells + mc) (slots + ms) (pc + 3) lv st w1) : X p l e R s m args below meth c Q D dA cl B nL cells slots pc lv (v4 :: v3 :: v2 :: v1 :: st) w :=
  x_callS (av := [v1, v2, v3, v4]) (rest := st) F hd hG hM hC rfl rfl hcat (fun r w1 ⟨hv, hp⟩ => by subst hv; exact k w1 hp)
theorem x_cI4 (F : x_Fix p s m args meth c cc nL own Ts ret nm D dA cl tyL B) {index b : Nat} {maxL mc ms : Nat} {y : MethodName} {bytes : ByteArray} {ws ws2 : List Cond} {rm : Room} {v1 v2 v3 v4 : Value} {post : xW → Prop} (hd : decode cc pc = .ok (.invokespecial index, 3)) (hG : GoodIn Ts ws) (hini : Cond.initialized y.cls ∈ Ts) (hlk : Cond.methodLink own index y ∈ Ts) (hin : Cond.instanceMethod y ∈ Ts) (hy : y.name = "<init>") (hM : x_Cv l D dA cl tyL B y ws rm [.ref b, v1, v2, v3, v4] w post mc ms) (hC : x_call R cells slots rm mc ms ws ws2 y bytes maxL none 4) (hcat : (st.map fun v => v.category).sum ≤ 8) (k : ∀ w1, post w1 → X p l e R s m args below meth c Q D dA cl B nL (cells + mc) (slots + ms) (pc + 3) lv st w1) : X p l e R s m args below meth c Q D dA cl B nL cells slots pc lv (v4 :: v3 :: v2 :: v1 :: .ref b :: st) w :=
  x_callI (av := [v1, v2, v3, v4]) (rest := st) F hd hG hini hlk hin hy hM hC rfl rfl hcat (fun r w1 ⟨hv, hp⟩ => by subst hv; exact k w1 hp)
theorem x_cVi5 (F : x_Fix p s m args meth c cc nL own Ts ret nm D dA cl tyL B) {C : String} {T : u_T} {N ci index b : Nat} {maxL mc ms : Nat} {y : MethodName} {bytes : ByteArray} {ws ws2 : List Cond} {rm : Room} {rt : Option FieldType} {fs : List Value} {v1 v2 v3 v4 v5 : Value} {post : Value → xW → Prop} (hd : decode cc pc = .ok (.invokevirtual index, 3)) (hG : GoodIn Ts (wsV own index C y ws)) (hy : y.cls = C) (hM : x_Ci l D dA cl tyL B y ws rm [.ref b, v1, v2, v3, v4, v5] w post mc ms) (hC : x_call R cells slots rm mc ms ws ws2 y bytes maxL rt 5) (hc : cl[ci]? = some (C, T, N)) (hb : w b = some (.inr (ci, fs))) (hcat : (st.map fun v => v.category).sum ≤ 8) (k : ∀ v w1, post v w1 → X p l e R s m args below meth c Q D dA cl B nL (cells + mc) (slots + ms) (pc + 3) lv (v :: st) w1) : X p l e R s m args below meth c Q D dA cl B nL cells slots pc lv (v5 :: v4 :: v3 :: v2 :: v1 :: .ref b :: st) w :=
  x_callV (av := [v1, v2, v3, v4, v5]) (rest := st) F hd hG hy hM hC hc hb rfl rfl hcat (fun r w1 ⟨v, hv, hp⟩ => by subst hv; exact k v w1 hp)
theorem x_cSi5 (F : x_Fix p s m args meth c cc nL own Ts ret nm D dA cl tyL B) {index : Nat} {maxL mc ms : Nat} {y : MethodName} {bytes : ByteArray} {ws ws2 : List Cond} {rm : Room} {rt : Option FieldType} {v1 v2 v3 v4 v5 : Value} {post : Value → xW → Prop} (hd : decode cc pc = .ok (.invokestatic index, 3)) (hG : GoodIn Ts (va_wsS own index y ws)) (hM : x_Ci l D dA cl tyL B y ws rm [v1, v2, v3, v4, v5] w post mc ms) (hC : x_call R cells slots rm mc ms ws ws2 y bytes maxL rt 5) (hcat : (st.map fun v => v.category).sum ≤ 8) (k : ∀ v w1, post v w1 → X p l e R s m args below meth c Q D dA cl B nL (cells + mc) (slots + ms) (pc + 3) lv (v :: st) w1) : X p l e R s m args below meth c Q D dA cl B nL cells slots pc lv (v5 :: v4 :: v3 :: v2 :: v1 :: st) w :=
  x_callS (av := [v1, v2, v3, v4, v5]) (rest := st) F hd hG hM hC rfl rfl hcat (fun r w1 ⟨v, hv, hp⟩ => by subst hv; exact k v w1 hp)
theorem x_cVv5 (F : x_Fix p s m args meth c cc nL own Ts ret nm D dA cl tyL B) {C : String} {T : u_T} {N ci index b : Nat} {maxL mc ms : Nat} {y : MethodName} {bytes : ByteArray} {ws ws2 : List Cond} {rm : Room} {rt : Option FieldType} {fs : List Value} {v1 v2 v3 v4 v5 : Value} {post : xW → Prop} (hd : decode cc pc = .ok (.invokevirtual index, 3)) (hG : GoodIn Ts (wsV own index C y ws)) (hy : y.cls = C) (hM : x_Cv l D dA cl tyL B y ws rm [.ref b, v1, v2, v3, v4, v5] w post mc ms) (hC : x_call R cells slots rm mc ms ws ws2 y bytes maxL rt 5) (hc : cl[ci]? = some (C, T, N)) (hb : w b = some (.inr (ci, fs))) (hcat : (st.map fun v => v.category).sum ≤ 8) (k : ∀ w1, post w1 → X p l e R s m args below meth c Q D dA cl B nL (cells + mc) (slots + ms) (pc + 3) lv st w1) : X p l e R s m args below meth c Q D dA cl B nL cells slots pc lv (v5 :: v4 :: v3 :: v2 :: v1 :: .ref b :: st) w :=
  x_callV (av := [v1, v2, v3, v4, v5]) (rest := st) F hd hG hy hM hC hc hb rfl rfl hcat (fun r w1 ⟨hv, hp⟩ => by subst hv; exact k w1 hp)
theorem x_cSv5 (F : x_Fix p s m args meth c cc nL own Ts ret nm D dA cl tyL B) {index : Nat} {maxL mc ms : Nat} {y : MethodName} {bytes : ByteArray} {ws ws2 : List Cond} {rm : Room} {rt : Option FieldType} {v1 v2 v3 v4 v5 : Value} {post : xW → Prop} (hd : decode cc pc = .ok (.invokestatic index, 3)) (hG : GoodIn Ts (va_wsS own index y ws)) (hM : x_Cv l D dA cl tyL B y ws rm [v1, v2, v3, v4, v5] w post mc ms) (hC : x_call R cells slots rm mc ms ws ws2 y bytes maxL rt 5) (hcat : (st.map fun v => v.category).sum ≤ 8) (k : ∀ w1, post w1 → X p l e R s m args below meth c Q D dA cl B nL (cells + mc) (slots + ms) (pc + 3) lv st w1) : X p l e R s m args below meth c Q D dA cl B nL cells slots pc lv (v5 :: v4 :: v3 :: v2 :: v1 :: st) w :=
  x_callS (av := [v1, v2, v3, v4, v5]) (rest := st) F hd hG hM hC rfl rfl hcat (fun r w1 ⟨hv, hp⟩ => by subst hv; exact k w1 hp)
theorem x_cI5 (F : x_Fix p s m args meth c cc nL own Ts ret nm D dA cl tyL B) {index b : Nat} {maxL mc ms : Nat} {y : MethodName} {bytes : ByteArray} {ws ws2 : List Cond} {rm : Room} {v1 v2 v3 v4 v5 : Value} {post : xW → Prop} (hd : decode cc pc = .ok (.invokespecial index, 3)) (hG : GoodIn Ts ws) (hini : Cond.initialized y.cls ∈ Ts) (hlk : Cond.methodLink own index y ∈ Ts) (hin : Cond.instanceMethod y ∈ Ts) (hy : y.name = "<init>") (hM : x_Cv l D dA cl tyL B y ws rm [.ref b, v1, v2, v3, v4, v5] w post mc ms) (hC : x_call R cells slots rm mc ms ws ws2 y bytes maxL none 5) (hcat : (st.map fun v => v.category).sum ≤ 8) (k : ∀ w1, post w1 → X p l e R s m args below meth c Q D dA cl B nL (cells + mc) (slots + ms) (pc + 3) lv st w1) : X p l e R s m args below meth c Q D dA cl B nL cells slots pc lv (v5 :: v4 :: v3 :: v2 :: v1 :: .ref b :: st) w :=
  x_callI (av := [v1, v2, v3, v4, v5]) (rest := st) F hd hG hini hlk hin hy hM hC rfl rfl hcat (fun r w1 ⟨hv, hp⟩ => by subst hv; exact k w1 hp)
theorem x_cIN0 (F : x_Fix p s m args meth c cc nL own Ts ret nm D dA cl tyL B) {host : String} {index b : Nat} {maxL mc ms : Nat} {y : MethodName} {bytes : ByteArray} {ws ws2 : List Cond} {rm : Room} {post : xW → Prop} (hd : decode cc pc = .ok (.invokespecial index, 3)) (hG : GoodIn Ts ws) (hini : Cond.initialized y.cls ∈ Ts) (hlk : va_Nw (.methodLinkNest own index y host) s) (hin : Cond.instanceMethod y ∈ Ts) (hy : y.name = "<init>") (hM : x_Cv l D dA cl tyL B y ws rm [.ref b] w post mc ms) (hC : x_call R cells slots rm mc ms ws ws2 y bytes maxL none 0) (hcat : (st.map fun v => v.category).sum ≤ 8) (k : ∀ w1, post w1 → X p l e R s m args below meth c Q D dA cl B nL (cells + mc) (slots + ms) (pc + 3) lv st w1) : X p l e R s m args below meth c Q D dA cl B nL cells slots pc lv (.ref b :: st) w :=
  x_callIN (av := []) (rest := st) F hd hG hini hlk hin hy hM hC rfl rfl hcat (fun r w1 ⟨hv, hp⟩ => by subst hv; exact k w1 hp)
theorem x_ialdN (F : x_Fix p s m args meth c cc nL own Ts ret nm D dA cl tyL B) {t a n j : Nat} {f : Nat → Int32} (hd : decode cc pc = .ok (.iaload, 1)) (ht : tyL[t]? = some .int) (hw : w a = some (.inl (t, n, .inl f))) (hj : j < n) (hn : n < 2 ^ 31) (kk : X p l e R s m args below meth c Q D dA cl B nL cells slots (pc + 1) lv (.int (f j) :: st) w) : X p l e R s m args below meth c Q D dA cl B nL cells slots pc lv (.int (nI j) :: .ref a :: st) w :=
  x_iald F hd ht hw (vp_in_nI hj hn) (by rw [nI_clamp (Nat.lt_trans hj hn)]; exact kk)
theorem x_iastN (F : x_Fix p s m args meth c cc nL own Ts ret nm D dA cl tyL B) {t a n j : Nat} {f : Nat → Int32} {v : Int32} (hd : decode cc pc = .ok (.iastore, 1)) (ht : tyL[t]? = some .int) (hw : w a = some (.inl (t, n, .inl f))) (hj : j < n) (hn : n < 2 ^ 31) (kk : X p l e R s m args below meth c Q D dA cl B nL cells slots (pc + 1) lv st (x_set w a (.inl (t, n, .inl (upd f j v))))) : X p l e R s m args below meth c Q D dA cl B nL cells slots pc lv (.int v :: .int (nI j) :: .ref a :: st) w :=
  x_iast F hd ht hw (vp_in_nI hj hn) (by rw [nI_clamp (Nat.lt_trans hj hn)]; exact kk)
theorem x_aaldN (F : x_Fix p s m args meth c cc nL own Ts ret nm D dA cl tyL B) {t a n j : Nat} {C : String} {f : Nat → Option Nat} (hd : decode cc pc = .ok (.aaload, 1)) (ht : tyL[t]? = some (.object C)) (hw : w a = some (.inl (t, n, .inr (.inr (.inr (.inr f)))))) (hj : j < n) (hn : n < 2 ^ 31) (kk : X p l e R s m args below meth c Q D dA cl B nL cells slots (pc + 1) lv (va_rf (f j) :: st) w) : X p l e R s m args below meth c Q D dA cl B nL cells slots pc lv (.int (nI j) :: .ref a :: st) w :=
  x_aald F hd ht hw (vp_in_nI hj hn) (by rw [nI_clamp (Nat.lt_trans hj hn)]; exact kk)
theorem x_aastN (F : x_Fix p s m args meth c cc nL own Ts ret nm D dA cl tyL B) {t a n j v ci N : Nat} {C : String} {T : u_T} {vs : List Value} {f : Nat → Option Nat} (hd : decode cc pc = .ok (.aastore, 1)) (ht : tyL[t]? = some (.object C)) (hc : cl[ci]? = some (C, T, N)) (hw : w a = some (.inl (t, n, .inr (.inr (.inr (.inr f)))))) (hv : w v = some (.inr (ci, vs))) (hj : j < n) (hn : n < 2 ^ 31) (kk : X p l e R s m args below meth c Q D dA cl B nL cells slots (pc + 1) lv st (x_set w a (.inl (t, n, .inr (.inr (.inr (.inr (va_up f j (some v))))))))) : X p l e R s m args below meth c Q D dA cl B nL cells slots pc lv (.ref v :: .int (nI j) :: .ref a :: st) w :=
  x_aast F hd ht hc hw hv (vp_in_nI hj hn) (by rw [nI_clamp (Nat.lt_trans hj hn)]; exact kk)
theorem x_in {i m2 : Int32} {n : Nat} (hm : m2.toInt = n) (h1 : ¬ i < 0) (h2 : ¬ m2 ≤ i) : vp_in i n := by
  rw [vp_in_iff]
  rw [Int32.lt_iff_toInt_lt] at h1
  rw [Int32.le_iff_toInt_le, hm] at h2
  have h0 : (0 : Int32).toInt = 0 := by decide
  rw [h0] at h1
  omega
theorem x_iincN (F : x_Fix p s m args meth c cc nL own Ts ret nm D dA cl tyL B) {i j : Nat} {n : Int} (hd : decode cc pc = .ok (.iinc i n, 3)) (hv : Int32.ofInt n = 1) (hl : x_ld lv i = some (.int (nI j))) (hn : i < nL) (kk : X p l e R s m args below meth c Q D dA cl B nL cells slots (pc + 3) (x_st1 ((i, .int (nI j)) :: lv) i (.int (nI (j + 1)))) st w) : X p l e R s m args below meth c Q D dA cl B nL cells slots pc lv st w :=
  x_iinc F hd hv hl hn (by rw [nI_1]; exact kk)
end XL
end
section
/-! ===== the state of a registry: numbers, and the cells that hold them ===== -/
abbrev tyL0 : List FieldType := [.int, .object "ServiceApiary$Face", .object "ServiceApiary$Client", .object "ServiceApiary$Adapter", .object "ServiceApiary$Version"]
abbrev rmd (d mc ms : Nat) : Room := { frames := d, cells := mc, slots := ms, locals := 64 * d }
/-- a contract without new cells, of a method that gives a value back; d: how deep it calls -/
abbrev Ci (l : Launch) (D : va_G) (dA : Nat → ClassId) (B : Nat) (y : MethodName) (ws : List Cond) (d : Nat) (av : List Value) (w : xW) (post : Value → xW → Prop) : Prop := x_Ci l D dA vwCl tyL0 B y ws (rmd d 0 0) av w post 0 0
abbrev Cv (l : Launch) (D : va_G) (dA : Nat → ClassId) (B : Nat) (y : MethodName) (ws : List Cond) (d : Nat) (av : List Value) (w : xW) (post : xW → Prop) : Prop := x_Cv l D dA vwCl tyL0 B y ws (rmd d 0 0) av w post 0 0
def x_b (b : Bool) : Int32 := if b then 1 else 0
theorem x_b_t {b : Bool} (h : b = true) : (1 : Int32) = x_b b := by subst h; rfl
theorem x_b_f {b : Bool} (h : b = false) : (0 : Int32) = x_b b := by subst h; rfl
theorem x_b_ne {b : Bool} : ¬ x_b b = 0 ↔ b = true := by cases b <;> decide
theorem x_b_eq {b : Bool} : x_b b = 0 ↔ b = false := by cases b <;> decide
theorem x_b_nar {b : Bool} : narrow .boolean (.int (x_b b)) = .int (x_b b) := by cases b <;> rfl
theorem x_set_set (w : xW) (a : Nat) (x y : xE) : x_set (x_set w a x) a y = x_set w a y := by
  funext b
  by_cases h : b = a
  · subst h; rw [x_set_eq, x_set_eq]
  · rw [x_set_ne _ _ h, x_set_ne _ _ h, x_set_ne _ _ h]
theorem x_set_self {w : xW} {a : Nat} {x : xE} (h : w a = some x) : x_set w a x = w := by
  funext b
  by_cases hb : b = a
  · subst hb; rw [x_set_eq, h]
  · rw [x_set_ne _ _ hb]
abbrev aI (n : Nat) (f : Nat → Int32) : xE := .inl (0, n, .inl f)
abbrev aF (n : Nat) (f : Nat → Option Nat) : xE := .inl (1, n, .inr (.inr (.inr (.inr f))))
abbrev aC (n : Nat) (f : Nat → Option Nat) : xE := .inl (2, n, .inr (.inr (.inr (.inr f))))
abbrev aA (n : Nat) (f : Nat → Option Nat) : xE := .inl (3, n, .inr (.inr (.inr (.inr f))))
abbrev aV (n : Nat) (f : Nat → Option Nat) : xE := .inl (4, n, .inr (.inr (.inr (.inr f))))
abbrev oRet (ka : Nat) (b e n : Int32) : xE := .inr (3, [.ref ka, .int b, .int e, .int n])
abbrev oVer (fa : Nat) (n h q : Int32) (ra : Nat) (s p x y : Int32) : xE := .inr (5, [.ref fa, .int n, .int h, .int q, .ref ra, .int s, .int p, .int x, .int y])
abbrev oRou (a : Nat) (n k m : Int32) (v : Option Nat) : xE := .inr (4, [.ref a, .int n, .int k, .int m, va_rf v])
/-- what is held: how many (0 interfaces, 1 clients, 2 adapters, 3 + f the versions of the interface f); 0 NOW, 1 calls, 2 refused, 3 by a route; of a version 6 f + k: 0 has, 1 needs, 2 state, 3 put off, 4 calls, 5 refused, 6 began, 7 end, 8 answered; asked at; of a client: 0 owner, 1 uses, 2 calls, 3 refused; called at; served; its version; of an adapter: 0 adds, 1 drops; from; to -/
abbrev kT : Type := (Nat → Nat) × (Nat → Int32) × (Nat → Nat → Int32) × (Nat → Nat → Int32) × (Nat → Nat → Int32) × (Nat → Nat → Int32) × (Nat → Nat → Int32) × (Nat → Nat) × (Nat → Nat → Int32) × (Nat → Nat) × (Nat → Nat)
def kN (K : kT) : Nat → Nat := K.1
def kG (K : kT) : Nat → Int32 := K.2.1
def kV (K : kT) : Nat → Nat → Int32 := K.2.2.1
def kVA (K : kT) : Nat → Nat → Int32 := K.2.2.2.1
def kC (K : kT) : Nat → Nat → Int32 := K.2.2.2.2.1
def kCL (K : kT) : Nat → Nat → Int32 := K.2.2.2.2.2.1
def kCS (K : kT) : Nat → Nat → Int32 := K.2.2.2.2.2.2.1
def kCV (K : kT) : Nat → Nat := K.2.2.2.2.2.2.2.1
def kA (K : kT) : Nat → Nat → Int32 := K.2.2.2.2.2.2.2.2.1
def kAF (K : kT) : Nat → Nat := K.2.2.2.2.2.2.2.2.2.1
def kAT (K : kT) : Nat → Nat := K.2.2.2.2.2.2.2.2.2.2
abbrev nf (K : kT) : Nat := kN K 0
abbrev nc (K : kT) : Nat := kN K 1
abbrev na (K : kT) : Nat := kN K 2
abbrev nv (K : kT) (f : Nat) : Nat := kN K (3 + f)
def vOk (K : kT) (i : Nat) : Prop := i / 6 < nf K ∧ i % 6 < nv K (i / 6)
/-- what no call shows: the route that was looked for last (its steps; length, where it leads, what it makes; shut), the trial (asked at; began, end, answered) -/
abbrev jT : Type := (Nat → Int32) × (Nat → Int32) × Option Nat × (Nat → Int32) × (Nat → Int32)
/-- the cells: by kind and number, what lies there; Z: their addresses -/
def obj (Z : Nat → Nat → Nat) (K : kT) (J : jT) (kind idx : Nat) : xE := match kind with
  | 0 => .inr (6, [.ref (Z 1 0), .ref (Z 2 0), .ref (Z 3 0), .int (nI (nf K)), .int (nI (nc K)), .int (nI (na K)), .int (kG K 0), .int (kG K 1), .int (kG K 2), .int (kG K 3), .ref (Z 4 0), .ref (Z 6 0)])
  | 1 => aF 4 (fun j => if j < nf K then some (Z 8 j) else none)
  | 2 => aC 10 (fun j => if j < nc K then some (Z 13 j) else none)
  | 3 => aA 10 (fun j => if j < na K then some (Z 16 j) else none)
  | 4 => oRou (Z 5 0) (J.2.1 0) (J.2.1 1) (J.2.1 2) J.2.2.1
  | 5 => aI 3 J.1
  | 6 => oRet (Z 7 0) (J.2.2.2.2 0) (J.2.2.2.2 1) (J.2.2.2.2 2)
  | 7 => aI 5 J.2.2.2.1
  | 8 => .inr (2, [.int (nI idx), .ref (Z 9 idx), .int (nI (nv K idx))])
  | 9 => aV 6 (fun j => if j < nv K idx then some (Z 10 (6 * idx + j)) else none)
  | 10 => .inr (5, [.ref (Z 8 (idx / 6)), .int (nI (idx % 6)), .int (kV K idx 0), .int (kV K idx 1), .ref (Z 11 idx), .int (kV K idx 2), .int (kV K idx 3), .int (kV K idx 4), .int (kV K idx 5)])
  | 11 => oRet (Z 12 idx) (kV K idx 6) (kV K idx 7) (kV K idx 8)
  | 12 => aI 5 (kVA K idx)
  | 13 => .inr (1, [.int (kC K idx 0), .ref (Z 8 (kCV K idx / 6)), .ref (Z 14 idx), .ref (Z 15 idx), .ref (Z 10 (kCV K idx)), .int (kC K idx 1), .int (kC K idx 2), .int (kC K idx 3)])
  | 14 => aI 6 (kCL K idx)
  | 15 => aI 6 (kCS K idx)
  | _ => .inr (0, [.ref (Z 10 (kAF K idx)), .ref (Z 10 (kAT K idx)), .int (kA K idx 0), .int (kA K idx 1)])
def live (K : kT) (kind idx : Nat) : Prop := match kind with
  | 0 | 1 | 2 | 3 | 4 | 5 | 6 | 7 => idx = 0
  | 8 | 9 => idx < nf K
  | 10 | 11 | 12 => vOk K idx
  | 13 | 14 | 15 => idx < nc K
  | 16 => idx < na K
  | _ => False
def kWf (K : kT) : Prop := nf K ≤ 4 ∧ (∀ f, f < nf K → nv K f ≤ 6) ∧ nc K ≤ 10 ∧ na K ≤ 10 ∧ (∀ k, k < nc K → vOk K (kCV K k)) ∧ ∀ k, k < na K → vOk K (kAF K k) ∧ vOk K (kAT K k)
def Rep (Z : Nat → Nat → Nat) (K : kT) (J : jT) (w : xW) : Prop :=
  (∀ kind idx, live K kind idx → w (Z kind idx) = some (obj Z K J kind idx)) ∧ (∀ k1 i1 k2 i2, live K k1 i1 → live K k2 i2 → Z k1 i1 = Z k2 i2 → k1 = k2 ∧ i1 = i2) ∧ kWf K
section RP
variable {Z : Nat → Nat → Nat} {K : kT} {J : jT} {w : xW}
theorem Rep.main (h : Rep Z K J w) : w (Z 0 0) = some (.inr (6, [.ref (Z 1 0), .ref (Z 2 0), .ref (Z 3 0), .int (nI (nf K)), .int (nI (nc K)), .int (nI (na K)), .int (kG K 0), .int (kG K 1), .int (kG K 2), .int (kG K 3), .ref (Z 4 0), .ref (Z 6 0)])) := h.1 0 0 rfl
theorem Rep.faces (h : Rep Z K J w) : w (Z 1 0) = some (aF 4 (fun j => if j < nf K then some (Z 8 j) else none)) := h.1 1 0 rfl
theorem Rep.clients (h : Rep Z K J w) : w (Z 2 0) = some (aC 10 (fun j => if j < nc K then some (Z 13 j) else none)) := h.1 2 0 rfl
theorem Rep.adapters (h : Rep Z K J w) : w (Z 3 0) = some (aA 10 (fun j => if j < na K then some (Z 16 j) else none)) := h.1 3 0 rfl
theorem Rep.route (h : Rep Z K J w) : w (Z 4 0) = some (oRou (Z 5 0) (J.2.1 0) (J.2.1 1) (J.2.1 2) J.2.2.1) := h.1 4 0 rfl
theorem Rep.steps (h : Rep Z K J w) : w (Z 5 0) = some (aI 3 J.1) := h.1 5 0 rfl
theorem Rep.face (h : Rep Z K J w) {f : Nat} (hf : f < nf K) : w (Z 8 f) = some (.inr (2, [.int (nI f), .ref (Z 9 f), .int (nI (nv K f))])) := h.1 8 f hf
theorem Rep.fvs (h : Rep Z K J w) {f : Nat} (hf : f < nf K) : w (Z 9 f) = some (aV 6 (fun j => if j < nv K f then some (Z 10 (6 * f + j)) else none)) := h.1 9 f hf
theorem Rep.ver (h : Rep Z K J w) {i : Nat} (hi : vOk K i) : w (Z 10 i) = some (.inr (5, [.ref (Z 8 (i / 6)), .int (nI (i % 6)), .int (kV K i 0), .int (kV K i 1), .ref (Z 11 i), .int (kV K i 2), .int (kV K i 3), .int (kV K i 4), .int (kV K i 5)])) := h.1 10 i hi
theorem Rep.ret (h : Rep Z K J w) {i : Nat} (hi : vOk K i) : w (Z 11 i) = some (oRet (Z 12 i) (kV K i 6) (kV K i 7) (kV K i 8)) := h.1 11 i hi
theorem Rep.ask (h : Rep Z K J w) {i : Nat} (hi : vOk K i) : w (Z 12 i) = some (aI 5 (kVA K i)) := h.1 12 i hi
theorem Rep.cli (h : Rep Z K J w) {k : Nat} (hk : k < nc K) : w (Z 13 k) = some (.inr (1, [.int (kC K k 0), .ref (Z 8 (kCV K k / 6)), .ref (Z 14 k), .ref (Z 15 k), .ref (Z 10 (kCV K k)), .int (kC K k 1), .int (kC K k 2), .int (kC K k 3)])) := h.1 13 k hk
theorem Rep.cla (h : Rep Z K J w) {k : Nat} (hk : k < nc K) : w (Z 14 k) = some (aI 6 (kCL K k)) := h.1 14 k hk
theorem Rep.csv (h : Rep Z K J w) {k : Nat} (hk : k < nc K) : w (Z 15 k) = some (aI 6 (kCS K k)) := h.1 15 k hk
theorem Rep.ada (h : Rep Z K J w) {k : Nat} (hk : k < na K) : w (Z 16 k) = some (.inr (0, [.ref (Z 10 (kAF K k)), .ref (Z 10 (kAT K k)), .int (kA K k 0), .int (kA K k 1)])) := h.1 16 k hk
theorem Rep.cv (h : Rep Z K J w) {k : Nat} (hk : k < nc K) : vOk K (kCV K k) := h.2.2.2.2.2.2.1 k hk
theorem Rep.af (h : Rep Z K J w) {k : Nat} (hk : k < na K) : vOk K (kAF K k) := (h.2.2.2.2.2.2.2 k hk).1
theorem Rep.at (h : Rep Z K J w) {k : Nat} (hk : k < na K) : vOk K (kAT K k) := (h.2.2.2.2.2.2.2 k hk).2
theorem Rep.nf4 (h : Rep Z K J w) : nf K ≤ 4 := h.2.2.1
theorem Rep.nv6 (h : Rep Z K J w) {f : Nat} (hf : f < nf K) : nv K f ≤ 6 := h.2.2.2.1 f hf
theorem Rep.nc10 (h : Rep Z K J w) : nc K ≤ 10 := h.2.2.2.2.1
theorem Rep.na10 (h : Rep Z K J w) : na K ≤ 10 := h.2.2.2.2.2.1
theorem Rep.inj (h : Rep Z K J w) {k1 i1 k2 i2 : Nat} (h1 : live K k1 i1) (h2 : live K k2 i2) (he : Z k1 i1 = Z k2 i2) : k1 = k2 ∧ i1 = i2 := h.2.1 k1 i1 k2 i2 h1 h2 he
theorem Rep.veq (h : Rep Z K J w) {i j : Nat} (hi : vOk K i) (hj : vOk K j) : Z 10 i = Z 10 j ↔ i = j := ⟨fun e => (h.inj (k1 := 10) (k2 := 10) hi hj e).2, fun e => by rw [e]⟩
theorem Rep.feq (h : Rep Z K J w) {i j : Nat} (hi : i < nf K) (hj : j < nf K) : Z 8 i = Z 8 j ↔ i = j := ⟨fun e => (h.inj (k1 := 8) (k2 := 8) hi hj e).2, fun e => by rw [e]⟩
/-- one cell changes -/
theorem Rep.put (h : Rep Z K J w) {K1 : kT} {J1 : jT} {kind idx : Nat} (hl : live K kind idx) (hN : kN K1 = kN K) (hC : kCV K1 = kCV K) (hF : kAF K1 = kAF K) (hT : kAT K1 = kAT K)
    (ho : ∀ k2 i2, live K k2 i2 → ¬ (k2 = kind ∧ i2 = idx) → obj Z K1 J1 k2 i2 = obj Z K J k2 i2) {x : xE} (hx : x = obj Z K1 J1 kind idx) : Rep Z K1 J1 (x_set w (Z kind idx) x) := by
  subst hx
  have hvo : ∀ i, vOk K1 i ↔ vOk K i := fun i => by unfold vOk; simp only [nf, nv, hN]
  have hlv : ∀ k i, live K1 k i ↔ live K k i := fun k i => by
    unfold live vOk
    split <;> first | exact Iff.rfl | simp only [nf, nc, na, nv, hN]
  refine ⟨fun k2 i2 h2 => ?_, fun k1 i1 k2 i2 h1 h2 e => h.2.1 k1 i1 k2 i2 ((hlv _ _).mp h1) ((hlv _ _).mp h2) e, ?_⟩
  · have h2' := (hlv _ _).mp h2
    by_cases hc : k2 = kind ∧ i2 = idx
    · obtain ⟨rfl, rfl⟩ := hc
      exact x_set_eq _ _ _
    · rw [x_set_ne _ _ (fun e => hc (h.inj h2' hl e)), h.1 _ _ h2', ho k2 i2 h2' hc]
  · obtain ⟨a1, a2, a3, a4, a5, a6⟩ := h.2.2
    unfold kWf
    simp only [nf, nc, na, nv, hN, hC, hF, hT]
    exact ⟨a1, a2, a3, a4, fun k hk => (hvo _).mpr (a5 k hk), fun k hk => ⟨(hvo _).mpr (a6 k hk).1, (hvo _).mpr (a6 k hk).2⟩⟩
/-- the other cells of the world stay -/
def Oth (Z : Nat → Nat → Nat) (K : kT) (w w1 : xW) : Prop := ∀ a, (∀ kind idx, live K kind idx → ¬ a = Z kind idx) → w1 a = w a
theorem Oth.rfl : Oth Z K w w := fun _ _ => Eq.refl _
theorem Oth.trans {w1 w2 : xW} {K1 : kT} (h : Oth Z K w w1) (h1 : Oth Z K1 w1 w2) (hN : kN K1 = kN K) : Oth Z K w w2 := by
  intro a ha
  have hlv : ∀ k i, live K1 k i → live K k i := fun k i => by
    unfold live vOk
    split <;> first | exact id | (simp only [nf, nc, na, nv, hN]; exact id)
  rw [h1 a (fun k i q => ha k i (hlv k i q)), h a ha]
theorem Oth.set {kind idx : Nat} (hl : live K kind idx) (x : xE) : Oth Z K w (x_set w (Z kind idx) x) := fun a ha => x_set_ne _ _ (ha kind idx hl)
end RP
end
section
/-! ===== the leaves ===== -/
section LEAF
variable {l : Launch} {D : va_G} {dA : Nat → ClassId} {B : Nat} {Z : Nat → Nat → Nat} {K : kT} {J : jT} {w : xW}
def f_answ (n o : Int32) : Bool := decide (((n >>> (o &&& 31)) &&& 1) = 1)
def f_asked (f : Nat → Int32) (o : Int32) : Int32 := if o < 0 ∨ 5 ≤ o then -1 else f o.toNatClampNeg
def f_warned (f : Nat → Int32) (n o h : Int32) : Bool := f_answ n o || (!decide (f_asked f o = -1) && !decide (h - f_asked f o < 72))
def f_brown (b h : Int32) : Bool := (!decide (2 * ((h - b) / 24) ≤ (h - b) - (h - b) / 24 * 24)) && !decide (12 ≤ (h - b) - (h - b) / 24 * 24)
def f_quota (b h : Int32) : Int32 := if 1 < 8 - (h - b) / 24 then 8 - (h - b) / 24 else 1
def f_suits (h n h2 n2 : Int32) : Bool := decide (h2 &&& (h ^^^ -1) = 0) && decide (n &&& (n2 ^^^ -1) = 0)
def f_again (h n u : Int32) : Int32 := n ||| (u &&& h)
def f_fits (u h n : Int32) : Bool := decide (n &&& (u ^^^ -1) = 0) && decide (u &&& (h ^^^ -1) = 0)
def f_makes (a d u : Int32) : Int32 := (u &&& (d ^^^ -1)) ||| a
def f_owner (o : Int32) : Bool := (!decide (o < 0)) && !decide (5 ≤ o)
def f_set (u : Int32) : Bool := (!decide (u < 0)) && !decide (255 < u)
def f_shape (h n : Int32) : Bool := f_set h && ((!decide (n < 0)) && decide (n &&& (h ^^^ -1) = 0))
def f_at (m : Int32) (g : Nat → Option Nat) (x : Int32) : Option Nat := if x < 0 ∨ m ≤ x then none else g x.toNatClampNeg
theorem f_at_neg {m : Int32} {g : Nat → Option Nat} {x : Int32} (h : x < 0) : f_at m g x = none := if_pos (Or.inl h)
theorem f_at_big {m : Int32} {g : Nat → Option Nat} {x : Int32} (h : m ≤ x) : f_at m g x = none := if_pos (Or.inr h)
theorem f_at_in {m : Int32} {g : Nat → Option Nat} {x : Int32} (h1 : ¬ x < 0) (h2 : ¬ m ≤ x) : f_at m g x = g x.toNatClampNeg := if_neg (fun h => h.elim h1 h2)
def g_face (Z : Nat → Nat → Nat) (K : kT) (j : Nat) : Option Nat := if j < nf K then some (Z 8 j) else none
def g_cli (Z : Nat → Nat → Nat) (K : kT) (j : Nat) : Option Nat := if j < nc K then some (Z 13 j) else none
def g_ver (Z : Nat → Nat → Nat) (K : kT) (f j : Nat) : Option Nat := if j < nv K f then some (Z 10 (6 * f + j)) else none
def f_called (K : kT) (k i : Nat) : Int32 := if kCV K k / 6 = i / 6 then kCL K k (i % 6) else -1
def f_served (K : kT) (k i : Nat) : Int32 := if kCV K k / 6 = i / 6 then kCS K k (i % 6) else 0
def f_caller (K : kT) (k i : Nat) (h : Int32) : Bool := (!decide (f_called K k i = -1)) && !decide (24 ≤ h - f_called K k i)
theorem vOk.lt6 {i : Nat} (_ : vOk K i) : i % 6 < 6 := by omega
set_option maxRecDepth 100000 in
set_option maxHeartbeats 4000000 in
theorem c_hasAnswered {r ka : Nat} {b en n : Int32} (hr : w r = some (oRet ka b en n)) (o : Int32) : Ci l D dA B yX3_hasAnswered wX3_hasAnswered 0 [.ref r, .int o] w (fun v w1 => v = .int (x_b (f_answ n o)) ∧ w1 = w) := by
  refine x_Ct.of (cc := cX3_hasAnswered) (maxL := 2) (by decide) rfl (Nat.le_of_ble_eq_true rfl) ?_
  intro p e s m below meth c F
  refine x_aload_n F dX3_hasAnswered_0 rfl rfl ?_
  refine x_get (ci := 3) (C := RX3) (T := TX3) (N := 4) (k := 3) F dX3_hasAnswered_1 rfl inX3 (by decide) q59 rfl hr rfl ?_
  refine x_iload_n F dX3_hasAnswered_4 rfl rfl ?_
  refine x_ishr F dX3_hasAnswered_5 ?_
  refine x_iconst (v := 1) F dX3_hasAnswered_6 (by decide) ?_
  refine x_iand F dX3_hasAnswered_7 ?_
  refine x_iconst (v := 1) F dX3_hasAnswered_8 (by decide) ?_
  refine x_icmp_ne F dX3_hasAnswered_9 rfl (fun h9 => ?_) (fun h9 => ?_)
  · refine x_iconst (v := 0) F dX3_hasAnswered_16 (by decide) ?_
    refine x_iret F rfl rfl dX3_hasAnswered_17 (Nat.le_refl _) (Nat.le_refl _) ?_
    first | exact ⟨_, rfl, congrArg Value.int (x_b_t (by simp [f_answ, *])), rfl⟩ | exact ⟨_, rfl, congrArg Value.int (x_b_f (by simp [f_answ, *])), rfl⟩
  · refine x_iconst (v := 1) F dX3_hasAnswered_12 (by decide) ?_
    refine x_goto F dX3_hasAnswered_13 rfl ?_
    refine x_iret F rfl rfl dX3_hasAnswered_17 (Nat.le_refl _) (Nat.le_refl _) ?_
    first | exact ⟨_, rfl, congrArg Value.int (x_b_t (by simp [f_answ, *])), rfl⟩ | exact ⟨_, rfl, congrArg Value.int (x_b_f (by simp [f_answ, *])), rfl⟩
set_option maxRecDepth 100000 in
set_option maxHeartbeats 4000000 in
theorem c_askedAtOf {r ka : Nat} {b en n : Int32} {f : Nat → Int32} (hr : w r = some (oRet ka b en n)) (hk : w ka = some (aI 5 f)) (o : Int32) : Ci l D dA B yX3_askedAtOf wX3_askedAtOf 0 [.ref r, .int o] w (fun v w1 => v = .int (f_asked f o) ∧ w1 = w) := by
  refine x_Ct.of (cc := cX3_askedAtOf) (maxL := 2) (by decide) rfl (Nat.le_of_ble_eq_true rfl) ?_
  intro p e s m below meth c F
  refine x_iload_n F dX3_askedAtOf_0 rfl rfl ?_
  refine x_if_lt F dX3_askedAtOf_1 rfl (fun h1 => ?_) (fun h1 => ?_)
  · refine x_iconst (v := (-1)) F dX3_askedAtOf_22 (by decide) ?_
    refine x_iret F rfl rfl dX3_askedAtOf_23 (Nat.le_refl _) (Nat.le_refl _) ?_
    exact ⟨_, rfl, congrArg Value.int (by simp [f_asked, *]), rfl⟩
  · refine x_iload_n F dX3_askedAtOf_4 rfl rfl ?_
    refine x_aload_n F dX3_askedAtOf_5 rfl rfl ?_
    refine x_get (ci := 3) (C := RX3) (T := TX3) (N := 4) (k := 0) F dX3_askedAtOf_6 rfl inX3 (by decide) q54 rfl hr rfl ?_
    refine x_alen (v := 5) F dX3_askedAtOf_9 rfl hk rfl ?_
    refine x_icmp_ge F dX3_askedAtOf_10 rfl (fun h10 => ?_) (fun h10 => ?_)
    · refine x_iconst (v := (-1)) F dX3_askedAtOf_22 (by decide) ?_
      refine x_iret F rfl rfl dX3_askedAtOf_23 (Nat.le_refl _) (Nat.le_refl _) ?_
      exact ⟨_, rfl, congrArg Value.int (by simp [f_asked, *]), rfl⟩
    · refine x_aload_n F dX3_askedAtOf_13 rfl rfl ?_
      refine x_get (ci := 3) (C := RX3) (T := TX3) (N := 4) (k := 0) F dX3_askedAtOf_14 rfl inX3 (by decide) q54 rfl hr rfl ?_
      refine x_iload_n F dX3_askedAtOf_17 rfl rfl ?_
      refine x_iald F dX3_askedAtOf_18 rfl hk (x_in (m2 := 5) (by decide) h1 h10) ?_
      refine x_goto F dX3_askedAtOf_19 rfl ?_
      refine x_iret F rfl rfl dX3_askedAtOf_23 (Nat.le_refl _) (Nat.le_refl _) ?_
      exact ⟨_, rfl, congrArg Value.int (by simp [f_asked, *]), rfl⟩
set_option maxRecDepth 100000 in
set_option maxHeartbeats 4000000 in
theorem c_isWarned {r ka : Nat} {b en n : Int32} {f : Nat → Int32} (hr : w r = some (oRet ka b en n)) (hk : w ka = some (aI 5 f)) (o h : Int32) : Ci l D dA B yX3_isWarned wX3_isWarned 1 [.ref r, .int o, .int h] w (fun v w1 => v = .int (x_b (f_warned f n o h)) ∧ w1 = w) := by
  refine x_Ct.of (cc := cX3_isWarned) (maxL := 4) (by decide) rfl (Nat.le_of_ble_eq_true rfl) ?_
  intro p e s m below meth c F
  refine x_aload_n F dX3_isWarned_0 rfl rfl ?_
  refine x_iload_n F dX3_isWarned_1 rfl rfl ?_
  refine x_cVi1 (ci := 3) (C := RX3) (T := TX3) (N := 4) F dX3_isWarned_2 (x_gV q201 q202 q203 q3 q204) rfl (c_askedAtOf hr hk o) ⟨rfl, rfl, rfl, xd_X3_askedAtOf, ⟨Nat.le_of_ble_eq_true rfl, Nat.le_of_ble_eq_true rfl⟩, Nat.le_of_ble_eq_true rfl, Nat.le_of_ble_eq_true rfl⟩ rfl hr (Nat.le_of_ble_eq_true rfl) (fun v1 w1 hp => ?_)
  obtain ⟨rfl, hw9⟩ := hp
  replace hw9 := hw9.symm
  subst hw9
  refine x_istore_n F dX3_isWarned_5 rfl (by decide) ?_
  refine x_aload_n F dX3_isWarned_6 rfl rfl ?_
  refine x_iload_n F dX3_isWarned_7 rfl rfl ?_
  refine x_cVi1 (ci := 3) (C := RX3) (T := TX3) (N := 4) F dX3_isWarned_8 (x_gV q205 q206 q207 q3 q208) rfl (c_hasAnswered hr o) ⟨rfl, rfl, rfl, xd_X3_hasAnswered, ⟨Nat.le_of_ble_eq_true rfl, Nat.le_of_ble_eq_true rfl⟩, Nat.le_of_ble_eq_true rfl, Nat.le_of_ble_eq_true rfl⟩ rfl hr (Nat.le_of_ble_eq_true rfl) (fun v1 w1 hp => ?_)
  obtain ⟨rfl, hw9⟩ := hp
  replace hw9 := hw9.symm
  subst hw9
  refine x_if_ne F dX3_isWarned_11 rfl (fun h11 => ?_) (fun h11 => ?_)
  · refine x_iconst (v := 1) F dX3_isWarned_27 (by decide) ?_
    refine x_goto F dX3_isWarned_28 rfl ?_
    refine x_iret F rfl rfl dX3_isWarned_32 (Nat.le_refl _) (Nat.le_refl _) ?_
    first | exact ⟨_, rfl, congrArg Value.int (x_b_t (by simp_all [f_warned, x_b_ne, x_b_eq])), rfl⟩ | exact ⟨_, rfl, congrArg Value.int (x_b_f (by simp_all [f_warned, x_b_ne, x_b_eq])), rfl⟩
  · refine x_iload_n F dX3_isWarned_14 rfl rfl ?_
    refine x_iconst (v := (-1)) F dX3_isWarned_15 (by decide) ?_
    refine x_icmp_eq F dX3_isWarned_16 rfl (fun h16 => ?_) (fun h16 => ?_)
    · refine x_iconst (v := 0) F dX3_isWarned_31 (by decide) ?_
      refine x_iret F rfl rfl dX3_isWarned_32 (Nat.le_refl _) (Nat.le_refl _) ?_
      first | exact ⟨_, rfl, congrArg Value.int (x_b_t (by simp_all [f_warned, x_b_ne, x_b_eq])), rfl⟩ | exact ⟨_, rfl, congrArg Value.int (x_b_f (by simp_all [f_warned, x_b_ne, x_b_eq])), rfl⟩
    · refine x_iload_n F dX3_isWarned_19 rfl rfl ?_
      refine x_iload_n F dX3_isWarned_20 rfl rfl ?_
      refine x_isub F dX3_isWarned_21 ?_
      refine x_bipush (v := 72) F dX3_isWarned_22 (by decide) ?_
      refine x_icmp_lt F dX3_isWarned_24 rfl (fun h24 => ?_) (fun h24 => ?_)
      · refine x_iconst (v := 0) F dX3_isWarned_31 (by decide) ?_
        refine x_iret F rfl rfl dX3_isWarned_32 (Nat.le_refl _) (Nat.le_refl _) ?_
        first | exact ⟨_, rfl, congrArg Value.int (x_b_t (by simp_all [f_warned, x_b_ne, x_b_eq])), rfl⟩ | exact ⟨_, rfl, congrArg Value.int (x_b_f (by simp_all [f_warned, x_b_ne, x_b_eq])), rfl⟩
      · refine x_iconst (v := 1) F dX3_isWarned_27 (by decide) ?_
        refine x_goto F dX3_isWarned_28 rfl ?_
        refine x_iret F rfl rfl dX3_isWarned_32 (Nat.le_refl _) (Nat.le_refl _) ?_
        first | exact ⟨_, rfl, congrArg Value.int (x_b_t (by simp_all [f_warned, x_b_ne, x_b_eq])), rfl⟩ | exact ⟨_, rfl, congrArg Value.int (x_b_f (by simp_all [f_warned, x_b_ne, x_b_eq])), rfl⟩
set_option maxRecDepth 100000 in
set_option maxHeartbeats 4000000 in
theorem c_isBrownedOut {r ka : Nat} {b en n : Int32} {f : Nat → Int32} (hr : w r = some (oRet ka b en n)) (hk : w ka = some (aI 5 f)) (h : Int32) : Ci l D dA B yX3_isBrownedOut wX3_isBrownedOut 0 [.ref r, .int h] w (fun v w1 => v = .int (x_b (f_brown b h)) ∧ w1 = w) := by
  refine x_Ct.of (cc := cX3_isBrownedOut) (maxL := 3) (by decide) rfl (Nat.le_of_ble_eq_true rfl) ?_
  intro p e s m below meth c F
  refine x_iload_n F dX3_isBrownedOut_0 rfl rfl ?_
  refine x_aload_n F dX3_isBrownedOut_1 rfl rfl ?_
  refine x_get (ci := 3) (C := RX3) (T := TX3) (N := 4) (k := 1) F dX3_isBrownedOut_2 rfl inX3 (by decide) q55 rfl hr rfl ?_
  refine x_isub F dX3_isBrownedOut_5 ?_
  refine x_bipush (v := 24) F dX3_isBrownedOut_6 (by decide) ?_
  refine x_irem F dX3_isBrownedOut_8 (by decide) ?_
  refine x_istore_n F dX3_isBrownedOut_9 rfl (by decide) ?_
  refine x_iload_n F dX3_isBrownedOut_10 rfl rfl ?_
  refine x_iconst (v := 2) F dX3_isBrownedOut_11 (by decide) ?_
  refine x_iload_n F dX3_isBrownedOut_12 rfl rfl ?_
  refine x_aload_n F dX3_isBrownedOut_13 rfl rfl ?_
  refine x_get (ci := 3) (C := RX3) (T := TX3) (N := 4) (k := 1) F dX3_isBrownedOut_14 rfl inX3 (by decide) q55 rfl hr rfl ?_
  refine x_isub F dX3_isBrownedOut_17 ?_
  refine x_bipush (v := 24) F dX3_isBrownedOut_18 (by decide) ?_
  refine x_idiv F dX3_isBrownedOut_20 (by decide) ?_
  refine x_imul F dX3_isBrownedOut_21 ?_
  refine x_icmp_ge F dX3_isBrownedOut_22 rfl (fun h22 => ?_) (fun h22 => ?_)
  · refine x_iconst (v := 0) F dX3_isBrownedOut_35 (by decide) ?_
    refine x_iret F rfl rfl dX3_isBrownedOut_36 (Nat.le_refl _) (Nat.le_refl _) ?_
    first | exact ⟨_, rfl, congrArg Value.int (x_b_t (by simp_all [f_brown])), rfl⟩ | exact ⟨_, rfl, congrArg Value.int (x_b_f (by simp_all [f_brown])), rfl⟩
  · refine x_iload_n F dX3_isBrownedOut_25 rfl rfl ?_
    refine x_bipush (v := 12) F dX3_isBrownedOut_26 (by decide) ?_
    refine x_icmp_ge F dX3_isBrownedOut_28 rfl (fun h28 => ?_) (fun h28 => ?_)
    · refine x_iconst (v := 0) F dX3_isBrownedOut_35 (by decide) ?_
      refine x_iret F rfl rfl dX3_isBrownedOut_36 (Nat.le_refl _) (Nat.le_refl _) ?_
      first | exact ⟨_, rfl, congrArg Value.int (x_b_t (by simp_all [f_brown])), rfl⟩ | exact ⟨_, rfl, congrArg Value.int (x_b_f (by simp_all [f_brown])), rfl⟩
    · refine x_iconst (v := 1) F dX3_isBrownedOut_31 (by decide) ?_
      refine x_goto F dX3_isBrownedOut_32 rfl ?_
      refine x_iret F rfl rfl dX3_isBrownedOut_36 (Nat.le_refl _) (Nat.le_refl _) ?_
      first | exact ⟨_, rfl, congrArg Value.int (x_b_t (by simp_all [f_brown])), rfl⟩ | exact ⟨_, rfl, congrArg Value.int (x_b_f (by simp_all [f_brown])), rfl⟩
set_option maxRecDepth 100000 in
set_option maxHeartbeats 4000000 in
theorem c_quota {r ka : Nat} {b en n : Int32} {f : Nat → Int32} (hr : w r = some (oRet ka b en n)) (hk : w ka = some (aI 5 f)) (h : Int32) : Ci l D dA B yX3_quota wX3_quota 1 [.ref r, .int h] w (fun v w1 => v = .int (f_quota b h) ∧ w1 = w) := by
  refine x_Ct.of (cc := cX3_quota) (maxL := 2) (by decide) rfl (Nat.le_of_ble_eq_true rfl) ?_
  intro p e s m below meth c F
  refine x_iconst (v := 1) F dX3_quota_0 (by decide) ?_
  refine x_bipush (v := 8) F dX3_quota_1 (by decide) ?_
  refine x_iload_n F dX3_quota_3 rfl rfl ?_
  refine x_aload_n F dX3_quota_4 rfl rfl ?_
  refine x_get (ci := 3) (C := RX3) (T := TX3) (N := 4) (k := 1) F dX3_quota_5 rfl inX3 (by decide) q55 rfl hr rfl ?_
  refine x_isub F dX3_quota_8 ?_
  refine x_bipush (v := 24) F dX3_quota_9 (by decide) ?_
  refine x_idiv F dX3_quota_11 (by decide) ?_
  refine x_isub F dX3_quota_12 ?_
  refine x_max F dX3_quota_13 q334 q335 q15 q336 (Nat.le_of_ble_eq_true rfl) (Nat.le_of_ble_eq_true rfl) (Nat.le_of_ble_eq_true rfl) (Nat.le_of_ble_eq_true rfl) ?_
  refine x_iret F rfl rfl dX3_quota_16 (Nat.le_refl _) (Nat.le_refl _) ?_
  exact ⟨_, rfl, rfl, rfl⟩
set_option maxRecDepth 100000 in
set_option maxHeartbeats 4000000 in
theorem c_suits {a a1 fa fa1 ra ra1 : Nat} {n0 h n s0 p0 x0 y0 n1 h1 n1b s1 q1 x1 y1 : Int32} (ha : w a = some (oVer fa n0 h n ra s0 p0 x0 y0)) (hb : w a1 = some (oVer fa1 n1 h1 n1b ra1 s1 q1 x1 y1)) : Ci l D dA B yX5_suits wX5_suits 0 [.ref a, .ref a1] w (fun v w1 => v = .int (x_b (f_suits h n h1 n1b)) ∧ w1 = w) := by
  refine x_Ct.of (cc := cX5_suits) (maxL := 2) (by decide) rfl (Nat.le_of_ble_eq_true rfl) ?_
  intro p e s m below meth c F
  refine x_aload_n F dX5_suits_0 rfl rfl ?_
  refine x_get (ci := 5) (C := RX5) (T := TX5) (N := 9) (k := 2) F dX5_suits_1 rfl inX5 (by decide) q142 rfl hb rfl ?_
  refine x_aload_n F dX5_suits_4 rfl rfl ?_
  refine x_get (ci := 5) (C := RX5) (T := TX5) (N := 9) (k := 2) F dX5_suits_5 rfl inX5 (by decide) q142 rfl ha rfl ?_
  refine x_iconst (v := (-1)) F dX5_suits_8 (by decide) ?_
  refine x_ixor F dX5_suits_9 ?_
  refine x_iand F dX5_suits_10 ?_
  refine x_if_ne F dX5_suits_11 rfl (fun h11 => ?_) (fun h11 => ?_)
  · refine x_iconst (v := 0) F dX5_suits_32 (by decide) ?_
    refine x_iret F rfl rfl dX5_suits_33 (Nat.le_refl _) (Nat.le_refl _) ?_
    first | exact ⟨_, rfl, congrArg Value.int (x_b_t (by simp_all [f_suits])), rfl⟩ | exact ⟨_, rfl, congrArg Value.int (x_b_f (by simp_all [f_suits])), rfl⟩
  · refine x_aload_n F dX5_suits_14 rfl rfl ?_
    refine x_get (ci := 5) (C := RX5) (T := TX5) (N := 9) (k := 3) F dX5_suits_15 rfl inX5 (by decide) q144 rfl ha rfl ?_
    refine x_aload_n F dX5_suits_18 rfl rfl ?_
    refine x_get (ci := 5) (C := RX5) (T := TX5) (N := 9) (k := 3) F dX5_suits_19 rfl inX5 (by decide) q144 rfl hb rfl ?_
    refine x_iconst (v := (-1)) F dX5_suits_22 (by decide) ?_
    refine x_ixor F dX5_suits_23 ?_
    refine x_iand F dX5_suits_24 ?_
    refine x_if_ne F dX5_suits_25 rfl (fun h25 => ?_) (fun h25 => ?_)
    · refine x_iconst (v := 0) F dX5_suits_32 (by decide) ?_
      refine x_iret F rfl rfl dX5_suits_33 (Nat.le_refl _) (Nat.le_refl _) ?_
      first | exact ⟨_, rfl, congrArg Value.int (x_b_t (by simp_all [f_suits])), rfl⟩ | exact ⟨_, rfl, congrArg Value.int (x_b_f (by simp_all [f_suits])), rfl⟩
    · refine x_iconst (v := 1) F dX5_suits_28 (by decide) ?_
      refine x_goto F dX5_suits_29 rfl ?_
      refine x_iret F rfl rfl dX5_suits_33 (Nat.le_refl _) (Nat.le_refl _) ?_
      first | exact ⟨_, rfl, congrArg Value.int (x_b_t (by simp_all [f_suits])), rfl⟩ | exact ⟨_, rfl, congrArg Value.int (x_b_f (by simp_all [f_suits])), rfl⟩
set_option maxRecDepth 100000 in
set_option maxHeartbeats 4000000 in
theorem c_usesAgain (hR : Rep Z K J w) {i : Nat} (hi : vOk K i) (u : Int32) : Ci l D dA B yX5_usesAgain wX5_usesAgain 0 [.ref (Z 10 i), .int u] w (fun v w1 => v = .int (f_again (kV K i 0) (kV K i 1) u) ∧ w1 = w) := by
  refine x_Ct.of (cc := cX5_usesAgain) (maxL := 2) (by decide) rfl (Nat.le_of_ble_eq_true rfl) ?_
  intro p e s m below meth c F
  refine x_aload_n F dX5_usesAgain_0 rfl rfl ?_
  refine x_get (ci := 5) (C := RX5) (T := TX5) (N := 9) (k := 3) F dX5_usesAgain_1 rfl inX5 (by decide) q144 rfl (hR.ver hi) rfl ?_
  refine x_iload_n F dX5_usesAgain_4 rfl rfl ?_
  refine x_aload_n F dX5_usesAgain_5 rfl rfl ?_
  refine x_get (ci := 5) (C := RX5) (T := TX5) (N := 9) (k := 2) F dX5_usesAgain_6 rfl inX5 (by decide) q142 rfl (hR.ver hi) rfl ?_
  refine x_iand F dX5_usesAgain_9 ?_
  refine x_ior F dX5_usesAgain_10 ?_
  refine x_iret F rfl rfl dX5_usesAgain_11 (Nat.le_refl _) (Nat.le_refl _) ?_
  exact ⟨_, rfl, rfl, rfl⟩
set_option maxRecDepth 100000 in
set_option maxHeartbeats 4000000 in
theorem c_makesOf (hR : Rep Z K J w) {k : Nat} (hk : k < na K) (u : Int32) : Ci l D dA B yX0_makesOf wX0_makesOf 0 [.ref (Z 16 k), .int u] w (fun v w1 => v = .int (f_makes (kA K k 0) (kA K k 1) u) ∧ w1 = w) := by
  refine x_Ct.of (cc := cX0_makesOf) (maxL := 2) (by decide) rfl (Nat.le_of_ble_eq_true rfl) ?_
  intro p e s m below meth c F
  refine x_iload_n F dX0_makesOf_0 rfl rfl ?_
  refine x_aload_n F dX0_makesOf_1 rfl rfl ?_
  refine x_get (ci := 0) (C := RX0) (T := TX0) (N := 4) (k := 3) F dX0_makesOf_2 rfl inX0 (by decide) q293 rfl (hR.ada hk) rfl ?_
  refine x_iconst (v := (-1)) F dX0_makesOf_5 (by decide) ?_
  refine x_ixor F dX0_makesOf_6 ?_
  refine x_iand F dX0_makesOf_7 ?_
  refine x_aload_n F dX0_makesOf_8 rfl rfl ?_
  refine x_get (ci := 0) (C := RX0) (T := TX0) (N := 4) (k := 2) F dX0_makesOf_9 rfl inX0 (by decide) q292 rfl (hR.ada hk) rfl ?_
  refine x_ior F dX0_makesOf_12 ?_
  refine x_iret F rfl rfl dX0_makesOf_13 (Nat.le_refl _) (Nat.le_refl _) ?_
  exact ⟨_, rfl, rfl, rfl⟩
set_option maxRecDepth 100000 in
set_option maxHeartbeats 4000000 in
theorem c_fits (u h n : Int32) : Ci l D dA B yX6_fits wX6_fits 0 [.int u, .int h, .int n] w (fun v w1 => v = .int (x_b (f_fits u h n)) ∧ w1 = w) := by
  refine x_Ct.of (cc := cX6_fits) (maxL := 3) (by decide) rfl (Nat.le_of_ble_eq_true rfl) ?_
  intro p e s m below meth c F
  refine x_iload_n F dX6_fits_0 rfl rfl ?_
  refine x_iload_n F dX6_fits_1 rfl rfl ?_
  refine x_iconst (v := (-1)) F dX6_fits_2 (by decide) ?_
  refine x_ixor F dX6_fits_3 ?_
  refine x_iand F dX6_fits_4 ?_
  refine x_if_ne F dX6_fits_5 rfl (fun h5 => ?_) (fun h5 => ?_)
  · refine x_iconst (v := 0) F dX6_fits_20 (by decide) ?_
    refine x_iret F rfl rfl dX6_fits_21 (Nat.le_refl _) (Nat.le_refl _) ?_
    first | exact ⟨_, rfl, congrArg Value.int (x_b_t (by simp_all [f_fits])), rfl⟩ | exact ⟨_, rfl, congrArg Value.int (x_b_f (by simp_all [f_fits])), rfl⟩
  · refine x_iload_n F dX6_fits_8 rfl rfl ?_
    refine x_iload_n F dX6_fits_9 rfl rfl ?_
    refine x_iconst (v := (-1)) F dX6_fits_10 (by decide) ?_
    refine x_ixor F dX6_fits_11 ?_
    refine x_iand F dX6_fits_12 ?_
    refine x_if_ne F dX6_fits_13 rfl (fun h13 => ?_) (fun h13 => ?_)
    · refine x_iconst (v := 0) F dX6_fits_20 (by decide) ?_
      refine x_iret F rfl rfl dX6_fits_21 (Nat.le_refl _) (Nat.le_refl _) ?_
      first | exact ⟨_, rfl, congrArg Value.int (x_b_t (by simp_all [f_fits])), rfl⟩ | exact ⟨_, rfl, congrArg Value.int (x_b_f (by simp_all [f_fits])), rfl⟩
    · refine x_iconst (v := 1) F dX6_fits_16 (by decide) ?_
      refine x_goto F dX6_fits_17 rfl ?_
      refine x_iret F rfl rfl dX6_fits_21 (Nat.le_refl _) (Nat.le_refl _) ?_
      first | exact ⟨_, rfl, congrArg Value.int (x_b_t (by simp_all [f_fits])), rfl⟩ | exact ⟨_, rfl, congrArg Value.int (x_b_f (by simp_all [f_fits])), rfl⟩
set_option maxRecDepth 100000 in
set_option maxHeartbeats 4000000 in
theorem c_isOwner (o : Int32) : Ci l D dA B yX6_isOwner wX6_isOwner 0 [.int o] w (fun v w1 => v = .int (x_b (f_owner o)) ∧ w1 = w) := by
  refine x_Ct.of (cc := cX6_isOwner) (maxL := 1) (by decide) rfl (Nat.le_of_ble_eq_true rfl) ?_
  intro p e s m below meth c F
  refine x_iload_n F dX6_isOwner_0 rfl rfl ?_
  refine x_if_lt F dX6_isOwner_1 rfl (fun h1 => ?_) (fun h1 => ?_)
  · refine x_iconst (v := 0) F dX6_isOwner_13 (by decide) ?_
    refine x_iret F rfl rfl dX6_isOwner_14 (Nat.le_refl _) (Nat.le_refl _) ?_
    first | exact ⟨_, rfl, congrArg Value.int (x_b_t (by simp_all [f_owner])), rfl⟩ | exact ⟨_, rfl, congrArg Value.int (x_b_f (by simp_all [f_owner])), rfl⟩
  · refine x_iload_n F dX6_isOwner_4 rfl rfl ?_
    refine x_iconst (v := 5) F dX6_isOwner_5 (by decide) ?_
    refine x_icmp_ge F dX6_isOwner_6 rfl (fun h6 => ?_) (fun h6 => ?_)
    · refine x_iconst (v := 0) F dX6_isOwner_13 (by decide) ?_
      refine x_iret F rfl rfl dX6_isOwner_14 (Nat.le_refl _) (Nat.le_refl _) ?_
      first | exact ⟨_, rfl, congrArg Value.int (x_b_t (by simp_all [f_owner])), rfl⟩ | exact ⟨_, rfl, congrArg Value.int (x_b_f (by simp_all [f_owner])), rfl⟩
    · refine x_iconst (v := 1) F dX6_isOwner_9 (by decide) ?_
      refine x_goto F dX6_isOwner_10 rfl ?_
      refine x_iret F rfl rfl dX6_isOwner_14 (Nat.le_refl _) (Nat.le_refl _) ?_
      first | exact ⟨_, rfl, congrArg Value.int (x_b_t (by simp_all [f_owner])), rfl⟩ | exact ⟨_, rfl, congrArg Value.int (x_b_f (by simp_all [f_owner])), rfl⟩
set_option maxRecDepth 100000 in
set_option maxHeartbeats 4000000 in
theorem c_isFieldSet (u : Int32) : Ci l D dA B yX6_isFieldSet wX6_isFieldSet 0 [.int u] w (fun v w1 => v = .int (x_b (f_set u)) ∧ w1 = w) := by
  refine x_Ct.of (cc := cX6_isFieldSet) (maxL := 1) (by decide) rfl (Nat.le_of_ble_eq_true rfl) ?_
  intro p e s m below meth c F
  refine x_iload_n F dX6_isFieldSet_0 rfl rfl ?_
  refine x_if_lt F dX6_isFieldSet_1 rfl (fun h1 => ?_) (fun h1 => ?_)
  · refine x_iconst (v := 0) F dX6_isFieldSet_15 (by decide) ?_
    refine x_iret F rfl rfl dX6_isFieldSet_16 (Nat.le_refl _) (Nat.le_refl _) ?_
    first | exact ⟨_, rfl, congrArg Value.int (x_b_t (by simp_all [f_set])), rfl⟩ | exact ⟨_, rfl, congrArg Value.int (x_b_f (by simp_all [f_set])), rfl⟩
  · refine x_iload_n F dX6_isFieldSet_4 rfl rfl ?_
    refine x_sipush (v := 255) F dX6_isFieldSet_5 (by decide) ?_
    refine x_icmp_gt F dX6_isFieldSet_8 rfl (fun h8 => ?_) (fun h8 => ?_)
    · refine x_iconst (v := 0) F dX6_isFieldSet_15 (by decide) ?_
      refine x_iret F rfl rfl dX6_isFieldSet_16 (Nat.le_refl _) (Nat.le_refl _) ?_
      first | exact ⟨_, rfl, congrArg Value.int (x_b_t (by simp_all [f_set])), rfl⟩ | exact ⟨_, rfl, congrArg Value.int (x_b_f (by simp_all [f_set])), rfl⟩
    · refine x_iconst (v := 1) F dX6_isFieldSet_11 (by decide) ?_
      refine x_goto F dX6_isFieldSet_12 rfl ?_
      refine x_iret F rfl rfl dX6_isFieldSet_16 (Nat.le_refl _) (Nat.le_refl _) ?_
      first | exact ⟨_, rfl, congrArg Value.int (x_b_t (by simp_all [f_set])), rfl⟩ | exact ⟨_, rfl, congrArg Value.int (x_b_f (by simp_all [f_set])), rfl⟩
set_option maxRecDepth 100000 in
set_option maxHeartbeats 4000000 in
theorem c_isShape (h n : Int32) : Ci l D dA B yX6_isShape wX6_isShape 1 [.int h, .int n] w (fun v w1 => v = .int (x_b (f_shape h n)) ∧ w1 = w) := by
  refine x_Ct.of (cc := cX6_isShape) (maxL := 2) (by decide) rfl (Nat.le_of_ble_eq_true rfl) ?_
  intro p e s m below meth c F
  refine x_iload_n F dX6_isShape_0 rfl rfl ?_
  refine x_cSi1 F dX6_isShape_1 (x_gS q123 q124 q1 q125) (c_isFieldSet h) ⟨rfl, rfl, rfl, xd_X6_isFieldSet, ⟨Nat.le_of_ble_eq_true rfl, Nat.le_of_ble_eq_true rfl⟩, Nat.le_of_ble_eq_true rfl, Nat.le_of_ble_eq_true rfl⟩ (Nat.le_of_ble_eq_true rfl) (fun v1 w1 hp => ?_)
  obtain ⟨rfl, hw9⟩ := hp
  replace hw9 := hw9.symm
  subst hw9
  refine x_if_eq F dX6_isShape_4 rfl (fun h4 => ?_) (fun h4 => ?_)
  · refine x_iconst (v := 0) F dX6_isShape_23 (by decide) ?_
    refine x_iret F rfl rfl dX6_isShape_24 (Nat.le_refl _) (Nat.le_refl _) ?_
    first | exact ⟨_, rfl, congrArg Value.int (x_b_t (by simp_all [f_shape, x_b_ne, x_b_eq])), rfl⟩ | exact ⟨_, rfl, congrArg Value.int (x_b_f (by simp_all [f_shape, x_b_ne, x_b_eq])), rfl⟩
  · refine x_iload_n F dX6_isShape_7 rfl rfl ?_
    refine x_if_lt F dX6_isShape_8 rfl (fun h8 => ?_) (fun h8 => ?_)
    · refine x_iconst (v := 0) F dX6_isShape_23 (by decide) ?_
      refine x_iret F rfl rfl dX6_isShape_24 (Nat.le_refl _) (Nat.le_refl _) ?_
      first | exact ⟨_, rfl, congrArg Value.int (x_b_t (by simp_all [f_shape, x_b_ne, x_b_eq])), rfl⟩ | exact ⟨_, rfl, congrArg Value.int (x_b_f (by simp_all [f_shape, x_b_ne, x_b_eq])), rfl⟩
    · refine x_iload_n F dX6_isShape_11 rfl rfl ?_
      refine x_iload_n F dX6_isShape_12 rfl rfl ?_
      refine x_iconst (v := (-1)) F dX6_isShape_13 (by decide) ?_
      refine x_ixor F dX6_isShape_14 ?_
      refine x_iand F dX6_isShape_15 ?_
      refine x_if_ne F dX6_isShape_16 rfl (fun h16 => ?_) (fun h16 => ?_)
      · refine x_iconst (v := 0) F dX6_isShape_23 (by decide) ?_
        refine x_iret F rfl rfl dX6_isShape_24 (Nat.le_refl _) (Nat.le_refl _) ?_
        first | exact ⟨_, rfl, congrArg Value.int (x_b_t (by simp_all [f_shape, x_b_ne, x_b_eq])), rfl⟩ | exact ⟨_, rfl, congrArg Value.int (x_b_f (by simp_all [f_shape, x_b_ne, x_b_eq])), rfl⟩
      · refine x_iconst (v := 1) F dX6_isShape_19 (by decide) ?_
        refine x_goto F dX6_isShape_20 rfl ?_
        refine x_iret F rfl rfl dX6_isShape_24 (Nat.le_refl _) (Nat.le_refl _) ?_
        first | exact ⟨_, rfl, congrArg Value.int (x_b_t (by simp_all [f_shape, x_b_ne, x_b_eq])), rfl⟩ | exact ⟨_, rfl, congrArg Value.int (x_b_f (by simp_all [f_shape, x_b_ne, x_b_eq])), rfl⟩
set_option maxRecDepth 100000 in
set_option maxHeartbeats 4000000 in
theorem c_faceAt (hR : Rep Z K J w) (x : Int32) : Ci l D dA B yX6_faceAt wX6_faceAt 0 [.ref (Z 0 0), .int x] w (fun v w1 => v = va_rf (f_at 4 (g_face Z K) x) ∧ w1 = w) := by
  refine x_Ct.of (cc := cX6_faceAt) (maxL := 2) (by decide) rfl (Nat.le_of_ble_eq_true rfl) ?_
  intro p e s m below meth c F
  refine x_iload_n F dX6_faceAt_0 rfl rfl ?_
  refine x_if_lt F dX6_faceAt_1 rfl (fun h1 => ?_) (fun h1 => ?_)
  · refine x_null F dX6_faceAt_22 ?_
    refine x_aretN F rfl dX6_faceAt_23 (Nat.le_refl _) (Nat.le_refl _) ?_
    first | exact ⟨_, rfl, (by rw [f_at_in h1 h10]; rfl), rfl⟩ | exact ⟨_, rfl, (by rw [f_at_neg h1]; rfl), rfl⟩ | exact ⟨_, rfl, (by rw [f_at_big h10]; rfl), rfl⟩
  · refine x_iload_n F dX6_faceAt_4 rfl rfl ?_
    refine x_aload_n F dX6_faceAt_5 rfl rfl ?_
    refine x_get (ci := 6) (C := RX6) (T := TX6) (N := 12) (k := 0) F dX6_faceAt_6 rfl inX6 (by decide) q65 rfl hR.main rfl ?_
    refine x_alen (v := 4) F dX6_faceAt_9 rfl hR.faces rfl ?_
    refine x_icmp_ge F dX6_faceAt_10 rfl (fun h10 => ?_) (fun h10 => ?_)
    · refine x_null F dX6_faceAt_22 ?_
      refine x_aretN F rfl dX6_faceAt_23 (Nat.le_refl _) (Nat.le_refl _) ?_
      first | exact ⟨_, rfl, (by rw [f_at_in h1 h10]; rfl), rfl⟩ | exact ⟨_, rfl, (by rw [f_at_neg h1]; rfl), rfl⟩ | exact ⟨_, rfl, (by rw [f_at_big h10]; rfl), rfl⟩
    · refine x_aload_n F dX6_faceAt_13 rfl rfl ?_
      refine x_get (ci := 6) (C := RX6) (T := TX6) (N := 12) (k := 0) F dX6_faceAt_14 rfl inX6 (by decide) q65 rfl hR.main rfl ?_
      refine x_iload_n F dX6_faceAt_17 rfl rfl ?_
      refine x_aald F dX6_faceAt_18 rfl hR.faces (x_in (m2 := 4) (by decide) h1 h10) ?_
      refine x_goto F dX6_faceAt_19 rfl ?_
      refine x_aret F rfl dX6_faceAt_23 (Nat.le_refl _) (Nat.le_refl _) ?_
      first | exact ⟨_, rfl, (by rw [f_at_in h1 h10]; rfl), rfl⟩ | exact ⟨_, rfl, (by rw [f_at_neg h1]; rfl), rfl⟩ | exact ⟨_, rfl, (by rw [f_at_big h10]; rfl), rfl⟩
set_option maxRecDepth 100000 in
set_option maxHeartbeats 4000000 in
theorem c_clientAt (hR : Rep Z K J w) (x : Int32) : Ci l D dA B yX6_clientAt wX6_clientAt 0 [.ref (Z 0 0), .int x] w (fun v w1 => v = va_rf (f_at 10 (g_cli Z K) x) ∧ w1 = w) := by
  refine x_Ct.of (cc := cX6_clientAt) (maxL := 2) (by decide) rfl (Nat.le_of_ble_eq_true rfl) ?_
  intro p e s m below meth c F
  refine x_iload_n F dX6_clientAt_0 rfl rfl ?_
  refine x_if_lt F dX6_clientAt_1 rfl (fun h1 => ?_) (fun h1 => ?_)
  · refine x_null F dX6_clientAt_22 ?_
    refine x_aretN F rfl dX6_clientAt_23 (Nat.le_refl _) (Nat.le_refl _) ?_
    first | exact ⟨_, rfl, (by rw [f_at_in h1 h10]; rfl), rfl⟩ | exact ⟨_, rfl, (by rw [f_at_neg h1]; rfl), rfl⟩ | exact ⟨_, rfl, (by rw [f_at_big h10]; rfl), rfl⟩
  · refine x_iload_n F dX6_clientAt_4 rfl rfl ?_
    refine x_aload_n F dX6_clientAt_5 rfl rfl ?_
    refine x_get (ci := 6) (C := RX6) (T := TX6) (N := 12) (k := 1) F dX6_clientAt_6 rfl inX6 (by decide) q66 rfl hR.main rfl ?_
    refine x_alen (v := 10) F dX6_clientAt_9 rfl hR.clients rfl ?_
    refine x_icmp_ge F dX6_clientAt_10 rfl (fun h10 => ?_) (fun h10 => ?_)
    · refine x_null F dX6_clientAt_22 ?_
      refine x_aretN F rfl dX6_clientAt_23 (Nat.le_refl _) (Nat.le_refl _) ?_
      first | exact ⟨_, rfl, (by rw [f_at_in h1 h10]; rfl), rfl⟩ | exact ⟨_, rfl, (by rw [f_at_neg h1]; rfl), rfl⟩ | exact ⟨_, rfl, (by rw [f_at_big h10]; rfl), rfl⟩
    · refine x_aload_n F dX6_clientAt_13 rfl rfl ?_
      refine x_get (ci := 6) (C := RX6) (T := TX6) (N := 12) (k := 1) F dX6_clientAt_14 rfl inX6 (by decide) q66 rfl hR.main rfl ?_
      refine x_iload_n F dX6_clientAt_17 rfl rfl ?_
      refine x_aald F dX6_clientAt_18 rfl hR.clients (x_in (m2 := 10) (by decide) h1 h10) ?_
      refine x_goto F dX6_clientAt_19 rfl ?_
      refine x_aret F rfl dX6_clientAt_23 (Nat.le_refl _) (Nat.le_refl _) ?_
      first | exact ⟨_, rfl, (by rw [f_at_in h1 h10]; rfl), rfl⟩ | exact ⟨_, rfl, (by rw [f_at_neg h1]; rfl), rfl⟩ | exact ⟨_, rfl, (by rw [f_at_big h10]; rfl), rfl⟩
set_option maxRecDepth 100000 in
set_option maxHeartbeats 4000000 in
theorem c_fVersionAt (hR : Rep Z K J w) {f : Nat} (hf : f < nf K) (x : Int32) : Ci l D dA B yX2_versionAt wX2_versionAt 0 [.ref (Z 8 f), .int x] w (fun v w1 => v = va_rf (f_at 6 (g_ver Z K f) x) ∧ w1 = w) := by
  refine x_Ct.of (cc := cX2_versionAt) (maxL := 2) (by decide) rfl (Nat.le_of_ble_eq_true rfl) ?_
  intro p e s m below meth c F
  refine x_iload_n F dX2_versionAt_0 rfl rfl ?_
  refine x_if_lt F dX2_versionAt_1 rfl (fun h1 => ?_) (fun h1 => ?_)
  · refine x_null F dX2_versionAt_22 ?_
    refine x_aretN F rfl dX2_versionAt_23 (Nat.le_refl _) (Nat.le_refl _) ?_
    first | exact ⟨_, rfl, (by rw [f_at_in h1 h10]; rfl), rfl⟩ | exact ⟨_, rfl, (by rw [f_at_neg h1]; rfl), rfl⟩ | exact ⟨_, rfl, (by rw [f_at_big h10]; rfl), rfl⟩
  · refine x_iload_n F dX2_versionAt_4 rfl rfl ?_
    refine x_aload_n F dX2_versionAt_5 rfl rfl ?_
    refine x_get (ci := 2) (C := RX2) (T := TX2) (N := 3) (k := 1) F dX2_versionAt_6 rfl inX2 (by decide) q105 rfl (hR.face hf) rfl ?_
    refine x_alen (v := 6) F dX2_versionAt_9 rfl (hR.fvs hf) rfl ?_
    refine x_icmp_ge F dX2_versionAt_10 rfl (fun h10 => ?_) (fun h10 => ?_)
    · refine x_null F dX2_versionAt_22 ?_
      refine x_aretN F rfl dX2_versionAt_23 (Nat.le_refl _) (Nat.le_refl _) ?_
      first | exact ⟨_, rfl, (by rw [f_at_in h1 h10]; rfl), rfl⟩ | exact ⟨_, rfl, (by rw [f_at_neg h1]; rfl), rfl⟩ | exact ⟨_, rfl, (by rw [f_at_big h10]; rfl), rfl⟩
    · refine x_aload_n F dX2_versionAt_13 rfl rfl ?_
      refine x_get (ci := 2) (C := RX2) (T := TX2) (N := 3) (k := 1) F dX2_versionAt_14 rfl inX2 (by decide) q105 rfl (hR.face hf) rfl ?_
      refine x_iload_n F dX2_versionAt_17 rfl rfl ?_
      refine x_aald F dX2_versionAt_18 rfl (hR.fvs hf) (x_in (m2 := 6) (by decide) h1 h10) ?_
      refine x_goto F dX2_versionAt_19 rfl ?_
      refine x_aret F rfl dX2_versionAt_23 (Nat.le_refl _) (Nat.le_refl _) ?_
      first | exact ⟨_, rfl, (by rw [f_at_in h1 h10]; rfl), rfl⟩ | exact ⟨_, rfl, (by rw [f_at_neg h1]; rfl), rfl⟩ | exact ⟨_, rfl, (by rw [f_at_big h10]; rfl), rfl⟩
set_option maxRecDepth 100000 in
set_option maxHeartbeats 4000000 in
theorem c_calledAtOf (hR : Rep Z K J w) {k i : Nat} (hk : k < nc K) (hi : vOk K i) : Ci l D dA B yX1_calledAtOf wX1_calledAtOf 0 [.ref (Z 13 k), .ref (Z 10 i)] w (fun v w1 => v = .int (f_called K k i) ∧ w1 = w) := by
  refine x_Ct.of (cc := cX1_calledAtOf) (maxL := 3) (by decide) rfl (Nat.le_of_ble_eq_true rfl) ?_
  intro p e s m below meth c F
  refine x_aload_n F dX1_calledAtOf_0 rfl rfl ?_
  refine x_get (ci := 5) (C := RX5) (T := TX5) (N := 9) (k := 0) F dX1_calledAtOf_1 rfl inX5 (by decide) q137 rfl (hR.ver hi) rfl ?_
  refine x_aload_n F dX1_calledAtOf_4 rfl rfl ?_
  refine x_get (ci := 1) (C := RX1) (T := TX1) (N := 8) (k := 1) F dX1_calledAtOf_5 rfl inX1 (by decide) q247 rfl (hR.cli hk) rfl ?_
  refine x_acmp_neR F dX1_calledAtOf_8 rfl (fun h8 => ?_) (fun h8 => ?_)
  · rw [hR.feq hi.1 (hR.cv hk).1] at h8
    refine x_iconst (v := 0) F dX1_calledAtOf_34 (by decide) ?_
    refine x_istore_n F dX1_calledAtOf_35 rfl (by decide) ?_
    refine x_iload_n F dX1_calledAtOf_36 rfl rfl ?_
    refine x_if_eq F dX1_calledAtOf_37 rfl (fun _ => ?_) (fun hc => absurd hc (by decide))
    refine x_iconst (v := (-1)) F dX1_calledAtOf_52 (by decide) ?_
    refine x_iret F rfl rfl dX1_calledAtOf_53 (Nat.le_refl _) (Nat.le_refl _) ?_
    first | exact ⟨_, rfl, congrArg Value.int (if_pos h8.symm).symm, rfl⟩ | exact ⟨_, rfl, congrArg Value.int (if_neg (fun q => h8 q.symm)).symm, rfl⟩
  · rw [hR.feq hi.1 (hR.cv hk).1] at h8
    refine x_aload_n F dX1_calledAtOf_11 rfl rfl ?_
    refine x_get (ci := 5) (C := RX5) (T := TX5) (N := 9) (k := 1) F dX1_calledAtOf_12 rfl inX5 (by decide) q140 rfl (hR.ver hi) rfl ?_
    refine x_if_lt F dX1_calledAtOf_15 rfl (fun hc => absurd hc (nI_pos (by omega))) (fun h15 => ?_)
    refine x_aload_n F dX1_calledAtOf_18 rfl rfl ?_
    refine x_get (ci := 5) (C := RX5) (T := TX5) (N := 9) (k := 1) F dX1_calledAtOf_19 rfl inX5 (by decide) q140 rfl (hR.ver hi) rfl ?_
    refine x_aload_n F dX1_calledAtOf_22 rfl rfl ?_
    refine x_get (ci := 1) (C := RX1) (T := TX1) (N := 8) (k := 2) F dX1_calledAtOf_23 rfl inX1 (by decide) q249 rfl (hR.cli hk) rfl ?_
    refine x_alen (v := 6) F dX1_calledAtOf_26 rfl (hR.cla hk) rfl ?_
    refine x_icmp_ge F dX1_calledAtOf_27 rfl (fun hc => absurd hc (nI_ge (b := 6) (by omega) (by decide))) (fun h27 => ?_)
    refine x_iconst (v := 1) F dX1_calledAtOf_30 (by decide) ?_
    refine x_goto F dX1_calledAtOf_31 rfl ?_
    refine x_istore_n F dX1_calledAtOf_35 rfl (by decide) ?_
    refine x_iload_n F dX1_calledAtOf_36 rfl rfl ?_
    refine x_if_eq F dX1_calledAtOf_37 rfl (fun hc => absurd hc (by decide)) (fun _ => ?_)
    refine x_aload_n F dX1_calledAtOf_40 rfl rfl ?_
    refine x_get (ci := 1) (C := RX1) (T := TX1) (N := 8) (k := 2) F dX1_calledAtOf_41 rfl inX1 (by decide) q249 rfl (hR.cli hk) rfl ?_
    refine x_aload_n F dX1_calledAtOf_44 rfl rfl ?_
    refine x_get (ci := 5) (C := RX5) (T := TX5) (N := 9) (k := 1) F dX1_calledAtOf_45 rfl inX5 (by decide) q140 rfl (hR.ver hi) rfl ?_
    refine x_ialdN F dX1_calledAtOf_48 rfl (hR.cla hk) (by omega) (by decide) ?_
    refine x_goto F dX1_calledAtOf_49 rfl ?_
    refine x_iret F rfl rfl dX1_calledAtOf_53 (Nat.le_refl _) (Nat.le_refl _) ?_
    first | exact ⟨_, rfl, congrArg Value.int (if_pos h8.symm).symm, rfl⟩ | exact ⟨_, rfl, congrArg Value.int (if_neg (fun q => h8 q.symm)).symm, rfl⟩
set_option maxRecDepth 100000 in
set_option maxHeartbeats 4000000 in
theorem c_servedThisHourBy (hR : Rep Z K J w) {k i : Nat} (hk : k < nc K) (hi : vOk K i) : Ci l D dA B yX1_servedThisHourBy wX1_servedThisHourBy 0 [.ref (Z 13 k), .ref (Z 10 i)] w (fun v w1 => v = .int (f_served K k i) ∧ w1 = w) := by
  refine x_Ct.of (cc := cX1_servedThisHourBy) (maxL := 3) (by decide) rfl (Nat.le_of_ble_eq_true rfl) ?_
  intro p e s m below meth c F
  refine x_aload_n F dX1_servedThisHourBy_0 rfl rfl ?_
  refine x_get (ci := 5) (C := RX5) (T := TX5) (N := 9) (k := 0) F dX1_servedThisHourBy_1 rfl inX5 (by decide) q137 rfl (hR.ver hi) rfl ?_
  refine x_aload_n F dX1_servedThisHourBy_4 rfl rfl ?_
  refine x_get (ci := 1) (C := RX1) (T := TX1) (N := 8) (k := 1) F dX1_servedThisHourBy_5 rfl inX1 (by decide) q247 rfl (hR.cli hk) rfl ?_
  refine x_acmp_neR F dX1_servedThisHourBy_8 rfl (fun h8 => ?_) (fun h8 => ?_)
  · rw [hR.feq hi.1 (hR.cv hk).1] at h8
    refine x_iconst (v := 0) F dX1_servedThisHourBy_34 (by decide) ?_
    refine x_istore_n F dX1_servedThisHourBy_35 rfl (by decide) ?_
    refine x_iload_n F dX1_servedThisHourBy_36 rfl rfl ?_
    refine x_if_eq F dX1_servedThisHourBy_37 rfl (fun _ => ?_) (fun hc => absurd hc (by decide))
    refine x_iconst (v := 0) F dX1_servedThisHourBy_52 (by decide) ?_
    refine x_iret F rfl rfl dX1_servedThisHourBy_53 (Nat.le_refl _) (Nat.le_refl _) ?_
    first | exact ⟨_, rfl, congrArg Value.int (if_pos h8.symm).symm, rfl⟩ | exact ⟨_, rfl, congrArg Value.int (if_neg (fun q => h8 q.symm)).symm, rfl⟩
  · rw [hR.feq hi.1 (hR.cv hk).1] at h8
    refine x_aload_n F dX1_servedThisHourBy_11 rfl rfl ?_
    refine x_get (ci := 5) (C := RX5) (T := TX5) (N := 9) (k := 1) F dX1_servedThisHourBy_12 rfl inX5 (by decide) q140 rfl (hR.ver hi) rfl ?_
    refine x_if_lt F dX1_servedThisHourBy_15 rfl (fun hc => absurd hc (nI_pos (by omega))) (fun h15 => ?_)
    refine x_aload_n F dX1_servedThisHourBy_18 rfl rfl ?_
    refine x_get (ci := 5) (C := RX5) (T := TX5) (N := 9) (k := 1) F dX1_servedThisHourBy_19 rfl inX5 (by decide) q140 rfl (hR.ver hi) rfl ?_
    refine x_aload_n F dX1_servedThisHourBy_22 rfl rfl ?_
    refine x_get (ci := 1) (C := RX1) (T := TX1) (N := 8) (k := 3) F dX1_servedThisHourBy_23 rfl inX1 (by decide) q250 rfl (hR.cli hk) rfl ?_
    refine x_alen (v := 6) F dX1_servedThisHourBy_26 rfl (hR.csv hk) rfl ?_
    refine x_icmp_ge F dX1_servedThisHourBy_27 rfl (fun hc => absurd hc (nI_ge (b := 6) (by omega) (by decide))) (fun h27 => ?_)
    refine x_iconst (v := 1) F dX1_servedThisHourBy_30 (by decide) ?_
    refine x_goto F dX1_servedThisHourBy_31 rfl ?_
    refine x_istore_n F dX1_servedThisHourBy_35 rfl (by decide) ?_
    refine x_iload_n F dX1_servedThisHourBy_36 rfl rfl ?_
    refine x_if_eq F dX1_servedThisHourBy_37 rfl (fun hc => absurd hc (by decide)) (fun _ => ?_)
    refine x_aload_n F dX1_servedThisHourBy_40 rfl rfl ?_
    refine x_get (ci := 1) (C := RX1) (T := TX1) (N := 8) (k := 3) F dX1_servedThisHourBy_41 rfl inX1 (by decide) q250 rfl (hR.cli hk) rfl ?_
    refine x_aload_n F dX1_servedThisHourBy_44 rfl rfl ?_
    refine x_get (ci := 5) (C := RX5) (T := TX5) (N := 9) (k := 1) F dX1_servedThisHourBy_45 rfl inX5 (by decide) q140 rfl (hR.ver hi) rfl ?_
    refine x_ialdN F dX1_servedThisHourBy_48 rfl (hR.csv hk) (by omega) (by decide) ?_
    refine x_goto F dX1_servedThisHourBy_49 rfl ?_
    refine x_iret F rfl rfl dX1_servedThisHourBy_53 (Nat.le_refl _) (Nat.le_refl _) ?_
    first | exact ⟨_, rfl, congrArg Value.int (if_pos h8.symm).symm, rfl⟩ | exact ⟨_, rfl, congrArg Value.int (if_neg (fun q => h8 q.symm)).symm, rfl⟩
set_option maxRecDepth 100000 in
set_option maxHeartbeats 4000000 in
theorem c_isCallerOf (hR : Rep Z K J w) {k i : Nat} (hk : k < nc K) (hi : vOk K i) (h : Int32) : Ci l D dA B yX1_isCallerOf wX1_isCallerOf 1 [.ref (Z 13 k), .ref (Z 10 i), .int h] w (fun v w1 => v = .int (x_b (f_caller K k i h)) ∧ w1 = w) := by
  refine x_Ct.of (cc := cX1_isCallerOf) (maxL := 4) (by decide) rfl (Nat.le_of_ble_eq_true rfl) ?_
  intro p e s m below meth c F
  refine x_aload_n F dX1_isCallerOf_0 rfl rfl ?_
  refine x_aload_n F dX1_isCallerOf_1 rfl rfl ?_
  refine x_cVi1 (ci := 1) (C := RX1) (T := TX1) (N := 8) F dX1_isCallerOf_2 (x_gV q190 q191 q192 q13 q193) rfl (c_calledAtOf hR hk hi) ⟨rfl, rfl, rfl, xd_X1_calledAtOf, ⟨Nat.le_of_ble_eq_true rfl, Nat.le_of_ble_eq_true rfl⟩, Nat.le_of_ble_eq_true rfl, Nat.le_of_ble_eq_true rfl⟩ rfl (hR.cli hk) (Nat.le_of_ble_eq_true rfl) (fun v1 w1 hp => ?_)
  obtain ⟨rfl, hw9⟩ := hp
  replace hw9 := hw9.symm
  subst hw9
  refine x_istore_n F dX1_isCallerOf_5 rfl (by decide) ?_
  refine x_iload_n F dX1_isCallerOf_6 rfl rfl ?_
  refine x_iconst (v := (-1)) F dX1_isCallerOf_7 (by decide) ?_
  refine x_icmp_eq F dX1_isCallerOf_8 rfl (fun h8 => ?_) (fun h8 => ?_)
  · refine x_iconst (v := 0) F dX1_isCallerOf_23 (by decide) ?_
    refine x_iret F rfl rfl dX1_isCallerOf_24 (Nat.le_refl _) (Nat.le_refl _) ?_
    first | exact ⟨_, rfl, congrArg Value.int (x_b_t (by simp_all [f_caller])), rfl⟩ | exact ⟨_, rfl, congrArg Value.int (x_b_f (by simp_all [f_caller])), rfl⟩
  · refine x_iload_n F dX1_isCallerOf_11 rfl rfl ?_
    refine x_iload_n F dX1_isCallerOf_12 rfl rfl ?_
    refine x_isub F dX1_isCallerOf_13 ?_
    refine x_bipush (v := 24) F dX1_isCallerOf_14 (by decide) ?_
    refine x_icmp_ge F dX1_isCallerOf_16 rfl (fun h16 => ?_) (fun h16 => ?_)
    · refine x_iconst (v := 0) F dX1_isCallerOf_23 (by decide) ?_
      refine x_iret F rfl rfl dX1_isCallerOf_24 (Nat.le_refl _) (Nat.le_refl _) ?_
      first | exact ⟨_, rfl, congrArg Value.int (x_b_t (by simp_all [f_caller])), rfl⟩ | exact ⟨_, rfl, congrArg Value.int (x_b_f (by simp_all [f_caller])), rfl⟩
    · refine x_iconst (v := 1) F dX1_isCallerOf_19 (by decide) ?_
      refine x_goto F dX1_isCallerOf_20 rfl ?_
      refine x_iret F rfl rfl dX1_isCallerOf_24 (Nat.le_refl _) (Nat.le_refl _) ?_
      first | exact ⟨_, rfl, congrArg Value.int (x_b_t (by simp_all [f_caller])), rfl⟩ | exact ⟨_, rfl, congrArg Value.int (x_b_f (by simp_all [f_caller])), rfl⟩
end LEAF
end
section
/-! ===== counting, and what is asked of one version or client ===== -/
def f_cnt (p : Nat → Bool) (k : Nat) : Nat := match k with
  | 0 => 0
  | k + 1 => f_cnt p k + (if p k then 1 else 0)
theorem f_cnt_t {p : Nat → Bool} {k : Nat} (h : p k = true) : f_cnt p (k + 1) = f_cnt p k + 1 := by simp [f_cnt, h]
theorem f_cnt_f {p : Nat → Bool} {k : Nat} (h : p k = false) : f_cnt p (k + 1) = f_cnt p k := by simp [f_cnt, h]
theorem f_cnt_le (p : Nat → Bool) (k : Nat) : f_cnt p k ≤ k := by
  induction k with
  | zero => exact Nat.le_refl _
  | succ k ih => unfold f_cnt; split <;> omega
section CNT
variable {l : Launch} {D : va_G} {dA : Nat → ClassId} {B : Nat} {Z : Nat → Nat → Nat} {K : kT} {J : jT} {w : xW}
def f_verAt (Z : Nat → Nat → Nat) (K : kT) (x y : Int32) : Option Nat := if x < 0 ∨ 4 ≤ x then none else if x.toNatClampNeg < nf K then f_at 6 (g_ver Z K x.toNatClampNeg) y else none
theorem f_face_cases (hR : Rep Z K J w) (x : Int32) : (f_at 4 (g_face Z K) x = none ∧ ∀ y, f_verAt Z K x y = none) ∨ ∃ f, f < nf K ∧ x = nI f ∧ f_at 4 (g_face Z K) x = some (Z 8 f) ∧ ∀ y, f_verAt Z K x y = f_at 6 (g_ver Z K f) y := by
  by_cases h : x < 0 ∨ 4 ≤ x
  · exact Or.inl ⟨if_pos h, fun y => if_pos h⟩
  · have h1 : ¬ x < 0 := fun q => h (Or.inl q)
    have h2 : ¬ 4 ≤ x := fun q => h (Or.inr q)
    obtain ⟨f, hf, rfl⟩ := vp_in_of (x_in (n := 4) (by decide) h1 h2) (by decide)
    have hc : (nI f).toNatClampNeg = f := nI_clamp (by omega)
    by_cases hn : f < nf K
    · refine Or.inr ⟨f, hn, rfl, ?_, fun y => ?_⟩
      · rw [f_at_in h1 h2, hc]; exact if_pos hn
      · unfold f_verAt; rw [if_neg h, hc, if_pos hn]
    · refine Or.inl ⟨?_, fun y => ?_⟩
      · rw [f_at_in h1 h2, hc]; exact if_neg hn
      · unfold f_verAt; rw [if_neg h, hc, if_neg hn]
theorem f_fver_cases (hR : Rep Z K J w) {f : Nat} (hf : f < nf K) (x : Int32) : f_at 6 (g_ver Z K f) x = none ∨ ∃ k, k < nv K f ∧ k < 6 ∧ x = nI k ∧ f_at 6 (g_ver Z K f) x = some (Z 10 (6 * f + k)) ∧ vOk K (6 * f + k) := by
  by_cases h : x < 0 ∨ 6 ≤ x
  · exact Or.inl (if_pos h)
  · have h1 : ¬ x < 0 := fun q => h (Or.inl q)
    have h2 : ¬ 6 ≤ x := fun q => h (Or.inr q)
    obtain ⟨k, hk, rfl⟩ := vp_in_of (x_in (n := 6) (by decide) h1 h2) (by decide)
    have hc : (nI k).toNatClampNeg = k := nI_clamp (by omega)
    by_cases hn : k < nv K f
    · refine Or.inr ⟨k, hn, hk, rfl, ?_, ?_⟩
      · rw [f_at_in h1 h2, hc]; exact if_pos hn
      · unfold vOk
        rw [show (6 * f + k) / 6 = f by omega, show (6 * f + k) % 6 = k by omega]
        exact ⟨hf, hn⟩
    · refine Or.inl ?_
      rw [f_at_in h1 h2, hc]; exact if_neg hn
theorem f_at_nI {m : Int32} {n : Nat} {g : Nat → Option Nat} {k : Nat} (hm : m.toInt = n) (hk : k < n) (hn : n < 2 ^ 31) : f_at m g (nI k) = g k := by
  have h1 : ¬ nI k < 0 := nI_pos (by omega)
  have h2 : ¬ m ≤ nI k := by
    rw [Int32.le_iff_toInt_le, hm, nI_toInt (by omega)]
    omega
  rw [f_at_in h1 h2, nI_clamp (by omega)]
theorem f_fver_nI {f k : Nat} (hk : k < 6) : f_at 6 (g_ver Z K f) (nI k) = g_ver Z K f k := f_at_nI (n := 6) (by decide) hk (by decide)
def b_ok (K : kT) (j : Nat) : Bool := decide (j / 6 < nf K) && decide (j % 6 < nv K (j / 6))
theorem b_ok_iff {j : Nat} : b_ok K j = true ↔ vOk K j := by unfold b_ok vOk; simp
theorem f_verAt_nI (hR : Rep Z K J w) {f k : Nat} (hf : f < 4) (hk : k < 6) : f_verAt Z K (nI f) (nI k) = if b_ok K (6 * f + k) then some (Z 10 (6 * f + k)) else none := by
  have e1 : (6 * f + k) / 6 = f := by omega
  have e2 : (6 * f + k) % 6 = k := by omega
  unfold f_verAt b_ok
  have h1 : ¬ nI f < 0 := nI_pos (by omega)
  have h2 : ¬ 4 ≤ nI f := nI_ge (b := 4) (by omega) (by decide)
  rw [if_neg (fun q => q.elim h1 h2), nI_clamp (by omega), e1, e2, f_fver_nI hk]
  unfold g_ver
  by_cases a : f < nf K <;> by_cases b : k < nv K f <;> simp [a, b]
set_option maxRecDepth 100000 in
set_option maxHeartbeats 4000000 in
theorem c_versionAt (hR : Rep Z K J w) (x y : Int32) : Ci l D dA B yX6_versionAt wX6_versionAt 2 [.ref (Z 0 0), .int x, .int y] w (fun v w1 => v = va_rf (f_verAt Z K x y) ∧ w1 = w) := by
  refine x_Ct.of (cc := cX6_versionAt) (maxL := 4) (by decide) rfl (Nat.le_of_ble_eq_true rfl) ?_
  intro p e s m below meth c F
  refine x_aload_n F dX6_versionAt_0 rfl rfl ?_
  refine x_iload_n F dX6_versionAt_1 rfl rfl ?_
  refine x_cVi1 (ci := 6) (C := RX6) (T := TX6) (N := 12) F dX6_versionAt_2 (x_gV q115 q116 q448 q1 q117) rfl (c_faceAt hR x) ⟨rfl, rfl, rfl, xd_X6_faceAt, ⟨Nat.le_of_ble_eq_true rfl, Nat.le_of_ble_eq_true rfl⟩, Nat.le_of_ble_eq_true rfl, Nat.le_of_ble_eq_true rfl⟩ rfl hR.main (Nat.le_of_ble_eq_true rfl) (fun v1 w1 hp => ?_)
  obtain ⟨rfl, hw9⟩ := hp
  replace hw9 := hw9.symm
  subst hw9
  rcases f_face_cases hR x with ⟨e1, e2⟩ | ⟨f, hf, rfl, e1, e2⟩
  · rw [e1]
    refine x_astore_nN F dX6_versionAt_5 rfl (by decide) ?_
    refine x_aload_nN F dX6_versionAt_6 rfl rfl ?_
    refine x_ifnonnullN F dX6_versionAt_7 ?_
    refine x_null F dX6_versionAt_10 ?_
    refine x_goto F dX6_versionAt_11 rfl ?_
    refine x_aretN F rfl dX6_versionAt_19 (Nat.le_refl _) (Nat.le_refl _) ?_
    exact ⟨_, rfl, (congrArg va_rf (e2 y)).symm, rfl⟩
  · rw [e1]
    refine x_astore_n F dX6_versionAt_5 rfl (by decide) ?_
    refine x_aload_n F dX6_versionAt_6 rfl rfl ?_
    refine x_ifnonnull F dX6_versionAt_7 rfl ?_
    refine x_aload_n F dX6_versionAt_14 rfl rfl ?_
    refine x_iload_n F dX6_versionAt_15 rfl rfl ?_
    refine x_cVi1 (ci := 2) (C := RX2) (T := TX2) (N := 3) F dX6_versionAt_16 (x_gV q165 q166 q167 q9 q168) rfl (c_fVersionAt hR hf y) ⟨rfl, rfl, rfl, xd_X2_versionAt, ⟨Nat.le_of_ble_eq_true rfl, Nat.le_of_ble_eq_true rfl⟩, Nat.le_of_ble_eq_true rfl, Nat.le_of_ble_eq_true rfl⟩ rfl (hR.face hf) (Nat.le_of_ble_eq_true rfl) (fun v1 w1 hp => ?_)
    obtain ⟨rfl, hw9⟩ := hp
    replace hw9 := hw9.symm
    subst hw9
    refine x_aret F rfl dX6_versionAt_19 (Nat.le_refl _) (Nat.le_refl _) ?_
    exact ⟨_, rfl, (congrArg va_rf (e2 y)).symm, rfl⟩
def p_suit (K : kT) (f : Nat) (h n : Int32) (k : Nat) : Bool := decide (k < nv K f) && f_suits h n (kV K (6 * f + k) 0) (kV K (6 * f + k) 1)
set_option maxRecDepth 100000 in
set_option maxHeartbeats 4000000 in
theorem c_countSuited (hR : Rep Z K J w) {f a ra n : Nat} {h q s0 p0 x0 y0 : Int32} (hf : f < nf K) (hn : n ≤ 6) (ha : w a = some (oVer (Z 8 f) (nI n) h q ra s0 p0 x0 y0)) : Ci l D dA B yX6_countSuited wX6_countSuited 1 [.ref a] w (fun v w1 => v = .int (nI (f_cnt (p_suit K f h q) n)) ∧ w1 = w) := by
  refine x_Ct.of (cc := cX6_countSuited) (maxL := 4) (by decide) rfl (Nat.le_of_ble_eq_true rfl) ?_
  intro p e s m below meth c F
  have loop : ∀ n1 k, k + n1 = n → X p l e (rmd 1 0 0) s m #[.ref a] below meth c (MQ below (x_Q D dA vwCl tyL0 B (fun r w1 => ∃ v, r = some v ∧ (v = .int (nI (f_cnt (p_suit K f h q) n)) ∧ w1 = w))) #[.ref a] s 0 0 (fun q => B ≤ q)) D dA vwCl B 4 0 0 4 [(0, .ref a), (1, .int (nI (f_cnt (p_suit K f h q) k))), (2, .int (nI k))] [] w := by
    intro n1
    induction n1 with
    | zero =>
      intro k hk
      obtain rfl : k = n := by omega
      refine x_iload_n F dX6_countSuited_4 rfl rfl ?_
      refine x_aload_n F dX6_countSuited_5 rfl rfl ?_
      refine x_get (ci := 5) (C := RX5) (T := TX5) (N := 9) (k := 1) F dX6_countSuited_6 rfl inX5 (by decide) q141 rfl ha rfl ?_
      refine x_icmp_ge F dX6_countSuited_9 rfl (fun h9 => ?_) (fun hc => absurd hc (fun q => q (Int32.le_refl _)))
      refine x_iload_n F dX6_countSuited_42 rfl rfl ?_
      refine x_iret F rfl rfl dX6_countSuited_43 (Nat.le_refl _) (Nat.le_refl _) ?_
      exact ⟨_, rfl, rfl, rfl⟩
    | succ n1 ih =>
      intro k hk
      refine x_iload_n F dX6_countSuited_4 rfl rfl ?_
      refine x_aload_n F dX6_countSuited_5 rfl rfl ?_
      refine x_get (ci := 5) (C := RX5) (T := TX5) (N := 9) (k := 1) F dX6_countSuited_6 rfl inX5 (by decide) q141 rfl ha rfl ?_
      refine x_icmp_ge F dX6_countSuited_9 rfl (fun hc => absurd hc (nI_ge (b := n) (by omega) (by omega))) (fun h9 => ?_)
      refine x_aload_n F dX6_countSuited_12 rfl rfl ?_
      refine x_get (ci := 5) (C := RX5) (T := TX5) (N := 9) (k := 0) F dX6_countSuited_13 rfl inX5 (by decide) q138 rfl ha rfl ?_
      refine x_iload_n F dX6_countSuited_16 rfl rfl ?_
      refine x_cVi1 (ci := 2) (C := RX2) (T := TX2) (N := 3) F dX6_countSuited_17 (x_gV q165 q166 q167 q9 q168) rfl (c_fVersionAt hR hf (nI k)) ⟨rfl, rfl, rfl, xd_X2_versionAt, ⟨Nat.le_of_ble_eq_true rfl, Nat.le_of_ble_eq_true rfl⟩, Nat.le_of_ble_eq_true rfl, Nat.le_of_ble_eq_true rfl⟩ rfl (hR.face hf) (Nat.le_of_ble_eq_true rfl) (fun v1 w1 hp => ?_)
      obtain ⟨rfl, hw9⟩ := hp
      replace hw9 := hw9.symm
      subst hw9
      rw [f_fver_nI (by omega)]
      unfold g_ver
      by_cases hv : k < nv K f
      · rw [if_pos hv]
        have hi : vOk K (6 * f + k) := by unfold vOk; rw [show (6 * f + k) / 6 = f by omega, show (6 * f + k) % 6 = k by omega]; exact ⟨hf, hv⟩
        refine x_astore_n F dX6_countSuited_20 rfl (by decide) ?_
        refine x_aload_n F dX6_countSuited_21 rfl rfl ?_
        refine x_ifnull F dX6_countSuited_22 ?_
        refine x_aload_n F dX6_countSuited_25 rfl rfl ?_
        refine x_aload_n F dX6_countSuited_26 rfl rfl ?_
        refine x_cVi1 (ci := 5) (C := RX5) (T := TX5) (N := 9) F dX6_countSuited_27 (x_gV q169 q170 q171 q12 q172) rfl (c_suits ha (hR.ver hi)) ⟨rfl, rfl, rfl, xd_X5_suits, ⟨Nat.le_of_ble_eq_true rfl, Nat.le_of_ble_eq_true rfl⟩, Nat.le_of_ble_eq_true rfl, Nat.le_of_ble_eq_true rfl⟩ rfl ha (Nat.le_of_ble_eq_true rfl) (fun v1 w1 hp => ?_)
        obtain ⟨rfl, hw9⟩ := hp
        replace hw9 := hw9.symm
        subst hw9
        refine x_if_eq F dX6_countSuited_30 rfl (fun h30 => ?_) (fun h30 => ?_)
        · have hp : p_suit K f h q k = false := by unfold p_suit; rw [x_b_eq.mp h30, Bool.and_false]
          refine x_iincN F dX6_countSuited_36 (by decide) rfl (by decide) ?_
          refine x_goto F dX6_countSuited_39 rfl ?_
          have h9 := ih (k + 1) (by omega)
          first
            | (rw [f_cnt_t (p := p_suit K f h q) (k := k) hp] at h9; exact x_lk h9 ⟨rfl, rfl, rfl, trivial⟩)
            | (rw [f_cnt_f (p := p_suit K f h q) (k := k) hp] at h9; exact x_lk h9 ⟨rfl, rfl, rfl, trivial⟩)
        · have hp : p_suit K f h q k = true := by unfold p_suit; rw [x_b_ne.mp h30, decide_eq_true hv]; rfl
          refine x_iincN F dX6_countSuited_33 (by decide) rfl (by decide) ?_
          refine x_iincN F dX6_countSuited_36 (by decide) rfl (by decide) ?_
          refine x_goto F dX6_countSuited_39 rfl ?_
          have h9 := ih (k + 1) (by omega)
          first
            | (rw [f_cnt_t (p := p_suit K f h q) (k := k) hp] at h9; exact x_lk h9 ⟨rfl, rfl, rfl, trivial⟩)
            | (rw [f_cnt_f (p := p_suit K f h q) (k := k) hp] at h9; exact x_lk h9 ⟨rfl, rfl, rfl, trivial⟩)
      · rw [if_neg hv]
        have hp : p_suit K f h q k = false := by unfold p_suit; rw [decide_eq_false hv]; rfl
        refine x_astore_nN F dX6_countSuited_20 rfl (by decide) ?_
        refine x_aload_nN F dX6_countSuited_21 rfl rfl ?_
        refine x_ifnullN F dX6_countSuited_22 rfl ?_
        refine x_iincN F dX6_countSuited_36 (by decide) rfl (by decide) ?_
        refine x_goto F dX6_countSuited_39 rfl ?_
        have h9 := ih (k + 1) (by omega)
        first
          | (rw [f_cnt_t (p := p_suit K f h q) (k := k) hp] at h9; exact x_lk h9 ⟨rfl, rfl, rfl, trivial⟩)
          | (rw [f_cnt_f (p := p_suit K f h q) (k := k) hp] at h9; exact x_lk h9 ⟨rfl, rfl, rfl, trivial⟩)
  refine x_iconst (v := 0) F dX6_countSuited_0 (by decide) ?_
  refine x_istore_n F dX6_countSuited_1 rfl (by decide) ?_
  refine x_iconst (v := 0) F dX6_countSuited_2 (by decide) ?_
  refine x_istore_n F dX6_countSuited_3 rfl (by decide) ?_
  exact x_lk (loop n 0 (by omega)) ⟨rfl, rfl, rfl, trivial⟩
def p_caller (K : kT) (i : Nat) (h : Int32) (k : Nat) : Bool := decide (k < nc K) && f_caller K k i h
def p_gen (K : kT) (i : Nat) (k : Nat) : Bool := decide (k < nc K) && decide (kCV K k = i)
set_option maxRecDepth 100000 in
set_option maxHeartbeats 4000000 in
theorem c_countCallers (hR : Rep Z K J w) {i : Nat} (hi : vOk K i) : Ci l D dA B yX6_countCallers wX6_countCallers 2 [.ref (Z 0 0), .ref (Z 10 i)] w (fun v w1 => v = .int (nI (f_cnt (p_caller K i (kG K 0)) 10)) ∧ w1 = w) := by
  refine x_Ct.of (cc := cX6_countCallers) (maxL := 5) (by decide) rfl (Nat.le_of_ble_eq_true rfl) ?_
  intro p e s m below meth c F
  have loop : ∀ n1 k, k + n1 = 10 → X p l e (rmd 2 0 0) s m #[.ref (Z 0 0), .ref (Z 10 i)] below meth c (MQ below (x_Q D dA vwCl tyL0 B (fun r w1 => ∃ v, r = some v ∧ (v = .int (nI (f_cnt (p_caller K i (kG K 0)) 10)) ∧ w1 = w))) #[.ref (Z 0 0), .ref (Z 10 i)] s 0 0 (fun q => B ≤ q)) D dA vwCl B 5 0 0 4 [(0, .ref (Z 0 0)), (1, .ref (Z 10 i)), (2, .int (nI (f_cnt (p_caller K i (kG K 0)) k))), (3, .int (nI k))] [] w := by
    intro n1
    induction n1 with
    | zero =>
      intro k hk
      obtain rfl : k = 10 := by omega
      refine x_iload_n F dX6_countCallers_4 rfl rfl ?_
      refine x_aload_n F dX6_countCallers_5 rfl rfl ?_
      refine x_get (ci := 6) (C := RX6) (T := TX6) (N := 12) (k := 1) F dX6_countCallers_6 rfl inX6 (by decide) q66 rfl hR.main rfl ?_
      refine x_alen (v := 10) F dX6_countCallers_9 rfl hR.clients rfl ?_
      refine x_icmp_ge F dX6_countCallers_10 rfl (fun h10 => ?_) (fun hc => absurd hc (fun q => q (Int32.le_refl _)))
      refine x_iload_n F dX6_countCallers_48 rfl rfl ?_
      refine x_iret F rfl rfl dX6_countCallers_49 (Nat.le_refl _) (Nat.le_refl _) ?_
      exact ⟨_, rfl, rfl, rfl⟩
    | succ n1 ih =>
      intro k hk
      refine x_iload_n F dX6_countCallers_4 rfl rfl ?_
      refine x_aload_n F dX6_countCallers_5 rfl rfl ?_
      refine x_get (ci := 6) (C := RX6) (T := TX6) (N := 12) (k := 1) F dX6_countCallers_6 rfl inX6 (by decide) q66 rfl hR.main rfl ?_
      refine x_alen (v := 10) F dX6_countCallers_9 rfl hR.clients rfl ?_
      refine x_icmp_ge F dX6_countCallers_10 rfl (fun hc => absurd hc (nI_ge (b := 10) (by omega) (by omega))) (fun h10 => ?_)
      refine x_aload_n F dX6_countCallers_13 rfl rfl ?_
      refine x_get (ci := 6) (C := RX6) (T := TX6) (N := 12) (k := 1) F dX6_countCallers_14 rfl inX6 (by decide) q66 rfl hR.main rfl ?_
      refine x_iload_n F dX6_countCallers_17 rfl rfl ?_
      refine x_aaldN F dX6_countCallers_18 rfl hR.clients (by omega) (by decide) ?_
      by_cases hk2 : k < nc K
      · simp only [if_pos hk2]
        refine x_astore F dX6_countCallers_19 (by decide) ?_
        refine x_aload F dX6_countCallers_21 rfl ?_
        refine x_ifnull F dX6_countCallers_23 ?_
        refine x_aload F dX6_countCallers_26 rfl ?_
        refine x_aload_n F dX6_countCallers_28 rfl rfl ?_
        refine x_aload_n F dX6_countCallers_29 rfl rfl ?_
        refine x_get (ci := 6) (C := RX6) (T := TX6) (N := 12) (k := 6) F dX6_countCallers_30 rfl inX6 (by decide) q71 rfl hR.main rfl ?_
        refine x_cVi2 (ci := 1) (C := RX1) (T := TX1) (N := 8) F dX6_countCallers_33 (x_gV q186 q187 q188 q13 q189) rfl (c_isCallerOf hR hk2 hi (kG K 0)) ⟨rfl, rfl, rfl, xd_X1_isCallerOf, ⟨Nat.le_of_ble_eq_true rfl, Nat.le_of_ble_eq_true rfl⟩, Nat.le_of_ble_eq_true rfl, Nat.le_of_ble_eq_true rfl⟩ rfl (hR.cli hk2) (Nat.le_of_ble_eq_true rfl) (fun v1 w1 hp => ?_)
        obtain ⟨rfl, hw9⟩ := hp
        replace hw9 := hw9.symm
        subst hw9
        refine x_if_eq F dX6_countCallers_36 rfl (fun h36 => ?_) (fun h36 => ?_)
        · have hp : p_caller K i (kG K 0) k = false := by unfold p_caller; rw [x_b_eq.mp h36, Bool.and_false]
          refine x_iincN F dX6_countCallers_42 (by decide) rfl (by decide) ?_
          refine x_goto F dX6_countCallers_45 rfl ?_
          have h9 := ih (k + 1) (by omega)
          first
            | (rw [f_cnt_t (p := p_caller K i (kG K 0)) (k := k) hp] at h9; exact x_lk h9 ⟨rfl, rfl, rfl, rfl, trivial⟩)
            | (rw [f_cnt_f (p := p_caller K i (kG K 0)) (k := k) hp] at h9; exact x_lk h9 ⟨rfl, rfl, rfl, rfl, trivial⟩)
        · have hp : p_caller K i (kG K 0) k = true := by unfold p_caller; rw [x_b_ne.mp h36, decide_eq_true hk2]; rfl
          refine x_iincN F dX6_countCallers_39 (by decide) rfl (by decide) ?_
          refine x_iincN F dX6_countCallers_42 (by decide) rfl (by decide) ?_
          refine x_goto F dX6_countCallers_45 rfl ?_
          have h9 := ih (k + 1) (by omega)
          first
            | (rw [f_cnt_t (p := p_caller K i (kG K 0)) (k := k) hp] at h9; exact x_lk h9 ⟨rfl, rfl, rfl, rfl, trivial⟩)
            | (rw [f_cnt_f (p := p_caller K i (kG K 0)) (k := k) hp] at h9; exact x_lk h9 ⟨rfl, rfl, rfl, rfl, trivial⟩)
      · simp only [if_neg hk2]
        have hp : p_caller K i (kG K 0) k = false := by simp only [p_caller, decide_eq_false hk2, Bool.false_and]
        refine x_astoreN F dX6_countCallers_19 (by decide) ?_
        refine x_aloadN F dX6_countCallers_21 rfl ?_
        refine x_ifnullN F dX6_countCallers_23 rfl ?_
        refine x_iincN F dX6_countCallers_42 (by decide) rfl (by decide) ?_
        refine x_goto F dX6_countCallers_45 rfl ?_
        have h9 := ih (k + 1) (by omega)
        first
          | (rw [f_cnt_t (p := p_caller K i (kG K 0)) (k := k) hp] at h9; exact x_lk h9 ⟨rfl, rfl, rfl, rfl, trivial⟩)
          | (rw [f_cnt_f (p := p_caller K i (kG K 0)) (k := k) hp] at h9; exact x_lk h9 ⟨rfl, rfl, rfl, rfl, trivial⟩)
  refine x_iconst (v := 0) F dX6_countCallers_0 (by decide) ?_
  refine x_istore_n F dX6_countCallers_1 rfl (by decide) ?_
  refine x_iconst (v := 0) F dX6_countCallers_2 (by decide) ?_
  refine x_istore_n F dX6_countCallers_3 rfl (by decide) ?_
  exact x_lk (loop 10 0 (by omega)) ⟨rfl, rfl, rfl, rfl, trivial⟩
set_option maxRecDepth 100000 in
set_option maxHeartbeats 4000000 in
theorem c_countGeneratedFor (hR : Rep Z K J w) {i : Nat} (hi : vOk K i) : Ci l D dA B yX6_countGeneratedFor wX6_countGeneratedFor 0 [.ref (Z 0 0), .ref (Z 10 i)] w (fun v w1 => v = .int (nI (f_cnt (p_gen K i) 10)) ∧ w1 = w) := by
  refine x_Ct.of (cc := cX6_countGeneratedFor) (maxL := 5) (by decide) rfl (Nat.le_of_ble_eq_true rfl) ?_
  intro p e s m below meth c F
  have loop : ∀ n1 k, k + n1 = 10 → X p l e (rmd 0 0 0) s m #[.ref (Z 0 0), .ref (Z 10 i)] below meth c (MQ below (x_Q D dA vwCl tyL0 B (fun r w1 => ∃ v, r = some v ∧ (v = .int (nI (f_cnt (p_gen K i) 10)) ∧ w1 = w))) #[.ref (Z 0 0), .ref (Z 10 i)] s 0 0 (fun q => B ≤ q)) D dA vwCl B 5 0 0 4 [(0, .ref (Z 0 0)), (1, .ref (Z 10 i)), (2, .int (nI (f_cnt (p_gen K i) k))), (3, .int (nI k))] [] w := by
    intro n1
    induction n1 with
    | zero =>
      intro k hk
      obtain rfl : k = 10 := by omega
      refine x_iload_n F dX6_countGeneratedFor_4 rfl rfl ?_
      refine x_aload_n F dX6_countGeneratedFor_5 rfl rfl ?_
      refine x_get (ci := 6) (C := RX6) (T := TX6) (N := 12) (k := 1) F dX6_countGeneratedFor_6 rfl inX6 (by decide) q66 rfl hR.main rfl ?_
      refine x_alen (v := 10) F dX6_countGeneratedFor_9 rfl hR.clients rfl ?_
      refine x_icmp_ge F dX6_countGeneratedFor_10 rfl (fun h10 => ?_) (fun hc => absurd hc (fun q => q (Int32.le_refl _)))
      refine x_iload_n F dX6_countGeneratedFor_44 rfl rfl ?_
      refine x_iret F rfl rfl dX6_countGeneratedFor_45 (Nat.le_refl _) (Nat.le_refl _) ?_
      exact ⟨_, rfl, rfl, rfl⟩
    | succ n1 ih =>
      intro k hk
      refine x_iload_n F dX6_countGeneratedFor_4 rfl rfl ?_
      refine x_aload_n F dX6_countGeneratedFor_5 rfl rfl ?_
      refine x_get (ci := 6) (C := RX6) (T := TX6) (N := 12) (k := 1) F dX6_countGeneratedFor_6 rfl inX6 (by decide) q66 rfl hR.main rfl ?_
      refine x_alen (v := 10) F dX6_countGeneratedFor_9 rfl hR.clients rfl ?_
      refine x_icmp_ge F dX6_countGeneratedFor_10 rfl (fun hc => absurd hc (nI_ge (b := 10) (by omega) (by omega))) (fun h10 => ?_)
      refine x_aload_n F dX6_countGeneratedFor_13 rfl rfl ?_
      refine x_get (ci := 6) (C := RX6) (T := TX6) (N := 12) (k := 1) F dX6_countGeneratedFor_14 rfl inX6 (by decide) q66 rfl hR.main rfl ?_
      refine x_iload_n F dX6_countGeneratedFor_17 rfl rfl ?_
      refine x_aaldN F dX6_countGeneratedFor_18 rfl hR.clients (by omega) (by decide) ?_
      by_cases hk2 : k < nc K
      · simp only [if_pos hk2]
        refine x_astore F dX6_countGeneratedFor_19 (by decide) ?_
        refine x_aload F dX6_countGeneratedFor_21 rfl ?_
        refine x_ifnull F dX6_countGeneratedFor_23 ?_
        refine x_aload F dX6_countGeneratedFor_26 rfl ?_
        refine x_get (ci := 1) (C := RX1) (T := TX1) (N := 8) (k := 4) F dX6_countGeneratedFor_28 rfl inX1 (by decide) q253 rfl (hR.cli hk2) rfl ?_
        refine x_aload_n F dX6_countGeneratedFor_31 rfl rfl ?_
        refine x_acmp_neR F dX6_countGeneratedFor_32 rfl (fun h32 => ?_) (fun h32 => ?_)
        · rw [hR.veq (hR.cv hk2) hi] at h32
          have hp : p_gen K i k = false := by unfold p_gen; rw [decide_eq_false h32, Bool.and_false]
          refine x_iincN F dX6_countGeneratedFor_38 (by decide) rfl (by decide) ?_
          refine x_goto F dX6_countGeneratedFor_41 rfl ?_
          have h9 := ih (k + 1) (by omega)
          first
            | (rw [f_cnt_t (p := p_gen K i) (k := k) hp] at h9; exact x_lk h9 ⟨rfl, rfl, rfl, rfl, trivial⟩)
            | (rw [f_cnt_f (p := p_gen K i) (k := k) hp] at h9; exact x_lk h9 ⟨rfl, rfl, rfl, rfl, trivial⟩)
        · rw [hR.veq (hR.cv hk2) hi] at h32
          have hp : p_gen K i k = true := by unfold p_gen; rw [decide_eq_true h32, decide_eq_true hk2]; rfl
          refine x_iincN F dX6_countGeneratedFor_35 (by decide) rfl (by decide) ?_
          refine x_iincN F dX6_countGeneratedFor_38 (by decide) rfl (by decide) ?_
          refine x_goto F dX6_countGeneratedFor_41 rfl ?_
          have h9 := ih (k + 1) (by omega)
          first
            | (rw [f_cnt_t (p := p_gen K i) (k := k) hp] at h9; exact x_lk h9 ⟨rfl, rfl, rfl, rfl, trivial⟩)
            | (rw [f_cnt_f (p := p_gen K i) (k := k) hp] at h9; exact x_lk h9 ⟨rfl, rfl, rfl, rfl, trivial⟩)
      · simp only [if_neg hk2]
        have hp : p_gen K i k = false := by simp only [p_gen, decide_eq_false hk2, Bool.false_and]
        refine x_astoreN F dX6_countGeneratedFor_19 (by decide) ?_
        refine x_aloadN F dX6_countGeneratedFor_21 rfl ?_
        refine x_ifnullN F dX6_countGeneratedFor_23 rfl ?_
        refine x_iincN F dX6_countGeneratedFor_38 (by decide) rfl (by decide) ?_
        refine x_goto F dX6_countGeneratedFor_41 rfl ?_
        have h9 := ih (k + 1) (by omega)
        first
          | (rw [f_cnt_t (p := p_gen K i) (k := k) hp] at h9; exact x_lk h9 ⟨rfl, rfl, rfl, rfl, trivial⟩)
          | (rw [f_cnt_f (p := p_gen K i) (k := k) hp] at h9; exact x_lk h9 ⟨rfl, rfl, rfl, rfl, trivial⟩)
  refine x_iconst (v := 0) F dX6_countGeneratedFor_0 (by decide) ?_
  refine x_istore_n F dX6_countGeneratedFor_1 rfl (by decide) ?_
  refine x_iconst (v := 0) F dX6_countGeneratedFor_2 (by decide) ?_
  refine x_istore_n F dX6_countGeneratedFor_3 rfl (by decide) ?_
  exact x_lk (loop 10 0 (by omega)) ⟨rfl, rfl, rfl, rfl, trivial⟩
def f_since (K : kT) (k i : Nat) : Int32 := if f_called K k i = -1 then -1 else kG K 0 - f_called K k i
def f_askst (K : kT) (o : Int32) (i : Nat) : Int32 := if ¬ kV K i 2 = 1 ∨ f_asked (kVA K i) o = -1 then 0 else if f_answ (kV K i 8) o then 3 else if f_warned (kVA K i) (kV K i 8) o (kG K 0) then 2 else 1
set_option maxRecDepth 100000 in
set_option maxHeartbeats 4000000 in
theorem c_hoursSinceCall (hR : Rep Z K J w) {k i : Nat} (hk : k < nc K) (hi : vOk K i) : Ci l D dA B yX6_hoursSinceCall wX6_hoursSinceCall 1 [.ref (Z 0 0), .ref (Z 13 k), .ref (Z 10 i)] w (fun v w1 => v = .int (f_since K k i) ∧ w1 = w) := by
  refine x_Ct.of (cc := cX6_hoursSinceCall) (maxL := 4) (by decide) rfl (Nat.le_of_ble_eq_true rfl) ?_
  intro p e s m below meth c F
  refine x_aload_n F dX6_hoursSinceCall_0 rfl rfl ?_
  refine x_aload_n F dX6_hoursSinceCall_1 rfl rfl ?_
  refine x_cVi1 (ci := 1) (C := RX1) (T := TX1) (N := 8) F dX6_hoursSinceCall_2 (x_gV q348 q191 q192 q13 q193) rfl (c_calledAtOf hR hk hi) ⟨rfl, rfl, rfl, xd_X1_calledAtOf, ⟨Nat.le_of_ble_eq_true rfl, Nat.le_of_ble_eq_true rfl⟩, Nat.le_of_ble_eq_true rfl, Nat.le_of_ble_eq_true rfl⟩ rfl (hR.cli hk) (Nat.le_of_ble_eq_true rfl) (fun v1 w1 hp => ?_)
  obtain ⟨rfl, hw9⟩ := hp
  replace hw9 := hw9.symm
  subst hw9
  refine x_istore_n F dX6_hoursSinceCall_5 rfl (by decide) ?_
  refine x_iload_n F dX6_hoursSinceCall_6 rfl rfl ?_
  refine x_iconst (v := (-1)) F dX6_hoursSinceCall_7 (by decide) ?_
  refine x_icmp_ne F dX6_hoursSinceCall_8 rfl (fun h8 => ?_) (fun h8 => ?_)
  · refine x_aload_n F dX6_hoursSinceCall_15 rfl rfl ?_
    refine x_get (ci := 6) (C := RX6) (T := TX6) (N := 12) (k := 6) F dX6_hoursSinceCall_16 rfl inX6 (by decide) q71 rfl hR.main rfl ?_
    refine x_iload_n F dX6_hoursSinceCall_19 rfl rfl ?_
    refine x_isub F dX6_hoursSinceCall_20 ?_
    refine x_iret F rfl rfl dX6_hoursSinceCall_21 (Nat.le_refl _) (Nat.le_refl _) ?_
    first | exact ⟨_, rfl, congrArg Value.int (if_pos h8).symm, rfl⟩ | exact ⟨_, rfl, congrArg Value.int (if_neg h8).symm, rfl⟩
  · refine x_iconst (v := (-1)) F dX6_hoursSinceCall_11 (by decide) ?_
    refine x_goto F dX6_hoursSinceCall_12 rfl ?_
    refine x_iret F rfl rfl dX6_hoursSinceCall_21 (Nat.le_refl _) (Nat.le_refl _) ?_
    first | exact ⟨_, rfl, congrArg Value.int (if_pos h8).symm, rfl⟩ | exact ⟨_, rfl, congrArg Value.int (if_neg h8).symm, rfl⟩
set_option maxRecDepth 100000 in
set_option maxHeartbeats 4000000 in
theorem c_askedState (hR : Rep Z K J w) {i : Nat} (hi : vOk K i) (o : Int32) : Ci l D dA B yX6_askedState wX6_askedState 2 [.ref (Z 0 0), .int o, .ref (Z 10 i)] w (fun v w1 => v = .int (f_askst K o i) ∧ w1 = w) := by
  refine x_Ct.of (cc := cX6_askedState) (maxL := 4) (by decide) rfl (Nat.le_of_ble_eq_true rfl) ?_
  intro p e s m below meth c F
  refine x_aload_n F dX6_askedState_0 rfl rfl ?_
  refine x_get (ci := 5) (C := RX5) (T := TX5) (N := 9) (k := 4) F dX6_askedState_1 rfl inX5 (by decide) q147 rfl (hR.ver hi) rfl ?_
  refine x_astore_n F dX6_askedState_4 rfl (by decide) ?_
  refine x_aload_n F dX6_askedState_5 rfl rfl ?_
  refine x_get (ci := 5) (C := RX5) (T := TX5) (N := 9) (k := 5) F dX6_askedState_6 rfl inX5 (by decide) q149 rfl (hR.ver hi) rfl ?_
  refine x_iconst (v := 1) F dX6_askedState_9 (by decide) ?_
  refine x_icmp_ne F dX6_askedState_10 rfl (fun h10 => ?_) (fun h10 => ?_)
  · refine x_iconst (v := 0) F dX6_askedState_22 (by decide) ?_
    refine x_iret F rfl rfl dX6_askedState_23 (Nat.le_refl _) (Nat.le_refl _) ?_
    first | exact ⟨_, rfl, congrArg Value.int (if_pos (Or.inl h10)).symm, rfl⟩ | exact ⟨_, rfl, congrArg Value.int (if_pos (Or.inr (Decidable.not_not.mp h19))).symm, rfl⟩ | exact ⟨_, rfl, congrArg Value.int (if_pos (Or.inr h19)).symm, rfl⟩
  · refine x_aload_n F dX6_askedState_13 rfl rfl ?_
    refine x_iload_n F dX6_askedState_14 rfl rfl ?_
    refine x_cVi1 (ci := 3) (C := RX3) (T := TX3) (N := 4) F dX6_askedState_15 (x_gV q368 q202 q203 q3 q204) rfl (c_askedAtOf (hR.ret hi) (hR.ask hi) o) ⟨rfl, rfl, rfl, xd_X3_askedAtOf, ⟨Nat.le_of_ble_eq_true rfl, Nat.le_of_ble_eq_true rfl⟩, Nat.le_of_ble_eq_true rfl, Nat.le_of_ble_eq_true rfl⟩ rfl (hR.ret hi) (Nat.le_of_ble_eq_true rfl) (fun v1 w1 hp => ?_)
    obtain ⟨rfl, hw9⟩ := hp
    replace hw9 := hw9.symm
    subst hw9
    refine x_iconst (v := (-1)) F dX6_askedState_18 (by decide) ?_
    refine x_icmp_ne F dX6_askedState_19 rfl (fun h19 => ?_) (fun h19 => ?_)
    · refine x_aload_n F dX6_askedState_24 rfl rfl ?_
      refine x_iload_n F dX6_askedState_25 rfl rfl ?_
      refine x_cVi1 (ci := 3) (C := RX3) (T := TX3) (N := 4) F dX6_askedState_26 (x_gV q376 q206 q207 q3 q208) rfl (c_hasAnswered (hR.ret hi) o) ⟨rfl, rfl, rfl, xd_X3_hasAnswered, ⟨Nat.le_of_ble_eq_true rfl, Nat.le_of_ble_eq_true rfl⟩, Nat.le_of_ble_eq_true rfl, Nat.le_of_ble_eq_true rfl⟩ rfl (hR.ret hi) (Nat.le_of_ble_eq_true rfl) (fun v1 w1 hp => ?_)
      obtain ⟨rfl, hw9⟩ := hp
      replace hw9 := hw9.symm
      subst hw9
      refine x_if_eq F dX6_askedState_29 rfl (fun h29 => ?_) (fun h29 => ?_)
      · have g29 := x_b_eq.mp h29
        refine x_aload_n F dX6_askedState_34 rfl rfl ?_
        refine x_iload_n F dX6_askedState_35 rfl rfl ?_
        refine x_aload_n F dX6_askedState_36 rfl rfl ?_
        refine x_get (ci := 6) (C := RX6) (T := TX6) (N := 12) (k := 6) F dX6_askedState_37 rfl inX6 (by decide) q71 rfl hR.main rfl ?_
        refine x_cVi2 (ci := 3) (C := RX3) (T := TX3) (N := 4) F dX6_askedState_40 (x_gV q197 q198 q199 q3 q200) rfl (c_isWarned (hR.ret hi) (hR.ask hi) o (kG K 0)) ⟨rfl, rfl, rfl, xd_X3_isWarned, ⟨Nat.le_of_ble_eq_true rfl, Nat.le_of_ble_eq_true rfl⟩, Nat.le_of_ble_eq_true rfl, Nat.le_of_ble_eq_true rfl⟩ rfl (hR.ret hi) (Nat.le_of_ble_eq_true rfl) (fun v1 w1 hp => ?_)
        obtain ⟨rfl, hw9⟩ := hp
        replace hw9 := hw9.symm
        subst hw9
        refine x_if_eq F dX6_askedState_43 rfl (fun h43 => ?_) (fun h43 => ?_)
        · have g43 := x_b_eq.mp h43
          refine x_iconst (v := 1) F dX6_askedState_50 (by decide) ?_
          refine x_iret F rfl rfl dX6_askedState_51 (Nat.le_refl _) (Nat.le_refl _) ?_
          exact ⟨_, rfl, congrArg Value.int (by simp [f_askst, h10, h19, g29, g43]), rfl⟩
        · have g43 := x_b_ne.mp h43
          refine x_iconst (v := 2) F dX6_askedState_46 (by decide) ?_
          refine x_goto F dX6_askedState_47 rfl ?_
          refine x_iret F rfl rfl dX6_askedState_51 (Nat.le_refl _) (Nat.le_refl _) ?_
          exact ⟨_, rfl, congrArg Value.int (by simp [f_askst, h10, h19, g29, g43]), rfl⟩
      · have g29 := x_b_ne.mp h29
        refine x_iconst (v := 3) F dX6_askedState_32 (by decide) ?_
        refine x_iret F rfl rfl dX6_askedState_33 (Nat.le_refl _) (Nat.le_refl _) ?_
        exact ⟨_, rfl, congrArg Value.int (by simp [f_askst, h10, h19, g29]), rfl⟩
    · refine x_iconst (v := 0) F dX6_askedState_22 (by decide) ?_
      refine x_iret F rfl rfl dX6_askedState_23 (Nat.le_refl _) (Nat.le_refl _) ?_
      first | exact ⟨_, rfl, congrArg Value.int (if_pos (Or.inl h10)).symm, rfl⟩ | exact ⟨_, rfl, congrArg Value.int (if_pos (Or.inr (Decidable.not_not.mp h19))).symm, rfl⟩ | exact ⟨_, rfl, congrArg Value.int (if_pos (Or.inr h19)).symm, rfl⟩
end CNT
end
section
/-! ===== versions counted, the nearest one, routes ===== -/
section ROU
variable {l : Launch} {D : va_G} {dA : Nat → ClassId} {B : Nat} {Z : Nat → Nat → Nat} {K : kT} {J : jT} {w : xW}
def p_st (K : kT) (s : Int32) (j : Nat) : Bool := b_ok K j && decide (kV K j 2 = s)
set_option maxRecDepth 100000 in
set_option maxHeartbeats 4000000 in
theorem c_countVersions (hR : Rep Z K J w) (s0 : Int32) : Ci l D dA B yX6_countVersions wX6_countVersions 3 [.ref (Z 0 0), .int s0] w (fun v w1 => v = .int (nI (f_cnt (p_st K s0) 24)) ∧ w1 = w) := by
  refine x_Ct.of (cc := cX6_countVersions) (maxL := 6) (by decide) rfl (Nat.le_of_ble_eq_true rfl) ?_
  intro p e s m below meth c F

  have loop : ∀ n2 f, f + n2 = 4 → X p l e (rmd 3 0 0) s m #[.ref (Z 0 0), .int s0] below meth c (MQ below (x_Q D dA vwCl tyL0 B (fun r w1 => ∃ v, r = some v ∧ (v = .int (nI (f_cnt (p_st K s0) 24)) ∧ w1 = w))) #[.ref (Z 0 0), .int s0] s 0 0 (fun q => B ≤ q)) D dA vwCl B 6 0 0 4 [(0, .ref (Z 0 0)), (1, .int s0), (2, .int (nI (f_cnt (p_st K s0) (6 * f)))), (3, .int (nI f))] [] w := by
    intro n2
    induction n2 with
    | zero =>
      intro f hf
      obtain rfl : f = 4 := by omega
      refine x_iload_n F dX6_countVersions_4 rfl rfl ?_
      refine x_iconst (v := 4) F dX6_countVersions_5 (by decide) ?_
      refine x_icmp_ge F dX6_countVersions_6 rfl (fun h6 => ?_) (fun hc => absurd hc (fun q => q (Int32.le_refl _)))
      refine x_iload_n F dX6_countVersions_57 rfl rfl ?_
      refine x_iret F rfl rfl dX6_countVersions_58 (Nat.le_refl _) (Nat.le_refl _) ?_
      exact ⟨_, rfl, rfl, rfl⟩
    | succ n2 ih2 =>
      intro f hf
      have inner : ∀ n1 k, k + n1 = 6 → X p l e (rmd 3 0 0) s m #[.ref (Z 0 0), .int s0] below meth c (MQ below (x_Q D dA vwCl tyL0 B (fun r w1 => ∃ v, r = some v ∧ (v = .int (nI (f_cnt (p_st K s0) 24)) ∧ w1 = w))) #[.ref (Z 0 0), .int s0] s 0 0 (fun q => B ≤ q)) D dA vwCl B 6 0 0 12 [(0, .ref (Z 0 0)), (1, .int s0), (2, .int (nI (f_cnt (p_st K s0) (6 * f + k)))), (3, .int (nI f)), (4, .int (nI k))] [] w := by
        intro n1
        induction n1 with
        | zero =>
          intro k hk
          obtain rfl : k = 6 := by omega
          refine x_iload F dX6_countVersions_12 rfl ?_
          refine x_bipush (v := 6) F dX6_countVersions_14 (by decide) ?_
          refine x_icmp_ge F dX6_countVersions_16 rfl (fun h16 => ?_) (fun hc => absurd hc (fun q => q (Int32.le_refl _)))
          refine x_iincN F dX6_countVersions_51 (by decide) rfl (by decide) ?_
          refine x_goto F dX6_countVersions_54 rfl ?_
          exact x_lk (ih2 (f + 1) (by omega)) ⟨rfl, rfl, rfl, rfl, trivial⟩
        | succ n1 ih =>
          intro k hk
          refine x_iload F dX6_countVersions_12 rfl ?_
          refine x_bipush (v := 6) F dX6_countVersions_14 (by decide) ?_
          refine x_icmp_ge F dX6_countVersions_16 rfl (fun hc => absurd hc (nI_ge (b := 6) (by omega) (by omega))) (fun h16 => ?_)
          refine x_aload_n F dX6_countVersions_19 rfl rfl ?_
          refine x_iload_n F dX6_countVersions_20 rfl rfl ?_
          refine x_iload F dX6_countVersions_21 rfl ?_
          refine x_cVi2 (ci := 6) (C := RX6) (T := TX6) (N := 12) F dX6_countVersions_23 (x_gV q177 q178 q449 q1 q179) rfl (c_versionAt hR (nI f) (nI k)) ⟨rfl, rfl, rfl, xd_X6_versionAt, ⟨Nat.le_of_ble_eq_true rfl, Nat.le_of_ble_eq_true rfl⟩, Nat.le_of_ble_eq_true rfl, Nat.le_of_ble_eq_true rfl⟩ rfl hR.main (Nat.le_of_ble_eq_true rfl) (fun v1 w1 hp => ?_)
          obtain ⟨rfl, hw9⟩ := hp
          replace hw9 := hw9.symm
          subst hw9
          rw [f_verAt_nI hR (by omega) (by omega)]
          by_cases hv : b_ok K (6 * f + k) = true
          · rw [if_pos hv]
            have hi := b_ok_iff.mp hv
            refine x_astore F dX6_countVersions_26 (by decide) ?_
            refine x_aload F dX6_countVersions_28 rfl ?_
            refine x_ifnull F dX6_countVersions_30 ?_
            refine x_aload F dX6_countVersions_33 rfl ?_
            refine x_get (ci := 5) (C := RX5) (T := TX5) (N := 9) (k := 5) F dX6_countVersions_35 rfl inX5 (by decide) q149 rfl (hR.ver hi) rfl ?_
            refine x_iload_n F dX6_countVersions_38 rfl rfl ?_
            refine x_icmp_ne F dX6_countVersions_39 rfl (fun h39 => ?_) (fun h39 => ?_)
            · have hp : p_st K s0 (6 * f + k) = false := by unfold p_st; rw [decide_eq_false h39, Bool.and_false]
              refine x_iincN F dX6_countVersions_45 (by decide) rfl (by decide) ?_
              refine x_goto F dX6_countVersions_48 rfl ?_
              have h9 := ih (k + 1) (by omega)
              first
                | (rw [show 6 * f + (k + 1) = 6 * f + k + 1 from rfl, f_cnt_t (p := p_st K s0) (k := 6 * f + k) hp] at h9; exact x_lk h9 ⟨rfl, rfl, rfl, rfl, rfl, trivial⟩)
                | (rw [show 6 * f + (k + 1) = 6 * f + k + 1 from rfl, f_cnt_f (p := p_st K s0) (k := 6 * f + k) hp] at h9; exact x_lk h9 ⟨rfl, rfl, rfl, rfl, rfl, trivial⟩)
            · have hp : p_st K s0 (6 * f + k) = true := by unfold p_st; rw [decide_eq_true h39, hv]; rfl
              refine x_iincN F dX6_countVersions_42 (by decide) rfl (by decide) ?_
              refine x_iincN F dX6_countVersions_45 (by decide) rfl (by decide) ?_
              refine x_goto F dX6_countVersions_48 rfl ?_
              have h9 := ih (k + 1) (by omega)
              first
                | (rw [show 6 * f + (k + 1) = 6 * f + k + 1 from rfl, f_cnt_t (p := p_st K s0) (k := 6 * f + k) hp] at h9; exact x_lk h9 ⟨rfl, rfl, rfl, rfl, rfl, trivial⟩)
                | (rw [show 6 * f + (k + 1) = 6 * f + k + 1 from rfl, f_cnt_f (p := p_st K s0) (k := 6 * f + k) hp] at h9; exact x_lk h9 ⟨rfl, rfl, rfl, rfl, rfl, trivial⟩)
          · rw [if_neg hv]
            have hp : p_st K s0 (6 * f + k) = false := by unfold p_st; rw [Bool.not_eq_true _ |>.mp hv]; rfl
            refine x_astoreN F dX6_countVersions_26 (by decide) ?_
            refine x_aloadN F dX6_countVersions_28 rfl ?_
            refine x_ifnullN F dX6_countVersions_30 rfl ?_
            refine x_iincN F dX6_countVersions_45 (by decide) rfl (by decide) ?_
            refine x_goto F dX6_countVersions_48 rfl ?_
            have h9 := ih (k + 1) (by omega)
            first
              | (rw [show 6 * f + (k + 1) = 6 * f + k + 1 from rfl, f_cnt_t (p := p_st K s0) (k := 6 * f + k) hp] at h9; exact x_lk h9 ⟨rfl, rfl, rfl, rfl, rfl, trivial⟩)
              | (rw [show 6 * f + (k + 1) = 6 * f + k + 1 from rfl, f_cnt_f (p := p_st K s0) (k := 6 * f + k) hp] at h9; exact x_lk h9 ⟨rfl, rfl, rfl, rfl, rfl, trivial⟩)
      refine x_iload_n F dX6_countVersions_4 rfl rfl ?_
      refine x_iconst (v := 4) F dX6_countVersions_5 (by decide) ?_
      refine x_icmp_ge F dX6_countVersions_6 rfl (fun hc => absurd hc (nI_ge (b := 4) (by omega) (by omega))) (fun h6 => ?_)
      refine x_iconst (v := 0) F dX6_countVersions_9 (by decide) ?_
      refine x_istore F dX6_countVersions_10 (by decide) ?_
      exact x_lk (inner 6 0 (by omega)) ⟨rfl, rfl, rfl, rfl, rfl, trivial⟩
  refine x_iconst (v := 0) F dX6_countVersions_0 (by decide) ?_
  refine x_istore_n F dX6_countVersions_1 rfl (by decide) ?_
  refine x_iconst (v := 0) F dX6_countVersions_2 (by decide) ?_
  refine x_istore_n F dX6_countVersions_3 rfl (by decide) ?_
  exact x_lk (loop 4 0 (by omega)) ⟨rfl, rfl, rfl, rfl, trivial⟩
def f_bit0 (x : Int32) : Int32 := x - (((x).toUInt32 >>> ((1 : Int32).toUInt32 &&& Int32.toUInt32 31)).toInt32 &&& 1431655765)
def f_bit1 (x : Int32) : Int32 := (x &&& 858993459) + (((x).toUInt32 >>> ((2 : Int32).toUInt32 &&& Int32.toUInt32 31)).toInt32 &&& 858993459)
def f_bit2 (x : Int32) : Int32 := (x + ((x).toUInt32 >>> ((4 : Int32).toUInt32 &&& Int32.toUInt32 31)).toInt32) &&& 252645135
def f_bit3 (x : Int32) : Int32 := x + ((x).toUInt32 >>> ((8 : Int32).toUInt32 &&& Int32.toUInt32 31)).toInt32
def f_bit4 (x : Int32) : Int32 := x + ((x).toUInt32 >>> ((16 : Int32).toUInt32 &&& Int32.toUInt32 31)).toInt32
def f_bit (x : Int32) : Int32 := f_bit4 (f_bit3 (f_bit2 (f_bit1 (f_bit0 x)))) &&& 63
set_option maxRecDepth 100000 in
set_option maxHeartbeats 4000000 in
theorem c_bitCount (x : Int32) : Ci l D dA B yJ6_bitCount_0f7a4 wJ6_bitCount_0f7a4 0 [.int x] w (fun v w1 => v = .int (f_bit x) ∧ w1 = w) := by
  refine x_Ct.of (cc := cJ6_bitCount_0f7a4) (maxL := 1) (by decide) rfl (Nat.le_of_ble_eq_true rfl) ?_
  intro p e s m below meth c F
  refine x_iload_n F dJ6_bitCount_0f7a4_0 rfl rfl ?_
  refine x_iload_n F dJ6_bitCount_0f7a4_1 rfl rfl ?_
  refine x_iconst (v := 1) F dJ6_bitCount_0f7a4_2 (by decide) ?_
  refine x_iushr F dJ6_bitCount_0f7a4_3 ?_
  refine x_ldcw F dJ6_bitCount_0f7a4_4 q407 ?_
  refine x_iand F dJ6_bitCount_0f7a4_7 ?_
  refine x_isub F dJ6_bitCount_0f7a4_8 ?_
  refine x_istore_n F dJ6_bitCount_0f7a4_9 rfl (by decide) ?_
  refine x_iload_n F dJ6_bitCount_0f7a4_10 rfl rfl ?_
  refine x_ldcw F dJ6_bitCount_0f7a4_11 q408 ?_
  refine x_iand F dJ6_bitCount_0f7a4_14 ?_
  refine x_iload_n F dJ6_bitCount_0f7a4_15 rfl rfl ?_
  refine x_iconst (v := 2) F dJ6_bitCount_0f7a4_16 (by decide) ?_
  refine x_iushr F dJ6_bitCount_0f7a4_17 ?_
  refine x_ldcw F dJ6_bitCount_0f7a4_18 q408 ?_
  refine x_iand F dJ6_bitCount_0f7a4_21 ?_
  refine x_iadd F dJ6_bitCount_0f7a4_22 ?_
  refine x_istore_n F dJ6_bitCount_0f7a4_23 rfl (by decide) ?_
  refine x_iload_n F dJ6_bitCount_0f7a4_24 rfl rfl ?_
  refine x_iload_n F dJ6_bitCount_0f7a4_25 rfl rfl ?_
  refine x_iconst (v := 4) F dJ6_bitCount_0f7a4_26 (by decide) ?_
  refine x_iushr F dJ6_bitCount_0f7a4_27 ?_
  refine x_iadd F dJ6_bitCount_0f7a4_28 ?_
  refine x_ldcw F dJ6_bitCount_0f7a4_29 q409 ?_
  refine x_iand F dJ6_bitCount_0f7a4_32 ?_
  refine x_istore_n F dJ6_bitCount_0f7a4_33 rfl (by decide) ?_
  refine x_iload_n F dJ6_bitCount_0f7a4_34 rfl rfl ?_
  refine x_iload_n F dJ6_bitCount_0f7a4_35 rfl rfl ?_
  refine x_bipush (v := 8) F dJ6_bitCount_0f7a4_36 (by decide) ?_
  refine x_iushr F dJ6_bitCount_0f7a4_38 ?_
  refine x_iadd F dJ6_bitCount_0f7a4_39 ?_
  refine x_istore_n F dJ6_bitCount_0f7a4_40 rfl (by decide) ?_
  refine x_iload_n F dJ6_bitCount_0f7a4_41 rfl rfl ?_
  refine x_iload_n F dJ6_bitCount_0f7a4_42 rfl rfl ?_
  refine x_bipush (v := 16) F dJ6_bitCount_0f7a4_43 (by decide) ?_
  refine x_iushr F dJ6_bitCount_0f7a4_45 ?_
  refine x_iadd F dJ6_bitCount_0f7a4_46 ?_
  refine x_istore_n F dJ6_bitCount_0f7a4_47 rfl (by decide) ?_
  refine x_iload_n F dJ6_bitCount_0f7a4_48 rfl rfl ?_
  refine x_bipush (v := 63) F dJ6_bitCount_0f7a4_49 (by decide) ?_
  refine x_iand F dJ6_bitCount_0f7a4_51 ?_
  refine x_iret F rfl rfl dJ6_bitCount_0f7a4_52 (Nat.le_refl _) (Nat.le_refl _) ?_
  exact ⟨_, rfl, rfl, rfl⟩
/-- the nearest open version so far, and how far it is -/
def f_near (K : kT) (k : Nat) (n : Nat) : Int32 × Int32 := match n with
  | 0 => (-1, 0)
  | n + 1 => if decide (n < nv K (kCV K k / 6)) && decide (kV K (6 * (kCV K k / 6) + n) 2 = 0) && (decide ((f_near K k n).1 = -1) || !decide ((f_near K k n).2 < f_bit (f_again (kV K (6 * (kCV K k / 6) + n) 0) (kV K (6 * (kCV K k / 6) + n) 1) (kC K k 1) ^^^ kC K k 1))) then (nI n, f_bit (f_again (kV K (6 * (kCV K k / 6) + n) 0) (kV K (6 * (kCV K k / 6) + n) 1) (kC K k 1) ^^^ kC K k 1)) else f_near K k n
theorem f_near_t {K : kT} {k n : Nat} (h : (decide (n < nv K (kCV K k / 6)) && decide (kV K (6 * (kCV K k / 6) + n) 2 = 0) && (decide ((f_near K k n).1 = -1) || !decide ((f_near K k n).2 < f_bit (f_again (kV K (6 * (kCV K k / 6) + n) 0) (kV K (6 * (kCV K k / 6) + n) 1) (kC K k 1) ^^^ kC K k 1)))) = true) : f_near K k (n + 1) = (nI n, f_bit (f_again (kV K (6 * (kCV K k / 6) + n) 0) (kV K (6 * (kCV K k / 6) + n) 1) (kC K k 1) ^^^ kC K k 1)) := if_pos h
theorem f_near_f {K : kT} {k n : Nat} (h : (decide (n < nv K (kCV K k / 6)) && decide (kV K (6 * (kCV K k / 6) + n) 2 = 0) && (decide ((f_near K k n).1 = -1) || !decide ((f_near K k n).2 < f_bit (f_again (kV K (6 * (kCV K k / 6) + n) 0) (kV K (6 * (kCV K k / 6) + n) 1) (kC K k 1) ^^^ kC K k 1)))) = false) : f_near K k (n + 1) = f_near K k n := if_neg (by rw [h]; decide)
set_option maxRecDepth 100000 in
set_option maxHeartbeats 4000000 in
theorem c_nearestOpen (hR : Rep Z K J w) {k : Nat} (hk : k < nc K) : Ci l D dA B yX6_nearestOpen wX6_nearestOpen 1 [.ref (Z 0 0), .ref (Z 13 k)] w (fun v w1 => v = .int (f_near K k 6).1 ∧ w1 = w) := by
  refine x_Ct.of (cc := cX6_nearestOpen) (maxL := 7) (by decide) rfl (Nat.le_of_ble_eq_true rfl) ?_
  intro p e s m below meth c F
  have loop : ∀ n1 n, n + n1 = 6 → X p l e (rmd 1 0 0) s m #[.ref (Z 0 0), .ref (Z 13 k)] below meth c (MQ below (x_Q D dA vwCl tyL0 B (fun r w1 => ∃ v, r = some v ∧ (v = .int (f_near K k 6).1 ∧ w1 = w))) #[.ref (Z 0 0), .ref (Z 13 k)] s 0 0 (fun q => B ≤ q)) D dA vwCl B 7 0 0 7 [(0, .ref (Z 0 0)), (1, .ref (Z 13 k)), (2, .int (f_near K k n).1), (3, .int (f_near K k n).2), (4, .int (nI n))] [] w := by
    intro n1
    induction n1 with
    | zero =>
      intro n hn
      obtain rfl : n = 6 := by omega
      refine x_iload F dX6_nearestOpen_7 rfl ?_
      refine x_bipush (v := 6) F dX6_nearestOpen_9 (by decide) ?_
      refine x_icmp_ge F dX6_nearestOpen_11 rfl (fun h11 => ?_) (fun hc => absurd hc (fun q => q (Int32.le_refl _)))
      refine x_iload_n F dX6_nearestOpen_80 rfl rfl ?_
      refine x_iret F rfl rfl dX6_nearestOpen_81 (Nat.le_refl _) (Nat.le_refl _) ?_
      exact ⟨_, rfl, rfl, rfl⟩
    | succ n1 ih =>
      intro n hn
      refine x_iload F dX6_nearestOpen_7 rfl ?_
      refine x_bipush (v := 6) F dX6_nearestOpen_9 (by decide) ?_
      refine x_icmp_ge F dX6_nearestOpen_11 rfl (fun hc => absurd hc (nI_ge (b := 6) (by omega) (by omega))) (fun h11 => ?_)
      refine x_aload_n F dX6_nearestOpen_14 rfl rfl ?_
      refine x_get (ci := 1) (C := RX1) (T := TX1) (N := 8) (k := 1) F dX6_nearestOpen_15 rfl inX1 (by decide) q248 rfl (hR.cli hk) rfl ?_
      refine x_iload F dX6_nearestOpen_18 rfl ?_
      refine x_cVi1 (ci := 2) (C := RX2) (T := TX2) (N := 3) F dX6_nearestOpen_20 (x_gV q165 q166 q167 q9 q168) rfl (c_fVersionAt hR (hR.cv hk).1 (nI n)) ⟨rfl, rfl, rfl, xd_X2_versionAt, ⟨Nat.le_of_ble_eq_true rfl, Nat.le_of_ble_eq_true rfl⟩, Nat.le_of_ble_eq_true rfl, Nat.le_of_ble_eq_true rfl⟩ rfl (hR.face (hR.cv hk).1) (Nat.le_of_ble_eq_true rfl) (fun v1 w1 hp => ?_)
      obtain ⟨rfl, hw9⟩ := hp
      replace hw9 := hw9.symm
      subst hw9
      rw [f_fver_nI (by omega)]
      unfold g_ver
      by_cases hv : n < nv K (kCV K k / 6)
      · rw [if_pos hv]
        have hi : vOk K (6 * (kCV K k / 6) + n) := by unfold vOk; rw [show (6 * (kCV K k / 6) + n) / 6 = kCV K k / 6 by omega, show (6 * (kCV K k / 6) + n) % 6 = n by omega]; exact ⟨(hR.cv hk).1, hv⟩
        refine x_astore F dX6_nearestOpen_23 (by decide) ?_
        refine x_aload F dX6_nearestOpen_25 rfl ?_
        refine x_ifnull F dX6_nearestOpen_27 ?_
        refine x_aload F dX6_nearestOpen_30 rfl ?_
        refine x_get (ci := 5) (C := RX5) (T := TX5) (N := 9) (k := 5) F dX6_nearestOpen_32 rfl inX5 (by decide) q149 rfl (hR.ver hi) rfl ?_
        refine x_if_ne F dX6_nearestOpen_35 rfl (fun h35 => ?_) (fun h35 => ?_)
        · have hp := show (decide (n < nv K (kCV K k / 6)) && decide (kV K (6 * (kCV K k / 6) + n) 2 = 0) && (decide ((f_near K k n).1 = -1) || !decide ((f_near K k n).2 < f_bit (f_again (kV K (6 * (kCV K k / 6) + n) 0) (kV K (6 * (kCV K k / 6) + n) 1) (kC K k 1) ^^^ kC K k 1)))) = false by rw [decide_eq_false h35, Bool.and_false]; rfl
          refine x_iincN F dX6_nearestOpen_74 (by decide) rfl (by decide) ?_
          refine x_goto F dX6_nearestOpen_77 rfl ?_
          have h9 := ih (n + 1) (by omega)
          first
            | (rw [f_near_t hp] at h9; exact x_lk h9 ⟨rfl, rfl, rfl, rfl, rfl, trivial⟩)
            | (rw [f_near_f hp] at h9; exact x_lk h9 ⟨rfl, rfl, rfl, rfl, rfl, trivial⟩)
        · refine x_aload F dX6_nearestOpen_38 rfl ?_
          refine x_aload_n F dX6_nearestOpen_40 rfl rfl ?_
          refine x_get (ci := 1) (C := RX1) (T := TX1) (N := 8) (k := 5) F dX6_nearestOpen_41 rfl inX1 (by decide) q255 rfl (hR.cli hk) rfl ?_
          refine x_cVi1 (ci := 5) (C := RX5) (T := TX5) (N := 9) F dX6_nearestOpen_44 (x_gV q275 q276 q277 q12 q278) rfl (c_usesAgain hR hi (kC K k 1)) ⟨rfl, rfl, rfl, xd_X5_usesAgain, ⟨Nat.le_of_ble_eq_true rfl, Nat.le_of_ble_eq_true rfl⟩, Nat.le_of_ble_eq_true rfl, Nat.le_of_ble_eq_true rfl⟩ rfl (hR.ver hi) (Nat.le_of_ble_eq_true rfl) (fun v1 w1 hp => ?_)
          obtain ⟨rfl, hw9⟩ := hp
          replace hw9 := hw9.symm
          subst hw9
          refine x_aload_n F dX6_nearestOpen_47 rfl rfl ?_
          refine x_get (ci := 1) (C := RX1) (T := TX1) (N := 8) (k := 5) F dX6_nearestOpen_48 rfl inX1 (by decide) q255 rfl (hR.cli hk) rfl ?_
          refine x_ixor F dX6_nearestOpen_51 ?_
          refine x_cSi1 F dX6_nearestOpen_52 (x_gS q404 q405 q16 q406) (c_bitCount (f_again (kV K (6 * (kCV K k / 6) + n) 0) (kV K (6 * (kCV K k / 6) + n) 1) (kC K k 1) ^^^ kC K k 1)) ⟨rfl, rfl, rfl, xd_J6_bitCount_0f7a4, ⟨Nat.le_of_ble_eq_true rfl, Nat.le_of_ble_eq_true rfl⟩, Nat.le_of_ble_eq_true rfl, Nat.le_of_ble_eq_true rfl⟩ (Nat.le_of_ble_eq_true rfl) (fun v1 w1 hp => ?_)
          obtain ⟨rfl, hw9⟩ := hp
          replace hw9 := hw9.symm
          subst hw9
          refine x_istore F dX6_nearestOpen_55 (by decide) ?_
          refine x_iload_n F dX6_nearestOpen_57 rfl rfl ?_
          refine x_iconst (v := (-1)) F dX6_nearestOpen_58 (by decide) ?_
          refine x_icmp_eq F dX6_nearestOpen_59 rfl (fun h59 => ?_) (fun h59 => ?_)
          · have hp := show (decide (n < nv K (kCV K k / 6)) && decide (kV K (6 * (kCV K k / 6) + n) 2 = 0) && (decide ((f_near K k n).1 = -1) || !decide ((f_near K k n).2 < f_bit (f_again (kV K (6 * (kCV K k / 6) + n) 0) (kV K (6 * (kCV K k / 6) + n) 1) (kC K k 1) ^^^ kC K k 1)))) = true by rw [decide_eq_true hv, decide_eq_true h35, decide_eq_true h59]; rfl
            refine x_iload F dX6_nearestOpen_68 rfl ?_
            refine x_istore_n F dX6_nearestOpen_70 rfl (by decide) ?_
            refine x_iload F dX6_nearestOpen_71 rfl ?_
            refine x_istore_n F dX6_nearestOpen_73 rfl (by decide) ?_
            refine x_iincN F dX6_nearestOpen_74 (by decide) rfl (by decide) ?_
            refine x_goto F dX6_nearestOpen_77 rfl ?_
            have h9 := ih (n + 1) (by omega)
            first
              | (rw [f_near_t hp] at h9; exact x_lk h9 ⟨rfl, rfl, rfl, rfl, rfl, trivial⟩)
              | (rw [f_near_f hp] at h9; exact x_lk h9 ⟨rfl, rfl, rfl, rfl, rfl, trivial⟩)
          · refine x_iload F dX6_nearestOpen_62 rfl ?_
            refine x_iload_n F dX6_nearestOpen_64 rfl rfl ?_
            refine x_icmp_gt F dX6_nearestOpen_65 rfl (fun h65 => ?_) (fun h65 => ?_)
            · have hp := show (decide (n < nv K (kCV K k / 6)) && decide (kV K (6 * (kCV K k / 6) + n) 2 = 0) && (decide ((f_near K k n).1 = -1) || !decide ((f_near K k n).2 < f_bit (f_again (kV K (6 * (kCV K k / 6) + n) 0) (kV K (6 * (kCV K k / 6) + n) 1) (kC K k 1) ^^^ kC K k 1)))) = false by rw [decide_eq_true h65, decide_eq_false h59, Bool.not_true, Bool.or_false, Bool.and_false]
              refine x_iincN F dX6_nearestOpen_74 (by decide) rfl (by decide) ?_
              refine x_goto F dX6_nearestOpen_77 rfl ?_
              have h9 := ih (n + 1) (by omega)
              first
                | (rw [f_near_t hp] at h9; exact x_lk h9 ⟨rfl, rfl, rfl, rfl, rfl, trivial⟩)
                | (rw [f_near_f hp] at h9; exact x_lk h9 ⟨rfl, rfl, rfl, rfl, rfl, trivial⟩)
            · have hp := show (decide (n < nv K (kCV K k / 6)) && decide (kV K (6 * (kCV K k / 6) + n) 2 = 0) && (decide ((f_near K k n).1 = -1) || !decide ((f_near K k n).2 < f_bit (f_again (kV K (6 * (kCV K k / 6) + n) 0) (kV K (6 * (kCV K k / 6) + n) 1) (kC K k 1) ^^^ kC K k 1)))) = true by rw [decide_eq_true hv, decide_eq_true h35, decide_eq_false h65, Bool.not_false, Bool.or_true]; rfl
              refine x_iload F dX6_nearestOpen_68 rfl ?_
              refine x_istore_n F dX6_nearestOpen_70 rfl (by decide) ?_
              refine x_iload F dX6_nearestOpen_71 rfl ?_
              refine x_istore_n F dX6_nearestOpen_73 rfl (by decide) ?_
              refine x_iincN F dX6_nearestOpen_74 (by decide) rfl (by decide) ?_
              refine x_goto F dX6_nearestOpen_77 rfl ?_
              have h9 := ih (n + 1) (by omega)
              first
                | (rw [f_near_t hp] at h9; exact x_lk h9 ⟨rfl, rfl, rfl, rfl, rfl, trivial⟩)
                | (rw [f_near_f hp] at h9; exact x_lk h9 ⟨rfl, rfl, rfl, rfl, rfl, trivial⟩)
      · rw [if_neg hv]
        have hp := show (decide (n < nv K (kCV K k / 6)) && decide (kV K (6 * (kCV K k / 6) + n) 2 = 0) && (decide ((f_near K k n).1 = -1) || !decide ((f_near K k n).2 < f_bit (f_again (kV K (6 * (kCV K k / 6) + n) 0) (kV K (6 * (kCV K k / 6) + n) 1) (kC K k 1) ^^^ kC K k 1)))) = false by rw [decide_eq_false hv]; rfl
        refine x_astoreN F dX6_nearestOpen_23 (by decide) ?_
        refine x_aloadN F dX6_nearestOpen_25 rfl ?_
        refine x_ifnullN F dX6_nearestOpen_27 rfl ?_
        refine x_iincN F dX6_nearestOpen_74 (by decide) rfl (by decide) ?_
        refine x_goto F dX6_nearestOpen_77 rfl ?_
        have h9 := ih (n + 1) (by omega)
        first
          | (rw [f_near_t hp] at h9; exact x_lk h9 ⟨rfl, rfl, rfl, rfl, rfl, trivial⟩)
          | (rw [f_near_f hp] at h9; exact x_lk h9 ⟨rfl, rfl, rfl, rfl, rfl, trivial⟩)
  refine x_iconst (v := (-1)) F dX6_nearestOpen_0 (by decide) ?_
  refine x_istore_n F dX6_nearestOpen_1 rfl (by decide) ?_
  refine x_iconst (v := 0) F dX6_nearestOpen_2 (by decide) ?_
  refine x_istore_n F dX6_nearestOpen_3 rfl (by decide) ?_
  refine x_iconst (v := 0) F dX6_nearestOpen_4 (by decide) ?_
  refine x_istore F dX6_nearestOpen_5 (by decide) ?_
  exact x_lk (loop 6 0 (by omega)) ⟨rfl, rfl, rfl, rfl, rfl, trivial⟩
end ROU
end
section
/-! ===== routes ===== -/
section RTE
variable {l : Launch} {D : va_G} {dA : Nat → ClassId} {B : Nat} {Z : Nat → Nat → Nat} {K : kT} {J : jT} {w : xW}
def jStep (J : jT) (t : Nat) (v : Int32) : jT := (upd J.1 t v, J.2)
def jInt (J : jT) (t : Nat) (v : Int32) : jT := (J.1, upd J.2.1 t v, J.2.2)
def jShut (J : jT) (o : Option Nat) : jT := (J.1, J.2.1, o, J.2.2.2)
/-- the cell of one kind changes, and nothing that the state holds -/
theorem Rep.putJ (h : Rep Z K J w) {J1 : jT} {kind : Nat} (hk : kind < 8) (ho : ∀ k2 i2, ¬ k2 = kind → obj Z K J1 k2 i2 = obj Z K J k2 i2) {x : xE} (hx : x = obj Z K J1 kind 0) : Rep Z K J1 (x_set w (Z kind 0) x) := by
  have hl : live K kind 0 := by
    rcases kind with _ | _ | _ | _ | _ | _ | _ | _ | _ <;> first | rfl | omega
  have hl2 : ∀ i2, live K kind i2 → i2 = 0 := by
    intro i2
    rcases kind with _ | _ | _ | _ | _ | _ | _ | _ | _ <;> first | exact id | omega
  refine h.put hl rfl rfl rfl rfl (fun k2 i2 g1 g2 => ?_) hx
  by_cases e : k2 = kind
  · subst e
    exact absurd ⟨rfl, hl2 i2 g1⟩ g2
  · exact ho k2 i2 e
theorem Rep.jStep (h : Rep Z K J w) (t : Nat) (v : Int32) : Rep Z K (jStep J t v) (x_set w (Z 5 0) (aI 3 (upd J.1 t v))) := by
  refine h.putJ (kind := 5) (by decide) (fun k2 i2 hne => ?_) rfl
  rcases k2 with _ | _ | _ | _ | _ | _ | _ | _ | _ | _ | _ | _ | _ | _ | _ | _ | k2 <;> first | rfl | exact absurd rfl hne
theorem Rep.jInt (h : Rep Z K J w) (t : Nat) (v : Int32) {x : xE} (hx : x = obj Z K (jInt J t v) 4 0) : Rep Z K (jInt J t v) (x_set w (Z 4 0) x) := by
  refine h.putJ (kind := 4) (by decide) (fun k2 i2 hne => ?_) hx
  rcases k2 with _ | _ | _ | _ | _ | _ | _ | _ | _ | _ | _ | _ | _ | _ | _ | _ | k2 <;> first | rfl | exact absurd rfl hne
theorem Rep.jShut (h : Rep Z K J w) (o : Option Nat) {x : xE} (hx : x = obj Z K (jShut J o) 4 0) : Rep Z K (jShut J o) (x_set w (Z 4 0) x) := by
  refine h.putJ (kind := 4) (by decide) (fun k2 i2 hne => ?_) hx
  rcases k2 with _ | _ | _ | _ | _ | _ | _ | _ | _ | _ | _ | _ | _ | _ | _ | _ | k2 <;> first | rfl | exact absurd rfl hne
def f_leaf (K : kT) (sh : Option Nat) (vi : Nat) (u : Int32) : Bool := decide (kV K vi 2 = 0) && ((!decide (sh = some vi)) && f_fits u (kV K vi 0) (kV K vi 1))
def f_from (g : Nat → Option (List Nat × Nat × Int32)) (n k : Nat) : Option (List Nat × Nat × Int32) := match n with
  | 0 => none
  | n + 1 => match g k with
    | some r => some r
    | none => f_from g n (k + 1)
def f_rt (K : kT) (sh : Option Nat) (n : Nat) (vi : Nat) (u : Int32) : Option (List Nat × Nat × Int32) := match n with
  | 0 => if f_leaf K sh vi u then some ([], vi, u) else none
  | n + 1 => f_from (fun k => if decide (k < na K) && decide (kAF K k = vi) then (f_rt K sh n (kAT K k) (f_makes (kA K k 0) (kA K k 1) u)).map (fun r => (k :: r.1, r.2)) else none) 10 0
def f_via (K : kT) (sh : Option Nat) (n vi : Nat) (u : Int32) (k : Nat) : Option (List Nat × Nat × Int32) := if decide (k < na K) && decide (kAF K k = vi) then (f_rt K sh n (kAT K k) (f_makes (kA K k 0) (kA K k 1) u)).map (fun r => (k :: r.1, r.2)) else none
theorem f_rt_succ (K : kT) (sh : Option Nat) (n vi : Nat) (u : Int32) : f_rt K sh (n + 1) vi u = f_from (f_via K sh n vi u) 10 0 := rfl
theorem f_from_none {g : Nat → Option (List Nat × Nat × Int32)} {n k : Nat} (h : g k = none) : f_from g (n + 1) k = f_from g n (k + 1) := by simp [f_from, h]
theorem f_from_some {g : Nat → Option (List Nat × Nat × Int32)} {n k : Nat} {r : List Nat × Nat × Int32} (h : g k = some r) : f_from g (n + 1) k = some r := by simp [f_from, h]
/-- what a search leaves behind -/
def PR (Z : Nat → Nat → Nat) (K : kT) (J : jT) (w : xW) (q : Option (List Nat × Nat × Int32)) (n pl : Nat) : Value → xW → Prop := fun v w1 => ∃ J1, v = .int (x_b q.isSome) ∧ Rep Z K J1 w1 ∧ Oth Z K w w1 ∧ J1.2.1 0 = J.2.1 0 ∧ J1.2.2.1 = J.2.2.1 ∧ (∀ t, t < pl → J1.1 t = J.1 t) ∧ ∀ r, q = some r → (∀ t, t < r.1.length → J1.1 (pl + t) = nI (r.1.getD t 0)) ∧ r.1.length = n ∧ J1.2.1 1 = nI (r.2.1 % 6) ∧ J1.2.1 2 = r.2.2
theorem sh_eq (hR : Rep Z K J w) {sh : Option Nat} (hsh : ∀ x, sh = some x → vOk K x) {vi : Nat} (hv : vOk K vi) : some (Z 10 vi) = sh.map (Z 10) ↔ sh = some vi := by
  cases sh with
  | none => simp
  | some x =>
    simp only [Option.map_some, Option.some.injEq]
    rw [hR.veq hv (hsh x rfl)]
    exact eq_comm
theorem upd_ne0 {f : Nat → Int32} {j k : Nat} {x : Int32} (h : ¬ j = k) : upd f k x j = f j := if_neg h
theorem upd_eq0 {f : Nat → Int32} {k : Nat} {x : Int32} : upd f k x k = x := if_pos rfl
set_option maxRecDepth 100000 in
set_option maxHeartbeats 4000000 in
theorem c_completes0 {J : jT} {w : xW} (hR : Rep Z K J w) {vi : Nat} (hv : vOk K vi) (u : Int32) {len pl : Nat} (hl : len ≤ 3) (hpl : pl + 0 = len) (hL : J.2.1 0 = nI len) {sh : Option Nat} (hsh : ∀ x, sh = some x → vOk K x) (hS : J.2.2.1 = sh.map (Z 10)) : Ci l D dA B yX6_completes wX6_completes 1 [.ref (Z 4 0), .ref (Z 3 0), .ref (Z 10 vi), .int u, .int (nI pl)] w (PR Z K J w (f_rt K sh 0 vi u) 0 pl) := by
  refine x_Ct.of (cc := cX6_completes) (maxL := 7) (by decide) rfl (Nat.le_of_ble_eq_true rfl) ?_
  intro p e s m below meth c F
  refine x_iload F dX6_completes_0 rfl ?_
  refine x_if_lt F dX6_completes_2 rfl (fun hc => absurd hc (nI_pos (by omega))) (fun h2 => ?_)
  refine x_iload F dX6_completes_5 rfl ?_
  refine x_iconst (v := 3) F dX6_completes_7 (by decide) ?_
  refine x_icmp_le F dX6_completes_8 rfl (fun h8 => ?_) (fun hc => absurd hc (fun q => q (nI_le (b := 3) (by omega) (by decide))))
  refine x_iload F dX6_completes_13 rfl ?_
  refine x_aload_n F dX6_completes_15 rfl rfl ?_
  refine x_get (ci := 4) (C := RX4) (T := TX4) (N := 5) (k := 1) F dX6_completes_16 rfl inX4 (by decide) q35 rfl hR.route rfl ?_
  rw [hL]
  refine x_icmp_ge F dX6_completes_19 rfl (fun h19 => ?_) (fun hc => absurd hc (fun q => q (nI_le (by omega) (by omega))))
  refine x_aload_n F dX6_completes_32 rfl rfl ?_
  refine x_aload_n F dX6_completes_33 rfl rfl ?_
  refine x_get (ci := 5) (C := RX5) (T := TX5) (N := 9) (k := 1) F dX6_completes_34 rfl inX5 (by decide) q141 rfl (hR.ver hv) rfl ?_
  refine x_put (ci := 4) (C := RX4) (T := TX4) (N := 5) (k := 2) F dX6_completes_37 rfl inX4 tyX4 tyX4_ok nmX4 (by decide) q36 rfl rfl hR.route (Nat.le_of_ble_eq_true rfl) rfl rfl ?_
  refine x_wd (fun w1 hw1 => ?_)
  have hR0 := hR
  have hO : Oth Z K w w1 := by rw [hw1]; exact Oth.set (kind := 4) (idx := 0) rfl _
  have hR : Rep Z K (jInt J 1 (nI (vi % 6))) w1 := by rw [hw1]; exact hR.jInt 1 (nI (vi % 6)) rfl
  refine x_aload_n F dX6_completes_40 rfl rfl ?_
  refine x_iload_n F dX6_completes_41 rfl rfl ?_
  refine x_put (ci := 4) (C := RX4) (T := TX4) (N := 5) (k := 3) F dX6_completes_42 rfl inX4 tyX4 tyX4_ok nmX4 (by decide) q37 rfl rfl hR.route (Nat.le_of_ble_eq_true rfl) rfl rfl ?_
  refine x_wd (fun w2 hw2 => ?_)
  have hO : Oth Z K w w2 := hO.trans (by rw [hw2]; exact Oth.set (kind := 4) (idx := 0) rfl _) rfl
  have hR : Rep Z K (jInt (jInt J 1 (nI (vi % 6))) 2 u) w2 := by rw [hw2]; exact hR.jInt 2 u rfl
  refine x_aload_n F dX6_completes_45 rfl rfl ?_
  refine x_get (ci := 5) (C := RX5) (T := TX5) (N := 9) (k := 5) F dX6_completes_46 rfl inX5 (by decide) q149 rfl (hR.ver hv) rfl ?_
  refine x_if_ne F dX6_completes_49 rfl (fun h49 => ?_) (fun h49 => ?_)
  · have hp : f_leaf K sh vi u = false := by unfold f_leaf; rw [decide_eq_false h49]; rfl
    refine x_iconst (v := 0) F dX6_completes_79 (by decide) ?_
    refine x_iret F rfl rfl dX6_completes_80 (Nat.le_refl _) (Nat.le_refl _) ?_
    first
      | exact ⟨_, rfl, _, by rw [show f_rt K sh 0 vi u = some ([], vi, u) from if_pos hp]; rfl, hR, hO, rfl, rfl, fun t ht => rfl, fun r hr => by rw [show f_rt K sh 0 vi u = some ([], vi, u) from if_pos hp] at hr; cases hr; exact ⟨fun t ht => absurd ht (Nat.not_lt_zero t), rfl, rfl, rfl⟩⟩
      | exact ⟨_, rfl, _, by rw [show f_rt K sh 0 vi u = none from if_neg (by rw [hp]; decide)]; rfl, hR, hO, rfl, rfl, fun t ht => rfl, fun r hr => by rw [show f_rt K sh 0 vi u = none from if_neg (by rw [hp]; decide)] at hr; cases hr⟩
  · refine x_aload_n F dX6_completes_52 rfl rfl ?_
    refine x_aload_n F dX6_completes_53 rfl rfl ?_
    refine x_get (ci := 4) (C := RX4) (T := TX4) (N := 5) (k := 4) F dX6_completes_54 rfl inX4 (by decide) q38 rfl hR.route rfl ?_
    rw [show (jInt (jInt J 1 (nI (vi % 6))) 2 u).2.2.1 = sh.map (Z 10) from hS]
    refine x_acmp_eqQR F dX6_completes_57 rfl (fun h57 => ?_) (fun h57 => ?_)
    · rw [sh_eq hR hsh hv] at h57
      have hp : f_leaf K sh vi u = false := by unfold f_leaf; rw [decide_eq_true h57, Bool.not_true, Bool.false_and, Bool.and_false]
      refine x_iconst (v := 0) F dX6_completes_79 (by decide) ?_
      refine x_iret F rfl rfl dX6_completes_80 (Nat.le_refl _) (Nat.le_refl _) ?_
      first
        | exact ⟨_, rfl, _, by rw [show f_rt K sh 0 vi u = some ([], vi, u) from if_pos hp]; rfl, hR, hO, rfl, rfl, fun t ht => rfl, fun r hr => by rw [show f_rt K sh 0 vi u = some ([], vi, u) from if_pos hp] at hr; cases hr; exact ⟨fun t ht => absurd ht (Nat.not_lt_zero t), rfl, rfl, rfl⟩⟩
        | exact ⟨_, rfl, _, by rw [show f_rt K sh 0 vi u = none from if_neg (by rw [hp]; decide)]; rfl, hR, hO, rfl, rfl, fun t ht => rfl, fun r hr => by rw [show f_rt K sh 0 vi u = none from if_neg (by rw [hp]; decide)] at hr; cases hr⟩
    · rw [sh_eq hR hsh hv] at h57
      refine x_iload_n F dX6_completes_60 rfl rfl ?_
      refine x_aload_n F dX6_completes_61 rfl rfl ?_
      refine x_get (ci := 5) (C := RX5) (T := TX5) (N := 9) (k := 2) F dX6_completes_62 rfl inX5 (by decide) q143 rfl (hR.ver hv) rfl ?_
      refine x_aload_n F dX6_completes_65 rfl rfl ?_
      refine x_get (ci := 5) (C := RX5) (T := TX5) (N := 9) (k := 3) F dX6_completes_66 rfl inX5 (by decide) q145 rfl (hR.ver hv) rfl ?_
      refine x_cSi3 F dX6_completes_69 (x_gS q218 q219 q1 q220) (c_fits u (kV K vi 0) (kV K vi 1)) ⟨rfl, rfl, rfl, xd_X6_fits, ⟨Nat.le_of_ble_eq_true rfl, Nat.le_of_ble_eq_true rfl⟩, Nat.le_of_ble_eq_true rfl, Nat.le_of_ble_eq_true rfl⟩ (Nat.le_of_ble_eq_true rfl) (fun v1 w1 hp => ?_)
      obtain ⟨rfl, hw9⟩ := hp
      replace hw9 := hw9.symm
      subst hw9
      refine x_if_eq F dX6_completes_72 rfl (fun h72 => ?_) (fun h72 => ?_)
      · have hp : f_leaf K sh vi u = false := by unfold f_leaf; rw [x_b_eq.mp h72, Bool.and_false, Bool.and_false]
        refine x_iconst (v := 0) F dX6_completes_79 (by decide) ?_
        refine x_iret F rfl rfl dX6_completes_80 (Nat.le_refl _) (Nat.le_refl _) ?_
        first
          | exact ⟨_, rfl, _, by rw [show f_rt K sh 0 vi u = some ([], vi, u) from if_pos hp]; rfl, hR, hO, rfl, rfl, fun t ht => rfl, fun r hr => by rw [show f_rt K sh 0 vi u = some ([], vi, u) from if_pos hp] at hr; cases hr; exact ⟨fun t ht => absurd ht (Nat.not_lt_zero t), rfl, rfl, rfl⟩⟩
          | exact ⟨_, rfl, _, by rw [show f_rt K sh 0 vi u = none from if_neg (by rw [hp]; decide)]; rfl, hR, hO, rfl, rfl, fun t ht => rfl, fun r hr => by rw [show f_rt K sh 0 vi u = none from if_neg (by rw [hp]; decide)] at hr; cases hr⟩
      · have hp : f_leaf K sh vi u = true := by unfold f_leaf; rw [decide_eq_true h49, decide_eq_false h57, x_b_ne.mp h72]; rfl
        refine x_iconst (v := 1) F dX6_completes_75 (by decide) ?_
        refine x_goto F dX6_completes_76 rfl ?_
        refine x_iret F rfl rfl dX6_completes_80 (Nat.le_refl _) (Nat.le_refl _) ?_
        first
          | exact ⟨_, rfl, _, by rw [show f_rt K sh 0 vi u = some ([], vi, u) from if_pos hp]; rfl, hR, hO, rfl, rfl, fun t ht => rfl, fun r hr => by rw [show f_rt K sh 0 vi u = some ([], vi, u) from if_pos hp] at hr; cases hr; exact ⟨fun t ht => absurd ht (Nat.not_lt_zero t), rfl, rfl, rfl⟩⟩
          | exact ⟨_, rfl, _, by rw [show f_rt K sh 0 vi u = none from if_neg (by rw [hp]; decide)]; rfl, hR, hO, rfl, rfl, fun t ht => rfl, fun r hr => by rw [show f_rt K sh 0 vi u = none from if_neg (by rw [hp]; decide)] at hr; cases hr⟩
set_option maxRecDepth 100000 in
set_option maxHeartbeats 4000000 in
theorem c_completesS {n : Nat} (IH : ∀ {J : jT} {w : xW}, Rep Z K J w → ∀ {vi : Nat}, vOk K vi → ∀ (u : Int32) {len pl : Nat}, len ≤ 3 → pl + n = len → J.2.1 0 = nI len → ∀ {sh : Option Nat}, (∀ x, sh = some x → vOk K x) → J.2.2.1 = sh.map (Z 10) → Ci l D dA B yX6_completes wX6_completes (n + 1) [.ref (Z 4 0), .ref (Z 3 0), .ref (Z 10 vi), .int u, .int (nI pl)] w (PR Z K J w (f_rt K sh n vi u) n pl)) {J : jT} {w : xW} (hR : Rep Z K J w) {vi : Nat} (hv : vOk K vi) (u : Int32) {len pl : Nat} (hl : len ≤ 3) (hpl : pl + (n + 1) = len) (hL : J.2.1 0 = nI len) {sh : Option Nat} (hsh : ∀ x, sh = some x → vOk K x) (hS : J.2.2.1 = sh.map (Z 10)) : Ci l D dA B yX6_completes wX6_completes (n + 1 + 1) [.ref (Z 4 0), .ref (Z 3 0), .ref (Z 10 vi), .int u, .int (nI pl)] w (PR Z K J w (f_rt K sh (n + 1) vi u) (n + 1) pl) := by
  refine x_Ct.of (cc := cX6_completes) (maxL := 7) (by decide) rfl (Nat.le_of_ble_eq_true rfl) ?_
  intro p e s m below meth c F
  have loop : ∀ n1 k, k + n1 = 10 → ∀ Jz wz, Rep Z K Jz wz → Oth Z K w wz → Jz.2.1 0 = J.2.1 0 → Jz.2.2.1 = J.2.2.1 → (∀ t, t < pl → Jz.1 t = J.1 t) → f_rt K sh (n + 1) vi u = f_from (f_via K sh n vi u) n1 k → X p l e (rmd (n + 1 + 1) 0 0) s m #[.ref (Z 4 0), .ref (Z 3 0), .ref (Z 10 vi), .int u, .int (nI pl)] below meth c (MQ below (x_Q D dA vwCl tyL0 B (fun r w1 => ∃ v, r = some v ∧ (PR Z K J w (f_rt K sh (n + 1) vi u) (n + 1) pl v w1))) #[.ref (Z 4 0), .ref (Z 3 0), .ref (Z 10 vi), .int u, .int (nI pl)] s 0 0 (fun q => B ≤ q)) D dA vwCl B 7 0 0 84 [(0, .ref (Z 4 0)), (1, .ref (Z 3 0)), (2, .ref (Z 10 vi)), (3, .int u), (4, .int (nI pl)), (5, .int (nI k))] [] wz := by
    intro n1
    induction n1 with
    | zero =>
      intro k hk Jz wz hR hO hLz hSz hstz hf
      obtain rfl : k = 10 := by omega
      refine x_iload F dX6_completes_84 rfl ?_
      refine x_aload_n F dX6_completes_86 rfl rfl ?_
      refine x_alen (v := 10) F dX6_completes_87 rfl hR.adapters rfl ?_
      refine x_icmp_ge F dX6_completes_88 rfl (fun h88 => ?_) (fun hc => absurd hc (fun q => q (Int32.le_refl _)))
      refine x_iconst (v := 0) F dX6_completes_151 (by decide) ?_
      refine x_iret F rfl rfl dX6_completes_152 (Nat.le_refl _) (Nat.le_refl _) ?_
      exact ⟨_, rfl, _, by rw [hf]; rfl, hR, hO, hLz, hSz, hstz, fun r hr => by rw [hf] at hr; cases hr⟩
    | succ n1 ih =>
      intro k hk Jz wz hR hO hLz hSz hstz hf
      refine x_iload F dX6_completes_84 rfl ?_
      refine x_aload_n F dX6_completes_86 rfl rfl ?_
      refine x_alen (v := 10) F dX6_completes_87 rfl hR.adapters rfl ?_
      refine x_icmp_ge F dX6_completes_88 rfl (fun hc => absurd hc (nI_ge (b := 10) (by omega) (by decide))) (fun h88 => ?_)
      refine x_aload_n F dX6_completes_91 rfl rfl ?_
      refine x_iload F dX6_completes_92 rfl ?_
      refine x_aaldN F dX6_completes_94 rfl hR.adapters (by omega) (by decide) ?_
      by_cases hk2 : k < na K
      · simp only [if_pos hk2]
        refine x_astore F dX6_completes_95 (by decide) ?_
        refine x_aload F dX6_completes_97 rfl ?_
        refine x_ifnull F dX6_completes_99 ?_
        refine x_aload F dX6_completes_102 rfl ?_
        refine x_get (ci := 0) (C := RX0) (T := TX0) (N := 4) (k := 0) F dX6_completes_104 rfl inX0 (by decide) q289 rfl (hR.ada hk2) rfl ?_
        refine x_aload_n F dX6_completes_107 rfl rfl ?_
        refine x_acmp_neR F dX6_completes_108 rfl (fun h108 => ?_) (fun h108 => ?_)
        · rw [hR.veq (hR.af hk2) hv] at h108
          have hg : f_via K sh n vi u k = none := by unfold f_via; rw [decide_eq_false h108, Bool.and_false]; rfl
          refine x_iincN F dX6_completes_145 (by decide) rfl (by decide) ?_
          refine x_goto F dX6_completes_148 rfl ?_
          rw [f_from_none hg] at hf
          exact x_lk (ih (k + 1) (by omega) _ _ hR hO (hLz) (hSz) (hstz) hf) ⟨rfl, rfl, rfl, rfl, rfl, rfl, trivial⟩
        · rw [hR.veq (hR.af hk2) hv] at h108
          refine x_aload_n F dX6_completes_111 rfl rfl ?_
          refine x_get (ci := 4) (C := RX4) (T := TX4) (N := 5) (k := 0) F dX6_completes_112 rfl inX4 (by decide) q34 rfl hR.route rfl ?_
          refine x_iload F dX6_completes_115 rfl ?_
          refine x_iload F dX6_completes_117 rfl ?_
          refine x_iastN F dX6_completes_119 rfl hR.steps (by omega) (by decide) ?_
          refine x_wd (fun w3 hw3 => ?_)
          have hO : Oth Z K w w3 := hO.trans (by rw [hw3]; exact Oth.set (kind := 5) (idx := 0) rfl _) rfl
          have hR : Rep Z K (jStep Jz pl (nI k)) w3 := by rw [hw3]; exact hR.jStep pl (nI k)
          have hstz : ∀ t, t < pl → (jStep Jz pl (nI k)).1 t = J.1 t := fun t ht => (upd_ne0 (by omega)).trans (hstz t ht)
          have hpl0 : (jStep Jz pl (nI k)).1 pl = nI k := upd_eq0
          refine x_aload_n F dX6_completes_120 rfl rfl ?_
          refine x_aload_n F dX6_completes_121 rfl rfl ?_
          refine x_aload F dX6_completes_122 rfl ?_
          refine x_get (ci := 0) (C := RX0) (T := TX0) (N := 4) (k := 1) F dX6_completes_124 rfl inX0 (by decide) q291 rfl (hR.ada hk2) rfl ?_
          refine x_aload F dX6_completes_127 rfl ?_
          refine x_iload_n F dX6_completes_129 rfl rfl ?_
          refine x_cVi1 (ci := 0) (C := RX0) (T := TX0) (N := 4) F dX6_completes_130 (x_gV q221 q222 q223 q14 q224) rfl (c_makesOf hR hk2 u) ⟨rfl, rfl, rfl, xd_X0_makesOf, ⟨by show 0 + 1 ≤ n + 1 + 1; omega, by show 8 + (2 + 11) + 64 * 0 ≤ 64 * (n + 1 + 1); omega⟩, Nat.le_refl _, Nat.le_refl _⟩ rfl (hR.ada hk2) (Nat.le_of_ble_eq_true rfl) (fun v1 w1 hp => ?_)
          obtain ⟨rfl, hw9⟩ := hp
          replace hw9 := hw9.symm
          subst hw9
          refine x_iload F dX6_completes_133 rfl ?_
          refine x_iconst (v := 1) F dX6_completes_135 (by decide) ?_
          refine x_iadd F dX6_completes_136 ?_
          rw [nI_1]
          refine x_cSi5 F dX6_completes_137 (x_gS q215 q216 q1 q217) (IH hR (hR.at hk2) (f_makes (kA K k 0) (kA K k 1) u) hl (show pl + 1 + n = len by omega) (hLz.trans hL) hsh (hSz.trans hS)) ⟨rfl, rfl, rfl, xd_X6_completes, ⟨Nat.le_refl _, by show 8 + (7 + 11) + 64 * (n + 1) ≤ 64 * (n + 1 + 1); omega⟩, Nat.le_refl _, Nat.le_refl _⟩ (Nat.le_of_ble_eq_true rfl) (fun v1 w1 hp => ?_)
          obtain ⟨J2, rfl, hR, hO2, hL2, hS2, hst2, hr2⟩ := hp
          have hO := hO.trans hO2 rfl
          refine x_if_eq F dX6_completes_140 rfl (fun h140 => ?_) (fun h140 => ?_)
          · have hnn : f_rt K sh n (kAT K k) (f_makes (kA K k 0) (kA K k 1) u) = none := Option.not_isSome_iff_eq_none.mp (by rw [x_b_eq.mp h140]; decide)
            have hg : f_via K sh n vi u k = none := by unfold f_via; rw [decide_eq_true h108, decide_eq_true hk2, if_pos (by rfl), hnn]; rfl
            have hLz := hL2.trans hLz
            have hSz := hS2.trans hSz
            have hstz : ∀ t, t < pl → J2.1 t = J.1 t := fun t ht => (hst2 t (by omega)).trans (hstz t ht)
            refine x_iincN F dX6_completes_145 (by decide) rfl (by decide) ?_
            refine x_goto F dX6_completes_148 rfl ?_
            rw [f_from_none hg] at hf
            exact x_lk (ih (k + 1) (by omega) _ _ hR hO (hLz) (hSz) (hstz) hf) ⟨rfl, rfl, rfl, rfl, rfl, rfl, trivial⟩
          · obtain ⟨r0, hr0⟩ := Option.isSome_iff_exists.mp (x_b_ne.mp h140)
            have hg : f_via K sh n vi u k = some (k :: r0.1, r0.2) := by unfold f_via; rw [decide_eq_true h108, decide_eq_true hk2, if_pos (by rfl), hr0]; rfl
            rw [f_from_some hg] at hf
            refine x_iconst (v := 1) F dX6_completes_143 (by decide) ?_
            refine x_iret F rfl rfl dX6_completes_144 (Nat.le_refl _) (Nat.le_refl _) ?_
            refine ⟨_, rfl, J2, by rw [hf]; rfl, hR, hO, hL2.trans hLz, hS2.trans hSz, fun t ht => (hst2 t (by omega)).trans (hstz t ht), fun r hr => ?_⟩
            rw [hf] at hr
            cases hr
            obtain ⟨g1, g2, g3, g4⟩ := hr2 r0 hr0
            refine ⟨fun t ht => ?_, by show r0.1.length + 1 = n + 1; rw [g2], g3, g4⟩
            cases t with
            | zero => exact (hst2 pl (by omega)).trans hpl0
            | succ t => exact (congrArg J2.1 (show pl + (t + 1) = pl + 1 + t by omega)).trans (g1 t (by have := ht; simp at this; omega))
      · simp only [if_neg hk2]
        have hg : f_via K sh n vi u k = none := by unfold f_via; rw [decide_eq_false hk2]; rfl
        refine x_astoreN F dX6_completes_95 (by decide) ?_
        refine x_aloadN F dX6_completes_97 rfl ?_
        refine x_ifnullN F dX6_completes_99 rfl ?_
        refine x_iincN F dX6_completes_145 (by decide) rfl (by decide) ?_
        refine x_goto F dX6_completes_148 rfl ?_
        rw [f_from_none hg] at hf
        exact x_lk (ih (k + 1) (by omega) _ _ hR hO (hLz) (hSz) (hstz) hf) ⟨rfl, rfl, rfl, rfl, rfl, rfl, trivial⟩
  refine x_iload F dX6_completes_0 rfl ?_
  refine x_if_lt F dX6_completes_2 rfl (fun hc => absurd hc (nI_pos (by omega))) (fun h2 => ?_)
  refine x_iload F dX6_completes_5 rfl ?_
  refine x_iconst (v := 3) F dX6_completes_7 (by decide) ?_
  refine x_icmp_le F dX6_completes_8 rfl (fun h8 => ?_) (fun hc => absurd hc (fun q => q (nI_le (b := 3) (by omega) (by decide))))
  refine x_iload F dX6_completes_13 rfl ?_
  refine x_aload_n F dX6_completes_15 rfl rfl ?_
  refine x_get (ci := 4) (C := RX4) (T := TX4) (N := 5) (k := 1) F dX6_completes_16 rfl inX4 (by decide) q35 rfl hR.route rfl ?_
  rw [hL]
  refine x_icmp_ge F dX6_completes_19 rfl (fun hc => absurd hc (nI_ge (by omega) (by omega))) (fun h19 => ?_)
  refine x_iload F dX6_completes_22 rfl ?_
  refine x_aload_n F dX6_completes_24 rfl rfl ?_
  refine x_get (ci := 4) (C := RX4) (T := TX4) (N := 5) (k := 0) F dX6_completes_25 rfl inX4 (by decide) q34 rfl hR.route rfl ?_
  refine x_alen (v := 3) F dX6_completes_28 rfl hR.steps rfl ?_
  refine x_icmp_lt F dX6_completes_29 rfl (fun h29 => ?_) (fun hc => absurd hc (fun q => q (nI_lt (b := 3) (by omega) (by decide))))
  refine x_iconst (v := 0) F dX6_completes_81 (by decide) ?_
  refine x_istore F dX6_completes_82 (by decide) ?_
  exact x_lk (loop 10 0 (by omega) J w hR Oth.rfl rfl rfl (fun _ _ => rfl) (f_rt_succ K sh n vi u)) ⟨rfl, rfl, rfl, rfl, rfl, rfl, trivial⟩
theorem c_completes : ∀ (n : Nat) {J : jT} {w : xW}, Rep Z K J w → ∀ {vi : Nat}, vOk K vi → ∀ (u : Int32) {len pl : Nat}, len ≤ 3 → pl + n = len → J.2.1 0 = nI len → ∀ {sh : Option Nat}, (∀ x, sh = some x → vOk K x) → J.2.2.1 = sh.map (Z 10) → Ci l D dA B yX6_completes wX6_completes (n + 1) [.ref (Z 4 0), .ref (Z 3 0), .ref (Z 10 vi), .int u, .int (nI pl)] w (PR Z K J w (f_rt K sh n vi u) n pl) := by
  intro n
  induction n with
  | zero => exact fun hR _ hv u _ _ hl hpl hL _ hsh hS => c_completes0 hR hv u hl hpl hL hsh hS
  | succ n ih => exact fun hR _ hv u _ _ hl hpl hL _ hsh hS => c_completesS ih hR hv u hl hpl hL hsh hS
end RTE
end
section
/-! ===== what a call would come to; who hinders; hours ===== -/
section OUT
variable {l : Launch} {D : va_G} {dA : Nat → ClassId} {B : Nat} {Z : Nat → Nat → Nat} {K : kT} {J : jT} {w : xW}
def f_best (K : kT) (k vi : Nat) (sh : Option Nat) : Option (List Nat × Nat × Int32) := match f_rt K sh 1 vi (kC K k 1) with
  | some r => some r
  | none => match f_rt K sh 2 vi (kC K k 1) with
    | some r => some r
    | none => f_rt K sh 3 vi (kC K k 1)
theorem f_best1 {K : kT} {k vi : Nat} {sh : Option Nat} {r : List Nat × Nat × Int32} (h : f_rt K sh 1 vi (kC K k 1) = some r) : f_best K k vi sh = some r := by simp [f_best, h]
theorem f_best2 {K : kT} {k vi : Nat} {sh : Option Nat} (h : f_rt K sh 1 vi (kC K k 1) = none) {r : List Nat × Nat × Int32} (h2 : f_rt K sh 2 vi (kC K k 1) = some r) : f_best K k vi sh = some r := by simp [f_best, h, h2]
theorem f_best3 {K : kT} {k vi : Nat} {sh : Option Nat} (h : f_rt K sh 1 vi (kC K k 1) = none) (h2 : f_rt K sh 2 vi (kC K k 1) = none) : f_best K k vi sh = f_rt K sh 3 vi (kC K k 1) := by simp [f_best, h, h2]
/-- what findRoute leaves -/
def FR (Z : Nat → Nat → Nat) (K : kT) (w : xW) (q : Option (List Nat × Nat × Int32)) : Value → xW → Prop := fun v w1 => ∃ J1, v = .int (x_b q.isSome) ∧ Rep Z K J1 w1 ∧ Oth Z K w w1 ∧ (∀ r, q = some r → J1.2.1 0 = nI r.1.length ∧ (∀ t, t < r.1.length → J1.1 t = nI (r.1.getD t 0)) ∧ J1.2.1 1 = nI (r.2.1 % 6) ∧ J1.2.1 2 = r.2.2 ∧ r.1.length ≤ 3) ∧ (q = none → J1.2.1 0 = 0)
/-- an answer, and a state that shows the same -/
def QP (Z : Nat → Nat → Nat) (K : kT) (w : xW) (x : Int32) : Value → xW → Prop := fun v w1 => ∃ J1, v = .int x ∧ Rep Z K J1 w1 ∧ Oth Z K w w1
theorem FR_of {J1 : jT} {w1 : xW} {q : Option (List Nat × Nat × Int32)} {n : Nat} {r : List Nat × Nat × Int32} (hn : n ≤ 3) (hq : q = some r) (hR : Rep Z K J1 w1) (hO : Oth Z K w w1) (hL : J1.2.1 0 = nI n) (h : (∀ t, t < r.1.length → J1.1 (0 + t) = nI (r.1.getD t 0)) ∧ r.1.length = n ∧ J1.2.1 1 = nI (r.2.1 % 6) ∧ J1.2.1 2 = r.2.2) : FR Z K w q (.int 1) w1 := by
  subst hq
  obtain ⟨g1, rfl, g3, g4⟩ := h
  exact ⟨J1, rfl, hR, hO, fun r2 e => by cases e; exact ⟨hL, fun t ht => by have := g1 t ht; rwa [Nat.zero_add] at this, g3, g4, hn⟩, fun e => by cases e⟩
set_option maxRecDepth 100000 in
set_option maxHeartbeats 4000000 in
theorem c_findRouteN (hR : Rep Z K J w) {k vi : Nat} (hk : k < nc K) (hv : vOk K vi) : Ci l D dA B yX6_findRoute wX6_findRoute 5 [.ref (Z 0 0), .ref (Z 13 k), .ref (Z 10 vi), .null] w (FR Z K w (f_best K k vi (none : Option Nat))) := by
  refine x_Ct.of (cc := cX6_findRoute) (maxL := 5) (by decide) rfl (Nat.le_of_ble_eq_true rfl) ?_
  intro p e s m below meth c F
  refine x_aload_n F dX6_findRoute_0 rfl rfl ?_
  refine x_get (ci := 6) (C := RX6) (T := TX6) (N := 12) (k := 10) F dX6_findRoute_1 rfl inX6 (by decide) q75 rfl hR.main rfl ?_
  refine x_aload_nN F dX6_findRoute_4 rfl rfl ?_
  refine x_put (ci := 4) (C := RX4) (T := TX4) (N := 5) (k := 4) F dX6_findRoute_5 rfl inX4 tyX4 tyX4_ok nmX4 (by decide) q38 rfl rfl hR.route (Nat.le_of_ble_eq_true rfl) rfl rfl ?_
  refine x_wd (fun w1 hw1 => ?_)
  have hO : Oth Z K w w1 := by rw [hw1]; exact Oth.set (kind := 4) (idx := 0) rfl _
  have hR : Rep Z K (jShut J (none : Option Nat)) w1 := by rw [hw1]; exact hR.jShut (none : Option Nat) rfl
  have hS : (jShut J (none : Option Nat)).2.2.1 = ((none : Option Nat)).map (Z 10) := rfl
  refine x_iconst (v := 1) F dX6_findRoute_8 (by decide) ?_
  refine x_istore F dX6_findRoute_9 (by decide) ?_
  refine x_iload F dX6_findRoute_11 rfl ?_
  refine x_iconst (v := 3) F dX6_findRoute_13 (by decide) ?_
  refine x_icmp_gt F dX6_findRoute_14 rfl (fun hc => absurd hc (by decide)) (fun _ => ?_)
  refine x_aload_n F dX6_findRoute_17 rfl rfl ?_
  refine x_get (ci := 6) (C := RX6) (T := TX6) (N := 12) (k := 10) F dX6_findRoute_18 rfl inX6 (by decide) q75 rfl hR.main rfl ?_
  refine x_iload F dX6_findRoute_21 rfl ?_
  refine x_put (ci := 4) (C := RX4) (T := TX4) (N := 5) (k := 1) F dX6_findRoute_23 rfl inX4 tyX4 tyX4_ok nmX4 (by decide) q35 rfl rfl hR.route (Nat.le_of_ble_eq_true rfl) rfl rfl ?_
  refine x_wd (fun w11 hw11 => ?_)
  have hLn : (jInt (jShut J (none : Option Nat)) 0 1).2.1 0 = nI 1 := by rfl
  have hO : Oth Z K w w11 := hO.trans (by rw [hw11]; exact Oth.set (kind := 4) (idx := 0) rfl _) rfl
  have hR : Rep Z K (jInt (jShut J (none : Option Nat)) 0 1) w11 := by rw [hw11]; exact hR.jInt 0 1 rfl
  refine x_aload_n F dX6_findRoute_26 rfl rfl ?_
  refine x_get (ci := 6) (C := RX6) (T := TX6) (N := 12) (k := 10) F dX6_findRoute_27 rfl inX6 (by decide) q75 rfl hR.main rfl ?_
  refine x_aload_n F dX6_findRoute_30 rfl rfl ?_
  refine x_get (ci := 6) (C := RX6) (T := TX6) (N := 12) (k := 2) F dX6_findRoute_31 rfl inX6 (by decide) q67 rfl hR.main rfl ?_
  refine x_aload_n F dX6_findRoute_34 rfl rfl ?_
  refine x_aload_n F dX6_findRoute_35 rfl rfl ?_
  refine x_get (ci := 1) (C := RX1) (T := TX1) (N := 8) (k := 5) F dX6_findRoute_36 rfl inX1 (by decide) q255 rfl (hR.cli hk) rfl ?_
  refine x_iconst (v := 0) F dX6_findRoute_39 (by decide) ?_
  refine x_cSi5 F dX6_findRoute_40 (x_gS q215 q216 q1 q217) (c_completes 1 hR hv (kC K k 1) (len := 1) (pl := 0) (by decide) (by rfl) hLn (fun x hx => by cases hx) hS) ⟨rfl, rfl, rfl, xd_X6_completes, ⟨Nat.le_of_ble_eq_true rfl, Nat.le_of_ble_eq_true rfl⟩, Nat.le_of_ble_eq_true rfl, Nat.le_of_ble_eq_true rfl⟩ (Nat.le_of_ble_eq_true rfl) (fun v1 w1 hp => ?_)
  obtain ⟨J2, rfl, hR, hO2, hL2, hS2, _, hr1⟩ := hp
  have hO := hO.trans hO2 rfl
  have hLn := hL2.trans hLn
  have hS : J2.2.2.1 = ((none : Option Nat)).map (Z 10) := hS2.trans hS
  refine x_if_eq F dX6_findRoute_43 rfl (fun h43 => ?_) (fun h43 => ?_)
  · have hn1 : f_rt K (none : Option Nat) 1 vi (kC K k 1) = none := Option.not_isSome_iff_eq_none.mp (by rw [x_b_eq.mp h43]; decide)
    refine x_iinc (v := 1) F dX6_findRoute_48 (by decide) rfl (by decide) ?_
    refine x_goto F dX6_findRoute_51 rfl ?_
    refine x_iload F dX6_findRoute_11 rfl ?_
    refine x_iconst (v := 3) F dX6_findRoute_13 (by decide) ?_
    refine x_icmp_gt F dX6_findRoute_14 rfl (fun hc => absurd hc (by decide)) (fun _ => ?_)
    refine x_aload_n F dX6_findRoute_17 rfl rfl ?_
    refine x_get (ci := 6) (C := RX6) (T := TX6) (N := 12) (k := 10) F dX6_findRoute_18 rfl inX6 (by decide) q75 rfl hR.main rfl ?_
    refine x_iload F dX6_findRoute_21 rfl ?_
    refine x_put (ci := 4) (C := RX4) (T := TX4) (N := 5) (k := 1) F dX6_findRoute_23 rfl inX4 tyX4 tyX4_ok nmX4 (by decide) q35 rfl rfl hR.route (Nat.le_of_ble_eq_true rfl) rfl rfl ?_
    refine x_wd (fun w12 hw12 => ?_)
    have hLn : (jInt J2 0 (1 + 1)).2.1 0 = nI 2 := by rfl
    have hO : Oth Z K w w12 := hO.trans (by rw [hw12]; exact Oth.set (kind := 4) (idx := 0) rfl _) rfl
    have hR : Rep Z K (jInt J2 0 (1 + 1)) w12 := by rw [hw12]; exact hR.jInt 0 (1 + 1) rfl
    refine x_aload_n F dX6_findRoute_26 rfl rfl ?_
    refine x_get (ci := 6) (C := RX6) (T := TX6) (N := 12) (k := 10) F dX6_findRoute_27 rfl inX6 (by decide) q75 rfl hR.main rfl ?_
    refine x_aload_n F dX6_findRoute_30 rfl rfl ?_
    refine x_get (ci := 6) (C := RX6) (T := TX6) (N := 12) (k := 2) F dX6_findRoute_31 rfl inX6 (by decide) q67 rfl hR.main rfl ?_
    refine x_aload_n F dX6_findRoute_34 rfl rfl ?_
    refine x_aload_n F dX6_findRoute_35 rfl rfl ?_
    refine x_get (ci := 1) (C := RX1) (T := TX1) (N := 8) (k := 5) F dX6_findRoute_36 rfl inX1 (by decide) q255 rfl (hR.cli hk) rfl ?_
    refine x_iconst (v := 0) F dX6_findRoute_39 (by decide) ?_
    refine x_cSi5 F dX6_findRoute_40 (x_gS q215 q216 q1 q217) (c_completes 2 hR hv (kC K k 1) (len := 2) (pl := 0) (by decide) (by rfl) hLn (fun x hx => by cases hx) hS) ⟨rfl, rfl, rfl, xd_X6_completes, ⟨Nat.le_of_ble_eq_true rfl, Nat.le_of_ble_eq_true rfl⟩, Nat.le_of_ble_eq_true rfl, Nat.le_of_ble_eq_true rfl⟩ (Nat.le_of_ble_eq_true rfl) (fun v1 w1 hp => ?_)
    obtain ⟨J3, rfl, hR, hO2, hL2, hS2, _, hr2⟩ := hp
    have hO := hO.trans hO2 rfl
    have hLn := hL2.trans hLn
    have hS : J3.2.2.1 = ((none : Option Nat)).map (Z 10) := hS2.trans hS
    refine x_if_eq F dX6_findRoute_43 rfl (fun h43 => ?_) (fun h43 => ?_)
    · have hn2 : f_rt K (none : Option Nat) 2 vi (kC K k 1) = none := Option.not_isSome_iff_eq_none.mp (by rw [x_b_eq.mp h43]; decide)
      refine x_iinc (v := 1) F dX6_findRoute_48 (by decide) rfl (by decide) ?_
      refine x_goto F dX6_findRoute_51 rfl ?_
      refine x_iload F dX6_findRoute_11 rfl ?_
      refine x_iconst (v := 3) F dX6_findRoute_13 (by decide) ?_
      refine x_icmp_gt F dX6_findRoute_14 rfl (fun hc => absurd hc (by decide)) (fun _ => ?_)
      refine x_aload_n F dX6_findRoute_17 rfl rfl ?_
      refine x_get (ci := 6) (C := RX6) (T := TX6) (N := 12) (k := 10) F dX6_findRoute_18 rfl inX6 (by decide) q75 rfl hR.main rfl ?_
      refine x_iload F dX6_findRoute_21 rfl ?_
      refine x_put (ci := 4) (C := RX4) (T := TX4) (N := 5) (k := 1) F dX6_findRoute_23 rfl inX4 tyX4 tyX4_ok nmX4 (by decide) q35 rfl rfl hR.route (Nat.le_of_ble_eq_true rfl) rfl rfl ?_
      refine x_wd (fun w13 hw13 => ?_)
      have hLn : (jInt J3 0 (1 + 1 + 1)).2.1 0 = nI 3 := by rfl
      have hO : Oth Z K w w13 := hO.trans (by rw [hw13]; exact Oth.set (kind := 4) (idx := 0) rfl _) rfl
      have hR : Rep Z K (jInt J3 0 (1 + 1 + 1)) w13 := by rw [hw13]; exact hR.jInt 0 (1 + 1 + 1) rfl
      refine x_aload_n F dX6_findRoute_26 rfl rfl ?_
      refine x_get (ci := 6) (C := RX6) (T := TX6) (N := 12) (k := 10) F dX6_findRoute_27 rfl inX6 (by decide) q75 rfl hR.main rfl ?_
      refine x_aload_n F dX6_findRoute_30 rfl rfl ?_
      refine x_get (ci := 6) (C := RX6) (T := TX6) (N := 12) (k := 2) F dX6_findRoute_31 rfl inX6 (by decide) q67 rfl hR.main rfl ?_
      refine x_aload_n F dX6_findRoute_34 rfl rfl ?_
      refine x_aload_n F dX6_findRoute_35 rfl rfl ?_
      refine x_get (ci := 1) (C := RX1) (T := TX1) (N := 8) (k := 5) F dX6_findRoute_36 rfl inX1 (by decide) q255 rfl (hR.cli hk) rfl ?_
      refine x_iconst (v := 0) F dX6_findRoute_39 (by decide) ?_
      refine x_cSi5 F dX6_findRoute_40 (x_gS q215 q216 q1 q217) (c_completes 3 hR hv (kC K k 1) (len := 3) (pl := 0) (by decide) (by rfl) hLn (fun x hx => by cases hx) hS) ⟨rfl, rfl, rfl, xd_X6_completes, ⟨Nat.le_of_ble_eq_true rfl, Nat.le_of_ble_eq_true rfl⟩, Nat.le_of_ble_eq_true rfl, Nat.le_of_ble_eq_true rfl⟩ (Nat.le_of_ble_eq_true rfl) (fun v1 w1 hp => ?_)
      obtain ⟨J4, rfl, hR, hO2, hL2, hS2, _, hr3⟩ := hp
      have hO := hO.trans hO2 rfl
      have hLn := hL2.trans hLn
      have hS : J4.2.2.1 = ((none : Option Nat)).map (Z 10) := hS2.trans hS
      refine x_if_eq F dX6_findRoute_43 rfl (fun h43 => ?_) (fun h43 => ?_)
      · have hn3 : f_rt K (none : Option Nat) 3 vi (kC K k 1) = none := Option.not_isSome_iff_eq_none.mp (by rw [x_b_eq.mp h43]; decide)
        refine x_iinc (v := 1) F dX6_findRoute_48 (by decide) rfl (by decide) ?_
        refine x_goto F dX6_findRoute_51 rfl ?_
        refine x_iload F dX6_findRoute_11 rfl ?_
        refine x_iconst (v := 3) F dX6_findRoute_13 (by decide) ?_
        refine x_icmp_gt F dX6_findRoute_14 rfl (fun _ => ?_) (fun hc => absurd hc (by decide))
        refine x_aload_n F dX6_findRoute_54 rfl rfl ?_
        refine x_get (ci := 6) (C := RX6) (T := TX6) (N := 12) (k := 10) F dX6_findRoute_55 rfl inX6 (by decide) q75 rfl hR.main rfl ?_
        refine x_iconst (v := 0) F dX6_findRoute_58 (by decide) ?_
        refine x_put (ci := 4) (C := RX4) (T := TX4) (N := 5) (k := 1) F dX6_findRoute_59 rfl inX4 tyX4 tyX4_ok nmX4 (by decide) q35 rfl rfl hR.route (Nat.le_of_ble_eq_true rfl) rfl rfl ?_
        refine x_wd (fun w20 hw20 => ?_)
        have hO : Oth Z K w w20 := hO.trans (by rw [hw20]; exact Oth.set (kind := 4) (idx := 0) rfl _) rfl
        have hR : Rep Z K (jInt J4 0 0) w20 := by rw [hw20]; exact hR.jInt 0 0 rfl
        have hno := (f_best3 hn1 hn2).trans hn3
        refine x_iconst (v := 0) F dX6_findRoute_62 (by decide) ?_
        refine x_iret F rfl rfl dX6_findRoute_63 (Nat.le_refl _) (Nat.le_refl _) ?_
        exact ⟨_, rfl, _, by rw [hno]; rfl, hR, hO, (fun r e => by rw [hno] at e; cases e), fun _ => rfl⟩
      · obtain ⟨r0, e3⟩ := Option.isSome_iff_exists.mp (x_b_ne.mp h43)
        have hfin := FR_of (w := w) (n := 3) (by decide) ((f_best3 hn1 hn2).trans e3) hR hO hLn (hr3 r0 e3)
        refine x_iconst (v := 1) F dX6_findRoute_46 (by decide) ?_
        refine x_iret F rfl rfl dX6_findRoute_47 (Nat.le_refl _) (Nat.le_refl _) ?_
        obtain ⟨J9, g1, g2⟩ := hfin
        exact ⟨_, rfl, J9, g1, g2⟩
    · obtain ⟨r0, e2⟩ := Option.isSome_iff_exists.mp (x_b_ne.mp h43)
      have hfin := FR_of (w := w) (n := 2) (by decide) (f_best2 hn1 e2) hR hO hLn (hr2 r0 e2)
      refine x_iconst (v := 1) F dX6_findRoute_46 (by decide) ?_
      refine x_iret F rfl rfl dX6_findRoute_47 (Nat.le_refl _) (Nat.le_refl _) ?_
      obtain ⟨J9, g1, g2⟩ := hfin
      exact ⟨_, rfl, J9, g1, g2⟩
  · obtain ⟨r0, e1⟩ := Option.isSome_iff_exists.mp (x_b_ne.mp h43)
    have hfin := FR_of (w := w) (n := 1) (by decide) (f_best1 e1) hR hO hLn (hr1 r0 e1)
    refine x_iconst (v := 1) F dX6_findRoute_46 (by decide) ?_
    refine x_iret F rfl rfl dX6_findRoute_47 (Nat.le_refl _) (Nat.le_refl _) ?_
    obtain ⟨J9, g1, g2⟩ := hfin
    exact ⟨_, rfl, J9, g1, g2⟩
set_option maxRecDepth 100000 in
set_option maxHeartbeats 4000000 in
theorem c_findRouteS (hR : Rep Z K J w) {k vi : Nat} (hk : k < nc K) (hv : vOk K vi) {vs : Nat} (hvs : vOk K vs) : Ci l D dA B yX6_findRoute wX6_findRoute 5 [.ref (Z 0 0), .ref (Z 13 k), .ref (Z 10 vi), .ref (Z 10 vs)] w (FR Z K w (f_best K k vi (some vs))) := by
  refine x_Ct.of (cc := cX6_findRoute) (maxL := 5) (by decide) rfl (Nat.le_of_ble_eq_true rfl) ?_
  intro p e s m below meth c F
  refine x_aload_n F dX6_findRoute_0 rfl rfl ?_
  refine x_get (ci := 6) (C := RX6) (T := TX6) (N := 12) (k := 10) F dX6_findRoute_1 rfl inX6 (by decide) q75 rfl hR.main rfl ?_
  refine x_aload_n F dX6_findRoute_4 rfl rfl ?_
  refine x_put (ci := 4) (C := RX4) (T := TX4) (N := 5) (k := 4) F dX6_findRoute_5 rfl inX4 tyX4 tyX4_ok nmX4 (by decide) q38 rfl rfl hR.route (Nat.le_of_ble_eq_true rfl) rfl rfl ?_
  refine x_wd (fun w1 hw1 => ?_)
  have hO : Oth Z K w w1 := by rw [hw1]; exact Oth.set (kind := 4) (idx := 0) rfl _
  have hR : Rep Z K (jShut J (some (Z 10 vs))) w1 := by rw [hw1]; exact hR.jShut (some (Z 10 vs)) rfl
  have hS : (jShut J (some (Z 10 vs))).2.2.1 = ((some vs)).map (Z 10) := rfl
  refine x_iconst (v := 1) F dX6_findRoute_8 (by decide) ?_
  refine x_istore F dX6_findRoute_9 (by decide) ?_
  refine x_iload F dX6_findRoute_11 rfl ?_
  refine x_iconst (v := 3) F dX6_findRoute_13 (by decide) ?_
  refine x_icmp_gt F dX6_findRoute_14 rfl (fun hc => absurd hc (by decide)) (fun _ => ?_)
  refine x_aload_n F dX6_findRoute_17 rfl rfl ?_
  refine x_get (ci := 6) (C := RX6) (T := TX6) (N := 12) (k := 10) F dX6_findRoute_18 rfl inX6 (by decide) q75 rfl hR.main rfl ?_
  refine x_iload F dX6_findRoute_21 rfl ?_
  refine x_put (ci := 4) (C := RX4) (T := TX4) (N := 5) (k := 1) F dX6_findRoute_23 rfl inX4 tyX4 tyX4_ok nmX4 (by decide) q35 rfl rfl hR.route (Nat.le_of_ble_eq_true rfl) rfl rfl ?_
  refine x_wd (fun w11 hw11 => ?_)
  have hLn : (jInt (jShut J (some (Z 10 vs))) 0 1).2.1 0 = nI 1 := by rfl
  have hO : Oth Z K w w11 := hO.trans (by rw [hw11]; exact Oth.set (kind := 4) (idx := 0) rfl _) rfl
  have hR : Rep Z K (jInt (jShut J (some (Z 10 vs))) 0 1) w11 := by rw [hw11]; exact hR.jInt 0 1 rfl
  refine x_aload_n F dX6_findRoute_26 rfl rfl ?_
  refine x_get (ci := 6) (C := RX6) (T := TX6) (N := 12) (k := 10) F dX6_findRoute_27 rfl inX6 (by decide) q75 rfl hR.main rfl ?_
  refine x_aload_n F dX6_findRoute_30 rfl rfl ?_
  refine x_get (ci := 6) (C := RX6) (T := TX6) (N := 12) (k := 2) F dX6_findRoute_31 rfl inX6 (by decide) q67 rfl hR.main rfl ?_
  refine x_aload_n F dX6_findRoute_34 rfl rfl ?_
  refine x_aload_n F dX6_findRoute_35 rfl rfl ?_
  refine x_get (ci := 1) (C := RX1) (T := TX1) (N := 8) (k := 5) F dX6_findRoute_36 rfl inX1 (by decide) q255 rfl (hR.cli hk) rfl ?_
  refine x_iconst (v := 0) F dX6_findRoute_39 (by decide) ?_
  refine x_cSi5 F dX6_findRoute_40 (x_gS q215 q216 q1 q217) (c_completes 1 hR hv (kC K k 1) (len := 1) (pl := 0) (by decide) (by rfl) hLn (fun x hx => by cases hx; exact hvs) hS) ⟨rfl, rfl, rfl, xd_X6_completes, ⟨Nat.le_of_ble_eq_true rfl, Nat.le_of_ble_eq_true rfl⟩, Nat.le_of_ble_eq_true rfl, Nat.le_of_ble_eq_true rfl⟩ (Nat.le_of_ble_eq_true rfl) (fun v1 w1 hp => ?_)
  obtain ⟨J2, rfl, hR, hO2, hL2, hS2, _, hr1⟩ := hp
  have hO := hO.trans hO2 rfl
  have hLn := hL2.trans hLn
  have hS : J2.2.2.1 = ((some vs)).map (Z 10) := hS2.trans hS
  refine x_if_eq F dX6_findRoute_43 rfl (fun h43 => ?_) (fun h43 => ?_)
  · have hn1 : f_rt K (some vs) 1 vi (kC K k 1) = none := Option.not_isSome_iff_eq_none.mp (by rw [x_b_eq.mp h43]; decide)
    refine x_iinc (v := 1) F dX6_findRoute_48 (by decide) rfl (by decide) ?_
    refine x_goto F dX6_findRoute_51 rfl ?_
    refine x_iload F dX6_findRoute_11 rfl ?_
    refine x_iconst (v := 3) F dX6_findRoute_13 (by decide) ?_
    refine x_icmp_gt F dX6_findRoute_14 rfl (fun hc => absurd hc (by decide)) (fun _ => ?_)
    refine x_aload_n F dX6_findRoute_17 rfl rfl ?_
    refine x_get (ci := 6) (C := RX6) (T := TX6) (N := 12) (k := 10) F dX6_findRoute_18 rfl inX6 (by decide) q75 rfl hR.main rfl ?_
    refine x_iload F dX6_findRoute_21 rfl ?_
    refine x_put (ci := 4) (C := RX4) (T := TX4) (N := 5) (k := 1) F dX6_findRoute_23 rfl inX4 tyX4 tyX4_ok nmX4 (by decide) q35 rfl rfl hR.route (Nat.le_of_ble_eq_true rfl) rfl rfl ?_
    refine x_wd (fun w12 hw12 => ?_)
    have hLn : (jInt J2 0 (1 + 1)).2.1 0 = nI 2 := by rfl
    have hO : Oth Z K w w12 := hO.trans (by rw [hw12]; exact Oth.set (kind := 4) (idx := 0) rfl _) rfl
    have hR : Rep Z K (jInt J2 0 (1 + 1)) w12 := by rw [hw12]; exact hR.jInt 0 (1 + 1) rfl
    refine x_aload_n F dX6_findRoute_26 rfl rfl ?_
    refine x_get (ci := 6) (C := RX6) (T := TX6) (N := 12) (k := 10) F dX6_findRoute_27 rfl inX6 (by decide) q75 rfl hR.main rfl ?_
    refine x_aload_n F dX6_findRoute_30 rfl rfl ?_
    refine x_get (ci := 6) (C := RX6) (T := TX6) (N := 12) (k := 2) F dX6_findRoute_31 rfl inX6 (by decide) q67 rfl hR.main rfl ?_
    refine x_aload_n F dX6_findRoute_34 rfl rfl ?_
    refine x_aload_n F dX6_findRoute_35 rfl rfl ?_
    refine x_get (ci := 1) (C := RX1) (T := TX1) (N := 8) (k := 5) F dX6_findRoute_36 rfl inX1 (by decide) q255 rfl (hR.cli hk) rfl ?_
    refine x_iconst (v := 0) F dX6_findRoute_39 (by decide) ?_
    refine x_cSi5 F dX6_findRoute_40 (x_gS q215 q216 q1 q217) (c_completes 2 hR hv (kC K k 1) (len := 2) (pl := 0) (by decide) (by rfl) hLn (fun x hx => by cases hx; exact hvs) hS) ⟨rfl, rfl, rfl, xd_X6_completes, ⟨Nat.le_of_ble_eq_true rfl, Nat.le_of_ble_eq_true rfl⟩, Nat.le_of_ble_eq_true rfl, Nat.le_of_ble_eq_true rfl⟩ (Nat.le_of_ble_eq_true rfl) (fun v1 w1 hp => ?_)
    obtain ⟨J3, rfl, hR, hO2, hL2, hS2, _, hr2⟩ := hp
    have hO := hO.trans hO2 rfl
    have hLn := hL2.trans hLn
    have hS : J3.2.2.1 = ((some vs)).map (Z 10) := hS2.trans hS
    refine x_if_eq F dX6_findRoute_43 rfl (fun h43 => ?_) (fun h43 => ?_)
    · have hn2 : f_rt K (some vs) 2 vi (kC K k 1) = none := Option.not_isSome_iff_eq_none.mp (by rw [x_b_eq.mp h43]; decide)
      refine x_iinc (v := 1) F dX6_findRoute_48 (by decide) rfl (by decide) ?_
      refine x_goto F dX6_findRoute_51 rfl ?_
      refine x_iload F dX6_findRoute_11 rfl ?_
      refine x_iconst (v := 3) F dX6_findRoute_13 (by decide) ?_
      refine x_icmp_gt F dX6_findRoute_14 rfl (fun hc => absurd hc (by decide)) (fun _ => ?_)
      refine x_aload_n F dX6_findRoute_17 rfl rfl ?_
      refine x_get (ci := 6) (C := RX6) (T := TX6) (N := 12) (k := 10) F dX6_findRoute_18 rfl inX6 (by decide) q75 rfl hR.main rfl ?_
      refine x_iload F dX6_findRoute_21 rfl ?_
      refine x_put (ci := 4) (C := RX4) (T := TX4) (N := 5) (k := 1) F dX6_findRoute_23 rfl inX4 tyX4 tyX4_ok nmX4 (by decide) q35 rfl rfl hR.route (Nat.le_of_ble_eq_true rfl) rfl rfl ?_
      refine x_wd (fun w13 hw13 => ?_)
      have hLn : (jInt J3 0 (1 + 1 + 1)).2.1 0 = nI 3 := by rfl
      have hO : Oth Z K w w13 := hO.trans (by rw [hw13]; exact Oth.set (kind := 4) (idx := 0) rfl _) rfl
      have hR : Rep Z K (jInt J3 0 (1 + 1 + 1)) w13 := by rw [hw13]; exact hR.jInt 0 (1 + 1 + 1) rfl
      refine x_aload_n F dX6_findRoute_26 rfl rfl ?_
      refine x_get (ci := 6) (C := RX6) (T := TX6) (N := 12) (k := 10) F dX6_findRoute_27 rfl inX6 (by decide) q75 rfl hR.main rfl ?_
      refine x_aload_n F dX6_findRoute_30 rfl rfl ?_
      refine x_get (ci := 6) (C := RX6) (T := TX6) (N := 12) (k := 2) F dX6_findRoute_31 rfl inX6 (by decide) q67 rfl hR.main rfl ?_
      refine x_aload_n F dX6_findRoute_34 rfl rfl ?_
      refine x_aload_n F dX6_findRoute_35 rfl rfl ?_
      refine x_get (ci := 1) (C := RX1) (T := TX1) (N := 8) (k := 5) F dX6_findRoute_36 rfl inX1 (by decide) q255 rfl (hR.cli hk) rfl ?_
      refine x_iconst (v := 0) F dX6_findRoute_39 (by decide) ?_
      refine x_cSi5 F dX6_findRoute_40 (x_gS q215 q216 q1 q217) (c_completes 3 hR hv (kC K k 1) (len := 3) (pl := 0) (by decide) (by rfl) hLn (fun x hx => by cases hx; exact hvs) hS) ⟨rfl, rfl, rfl, xd_X6_completes, ⟨Nat.le_of_ble_eq_true rfl, Nat.le_of_ble_eq_true rfl⟩, Nat.le_of_ble_eq_true rfl, Nat.le_of_ble_eq_true rfl⟩ (Nat.le_of_ble_eq_true rfl) (fun v1 w1 hp => ?_)
      obtain ⟨J4, rfl, hR, hO2, hL2, hS2, _, hr3⟩ := hp
      have hO := hO.trans hO2 rfl
      have hLn := hL2.trans hLn
      have hS : J4.2.2.1 = ((some vs)).map (Z 10) := hS2.trans hS
      refine x_if_eq F dX6_findRoute_43 rfl (fun h43 => ?_) (fun h43 => ?_)
      · have hn3 : f_rt K (some vs) 3 vi (kC K k 1) = none := Option.not_isSome_iff_eq_none.mp (by rw [x_b_eq.mp h43]; decide)
        refine x_iinc (v := 1) F dX6_findRoute_48 (by decide) rfl (by decide) ?_
        refine x_goto F dX6_findRoute_51 rfl ?_
        refine x_iload F dX6_findRoute_11 rfl ?_
        refine x_iconst (v := 3) F dX6_findRoute_13 (by decide) ?_
        refine x_icmp_gt F dX6_findRoute_14 rfl (fun _ => ?_) (fun hc => absurd hc (by decide))
        refine x_aload_n F dX6_findRoute_54 rfl rfl ?_
        refine x_get (ci := 6) (C := RX6) (T := TX6) (N := 12) (k := 10) F dX6_findRoute_55 rfl inX6 (by decide) q75 rfl hR.main rfl ?_
        refine x_iconst (v := 0) F dX6_findRoute_58 (by decide) ?_
        refine x_put (ci := 4) (C := RX4) (T := TX4) (N := 5) (k := 1) F dX6_findRoute_59 rfl inX4 tyX4 tyX4_ok nmX4 (by decide) q35 rfl rfl hR.route (Nat.le_of_ble_eq_true rfl) rfl rfl ?_
        refine x_wd (fun w20 hw20 => ?_)
        have hO : Oth Z K w w20 := hO.trans (by rw [hw20]; exact Oth.set (kind := 4) (idx := 0) rfl _) rfl
        have hR : Rep Z K (jInt J4 0 0) w20 := by rw [hw20]; exact hR.jInt 0 0 rfl
        have hno := (f_best3 hn1 hn2).trans hn3
        refine x_iconst (v := 0) F dX6_findRoute_62 (by decide) ?_
        refine x_iret F rfl rfl dX6_findRoute_63 (Nat.le_refl _) (Nat.le_refl _) ?_
        exact ⟨_, rfl, _, by rw [hno]; rfl, hR, hO, (fun r e => by rw [hno] at e; cases e), fun _ => rfl⟩
      · obtain ⟨r0, e3⟩ := Option.isSome_iff_exists.mp (x_b_ne.mp h43)
        have hfin := FR_of (w := w) (n := 3) (by decide) ((f_best3 hn1 hn2).trans e3) hR hO hLn (hr3 r0 e3)
        refine x_iconst (v := 1) F dX6_findRoute_46 (by decide) ?_
        refine x_iret F rfl rfl dX6_findRoute_47 (Nat.le_refl _) (Nat.le_refl _) ?_
        obtain ⟨J9, g1, g2⟩ := hfin
        exact ⟨_, rfl, J9, g1, g2⟩
    · obtain ⟨r0, e2⟩ := Option.isSome_iff_exists.mp (x_b_ne.mp h43)
      have hfin := FR_of (w := w) (n := 2) (by decide) (f_best2 hn1 e2) hR hO hLn (hr2 r0 e2)
      refine x_iconst (v := 1) F dX6_findRoute_46 (by decide) ?_
      refine x_iret F rfl rfl dX6_findRoute_47 (Nat.le_refl _) (Nat.le_refl _) ?_
      obtain ⟨J9, g1, g2⟩ := hfin
      exact ⟨_, rfl, J9, g1, g2⟩
  · obtain ⟨r0, e1⟩ := Option.isSome_iff_exists.mp (x_b_ne.mp h43)
    have hfin := FR_of (w := w) (n := 1) (by decide) (f_best1 e1) hR hO hLn (hr1 r0 e1)
    refine x_iconst (v := 1) F dX6_findRoute_46 (by decide) ?_
    refine x_iret F rfl rfl dX6_findRoute_47 (Nat.le_refl _) (Nat.le_refl _) ?_
    obtain ⟨J9, g1, g2⟩ := hfin
    exact ⟨_, rfl, J9, g1, g2⟩
set_option maxRecDepth 100000 in
set_option maxHeartbeats 4000000 in
theorem c_findOwnRoute (hR : Rep Z K J w) {k : Nat} (hk : k < nc K) : Ci l D dA B yX6_findOwnRoute wX6_findOwnRoute 6 [.ref (Z 0 0), .ref (Z 13 k)] w (FR Z K w (f_best K k (kCV K k) none)) := by
  refine x_Ct.of (cc := cX6_findOwnRoute) (maxL := 2) (by decide) rfl (Nat.le_of_ble_eq_true rfl) ?_
  intro p e s m below meth c F
  refine x_aload_n F dX6_findOwnRoute_0 rfl rfl ?_
  refine x_aload_n F dX6_findOwnRoute_1 rfl rfl ?_
  refine x_aload_n F dX6_findOwnRoute_2 rfl rfl ?_
  refine x_get (ci := 1) (C := RX1) (T := TX1) (N := 8) (k := 4) F dX6_findOwnRoute_3 rfl inX1 (by decide) q253 rfl (hR.cli hk) rfl ?_
  refine x_null F dX6_findOwnRoute_6 ?_
  refine x_cVi3 (ci := 6) (C := RX6) (T := TX6) (N := 12) F dX6_findOwnRoute_7 (x_gV q212 q213 q454 q1 q214) rfl (c_findRouteN hR hk (hR.cv hk)) ⟨rfl, rfl, rfl, xd_X6_findRoute, ⟨Nat.le_of_ble_eq_true rfl, Nat.le_of_ble_eq_true rfl⟩, Nat.le_of_ble_eq_true rfl, Nat.le_of_ble_eq_true rfl⟩ rfl hR.main (Nat.le_of_ble_eq_true rfl) (fun v1 w1 hp => ?_)
  obtain ⟨J1, rfl, h5⟩ := hp
  refine x_iret F rfl x_b_nar dX6_findOwnRoute_10 (Nat.le_refl _) (Nat.le_refl _) ?_
  exact ⟨_, rfl, J1, rfl, h5⟩
def f_outc (K : kT) (k : Nat) (s h b : Int32) : Int32 := if s = 0 then 0 else if s = 2 then (if (f_best K k (kCV K k) (some (kCV K k))).isSome then 1 else 4) else if f_brown (kV K (kCV K k) 6) h then 2 else if f_quota (kV K (kCV K k) 6) h ≤ b then 3 else 0
set_option maxRecDepth 100000 in
set_option maxHeartbeats 4000000 in
theorem c_outcomeOf (hR : Rep Z K J w) {k : Nat} (hk : k < nc K) (s0 h b : Int32) : Ci l D dA B yX6_outcomeOf wX6_outcomeOf 6 [.ref (Z 0 0), .ref (Z 13 k), .int s0, .int h, .int b] w (QP Z K w (f_outc K k s0 h b)) := by
  refine x_Ct.of (cc := cX6_outcomeOf) (maxL := 6) (by decide) rfl (Nat.le_of_ble_eq_true rfl) ?_
  intro p e s m below meth c F
  refine x_aload_n F dX6_outcomeOf_0 rfl rfl ?_
  refine x_get (ci := 1) (C := RX1) (T := TX1) (N := 8) (k := 4) F dX6_outcomeOf_1 rfl inX1 (by decide) q253 rfl (hR.cli hk) rfl ?_
  refine x_astore F dX6_outcomeOf_4 (by decide) ?_
  refine x_iload_n F dX6_outcomeOf_6 rfl rfl ?_
  refine x_if_ne F dX6_outcomeOf_7 rfl (fun h7 => ?_) (fun h7 => ?_)
  · refine x_iload_n F dX6_outcomeOf_12 rfl rfl ?_
    refine x_iconst (v := 2) F dX6_outcomeOf_13 (by decide) ?_
    refine x_icmp_ne F dX6_outcomeOf_14 rfl (fun h14 => ?_) (fun h14 => ?_)
    · refine x_aload F dX6_outcomeOf_35 rfl ?_
      refine x_get (ci := 5) (C := RX5) (T := TX5) (N := 9) (k := 4) F dX6_outcomeOf_37 rfl inX5 (by decide) q147 rfl (hR.ver (hR.cv hk)) rfl ?_
      refine x_iload_n F dX6_outcomeOf_40 rfl rfl ?_
      refine x_cVi1 (ci := 3) (C := RX3) (T := TX3) (N := 4) F dX6_outcomeOf_41 (x_gV q326 q327 q328 q3 q329) rfl (c_isBrownedOut (hR.ret (hR.cv hk)) (hR.ask (hR.cv hk)) h) ⟨rfl, rfl, rfl, xd_X3_isBrownedOut, ⟨Nat.le_of_ble_eq_true rfl, Nat.le_of_ble_eq_true rfl⟩, Nat.le_of_ble_eq_true rfl, Nat.le_of_ble_eq_true rfl⟩ rfl (hR.ret (hR.cv hk)) (Nat.le_of_ble_eq_true rfl) (fun v1 w1 hp => ?_)
      obtain ⟨rfl, hw9⟩ := hp
      replace hw9 := hw9.symm
      subst hw9
      refine x_if_eq F dX6_outcomeOf_44 rfl (fun h44 => ?_) (fun h44 => ?_)
      · have g44 := x_b_eq.mp h44
        refine x_iload F dX6_outcomeOf_49 rfl ?_
        refine x_aload F dX6_outcomeOf_51 rfl ?_
        refine x_get (ci := 5) (C := RX5) (T := TX5) (N := 9) (k := 4) F dX6_outcomeOf_53 rfl inX5 (by decide) q147 rfl (hR.ver (hR.cv hk)) rfl ?_
        refine x_iload_n F dX6_outcomeOf_56 rfl rfl ?_
        refine x_cVi1 (ci := 3) (C := RX3) (T := TX3) (N := 4) F dX6_outcomeOf_57 (x_gV q330 q331 q332 q3 q333) rfl (c_quota (hR.ret (hR.cv hk)) (hR.ask (hR.cv hk)) h) ⟨rfl, rfl, rfl, xd_X3_quota, ⟨Nat.le_of_ble_eq_true rfl, Nat.le_of_ble_eq_true rfl⟩, Nat.le_of_ble_eq_true rfl, Nat.le_of_ble_eq_true rfl⟩ rfl (hR.ret (hR.cv hk)) (Nat.le_of_ble_eq_true rfl) (fun v1 w1 hp => ?_)
        obtain ⟨rfl, hw9⟩ := hp
        replace hw9 := hw9.symm
        subst hw9
        refine x_icmp_lt F dX6_outcomeOf_60 rfl (fun h60 => ?_) (fun h60 => ?_)
        · have g60 : (if f_quota (kV K (kCV K k) 6) h ≤ b then (3 : Int32) else 0) = 0 := if_neg (Int32.not_le.mpr h60)
          refine x_iconst (v := 0) F dX6_outcomeOf_67 (by decide) ?_
          refine x_iret F rfl rfl dX6_outcomeOf_68 (Nat.le_refl _) (Nat.le_refl _) ?_
          exact ⟨_, rfl, _, congrArg Value.int (by unfold f_outc; rw [if_neg h7, if_neg h14, g44, g60]; rfl), hR, Oth.rfl⟩
        · have g60 : (if f_quota (kV K (kCV K k) 6) h ≤ b then (3 : Int32) else 0) = 3 := if_pos (Int32.not_lt.mp h60)
          refine x_iconst (v := 3) F dX6_outcomeOf_63 (by decide) ?_
          refine x_goto F dX6_outcomeOf_64 rfl ?_
          refine x_iret F rfl rfl dX6_outcomeOf_68 (Nat.le_refl _) (Nat.le_refl _) ?_
          exact ⟨_, rfl, _, congrArg Value.int (by unfold f_outc; rw [if_neg h7, if_neg h14, g44, g60]; rfl), hR, Oth.rfl⟩
      · have g44 := x_b_ne.mp h44
        refine x_iconst (v := 2) F dX6_outcomeOf_47 (by decide) ?_
        refine x_iret F rfl rfl dX6_outcomeOf_48 (Nat.le_refl _) (Nat.le_refl _) ?_
        exact ⟨_, rfl, _, congrArg Value.int (by unfold f_outc; rw [if_neg h7, if_neg h14, g44]; rfl), hR, Oth.rfl⟩
    · refine x_aload_n F dX6_outcomeOf_17 rfl rfl ?_
      refine x_aload_n F dX6_outcomeOf_18 rfl rfl ?_
      refine x_aload F dX6_outcomeOf_19 rfl ?_
      refine x_aload F dX6_outcomeOf_21 rfl ?_
      refine x_cVi3 (ci := 6) (C := RX6) (T := TX6) (N := 12) F dX6_outcomeOf_23 (x_gV q212 q213 q454 q1 q214) rfl (c_findRouteS hR hk (hR.cv hk) (hR.cv hk)) ⟨rfl, rfl, rfl, xd_X6_findRoute, ⟨Nat.le_of_ble_eq_true rfl, Nat.le_of_ble_eq_true rfl⟩, Nat.le_of_ble_eq_true rfl, Nat.le_of_ble_eq_true rfl⟩ rfl hR.main (Nat.le_of_ble_eq_true rfl) (fun v1 w1 hp => ?_)
      obtain ⟨J1, rfl, hR, hO, _, _⟩ := hp
      refine x_if_eq F dX6_outcomeOf_26 rfl (fun h26 => ?_) (fun h26 => ?_)
      · have g26 := x_b_eq.mp h26
        refine x_iconst (v := 4) F dX6_outcomeOf_33 (by decide) ?_
        refine x_iret F rfl rfl dX6_outcomeOf_34 (Nat.le_refl _) (Nat.le_refl _) ?_
        exact ⟨_, rfl, _, congrArg Value.int (by unfold f_outc; rw [if_neg h7, if_pos h14, g26]; rfl), hR, hO⟩
      · have g26 := x_b_ne.mp h26
        refine x_iconst (v := 1) F dX6_outcomeOf_29 (by decide) ?_
        refine x_goto F dX6_outcomeOf_30 rfl ?_
        refine x_iret F rfl rfl dX6_outcomeOf_34 (Nat.le_refl _) (Nat.le_refl _) ?_
        exact ⟨_, rfl, _, congrArg Value.int (by unfold f_outc; rw [if_neg h7, if_pos h14, g26]; rfl), hR, hO⟩
  · refine x_iconst (v := 0) F dX6_outcomeOf_10 (by decide) ?_
    refine x_iret F rfl rfl dX6_outcomeOf_11 (Nat.le_refl _) (Nat.le_refl _) ?_
    exact ⟨_, rfl, _, congrArg Value.int (if_pos h7).symm, hR, Oth.rfl⟩
def f_then (K : kT) (k i : Nat) (h : Int32) (g : Bool) : Bool := f_caller K k i h || (g && (decide (kCV K k = i) && f_caller K k i (kG K 0)))
set_option maxRecDepth 100000 in
set_option maxHeartbeats 4000000 in
theorem c_isCallerThen (hR : Rep Z K J w) {k i : Nat} (hk : k < nc K) (hi : vOk K i) (h : Int32) (g : Bool) : Ci l D dA B yX6_isCallerThen wX6_isCallerThen 2 [.ref (Z 0 0), .ref (Z 13 k), .ref (Z 10 i), .int h, .int (x_b g)] w (fun v w1 => v = .int (x_b (f_then K k i h g)) ∧ w1 = w) := by
  refine x_Ct.of (cc := cX6_isCallerThen) (maxL := 5) (by decide) rfl (Nat.le_of_ble_eq_true rfl) ?_
  intro p e s m below meth c F
  refine x_aload_n F dX6_isCallerThen_0 rfl rfl ?_
  refine x_aload_n F dX6_isCallerThen_1 rfl rfl ?_
  refine x_iload_n F dX6_isCallerThen_2 rfl rfl ?_
  refine x_cVi2 (ci := 1) (C := RX1) (T := TX1) (N := 8) F dX6_isCallerThen_3 (x_gV q186 q187 q188 q13 q189) rfl (c_isCallerOf hR hk hi h) ⟨rfl, rfl, rfl, xd_X1_isCallerOf, ⟨Nat.le_of_ble_eq_true rfl, Nat.le_of_ble_eq_true rfl⟩, Nat.le_of_ble_eq_true rfl, Nat.le_of_ble_eq_true rfl⟩ rfl (hR.cli hk) (Nat.le_of_ble_eq_true rfl) (fun v1 w1 hp => ?_)
  obtain ⟨rfl, hw9⟩ := hp
  replace hw9 := hw9.symm
  subst hw9
  refine x_if_ne F dX6_isCallerThen_6 rfl (fun h6 => ?_) (fun h6 => ?_)
  · have hp : f_then K k i h g = true := by unfold f_then; rw [x_b_ne.mp h6]; rfl
    refine x_iconst (v := 1) F dX6_isCallerThen_34 (by decide) ?_
    refine x_goto F dX6_isCallerThen_35 rfl ?_
    refine x_iret F rfl rfl dX6_isCallerThen_39 (Nat.le_refl _) (Nat.le_refl _) ?_
    exact ⟨_, rfl, congrArg Value.int (by rw [hp]; rfl), rfl⟩
  · have g6 : f_caller K k i h = false := by cases hq : f_caller K k i h with | false => rfl | true => rw [hq] at h6; exact absurd h6 (by decide)
    refine x_iload F dX6_isCallerThen_9 rfl ?_
    refine x_if_eq F dX6_isCallerThen_11 rfl (fun h11 => ?_) (fun h11 => ?_)
    · have hp : f_then K k i h g = false := by unfold f_then; rw [g6, x_b_eq.mp h11]; rfl
      refine x_iconst (v := 0) F dX6_isCallerThen_38 (by decide) ?_
      refine x_iret F rfl rfl dX6_isCallerThen_39 (Nat.le_refl _) (Nat.le_refl _) ?_
      exact ⟨_, rfl, congrArg Value.int (by rw [hp]; rfl), rfl⟩
    · have g11 := x_b_ne.mp h11
      refine x_aload_n F dX6_isCallerThen_14 rfl rfl ?_
      refine x_get (ci := 1) (C := RX1) (T := TX1) (N := 8) (k := 4) F dX6_isCallerThen_15 rfl inX1 (by decide) q253 rfl (hR.cli hk) rfl ?_
      refine x_aload_n F dX6_isCallerThen_18 rfl rfl ?_
      refine x_acmp_neR F dX6_isCallerThen_19 rfl (fun h19 => ?_) (fun h19 => ?_)
      · rw [hR.veq (hR.cv hk) hi] at h19
        have hp : f_then K k i h g = false := by unfold f_then; rw [g6, g11, decide_eq_false h19]; rfl
        refine x_iconst (v := 0) F dX6_isCallerThen_38 (by decide) ?_
        refine x_iret F rfl rfl dX6_isCallerThen_39 (Nat.le_refl _) (Nat.le_refl _) ?_
        exact ⟨_, rfl, congrArg Value.int (by rw [hp]; rfl), rfl⟩
      · rw [hR.veq (hR.cv hk) hi] at h19
        refine x_aload_n F dX6_isCallerThen_22 rfl rfl ?_
        refine x_aload_n F dX6_isCallerThen_23 rfl rfl ?_
        refine x_aload_n F dX6_isCallerThen_24 rfl rfl ?_
        refine x_get (ci := 6) (C := RX6) (T := TX6) (N := 12) (k := 6) F dX6_isCallerThen_25 rfl inX6 (by decide) q71 rfl hR.main rfl ?_
        refine x_cVi2 (ci := 1) (C := RX1) (T := TX1) (N := 8) F dX6_isCallerThen_28 (x_gV q186 q187 q188 q13 q189) rfl (c_isCallerOf hR hk hi (kG K 0)) ⟨rfl, rfl, rfl, xd_X1_isCallerOf, ⟨Nat.le_of_ble_eq_true rfl, Nat.le_of_ble_eq_true rfl⟩, Nat.le_of_ble_eq_true rfl, Nat.le_of_ble_eq_true rfl⟩ rfl (hR.cli hk) (Nat.le_of_ble_eq_true rfl) (fun v1 w1 hp => ?_)
        obtain ⟨rfl, hw9⟩ := hp
        replace hw9 := hw9.symm
        subst hw9
        refine x_if_eq F dX6_isCallerThen_31 rfl (fun h31 => ?_) (fun h31 => ?_)
        · have hp : f_then K k i h g = false := by unfold f_then; rw [g6, g11, x_b_eq.mp h31, Bool.and_false]; rfl
          refine x_iconst (v := 0) F dX6_isCallerThen_38 (by decide) ?_
          refine x_iret F rfl rfl dX6_isCallerThen_39 (Nat.le_refl _) (Nat.le_refl _) ?_
          exact ⟨_, rfl, congrArg Value.int (by rw [hp]; rfl), rfl⟩
        · have hp : f_then K k i h g = true := by unfold f_then; rw [g6, g11, x_b_ne.mp h31, decide_eq_true h19]; rfl
          refine x_iconst (v := 1) F dX6_isCallerThen_34 (by decide) ?_
          refine x_goto F dX6_isCallerThen_35 rfl ?_
          refine x_iret F rfl rfl dX6_isCallerThen_39 (Nat.le_refl _) (Nat.le_refl _) ?_
          exact ⟨_, rfl, congrArg Value.int (by rw [hp]; rfl), rfl⟩
def p_hin (K : kT) (i : Nat) (h : Int32) (g : Bool) (k : Nat) : Bool := decide (k < nc K) && ((!f_warned (kVA K i) (kV K i 8) (kC K k 0) h) && (f_then K k i h g && !(f_best K k i (some i)).isSome))
theorem nI_eq0 {n : Nat} (h : n < 2 ^ 31) : nI n = 0 ↔ n = 0 := nI_eq (b := 0) h (by decide)
set_option maxRecDepth 100000 in
set_option maxHeartbeats 4000000 in
theorem c_countHinderers (hR : Rep Z K J w) {i : Nat} (hi : vOk K i) (h : Int32) (g : Bool) : Ci l D dA B yX6_countHinderers wX6_countHinderers 7 [.ref (Z 0 0), .ref (Z 10 i), .ref (Z 11 i), .int h, .int (x_b g)] w (QP Z K w (nI (f_cnt (p_hin K i h g) 10))) := by
  refine x_Ct.of (cc := cX6_countHinderers) (maxL := 8) (by decide) rfl (Nat.le_of_ble_eq_true rfl) ?_
  intro p e s m below meth c F
  have loop : ∀ n1 k, k + n1 = 10 → ∀ Jz wz, Rep Z K Jz wz → Oth Z K w wz → X p l e (rmd 7 0 0) s m #[.ref (Z 0 0), .ref (Z 10 i), .ref (Z 11 i), .int h, .int (x_b g)] below meth c (MQ below (x_Q D dA vwCl tyL0 B (fun r w1 => ∃ v, r = some v ∧ (QP Z K w (nI (f_cnt (p_hin K i h g) 10)) v w1))) #[.ref (Z 0 0), .ref (Z 10 i), .ref (Z 11 i), .int h, .int (x_b g)] s 0 0 (fun q => B ≤ q)) D dA vwCl B 8 0 0 6 [(0, .ref (Z 0 0)), (1, .ref (Z 10 i)), (2, .ref (Z 11 i)), (3, .int h), (4, .int (x_b g)), (5, .int (nI (f_cnt (p_hin K i h g) k))), (6, .int (nI k))] [] wz := by
    intro n1
    induction n1 with
    | zero =>
      intro k hk Jz wz hR hO
      obtain rfl : k = 10 := by omega
      refine x_iload F dX6_countHinderers_6 rfl ?_
      refine x_aload_n F dX6_countHinderers_8 rfl rfl ?_
      refine x_get (ci := 6) (C := RX6) (T := TX6) (N := 12) (k := 1) F dX6_countHinderers_9 rfl inX6 (by decide) q66 rfl hR.main rfl ?_
      refine x_alen (v := 10) F dX6_countHinderers_12 rfl hR.clients rfl ?_
      refine x_icmp_ge F dX6_countHinderers_13 rfl (fun h13 => ?_) (fun hc => absurd hc (fun q => q (Int32.le_refl _)))
      refine x_iload F dX6_countHinderers_76 rfl ?_
      refine x_iret F rfl rfl dX6_countHinderers_78 (Nat.le_refl _) (Nat.le_refl _) ?_
      exact ⟨_, rfl, _, rfl, hR, hO⟩
    | succ n1 ih =>
      intro k hk Jz wz hR hO
      refine x_iload F dX6_countHinderers_6 rfl ?_
      refine x_aload_n F dX6_countHinderers_8 rfl rfl ?_
      refine x_get (ci := 6) (C := RX6) (T := TX6) (N := 12) (k := 1) F dX6_countHinderers_9 rfl inX6 (by decide) q66 rfl hR.main rfl ?_
      refine x_alen (v := 10) F dX6_countHinderers_12 rfl hR.clients rfl ?_
      refine x_icmp_ge F dX6_countHinderers_13 rfl (fun hc => absurd hc (nI_ge (b := 10) (by omega) (by decide))) (fun h13 => ?_)
      refine x_aload_n F dX6_countHinderers_16 rfl rfl ?_
      refine x_get (ci := 6) (C := RX6) (T := TX6) (N := 12) (k := 1) F dX6_countHinderers_17 rfl inX6 (by decide) q66 rfl hR.main rfl ?_
      refine x_iload F dX6_countHinderers_20 rfl ?_
      refine x_aaldN F dX6_countHinderers_22 rfl hR.clients (by omega) (by decide) ?_
      by_cases hk2 : k < nc K
      · simp only [if_pos hk2]
        refine x_astore F dX6_countHinderers_23 (by decide) ?_
        refine x_aload F dX6_countHinderers_25 rfl ?_
        refine x_ifnull F dX6_countHinderers_27 ?_
        refine x_aload_n F dX6_countHinderers_30 rfl rfl ?_
        refine x_aload F dX6_countHinderers_31 rfl ?_
        refine x_get (ci := 1) (C := RX1) (T := TX1) (N := 8) (k := 0) F dX6_countHinderers_33 rfl inX1 (by decide) q246 rfl (hR.cli hk2) rfl ?_
        refine x_iload_n F dX6_countHinderers_36 rfl rfl ?_
        refine x_cVi2 (ci := 3) (C := RX3) (T := TX3) (N := 4) F dX6_countHinderers_37 (x_gV q197 q198 q199 q3 q200) rfl (c_isWarned (hR.ret hi) (hR.ask hi) (kC K k 0) h) ⟨rfl, rfl, rfl, xd_X3_isWarned, ⟨Nat.le_of_ble_eq_true rfl, Nat.le_of_ble_eq_true rfl⟩, Nat.le_of_ble_eq_true rfl, Nat.le_of_ble_eq_true rfl⟩ rfl (hR.ret hi) (Nat.le_of_ble_eq_true rfl) (fun v1 w1 hp => ?_)
        obtain ⟨rfl, hw9⟩ := hp
        replace hw9 := hw9.symm
        subst hw9
        refine x_if_ne F dX6_countHinderers_40 rfl (fun h40 => ?_) (fun h40 => ?_)
        · have hp : p_hin K i h g k = false := by unfold p_hin; rw [x_b_ne.mp h40, Bool.not_true, Bool.false_and, Bool.and_false]
          refine x_iincN F dX6_countHinderers_70 (by decide) rfl (by decide) ?_
          refine x_goto F dX6_countHinderers_73 rfl ?_
          have h9 := ih (k + 1) (by omega) _ _ hR hO
          first
            | (rw [f_cnt_t (p := p_hin K i h g) (k := k) hp] at h9; exact x_lk h9 ⟨rfl, rfl, rfl, rfl, rfl, rfl, rfl, trivial⟩)
            | (rw [f_cnt_f (p := p_hin K i h g) (k := k) hp] at h9; exact x_lk h9 ⟨rfl, rfl, rfl, rfl, rfl, rfl, rfl, trivial⟩)
        · have g40 : f_warned (kVA K i) (kV K i 8) (kC K k 0) h = false := by cases hq : f_warned (kVA K i) (kV K i 8) (kC K k 0) h with | false => rfl | true => rw [hq] at h40; exact absurd h40 (by decide)
          refine x_aload_n F dX6_countHinderers_43 rfl rfl ?_
          refine x_aload F dX6_countHinderers_44 rfl ?_
          refine x_aload_n F dX6_countHinderers_46 rfl rfl ?_
          refine x_iload_n F dX6_countHinderers_47 rfl rfl ?_
          refine x_iload F dX6_countHinderers_48 rfl ?_
          refine x_cVi4 (ci := 6) (C := RX6) (T := TX6) (N := 12) F dX6_countHinderers_50 (x_gV q209 q210 q453 q1 q211) rfl (c_isCallerThen hR hk2 hi h g) ⟨rfl, rfl, rfl, xd_X6_isCallerThen, ⟨Nat.le_of_ble_eq_true rfl, Nat.le_of_ble_eq_true rfl⟩, Nat.le_of_ble_eq_true rfl, Nat.le_of_ble_eq_true rfl⟩ rfl hR.main (Nat.le_of_ble_eq_true rfl) (fun v1 w1 hp => ?_)
          obtain ⟨rfl, hw9⟩ := hp
          replace hw9 := hw9.symm
          subst hw9
          refine x_if_eq F dX6_countHinderers_53 rfl (fun h53 => ?_) (fun h53 => ?_)
          · have hp : p_hin K i h g k = false := by unfold p_hin; rw [x_b_eq.mp h53, Bool.false_and, Bool.and_false, Bool.and_false]
            refine x_iincN F dX6_countHinderers_70 (by decide) rfl (by decide) ?_
            refine x_goto F dX6_countHinderers_73 rfl ?_
            have h9 := ih (k + 1) (by omega) _ _ hR hO
            first
              | (rw [f_cnt_t (p := p_hin K i h g) (k := k) hp] at h9; exact x_lk h9 ⟨rfl, rfl, rfl, rfl, rfl, rfl, rfl, trivial⟩)
              | (rw [f_cnt_f (p := p_hin K i h g) (k := k) hp] at h9; exact x_lk h9 ⟨rfl, rfl, rfl, rfl, rfl, rfl, rfl, trivial⟩)
          · have g53 := x_b_ne.mp h53
            refine x_aload_n F dX6_countHinderers_56 rfl rfl ?_
            refine x_aload F dX6_countHinderers_57 rfl ?_
            refine x_aload_n F dX6_countHinderers_59 rfl rfl ?_
            refine x_aload_n F dX6_countHinderers_60 rfl rfl ?_
            refine x_cVi3 (ci := 6) (C := RX6) (T := TX6) (N := 12) F dX6_countHinderers_61 (x_gV q212 q213 q454 q1 q214) rfl (c_findRouteS hR hk2 hi hi) ⟨rfl, rfl, rfl, xd_X6_findRoute, ⟨Nat.le_of_ble_eq_true rfl, Nat.le_of_ble_eq_true rfl⟩, Nat.le_of_ble_eq_true rfl, Nat.le_of_ble_eq_true rfl⟩ rfl hR.main (Nat.le_of_ble_eq_true rfl) (fun v1 w1 hp => ?_)
            obtain ⟨J2, rfl, hR, hO2, _, _⟩ := hp
            have hO := hO.trans hO2 rfl
            refine x_if_ne F dX6_countHinderers_64 rfl (fun h64 => ?_) (fun h64 => ?_)
            · have hp : p_hin K i h g k = false := by unfold p_hin; rw [x_b_ne.mp h64, Bool.not_true, Bool.and_false, Bool.and_false, Bool.and_false]
              refine x_iincN F dX6_countHinderers_70 (by decide) rfl (by decide) ?_
              refine x_goto F dX6_countHinderers_73 rfl ?_
              have h9 := ih (k + 1) (by omega) _ _ hR hO
              first
                | (rw [f_cnt_t (p := p_hin K i h g) (k := k) hp] at h9; exact x_lk h9 ⟨rfl, rfl, rfl, rfl, rfl, rfl, rfl, trivial⟩)
                | (rw [f_cnt_f (p := p_hin K i h g) (k := k) hp] at h9; exact x_lk h9 ⟨rfl, rfl, rfl, rfl, rfl, rfl, rfl, trivial⟩)
            · have g64 : (f_best K k i (some i)).isSome = false := by cases hq : (f_best K k i (some i)).isSome with | false => rfl | true => rw [hq] at h64; exact absurd h64 (by decide)
              have hp : p_hin K i h g k = true := by unfold p_hin; rw [g64, g53, g40, decide_eq_true hk2]; rfl
              refine x_iincN F dX6_countHinderers_67 (by decide) rfl (by decide) ?_
              refine x_iincN F dX6_countHinderers_70 (by decide) rfl (by decide) ?_
              refine x_goto F dX6_countHinderers_73 rfl ?_
              have h9 := ih (k + 1) (by omega) _ _ hR hO
              first
                | (rw [f_cnt_t (p := p_hin K i h g) (k := k) hp] at h9; exact x_lk h9 ⟨rfl, rfl, rfl, rfl, rfl, rfl, rfl, trivial⟩)
                | (rw [f_cnt_f (p := p_hin K i h g) (k := k) hp] at h9; exact x_lk h9 ⟨rfl, rfl, rfl, rfl, rfl, rfl, rfl, trivial⟩)
      · simp only [if_neg hk2]
        have hp : p_hin K i h g k = false := by unfold p_hin; rw [decide_eq_false hk2]; rfl
        refine x_astoreN F dX6_countHinderers_23 (by decide) ?_
        refine x_aloadN F dX6_countHinderers_25 rfl ?_
        refine x_ifnullN F dX6_countHinderers_27 rfl ?_
        refine x_iincN F dX6_countHinderers_70 (by decide) rfl (by decide) ?_
        refine x_goto F dX6_countHinderers_73 rfl ?_
        have h9 := ih (k + 1) (by omega) _ _ hR hO
        first
          | (rw [f_cnt_t (p := p_hin K i h g) (k := k) hp] at h9; exact x_lk h9 ⟨rfl, rfl, rfl, rfl, rfl, rfl, rfl, trivial⟩)
          | (rw [f_cnt_f (p := p_hin K i h g) (k := k) hp] at h9; exact x_lk h9 ⟨rfl, rfl, rfl, rfl, rfl, rfl, rfl, trivial⟩)
  refine x_iconst (v := 0) F dX6_countHinderers_0 (by decide) ?_
  refine x_istore F dX6_countHinderers_1 (by decide) ?_
  refine x_iconst (v := 0) F dX6_countHinderers_3 (by decide) ?_
  refine x_istore F dX6_countHinderers_4 (by decide) ?_
  exact x_lk (loop 10 0 (by omega) J w hR Oth.rfl) ⟨rfl, rfl, rfl, rfl, rfl, rfl, rfl, trivial⟩
/-- in how many hours nobody hinders, looked for at an end and at those that are put off -/
def f_till (K : kT) (i : Nat) (g : Bool) (n : Nat) (en : Int32) : Int32 := match n with
  | 0 => -1
  | n + 1 => if f_cnt (p_hin K i en g) 10 = 0 then en - kG K 0 else f_till K i g n (en + 24)
set_option maxRecDepth 100000 in
set_option maxHeartbeats 4000000 in
theorem c_hoursTillGone (hR : Rep Z K J w) {i : Nat} (hi : vOk K i) (g : Bool) : Ci l D dA B yX6_hoursTillGone wX6_hoursTillGone 8 [.ref (Z 0 0), .ref (Z 10 i), .ref (Z 11 i), .int (x_b g)] w (QP Z K w (f_till K i g 100 (kV K i 7))) := by
  refine x_Ct.of (cc := cX6_hoursTillGone) (maxL := 6) (by decide) rfl (Nat.le_of_ble_eq_true rfl) ?_
  intro p e s m below meth c F
  have loop : ∀ n1 k, k + n1 = 100 → ∀ en Jz wz, Rep Z K Jz wz → Oth Z K w wz → f_till K i g 100 (kV K i 7) = f_till K i g n1 en → X p l e (rmd 8 0 0) s m #[.ref (Z 0 0), .ref (Z 10 i), .ref (Z 11 i), .int (x_b g)] below meth c (MQ below (x_Q D dA vwCl tyL0 B (fun r w1 => ∃ v, r = some v ∧ (QP Z K w (f_till K i g 100 (kV K i 7)) v w1))) #[.ref (Z 0 0), .ref (Z 10 i), .ref (Z 11 i), .int (x_b g)] s 0 0 (fun q => B ≤ q)) D dA vwCl B 6 0 0 9 [(0, .ref (Z 0 0)), (1, .ref (Z 10 i)), (2, .ref (Z 11 i)), (3, .int (x_b g)), (4, .int en), (5, .int (nI k))] [] wz := by
    intro n1
    induction n1 with
    | zero =>
      intro k hk en Jz wz hR hO hf
      obtain rfl : k = 100 := by omega
      refine x_iload F dX6_hoursTillGone_9 rfl ?_
      refine x_bipush (v := 100) F dX6_hoursTillGone_11 (by decide) ?_
      refine x_icmp_ge F dX6_hoursTillGone_13 rfl (fun h13 => ?_) (fun hc => absurd hc (fun q => q (Int32.le_refl _)))
      refine x_iconst (v := (-1)) F dX6_hoursTillGone_45 (by decide) ?_
      refine x_iret F rfl rfl dX6_hoursTillGone_46 (Nat.le_refl _) (Nat.le_refl _) ?_
      exact ⟨_, rfl, _, by rw [hf]; rfl, hR, hO⟩
    | succ n1 ih =>
      intro k hk en Jz wz hR hO hf
      refine x_iload F dX6_hoursTillGone_9 rfl ?_
      refine x_bipush (v := 100) F dX6_hoursTillGone_11 (by decide) ?_
      refine x_icmp_ge F dX6_hoursTillGone_13 rfl (fun hc => absurd hc (nI_ge (b := 100) (by omega) (by decide))) (fun h13 => ?_)
      refine x_aload_n F dX6_hoursTillGone_16 rfl rfl ?_
      refine x_aload_n F dX6_hoursTillGone_17 rfl rfl ?_
      refine x_aload_n F dX6_hoursTillGone_18 rfl rfl ?_
      refine x_iload F dX6_hoursTillGone_19 rfl ?_
      refine x_iload_n F dX6_hoursTillGone_21 rfl rfl ?_
      refine x_cVi4 (ci := 6) (C := RX6) (T := TX6) (N := 12) F dX6_hoursTillGone_22 (x_gV q194 q195 q452 q1 q196) rfl (c_countHinderers hR hi en g) ⟨rfl, rfl, rfl, xd_X6_countHinderers, ⟨Nat.le_of_ble_eq_true rfl, Nat.le_of_ble_eq_true rfl⟩, Nat.le_of_ble_eq_true rfl, Nat.le_of_ble_eq_true rfl⟩ rfl hR.main (Nat.le_of_ble_eq_true rfl) (fun v1 w1 hp => ?_)
      obtain ⟨J2, rfl, hR, hO2⟩ := hp
      have hO := hO.trans hO2 rfl
      have hle := f_cnt_le (p_hin K i en g) 10
      refine x_if_ne F dX6_hoursTillGone_25 rfl (fun h25 => ?_) (fun h25 => ?_)
      · rw [nI_eq0 (by omega)] at h25
        rw [show f_till K i g (n1 + 1) en = f_till K i g n1 (en + 24) from if_neg h25] at hf
        refine x_iinc (v := 24) F dX6_hoursTillGone_36 (by decide) rfl (by decide) ?_
        refine x_iincN F dX6_hoursTillGone_39 (by decide) rfl (by decide) ?_
        refine x_goto F dX6_hoursTillGone_42 rfl ?_
        exact x_lk (ih (k + 1) (by omega) (en + 24) _ _ hR hO hf) ⟨rfl, rfl, rfl, rfl, rfl, rfl, trivial⟩
      · rw [nI_eq0 (by omega)] at h25
        rw [show f_till K i g (n1 + 1) en = en - kG K 0 from if_pos h25] at hf
        refine x_iload F dX6_hoursTillGone_28 rfl ?_
        refine x_aload_n F dX6_hoursTillGone_30 rfl rfl ?_
        refine x_get (ci := 6) (C := RX6) (T := TX6) (N := 12) (k := 6) F dX6_hoursTillGone_31 rfl inX6 (by decide) q71 rfl hR.main rfl ?_
        refine x_isub F dX6_hoursTillGone_34 ?_
        refine x_iret F rfl rfl dX6_hoursTillGone_35 (Nat.le_refl _) (Nat.le_refl _) ?_
        exact ⟨_, rfl, _, by rw [hf], hR, hO⟩
  refine x_aload_n F dX6_hoursTillGone_0 rfl rfl ?_
  refine x_get (ci := 3) (C := RX3) (T := TX3) (N := 4) (k := 2) F dX6_hoursTillGone_1 rfl inX3 (by decide) q58 rfl (hR.ret hi) rfl ?_
  refine x_istore F dX6_hoursTillGone_4 (by decide) ?_
  refine x_iconst (v := 0) F dX6_hoursTillGone_6 (by decide) ?_
  refine x_istore F dX6_hoursTillGone_7 (by decide) ?_
  exact x_lk (loop 100 0 (by omega) (kV K i 7) J w hR Oth.rfl rfl) ⟨rfl, rfl, rfl, rfl, rfl, rfl, trivial⟩
def f_left (K : kT) (i : Nat) : Int32 := if kV K i 2 = 0 then -1 else if kV K i 2 = 2 then 0 else f_till K i true 100 (kV K i 7)
def f_stin (K : kT) (k : Nat) (hh : Int32) : Int32 := if kV K (kCV K k) 2 = 1 ∧ ¬ f_till K (kCV K k) false 100 (kV K (kCV K k) 7) = -1 ∧ f_till K (kCV K k) false 100 (kV K (kCV K k) 7) ≤ hh then 2 else kV K (kCV K k) 2
def f_ocin (K : kT) (k : Nat) (hh : Int32) : Int32 := f_outc K k (f_stin K k hh) (kG K 0 + hh) (if hh = 0 then f_served K k (kCV K k) else 0)
set_option maxRecDepth 100000 in
set_option maxHeartbeats 4000000 in
theorem c_hoursLeft (hR : Rep Z K J w) {i : Nat} (hi : vOk K i) : Ci l D dA B yX6_hoursLeft wX6_hoursLeft 9 [.ref (Z 0 0), .ref (Z 10 i)] w (QP Z K w (f_left K i)) := by
  refine x_Ct.of (cc := cX6_hoursLeft) (maxL := 2) (by decide) rfl (Nat.le_of_ble_eq_true rfl) ?_
  intro p e s m below meth c F
  refine x_aload_n F dX6_hoursLeft_0 rfl rfl ?_
  refine x_get (ci := 5) (C := RX5) (T := TX5) (N := 9) (k := 5) F dX6_hoursLeft_1 rfl inX5 (by decide) q149 rfl (hR.ver hi) rfl ?_
  refine x_if_ne F dX6_hoursLeft_4 rfl (fun h4 => ?_) (fun h4 => ?_)
  · refine x_aload_n F dX6_hoursLeft_9 rfl rfl ?_
    refine x_get (ci := 5) (C := RX5) (T := TX5) (N := 9) (k := 5) F dX6_hoursLeft_10 rfl inX5 (by decide) q149 rfl (hR.ver hi) rfl ?_
    refine x_iconst (v := 2) F dX6_hoursLeft_13 (by decide) ?_
    refine x_icmp_ne F dX6_hoursLeft_14 rfl (fun h14 => ?_) (fun h14 => ?_)
    · refine x_aload_n F dX6_hoursLeft_21 rfl rfl ?_
      refine x_aload_n F dX6_hoursLeft_22 rfl rfl ?_
      refine x_aload_n F dX6_hoursLeft_23 rfl rfl ?_
      refine x_get (ci := 5) (C := RX5) (T := TX5) (N := 9) (k := 4) F dX6_hoursLeft_24 rfl inX5 (by decide) q147 rfl (hR.ver hi) rfl ?_
      refine x_iconst (v := 1) F dX6_hoursLeft_27 (by decide) ?_
      refine x_cVi3 (ci := 6) (C := RX6) (T := TX6) (N := 12) F dX6_hoursLeft_28 (x_gV q394 q395 q467 q1 q396) rfl (c_hoursTillGone hR hi true) ⟨rfl, rfl, rfl, xd_X6_hoursTillGone, ⟨Nat.le_of_ble_eq_true rfl, Nat.le_of_ble_eq_true rfl⟩, Nat.le_of_ble_eq_true rfl, Nat.le_of_ble_eq_true rfl⟩ rfl hR.main (Nat.le_of_ble_eq_true rfl) (fun v1 w1 hp => ?_)
      obtain ⟨J2, rfl, hR, hO⟩ := hp
      refine x_iret F rfl rfl dX6_hoursLeft_31 (Nat.le_refl _) (Nat.le_refl _) ?_
      first
        | exact ⟨_, rfl, _, congrArg Value.int ((if_neg h4).trans (if_pos h14)).symm, hR, Oth.rfl⟩
        | exact ⟨_, rfl, _, congrArg Value.int ((if_neg h4).trans (if_neg h14)).symm, hR, hO⟩
    · refine x_iconst (v := 0) F dX6_hoursLeft_17 (by decide) ?_
      refine x_goto F dX6_hoursLeft_18 rfl ?_
      refine x_iret F rfl rfl dX6_hoursLeft_31 (Nat.le_refl _) (Nat.le_refl _) ?_
      first
        | exact ⟨_, rfl, _, congrArg Value.int ((if_neg h4).trans (if_pos h14)).symm, hR, Oth.rfl⟩
        | exact ⟨_, rfl, _, congrArg Value.int ((if_neg h4).trans (if_neg h14)).symm, hR, hO⟩
  · refine x_iconst (v := (-1)) F dX6_hoursLeft_7 (by decide) ?_
    refine x_iret F rfl rfl dX6_hoursLeft_8 (Nat.le_refl _) (Nat.le_refl _) ?_
    exact ⟨_, rfl, _, congrArg Value.int (if_pos h4).symm, hR, Oth.rfl⟩
set_option maxRecDepth 100000 in
set_option maxHeartbeats 4000000 in
theorem c_outcomeIn (hR : Rep Z K J w) {k : Nat} (hk : k < nc K) (hh : Int32) : Ci l D dA B yX6_outcomeIn wX6_outcomeIn 9 [.ref (Z 0 0), .ref (Z 13 k), .int hh] w (QP Z K w (f_ocin K k hh)) := by
  refine x_Ct.of (cc := cX6_outcomeIn) (maxL := 6) (by decide) rfl (Nat.le_of_ble_eq_true rfl) ?_
  intro p e s m below meth c F
  have hO : Oth Z K w w := Oth.rfl
  refine x_aload_n F dX6_outcomeIn_0 rfl rfl ?_
  refine x_get (ci := 1) (C := RX1) (T := TX1) (N := 8) (k := 4) F dX6_outcomeIn_1 rfl inX1 (by decide) q253 rfl (hR.cli hk) rfl ?_
  refine x_astore_n F dX6_outcomeIn_4 rfl (by decide) ?_
  refine x_aload_n F dX6_outcomeIn_5 rfl rfl ?_
  refine x_get (ci := 5) (C := RX5) (T := TX5) (N := 9) (k := 5) F dX6_outcomeIn_6 rfl inX5 (by decide) q149 rfl (hR.ver (hR.cv hk)) rfl ?_
  refine x_istore F dX6_outcomeIn_9 (by decide) ?_
  refine x_iload F dX6_outcomeIn_11 rfl ?_
  refine x_iconst (v := 1) F dX6_outcomeIn_13 (by decide) ?_
  refine x_icmp_ne F dX6_outcomeIn_14 rfl (fun h14 => ?_) (fun h14 => ?_)
  · have hst : f_stin K k hh = kV K (kCV K k) 2 := if_neg (fun q => h14 q.1)
    refine x_aload_n F dX6_outcomeIn_44 rfl rfl ?_
    refine x_aload_n F dX6_outcomeIn_45 rfl rfl ?_
    refine x_iload F dX6_outcomeIn_46 rfl ?_
    refine x_aload_n F dX6_outcomeIn_48 rfl rfl ?_
    refine x_get (ci := 6) (C := RX6) (T := TX6) (N := 12) (k := 6) F dX6_outcomeIn_49 rfl inX6 (by decide) q71 rfl hR.main rfl ?_
    refine x_iload_n F dX6_outcomeIn_52 rfl rfl ?_
    refine x_iadd F dX6_outcomeIn_53 ?_
    refine x_iload_n F dX6_outcomeIn_54 rfl rfl ?_
    refine x_if_ne F dX6_outcomeIn_55 rfl (fun h55 => ?_) (fun h55 => ?_)
    · have hsv : (if hh = 0 then f_served K k (kCV K k) else 0) = 0 := if_neg h55
      refine x_iconst (v := 0) F dX6_outcomeIn_66 (by decide) ?_
      refine x_cVi4 (ci := 6) (C := RX6) (T := TX6) (N := 12) F dX6_outcomeIn_67 (x_gV q323 q324 q460 q1 q325) rfl (c_outcomeOf hR hk _ (kG K 0 + hh) _) ⟨rfl, rfl, rfl, xd_X6_outcomeOf, ⟨Nat.le_of_ble_eq_true rfl, Nat.le_of_ble_eq_true rfl⟩, Nat.le_of_ble_eq_true rfl, Nat.le_of_ble_eq_true rfl⟩ rfl hR.main (Nat.le_of_ble_eq_true rfl) (fun v1 w1 hp => ?_)
      obtain ⟨J3, rfl, hR, hO2⟩ := hp
      have hO := hO.trans hO2 rfl
      refine x_iret F rfl rfl dX6_outcomeIn_70 (Nat.le_refl _) (Nat.le_refl _) ?_
      exact ⟨_, rfl, _, congrArg Value.int (by unfold f_ocin; rw [hst, hsv]), hR, hO⟩
    · have hsv : (if hh = 0 then f_served K k (kCV K k) else 0) = f_served K k (kCV K k) := if_pos h55
      refine x_aload_n F dX6_outcomeIn_58 rfl rfl ?_
      refine x_aload_n F dX6_outcomeIn_59 rfl rfl ?_
      refine x_cVi1 (ci := 1) (C := RX1) (T := TX1) (N := 8) F dX6_outcomeIn_60 (x_gV q319 q320 q321 q13 q322) rfl (c_servedThisHourBy hR hk (hR.cv hk)) ⟨rfl, rfl, rfl, xd_X1_servedThisHourBy, ⟨Nat.le_of_ble_eq_true rfl, Nat.le_of_ble_eq_true rfl⟩, Nat.le_of_ble_eq_true rfl, Nat.le_of_ble_eq_true rfl⟩ rfl (hR.cli hk) (Nat.le_of_ble_eq_true rfl) (fun v1 w1 hp => ?_)
      obtain ⟨rfl, hw9⟩ := hp
      replace hw9 := hw9.symm
      subst hw9
      refine x_goto F dX6_outcomeIn_63 rfl ?_
      refine x_cVi4 (ci := 6) (C := RX6) (T := TX6) (N := 12) F dX6_outcomeIn_67 (x_gV q323 q324 q460 q1 q325) rfl (c_outcomeOf hR hk _ (kG K 0 + hh) _) ⟨rfl, rfl, rfl, xd_X6_outcomeOf, ⟨Nat.le_of_ble_eq_true rfl, Nat.le_of_ble_eq_true rfl⟩, Nat.le_of_ble_eq_true rfl, Nat.le_of_ble_eq_true rfl⟩ rfl hR.main (Nat.le_of_ble_eq_true rfl) (fun v1 w1 hp => ?_)
      obtain ⟨J3, rfl, hR, hO2⟩ := hp
      have hO := hO.trans hO2 rfl
      refine x_iret F rfl rfl dX6_outcomeIn_70 (Nat.le_refl _) (Nat.le_refl _) ?_
      exact ⟨_, rfl, _, congrArg Value.int (by unfold f_ocin; rw [hst, hsv]), hR, hO⟩
  · refine x_aload_n F dX6_outcomeIn_17 rfl rfl ?_
    refine x_aload_n F dX6_outcomeIn_18 rfl rfl ?_
    refine x_aload_n F dX6_outcomeIn_19 rfl rfl ?_
    refine x_get (ci := 5) (C := RX5) (T := TX5) (N := 9) (k := 4) F dX6_outcomeIn_20 rfl inX5 (by decide) q147 rfl (hR.ver (hR.cv hk)) rfl ?_
    refine x_iconst (v := 0) F dX6_outcomeIn_23 (by decide) ?_
    refine x_cVi3 (ci := 6) (C := RX6) (T := TX6) (N := 12) F dX6_outcomeIn_24 (x_gV q394 q395 q467 q1 q396) rfl (c_hoursTillGone hR (hR.cv hk) false) ⟨rfl, rfl, rfl, xd_X6_hoursTillGone, ⟨Nat.le_of_ble_eq_true rfl, Nat.le_of_ble_eq_true rfl⟩, Nat.le_of_ble_eq_true rfl, Nat.le_of_ble_eq_true rfl⟩ rfl hR.main (Nat.le_of_ble_eq_true rfl) (fun v1 w1 hp => ?_)
    obtain ⟨J2, rfl, hR, hO2⟩ := hp
    have hO := hO.trans hO2 rfl
    refine x_istore F dX6_outcomeIn_27 (by decide) ?_
    refine x_iload F dX6_outcomeIn_29 rfl ?_
    refine x_iconst (v := (-1)) F dX6_outcomeIn_31 (by decide) ?_
    refine x_icmp_eq F dX6_outcomeIn_32 rfl (fun h32 => ?_) (fun h32 => ?_)
    · have hst : f_stin K k hh = kV K (kCV K k) 2 := if_neg (fun q => q.2.1 h32)
      refine x_aload_n F dX6_outcomeIn_44 rfl rfl ?_
      refine x_aload_n F dX6_outcomeIn_45 rfl rfl ?_
      refine x_iload F dX6_outcomeIn_46 rfl ?_
      refine x_aload_n F dX6_outcomeIn_48 rfl rfl ?_
      refine x_get (ci := 6) (C := RX6) (T := TX6) (N := 12) (k := 6) F dX6_outcomeIn_49 rfl inX6 (by decide) q71 rfl hR.main rfl ?_
      refine x_iload_n F dX6_outcomeIn_52 rfl rfl ?_
      refine x_iadd F dX6_outcomeIn_53 ?_
      refine x_iload_n F dX6_outcomeIn_54 rfl rfl ?_
      refine x_if_ne F dX6_outcomeIn_55 rfl (fun h55 => ?_) (fun h55 => ?_)
      · have hsv : (if hh = 0 then f_served K k (kCV K k) else 0) = 0 := if_neg h55
        refine x_iconst (v := 0) F dX6_outcomeIn_66 (by decide) ?_
        refine x_cVi4 (ci := 6) (C := RX6) (T := TX6) (N := 12) F dX6_outcomeIn_67 (x_gV q323 q324 q460 q1 q325) rfl (c_outcomeOf hR hk _ (kG K 0 + hh) _) ⟨rfl, rfl, rfl, xd_X6_outcomeOf, ⟨Nat.le_of_ble_eq_true rfl, Nat.le_of_ble_eq_true rfl⟩, Nat.le_of_ble_eq_true rfl, Nat.le_of_ble_eq_true rfl⟩ rfl hR.main (Nat.le_of_ble_eq_true rfl) (fun v1 w1 hp => ?_)
        obtain ⟨J3, rfl, hR, hO2⟩ := hp
        have hO := hO.trans hO2 rfl
        refine x_iret F rfl rfl dX6_outcomeIn_70 (Nat.le_refl _) (Nat.le_refl _) ?_
        exact ⟨_, rfl, _, congrArg Value.int (by unfold f_ocin; rw [hst, hsv]), hR, hO⟩
      · have hsv : (if hh = 0 then f_served K k (kCV K k) else 0) = f_served K k (kCV K k) := if_pos h55
        refine x_aload_n F dX6_outcomeIn_58 rfl rfl ?_
        refine x_aload_n F dX6_outcomeIn_59 rfl rfl ?_
        refine x_cVi1 (ci := 1) (C := RX1) (T := TX1) (N := 8) F dX6_outcomeIn_60 (x_gV q319 q320 q321 q13 q322) rfl (c_servedThisHourBy hR hk (hR.cv hk)) ⟨rfl, rfl, rfl, xd_X1_servedThisHourBy, ⟨Nat.le_of_ble_eq_true rfl, Nat.le_of_ble_eq_true rfl⟩, Nat.le_of_ble_eq_true rfl, Nat.le_of_ble_eq_true rfl⟩ rfl (hR.cli hk) (Nat.le_of_ble_eq_true rfl) (fun v1 w1 hp => ?_)
        obtain ⟨rfl, hw9⟩ := hp
        replace hw9 := hw9.symm
        subst hw9
        refine x_goto F dX6_outcomeIn_63 rfl ?_
        refine x_cVi4 (ci := 6) (C := RX6) (T := TX6) (N := 12) F dX6_outcomeIn_67 (x_gV q323 q324 q460 q1 q325) rfl (c_outcomeOf hR hk _ (kG K 0 + hh) _) ⟨rfl, rfl, rfl, xd_X6_outcomeOf, ⟨Nat.le_of_ble_eq_true rfl, Nat.le_of_ble_eq_true rfl⟩, Nat.le_of_ble_eq_true rfl, Nat.le_of_ble_eq_true rfl⟩ rfl hR.main (Nat.le_of_ble_eq_true rfl) (fun v1 w1 hp => ?_)
        obtain ⟨J3, rfl, hR, hO2⟩ := hp
        have hO := hO.trans hO2 rfl
        refine x_iret F rfl rfl dX6_outcomeIn_70 (Nat.le_refl _) (Nat.le_refl _) ?_
        exact ⟨_, rfl, _, congrArg Value.int (by unfold f_ocin; rw [hst, hsv]), hR, hO⟩
    · refine x_iload F dX6_outcomeIn_35 rfl ?_
      refine x_iload_n F dX6_outcomeIn_37 rfl rfl ?_
      refine x_icmp_gt F dX6_outcomeIn_38 rfl (fun h38 => ?_) (fun h38 => ?_)
      · have hst : f_stin K k hh = kV K (kCV K k) 2 := if_neg (fun q => absurd q.2.2 (Int32.not_le.mpr h38))
        refine x_aload_n F dX6_outcomeIn_44 rfl rfl ?_
        refine x_aload_n F dX6_outcomeIn_45 rfl rfl ?_
        refine x_iload F dX6_outcomeIn_46 rfl ?_
        refine x_aload_n F dX6_outcomeIn_48 rfl rfl ?_
        refine x_get (ci := 6) (C := RX6) (T := TX6) (N := 12) (k := 6) F dX6_outcomeIn_49 rfl inX6 (by decide) q71 rfl hR.main rfl ?_
        refine x_iload_n F dX6_outcomeIn_52 rfl rfl ?_
        refine x_iadd F dX6_outcomeIn_53 ?_
        refine x_iload_n F dX6_outcomeIn_54 rfl rfl ?_
        refine x_if_ne F dX6_outcomeIn_55 rfl (fun h55 => ?_) (fun h55 => ?_)
        · have hsv : (if hh = 0 then f_served K k (kCV K k) else 0) = 0 := if_neg h55
          refine x_iconst (v := 0) F dX6_outcomeIn_66 (by decide) ?_
          refine x_cVi4 (ci := 6) (C := RX6) (T := TX6) (N := 12) F dX6_outcomeIn_67 (x_gV q323 q324 q460 q1 q325) rfl (c_outcomeOf hR hk _ (kG K 0 + hh) _) ⟨rfl, rfl, rfl, xd_X6_outcomeOf, ⟨Nat.le_of_ble_eq_true rfl, Nat.le_of_ble_eq_true rfl⟩, Nat.le_of_ble_eq_true rfl, Nat.le_of_ble_eq_true rfl⟩ rfl hR.main (Nat.le_of_ble_eq_true rfl) (fun v1 w1 hp => ?_)
          obtain ⟨J3, rfl, hR, hO2⟩ := hp
          have hO := hO.trans hO2 rfl
          refine x_iret F rfl rfl dX6_outcomeIn_70 (Nat.le_refl _) (Nat.le_refl _) ?_
          exact ⟨_, rfl, _, congrArg Value.int (by unfold f_ocin; rw [hst, hsv]), hR, hO⟩
        · have hsv : (if hh = 0 then f_served K k (kCV K k) else 0) = f_served K k (kCV K k) := if_pos h55
          refine x_aload_n F dX6_outcomeIn_58 rfl rfl ?_
          refine x_aload_n F dX6_outcomeIn_59 rfl rfl ?_
          refine x_cVi1 (ci := 1) (C := RX1) (T := TX1) (N := 8) F dX6_outcomeIn_60 (x_gV q319 q320 q321 q13 q322) rfl (c_servedThisHourBy hR hk (hR.cv hk)) ⟨rfl, rfl, rfl, xd_X1_servedThisHourBy, ⟨Nat.le_of_ble_eq_true rfl, Nat.le_of_ble_eq_true rfl⟩, Nat.le_of_ble_eq_true rfl, Nat.le_of_ble_eq_true rfl⟩ rfl (hR.cli hk) (Nat.le_of_ble_eq_true rfl) (fun v1 w1 hp => ?_)
          obtain ⟨rfl, hw9⟩ := hp
          replace hw9 := hw9.symm
          subst hw9
          refine x_goto F dX6_outcomeIn_63 rfl ?_
          refine x_cVi4 (ci := 6) (C := RX6) (T := TX6) (N := 12) F dX6_outcomeIn_67 (x_gV q323 q324 q460 q1 q325) rfl (c_outcomeOf hR hk _ (kG K 0 + hh) _) ⟨rfl, rfl, rfl, xd_X6_outcomeOf, ⟨Nat.le_of_ble_eq_true rfl, Nat.le_of_ble_eq_true rfl⟩, Nat.le_of_ble_eq_true rfl, Nat.le_of_ble_eq_true rfl⟩ rfl hR.main (Nat.le_of_ble_eq_true rfl) (fun v1 w1 hp => ?_)
          obtain ⟨J3, rfl, hR, hO2⟩ := hp
          have hO := hO.trans hO2 rfl
          refine x_iret F rfl rfl dX6_outcomeIn_70 (Nat.le_refl _) (Nat.le_refl _) ?_
          exact ⟨_, rfl, _, congrArg Value.int (by unfold f_ocin; rw [hst, hsv]), hR, hO⟩
      · have hst : f_stin K k hh = 2 := if_pos ⟨h14, h32, Int32.not_lt.mp h38⟩
        refine x_iconst (v := 2) F dX6_outcomeIn_41 (by decide) ?_
        refine x_istore F dX6_outcomeIn_42 (by decide) ?_
        refine x_aload_n F dX6_outcomeIn_44 rfl rfl ?_
        refine x_aload_n F dX6_outcomeIn_45 rfl rfl ?_
        refine x_iload F dX6_outcomeIn_46 rfl ?_
        refine x_aload_n F dX6_outcomeIn_48 rfl rfl ?_
        refine x_get (ci := 6) (C := RX6) (T := TX6) (N := 12) (k := 6) F dX6_outcomeIn_49 rfl inX6 (by decide) q71 rfl hR.main rfl ?_
        refine x_iload_n F dX6_outcomeIn_52 rfl rfl ?_
        refine x_iadd F dX6_outcomeIn_53 ?_
        refine x_iload_n F dX6_outcomeIn_54 rfl rfl ?_
        refine x_if_ne F dX6_outcomeIn_55 rfl (fun h55 => ?_) (fun h55 => ?_)
        · have hsv : (if hh = 0 then f_served K k (kCV K k) else 0) = 0 := if_neg h55
          refine x_iconst (v := 0) F dX6_outcomeIn_66 (by decide) ?_
          refine x_cVi4 (ci := 6) (C := RX6) (T := TX6) (N := 12) F dX6_outcomeIn_67 (x_gV q323 q324 q460 q1 q325) rfl (c_outcomeOf hR hk _ (kG K 0 + hh) _) ⟨rfl, rfl, rfl, xd_X6_outcomeOf, ⟨Nat.le_of_ble_eq_true rfl, Nat.le_of_ble_eq_true rfl⟩, Nat.le_of_ble_eq_true rfl, Nat.le_of_ble_eq_true rfl⟩ rfl hR.main (Nat.le_of_ble_eq_true rfl) (fun v1 w1 hp => ?_)
          obtain ⟨J3, rfl, hR, hO2⟩ := hp
          have hO := hO.trans hO2 rfl
          refine x_iret F rfl rfl dX6_outcomeIn_70 (Nat.le_refl _) (Nat.le_refl _) ?_
          exact ⟨_, rfl, _, congrArg Value.int (by unfold f_ocin; rw [hst, hsv]), hR, hO⟩
        · have hsv : (if hh = 0 then f_served K k (kCV K k) else 0) = f_served K k (kCV K k) := if_pos h55
          refine x_aload_n F dX6_outcomeIn_58 rfl rfl ?_
          refine x_aload_n F dX6_outcomeIn_59 rfl rfl ?_
          refine x_cVi1 (ci := 1) (C := RX1) (T := TX1) (N := 8) F dX6_outcomeIn_60 (x_gV q319 q320 q321 q13 q322) rfl (c_servedThisHourBy hR hk (hR.cv hk)) ⟨rfl, rfl, rfl, xd_X1_servedThisHourBy, ⟨Nat.le_of_ble_eq_true rfl, Nat.le_of_ble_eq_true rfl⟩, Nat.le_of_ble_eq_true rfl, Nat.le_of_ble_eq_true rfl⟩ rfl (hR.cli hk) (Nat.le_of_ble_eq_true rfl) (fun v1 w1 hp => ?_)
          obtain ⟨rfl, hw9⟩ := hp
          replace hw9 := hw9.symm
          subst hw9
          refine x_goto F dX6_outcomeIn_63 rfl ?_
          refine x_cVi4 (ci := 6) (C := RX6) (T := TX6) (N := 12) F dX6_outcomeIn_67 (x_gV q323 q324 q460 q1 q325) rfl (c_outcomeOf hR hk _ (kG K 0 + hh) _) ⟨rfl, rfl, rfl, xd_X6_outcomeOf, ⟨Nat.le_of_ble_eq_true rfl, Nat.le_of_ble_eq_true rfl⟩, Nat.le_of_ble_eq_true rfl, Nat.le_of_ble_eq_true rfl⟩ rfl hR.main (Nat.le_of_ble_eq_true rfl) (fun v1 w1 hp => ?_)
          obtain ⟨J3, rfl, hR, hO2⟩ := hp
          have hO := hO.trans hO2 rfl
          refine x_iret F rfl rfl dX6_outcomeIn_70 (Nat.le_refl _) (Nat.le_refl _) ?_
          exact ⟨_, rfl, _, congrArg Value.int (by unfold f_ocin; rw [hst, hsv]), hR, hO⟩
end OUT
end
section
/-! ===== facts, and the checksum ===== -/
section FAC
variable {l : Launch} {D : va_G} {dA : Nat → ClassId} {B : Nat} {Z : Nat → Nat → Nat} {K : kT} {J : jT} {w : xW}
def QL (Z : Nat → Nat → Nat) (K : kT) (w : xW) (x : Int64) : Value → xW → Prop := fun v w1 => ∃ J1, v = .long x ∧ Rep Z K J1 w1 ∧ Oth Z K w w1
def f_vfact (K : kT) (i t : Nat) : Int32 := match t with
  | 0 => kV K i 0
  | 1 => kV K i 1
  | 2 => kV K i 2
  | 3 => kV K i 6
  | 4 => kV K i 7
  | 5 => nI (f_cnt (p_caller K i (kG K 0)) 10)
  | 6 => if kV K i 2 = 1 then nI (f_cnt (p_hin K i (kG K 0) false) 10) else 0
  | 7 => kV K i 3
  | 8 => kV K i 4
  | 9 => kV K i 5
  | _ => nI (f_cnt (p_gen K i) 10)
def f_cfact (K : kT) (k t : Nat) : Int32 := match t with
  | 0 => kC K k 0
  | 1 => nI (kCV K k / 6)
  | 2 => nI (kCV K k % 6)
  | 3 => kC K k 1
  | 4 => kC K k 2
  | 5 => kC K k 3
  | 6 => match f_best K k (kCV K k) none with
    | some r => nI r.1.length
    | none => -1
  | 7 => match f_best K k (kCV K k) none with
    | some r => nI (r.2.1 % 6)
    | none => -1
  | _ => match f_best K k (kCV K k) none with
    | some r => r.2.2
    | none => -1
def f_count (K : kT) (t : Nat) : Int32 := match t with
  | 0 => nI (nf K)
  | 1 => nI (f_cnt (p_st K 0) 24) + nI (f_cnt (p_st K 1) 24) + nI (f_cnt (p_st K 2) 24)
  | 2 => nI (f_cnt (p_st K 0) 24)
  | 3 => nI (f_cnt (p_st K 1) 24)
  | 4 => nI (f_cnt (p_st K 2) 24)
  | 5 => nI (nc K)
  | 6 => nI (na K)
  | 7 => kG K 1
  | 8 => kG K 2
  | 9 => kG K 3
  | _ => kG K 0
theorem le10 {t : Nat} (h : t ≤ 10) : t = 0 ∨ t = 1 ∨ t = 2 ∨ t = 3 ∨ t = 4 ∨ t = 5 ∨ t = 6 ∨ t = 7 ∨ t = 8 ∨ t = 9 ∨ t = 10 := by omega
theorem le8 {t : Nat} (h : t ≤ 8) : t = 0 ∨ t = 1 ∨ t = 2 ∨ t = 3 ∨ t = 4 ∨ t = 5 ∨ t = 6 ∨ t = 7 ∨ t = 8 := by omega
set_option maxRecDepth 100000 in
set_option maxHeartbeats 4000000 in
theorem c_versionFact (hR : Rep Z K J w) {i : Nat} (hi : vOk K i) {t : Nat} (ht : t ≤ 10) : Ci l D dA B yX6_versionFact wX6_versionFact 8 [.ref (Z 0 0), .ref (Z 10 i), .int (nI t)] w (QP Z K w (f_vfact K i t)) := by
  refine x_Ct.of (cc := cX6_versionFact) (maxL := 3) (by decide) rfl (Nat.le_of_ble_eq_true rfl) ?_
  intro p e s m below meth c F
  rcases le10 ht with rfl | rfl | rfl | rfl | rfl | rfl | rfl | rfl | rfl | rfl | rfl
  · refine x_iload_n F dX6_versionFact_0 rfl rfl ?_
    refine x_tableIn (off := 55) (tgt := 56) F dX6_versionFact_1 (by decide) (by decide) rfl rfl ?_
    refine x_aload_n F dX6_versionFact_56 rfl rfl ?_
    refine x_get (ci := 5) (C := RX5) (T := TX5) (N := 9) (k := 2) F dX6_versionFact_57 rfl inX5 (by decide) q143 rfl (hR.ver hi) rfl ?_
    refine x_iret F rfl rfl dX6_versionFact_60 (Nat.le_refl _) (Nat.le_refl _) ?_
    exact ⟨_, rfl, _, rfl, hR, Oth.rfl⟩
  · refine x_iload_n F dX6_versionFact_0 rfl rfl ?_
    refine x_tableIn (off := 60) (tgt := 61) F dX6_versionFact_1 (by decide) (by decide) rfl rfl ?_
    refine x_aload_n F dX6_versionFact_61 rfl rfl ?_
    refine x_get (ci := 5) (C := RX5) (T := TX5) (N := 9) (k := 3) F dX6_versionFact_62 rfl inX5 (by decide) q145 rfl (hR.ver hi) rfl ?_
    refine x_iret F rfl rfl dX6_versionFact_65 (Nat.le_refl _) (Nat.le_refl _) ?_
    exact ⟨_, rfl, _, rfl, hR, Oth.rfl⟩
  · refine x_iload_n F dX6_versionFact_0 rfl rfl ?_
    refine x_tableIn (off := 65) (tgt := 66) F dX6_versionFact_1 (by decide) (by decide) rfl rfl ?_
    refine x_aload_n F dX6_versionFact_66 rfl rfl ?_
    refine x_get (ci := 5) (C := RX5) (T := TX5) (N := 9) (k := 5) F dX6_versionFact_67 rfl inX5 (by decide) q149 rfl (hR.ver hi) rfl ?_
    refine x_iret F rfl rfl dX6_versionFact_70 (Nat.le_refl _) (Nat.le_refl _) ?_
    exact ⟨_, rfl, _, rfl, hR, Oth.rfl⟩
  · refine x_iload_n F dX6_versionFact_0 rfl rfl ?_
    refine x_tableIn (off := 70) (tgt := 71) F dX6_versionFact_1 (by decide) (by decide) rfl rfl ?_
    refine x_aload_n F dX6_versionFact_71 rfl rfl ?_
    refine x_get (ci := 5) (C := RX5) (T := TX5) (N := 9) (k := 4) F dX6_versionFact_72 rfl inX5 (by decide) q147 rfl (hR.ver hi) rfl ?_
    refine x_get (ci := 3) (C := RX3) (T := TX3) (N := 4) (k := 1) F dX6_versionFact_75 rfl inX3 (by decide) q56 rfl (hR.ret hi) rfl ?_
    refine x_iret F rfl rfl dX6_versionFact_78 (Nat.le_refl _) (Nat.le_refl _) ?_
    exact ⟨_, rfl, _, rfl, hR, Oth.rfl⟩
  · refine x_iload_n F dX6_versionFact_0 rfl rfl ?_
    refine x_tableIn (off := 78) (tgt := 79) F dX6_versionFact_1 (by decide) (by decide) rfl rfl ?_
    refine x_aload_n F dX6_versionFact_79 rfl rfl ?_
    refine x_get (ci := 5) (C := RX5) (T := TX5) (N := 9) (k := 4) F dX6_versionFact_80 rfl inX5 (by decide) q147 rfl (hR.ver hi) rfl ?_
    refine x_get (ci := 3) (C := RX3) (T := TX3) (N := 4) (k := 2) F dX6_versionFact_83 rfl inX3 (by decide) q58 rfl (hR.ret hi) rfl ?_
    refine x_iret F rfl rfl dX6_versionFact_86 (Nat.le_refl _) (Nat.le_refl _) ?_
    exact ⟨_, rfl, _, rfl, hR, Oth.rfl⟩
  · refine x_iload_n F dX6_versionFact_0 rfl rfl ?_
    refine x_tableIn (off := 86) (tgt := 87) F dX6_versionFact_1 (by decide) (by decide) rfl rfl ?_
    refine x_aload_n F dX6_versionFact_87 rfl rfl ?_
    refine x_aload_n F dX6_versionFact_88 rfl rfl ?_
    refine x_cVi1 (ci := 6) (C := RX6) (T := TX6) (N := 12) F dX6_versionFact_89 (x_gV q183 q184 q451 q1 q185) rfl (c_countCallers hR hi) ⟨rfl, rfl, rfl, xd_X6_countCallers, ⟨Nat.le_of_ble_eq_true rfl, Nat.le_of_ble_eq_true rfl⟩, Nat.le_of_ble_eq_true rfl, Nat.le_of_ble_eq_true rfl⟩ rfl hR.main (Nat.le_of_ble_eq_true rfl) (fun v1 w1 hp => ?_)
    obtain ⟨rfl, hw9⟩ := hp
    replace hw9 := hw9.symm
    subst hw9
    refine x_iret F rfl rfl dX6_versionFact_92 (Nat.le_refl _) (Nat.le_refl _) ?_
    exact ⟨_, rfl, _, rfl, hR, Oth.rfl⟩
  · refine x_iload_n F dX6_versionFact_0 rfl rfl ?_
    refine x_tableIn (off := 92) (tgt := 93) F dX6_versionFact_1 (by decide) (by decide) rfl rfl ?_
    refine x_aload_n F dX6_versionFact_93 rfl rfl ?_
    refine x_get (ci := 5) (C := RX5) (T := TX5) (N := 9) (k := 5) F dX6_versionFact_94 rfl inX5 (by decide) q149 rfl (hR.ver hi) rfl ?_
    refine x_iconst (v := 1) F dX6_versionFact_97 (by decide) ?_
    refine x_icmp_ne F dX6_versionFact_98 rfl (fun h98 => ?_) (fun h98 => ?_)
    · refine x_iconst (v := 0) F dX6_versionFact_118 (by decide) ?_
      refine x_iret F rfl rfl dX6_versionFact_119 (Nat.le_refl _) (Nat.le_refl _) ?_
      first
        | exact ⟨_, rfl, _, congrArg Value.int (if_pos h98).symm, hR, hO⟩
        | exact ⟨_, rfl, _, congrArg Value.int (if_neg h98).symm, hR, Oth.rfl⟩
    · refine x_aload_n F dX6_versionFact_101 rfl rfl ?_
      refine x_aload_n F dX6_versionFact_102 rfl rfl ?_
      refine x_aload_n F dX6_versionFact_103 rfl rfl ?_
      refine x_get (ci := 5) (C := RX5) (T := TX5) (N := 9) (k := 4) F dX6_versionFact_104 rfl inX5 (by decide) q147 rfl (hR.ver hi) rfl ?_
      refine x_aload_n F dX6_versionFact_107 rfl rfl ?_
      refine x_get (ci := 6) (C := RX6) (T := TX6) (N := 12) (k := 6) F dX6_versionFact_108 rfl inX6 (by decide) q71 rfl hR.main rfl ?_
      refine x_iconst (v := 0) F dX6_versionFact_111 (by decide) ?_
      refine x_cVi4 (ci := 6) (C := RX6) (T := TX6) (N := 12) F dX6_versionFact_112 (x_gV q194 q195 q452 q1 q196) rfl (c_countHinderers hR hi (kG K 0) false) ⟨rfl, rfl, rfl, xd_X6_countHinderers, ⟨Nat.le_of_ble_eq_true rfl, Nat.le_of_ble_eq_true rfl⟩, Nat.le_of_ble_eq_true rfl, Nat.le_of_ble_eq_true rfl⟩ rfl hR.main (Nat.le_of_ble_eq_true rfl) (fun v1 w1 hp => ?_)
      obtain ⟨J2, rfl, hR, hO⟩ := hp
      refine x_goto F dX6_versionFact_115 rfl ?_
      refine x_iret F rfl rfl dX6_versionFact_119 (Nat.le_refl _) (Nat.le_refl _) ?_
      first
        | exact ⟨_, rfl, _, congrArg Value.int (if_pos h98).symm, hR, hO⟩
        | exact ⟨_, rfl, _, congrArg Value.int (if_neg h98).symm, hR, Oth.rfl⟩
  · refine x_iload_n F dX6_versionFact_0 rfl rfl ?_
    refine x_tableIn (off := 119) (tgt := 120) F dX6_versionFact_1 (by decide) (by decide) rfl rfl ?_
    refine x_aload_n F dX6_versionFact_120 rfl rfl ?_
    refine x_get (ci := 5) (C := RX5) (T := TX5) (N := 9) (k := 6) F dX6_versionFact_121 rfl inX5 (by decide) q150 rfl (hR.ver hi) rfl ?_
    refine x_iret F rfl rfl dX6_versionFact_124 (Nat.le_refl _) (Nat.le_refl _) ?_
    exact ⟨_, rfl, _, rfl, hR, Oth.rfl⟩
  · refine x_iload_n F dX6_versionFact_0 rfl rfl ?_
    refine x_tableIn (off := 124) (tgt := 125) F dX6_versionFact_1 (by decide) (by decide) rfl rfl ?_
    refine x_aload_n F dX6_versionFact_125 rfl rfl ?_
    refine x_get (ci := 5) (C := RX5) (T := TX5) (N := 9) (k := 7) F dX6_versionFact_126 rfl inX5 (by decide) q151 rfl (hR.ver hi) rfl ?_
    refine x_iret F rfl rfl dX6_versionFact_129 (Nat.le_refl _) (Nat.le_refl _) ?_
    exact ⟨_, rfl, _, rfl, hR, Oth.rfl⟩
  · refine x_iload_n F dX6_versionFact_0 rfl rfl ?_
    refine x_tableIn (off := 129) (tgt := 130) F dX6_versionFact_1 (by decide) (by decide) rfl rfl ?_
    refine x_aload_n F dX6_versionFact_130 rfl rfl ?_
    refine x_get (ci := 5) (C := RX5) (T := TX5) (N := 9) (k := 8) F dX6_versionFact_131 rfl inX5 (by decide) q152 rfl (hR.ver hi) rfl ?_
    refine x_iret F rfl rfl dX6_versionFact_134 (Nat.le_refl _) (Nat.le_refl _) ?_
    exact ⟨_, rfl, _, rfl, hR, Oth.rfl⟩
  · refine x_iload_n F dX6_versionFact_0 rfl rfl ?_
    refine x_tableOut (tgt := 135) F dX6_versionFact_1 (by decide) rfl ?_
    refine x_aload_n F dX6_versionFact_135 rfl rfl ?_
    refine x_aload_n F dX6_versionFact_136 rfl rfl ?_
    refine x_cVi1 (ci := 6) (C := RX6) (T := TX6) (N := 12) F dX6_versionFact_137 (x_gV q225 q226 q455 q1 q227) rfl (c_countGeneratedFor hR hi) ⟨rfl, rfl, rfl, xd_X6_countGeneratedFor, ⟨Nat.le_of_ble_eq_true rfl, Nat.le_of_ble_eq_true rfl⟩, Nat.le_of_ble_eq_true rfl, Nat.le_of_ble_eq_true rfl⟩ rfl hR.main (Nat.le_of_ble_eq_true rfl) (fun v1 w1 hp => ?_)
    obtain ⟨rfl, hw9⟩ := hp
    replace hw9 := hw9.symm
    subst hw9
    refine x_iret F rfl rfl dX6_versionFact_140 (Nat.le_refl _) (Nat.le_refl _) ?_
    exact ⟨_, rfl, _, rfl, hR, Oth.rfl⟩
set_option maxRecDepth 100000 in
set_option maxHeartbeats 4000000 in
theorem c_clientFact (hR : Rep Z K J w) {k : Nat} (hk : k < nc K) {t : Nat} (ht : t ≤ 8) : Ci l D dA B yX6_clientFact wX6_clientFact 7 [.ref (Z 0 0), .ref (Z 13 k), .int (nI t)] w (QP Z K w (f_cfact K k t)) := by
  refine x_Ct.of (cc := cX6_clientFact) (maxL := 3) (by decide) rfl (Nat.le_of_ble_eq_true rfl) ?_
  intro p e s m below meth c F
  rcases le8 ht with rfl | rfl | rfl | rfl | rfl | rfl | rfl | rfl | rfl
  · refine x_iload_n F dX6_clientFact_0 rfl rfl ?_
    refine x_tableIn (off := 47) (tgt := 48) F dX6_clientFact_1 (by decide) (by decide) rfl rfl ?_
    refine x_aload_n F dX6_clientFact_48 rfl rfl ?_
    refine x_get (ci := 1) (C := RX1) (T := TX1) (N := 8) (k := 0) F dX6_clientFact_49 rfl inX1 (by decide) q246 rfl (hR.cli hk) rfl ?_
    refine x_iret F rfl rfl dX6_clientFact_52 (Nat.le_refl _) (Nat.le_refl _) ?_
    exact ⟨_, rfl, _, rfl, hR, Oth.rfl⟩
  · refine x_iload_n F dX6_clientFact_0 rfl rfl ?_
    refine x_tableIn (off := 52) (tgt := 53) F dX6_clientFact_1 (by decide) (by decide) rfl rfl ?_
    refine x_aload_n F dX6_clientFact_53 rfl rfl ?_
    refine x_get (ci := 1) (C := RX1) (T := TX1) (N := 8) (k := 1) F dX6_clientFact_54 rfl inX1 (by decide) q248 rfl (hR.cli hk) rfl ?_
    refine x_get (ci := 2) (C := RX2) (T := TX2) (N := 3) (k := 0) F dX6_clientFact_57 rfl inX2 (by decide) q104 rfl (hR.face (hR.cv hk).1) rfl ?_
    refine x_iret F rfl rfl dX6_clientFact_60 (Nat.le_refl _) (Nat.le_refl _) ?_
    exact ⟨_, rfl, _, rfl, hR, Oth.rfl⟩
  · refine x_iload_n F dX6_clientFact_0 rfl rfl ?_
    refine x_tableIn (off := 60) (tgt := 61) F dX6_clientFact_1 (by decide) (by decide) rfl rfl ?_
    refine x_aload_n F dX6_clientFact_61 rfl rfl ?_
    refine x_get (ci := 1) (C := RX1) (T := TX1) (N := 8) (k := 4) F dX6_clientFact_62 rfl inX1 (by decide) q253 rfl (hR.cli hk) rfl ?_
    refine x_get (ci := 5) (C := RX5) (T := TX5) (N := 9) (k := 1) F dX6_clientFact_65 rfl inX5 (by decide) q141 rfl (hR.ver (hR.cv hk)) rfl ?_
    refine x_iret F rfl rfl dX6_clientFact_68 (Nat.le_refl _) (Nat.le_refl _) ?_
    exact ⟨_, rfl, _, rfl, hR, Oth.rfl⟩
  · refine x_iload_n F dX6_clientFact_0 rfl rfl ?_
    refine x_tableIn (off := 68) (tgt := 69) F dX6_clientFact_1 (by decide) (by decide) rfl rfl ?_
    refine x_aload_n F dX6_clientFact_69 rfl rfl ?_
    refine x_get (ci := 1) (C := RX1) (T := TX1) (N := 8) (k := 5) F dX6_clientFact_70 rfl inX1 (by decide) q255 rfl (hR.cli hk) rfl ?_
    refine x_iret F rfl rfl dX6_clientFact_73 (Nat.le_refl _) (Nat.le_refl _) ?_
    exact ⟨_, rfl, _, rfl, hR, Oth.rfl⟩
  · refine x_iload_n F dX6_clientFact_0 rfl rfl ?_
    refine x_tableIn (off := 73) (tgt := 74) F dX6_clientFact_1 (by decide) (by decide) rfl rfl ?_
    refine x_aload_n F dX6_clientFact_74 rfl rfl ?_
    refine x_get (ci := 1) (C := RX1) (T := TX1) (N := 8) (k := 6) F dX6_clientFact_75 rfl inX1 (by decide) q257 rfl (hR.cli hk) rfl ?_
    refine x_iret F rfl rfl dX6_clientFact_78 (Nat.le_refl _) (Nat.le_refl _) ?_
    exact ⟨_, rfl, _, rfl, hR, Oth.rfl⟩
  · refine x_iload_n F dX6_clientFact_0 rfl rfl ?_
    refine x_tableIn (off := 78) (tgt := 79) F dX6_clientFact_1 (by decide) (by decide) rfl rfl ?_
    refine x_aload_n F dX6_clientFact_79 rfl rfl ?_
    refine x_get (ci := 1) (C := RX1) (T := TX1) (N := 8) (k := 7) F dX6_clientFact_80 rfl inX1 (by decide) q259 rfl (hR.cli hk) rfl ?_
    refine x_iret F rfl rfl dX6_clientFact_83 (Nat.le_refl _) (Nat.le_refl _) ?_
    exact ⟨_, rfl, _, rfl, hR, Oth.rfl⟩
  · refine x_iload_n F dX6_clientFact_0 rfl rfl ?_
    refine x_tableIn (off := 83) (tgt := 84) F dX6_clientFact_1 (by decide) (by decide) rfl rfl ?_
    refine x_aload_n F dX6_clientFact_84 rfl rfl ?_
    refine x_aload_n F dX6_clientFact_85 rfl rfl ?_
    refine x_cVi1 (ci := 6) (C := RX6) (T := TX6) (N := 12) F dX6_clientFact_86 (x_gV q305 q306 q458 q1 q307) rfl (c_findOwnRoute hR hk) ⟨rfl, rfl, rfl, xd_X6_findOwnRoute, ⟨Nat.le_of_ble_eq_true rfl, Nat.le_of_ble_eq_true rfl⟩, Nat.le_of_ble_eq_true rfl, Nat.le_of_ble_eq_true rfl⟩ rfl hR.main (Nat.le_of_ble_eq_true rfl) (fun v1 w1 hp => ?_)
    obtain ⟨J1, rfl, hR, hO, hs, _⟩ := hp
    refine x_if_eq F dX6_clientFact_89 rfl (fun h89 => ?_) (fun h89 => ?_)
    · have hq : f_best K k (kCV K k) none = none := Option.not_isSome_iff_eq_none.mp (by rw [x_b_eq.mp h89]; decide)
      refine x_iconst (v := (-1)) F dX6_clientFact_102 (by decide) ?_
      refine x_iret F rfl rfl dX6_clientFact_103 (Nat.le_refl _) (Nat.le_refl _) ?_
      first
        | exact ⟨_, rfl, _, congrArg Value.int (by simp only [f_cfact, hq]; exact s1), hR, hO⟩
        | exact ⟨_, rfl, _, congrArg Value.int (by simp only [f_cfact, hq]), hR, hO⟩
    · obtain ⟨r0, hq⟩ := Option.isSome_iff_exists.mp (x_b_ne.mp h89)
      obtain ⟨s1, s2, s3, s4, s5⟩ := hs r0 hq
      refine x_aload_n F dX6_clientFact_92 rfl rfl ?_
      refine x_get (ci := 6) (C := RX6) (T := TX6) (N := 12) (k := 10) F dX6_clientFact_93 rfl inX6 (by decide) q75 rfl hR.main rfl ?_
      refine x_get (ci := 4) (C := RX4) (T := TX4) (N := 5) (k := 1) F dX6_clientFact_96 rfl inX4 (by decide) q35 rfl hR.route rfl ?_
      refine x_goto F dX6_clientFact_99 rfl ?_
      refine x_iret F rfl rfl dX6_clientFact_103 (Nat.le_refl _) (Nat.le_refl _) ?_
      first
        | exact ⟨_, rfl, _, congrArg Value.int (by simp only [f_cfact, hq]; exact s1), hR, hO⟩
        | exact ⟨_, rfl, _, congrArg Value.int (by simp only [f_cfact, hq]), hR, hO⟩
  · refine x_iload_n F dX6_clientFact_0 rfl rfl ?_
    refine x_tableIn (off := 103) (tgt := 104) F dX6_clientFact_1 (by decide) (by decide) rfl rfl ?_
    refine x_aload_n F dX6_clientFact_104 rfl rfl ?_
    refine x_aload_n F dX6_clientFact_105 rfl rfl ?_
    refine x_cVi1 (ci := 6) (C := RX6) (T := TX6) (N := 12) F dX6_clientFact_106 (x_gV q305 q306 q458 q1 q307) rfl (c_findOwnRoute hR hk) ⟨rfl, rfl, rfl, xd_X6_findOwnRoute, ⟨Nat.le_of_ble_eq_true rfl, Nat.le_of_ble_eq_true rfl⟩, Nat.le_of_ble_eq_true rfl, Nat.le_of_ble_eq_true rfl⟩ rfl hR.main (Nat.le_of_ble_eq_true rfl) (fun v1 w1 hp => ?_)
    obtain ⟨J1, rfl, hR, hO, hs, _⟩ := hp
    refine x_if_eq F dX6_clientFact_109 rfl (fun h109 => ?_) (fun h109 => ?_)
    · have hq : f_best K k (kCV K k) none = none := Option.not_isSome_iff_eq_none.mp (by rw [x_b_eq.mp h109]; decide)
      refine x_iconst (v := (-1)) F dX6_clientFact_122 (by decide) ?_
      refine x_iret F rfl rfl dX6_clientFact_123 (Nat.le_refl _) (Nat.le_refl _) ?_
      first
        | exact ⟨_, rfl, _, congrArg Value.int (by simp only [f_cfact, hq]; exact s3), hR, hO⟩
        | exact ⟨_, rfl, _, congrArg Value.int (by simp only [f_cfact, hq]), hR, hO⟩
    · obtain ⟨r0, hq⟩ := Option.isSome_iff_exists.mp (x_b_ne.mp h109)
      obtain ⟨s1, s2, s3, s4, s5⟩ := hs r0 hq
      refine x_aload_n F dX6_clientFact_112 rfl rfl ?_
      refine x_get (ci := 6) (C := RX6) (T := TX6) (N := 12) (k := 10) F dX6_clientFact_113 rfl inX6 (by decide) q75 rfl hR.main rfl ?_
      refine x_get (ci := 4) (C := RX4) (T := TX4) (N := 5) (k := 2) F dX6_clientFact_116 rfl inX4 (by decide) q36 rfl hR.route rfl ?_
      refine x_goto F dX6_clientFact_119 rfl ?_
      refine x_iret F rfl rfl dX6_clientFact_123 (Nat.le_refl _) (Nat.le_refl _) ?_
      first
        | exact ⟨_, rfl, _, congrArg Value.int (by simp only [f_cfact, hq]; exact s3), hR, hO⟩
        | exact ⟨_, rfl, _, congrArg Value.int (by simp only [f_cfact, hq]), hR, hO⟩
  · refine x_iload_n F dX6_clientFact_0 rfl rfl ?_
    refine x_tableOut (tgt := 124) F dX6_clientFact_1 (by decide) rfl ?_
    refine x_aload_n F dX6_clientFact_124 rfl rfl ?_
    refine x_aload_n F dX6_clientFact_125 rfl rfl ?_
    refine x_cVi1 (ci := 6) (C := RX6) (T := TX6) (N := 12) F dX6_clientFact_126 (x_gV q305 q306 q458 q1 q307) rfl (c_findOwnRoute hR hk) ⟨rfl, rfl, rfl, xd_X6_findOwnRoute, ⟨Nat.le_of_ble_eq_true rfl, Nat.le_of_ble_eq_true rfl⟩, Nat.le_of_ble_eq_true rfl, Nat.le_of_ble_eq_true rfl⟩ rfl hR.main (Nat.le_of_ble_eq_true rfl) (fun v1 w1 hp => ?_)
    obtain ⟨J1, rfl, hR, hO, hs, _⟩ := hp
    refine x_if_eq F dX6_clientFact_129 rfl (fun h129 => ?_) (fun h129 => ?_)
    · have hq : f_best K k (kCV K k) none = none := Option.not_isSome_iff_eq_none.mp (by rw [x_b_eq.mp h129]; decide)
      refine x_iconst (v := (-1)) F dX6_clientFact_142 (by decide) ?_
      refine x_iret F rfl rfl dX6_clientFact_143 (Nat.le_refl _) (Nat.le_refl _) ?_
      first
        | exact ⟨_, rfl, _, congrArg Value.int (by simp only [f_cfact, hq]; exact s4), hR, hO⟩
        | exact ⟨_, rfl, _, congrArg Value.int (by simp only [f_cfact, hq]), hR, hO⟩
    · obtain ⟨r0, hq⟩ := Option.isSome_iff_exists.mp (x_b_ne.mp h129)
      obtain ⟨s1, s2, s3, s4, s5⟩ := hs r0 hq
      refine x_aload_n F dX6_clientFact_132 rfl rfl ?_
      refine x_get (ci := 6) (C := RX6) (T := TX6) (N := 12) (k := 10) F dX6_clientFact_133 rfl inX6 (by decide) q75 rfl hR.main rfl ?_
      refine x_get (ci := 4) (C := RX4) (T := TX4) (N := 5) (k := 3) F dX6_clientFact_136 rfl inX4 (by decide) q37 rfl hR.route rfl ?_
      refine x_goto F dX6_clientFact_139 rfl ?_
      refine x_iret F rfl rfl dX6_clientFact_143 (Nat.le_refl _) (Nat.le_refl _) ?_
      first
        | exact ⟨_, rfl, _, congrArg Value.int (by simp only [f_cfact, hq]; exact s4), hR, hO⟩
        | exact ⟨_, rfl, _, congrArg Value.int (by simp only [f_cfact, hq]), hR, hO⟩
set_option maxRecDepth 100000 in
set_option maxHeartbeats 4000000 in
theorem c_countOf (hR : Rep Z K J w) {t : Nat} (ht : t ≤ 10) : Ci l D dA B yX6_countOf wX6_countOf 4 [.ref (Z 0 0), .int (nI t)] w (fun v w1 => v = .int (f_count K t) ∧ w1 = w) := by
  refine x_Ct.of (cc := cX6_countOf) (maxL := 2) (by decide) rfl (Nat.le_of_ble_eq_true rfl) ?_
  intro p e s m below meth c F
  rcases le10 ht with rfl | rfl | rfl | rfl | rfl | rfl | rfl | rfl | rfl | rfl | rfl
  · refine x_iload_n F dX6_countOf_0 rfl rfl ?_
    refine x_tableIn (off := 55) (tgt := 56) F dX6_countOf_1 (by decide) (by decide) rfl rfl ?_
    refine x_aload_n F dX6_countOf_56 rfl rfl ?_
    refine x_get (ci := 6) (C := RX6) (T := TX6) (N := 12) (k := 3) F dX6_countOf_57 rfl inX6 (by decide) q68 rfl hR.main rfl ?_
    refine x_iret F rfl rfl dX6_countOf_60 (Nat.le_refl _) (Nat.le_refl _) ?_
    exact ⟨_, rfl, rfl, rfl⟩
  · refine x_iload_n F dX6_countOf_0 rfl rfl ?_
    refine x_tableIn (off := 60) (tgt := 61) F dX6_countOf_1 (by decide) (by decide) rfl rfl ?_
    refine x_aload_n F dX6_countOf_61 rfl rfl ?_
    refine x_iconst (v := 0) F dX6_countOf_62 (by decide) ?_
    refine x_cVi1 (ci := 6) (C := RX6) (T := TX6) (N := 12) F dX6_countOf_63 (x_gV q384 q385 q465 q1 q386) rfl (c_countVersions hR 0) ⟨rfl, rfl, rfl, xd_X6_countVersions, ⟨Nat.le_of_ble_eq_true rfl, Nat.le_of_ble_eq_true rfl⟩, Nat.le_of_ble_eq_true rfl, Nat.le_of_ble_eq_true rfl⟩ rfl hR.main (Nat.le_of_ble_eq_true rfl) (fun v1 w1 hp => ?_)
    obtain ⟨rfl, hw9⟩ := hp
    replace hw9 := hw9.symm
    subst hw9
    refine x_aload_n F dX6_countOf_66 rfl rfl ?_
    refine x_iconst (v := 1) F dX6_countOf_67 (by decide) ?_
    refine x_cVi1 (ci := 6) (C := RX6) (T := TX6) (N := 12) F dX6_countOf_68 (x_gV q384 q385 q465 q1 q386) rfl (c_countVersions hR 1) ⟨rfl, rfl, rfl, xd_X6_countVersions, ⟨Nat.le_of_ble_eq_true rfl, Nat.le_of_ble_eq_true rfl⟩, Nat.le_of_ble_eq_true rfl, Nat.le_of_ble_eq_true rfl⟩ rfl hR.main (Nat.le_of_ble_eq_true rfl) (fun v1 w1 hp => ?_)
    obtain ⟨rfl, hw9⟩ := hp
    replace hw9 := hw9.symm
    subst hw9
    refine x_iadd F dX6_countOf_71 ?_
    refine x_aload_n F dX6_countOf_72 rfl rfl ?_
    refine x_iconst (v := 2) F dX6_countOf_73 (by decide) ?_
    refine x_cVi1 (ci := 6) (C := RX6) (T := TX6) (N := 12) F dX6_countOf_74 (x_gV q384 q385 q465 q1 q386) rfl (c_countVersions hR 2) ⟨rfl, rfl, rfl, xd_X6_countVersions, ⟨Nat.le_of_ble_eq_true rfl, Nat.le_of_ble_eq_true rfl⟩, Nat.le_of_ble_eq_true rfl, Nat.le_of_ble_eq_true rfl⟩ rfl hR.main (Nat.le_of_ble_eq_true rfl) (fun v1 w1 hp => ?_)
    obtain ⟨rfl, hw9⟩ := hp
    replace hw9 := hw9.symm
    subst hw9
    refine x_iadd F dX6_countOf_77 ?_
    refine x_iret F rfl rfl dX6_countOf_78 (Nat.le_refl _) (Nat.le_refl _) ?_
    exact ⟨_, rfl, rfl, rfl⟩
  · refine x_iload_n F dX6_countOf_0 rfl rfl ?_
    refine x_tableIn (off := 78) (tgt := 79) F dX6_countOf_1 (by decide) (by decide) rfl rfl ?_
    refine x_aload_n F dX6_countOf_79 rfl rfl ?_
    refine x_iconst (v := 0) F dX6_countOf_80 (by decide) ?_
    refine x_cVi1 (ci := 6) (C := RX6) (T := TX6) (N := 12) F dX6_countOf_81 (x_gV q384 q385 q465 q1 q386) rfl (c_countVersions hR 0) ⟨rfl, rfl, rfl, xd_X6_countVersions, ⟨Nat.le_of_ble_eq_true rfl, Nat.le_of_ble_eq_true rfl⟩, Nat.le_of_ble_eq_true rfl, Nat.le_of_ble_eq_true rfl⟩ rfl hR.main (Nat.le_of_ble_eq_true rfl) (fun v1 w1 hp => ?_)
    obtain ⟨rfl, hw9⟩ := hp
    replace hw9 := hw9.symm
    subst hw9
    refine x_iret F rfl rfl dX6_countOf_84 (Nat.le_refl _) (Nat.le_refl _) ?_
    exact ⟨_, rfl, rfl, rfl⟩
  · refine x_iload_n F dX6_countOf_0 rfl rfl ?_
    refine x_tableIn (off := 84) (tgt := 85) F dX6_countOf_1 (by decide) (by decide) rfl rfl ?_
    refine x_aload_n F dX6_countOf_85 rfl rfl ?_
    refine x_iconst (v := 1) F dX6_countOf_86 (by decide) ?_
    refine x_cVi1 (ci := 6) (C := RX6) (T := TX6) (N := 12) F dX6_countOf_87 (x_gV q384 q385 q465 q1 q386) rfl (c_countVersions hR 1) ⟨rfl, rfl, rfl, xd_X6_countVersions, ⟨Nat.le_of_ble_eq_true rfl, Nat.le_of_ble_eq_true rfl⟩, Nat.le_of_ble_eq_true rfl, Nat.le_of_ble_eq_true rfl⟩ rfl hR.main (Nat.le_of_ble_eq_true rfl) (fun v1 w1 hp => ?_)
    obtain ⟨rfl, hw9⟩ := hp
    replace hw9 := hw9.symm
    subst hw9
    refine x_iret F rfl rfl dX6_countOf_90 (Nat.le_refl _) (Nat.le_refl _) ?_
    exact ⟨_, rfl, rfl, rfl⟩
  · refine x_iload_n F dX6_countOf_0 rfl rfl ?_
    refine x_tableIn (off := 90) (tgt := 91) F dX6_countOf_1 (by decide) (by decide) rfl rfl ?_
    refine x_aload_n F dX6_countOf_91 rfl rfl ?_
    refine x_iconst (v := 2) F dX6_countOf_92 (by decide) ?_
    refine x_cVi1 (ci := 6) (C := RX6) (T := TX6) (N := 12) F dX6_countOf_93 (x_gV q384 q385 q465 q1 q386) rfl (c_countVersions hR 2) ⟨rfl, rfl, rfl, xd_X6_countVersions, ⟨Nat.le_of_ble_eq_true rfl, Nat.le_of_ble_eq_true rfl⟩, Nat.le_of_ble_eq_true rfl, Nat.le_of_ble_eq_true rfl⟩ rfl hR.main (Nat.le_of_ble_eq_true rfl) (fun v1 w1 hp => ?_)
    obtain ⟨rfl, hw9⟩ := hp
    replace hw9 := hw9.symm
    subst hw9
    refine x_iret F rfl rfl dX6_countOf_96 (Nat.le_refl _) (Nat.le_refl _) ?_
    exact ⟨_, rfl, rfl, rfl⟩
  · refine x_iload_n F dX6_countOf_0 rfl rfl ?_
    refine x_tableIn (off := 96) (tgt := 97) F dX6_countOf_1 (by decide) (by decide) rfl rfl ?_
    refine x_aload_n F dX6_countOf_97 rfl rfl ?_
    refine x_get (ci := 6) (C := RX6) (T := TX6) (N := 12) (k := 4) F dX6_countOf_98 rfl inX6 (by decide) q69 rfl hR.main rfl ?_
    refine x_iret F rfl rfl dX6_countOf_101 (Nat.le_refl _) (Nat.le_refl _) ?_
    exact ⟨_, rfl, rfl, rfl⟩
  · refine x_iload_n F dX6_countOf_0 rfl rfl ?_
    refine x_tableIn (off := 101) (tgt := 102) F dX6_countOf_1 (by decide) (by decide) rfl rfl ?_
    refine x_aload_n F dX6_countOf_102 rfl rfl ?_
    refine x_get (ci := 6) (C := RX6) (T := TX6) (N := 12) (k := 5) F dX6_countOf_103 rfl inX6 (by decide) q70 rfl hR.main rfl ?_
    refine x_iret F rfl rfl dX6_countOf_106 (Nat.le_refl _) (Nat.le_refl _) ?_
    exact ⟨_, rfl, rfl, rfl⟩
  · refine x_iload_n F dX6_countOf_0 rfl rfl ?_
    refine x_tableIn (off := 106) (tgt := 107) F dX6_countOf_1 (by decide) (by decide) rfl rfl ?_
    refine x_aload_n F dX6_countOf_107 rfl rfl ?_
    refine x_get (ci := 6) (C := RX6) (T := TX6) (N := 12) (k := 7) F dX6_countOf_108 rfl inX6 (by decide) q72 rfl hR.main rfl ?_
    refine x_iret F rfl rfl dX6_countOf_111 (Nat.le_refl _) (Nat.le_refl _) ?_
    exact ⟨_, rfl, rfl, rfl⟩
  · refine x_iload_n F dX6_countOf_0 rfl rfl ?_
    refine x_tableIn (off := 111) (tgt := 112) F dX6_countOf_1 (by decide) (by decide) rfl rfl ?_
    refine x_aload_n F dX6_countOf_112 rfl rfl ?_
    refine x_get (ci := 6) (C := RX6) (T := TX6) (N := 12) (k := 8) F dX6_countOf_113 rfl inX6 (by decide) q73 rfl hR.main rfl ?_
    refine x_iret F rfl rfl dX6_countOf_116 (Nat.le_refl _) (Nat.le_refl _) ?_
    exact ⟨_, rfl, rfl, rfl⟩
  · refine x_iload_n F dX6_countOf_0 rfl rfl ?_
    refine x_tableIn (off := 116) (tgt := 117) F dX6_countOf_1 (by decide) (by decide) rfl rfl ?_
    refine x_aload_n F dX6_countOf_117 rfl rfl ?_
    refine x_get (ci := 6) (C := RX6) (T := TX6) (N := 12) (k := 9) F dX6_countOf_118 rfl inX6 (by decide) q74 rfl hR.main rfl ?_
    refine x_iret F rfl rfl dX6_countOf_121 (Nat.le_refl _) (Nat.le_refl _) ?_
    exact ⟨_, rfl, rfl, rfl⟩
  · refine x_iload_n F dX6_countOf_0 rfl rfl ?_
    refine x_tableOut (tgt := 122) F dX6_countOf_1 (by decide) rfl ?_
    refine x_aload_n F dX6_countOf_122 rfl rfl ?_
    refine x_get (ci := 6) (C := RX6) (T := TX6) (N := 12) (k := 6) F dX6_countOf_123 rfl inX6 (by decide) q71 rfl hR.main rfl ?_
    refine x_iret F rfl rfl dX6_countOf_126 (Nat.le_refl _) (Nat.le_refl _) ?_
    exact ⟨_, rfl, rfl, rfl⟩
def f_tail (g : Nat → Int32) (n k : Nat) (d : Int64) : Int64 := match n with
  | 0 => d
  | n + 1 => f_tail g n (k + 1) (d * 31 + (g k).toInt64)
def f_tailv (K : kT) (g : Nat → Int32) (f n k : Nat) (d : Int64) : Int64 := match n with
  | 0 => d
  | n + 1 => f_tailv K g f n (k + 1) (if k < nv K f then d * 31 + (g k).toInt64 else d)
def f_dv (K : kT) (i : Nat) (d : Int64) : Int64 := f_tail (fun o => f_askst K (nI o) i) 5 0 ((f_tail (f_vfact K i) 11 0 d) * 31 + (f_left K i).toInt64)
set_option maxRecDepth 100000 in
set_option maxHeartbeats 4000000 in
theorem c_digestVersion (hR : Rep Z K J w) {i : Nat} (hi : vOk K i) (d0 : Int64) : Ci l D dA B yX6_digestVersion wX6_digestVersion 10 [.ref (Z 0 0), .long d0, .ref (Z 10 i)] w (QL Z K w (f_dv K i d0)) := by
  refine x_Ct.of (cc := cX6_digestVersion) (maxL := 7) (by decide) rfl (Nat.le_of_ble_eq_true rfl) ?_
  intro p e s m below meth c F
  have loop2 : ∀ n1 k, k + n1 = 5 → ∀ d Jz wz, Rep Z K Jz wz → Oth Z K w wz → f_dv K i d0 = f_tail (fun o => f_askst K (nI o) i) n1 k d → X p l e (rmd 10 0 0) s m #[.ref (Z 0 0), .long d0, .ref (Z 10 i)] below meth c (MQ below (x_Q D dA vwCl tyL0 B (fun r w1 => ∃ v, r = some v ∧ (QL Z K w (f_dv K i d0) v w1))) #[.ref (Z 0 0), .long d0, .ref (Z 10 i)] s 0 0 (fun q => B ≤ q)) D dA vwCl B 7 0 0 54 [(0, .ref (Z 0 0)), (1, .long d0), (3, .ref (Z 10 i)), (4, .long d), (6, .int (nI k))] [] wz := by
    intro n1
    induction n1 with
    | zero =>
      intro k hk1 d Jz wz hR hO hf
      obtain rfl : k = 5 := by omega
      refine x_iload F dX6_digestVersion_54 rfl ?_
      refine x_iconst (v := 5) F dX6_digestVersion_56 (by decide) ?_
      refine x_icmp_ge F dX6_digestVersion_57 rfl (fun h57 => ?_) (fun hc => absurd hc (fun q => q (Int32.le_refl _)))
      refine x_lload F dX6_digestVersion_83 rfl ?_
      refine x_lret F rfl dX6_digestVersion_85 (Nat.le_refl _) (Nat.le_refl _) ?_
      exact ⟨_, rfl, _, by rw [hf]; rfl, hR, hO⟩
    | succ n1 ih =>
      intro k hk1 d Jz wz hR hO hf
      refine x_iload F dX6_digestVersion_54 rfl ?_
      refine x_iconst (v := 5) F dX6_digestVersion_56 (by decide) ?_
      refine x_icmp_ge F dX6_digestVersion_57 rfl (fun hc => absurd hc (nI_ge (b := 5) (by omega) (by decide))) (fun h57 => ?_)
      refine x_lload F dX6_digestVersion_60 rfl ?_
      refine x_ldc2 F dX6_digestVersion_62 q415 ?_
      refine x_lmul F dX6_digestVersion_65 ?_
      refine x_aload_n F dX6_digestVersion_66 rfl rfl ?_
      refine x_iload F dX6_digestVersion_67 rfl ?_
      refine x_aload_n F dX6_digestVersion_69 rfl rfl ?_
      refine x_cVi2 (ci := 6) (C := RX6) (T := TX6) (N := 12) F dX6_digestVersion_70 (x_gV q373 q374 q463 q1 q375) rfl (c_askedState hR hi (nI k)) ⟨rfl, rfl, rfl, xd_X6_askedState, ⟨Nat.le_of_ble_eq_true rfl, Nat.le_of_ble_eq_true rfl⟩, Nat.le_of_ble_eq_true rfl, Nat.le_of_ble_eq_true rfl⟩ rfl hR.main (Nat.le_of_ble_eq_true rfl) (fun v1 w1 hp => ?_)
      obtain ⟨rfl, hw9⟩ := hp
      replace hw9 := hw9.symm
      subst hw9
      refine x_i2l F dX6_digestVersion_73 ?_
      refine x_ladd F dX6_digestVersion_74 ?_
      refine x_lstore F dX6_digestVersion_75 (by decide) ?_
      refine x_iincN F dX6_digestVersion_77 (by decide) rfl (by decide) ?_
      refine x_goto F dX6_digestVersion_80 rfl ?_
      exact x_lk (ih (k + 1) (by omega) _ _ _ hR hO hf) ⟨rfl, rfl, rfl, rfl, rfl, trivial⟩
  have loop1 : ∀ n1 k, k + n1 = 11 → ∀ d Jz wz, Rep Z K Jz wz → Oth Z K w wz → f_dv K i d0 = f_tail (fun o => f_askst K (nI o) i) 5 0 ((f_tail (f_vfact K i) n1 k d) * 31 + (f_left K i).toInt64) → X p l e (rmd 10 0 0) s m #[.ref (Z 0 0), .long d0, .ref (Z 10 i)] below meth c (MQ below (x_Q D dA vwCl tyL0 B (fun r w1 => ∃ v, r = some v ∧ (QL Z K w (f_dv K i d0) v w1))) #[.ref (Z 0 0), .long d0, .ref (Z 10 i)] s 0 0 (fun q => B ≤ q)) D dA vwCl B 7 0 0 6 [(0, .ref (Z 0 0)), (1, .long d0), (3, .ref (Z 10 i)), (4, .long d), (6, .int (nI k))] [] wz := by
    intro n1
    induction n1 with
    | zero =>
      intro k hk1 d Jz wz hR hO hf
      obtain rfl : k = 11 := by omega
      refine x_iload F dX6_digestVersion_6 rfl ?_
      refine x_bipush (v := 10) F dX6_digestVersion_8 (by decide) ?_
      refine x_icmp_gt F dX6_digestVersion_10 rfl (fun h10 => ?_) (fun hc => absurd hc (fun q => q (by decide)))
      refine x_lload F dX6_digestVersion_36 rfl ?_
      refine x_ldc2 F dX6_digestVersion_38 q415 ?_
      refine x_lmul F dX6_digestVersion_41 ?_
      refine x_aload_n F dX6_digestVersion_42 rfl rfl ?_
      refine x_aload_n F dX6_digestVersion_43 rfl rfl ?_
      refine x_cVi1 (ci := 6) (C := RX6) (T := TX6) (N := 12) F dX6_digestVersion_44 (x_gV q419 q420 q470 q1 q421) rfl (c_hoursLeft hR hi) ⟨rfl, rfl, rfl, xd_X6_hoursLeft, ⟨Nat.le_of_ble_eq_true rfl, Nat.le_of_ble_eq_true rfl⟩, Nat.le_of_ble_eq_true rfl, Nat.le_of_ble_eq_true rfl⟩ rfl hR.main (Nat.le_of_ble_eq_true rfl) (fun v1 w1 hp => ?_)
      obtain ⟨J2, rfl, hR, hO2⟩ := hp
      have hO := hO.trans hO2 rfl
      refine x_i2l F dX6_digestVersion_47 ?_
      refine x_ladd F dX6_digestVersion_48 ?_
      refine x_lstore F dX6_digestVersion_49 (by decide) ?_
      refine x_iconst (v := 0) F dX6_digestVersion_51 (by decide) ?_
      refine x_istore F dX6_digestVersion_52 (by decide) ?_
      exact x_lk (loop2 5 0 (by omega) _ _ _ hR hO hf) ⟨rfl, rfl, rfl, rfl, rfl, trivial⟩
    | succ n1 ih =>
      intro k hk1 d Jz wz hR hO hf
      refine x_iload F dX6_digestVersion_6 rfl ?_
      refine x_bipush (v := 10) F dX6_digestVersion_8 (by decide) ?_
      refine x_icmp_gt F dX6_digestVersion_10 rfl (fun hc => absurd hc (nI_nlt (a := 10) (by omega) (by decide))) (fun h10 => ?_)
      refine x_lload F dX6_digestVersion_13 rfl ?_
      refine x_ldc2 F dX6_digestVersion_15 q415 ?_
      refine x_lmul F dX6_digestVersion_18 ?_
      refine x_aload_n F dX6_digestVersion_19 rfl rfl ?_
      refine x_aload_n F dX6_digestVersion_20 rfl rfl ?_
      refine x_iload F dX6_digestVersion_21 rfl ?_
      refine x_cVi2 (ci := 6) (C := RX6) (T := TX6) (N := 12) F dX6_digestVersion_23 (x_gV q180 q181 q450 q1 q182) rfl (c_versionFact hR hi (t := k) (by omega)) ⟨rfl, rfl, rfl, xd_X6_versionFact, ⟨Nat.le_of_ble_eq_true rfl, Nat.le_of_ble_eq_true rfl⟩, Nat.le_of_ble_eq_true rfl, Nat.le_of_ble_eq_true rfl⟩ rfl hR.main (Nat.le_of_ble_eq_true rfl) (fun v1 w1 hp => ?_)
      obtain ⟨J2, rfl, hR, hO2⟩ := hp
      have hO := hO.trans hO2 rfl
      refine x_i2l F dX6_digestVersion_26 ?_
      refine x_ladd F dX6_digestVersion_27 ?_
      refine x_lstore F dX6_digestVersion_28 (by decide) ?_
      refine x_iincN F dX6_digestVersion_30 (by decide) rfl (by decide) ?_
      refine x_goto F dX6_digestVersion_33 rfl ?_
      exact x_lk (ih (k + 1) (by omega) _ _ _ hR hO hf) ⟨rfl, rfl, rfl, rfl, rfl, trivial⟩
  refine x_lload_n F dX6_digestVersion_0 rfl rfl ?_
  refine x_lstore F dX6_digestVersion_1 (by decide) ?_
  refine x_iconst (v := 0) F dX6_digestVersion_3 (by decide) ?_
  refine x_istore F dX6_digestVersion_4 (by decide) ?_
  exact x_lk (loop1 11 0 (by omega) d0 J w hR Oth.rfl rfl) ⟨rfl, rfl, rfl, rfl, rfl, trivial⟩
def q_len (q : Option (List Nat × Nat × Int32)) : Nat := match q with
  | some r => r.1.length
  | none => 0
def q_at (q : Option (List Nat × Nat × Int32)) (t : Nat) : Int32 := match q with
  | some r => nI (r.1.getD t 0)
  | none => 0
def f_dc3 (K : kT) (k : Nat) (d : Int64) : Int64 := ((d * 31 + (f_ocin K k 0).toInt64) * 31 + (f_ocin K k 30).toInt64) * 31 + ((f_near K k 6).1).toInt64
def f_dc2 (K : kT) (k : Nat) (d : Int64) : Int64 := f_dc3 K k (f_tailv K (fun n => f_since K k (6 * (kCV K k / 6) + n)) (kCV K k / 6) 6 0 d)
def f_dc1 (K : kT) (k : Nat) (d : Int64) : Int64 := f_dc2 K k (f_tail (q_at (f_best K k (kCV K k) none)) (q_len (f_best K k (kCV K k) none)) 0 d)
def f_dc (K : kT) (k : Nat) (d : Int64) : Int64 := f_dc1 K k (f_tail (f_cfact K k) 9 0 d)
set_option maxRecDepth 100000 in
set_option maxHeartbeats 4000000 in
theorem c_digestClient (hR : Rep Z K J w) {k : Nat} (hk : k < nc K) (d0 : Int64) : Ci l D dA B yX6_digestClient wX6_digestClient 10 [.ref (Z 0 0), .long d0, .ref (Z 13 k)] w (QL Z K w (f_dc K k d0)) := by
  refine x_Ct.of (cc := cX6_digestClient) (maxL := 8) (by decide) rfl (Nat.le_of_ble_eq_true rfl) ?_
  intro p e s m below meth c F
  have loop3 : ∀ n1 t, t + n1 = 6 → ∀ d Jz wz, Rep Z K Jz wz → Oth Z K w wz → f_dc K k d0 = f_dc3 K k (f_tailv K (fun n => f_since K k (6 * (kCV K k / 6) + n)) (kCV K k / 6) n1 t d) → X p l e (rmd 10 0 0) s m #[.ref (Z 0 0), .long d0, .ref (Z 13 k)] below meth c (MQ below (x_Q D dA vwCl tyL0 B (fun r w1 => ∃ v, r = some v ∧ (QL Z K w (f_dc K k d0) v w1))) #[.ref (Z 0 0), .long d0, .ref (Z 13 k)] s 0 0 (fun q => B ≤ q)) D dA vwCl B 8 0 0 99 [(0, .ref (Z 0 0)), (1, .long d0), (3, .ref (Z 13 k)), (4, .long d), (6, .int (nI t))] [] wz := by
    intro n1
    induction n1 with
    | zero =>
      intro t hk1 d Jz wz hR hO hf
      obtain rfl : t = 6 := by omega
      refine x_iload F dX6_digestClient_99 rfl ?_
      refine x_bipush (v := 6) F dX6_digestClient_101 (by decide) ?_
      refine x_icmp_ge F dX6_digestClient_103 rfl (fun h103 => ?_) (fun hc => absurd hc (fun q => q (Int32.le_refl _)))
      refine x_lload F dX6_digestClient_145 rfl ?_
      refine x_ldc2 F dX6_digestClient_147 q415 ?_
      refine x_lmul F dX6_digestClient_150 ?_
      refine x_aload_n F dX6_digestClient_151 rfl rfl ?_
      refine x_aload_n F dX6_digestClient_152 rfl rfl ?_
      refine x_iconst (v := 0) F dX6_digestClient_153 (by decide) ?_
      refine x_cVi2 (ci := 6) (C := RX6) (T := TX6) (N := 12) F dX6_digestClient_154 (x_gV q391 q392 q466 q1 q393) rfl (c_outcomeIn hR hk 0) ⟨rfl, rfl, rfl, xd_X6_outcomeIn, ⟨Nat.le_of_ble_eq_true rfl, Nat.le_of_ble_eq_true rfl⟩, Nat.le_of_ble_eq_true rfl, Nat.le_of_ble_eq_true rfl⟩ rfl hR.main (Nat.le_of_ble_eq_true rfl) (fun v1 w1 hp => ?_)
      obtain ⟨J2, rfl, hR, hO2⟩ := hp
      have hO := hO.trans hO2 rfl
      refine x_i2l F dX6_digestClient_157 ?_
      refine x_ladd F dX6_digestClient_158 ?_
      refine x_lstore F dX6_digestClient_159 (by decide) ?_
      refine x_lload F dX6_digestClient_161 rfl ?_
      refine x_ldc2 F dX6_digestClient_163 q415 ?_
      refine x_lmul F dX6_digestClient_166 ?_
      refine x_aload_n F dX6_digestClient_167 rfl rfl ?_
      refine x_aload_n F dX6_digestClient_168 rfl rfl ?_
      refine x_bipush (v := 30) F dX6_digestClient_169 (by decide) ?_
      refine x_cVi2 (ci := 6) (C := RX6) (T := TX6) (N := 12) F dX6_digestClient_171 (x_gV q391 q392 q466 q1 q393) rfl (c_outcomeIn hR hk 30) ⟨rfl, rfl, rfl, xd_X6_outcomeIn, ⟨Nat.le_of_ble_eq_true rfl, Nat.le_of_ble_eq_true rfl⟩, Nat.le_of_ble_eq_true rfl, Nat.le_of_ble_eq_true rfl⟩ rfl hR.main (Nat.le_of_ble_eq_true rfl) (fun v1 w1 hp => ?_)
      obtain ⟨J2, rfl, hR, hO2⟩ := hp
      have hO := hO.trans hO2 rfl
      refine x_i2l F dX6_digestClient_174 ?_
      refine x_ladd F dX6_digestClient_175 ?_
      refine x_lstore F dX6_digestClient_176 (by decide) ?_
      refine x_lload F dX6_digestClient_178 rfl ?_
      refine x_ldc2 F dX6_digestClient_180 q415 ?_
      refine x_lmul F dX6_digestClient_183 ?_
      refine x_aload_n F dX6_digestClient_184 rfl rfl ?_
      refine x_aload_n F dX6_digestClient_185 rfl rfl ?_
      refine x_cVi1 (ci := 6) (C := RX6) (T := TX6) (N := 12) F dX6_digestClient_186 (x_gV q401 q402 q468 q1 q403) rfl (c_nearestOpen hR hk) ⟨rfl, rfl, rfl, xd_X6_nearestOpen, ⟨Nat.le_of_ble_eq_true rfl, Nat.le_of_ble_eq_true rfl⟩, Nat.le_of_ble_eq_true rfl, Nat.le_of_ble_eq_true rfl⟩ rfl hR.main (Nat.le_of_ble_eq_true rfl) (fun v1 w1 hp => ?_)
      obtain ⟨rfl, hw9⟩ := hp
      replace hw9 := hw9.symm
      subst hw9
      refine x_i2l F dX6_digestClient_189 ?_
      refine x_ladd F dX6_digestClient_190 ?_
      refine x_lret F rfl dX6_digestClient_191 (Nat.le_refl _) (Nat.le_refl _) ?_
      exact ⟨_, rfl, _, by rw [hf]; rfl, hR, hO⟩
    | succ n1 ih =>
      intro t hk1 d Jz wz hR hO hf
      refine x_iload F dX6_digestClient_99 rfl ?_
      refine x_bipush (v := 6) F dX6_digestClient_101 (by decide) ?_
      refine x_icmp_ge F dX6_digestClient_103 rfl (fun hc => absurd hc (nI_ge (b := 6) (by omega) (by decide))) (fun h103 => ?_)
      refine x_aload_n F dX6_digestClient_106 rfl rfl ?_
      refine x_get (ci := 1) (C := RX1) (T := TX1) (N := 8) (k := 1) F dX6_digestClient_107 rfl inX1 (by decide) q248 rfl (hR.cli hk) rfl ?_
      refine x_iload F dX6_digestClient_110 rfl ?_
      refine x_cVi1 (ci := 2) (C := RX2) (T := TX2) (N := 3) F dX6_digestClient_112 (x_gV q165 q166 q167 q9 q168) rfl (c_fVersionAt hR (hR.cv hk).1 (nI t)) ⟨rfl, rfl, rfl, xd_X2_versionAt, ⟨Nat.le_of_ble_eq_true rfl, Nat.le_of_ble_eq_true rfl⟩, Nat.le_of_ble_eq_true rfl, Nat.le_of_ble_eq_true rfl⟩ rfl (hR.face (hR.cv hk).1) (Nat.le_of_ble_eq_true rfl) (fun v1 w1 hp => ?_)
      obtain ⟨rfl, hw9⟩ := hp
      replace hw9 := hw9.symm
      subst hw9
      rw [f_fver_nI (by omega)]
      unfold g_ver
      by_cases hv : t < nv K (kCV K k / 6)
      · rw [if_pos hv]
        have hi : vOk K (6 * (kCV K k / 6) + t) := by unfold vOk; rw [show (6 * (kCV K k / 6) + t) / 6 = kCV K k / 6 by omega, show (6 * (kCV K k / 6) + t) % 6 = t by omega]; exact ⟨(hR.cv hk).1, hv⟩
        simp only [f_tailv, if_pos hv] at hf
        refine x_astore F dX6_digestClient_115 (by decide) ?_
        refine x_aload F dX6_digestClient_117 rfl ?_
        refine x_ifnull F dX6_digestClient_119 ?_
        refine x_lload F dX6_digestClient_122 rfl ?_
        refine x_ldc2 F dX6_digestClient_124 q415 ?_
        refine x_lmul F dX6_digestClient_127 ?_
        refine x_aload_n F dX6_digestClient_128 rfl rfl ?_
        refine x_aload_n F dX6_digestClient_129 rfl rfl ?_
        refine x_aload F dX6_digestClient_130 rfl ?_
        refine x_cVi2 (ci := 6) (C := RX6) (T := TX6) (N := 12) F dX6_digestClient_132 (x_gV q345 q346 q461 q1 q347) rfl (c_hoursSinceCall hR hk hi) ⟨rfl, rfl, rfl, xd_X6_hoursSinceCall, ⟨Nat.le_of_ble_eq_true rfl, Nat.le_of_ble_eq_true rfl⟩, Nat.le_of_ble_eq_true rfl, Nat.le_of_ble_eq_true rfl⟩ rfl hR.main (Nat.le_of_ble_eq_true rfl) (fun v1 w1 hp => ?_)
        obtain ⟨rfl, hw9⟩ := hp
        replace hw9 := hw9.symm
        subst hw9
        refine x_i2l F dX6_digestClient_135 ?_
        refine x_ladd F dX6_digestClient_136 ?_
        refine x_lstore F dX6_digestClient_137 (by decide) ?_
        refine x_iincN F dX6_digestClient_139 (by decide) rfl (by decide) ?_
        refine x_goto F dX6_digestClient_142 rfl ?_
        exact x_lk (ih (t + 1) (by omega) _ _ _ hR hO hf) ⟨rfl, rfl, rfl, rfl, rfl, trivial⟩
      · rw [if_neg hv]
        simp only [f_tailv, if_neg hv] at hf
        refine x_astoreN F dX6_digestClient_115 (by decide) ?_
        refine x_aloadN F dX6_digestClient_117 rfl ?_
        refine x_ifnullN F dX6_digestClient_119 rfl ?_
        refine x_iincN F dX6_digestClient_139 (by decide) rfl (by decide) ?_
        refine x_goto F dX6_digestClient_142 rfl ?_
        exact x_lk (ih (t + 1) (by omega) _ _ _ hR hO hf) ⟨rfl, rfl, rfl, rfl, rfl, trivial⟩
  have loop2 : ∀ q J1 w1, f_best K k (kCV K k) none = q → Rep Z K J1 w1 → Oth Z K w w1 → J1.2.1 0 = nI (q_len q) → q_len q ≤ 3 → (∀ t, t < q_len q → J1.1 t = q_at q t) → ∀ n1 t, t + n1 = q_len q → ∀ d, f_dc K k d0 = f_dc2 K k (f_tail (q_at q) n1 t d) → X p l e (rmd 10 0 0) s m #[.ref (Z 0 0), .long d0, .ref (Z 13 k)] below meth c (MQ below (x_Q D dA vwCl tyL0 B (fun r w1 => ∃ v, r = some v ∧ (QL Z K w (f_dc K k d0) v w1))) #[.ref (Z 0 0), .long d0, .ref (Z 13 k)] s 0 0 (fun q => B ≤ q)) D dA vwCl B 8 0 0 45 [(0, .ref (Z 0 0)), (1, .long d0), (3, .ref (Z 13 k)), (4, .long d), (6, .int (nI t))] [] w1 := by
    intro q J1 w1 hq hR hO hL h3 hst n1
    induction n1 with
    | zero =>
      intro t ht d hf
      obtain rfl : t = q_len q := by omega
      refine x_iload F dX6_digestClient_45 rfl ?_
      refine x_aload_n F dX6_digestClient_47 rfl rfl ?_
      refine x_get (ci := 6) (C := RX6) (T := TX6) (N := 12) (k := 10) F dX6_digestClient_48 rfl inX6 (by decide) q75 rfl hR.main rfl ?_
      refine x_get (ci := 4) (C := RX4) (T := TX4) (N := 5) (k := 1) F dX6_digestClient_51 rfl inX4 (by decide) q35 rfl hR.route rfl ?_
      rw [hL]
      refine x_icmp_ge F dX6_digestClient_54 rfl (fun h54 => ?_) (fun hc => absurd hc (fun q => q (Int32.le_refl _)))
      refine x_iconst (v := 0) F dX6_digestClient_96 (by decide) ?_
      refine x_istore F dX6_digestClient_97 (by decide) ?_
      exact x_lk (loop3 6 0 (by omega) _ _ _ hR hO hf) ⟨rfl, rfl, rfl, rfl, rfl, trivial⟩
    | succ n1 ih =>
      intro t ht d hf
      refine x_iload F dX6_digestClient_45 rfl ?_
      refine x_aload_n F dX6_digestClient_47 rfl rfl ?_
      refine x_get (ci := 6) (C := RX6) (T := TX6) (N := 12) (k := 10) F dX6_digestClient_48 rfl inX6 (by decide) q75 rfl hR.main rfl ?_
      refine x_get (ci := 4) (C := RX4) (T := TX4) (N := 5) (k := 1) F dX6_digestClient_51 rfl inX4 (by decide) q35 rfl hR.route rfl ?_
      rw [hL]
      refine x_icmp_ge F dX6_digestClient_54 rfl (fun hc => absurd hc (nI_ge (by omega) (by omega))) (fun h54 => ?_)
      refine x_iload F dX6_digestClient_57 rfl ?_
      refine x_aload_n F dX6_digestClient_59 rfl rfl ?_
      refine x_get (ci := 6) (C := RX6) (T := TX6) (N := 12) (k := 10) F dX6_digestClient_60 rfl inX6 (by decide) q75 rfl hR.main rfl ?_
      refine x_get (ci := 4) (C := RX4) (T := TX4) (N := 5) (k := 0) F dX6_digestClient_63 rfl inX4 (by decide) q34 rfl hR.route rfl ?_
      refine x_alen (v := 3) F dX6_digestClient_66 rfl hR.steps rfl ?_
      refine x_icmp_ge F dX6_digestClient_67 rfl (fun hc => absurd hc (nI_ge (b := 3) (by omega) (by decide))) (fun h67 => ?_)
      refine x_lload F dX6_digestClient_70 rfl ?_
      refine x_ldc2 F dX6_digestClient_72 q415 ?_
      refine x_lmul F dX6_digestClient_75 ?_
      refine x_aload_n F dX6_digestClient_76 rfl rfl ?_
      refine x_get (ci := 6) (C := RX6) (T := TX6) (N := 12) (k := 10) F dX6_digestClient_77 rfl inX6 (by decide) q75 rfl hR.main rfl ?_
      refine x_get (ci := 4) (C := RX4) (T := TX4) (N := 5) (k := 0) F dX6_digestClient_80 rfl inX4 (by decide) q34 rfl hR.route rfl ?_
      refine x_iload F dX6_digestClient_83 rfl ?_
      refine x_ialdN F dX6_digestClient_85 rfl hR.steps (by omega) (by decide) ?_
      rw [hst t (by omega)]
      refine x_i2l F dX6_digestClient_86 ?_
      refine x_ladd F dX6_digestClient_87 ?_
      refine x_lstore F dX6_digestClient_88 (by decide) ?_
      refine x_iincN F dX6_digestClient_90 (by decide) rfl (by decide) ?_
      refine x_goto F dX6_digestClient_93 rfl ?_
      exact x_lk (ih (t + 1) (by omega) _ hf) ⟨rfl, rfl, rfl, rfl, rfl, trivial⟩
  have loop1 : ∀ n1 t, t + n1 = 9 → ∀ d Jz wz, Rep Z K Jz wz → Oth Z K w wz → f_dc K k d0 = f_dc1 K k (f_tail (f_cfact K k) n1 t d) → X p l e (rmd 10 0 0) s m #[.ref (Z 0 0), .long d0, .ref (Z 13 k)] below meth c (MQ below (x_Q D dA vwCl tyL0 B (fun r w1 => ∃ v, r = some v ∧ (QL Z K w (f_dc K k d0) v w1))) #[.ref (Z 0 0), .long d0, .ref (Z 13 k)] s 0 0 (fun q => B ≤ q)) D dA vwCl B 8 0 0 6 [(0, .ref (Z 0 0)), (1, .long d0), (3, .ref (Z 13 k)), (4, .long d), (6, .int (nI t))] [] wz := by
    intro n1
    induction n1 with
    | zero =>
      intro t hk1 d Jz wz hR hO hf
      obtain rfl : t = 9 := by omega
      refine x_iload F dX6_digestClient_6 rfl ?_
      refine x_bipush (v := 8) F dX6_digestClient_8 (by decide) ?_
      refine x_icmp_gt F dX6_digestClient_10 rfl (fun h10 => ?_) (fun hc => absurd hc (fun q => q (by decide)))
      refine x_aload_n F dX6_digestClient_36 rfl rfl ?_
      refine x_aload_n F dX6_digestClient_37 rfl rfl ?_
      refine x_cVi1 (ci := 6) (C := RX6) (T := TX6) (N := 12) F dX6_digestClient_38 (x_gV q305 q306 q458 q1 q307) rfl (c_findOwnRoute hR hk) ⟨rfl, rfl, rfl, xd_X6_findOwnRoute, ⟨Nat.le_of_ble_eq_true rfl, Nat.le_of_ble_eq_true rfl⟩, Nat.le_of_ble_eq_true rfl, Nat.le_of_ble_eq_true rfl⟩ rfl hR.main (Nat.le_of_ble_eq_true rfl) (fun v1 w1 hp => ?_)
      obtain ⟨J1, rfl, hR, hO2, hs, hno⟩ := hp
      have hO := hO.trans hO2 rfl
      have hL : J1.2.1 0 = nI (q_len (f_best K k (kCV K k) none)) := by
        cases hq : f_best K k (kCV K k) none with
        | none => exact hno hq
        | some r => exact (hs r hq).1
      have h3 : q_len (f_best K k (kCV K k) none) ≤ 3 := by
        cases hq : f_best K k (kCV K k) none with
        | none => exact Nat.zero_le _
        | some r => exact (hs r hq).2.2.2.2
      have hst : ∀ t, t < q_len (f_best K k (kCV K k) none) → J1.1 t = q_at (f_best K k (kCV K k) none) t := by
        cases hq : f_best K k (kCV K k) none with
        | none => exact fun t ht => absurd ht (Nat.not_lt_zero t)
        | some r => exact (hs r hq).2.1
      refine x_pop F dX6_digestClient_41 rfl ?_
      refine x_iconst (v := 0) F dX6_digestClient_42 (by decide) ?_
      refine x_istore F dX6_digestClient_43 (by decide) ?_
      exact x_lk (loop2 _ _ _ rfl hR hO hL h3 hst _ 0 (by omega) _ hf) ⟨rfl, rfl, rfl, rfl, rfl, trivial⟩
    | succ n1 ih =>
      intro t hk1 d Jz wz hR hO hf
      refine x_iload F dX6_digestClient_6 rfl ?_
      refine x_bipush (v := 8) F dX6_digestClient_8 (by decide) ?_
      refine x_icmp_gt F dX6_digestClient_10 rfl (fun hc => absurd hc (nI_nlt (a := 8) (by omega) (by decide))) (fun h10 => ?_)
      refine x_lload F dX6_digestClient_13 rfl ?_
      refine x_ldc2 F dX6_digestClient_15 q415 ?_
      refine x_lmul F dX6_digestClient_18 ?_
      refine x_aload_n F dX6_digestClient_19 rfl rfl ?_
      refine x_aload_n F dX6_digestClient_20 rfl rfl ?_
      refine x_iload F dX6_digestClient_21 rfl ?_
      refine x_cVi2 (ci := 6) (C := RX6) (T := TX6) (N := 12) F dX6_digestClient_23 (x_gV q302 q303 q457 q1 q304) rfl (c_clientFact hR hk (t := t) (by omega)) ⟨rfl, rfl, rfl, xd_X6_clientFact, ⟨Nat.le_of_ble_eq_true rfl, Nat.le_of_ble_eq_true rfl⟩, Nat.le_of_ble_eq_true rfl, Nat.le_of_ble_eq_true rfl⟩ rfl hR.main (Nat.le_of_ble_eq_true rfl) (fun v1 w1 hp => ?_)
      obtain ⟨J2, rfl, hR, hO2⟩ := hp
      have hO := hO.trans hO2 rfl
      refine x_i2l F dX6_digestClient_26 ?_
      refine x_ladd F dX6_digestClient_27 ?_
      refine x_lstore F dX6_digestClient_28 (by decide) ?_
      refine x_iincN F dX6_digestClient_30 (by decide) rfl (by decide) ?_
      refine x_goto F dX6_digestClient_33 rfl ?_
      exact x_lk (ih (t + 1) (by omega) _ _ _ hR hO hf) ⟨rfl, rfl, rfl, rfl, rfl, trivial⟩
  refine x_lload_n F dX6_digestClient_0 rfl rfl ?_
  refine x_lstore F dX6_digestClient_1 (by decide) ?_
  refine x_iconst (v := 0) F dX6_digestClient_3 (by decide) ?_
  refine x_istore F dX6_digestClient_4 (by decide) ?_
  exact x_lk (loop1 9 0 (by omega) d0 J w hR Oth.rfl rfl) ⟨rfl, rfl, rfl, rfl, rfl, trivial⟩
def f_dvs (K : kT) (n j : Nat) (d : Int64) : Int64 := match n with
  | 0 => d
  | n + 1 => f_dvs K n (j + 1) (if b_ok K j then f_dv K j d else d)
def f_dcs (K : kT) (n k : Nat) (d : Int64) : Int64 := match n with
  | 0 => d
  | n + 1 => f_dcs K n (k + 1) (if k < nc K then f_dc K k d else d)
def f_digest (K : kT) : Int64 := f_dcs K 10 0 (f_dvs K 24 0 (f_tail (f_count K) 11 0 58106))
theorem f_dvs_t {K : kT} {n j : Nat} {d : Int64} (h : b_ok K j = true) : f_dvs K (n + 1) j d = f_dvs K n (j + 1) (f_dv K j d) := by simp [f_dvs, h]
theorem f_dvs_f {K : kT} {n j : Nat} {d : Int64} (h : ¬ b_ok K j = true) : f_dvs K (n + 1) j d = f_dvs K n (j + 1) d := by simp [f_dvs, h]
set_option maxRecDepth 100000 in
set_option maxHeartbeats 4000000 in
theorem c_digest (hR : Rep Z K J w) : Ci l D dA B yX6_digest wX6_digest 11 [.ref (Z 0 0)] w (QL Z K w (f_digest K)) := by
  refine x_Ct.of (cc := cX6_digest) (maxL := 6) (by decide) rfl (Nat.le_of_ble_eq_true rfl) ?_
  intro p e s m below meth c F
  have loop3 : ∀ n1 k, k + n1 = 10 → ∀ d Jz wz, Rep Z K Jz wz → Oth Z K w wz → f_digest K = f_dcs K n1 k d → X p l e (rmd 11 0 0) s m #[.ref (Z 0 0)] below meth c (MQ below (x_Q D dA vwCl tyL0 B (fun r w1 => ∃ v, r = some v ∧ (QL Z K w (f_digest K) v w1))) #[.ref (Z 0 0)] s 0 0 (fun q => B ≤ q)) D dA vwCl B 6 0 0 84 [(0, .ref (Z 0 0)), (1, .long d), (3, .int (nI k))] [] wz := by
    intro n1
    induction n1 with
    | zero =>
      intro k hk1 d Jz wz hR hO hf
      obtain rfl : k = 10 := by omega
      refine x_iload_n F dX6_digest_84 rfl rfl ?_
      refine x_aload_n F dX6_digest_85 rfl rfl ?_
      refine x_get (ci := 6) (C := RX6) (T := TX6) (N := 12) (k := 1) F dX6_digest_86 rfl inX6 (by decide) q66 rfl hR.main rfl ?_
      refine x_alen (v := 10) F dX6_digest_89 rfl hR.clients rfl ?_
      refine x_icmp_ge F dX6_digest_90 rfl (fun h90 => ?_) (fun hc => absurd hc (fun q => q (Int32.le_refl _)))
      refine x_lload_n F dX6_digest_120 rfl rfl ?_
      refine x_lret F rfl dX6_digest_121 (Nat.le_refl _) (Nat.le_refl _) ?_
      exact ⟨_, rfl, _, by rw [hf]; rfl, hR, hO⟩
    | succ n1 ih =>
      intro k hk1 d Jz wz hR hO hf
      refine x_iload_n F dX6_digest_84 rfl rfl ?_
      refine x_aload_n F dX6_digest_85 rfl rfl ?_
      refine x_get (ci := 6) (C := RX6) (T := TX6) (N := 12) (k := 1) F dX6_digest_86 rfl inX6 (by decide) q66 rfl hR.main rfl ?_
      refine x_alen (v := 10) F dX6_digest_89 rfl hR.clients rfl ?_
      refine x_icmp_ge F dX6_digest_90 rfl (fun hc => absurd hc (nI_ge (b := 10) (by omega) (by decide))) (fun h90 => ?_)
      refine x_aload_n F dX6_digest_93 rfl rfl ?_
      refine x_get (ci := 6) (C := RX6) (T := TX6) (N := 12) (k := 1) F dX6_digest_94 rfl inX6 (by decide) q66 rfl hR.main rfl ?_
      refine x_iload_n F dX6_digest_97 rfl rfl ?_
      refine x_aaldN F dX6_digest_98 rfl hR.clients (by omega) (by decide) ?_
      by_cases hk2 : k < nc K
      · simp only [if_pos hk2]
        simp only [f_dcs, if_pos hk2] at hf
        refine x_astore F dX6_digest_99 (by decide) ?_
        refine x_aload F dX6_digest_101 rfl ?_
        refine x_ifnull F dX6_digest_103 ?_
        refine x_aload_n F dX6_digest_106 rfl rfl ?_
        refine x_lload_n F dX6_digest_107 rfl rfl ?_
        refine x_aload F dX6_digest_108 rfl ?_
        refine x_cVi2 (ci := 6) (C := RX6) (T := TX6) (N := 12) F dX6_digest_110 (x_gV q422 q423 q471 q1 q424) rfl (c_digestClient hR hk2 d) ⟨rfl, rfl, rfl, xd_X6_digestClient, ⟨Nat.le_of_ble_eq_true rfl, Nat.le_of_ble_eq_true rfl⟩, Nat.le_of_ble_eq_true rfl, Nat.le_of_ble_eq_true rfl⟩ rfl hR.main (Nat.le_of_ble_eq_true rfl) (fun v1 w1 hp => ?_)
        obtain ⟨J2, rfl, hR, hO2⟩ := hp
        have hO := hO.trans hO2 rfl
        refine x_lstore_n F dX6_digest_113 rfl (by decide) ?_
        refine x_iincN F dX6_digest_114 (by decide) rfl (by decide) ?_
        refine x_goto F dX6_digest_117 rfl ?_
        exact x_lk (ih (k + 1) (by omega) _ _ _ hR hO hf) ⟨rfl, rfl, rfl, trivial⟩
      · simp only [if_neg hk2]
        simp only [f_dcs, if_neg hk2] at hf
        refine x_astoreN F dX6_digest_99 (by decide) ?_
        refine x_aloadN F dX6_digest_101 rfl ?_
        refine x_ifnullN F dX6_digest_103 rfl ?_
        refine x_iincN F dX6_digest_114 (by decide) rfl (by decide) ?_
        refine x_goto F dX6_digest_117 rfl ?_
        exact x_lk (ih (k + 1) (by omega) _ _ _ hR hO hf) ⟨rfl, rfl, rfl, trivial⟩
  have loop2 : ∀ n2 f, f + n2 = 4 → ∀ d Jz wz, Rep Z K Jz wz → Oth Z K w wz → f_digest K = f_dcs K 10 0 (f_dvs K (6 * n2) (6 * f) d) → X p l e (rmd 11 0 0) s m #[.ref (Z 0 0)] below meth c (MQ below (x_Q D dA vwCl tyL0 B (fun r w1 => ∃ v, r = some v ∧ (QL Z K w (f_digest K) v w1))) #[.ref (Z 0 0)] s 0 0 (fun q => B ≤ q)) D dA vwCl B 6 0 0 33 [(0, .ref (Z 0 0)), (1, .long d), (3, .int (nI f))] [] wz := by
    intro n2
    induction n2 with
    | zero =>
      intro f hf1 d Jz wz hR hO hf
      obtain rfl : f = 4 := by omega
      refine x_iload_n F dX6_digest_33 rfl rfl ?_
      refine x_iconst (v := 4) F dX6_digest_34 (by decide) ?_
      refine x_icmp_ge F dX6_digest_35 rfl (fun h35 => ?_) (fun hc => absurd hc (fun q => q (Int32.le_refl _)))
      refine x_iconst (v := 0) F dX6_digest_82 (by decide) ?_
      refine x_istore_n F dX6_digest_83 rfl (by decide) ?_
      exact x_lk (loop3 10 0 (by omega) _ _ _ hR hO hf) ⟨rfl, rfl, rfl, trivial⟩
    | succ n2 ih2 =>
      intro f hf1 d Jz wz hR hO hf
      have inner : ∀ n1 k, k + n1 = 6 → ∀ d Jy wy, Rep Z K Jy wy → Oth Z K w wy → f_digest K = f_dcs K 10 0 (f_dvs K (6 * n2 + n1) (6 * f + k) d) → X p l e (rmd 11 0 0) s m #[.ref (Z 0 0)] below meth c (MQ below (x_Q D dA vwCl tyL0 B (fun r w1 => ∃ v, r = some v ∧ (QL Z K w (f_digest K) v w1))) #[.ref (Z 0 0)] s 0 0 (fun q => B ≤ q)) D dA vwCl B 6 0 0 41 [(0, .ref (Z 0 0)), (1, .long d), (3, .int (nI f)), (4, .int (nI k))] [] wy := by
        intro n1
        induction n1 with
        | zero =>
          intro k hk1 d Jy wy hR hO hf
          obtain rfl : k = 6 := by omega
          refine x_iload F dX6_digest_41 rfl ?_
          refine x_bipush (v := 6) F dX6_digest_43 (by decide) ?_
          refine x_icmp_ge F dX6_digest_45 rfl (fun h45 => ?_) (fun hc => absurd hc (fun q => q (Int32.le_refl _)))
          refine x_iincN F dX6_digest_76 (by decide) rfl (by decide) ?_
          refine x_goto F dX6_digest_79 rfl ?_
          exact x_lk (ih2 (f + 1) (by omega) _ _ _ hR hO hf) ⟨rfl, rfl, rfl, trivial⟩
        | succ n1 ih =>
          intro k hk1 d Jy wy hR hO hf
          refine x_iload F dX6_digest_41 rfl ?_
          refine x_bipush (v := 6) F dX6_digest_43 (by decide) ?_
          refine x_icmp_ge F dX6_digest_45 rfl (fun hc => absurd hc (nI_ge (b := 6) (by omega) (by decide))) (fun h45 => ?_)
          refine x_aload_n F dX6_digest_48 rfl rfl ?_
          refine x_iload_n F dX6_digest_49 rfl rfl ?_
          refine x_iload F dX6_digest_50 rfl ?_
          refine x_cVi2 (ci := 6) (C := RX6) (T := TX6) (N := 12) F dX6_digest_52 (x_gV q177 q178 q449 q1 q179) rfl (c_versionAt hR (nI f) (nI k)) ⟨rfl, rfl, rfl, xd_X6_versionAt, ⟨Nat.le_of_ble_eq_true rfl, Nat.le_of_ble_eq_true rfl⟩, Nat.le_of_ble_eq_true rfl, Nat.le_of_ble_eq_true rfl⟩ rfl hR.main (Nat.le_of_ble_eq_true rfl) (fun v1 w1 hp => ?_)
          obtain ⟨rfl, hw9⟩ := hp
          replace hw9 := hw9.symm
          subst hw9
          rw [f_verAt_nI hR (by omega) (by omega)]
          by_cases hv : b_ok K (6 * f + k) = true
          · rw [if_pos hv]
            have hi := b_ok_iff.mp hv
            rw [show 6 * n2 + (n1 + 1) = 6 * n2 + n1 + 1 from rfl, f_dvs_t hv] at hf
            refine x_astore F dX6_digest_55 (by decide) ?_
            refine x_aload F dX6_digest_57 rfl ?_
            refine x_ifnull F dX6_digest_59 ?_
            refine x_aload_n F dX6_digest_62 rfl rfl ?_
            refine x_lload_n F dX6_digest_63 rfl rfl ?_
            refine x_aload F dX6_digest_64 rfl ?_
            refine x_cVi2 (ci := 6) (C := RX6) (T := TX6) (N := 12) F dX6_digest_66 (x_gV q416 q417 q469 q1 q418) rfl (c_digestVersion hR hi d) ⟨rfl, rfl, rfl, xd_X6_digestVersion, ⟨Nat.le_of_ble_eq_true rfl, Nat.le_of_ble_eq_true rfl⟩, Nat.le_of_ble_eq_true rfl, Nat.le_of_ble_eq_true rfl⟩ rfl hR.main (Nat.le_of_ble_eq_true rfl) (fun v1 w1 hp => ?_)
            obtain ⟨J2, rfl, hR, hO2⟩ := hp
            have hO := hO.trans hO2 rfl
            refine x_lstore_n F dX6_digest_69 rfl (by decide) ?_
            refine x_iincN F dX6_digest_70 (by decide) rfl (by decide) ?_
            refine x_goto F dX6_digest_73 rfl ?_
            exact x_lk (ih (k + 1) (by omega) _ _ _ hR hO hf) ⟨rfl, rfl, rfl, rfl, trivial⟩
          · rw [if_neg hv]
            rw [show 6 * n2 + (n1 + 1) = 6 * n2 + n1 + 1 from rfl, f_dvs_f hv] at hf
            refine x_astoreN F dX6_digest_55 (by decide) ?_
            refine x_aloadN F dX6_digest_57 rfl ?_
            refine x_ifnullN F dX6_digest_59 rfl ?_
            refine x_iincN F dX6_digest_70 (by decide) rfl (by decide) ?_
            refine x_goto F dX6_digest_73 rfl ?_
            exact x_lk (ih (k + 1) (by omega) _ _ _ hR hO hf) ⟨rfl, rfl, rfl, rfl, trivial⟩
      refine x_iload_n F dX6_digest_33 rfl rfl ?_
      refine x_iconst (v := 4) F dX6_digest_34 (by decide) ?_
      refine x_icmp_ge F dX6_digest_35 rfl (fun hc => absurd hc (nI_ge (b := 4) (by omega) (by decide))) (fun h35 => ?_)
      refine x_iconst (v := 0) F dX6_digest_38 (by decide) ?_
      refine x_istore F dX6_digest_39 (by decide) ?_
      exact x_lk (inner 6 0 (by omega) _ _ _ hR hO hf) ⟨rfl, rfl, rfl, rfl, trivial⟩
  have loop1 : ∀ n1 k, k + n1 = 11 → ∀ d, f_digest K = f_dcs K 10 0 (f_dvs K 24 0 (f_tail (f_count K) n1 k d)) → X p l e (rmd 11 0 0) s m #[.ref (Z 0 0)] below meth c (MQ below (x_Q D dA vwCl tyL0 B (fun r w1 => ∃ v, r = some v ∧ (QL Z K w (f_digest K) v w1))) #[.ref (Z 0 0)] s 0 0 (fun q => B ≤ q)) D dA vwCl B 6 0 0 6 [(0, .ref (Z 0 0)), (1, .long d), (3, .int (nI k))] [] w := by
    intro n1
    induction n1 with
    | zero =>
      intro k hk1 d hf
      obtain rfl : k = 11 := by omega
      refine x_iload_n F dX6_digest_6 rfl rfl ?_
      refine x_bipush (v := 10) F dX6_digest_7 (by decide) ?_
      refine x_icmp_gt F dX6_digest_9 rfl (fun h9 => ?_) (fun hc => absurd hc (fun q => q (by decide)))
      refine x_iconst (v := 0) F dX6_digest_31 (by decide) ?_
      refine x_istore_n F dX6_digest_32 rfl (by decide) ?_
      exact x_lk (loop2 4 0 (by omega) _ J _ hR Oth.rfl hf) ⟨rfl, rfl, rfl, trivial⟩
    | succ n1 ih =>
      intro k hk1 d hf
      refine x_iload_n F dX6_digest_6 rfl rfl ?_
      refine x_bipush (v := 10) F dX6_digest_7 (by decide) ?_
      refine x_icmp_gt F dX6_digest_9 rfl (fun hc => absurd hc (nI_nlt (a := 10) (by omega) (by decide))) (fun h9 => ?_)
      refine x_lload_n F dX6_digest_12 rfl rfl ?_
      refine x_ldc2 F dX6_digest_13 q415 ?_
      refine x_lmul F dX6_digest_16 ?_
      refine x_aload_n F dX6_digest_17 rfl rfl ?_
      refine x_iload_n F dX6_digest_18 rfl rfl ?_
      refine x_cVi1 (ci := 6) (C := RX6) (T := TX6) (N := 12) F dX6_digest_19 (x_gV q381 q382 q464 q1 q383) rfl (c_countOf hR (t := k) (by omega)) ⟨rfl, rfl, rfl, xd_X6_countOf, ⟨Nat.le_of_ble_eq_true rfl, Nat.le_of_ble_eq_true rfl⟩, Nat.le_of_ble_eq_true rfl, Nat.le_of_ble_eq_true rfl⟩ rfl hR.main (Nat.le_of_ble_eq_true rfl) (fun v1 w1 hp => ?_)
      obtain ⟨rfl, hw9⟩ := hp
      replace hw9 := hw9.symm
      subst hw9
      refine x_i2l F dX6_digest_22 ?_
      refine x_ladd F dX6_digest_23 ?_
      refine x_lstore_n F dX6_digest_24 rfl (by decide) ?_
      refine x_iincN F dX6_digest_25 (by decide) rfl (by decide) ?_
      refine x_goto F dX6_digest_28 rfl ?_
      exact x_lk (ih (k + 1) (by omega) _ hf) ⟨rfl, rfl, rfl, trivial⟩
  refine x_ldc2 F dX6_digest_0 q414 ?_
  refine x_lstore_n F dX6_digest_3 rfl (by decide) ?_
  refine x_iconst (v := 0) F dX6_digest_4 (by decide) ?_
  refine x_istore_n F dX6_digest_5 rfl (by decide) ?_
  exact x_lk (loop1 11 0 (by omega) 58106 rfl) ⟨rfl, rfl, rfl, trivial⟩
end FAC
end
section
/-! ===== what is asked from outside ===== -/
section ASK
variable {l : Launch} {D : va_G} {dA : Nat → ClassId} {B : Nat} {Z : Nat → Nat → Nat} {K : kT} {J : jT} {w : xW}
theorem vOk.f4 (hR : Rep Z K J w) {f k : Nat} (hi : vOk K (6 * f + k)) (hk : k < 6) : f < nf K ∧ f < 4 := by
  have h := hi.1
  rw [show (6 * f + k) / 6 = f by omega] at h
  exact ⟨h, Nat.lt_of_lt_of_le h hR.nf4⟩
theorem verAt_some (hR : Rep Z K J w) {f k : Nat} (hi : vOk K (6 * f + k)) (hk : k < 6) : f_verAt Z K (nI f) (nI k) = some (Z 10 (6 * f + k)) := by
  rw [f_verAt_nI hR (hi.f4 hR hk).2 hk, if_pos (b_ok_iff.mpr hi)]
theorem fverAt_some {f k : Nat} (hi : vOk K (6 * f + k)) (hk : k < 6) : f_at 6 (g_ver Z K f) (nI k) = some (Z 10 (6 * f + k)) := by
  have h := hi.2
  rw [show (6 * f + k) / 6 = f by omega, show (6 * f + k) % 6 = k by omega] at h
  rw [f_fver_nI hk]
  exact if_pos h
theorem cliAt_some (hR : Rep Z K J w) {k : Nat} (hk : k < nc K) : f_at 10 (g_cli Z K) (nI k) = some (Z 13 k) := by
  rw [f_at_nI (n := 10) (by decide) (Nat.lt_of_lt_of_le hk hR.nc10) (by decide)]
  exact if_pos hk
set_option maxRecDepth 100000 in
set_option maxHeartbeats 4000000 in
theorem c_ofVersion (hR : Rep Z K J w) {f k t : Nat} (hi : vOk K (6 * f + k)) (hk : k < 6) (ht : t ≤ 10) : Ci l D dA B yX6_ofVersion wX6_ofVersion 9 [.ref (Z 0 0), .int (nI f), .int (nI k), .int (nI t)] w (QP Z K w (f_vfact K (6 * f + k) t)) := by
  refine x_Ct.of (cc := cX6_ofVersion) (maxL := 5) (by decide) rfl (Nat.le_of_ble_eq_true rfl) ?_
  intro p e s m below meth c F
  refine x_aload_n F dX6_ofVersion_0 rfl rfl ?_
  refine x_iload_n F dX6_ofVersion_1 rfl rfl ?_
  refine x_iload_n F dX6_ofVersion_2 rfl rfl ?_
  refine x_cVi2 (ci := 6) (C := RX6) (T := TX6) (N := 12) F dX6_ofVersion_3 (x_gV q177 q178 q449 q1 q179) rfl (c_versionAt hR (nI f) (nI k)) ⟨rfl, rfl, rfl, xd_X6_versionAt, ⟨Nat.le_of_ble_eq_true rfl, Nat.le_of_ble_eq_true rfl⟩, Nat.le_of_ble_eq_true rfl, Nat.le_of_ble_eq_true rfl⟩ rfl hR.main (Nat.le_of_ble_eq_true rfl) (fun v1 w1 hp => ?_)
  obtain ⟨rfl, hw9⟩ := hp
  replace hw9 := hw9.symm
  subst hw9
  rw [verAt_some hR hi hk]
  refine x_astore F dX6_ofVersion_6 (by decide) ?_
  refine x_aload F dX6_ofVersion_8 rfl ?_
  refine x_ifnonnull F dX6_ofVersion_10 rfl ?_
  refine x_iload_n F dX6_ofVersion_23 rfl rfl ?_
  refine x_if_lt F dX6_ofVersion_24 rfl (fun hc => absurd hc (nI_pos (by omega))) (fun h24 => ?_)
  refine x_iload_n F dX6_ofVersion_27 rfl rfl ?_
  refine x_bipush (v := 10) F dX6_ofVersion_28 (by decide) ?_
  refine x_icmp_le F dX6_ofVersion_30 rfl (fun h30 => ?_) (fun hc => absurd hc (fun q => q (nI_le (b := 10) (by omega) (by decide))))
  refine x_aload_n F dX6_ofVersion_43 rfl rfl ?_
  refine x_aload F dX6_ofVersion_44 rfl ?_
  refine x_iload_n F dX6_ofVersion_46 rfl rfl ?_
  refine x_cVi2 (ci := 6) (C := RX6) (T := TX6) (N := 12) F dX6_ofVersion_47 (x_gV q180 q181 q450 q1 q182) rfl (c_versionFact hR hi ht) ⟨rfl, rfl, rfl, xd_X6_versionFact, ⟨Nat.le_of_ble_eq_true rfl, Nat.le_of_ble_eq_true rfl⟩, Nat.le_of_ble_eq_true rfl, Nat.le_of_ble_eq_true rfl⟩ rfl hR.main (Nat.le_of_ble_eq_true rfl) (fun v1 w1 hp => ?_)
  obtain ⟨J2, rfl, h5⟩ := hp
  refine x_iret F rfl rfl dX6_ofVersion_50 (Nat.le_refl _) (Nat.le_refl _) ?_
  exact ⟨_, rfl, J2, rfl, h5⟩
set_option maxRecDepth 100000 in
set_option maxHeartbeats 4000000 in
theorem c_isCompatible (hR : Rep Z K J w) {f k k2 : Nat} (hi : vOk K (6 * f + k)) (hk : k < 6) (hi2 : vOk K (6 * f + k2)) (hk2 : k2 < 6) : Ci l D dA B yX6_isCompatible wX6_isCompatible 3 [.ref (Z 0 0), .int (nI f), .int (nI k), .int (nI k2)] w (fun v w1 => v = .int (x_b (f_suits (kV K (6 * f + k) 0) (kV K (6 * f + k) 1) (kV K (6 * f + k2) 0) (kV K (6 * f + k2) 1))) ∧ w1 = w) := by
  refine x_Ct.of (cc := cX6_isCompatible) (maxL := 6) (by decide) rfl (Nat.le_of_ble_eq_true rfl) ?_
  intro p e s m below meth c F
  refine x_aload_n F dX6_isCompatible_0 rfl rfl ?_
  refine x_iload_n F dX6_isCompatible_1 rfl rfl ?_
  refine x_iload_n F dX6_isCompatible_2 rfl rfl ?_
  refine x_cVi2 (ci := 6) (C := RX6) (T := TX6) (N := 12) F dX6_isCompatible_3 (x_gV q177 q178 q449 q1 q179) rfl (c_versionAt hR (nI f) (nI k)) ⟨rfl, rfl, rfl, xd_X6_versionAt, ⟨Nat.le_of_ble_eq_true rfl, Nat.le_of_ble_eq_true rfl⟩, Nat.le_of_ble_eq_true rfl, Nat.le_of_ble_eq_true rfl⟩ rfl hR.main (Nat.le_of_ble_eq_true rfl) (fun v1 w1 hp => ?_)
  obtain ⟨rfl, hw9⟩ := hp
  replace hw9 := hw9.symm
  subst hw9
  rw [verAt_some hR hi hk]
  refine x_astore F dX6_isCompatible_6 (by decide) ?_
  refine x_aload_n F dX6_isCompatible_8 rfl rfl ?_
  refine x_iload_n F dX6_isCompatible_9 rfl rfl ?_
  refine x_iload_n F dX6_isCompatible_10 rfl rfl ?_
  refine x_cVi2 (ci := 6) (C := RX6) (T := TX6) (N := 12) F dX6_isCompatible_11 (x_gV q177 q178 q449 q1 q179) rfl (c_versionAt hR (nI f) (nI k2)) ⟨rfl, rfl, rfl, xd_X6_versionAt, ⟨Nat.le_of_ble_eq_true rfl, Nat.le_of_ble_eq_true rfl⟩, Nat.le_of_ble_eq_true rfl, Nat.le_of_ble_eq_true rfl⟩ rfl hR.main (Nat.le_of_ble_eq_true rfl) (fun v1 w1 hp => ?_)
  obtain ⟨rfl, hw9⟩ := hp
  replace hw9 := hw9.symm
  subst hw9
  rw [verAt_some hR hi2 hk2]
  refine x_astore F dX6_isCompatible_14 (by decide) ?_
  refine x_aload F dX6_isCompatible_16 rfl ?_
  refine x_ifnull F dX6_isCompatible_18 ?_
  refine x_aload F dX6_isCompatible_21 rfl ?_
  refine x_ifnonnull F dX6_isCompatible_23 rfl ?_
  refine x_aload F dX6_isCompatible_36 rfl ?_
  refine x_aload F dX6_isCompatible_38 rfl ?_
  refine x_cVi1 (ci := 5) (C := RX5) (T := TX5) (N := 9) F dX6_isCompatible_40 (x_gV q169 q170 q171 q12 q172) rfl (c_suits (hR.ver hi) (hR.ver hi2)) ⟨rfl, rfl, rfl, xd_X5_suits, ⟨Nat.le_of_ble_eq_true rfl, Nat.le_of_ble_eq_true rfl⟩, Nat.le_of_ble_eq_true rfl, Nat.le_of_ble_eq_true rfl⟩ rfl (hR.ver hi) (Nat.le_of_ble_eq_true rfl) (fun v1 w1 hp => ?_)
  obtain ⟨rfl, hw9⟩ := hp
  replace hw9 := hw9.symm
  subst hw9
  refine x_iret F rfl x_b_nar dX6_isCompatible_43 (Nat.le_refl _) (Nat.le_refl _) ?_
  exact ⟨_, rfl, rfl, rfl⟩
set_option maxRecDepth 100000 in
set_option maxHeartbeats 4000000 in
theorem c_ofClient (hR : Rep Z K J w) {k t : Nat} (hk : k < nc K) (ht : t ≤ 8) : Ci l D dA B yX6_ofClient wX6_ofClient 8 [.ref (Z 0 0), .int (nI k), .int (nI t)] w (QP Z K w (f_cfact K k t)) := by
  refine x_Ct.of (cc := cX6_ofClient) (maxL := 4) (by decide) rfl (Nat.le_of_ble_eq_true rfl) ?_
  intro p e s m below meth c F
  refine x_aload_n F dX6_ofClient_0 rfl rfl ?_
  refine x_iload_n F dX6_ofClient_1 rfl rfl ?_
  refine x_cVi1 (ci := 6) (C := RX6) (T := TX6) (N := 12) F dX6_ofClient_2 (x_gV q272 q273 q456 q1 q274) rfl (c_clientAt hR (nI k)) ⟨rfl, rfl, rfl, xd_X6_clientAt, ⟨Nat.le_of_ble_eq_true rfl, Nat.le_of_ble_eq_true rfl⟩, Nat.le_of_ble_eq_true rfl, Nat.le_of_ble_eq_true rfl⟩ rfl hR.main (Nat.le_of_ble_eq_true rfl) (fun v1 w1 hp => ?_)
  obtain ⟨rfl, hw9⟩ := hp
  replace hw9 := hw9.symm
  subst hw9
  rw [cliAt_some hR hk]
  refine x_astore_n F dX6_ofClient_5 rfl (by decide) ?_
  refine x_aload_n F dX6_ofClient_6 rfl rfl ?_
  refine x_ifnonnull F dX6_ofClient_7 rfl ?_
  refine x_iload_n F dX6_ofClient_20 rfl rfl ?_
  refine x_if_lt F dX6_ofClient_21 rfl (fun hc => absurd hc (nI_pos (by omega))) (fun h21 => ?_)
  refine x_iload_n F dX6_ofClient_24 rfl rfl ?_
  refine x_bipush (v := 8) F dX6_ofClient_25 (by decide) ?_
  refine x_icmp_le F dX6_ofClient_27 rfl (fun h27 => ?_) (fun hc => absurd hc (fun q => q (nI_le (b := 8) (by omega) (by decide))))
  refine x_aload_n F dX6_ofClient_40 rfl rfl ?_
  refine x_aload_n F dX6_ofClient_41 rfl rfl ?_
  refine x_iload_n F dX6_ofClient_42 rfl rfl ?_
  refine x_cVi2 (ci := 6) (C := RX6) (T := TX6) (N := 12) F dX6_ofClient_43 (x_gV q302 q303 q457 q1 q304) rfl (c_clientFact hR hk ht) ⟨rfl, rfl, rfl, xd_X6_clientFact, ⟨Nat.le_of_ble_eq_true rfl, Nat.le_of_ble_eq_true rfl⟩, Nat.le_of_ble_eq_true rfl, Nat.le_of_ble_eq_true rfl⟩ rfl hR.main (Nat.le_of_ble_eq_true rfl) (fun v1 w1 hp => ?_)
  obtain ⟨J2, rfl, h5⟩ := hp
  refine x_iret F rfl rfl dX6_ofClient_46 (Nat.le_refl _) (Nat.le_refl _) ?_
  exact ⟨_, rfl, J2, rfl, h5⟩
set_option maxRecDepth 100000 in
set_option maxHeartbeats 4000000 in
theorem c_lastCall (hR : Rep Z K J w) {k n : Nat} (hk : k < nc K) (hi : vOk K (6 * (kCV K k / 6) + n)) (hn : n < 6) : Ci l D dA B yX6_lastCall wX6_lastCall 2 [.ref (Z 0 0), .int (nI k), .int (nI n)] w (fun v w1 => v = .int (f_since K k (6 * (kCV K k / 6) + n)) ∧ w1 = w) := by
  refine x_Ct.of (cc := cX6_lastCall) (maxL := 5) (by decide) rfl (Nat.le_of_ble_eq_true rfl) ?_
  intro p e s m below meth c F
  refine x_aload_n F dX6_lastCall_0 rfl rfl ?_
  refine x_iload_n F dX6_lastCall_1 rfl rfl ?_
  refine x_cVi1 (ci := 6) (C := RX6) (T := TX6) (N := 12) F dX6_lastCall_2 (x_gV q272 q273 q456 q1 q274) rfl (c_clientAt hR (nI k)) ⟨rfl, rfl, rfl, xd_X6_clientAt, ⟨Nat.le_of_ble_eq_true rfl, Nat.le_of_ble_eq_true rfl⟩, Nat.le_of_ble_eq_true rfl, Nat.le_of_ble_eq_true rfl⟩ rfl hR.main (Nat.le_of_ble_eq_true rfl) (fun v1 w1 hp => ?_)
  obtain ⟨rfl, hw9⟩ := hp
  replace hw9 := hw9.symm
  subst hw9
  rw [cliAt_some hR hk]
  refine x_astore_n F dX6_lastCall_5 rfl (by decide) ?_
  refine x_aload_n F dX6_lastCall_6 rfl rfl ?_
  refine x_ifnonnull F dX6_lastCall_7 rfl ?_
  refine x_aload_n F dX6_lastCall_14 rfl rfl ?_
  refine x_get (ci := 1) (C := RX1) (T := TX1) (N := 8) (k := 1) F dX6_lastCall_15 rfl inX1 (by decide) q248 rfl (hR.cli hk) rfl ?_
  refine x_iload_n F dX6_lastCall_18 rfl rfl ?_
  refine x_cVi1 (ci := 2) (C := RX2) (T := TX2) (N := 3) F dX6_lastCall_19 (x_gV q165 q166 q167 q9 q168) rfl (c_fVersionAt hR (hR.cv hk).1 (nI n)) ⟨rfl, rfl, rfl, xd_X2_versionAt, ⟨Nat.le_of_ble_eq_true rfl, Nat.le_of_ble_eq_true rfl⟩, Nat.le_of_ble_eq_true rfl, Nat.le_of_ble_eq_true rfl⟩ rfl (hR.face (hR.cv hk).1) (Nat.le_of_ble_eq_true rfl) (fun v1 w1 hp => ?_)
  obtain ⟨rfl, hw9⟩ := hp
  replace hw9 := hw9.symm
  subst hw9
  rw [fverAt_some hi hn]
  refine x_astore F dX6_lastCall_22 (by decide) ?_
  refine x_aload_n F dX6_lastCall_24 rfl rfl ?_
  refine x_ifnull F dX6_lastCall_25 ?_
  refine x_aload F dX6_lastCall_28 rfl ?_
  refine x_ifnonnull F dX6_lastCall_30 rfl ?_
  refine x_aload_n F dX6_lastCall_43 rfl rfl ?_
  refine x_aload_n F dX6_lastCall_44 rfl rfl ?_
  refine x_aload F dX6_lastCall_45 rfl ?_
  refine x_cVi2 (ci := 6) (C := RX6) (T := TX6) (N := 12) F dX6_lastCall_47 (x_gV q345 q346 q461 q1 q347) rfl (c_hoursSinceCall hR hk hi) ⟨rfl, rfl, rfl, xd_X6_hoursSinceCall, ⟨Nat.le_of_ble_eq_true rfl, Nat.le_of_ble_eq_true rfl⟩, Nat.le_of_ble_eq_true rfl, Nat.le_of_ble_eq_true rfl⟩ rfl hR.main (Nat.le_of_ble_eq_true rfl) (fun v1 w1 hp => ?_)
  obtain ⟨rfl, hw9⟩ := hp
  replace hw9 := hw9.symm
  subst hw9
  refine x_iret F rfl rfl dX6_lastCall_50 (Nat.le_refl _) (Nat.le_refl _) ?_
  exact ⟨_, rfl, rfl, rfl⟩
set_option maxRecDepth 100000 in
set_option maxHeartbeats 4000000 in
theorem c_asked (hR : Rep Z K J w) {f k : Nat} (hi : vOk K (6 * f + k)) (hk : k < 6) {o : Int32} (ho : f_owner o = true) : Ci l D dA B yX6_asked wX6_asked 3 [.ref (Z 0 0), .int o, .int (nI f), .int (nI k)] w (fun v w1 => v = .int (f_askst K o (6 * f + k)) ∧ w1 = w) := by
  refine x_Ct.of (cc := cX6_asked) (maxL := 5) (by decide) rfl (Nat.le_of_ble_eq_true rfl) ?_
  intro p e s m below meth c F
  refine x_aload_n F dX6_asked_0 rfl rfl ?_
  refine x_iload_n F dX6_asked_1 rfl rfl ?_
  refine x_iload_n F dX6_asked_2 rfl rfl ?_
  refine x_cVi2 (ci := 6) (C := RX6) (T := TX6) (N := 12) F dX6_asked_3 (x_gV q177 q178 q449 q1 q179) rfl (c_versionAt hR (nI f) (nI k)) ⟨rfl, rfl, rfl, xd_X6_versionAt, ⟨Nat.le_of_ble_eq_true rfl, Nat.le_of_ble_eq_true rfl⟩, Nat.le_of_ble_eq_true rfl, Nat.le_of_ble_eq_true rfl⟩ rfl hR.main (Nat.le_of_ble_eq_true rfl) (fun v1 w1 hp => ?_)
  obtain ⟨rfl, hw9⟩ := hp
  replace hw9 := hw9.symm
  subst hw9
  rw [verAt_some hR hi hk]
  refine x_astore F dX6_asked_6 (by decide) ?_
  refine x_aload F dX6_asked_8 rfl ?_
  refine x_ifnull F dX6_asked_10 ?_
  refine x_iload_n F dX6_asked_13 rfl rfl ?_
  refine x_cSi1 F dX6_asked_14 (x_gS q236 q237 q1 q238) (c_isOwner o) ⟨rfl, rfl, rfl, xd_X6_isOwner, ⟨Nat.le_of_ble_eq_true rfl, Nat.le_of_ble_eq_true rfl⟩, Nat.le_of_ble_eq_true rfl, Nat.le_of_ble_eq_true rfl⟩ (Nat.le_of_ble_eq_true rfl) (fun v1 w1 hp => ?_)
  obtain ⟨rfl, hw9⟩ := hp
  replace hw9 := hw9.symm
  subst hw9
  refine x_if_ne F dX6_asked_17 rfl (fun h17 => ?_) (fun hc => absurd hc (by rw [ho]; decide))
  refine x_aload_n F dX6_asked_30 rfl rfl ?_
  refine x_iload_n F dX6_asked_31 rfl rfl ?_
  refine x_aload F dX6_asked_32 rfl ?_
  refine x_cVi2 (ci := 6) (C := RX6) (T := TX6) (N := 12) F dX6_asked_34 (x_gV q373 q374 q463 q1 q375) rfl (c_askedState hR hi o) ⟨rfl, rfl, rfl, xd_X6_askedState, ⟨Nat.le_of_ble_eq_true rfl, Nat.le_of_ble_eq_true rfl⟩, Nat.le_of_ble_eq_true rfl, Nat.le_of_ble_eq_true rfl⟩ rfl hR.main (Nat.le_of_ble_eq_true rfl) (fun v1 w1 hp => ?_)
  obtain ⟨rfl, hw9⟩ := hp
  replace hw9 := hw9.symm
  subst hw9
  refine x_iret F rfl rfl dX6_asked_37 (Nat.le_refl _) (Nat.le_refl _) ?_
  exact ⟨_, rfl, rfl, rfl⟩
set_option maxRecDepth 100000 in
set_option maxHeartbeats 4000000 in
theorem c_many (hR : Rep Z K J w) {t : Nat} (ht : t ≤ 10) : Ci l D dA B yX6_many wX6_many 5 [.ref (Z 0 0), .int (nI t)] w (fun v w1 => v = .int (f_count K t) ∧ w1 = w) := by
  refine x_Ct.of (cc := cX6_many) (maxL := 2) (by decide) rfl (Nat.le_of_ble_eq_true rfl) ?_
  intro p e s m below meth c F
  refine x_iload_n F dX6_many_0 rfl rfl ?_
  refine x_if_lt F dX6_many_1 rfl (fun hc => absurd hc (nI_pos (by omega))) (fun h1 => ?_)
  refine x_iload_n F dX6_many_4 rfl rfl ?_
  refine x_bipush (v := 10) F dX6_many_5 (by decide) ?_
  refine x_icmp_le F dX6_many_7 rfl (fun h7 => ?_) (fun hc => absurd hc (fun q => q (nI_le (b := 10) (by omega) (by decide))))
  refine x_aload_n F dX6_many_20 rfl rfl ?_
  refine x_iload_n F dX6_many_21 rfl rfl ?_
  refine x_cVi1 (ci := 6) (C := RX6) (T := TX6) (N := 12) F dX6_many_22 (x_gV q381 q382 q464 q1 q383) rfl (c_countOf hR ht) ⟨rfl, rfl, rfl, xd_X6_countOf, ⟨Nat.le_of_ble_eq_true rfl, Nat.le_of_ble_eq_true rfl⟩, Nat.le_of_ble_eq_true rfl, Nat.le_of_ble_eq_true rfl⟩ rfl hR.main (Nat.le_of_ble_eq_true rfl) (fun v1 w1 hp => ?_)
  obtain ⟨rfl, hw9⟩ := hp
  replace hw9 := hw9.symm
  subst hw9
  refine x_iret F rfl rfl dX6_many_25 (Nat.le_refl _) (Nat.le_refl _) ?_
  exact ⟨_, rfl, rfl, rfl⟩
set_option maxRecDepth 100000 in
set_option maxHeartbeats 4000000 in
theorem c_wouldCome (hR : Rep Z K J w) {k : Nat} (hk : k < nc K) {n : Nat} (hn : n ≤ 100) : Ci l D dA B yX6_wouldCome wX6_wouldCome 10 [.ref (Z 0 0), .int (nI k), .int (nI n)] w (QP Z K w (f_ocin K k (nI n))) := by
  refine x_Ct.of (cc := cX6_wouldCome) (maxL := 4) (by decide) rfl (Nat.le_of_ble_eq_true rfl) ?_
  intro p e s m below meth c F
  refine x_aload_n F dX6_wouldCome_0 rfl rfl ?_
  refine x_iload_n F dX6_wouldCome_1 rfl rfl ?_
  refine x_cVi1 (ci := 6) (C := RX6) (T := TX6) (N := 12) F dX6_wouldCome_2 (x_gV q272 q273 q456 q1 q274) rfl (c_clientAt hR (nI k)) ⟨rfl, rfl, rfl, xd_X6_clientAt, ⟨Nat.le_of_ble_eq_true rfl, Nat.le_of_ble_eq_true rfl⟩, Nat.le_of_ble_eq_true rfl, Nat.le_of_ble_eq_true rfl⟩ rfl hR.main (Nat.le_of_ble_eq_true rfl) (fun v1 w1 hp => ?_)
  obtain ⟨rfl, hw9⟩ := hp
  replace hw9 := hw9.symm
  subst hw9
  rw [cliAt_some hR hk]
  refine x_astore_n F dX6_wouldCome_5 rfl (by decide) ?_
  refine x_aload_n F dX6_wouldCome_6 rfl rfl ?_
  refine x_ifnonnull F dX6_wouldCome_7 rfl ?_
  refine x_iload_n F dX6_wouldCome_20 rfl rfl ?_
  refine x_if_lt F dX6_wouldCome_21 rfl (fun hc => absurd hc (nI_pos (by omega))) (fun h21 => ?_)
  refine x_iload_n F dX6_wouldCome_24 rfl rfl ?_
  refine x_bipush (v := 100) F dX6_wouldCome_25 (by decide) ?_
  refine x_icmp_le F dX6_wouldCome_27 rfl (fun h27 => ?_) (fun hc => absurd hc (fun q => q (nI_le (b := 100) (by omega) (by decide))))
  refine x_aload_n F dX6_wouldCome_40 rfl rfl ?_
  refine x_aload_n F dX6_wouldCome_41 rfl rfl ?_
  refine x_iload_n F dX6_wouldCome_42 rfl rfl ?_
  refine x_cVi2 (ci := 6) (C := RX6) (T := TX6) (N := 12) F dX6_wouldCome_43 (x_gV q391 q392 q466 q1 q393) rfl (c_outcomeIn hR hk (nI n)) ⟨rfl, rfl, rfl, xd_X6_outcomeIn, ⟨Nat.le_of_ble_eq_true rfl, Nat.le_of_ble_eq_true rfl⟩, Nat.le_of_ble_eq_true rfl, Nat.le_of_ble_eq_true rfl⟩ rfl hR.main (Nat.le_of_ble_eq_true rfl) (fun v1 w1 hp => ?_)
  obtain ⟨J2, rfl, h5⟩ := hp
  refine x_iret F rfl rfl dX6_wouldCome_46 (Nat.le_refl _) (Nat.le_refl _) ?_
  exact ⟨_, rfl, J2, rfl, h5⟩
set_option maxRecDepth 100000 in
set_option maxHeartbeats 4000000 in
theorem c_target (hR : Rep Z K J w) {k : Nat} (hk : k < nc K) : Ci l D dA B yX6_target wX6_target 2 [.ref (Z 0 0), .int (nI k)] w (fun v w1 => v = .int (f_near K k 6).1 ∧ w1 = w) := by
  refine x_Ct.of (cc := cX6_target) (maxL := 3) (by decide) rfl (Nat.le_of_ble_eq_true rfl) ?_
  intro p e s m below meth c F
  refine x_aload_n F dX6_target_0 rfl rfl ?_
  refine x_iload_n F dX6_target_1 rfl rfl ?_
  refine x_cVi1 (ci := 6) (C := RX6) (T := TX6) (N := 12) F dX6_target_2 (x_gV q272 q273 q456 q1 q274) rfl (c_clientAt hR (nI k)) ⟨rfl, rfl, rfl, xd_X6_clientAt, ⟨Nat.le_of_ble_eq_true rfl, Nat.le_of_ble_eq_true rfl⟩, Nat.le_of_ble_eq_true rfl, Nat.le_of_ble_eq_true rfl⟩ rfl hR.main (Nat.le_of_ble_eq_true rfl) (fun v1 w1 hp => ?_)
  obtain ⟨rfl, hw9⟩ := hp
  replace hw9 := hw9.symm
  subst hw9
  rw [cliAt_some hR hk]
  refine x_astore_n F dX6_target_5 rfl (by decide) ?_
  refine x_aload_n F dX6_target_6 rfl rfl ?_
  refine x_ifnonnull F dX6_target_7 rfl ?_
  refine x_aload_n F dX6_target_20 rfl rfl ?_
  refine x_aload_n F dX6_target_21 rfl rfl ?_
  refine x_cVi1 (ci := 6) (C := RX6) (T := TX6) (N := 12) F dX6_target_22 (x_gV q401 q402 q468 q1 q403) rfl (c_nearestOpen hR hk) ⟨rfl, rfl, rfl, xd_X6_nearestOpen, ⟨Nat.le_of_ble_eq_true rfl, Nat.le_of_ble_eq_true rfl⟩, Nat.le_of_ble_eq_true rfl, Nat.le_of_ble_eq_true rfl⟩ rfl hR.main (Nat.le_of_ble_eq_true rfl) (fun v1 w1 hp => ?_)
  obtain ⟨rfl, hw9⟩ := hp
  replace hw9 := hw9.symm
  subst hw9
  refine x_iret F rfl rfl dX6_target_25 (Nat.le_refl _) (Nat.le_refl _) ?_
  exact ⟨_, rfl, rfl, rfl⟩
end ASK
end
section
/-! ===== what changes the state ===== -/
section MUT
variable {l : Launch} {D : va_G} {dA : Nat → ClassId} {B : Nat} {Z : Nat → Nat → Nat} {K : kT} {J : jT} {w : xW}
def kPutG (K : kT) (j : Nat) (x : Int32) : kT := (K.1, (fun b => if b = j then x else kG K b), K.2.2)
def kPutV (K : kT) (i j : Nat) (x : Int32) : kT := (K.1, K.2.1, (fun a b => if b = j ∧ a = i then x else kV K a b), K.2.2.2)
def kPutVA (K : kT) (i : Nat) (f : Nat → Int32) : kT := (K.1, K.2.1, K.2.2.1, (fun a => if a = i then f else kVA K a), K.2.2.2.2)
def kPutC (K : kT) (i j : Nat) (x : Int32) : kT := (K.1, K.2.1, K.2.2.1, K.2.2.2.1, (fun a b => if b = j ∧ a = i then x else kC K a b), K.2.2.2.2.2)
def kPutCL (K : kT) (i : Nat) (f : Nat → Int32) : kT := (K.1, K.2.1, K.2.2.1, K.2.2.2.1, K.2.2.2.2.1, (fun a => if a = i then f else kCL K a), K.2.2.2.2.2.2)
def kPutCS (K : kT) (i : Nat) (f : Nat → Int32) : kT := (K.1, K.2.1, K.2.2.1, K.2.2.2.1, K.2.2.2.2.1, K.2.2.2.2.2.1, (fun a => if a = i then f else kCS K a), K.2.2.2.2.2.2.2)
def kPutCV (K : kT) (i v : Nat) : kT := (K.1, K.2.1, K.2.2.1, K.2.2.2.1, K.2.2.2.2.1, K.2.2.2.2.2.1, K.2.2.2.2.2.2.1, (fun a => if a = i then v else kCV K a), K.2.2.2.2.2.2.2.2)
theorem kG_put (K : kT) (j : Nat) (x : Int32) (b : Nat) : kG (kPutG K j x) b = if b = j then x else kG K b := rfl
theorem kV_put (K : kT) (i j : Nat) (x : Int32) (a b : Nat) : kV (kPutV K i j x) a b = if b = j ∧ a = i then x else kV K a b := rfl
theorem kVA_put (K : kT) (i : Nat) (f : Nat → Int32) (a : Nat) : kVA (kPutVA K i f) a = if a = i then f else kVA K a := rfl
theorem kC_put (K : kT) (i j : Nat) (x : Int32) (a b : Nat) : kC (kPutC K i j x) a b = if b = j ∧ a = i then x else kC K a b := rfl
theorem kCL_put (K : kT) (i : Nat) (f : Nat → Int32) (a : Nat) : kCL (kPutCL K i f) a = if a = i then f else kCL K a := rfl
theorem kCS_put (K : kT) (i : Nat) (f : Nat → Int32) (a : Nat) : kCS (kPutCS K i f) a = if a = i then f else kCS K a := rfl
theorem kCV_put (K : kT) (i v a : Nat) : kCV (kPutCV K i v) a = if a = i then v else kCV K a := rfl
theorem kPutVA_self (K : kT) (i : Nat) : kPutVA K i (kVA K i) = K := by
  obtain ⟨a, b, c, d, e⟩ := K
  have : (fun q => if q = i then d i else d q) = d := by funext q; by_cases h : q = i <;> simp [h]
  simp only [kPutVA, kVA, this]
theorem kPutVA_twice (K : kT) (i : Nat) (f g : Nat → Int32) : kPutVA (kPutVA K i f) i g = kPutVA K i g := by
  obtain ⟨a, b, c, d, e⟩ := K
  have : (fun q => if q = i then g else if q = i then f else d q) = fun q => if q = i then g else d q := by funext q; by_cases h : q = i <;> simp [h]
  simp only [kPutVA, kVA, this]
theorem kPutC_self {K : kT} {i j : Nat} {x : Int32} (h : x = kC K i j) : kPutC K i j x = K := by
  subst h
  obtain ⟨a, b, c, d, e, f⟩ := K
  have : (fun p q => if q = j ∧ p = i then e i j else e p q) = e := by
    funext p q
    by_cases h : q = j ∧ p = i
    · rw [if_pos h, h.1, h.2]
    · rw [if_neg h]
  simp only [kPutC, kC, this]
theorem kPutV_self {K : kT} {i j : Nat} {x : Int32} (h : x = kV K i j) : kPutV K i j x = K := by
  subst h
  obtain ⟨a, b, c, d⟩ := K
  have : (fun p q => if q = j ∧ p = i then c i j else c p q) = c := by
    funext p q
    by_cases h : q = j ∧ p = i
    · rw [if_pos h, h.1, h.2]
    · rw [if_neg h]
  simp only [kPutV, kV, this]
theorem kPutG_self {K : kT} {j : Nat} {x : Int32} (h : x = kG K j) : kPutG K j x = K := by
  subst h
  obtain ⟨a, b, c⟩ := K
  have : (fun q => if q = j then b j else b q) = b := by funext q; by_cases h : q = j <;> simp [h]
  simp only [kPutG, kG, this]
theorem Rep.putG (h : Rep Z K J w) (j : Nat) (x : Int32) {c : xE} (hc : c = obj Z (kPutG K j x) J 0 0) : Rep Z (kPutG K j x) J (x_set w (Z 0 0) c) := by
  refine h.put (K1 := kPutG K j x) (J1 := J) (kind := 0) (idx := 0) (rfl : live K 0 0) rfl rfl rfl rfl (fun k2 i2 g1 g2 => ?_) hc
  rcases k2 with _ | _ | _ | _ | _ | _ | _ | _ | _ | _ | _ | _ | _ | _ | _ | _ | k2 <;> first | rfl | exact absurd ⟨rfl, g1⟩ g2
theorem Rep.putV (h : Rep Z K J w) {i : Nat} (hi : vOk K i) (j : Nat) (hj : j < 6) (x : Int32) {c : xE} (hc : c = obj Z (kPutV K i j x) J 10 i) : Rep Z (kPutV K i j x) J (x_set w (Z 10 i) c) := by
  refine h.put (K1 := kPutV K i j x) (J1 := J) (kind := 10) (idx := i) hi rfl rfl rfl rfl (fun k2 i2 g1 g2 => ?_) hc
  rcases k2 with _ | _ | _ | _ | _ | _ | _ | _ | _ | _ | _ | _ | _ | _ | _ | _ | k2
  all_goals first
    | rfl
    | (have hi2 : ¬ i2 = i := fun e => g2 ⟨rfl, e⟩
       simp [obj, kV_put, hi2]; done)
    | (simp [obj, kV_put, show ¬ 6 = j by omega, show ¬ 7 = j by omega, show ¬ 8 = j by omega]; done)
theorem Rep.putR (h : Rep Z K J w) {i : Nat} (hi : vOk K i) (j : Nat) (hj : 6 ≤ j) (x : Int32) {c : xE} (hc : c = obj Z (kPutV K i j x) J 11 i) : Rep Z (kPutV K i j x) J (x_set w (Z 11 i) c) := by
  refine h.put (K1 := kPutV K i j x) (J1 := J) (kind := 11) (idx := i) hi rfl rfl rfl rfl (fun k2 i2 g1 g2 => ?_) hc
  rcases k2 with _ | _ | _ | _ | _ | _ | _ | _ | _ | _ | _ | _ | _ | _ | _ | _ | k2
  all_goals first
    | rfl
    | (have hi2 : ¬ i2 = i := fun e => g2 ⟨rfl, e⟩
       simp [obj, kV_put, hi2]; done)
    | (simp [obj, kV_put, show ¬ 0 = j by omega, show ¬ 1 = j by omega, show ¬ 2 = j by omega, show ¬ 3 = j by omega, show ¬ 4 = j by omega, show ¬ 5 = j by omega]; done)
theorem Rep.putVA (h : Rep Z K J w) {i : Nat} (hi : vOk K i) (f : Nat → Int32) : Rep Z (kPutVA K i f) J (x_set w (Z 12 i) (aI 5 f)) := by
  refine h.put (K1 := kPutVA K i f) (J1 := J) (kind := 12) (idx := i) hi rfl rfl rfl rfl (fun k2 i2 g1 g2 => ?_) (by show aI 5 f = aI 5 (kVA (kPutVA K i f) i); rw [kVA_put, if_pos rfl])
  rcases k2 with _ | _ | _ | _ | _ | _ | _ | _ | _ | _ | _ | _ | _ | _ | _ | _ | k2
  all_goals first
    | rfl
    | (have hi2 : ¬ i2 = i := fun e => g2 ⟨rfl, e⟩
       simp [obj, kVA_put, hi2]; done)
theorem Rep.putC (h : Rep Z K J w) {k : Nat} (hk : k < nc K) (j : Nat) (x : Int32) {c : xE} (hc : c = obj Z (kPutC K k j x) J 13 k) : Rep Z (kPutC K k j x) J (x_set w (Z 13 k) c) := by
  refine h.put (K1 := kPutC K k j x) (J1 := J) (kind := 13) (idx := k) hk rfl rfl rfl rfl (fun k2 i2 g1 g2 => ?_) hc
  rcases k2 with _ | _ | _ | _ | _ | _ | _ | _ | _ | _ | _ | _ | _ | _ | _ | _ | k2
  all_goals first
    | rfl
    | (have hi2 : ¬ i2 = k := fun e => g2 ⟨rfl, e⟩
       simp [obj, kC_put, hi2]; exact ⟨rfl, rfl⟩)
theorem Rep.putCL (h : Rep Z K J w) {k : Nat} (hk : k < nc K) (f : Nat → Int32) : Rep Z (kPutCL K k f) J (x_set w (Z 14 k) (aI 6 f)) := by
  refine h.put (K1 := kPutCL K k f) (J1 := J) (kind := 14) (idx := k) hk rfl rfl rfl rfl (fun k2 i2 g1 g2 => ?_) (by show aI 6 f = aI 6 (kCL (kPutCL K k f) k); rw [kCL_put, if_pos rfl])
  rcases k2 with _ | _ | _ | _ | _ | _ | _ | _ | _ | _ | _ | _ | _ | _ | _ | _ | k2
  all_goals first
    | rfl
    | (have hi2 : ¬ i2 = k := fun e => g2 ⟨rfl, e⟩
       simp [obj, kCL_put, hi2]; done)
theorem Rep.putCS (h : Rep Z K J w) {k : Nat} (hk : k < nc K) (f : Nat → Int32) : Rep Z (kPutCS K k f) J (x_set w (Z 15 k) (aI 6 f)) := by
  refine h.put (K1 := kPutCS K k f) (J1 := J) (kind := 15) (idx := k) hk rfl rfl rfl rfl (fun k2 i2 g1 g2 => ?_) (by show aI 6 f = aI 6 (kCS (kPutCS K k f) k); rw [kCS_put, if_pos rfl])
  rcases k2 with _ | _ | _ | _ | _ | _ | _ | _ | _ | _ | _ | _ | _ | _ | _ | _ | k2
  all_goals first
    | rfl
    | (have hi2 : ¬ i2 = k := fun e => g2 ⟨rfl, e⟩
       simp [obj, kCS_put, hi2]; done)
theorem kN_ofG (K : kT) (j : Nat) (x : Int32) : kN (kPutG K j x) = kN K := rfl
theorem kV_ofG (K : kT) (j : Nat) (x : Int32) : kV (kPutG K j x) = kV K := rfl
theorem kVA_ofG (K : kT) (j : Nat) (x : Int32) : kVA (kPutG K j x) = kVA K := rfl
theorem kC_ofG (K : kT) (j : Nat) (x : Int32) : kC (kPutG K j x) = kC K := rfl
theorem kCL_ofG (K : kT) (j : Nat) (x : Int32) : kCL (kPutG K j x) = kCL K := rfl
theorem kCS_ofG (K : kT) (j : Nat) (x : Int32) : kCS (kPutG K j x) = kCS K := rfl
theorem kCV_ofG (K : kT) (j : Nat) (x : Int32) : kCV (kPutG K j x) = kCV K := rfl
theorem kA_ofG (K : kT) (j : Nat) (x : Int32) : kA (kPutG K j x) = kA K := rfl
theorem kAF_ofG (K : kT) (j : Nat) (x : Int32) : kAF (kPutG K j x) = kAF K := rfl
theorem kAT_ofG (K : kT) (j : Nat) (x : Int32) : kAT (kPutG K j x) = kAT K := rfl
theorem kN_ofV (K : kT) (i j : Nat) (x : Int32) : kN (kPutV K i j x) = kN K := rfl
theorem kG_ofV (K : kT) (i j : Nat) (x : Int32) : kG (kPutV K i j x) = kG K := rfl
theorem kVA_ofV (K : kT) (i j : Nat) (x : Int32) : kVA (kPutV K i j x) = kVA K := rfl
theorem kC_ofV (K : kT) (i j : Nat) (x : Int32) : kC (kPutV K i j x) = kC K := rfl
theorem kCL_ofV (K : kT) (i j : Nat) (x : Int32) : kCL (kPutV K i j x) = kCL K := rfl
theorem kCS_ofV (K : kT) (i j : Nat) (x : Int32) : kCS (kPutV K i j x) = kCS K := rfl
theorem kCV_ofV (K : kT) (i j : Nat) (x : Int32) : kCV (kPutV K i j x) = kCV K := rfl
theorem kA_ofV (K : kT) (i j : Nat) (x : Int32) : kA (kPutV K i j x) = kA K := rfl
theorem kAF_ofV (K : kT) (i j : Nat) (x : Int32) : kAF (kPutV K i j x) = kAF K := rfl
theorem kAT_ofV (K : kT) (i j : Nat) (x : Int32) : kAT (kPutV K i j x) = kAT K := rfl
theorem kN_ofVA (K : kT) (i : Nat) (f : Nat → Int32) : kN (kPutVA K i f) = kN K := rfl
theorem kG_ofVA (K : kT) (i : Nat) (f : Nat → Int32) : kG (kPutVA K i f) = kG K := rfl
theorem kV_ofVA (K : kT) (i : Nat) (f : Nat → Int32) : kV (kPutVA K i f) = kV K := rfl
theorem kC_ofVA (K : kT) (i : Nat) (f : Nat → Int32) : kC (kPutVA K i f) = kC K := rfl
theorem kCL_ofVA (K : kT) (i : Nat) (f : Nat → Int32) : kCL (kPutVA K i f) = kCL K := rfl
theorem kCS_ofVA (K : kT) (i : Nat) (f : Nat → Int32) : kCS (kPutVA K i f) = kCS K := rfl
theorem kCV_ofVA (K : kT) (i : Nat) (f : Nat → Int32) : kCV (kPutVA K i f) = kCV K := rfl
theorem kA_ofVA (K : kT) (i : Nat) (f : Nat → Int32) : kA (kPutVA K i f) = kA K := rfl
theorem kAF_ofVA (K : kT) (i : Nat) (f : Nat → Int32) : kAF (kPutVA K i f) = kAF K := rfl
theorem kAT_ofVA (K : kT) (i : Nat) (f : Nat → Int32) : kAT (kPutVA K i f) = kAT K := rfl
theorem kN_ofC (K : kT) (i j : Nat) (x : Int32) : kN (kPutC K i j x) = kN K := rfl
theorem kG_ofC (K : kT) (i j : Nat) (x : Int32) : kG (kPutC K i j x) = kG K := rfl
theorem kV_ofC (K : kT) (i j : Nat) (x : Int32) : kV (kPutC K i j x) = kV K := rfl
theorem kVA_ofC (K : kT) (i j : Nat) (x : Int32) : kVA (kPutC K i j x) = kVA K := rfl
theorem kCL_ofC (K : kT) (i j : Nat) (x : Int32) : kCL (kPutC K i j x) = kCL K := rfl
theorem kCS_ofC (K : kT) (i j : Nat) (x : Int32) : kCS (kPutC K i j x) = kCS K := rfl
theorem kCV_ofC (K : kT) (i j : Nat) (x : Int32) : kCV (kPutC K i j x) = kCV K := rfl
theorem kA_ofC (K : kT) (i j : Nat) (x : Int32) : kA (kPutC K i j x) = kA K := rfl
theorem kAF_ofC (K : kT) (i j : Nat) (x : Int32) : kAF (kPutC K i j x) = kAF K := rfl
theorem kAT_ofC (K : kT) (i j : Nat) (x : Int32) : kAT (kPutC K i j x) = kAT K := rfl
theorem kN_ofCL (K : kT) (i : Nat) (f : Nat → Int32) : kN (kPutCL K i f) = kN K := rfl
theorem kG_ofCL (K : kT) (i : Nat) (f : Nat → Int32) : kG (kPutCL K i f) = kG K := rfl
theorem kV_ofCL (K : kT) (i : Nat) (f : Nat → Int32) : kV (kPutCL K i f) = kV K := rfl
theorem kVA_ofCL (K : kT) (i : Nat) (f : Nat → Int32) : kVA (kPutCL K i f) = kVA K := rfl
theorem kC_ofCL (K : kT) (i : Nat) (f : Nat → Int32) : kC (kPutCL K i f) = kC K := rfl
theorem kCS_ofCL (K : kT) (i : Nat) (f : Nat → Int32) : kCS (kPutCL K i f) = kCS K := rfl
theorem kCV_ofCL (K : kT) (i : Nat) (f : Nat → Int32) : kCV (kPutCL K i f) = kCV K := rfl
theorem kA_ofCL (K : kT) (i : Nat) (f : Nat → Int32) : kA (kPutCL K i f) = kA K := rfl
theorem kAF_ofCL (K : kT) (i : Nat) (f : Nat → Int32) : kAF (kPutCL K i f) = kAF K := rfl
theorem kAT_ofCL (K : kT) (i : Nat) (f : Nat → Int32) : kAT (kPutCL K i f) = kAT K := rfl
theorem kN_ofCS (K : kT) (i : Nat) (f : Nat → Int32) : kN (kPutCS K i f) = kN K := rfl
theorem kG_ofCS (K : kT) (i : Nat) (f : Nat → Int32) : kG (kPutCS K i f) = kG K := rfl
theorem kV_ofCS (K : kT) (i : Nat) (f : Nat → Int32) : kV (kPutCS K i f) = kV K := rfl
theorem kVA_ofCS (K : kT) (i : Nat) (f : Nat → Int32) : kVA (kPutCS K i f) = kVA K := rfl
theorem kC_ofCS (K : kT) (i : Nat) (f : Nat → Int32) : kC (kPutCS K i f) = kC K := rfl
theorem kCL_ofCS (K : kT) (i : Nat) (f : Nat → Int32) : kCL (kPutCS K i f) = kCL K := rfl
theorem kCV_ofCS (K : kT) (i : Nat) (f : Nat → Int32) : kCV (kPutCS K i f) = kCV K := rfl
theorem kA_ofCS (K : kT) (i : Nat) (f : Nat → Int32) : kA (kPutCS K i f) = kA K := rfl
theorem kAF_ofCS (K : kT) (i : Nat) (f : Nat → Int32) : kAF (kPutCS K i f) = kAF K := rfl
theorem kAT_ofCS (K : kT) (i : Nat) (f : Nat → Int32) : kAT (kPutCS K i f) = kAT K := rfl
theorem kN_ofCV (K : kT) (i v : Nat) : kN (kPutCV K i v) = kN K := rfl
theorem kG_ofCV (K : kT) (i v : Nat) : kG (kPutCV K i v) = kG K := rfl
theorem kV_ofCV (K : kT) (i v : Nat) : kV (kPutCV K i v) = kV K := rfl
theorem kVA_ofCV (K : kT) (i v : Nat) : kVA (kPutCV K i v) = kVA K := rfl
theorem kC_ofCV (K : kT) (i v : Nat) : kC (kPutCV K i v) = kC K := rfl
theorem kCL_ofCV (K : kT) (i v : Nat) : kCL (kPutCV K i v) = kCL K := rfl
theorem kCS_ofCV (K : kT) (i v : Nat) : kCS (kPutCV K i v) = kCS K := rfl
theorem kA_ofCV (K : kT) (i v : Nat) : kA (kPutCV K i v) = kA K := rfl
theorem kAF_ofCV (K : kT) (i v : Nat) : kAF (kPutCV K i v) = kAF K := rfl
theorem kAT_ofCV (K : kT) (i v : Nat) : kAT (kPutCV K i v) = kAT K := rfl
theorem vOk_of {K1 K : kT} {i : Nat} (h : kN K1 = kN K) (hi : vOk K i) : vOk K1 i := by unfold vOk nf nv at *; rw [h]; exact hi
theorem kG_put_j {K : kT} {j b : Nat} {x : Int32} (h : ¬ b = j) : kG (kPutG K j x) b = kG K b := if_neg h
theorem kV_put_j {K : kT} {i j a b : Nat} {x : Int32} (h : ¬ b = j) : kV (kPutV K i j x) a b = kV K a b := if_neg (fun q => h q.1)
theorem kC_put_j {K : kT} {i j a b : Nat} {x : Int32} (h : ¬ b = j) : kC (kPutC K i j x) a b = kC K a b := if_neg (fun q => h q.1)
theorem kV_put_e {K : kT} {i j : Nat} {x : Int32} : kV (kPutV K i j x) i j = x := if_pos ⟨rfl, rfl⟩
theorem kC_put_e {K : kT} {i j : Nat} {x : Int32} : kC (kPutC K i j x) i j = x := if_pos ⟨rfl, rfl⟩
theorem kVA_put_e {K : kT} {i : Nat} {f : Nat → Int32} : kVA (kPutVA K i f) i = f := if_pos rfl
/-- an answer, and the state then -/
def QM (Z : Nat → Nat → Nat) (K : kT) (w : xW) (x : Int32) (K1 : kT) : Value → xW → Prop := fun v w1 => ∃ J1, v = .int x ∧ Rep Z K1 J1 w1 ∧ Oth Z K w w1
def VM (Z : Nat → Nat → Nat) (K : kT) (w : xW) (K1 : kT) : xW → Prop := fun w1 => ∃ J1, Rep Z K1 J1 w1 ∧ Oth Z K w w1
def f_askok (f : Nat → Int32) (o : Int32) : Bool := (!decide (o < 0)) && ((!decide (5 ≤ o)) && decide (f o.toNatClampNeg = -1))
def f_askrow (f : Nat → Int32) (o h : Int32) : Nat → Int32 := if f_askok f o then upd f o.toNatClampNeg h else f
def f_note (K : kT) (k : Nat) (h : Int32) (b : Bool) : kT := kPutCS (kPutCL (kPutC (kPutC K k 2 (kC K k 2 + 1)) k 3 (kC K k 3 + x_b (!b))) k (upd (kCL K k) (kCV K k % 6) h)) k (upd (kCS K k) (kCV K k % 6) (kCS K k (kCV K k % 6) + x_b b))
set_option maxRecDepth 100000 in
set_option maxHeartbeats 4000000 in
theorem c_ask (hR : Rep Z K J w) {i : Nat} (hi : vOk K i) (o h : Int32) : Ci l D dA B yX3_ask wX3_ask 0 [.ref (Z 11 i), .int o, .int h] w (QM Z K w (x_b (f_askok (kVA K i) o)) (kPutVA K i (f_askrow (kVA K i) o h))) := by
  refine x_Ct.of (cc := cX3_ask) (maxL := 3) (by decide) rfl (Nat.le_of_ble_eq_true rfl) ?_
  intro p e s m below meth c F
  have hO : Oth Z K w w := Oth.rfl
  refine x_iload_n F dX3_ask_0 rfl rfl ?_
  refine x_if_lt F dX3_ask_1 rfl (fun h1 => ?_) (fun h1 => ?_)
  · have hq : f_askok (kVA K i) o = false := by unfold f_askok; rw [decide_eq_true h1]; rfl
    refine x_iconst (v := 0) F dX3_ask_23 (by decide) ?_
    refine x_iret F rfl rfl dX3_ask_24 (Nat.le_refl _) (Nat.le_refl _) ?_
    exact ⟨_, rfl, J, by rw [hq]; rfl, by rw [show f_askrow (kVA K i) o h = kVA K i from if_neg (by rw [hq]; decide), kPutVA_self]; exact hR, Oth.rfl⟩
  · refine x_iload_n F dX3_ask_4 rfl rfl ?_
    refine x_aload_n F dX3_ask_5 rfl rfl ?_
    refine x_get (ci := 3) (C := RX3) (T := TX3) (N := 4) (k := 0) F dX3_ask_6 rfl inX3 (by decide) q54 rfl (hR.ret hi) rfl ?_
    refine x_alen (v := 5) F dX3_ask_9 rfl (hR.ask hi) rfl ?_
    refine x_icmp_ge F dX3_ask_10 rfl (fun h10 => ?_) (fun h10 => ?_)
    · have hq : f_askok (kVA K i) o = false := by unfold f_askok; rw [decide_eq_true h10, Bool.not_true, Bool.false_and, Bool.and_false]
      refine x_iconst (v := 0) F dX3_ask_23 (by decide) ?_
      refine x_iret F rfl rfl dX3_ask_24 (Nat.le_refl _) (Nat.le_refl _) ?_
      exact ⟨_, rfl, J, by rw [hq]; rfl, by rw [show f_askrow (kVA K i) o h = kVA K i from if_neg (by rw [hq]; decide), kPutVA_self]; exact hR, Oth.rfl⟩
    · refine x_aload_n F dX3_ask_13 rfl rfl ?_
      refine x_get (ci := 3) (C := RX3) (T := TX3) (N := 4) (k := 0) F dX3_ask_14 rfl inX3 (by decide) q54 rfl (hR.ret hi) rfl ?_
      refine x_iload_n F dX3_ask_17 rfl rfl ?_
      refine x_iald F dX3_ask_18 rfl (hR.ask hi) (x_in (m2 := 5) (by decide) h1 h10) ?_
      refine x_iconst (v := (-1)) F dX3_ask_19 (by decide) ?_
      refine x_icmp_eq F dX3_ask_20 rfl (fun h20 => ?_) (fun h20 => ?_)
      · have hq : f_askok (kVA K i) o = true := by unfold f_askok; rw [decide_eq_false h1, decide_eq_false h10, decide_eq_true h20]; rfl
        refine x_aload_n F dX3_ask_25 rfl rfl ?_
        refine x_get (ci := 3) (C := RX3) (T := TX3) (N := 4) (k := 0) F dX3_ask_26 rfl inX3 (by decide) q54 rfl (hR.ret hi) rfl ?_
        refine x_iload_n F dX3_ask_29 rfl rfl ?_
        refine x_iload_n F dX3_ask_30 rfl rfl ?_
        refine x_iast F dX3_ask_31 rfl (hR.ask hi) (x_in (m2 := 5) (by decide) h1 h10) ?_
        refine x_wd (fun w1 hw1 => ?_)
        have hO : Oth Z K w w1 := hO.trans (by rw [hw1]; exact Oth.set (kind := 12) (idx := i) hi _) rfl
        have hR : Rep Z (kPutVA K i (upd (kVA K i) o.toNatClampNeg h)) J w1 := by rw [hw1]; exact hR.putVA hi _
        refine x_iconst (v := 1) F dX3_ask_32 (by decide) ?_
        refine x_iret F rfl rfl dX3_ask_33 (Nat.le_refl _) (Nat.le_refl _) ?_
        exact ⟨_, rfl, J, by rw [hq]; rfl, by rw [show f_askrow (kVA K i) o h = upd (kVA K i) o.toNatClampNeg h from if_pos hq]; exact hR, hO⟩
      · have hq : f_askok (kVA K i) o = false := by unfold f_askok; rw [decide_eq_false h20, Bool.and_false, Bool.and_false]
        refine x_iconst (v := 0) F dX3_ask_23 (by decide) ?_
        refine x_iret F rfl rfl dX3_ask_24 (Nat.le_refl _) (Nat.le_refl _) ?_
        exact ⟨_, rfl, J, by rw [hq]; rfl, by rw [show f_askrow (kVA K i) o h = kVA K i from if_neg (by rw [hq]; decide), kPutVA_self]; exact hR, Oth.rfl⟩
set_option maxRecDepth 100000 in
set_option maxHeartbeats 4000000 in
theorem c_noteCall_true (hR : Rep Z K J w) {k : Nat} (hk : k < nc K) (h : Int32) : Cv l D dA B yX1_noteCall wX1_noteCall 0 [.ref (Z 13 k), .int h, .int (x_b true)] w (VM Z K w (f_note K k h true)) := by
  refine x_Ct.of (cc := cX1_noteCall) (maxL := 4) (by decide) rfl (Nat.le_of_ble_eq_true rfl) ?_
  intro p e s m below meth c F
  have hO : Oth Z K w w := Oth.rfl
  refine x_aload_n F dX1_noteCall_0 rfl rfl ?_
  refine x_dup F dX1_noteCall_1 rfl ?_
  refine x_get (ci := 1) (C := RX1) (T := TX1) (N := 8) (k := 6) F dX1_noteCall_2 rfl inX1 (by decide) q256 rfl (hR.cli hk) rfl ?_
  refine x_iconst (v := 1) F dX1_noteCall_5 (by decide) ?_
  refine x_iadd F dX1_noteCall_6 ?_
  refine x_put (ci := 1) (C := RX1) (T := TX1) (N := 8) (k := 6) F dX1_noteCall_7 rfl inX1 tyX1 tyX1_ok nmX1 (by decide) q256 rfl rfl (hR.cli hk) (Nat.le_of_ble_eq_true rfl) rfl rfl ?_
  refine x_wd (fun w1 hw1 => ?_)
  have hO : Oth Z K w w1 := hO.trans (by rw [hw1]; exact Oth.set (kind := 13) (idx := k) hk _) rfl
  have hR : Rep Z (kPutC K k 2 (kC K k 2 + 1)) J w1 := by rw [hw1]; exact hR.putC hk 2 _ (by first | (simp [obj, kV_put, kC_put, kG_put, kCV_put, kC_ofCV, kV_ofCV, kCV_ofC, kCV_ofV]; done) | (simp [obj, kV_put, kC_put, kG_put, kCV_put, kC_ofCV, kV_ofCV, kCV_ofC, kCV_ofV]; exact ⟨rfl, rfl⟩) | (simp [obj, kV_put, kC_put, kG_put, kCV_put, kC_ofCV, kV_ofCV, kCV_ofC, kCV_ofV]; rfl) | (simp [obj, kV_put, kC_put, kG_put, kCV_put, kC_ofCV, kV_ofCV, kCV_ofC, kCV_ofV]; and_intros <;> rfl))
  refine x_iload_n F dX1_noteCall_10 rfl rfl ?_
  refine x_if_ne F dX1_noteCall_11 rfl (fun _ => ?_) (fun hc => absurd hc (by decide))
  have hR : Rep Z (kPutC (kPutC K k 2 (kC K k 2 + 1)) k 3 (kC K k 3 + x_b (!true))) J w1 := by rw [kPutC_self (K := kPutC K k 2 (kC K k 2 + 1)) (j := 3) (by rw [kC_put_j (by decide)]; exact Int32.add_zero _)]; exact hR
  refine x_aload_n F dX1_noteCall_24 rfl rfl ?_
  refine x_get (ci := 1) (C := RX1) (T := TX1) (N := 8) (k := 4) F dX1_noteCall_25 rfl inX1 (by decide) q252 rfl (hR.cli hk) rfl ?_
  refine x_get (ci := 5) (C := RX5) (T := TX5) (N := 9) (k := 1) F dX1_noteCall_28 rfl inX5 (by decide) q140 rfl (hR.ver (hR.cv hk)) rfl ?_
  refine x_istore_n F dX1_noteCall_31 rfl (by decide) ?_
  refine x_iload_n F dX1_noteCall_32 rfl rfl ?_
  refine x_if_lt F dX1_noteCall_33 rfl (fun hc => absurd hc (nI_pos (by omega))) (fun h33 => ?_)
  refine x_iload_n F dX1_noteCall_36 rfl rfl ?_
  refine x_aload_n F dX1_noteCall_37 rfl rfl ?_
  refine x_get (ci := 1) (C := RX1) (T := TX1) (N := 8) (k := 2) F dX1_noteCall_38 rfl inX1 (by decide) q249 rfl (hR.cli hk) rfl ?_
  refine x_alen (v := 6) F dX1_noteCall_41 rfl (hR.cla hk) rfl ?_
  refine x_icmp_ge F dX1_noteCall_42 rfl (fun hc => absurd hc (nI_ge (b := 6) (by omega) (by decide))) (fun h42 => ?_)
  refine x_iload_n F dX1_noteCall_45 rfl rfl ?_
  refine x_aload_n F dX1_noteCall_46 rfl rfl ?_
  refine x_get (ci := 1) (C := RX1) (T := TX1) (N := 8) (k := 3) F dX1_noteCall_47 rfl inX1 (by decide) q250 rfl (hR.cli hk) rfl ?_
  refine x_alen (v := 6) F dX1_noteCall_50 rfl (hR.csv hk) rfl ?_
  refine x_icmp_ge F dX1_noteCall_51 rfl (fun hc => absurd hc (nI_ge (b := 6) (by omega) (by decide))) (fun h51 => ?_)
  refine x_aload_n F dX1_noteCall_54 rfl rfl ?_
  refine x_get (ci := 1) (C := RX1) (T := TX1) (N := 8) (k := 2) F dX1_noteCall_55 rfl inX1 (by decide) q249 rfl (hR.cli hk) rfl ?_
  refine x_iload_n F dX1_noteCall_58 rfl rfl ?_
  refine x_iload_n F dX1_noteCall_59 rfl rfl ?_
  refine x_iastN F dX1_noteCall_60 rfl (hR.cla hk) (by omega) (by decide) ?_
  refine x_wd (fun w3 hw3 => ?_)
  have hO : Oth Z K w w3 := hO.trans (by rw [hw3]; exact Oth.set (kind := 14) (idx := k) hk _) rfl
  have hR : Rep Z (kPutCL (kPutC (kPutC K k 2 (kC K k 2 + 1)) k 3 (kC K k 3 + x_b (!true))) k (upd (kCL K k) (kCV K k % 6) h)) J w3 := by rw [hw3]; exact hR.putCL hk _
  refine x_aload_n F dX1_noteCall_61 rfl rfl ?_
  refine x_get (ci := 1) (C := RX1) (T := TX1) (N := 8) (k := 3) F dX1_noteCall_62 rfl inX1 (by decide) q250 rfl (hR.cli hk) rfl ?_
  refine x_iload_n F dX1_noteCall_65 rfl rfl ?_
  refine x_dup2 F dX1_noteCall_66 rfl rfl ?_
  refine x_ialdN F dX1_noteCall_67 rfl (hR.csv hk) (by omega) (by decide) ?_
  refine x_iload_n F dX1_noteCall_68 rfl rfl ?_
  refine x_if_eq F dX1_noteCall_69 rfl (fun hc => absurd hc (by decide)) (fun _ => ?_)
  refine x_iconst (v := 1) F dX1_noteCall_72 (by decide) ?_
  refine x_goto F dX1_noteCall_73 rfl ?_
  refine x_iadd F dX1_noteCall_77 ?_
  refine x_iastN F dX1_noteCall_78 rfl (hR.csv hk) (by omega) (by decide) ?_
  refine x_wd (fun w4 hw4 => ?_)
  have hO : Oth Z K w w4 := hO.trans (by rw [hw4]; exact Oth.set (kind := 15) (idx := k) hk _) rfl
  have hR : Rep Z (f_note K k h true) J w4 := by rw [hw4]; exact hR.putCS hk _
  refine x_vret F rfl dX1_noteCall_79 (Nat.le_refl _) (Nat.le_refl _) ?_
  exact ⟨rfl, J, hR, hO⟩
set_option maxRecDepth 100000 in
set_option maxHeartbeats 4000000 in
theorem c_noteCall_false (hR : Rep Z K J w) {k : Nat} (hk : k < nc K) (h : Int32) : Cv l D dA B yX1_noteCall wX1_noteCall 0 [.ref (Z 13 k), .int h, .int (x_b false)] w (VM Z K w (f_note K k h false)) := by
  refine x_Ct.of (cc := cX1_noteCall) (maxL := 4) (by decide) rfl (Nat.le_of_ble_eq_true rfl) ?_
  intro p e s m below meth c F
  have hO : Oth Z K w w := Oth.rfl
  refine x_aload_n F dX1_noteCall_0 rfl rfl ?_
  refine x_dup F dX1_noteCall_1 rfl ?_
  refine x_get (ci := 1) (C := RX1) (T := TX1) (N := 8) (k := 6) F dX1_noteCall_2 rfl inX1 (by decide) q256 rfl (hR.cli hk) rfl ?_
  refine x_iconst (v := 1) F dX1_noteCall_5 (by decide) ?_
  refine x_iadd F dX1_noteCall_6 ?_
  refine x_put (ci := 1) (C := RX1) (T := TX1) (N := 8) (k := 6) F dX1_noteCall_7 rfl inX1 tyX1 tyX1_ok nmX1 (by decide) q256 rfl rfl (hR.cli hk) (Nat.le_of_ble_eq_true rfl) rfl rfl ?_
  refine x_wd (fun w1 hw1 => ?_)
  have hO : Oth Z K w w1 := hO.trans (by rw [hw1]; exact Oth.set (kind := 13) (idx := k) hk _) rfl
  have hR : Rep Z (kPutC K k 2 (kC K k 2 + 1)) J w1 := by rw [hw1]; exact hR.putC hk 2 _ (by first | (simp [obj, kV_put, kC_put, kG_put, kCV_put, kC_ofCV, kV_ofCV, kCV_ofC, kCV_ofV]; done) | (simp [obj, kV_put, kC_put, kG_put, kCV_put, kC_ofCV, kV_ofCV, kCV_ofC, kCV_ofV]; exact ⟨rfl, rfl⟩) | (simp [obj, kV_put, kC_put, kG_put, kCV_put, kC_ofCV, kV_ofCV, kCV_ofC, kCV_ofV]; rfl) | (simp [obj, kV_put, kC_put, kG_put, kCV_put, kC_ofCV, kV_ofCV, kCV_ofC, kCV_ofV]; and_intros <;> rfl))
  refine x_iload_n F dX1_noteCall_10 rfl rfl ?_
  refine x_if_ne F dX1_noteCall_11 rfl (fun hc => absurd hc (by decide)) (fun _ => ?_)
  refine x_aload_n F dX1_noteCall_14 rfl rfl ?_
  refine x_dup F dX1_noteCall_15 rfl ?_
  refine x_get (ci := 1) (C := RX1) (T := TX1) (N := 8) (k := 7) F dX1_noteCall_16 rfl inX1 (by decide) q258 rfl (hR.cli hk) rfl ?_
  rw [kC_put_j (by decide)]
  refine x_iconst (v := 1) F dX1_noteCall_19 (by decide) ?_
  refine x_iadd F dX1_noteCall_20 ?_
  refine x_put (ci := 1) (C := RX1) (T := TX1) (N := 8) (k := 7) F dX1_noteCall_21 rfl inX1 tyX1 tyX1_ok nmX1 (by decide) q258 rfl rfl (hR.cli hk) (Nat.le_of_ble_eq_true rfl) rfl rfl ?_
  refine x_wd (fun w2 hw2 => ?_)
  have hO : Oth Z K w w2 := hO.trans (by rw [hw2]; exact Oth.set (kind := 13) (idx := k) hk _) rfl
  have hR : Rep Z (kPutC (kPutC K k 2 (kC K k 2 + 1)) k 3 (kC K k 3 + x_b (!false))) J w2 := by rw [hw2]; exact hR.putC hk 3 _ (by first | (simp [obj, kV_put, kC_put, kG_put, kCV_put, kC_ofCV, kV_ofCV, kCV_ofC, kCV_ofV]; done) | (simp [obj, kV_put, kC_put, kG_put, kCV_put, kC_ofCV, kV_ofCV, kCV_ofC, kCV_ofV]; exact ⟨rfl, rfl⟩) | (simp [obj, kV_put, kC_put, kG_put, kCV_put, kC_ofCV, kV_ofCV, kCV_ofC, kCV_ofV]; rfl) | (simp [obj, kV_put, kC_put, kG_put, kCV_put, kC_ofCV, kV_ofCV, kCV_ofC, kCV_ofV]; and_intros <;> rfl))
  have hR := hR
  refine x_aload_n F dX1_noteCall_24 rfl rfl ?_
  refine x_get (ci := 1) (C := RX1) (T := TX1) (N := 8) (k := 4) F dX1_noteCall_25 rfl inX1 (by decide) q252 rfl (hR.cli hk) rfl ?_
  refine x_get (ci := 5) (C := RX5) (T := TX5) (N := 9) (k := 1) F dX1_noteCall_28 rfl inX5 (by decide) q140 rfl (hR.ver (hR.cv hk)) rfl ?_
  refine x_istore_n F dX1_noteCall_31 rfl (by decide) ?_
  refine x_iload_n F dX1_noteCall_32 rfl rfl ?_
  refine x_if_lt F dX1_noteCall_33 rfl (fun hc => absurd hc (nI_pos (by omega))) (fun h33 => ?_)
  refine x_iload_n F dX1_noteCall_36 rfl rfl ?_
  refine x_aload_n F dX1_noteCall_37 rfl rfl ?_
  refine x_get (ci := 1) (C := RX1) (T := TX1) (N := 8) (k := 2) F dX1_noteCall_38 rfl inX1 (by decide) q249 rfl (hR.cli hk) rfl ?_
  refine x_alen (v := 6) F dX1_noteCall_41 rfl (hR.cla hk) rfl ?_
  refine x_icmp_ge F dX1_noteCall_42 rfl (fun hc => absurd hc (nI_ge (b := 6) (by omega) (by decide))) (fun h42 => ?_)
  refine x_iload_n F dX1_noteCall_45 rfl rfl ?_
  refine x_aload_n F dX1_noteCall_46 rfl rfl ?_
  refine x_get (ci := 1) (C := RX1) (T := TX1) (N := 8) (k := 3) F dX1_noteCall_47 rfl inX1 (by decide) q250 rfl (hR.cli hk) rfl ?_
  refine x_alen (v := 6) F dX1_noteCall_50 rfl (hR.csv hk) rfl ?_
  refine x_icmp_ge F dX1_noteCall_51 rfl (fun hc => absurd hc (nI_ge (b := 6) (by omega) (by decide))) (fun h51 => ?_)
  refine x_aload_n F dX1_noteCall_54 rfl rfl ?_
  refine x_get (ci := 1) (C := RX1) (T := TX1) (N := 8) (k := 2) F dX1_noteCall_55 rfl inX1 (by decide) q249 rfl (hR.cli hk) rfl ?_
  refine x_iload_n F dX1_noteCall_58 rfl rfl ?_
  refine x_iload_n F dX1_noteCall_59 rfl rfl ?_
  refine x_iastN F dX1_noteCall_60 rfl (hR.cla hk) (by omega) (by decide) ?_
  refine x_wd (fun w3 hw3 => ?_)
  have hO : Oth Z K w w3 := hO.trans (by rw [hw3]; exact Oth.set (kind := 14) (idx := k) hk _) rfl
  have hR : Rep Z (kPutCL (kPutC (kPutC K k 2 (kC K k 2 + 1)) k 3 (kC K k 3 + x_b (!false))) k (upd (kCL K k) (kCV K k % 6) h)) J w3 := by rw [hw3]; exact hR.putCL hk _
  refine x_aload_n F dX1_noteCall_61 rfl rfl ?_
  refine x_get (ci := 1) (C := RX1) (T := TX1) (N := 8) (k := 3) F dX1_noteCall_62 rfl inX1 (by decide) q250 rfl (hR.cli hk) rfl ?_
  refine x_iload_n F dX1_noteCall_65 rfl rfl ?_
  refine x_dup2 F dX1_noteCall_66 rfl rfl ?_
  refine x_ialdN F dX1_noteCall_67 rfl (hR.csv hk) (by omega) (by decide) ?_
  refine x_iload_n F dX1_noteCall_68 rfl rfl ?_
  refine x_if_eq F dX1_noteCall_69 rfl (fun _ => ?_) (fun hc => absurd hc (by decide))
  refine x_iconst (v := 0) F dX1_noteCall_76 (by decide) ?_
  refine x_iadd F dX1_noteCall_77 ?_
  refine x_iastN F dX1_noteCall_78 rfl (hR.csv hk) (by omega) (by decide) ?_
  refine x_wd (fun w4 hw4 => ?_)
  have hO : Oth Z K w w4 := hO.trans (by rw [hw4]; exact Oth.set (kind := 15) (idx := k) hk _) rfl
  have hR : Rep Z (f_note K k h false) J w4 := by rw [hw4]; exact hR.putCS hk _
  refine x_vret F rfl dX1_noteCall_79 (Nat.le_refl _) (Nat.le_refl _) ?_
  exact ⟨rfl, J, hR, hO⟩
theorem c_noteCall (hR : Rep Z K J w) {k : Nat} (hk : k < nc K) (h : Int32) (b : Bool) : Cv l D dA B yX1_noteCall wX1_noteCall 0 [.ref (Z 13 k), .int h, .int (x_b b)] w (VM Z K w (f_note K k h b)) := by
  cases b
  · exact c_noteCall_false hR hk h
  · exact c_noteCall_true hR hk h
def f_row0 (K : kT) (k : Nat) : Nat → Int32 := if kV K (kCV K k) 2 = 1 then f_askrow (kVA K (kCV K k)) (kC K k 0) (kG K 0) else kVA K (kCV K k)
def f_sv1 (K : kT) (k : Nat) : kT := kPutVA K (kCV K k) (f_row0 K k)
def f_svo (K : kT) (k : Nat) : Int32 := f_outc (f_sv1 K k) k (kV K (kCV K k) 2) (kG K 0) (f_served K k (kCV K k))
def f_svb (K : kT) (k : Nat) : Bool := decide (f_svo K k = 0) || decide (f_svo K k = 1)
def f_sv2 (K : kT) (k : Nat) : kT := f_note (f_sv1 K k) k (kG K 0) (f_svb K k)
def f_sv3 (K : kT) (k : Nat) : kT := kPutG (kPutV (f_sv2 K k) (kCV K k) 4 (kV K (kCV K k) 4 + 1)) 1 (kG K 1 + 1)
def f_sv4 (K : kT) (k : Nat) : kT := kPutG (kPutV (f_sv3 K k) (kCV K k) 5 (kV K (kCV K k) 5 + x_b (!f_svb K k))) 2 (kG K 2 + x_b (!f_svb K k))
def f_serve (K : kT) (k : Nat) : kT := kPutG (f_sv4 K k) 3 (kG K 3 + x_b (decide (f_svo K k = 1)))
theorem f_sv1_of {K : kT} {k : Nat} {f : Nat → Int32} (h : f_row0 K k = f) : f_sv1 K k = kPutVA K (kCV K k) f := by unfold f_sv1; rw [h]
set_option maxRecDepth 100000 in
set_option maxHeartbeats 4000000 in
theorem c_isServedCall (hR : Rep Z K J w) {k : Nat} (hk : k < nc K) : Ci l D dA B yX6_isServedCall wX6_isServedCall 7 [.ref (Z 0 0), .ref (Z 13 k)] w (QM Z K w (x_b (f_svb K k)) (f_serve K k)) := by
  refine x_Ct.of (cc := cX6_isServedCall) (maxL := 5) (by decide) rfl (Nat.le_of_ble_eq_true rfl) ?_
  intro p e s m below meth c F
  have tail : ∀ J wz, Rep Z (f_sv1 K k) J wz → Oth Z K w wz → X p l e (rmd 7 0 0) s m #[.ref (Z 0 0), .ref (Z 13 k)] below meth c (MQ below (x_Q D dA vwCl tyL0 B (fun r w1 => ∃ v, r = some v ∧ (QM Z K w (x_b (f_svb K k)) (f_serve K k) v w1))) #[.ref (Z 0 0), .ref (Z 13 k)] s 0 0 (fun q => B ≤ q)) D dA vwCl B 5 0 0 29 [(0, .ref (Z 0 0)), (1, .ref (Z 13 k)), (2, .ref (Z 10 (kCV K k)))] [] wz := by
    intro J wz hR hO
    refine x_aload_n F dX6_isServedCall_29 rfl rfl ?_
    refine x_aload_n F dX6_isServedCall_30 rfl rfl ?_
    refine x_aload_n F dX6_isServedCall_31 rfl rfl ?_
    refine x_get (ci := 5) (C := RX5) (T := TX5) (N := 9) (k := 5) F dX6_isServedCall_32 rfl inX5 (by decide) q149 rfl (hR.ver (hR.cv hk)) rfl ?_
    refine x_aload_n F dX6_isServedCall_35 rfl rfl ?_
    refine x_get (ci := 6) (C := RX6) (T := TX6) (N := 12) (k := 6) F dX6_isServedCall_36 rfl inX6 (by decide) q71 rfl hR.main rfl ?_
    refine x_aload_n F dX6_isServedCall_39 rfl rfl ?_
    refine x_aload_n F dX6_isServedCall_40 rfl rfl ?_
    refine x_cVi1 (ci := 1) (C := RX1) (T := TX1) (N := 8) F dX6_isServedCall_41 (x_gV q319 q320 q321 q13 q322) rfl (c_servedThisHourBy hR hk (hR.cv hk)) ⟨rfl, rfl, rfl, xd_X1_servedThisHourBy, ⟨Nat.le_of_ble_eq_true rfl, Nat.le_of_ble_eq_true rfl⟩, Nat.le_of_ble_eq_true rfl, Nat.le_of_ble_eq_true rfl⟩ rfl (hR.cli hk) (Nat.le_of_ble_eq_true rfl) (fun v1 w1 hp => ?_)
    obtain ⟨rfl, hw9⟩ := hp
    replace hw9 := hw9.symm
    subst hw9
    refine x_cVi4 (ci := 6) (C := RX6) (T := TX6) (N := 12) F dX6_isServedCall_44 (x_gV q323 q324 q460 q1 q325) rfl (c_outcomeOf hR hk (kV K (kCV K k) 2) (kG K 0) (f_served K k (kCV K k))) ⟨rfl, rfl, rfl, xd_X6_outcomeOf, ⟨Nat.le_of_ble_eq_true rfl, Nat.le_of_ble_eq_true rfl⟩, Nat.le_of_ble_eq_true rfl, Nat.le_of_ble_eq_true rfl⟩ rfl hR.main (Nat.le_of_ble_eq_true rfl) (fun v1 w1 hp => ?_)
    obtain ⟨J1, rfl, hR, hO2⟩ := hp
    have hO := hO.trans hO2 rfl
    refine x_istore_n F dX6_isServedCall_47 rfl (by decide) ?_
    refine x_iload_n F dX6_isServedCall_48 rfl rfl ?_
    refine x_if_eq F dX6_isServedCall_49 rfl (fun h49 => ?_) (fun h49 => ?_)
    · have hb : f_svb K k = true := by unfold f_svb; rw [show f_svo K k = 0 from h49]; rfl
      have ho1 : ¬ f_svo K k = 1 := by rw [show f_svo K k = 0 from h49]; decide
      refine x_iconst (v := 1) F dX6_isServedCall_57 (by decide) ?_
      refine x_goto F dX6_isServedCall_58 rfl ?_
      refine x_istore F dX6_isServedCall_62 (by decide) ?_
      refine x_aload_n F dX6_isServedCall_64 rfl rfl ?_
      refine x_aload_n F dX6_isServedCall_65 rfl rfl ?_
      refine x_get (ci := 6) (C := RX6) (T := TX6) (N := 12) (k := 6) F dX6_isServedCall_66 rfl inX6 (by decide) q71 rfl hR.main rfl ?_
      refine x_iload F dX6_isServedCall_69 rfl ?_
      refine x_cVv2 (ci := 1) (C := RX1) (T := TX1) (N := 8) F dX6_isServedCall_71 (x_gV q337 q338 q339 q13 q340) rfl (c_noteCall hR hk (kG K 0) true) ⟨rfl, rfl, rfl, xd_X1_noteCall, ⟨Nat.le_of_ble_eq_true rfl, Nat.le_of_ble_eq_true rfl⟩, Nat.le_of_ble_eq_true rfl, Nat.le_of_ble_eq_true rfl⟩ rfl (hR.cli hk) (Nat.le_of_ble_eq_true rfl) (fun w1 hp => ?_)
      obtain ⟨J1, hR, hO2⟩ := hp
      have hO := hO.trans hO2 rfl
      have hR : Rep Z (f_sv2 K k) J1 w1 := by unfold f_sv2; rw [hb]; exact hR
      refine x_aload_n F dX6_isServedCall_74 rfl rfl ?_
      refine x_dup F dX6_isServedCall_75 rfl ?_
      refine x_get (ci := 5) (C := RX5) (T := TX5) (N := 9) (k := 7) F dX6_isServedCall_76 rfl inX5 (by decide) q151 rfl (hR.ver (hR.cv hk)) rfl ?_
      refine x_iconst (v := 1) F dX6_isServedCall_79 (by decide) ?_
      refine x_iadd F dX6_isServedCall_80 ?_
      refine x_put (ci := 5) (C := RX5) (T := TX5) (N := 9) (k := 7) F dX6_isServedCall_81 rfl inX5 tyX5 tyX5_ok nmX5 (by decide) q151 rfl rfl (hR.ver (hR.cv hk)) (Nat.le_of_ble_eq_true rfl) rfl rfl ?_
      refine x_wd (fun w1 hw1 => ?_)
      have hO : Oth Z K w w1 := hO.trans (by rw [hw1]; exact Oth.set (kind := 10) (idx := (kCV K k)) (hR.cv hk) _) rfl
      have hR : Rep Z (kPutV (f_sv2 K k) (kCV K k) 4 (kV K (kCV K k) 4 + 1)) J1 w1 := by rw [hw1]; exact hR.putV (hR.cv hk) 4 (by decide) _ (by first | (simp [obj, kV_put, kC_put, kG_put, kCV_put, kC_ofCV, kV_ofCV, kCV_ofC, kCV_ofV]; done) | (simp [obj, kV_put, kC_put, kG_put, kCV_put, kC_ofCV, kV_ofCV, kCV_ofC, kCV_ofV]; exact ⟨rfl, rfl⟩) | (simp [obj, kV_put, kC_put, kG_put, kCV_put, kC_ofCV, kV_ofCV, kCV_ofC, kCV_ofV]; rfl) | (simp [obj, kV_put, kC_put, kG_put, kCV_put, kC_ofCV, kV_ofCV, kCV_ofC, kCV_ofV]; and_intros <;> rfl))
      refine x_aload_n F dX6_isServedCall_84 rfl rfl ?_
      refine x_dup F dX6_isServedCall_85 rfl ?_
      refine x_get (ci := 6) (C := RX6) (T := TX6) (N := 12) (k := 7) F dX6_isServedCall_86 rfl inX6 (by decide) q72 rfl hR.main rfl ?_
      refine x_iconst (v := 1) F dX6_isServedCall_89 (by decide) ?_
      refine x_iadd F dX6_isServedCall_90 ?_
      refine x_put (ci := 6) (C := RX6) (T := TX6) (N := 12) (k := 7) F dX6_isServedCall_91 rfl inX6 tyX6 tyX6_ok nmX6 (by decide) q72 rfl rfl hR.main (Nat.le_of_ble_eq_true rfl) rfl rfl ?_
      refine x_wd (fun w2 hw2 => ?_)
      have hO : Oth Z K w w2 := hO.trans (by rw [hw2]; exact Oth.set (kind := 0) (idx := 0) rfl _) rfl
      have hR : Rep Z (f_sv3 K k) J1 w2 := by rw [hw2]; exact hR.putG 1 _ (by first | (simp [obj, kV_put, kC_put, kG_put, kCV_put, kC_ofCV, kV_ofCV, kCV_ofC, kCV_ofV]; done) | (simp [obj, kV_put, kC_put, kG_put, kCV_put, kC_ofCV, kV_ofCV, kCV_ofC, kCV_ofV]; exact ⟨rfl, rfl⟩) | (simp [obj, kV_put, kC_put, kG_put, kCV_put, kC_ofCV, kV_ofCV, kCV_ofC, kCV_ofV]; rfl) | (simp [obj, kV_put, kC_put, kG_put, kCV_put, kC_ofCV, kV_ofCV, kCV_ofC, kCV_ofV]; and_intros <;> rfl))
      have hR : Rep Z (f_sv4 K k) J1 w2 := by unfold f_sv4; rw [hb, kPutV_self (K := f_sv3 K k) (by exact Int32.add_zero _), kPutG_self (K := f_sv3 K k) (by exact Int32.add_zero _)]; exact hR
      refine x_iload F dX6_isServedCall_94 rfl ?_
      refine x_if_ne F dX6_isServedCall_96 rfl (fun _ => ?_) (fun hc => absurd hc (by decide))
      refine x_iload_n F dX6_isServedCall_119 rfl rfl ?_
      refine x_iconst (v := 1) F dX6_isServedCall_120 (by decide) ?_
      refine x_icmp_ne F dX6_isServedCall_121 rfl (fun h121 => ?_) (fun h121 => ?_)
      · have hR : Rep Z (f_serve K k) J1 w2 := by unfold f_serve; rw [decide_eq_false (show ¬ f_svo K k = 1 from h121), kPutG_self (K := f_sv4 K k) (by exact Int32.add_zero _)]; exact hR
        refine x_iload F dX6_isServedCall_134 rfl ?_
        refine x_iret F rfl rfl dX6_isServedCall_136 (Nat.le_refl _) (Nat.le_refl _) ?_
        exact ⟨_, rfl, J1, by rw [hb]; rfl, hR, hO⟩
      · refine x_aload_n F dX6_isServedCall_124 rfl rfl ?_
        refine x_dup F dX6_isServedCall_125 rfl ?_
        refine x_get (ci := 6) (C := RX6) (T := TX6) (N := 12) (k := 9) F dX6_isServedCall_126 rfl inX6 (by decide) q74 rfl hR.main rfl ?_
        refine x_iconst (v := 1) F dX6_isServedCall_129 (by decide) ?_
        refine x_iadd F dX6_isServedCall_130 ?_
        refine x_put (ci := 6) (C := RX6) (T := TX6) (N := 12) (k := 9) F dX6_isServedCall_131 rfl inX6 tyX6 tyX6_ok nmX6 (by decide) q74 rfl rfl hR.main (Nat.le_of_ble_eq_true rfl) rfl rfl ?_
        refine x_wd (fun w5 hw5 => ?_)
        have hO : Oth Z K w w5 := hO.trans (by rw [hw5]; exact Oth.set (kind := 0) (idx := 0) rfl _) rfl
        have hR : Rep Z (f_serve K k) J1 w5 := by rw [hw5]; exact hR.putG 3 _ (by rw [show decide (f_svo K k = 1) = true from decide_eq_true h121]; first | (simp [obj, kV_put, kC_put, kG_put, kCV_put, kC_ofCV, kV_ofCV, kCV_ofC, kCV_ofV]; done) | (simp [obj, kV_put, kC_put, kG_put, kCV_put, kC_ofCV, kV_ofCV, kCV_ofC, kCV_ofV]; exact ⟨rfl, rfl⟩) | (simp [obj, kV_put, kC_put, kG_put, kCV_put, kC_ofCV, kV_ofCV, kCV_ofC, kCV_ofV]; rfl) | (simp [obj, kV_put, kC_put, kG_put, kCV_put, kC_ofCV, kV_ofCV, kCV_ofC, kCV_ofV]; and_intros <;> rfl))
        refine x_iload F dX6_isServedCall_134 rfl ?_
        refine x_iret F rfl rfl dX6_isServedCall_136 (Nat.le_refl _) (Nat.le_refl _) ?_
        exact ⟨_, rfl, J1, by rw [hb]; rfl, hR, hO⟩
    · refine x_iload_n F dX6_isServedCall_52 rfl rfl ?_
      refine x_iconst (v := 1) F dX6_isServedCall_53 (by decide) ?_
      refine x_icmp_ne F dX6_isServedCall_54 rfl (fun h54 => ?_) (fun h54 => ?_)
      · have hb : f_svb K k = false := by unfold f_svb; rw [decide_eq_false (show ¬ f_svo K k = 0 from h49), decide_eq_false (show ¬ f_svo K k = 1 from h54)]; rfl
        have ho1 : ¬ f_svo K k = 1 := h54
        refine x_iconst (v := 0) F dX6_isServedCall_61 (by decide) ?_
        refine x_istore F dX6_isServedCall_62 (by decide) ?_
        refine x_aload_n F dX6_isServedCall_64 rfl rfl ?_
        refine x_aload_n F dX6_isServedCall_65 rfl rfl ?_
        refine x_get (ci := 6) (C := RX6) (T := TX6) (N := 12) (k := 6) F dX6_isServedCall_66 rfl inX6 (by decide) q71 rfl hR.main rfl ?_
        refine x_iload F dX6_isServedCall_69 rfl ?_
        refine x_cVv2 (ci := 1) (C := RX1) (T := TX1) (N := 8) F dX6_isServedCall_71 (x_gV q337 q338 q339 q13 q340) rfl (c_noteCall hR hk (kG K 0) false) ⟨rfl, rfl, rfl, xd_X1_noteCall, ⟨Nat.le_of_ble_eq_true rfl, Nat.le_of_ble_eq_true rfl⟩, Nat.le_of_ble_eq_true rfl, Nat.le_of_ble_eq_true rfl⟩ rfl (hR.cli hk) (Nat.le_of_ble_eq_true rfl) (fun w1 hp => ?_)
        obtain ⟨J1, hR, hO2⟩ := hp
        have hO := hO.trans hO2 rfl
        have hR : Rep Z (f_sv2 K k) J1 w1 := by unfold f_sv2; rw [hb]; exact hR
        refine x_aload_n F dX6_isServedCall_74 rfl rfl ?_
        refine x_dup F dX6_isServedCall_75 rfl ?_
        refine x_get (ci := 5) (C := RX5) (T := TX5) (N := 9) (k := 7) F dX6_isServedCall_76 rfl inX5 (by decide) q151 rfl (hR.ver (hR.cv hk)) rfl ?_
        refine x_iconst (v := 1) F dX6_isServedCall_79 (by decide) ?_
        refine x_iadd F dX6_isServedCall_80 ?_
        refine x_put (ci := 5) (C := RX5) (T := TX5) (N := 9) (k := 7) F dX6_isServedCall_81 rfl inX5 tyX5 tyX5_ok nmX5 (by decide) q151 rfl rfl (hR.ver (hR.cv hk)) (Nat.le_of_ble_eq_true rfl) rfl rfl ?_
        refine x_wd (fun w1 hw1 => ?_)
        have hO : Oth Z K w w1 := hO.trans (by rw [hw1]; exact Oth.set (kind := 10) (idx := (kCV K k)) (hR.cv hk) _) rfl
        have hR : Rep Z (kPutV (f_sv2 K k) (kCV K k) 4 (kV K (kCV K k) 4 + 1)) J1 w1 := by rw [hw1]; exact hR.putV (hR.cv hk) 4 (by decide) _ (by first | (simp [obj, kV_put, kC_put, kG_put, kCV_put, kC_ofCV, kV_ofCV, kCV_ofC, kCV_ofV]; done) | (simp [obj, kV_put, kC_put, kG_put, kCV_put, kC_ofCV, kV_ofCV, kCV_ofC, kCV_ofV]; exact ⟨rfl, rfl⟩) | (simp [obj, kV_put, kC_put, kG_put, kCV_put, kC_ofCV, kV_ofCV, kCV_ofC, kCV_ofV]; rfl) | (simp [obj, kV_put, kC_put, kG_put, kCV_put, kC_ofCV, kV_ofCV, kCV_ofC, kCV_ofV]; and_intros <;> rfl))
        refine x_aload_n F dX6_isServedCall_84 rfl rfl ?_
        refine x_dup F dX6_isServedCall_85 rfl ?_
        refine x_get (ci := 6) (C := RX6) (T := TX6) (N := 12) (k := 7) F dX6_isServedCall_86 rfl inX6 (by decide) q72 rfl hR.main rfl ?_
        refine x_iconst (v := 1) F dX6_isServedCall_89 (by decide) ?_
        refine x_iadd F dX6_isServedCall_90 ?_
        refine x_put (ci := 6) (C := RX6) (T := TX6) (N := 12) (k := 7) F dX6_isServedCall_91 rfl inX6 tyX6 tyX6_ok nmX6 (by decide) q72 rfl rfl hR.main (Nat.le_of_ble_eq_true rfl) rfl rfl ?_
        refine x_wd (fun w2 hw2 => ?_)
        have hO : Oth Z K w w2 := hO.trans (by rw [hw2]; exact Oth.set (kind := 0) (idx := 0) rfl _) rfl
        have hR : Rep Z (f_sv3 K k) J1 w2 := by rw [hw2]; exact hR.putG 1 _ (by first | (simp [obj, kV_put, kC_put, kG_put, kCV_put, kC_ofCV, kV_ofCV, kCV_ofC, kCV_ofV]; done) | (simp [obj, kV_put, kC_put, kG_put, kCV_put, kC_ofCV, kV_ofCV, kCV_ofC, kCV_ofV]; exact ⟨rfl, rfl⟩) | (simp [obj, kV_put, kC_put, kG_put, kCV_put, kC_ofCV, kV_ofCV, kCV_ofC, kCV_ofV]; rfl) | (simp [obj, kV_put, kC_put, kG_put, kCV_put, kC_ofCV, kV_ofCV, kCV_ofC, kCV_ofV]; and_intros <;> rfl))
        have hR := hR
        refine x_iload F dX6_isServedCall_94 rfl ?_
        refine x_if_ne F dX6_isServedCall_96 rfl (fun hc => absurd hc (by decide)) (fun _ => ?_)
        refine x_aload_n F dX6_isServedCall_99 rfl rfl ?_
        refine x_dup F dX6_isServedCall_100 rfl ?_
        refine x_get (ci := 5) (C := RX5) (T := TX5) (N := 9) (k := 8) F dX6_isServedCall_101 rfl inX5 (by decide) q152 rfl (hR.ver (hR.cv hk)) rfl ?_
        refine x_iconst (v := 1) F dX6_isServedCall_104 (by decide) ?_
        refine x_iadd F dX6_isServedCall_105 ?_
        refine x_put (ci := 5) (C := RX5) (T := TX5) (N := 9) (k := 8) F dX6_isServedCall_106 rfl inX5 tyX5 tyX5_ok nmX5 (by decide) q152 rfl rfl (hR.ver (hR.cv hk)) (Nat.le_of_ble_eq_true rfl) rfl rfl ?_
        refine x_wd (fun w3 hw3 => ?_)
        have hO : Oth Z K w w3 := hO.trans (by rw [hw3]; exact Oth.set (kind := 10) (idx := (kCV K k)) (hR.cv hk) _) rfl
        have hR : Rep Z (kPutV (f_sv3 K k) (kCV K k) 5 (kV K (kCV K k) 5 + x_b (!f_svb K k))) J1 w3 := by rw [hw3]; exact hR.putV (hR.cv hk) 5 (by decide) _ (by rw [hb]; first | (simp [obj, kV_put, kC_put, kG_put, kCV_put, kC_ofCV, kV_ofCV, kCV_ofC, kCV_ofV]; done) | (simp [obj, kV_put, kC_put, kG_put, kCV_put, kC_ofCV, kV_ofCV, kCV_ofC, kCV_ofV]; exact ⟨rfl, rfl⟩) | (simp [obj, kV_put, kC_put, kG_put, kCV_put, kC_ofCV, kV_ofCV, kCV_ofC, kCV_ofV]; rfl) | (simp [obj, kV_put, kC_put, kG_put, kCV_put, kC_ofCV, kV_ofCV, kCV_ofC, kCV_ofV]; and_intros <;> rfl))
        refine x_aload_n F dX6_isServedCall_109 rfl rfl ?_
        refine x_dup F dX6_isServedCall_110 rfl ?_
        refine x_get (ci := 6) (C := RX6) (T := TX6) (N := 12) (k := 8) F dX6_isServedCall_111 rfl inX6 (by decide) q73 rfl hR.main rfl ?_
        refine x_iconst (v := 1) F dX6_isServedCall_114 (by decide) ?_
        refine x_iadd F dX6_isServedCall_115 ?_
        refine x_put (ci := 6) (C := RX6) (T := TX6) (N := 12) (k := 8) F dX6_isServedCall_116 rfl inX6 tyX6 tyX6_ok nmX6 (by decide) q73 rfl rfl hR.main (Nat.le_of_ble_eq_true rfl) rfl rfl ?_
        refine x_wd (fun w4 hw4 => ?_)
        have hO : Oth Z K w w4 := hO.trans (by rw [hw4]; exact Oth.set (kind := 0) (idx := 0) rfl _) rfl
        have hR : Rep Z (f_sv4 K k) J1 w4 := by rw [hw4]; exact hR.putG 2 _ (by rw [hb]; first | (simp [obj, kV_put, kC_put, kG_put, kCV_put, kC_ofCV, kV_ofCV, kCV_ofC, kCV_ofV]; done) | (simp [obj, kV_put, kC_put, kG_put, kCV_put, kC_ofCV, kV_ofCV, kCV_ofC, kCV_ofV]; exact ⟨rfl, rfl⟩) | (simp [obj, kV_put, kC_put, kG_put, kCV_put, kC_ofCV, kV_ofCV, kCV_ofC, kCV_ofV]; rfl) | (simp [obj, kV_put, kC_put, kG_put, kCV_put, kC_ofCV, kV_ofCV, kCV_ofC, kCV_ofV]; and_intros <;> rfl))
        refine x_iload_n F dX6_isServedCall_119 rfl rfl ?_
        refine x_iconst (v := 1) F dX6_isServedCall_120 (by decide) ?_
        refine x_icmp_ne F dX6_isServedCall_121 rfl (fun h121 => ?_) (fun h121 => ?_)
        · have hR : Rep Z (f_serve K k) J1 w4 := by unfold f_serve; rw [decide_eq_false (show ¬ f_svo K k = 1 from h121), kPutG_self (K := f_sv4 K k) (by exact Int32.add_zero _)]; exact hR
          refine x_iload F dX6_isServedCall_134 rfl ?_
          refine x_iret F rfl rfl dX6_isServedCall_136 (Nat.le_refl _) (Nat.le_refl _) ?_
          exact ⟨_, rfl, J1, by rw [hb]; rfl, hR, hO⟩
        · refine x_aload_n F dX6_isServedCall_124 rfl rfl ?_
          refine x_dup F dX6_isServedCall_125 rfl ?_
          refine x_get (ci := 6) (C := RX6) (T := TX6) (N := 12) (k := 9) F dX6_isServedCall_126 rfl inX6 (by decide) q74 rfl hR.main rfl ?_
          refine x_iconst (v := 1) F dX6_isServedCall_129 (by decide) ?_
          refine x_iadd F dX6_isServedCall_130 ?_
          refine x_put (ci := 6) (C := RX6) (T := TX6) (N := 12) (k := 9) F dX6_isServedCall_131 rfl inX6 tyX6 tyX6_ok nmX6 (by decide) q74 rfl rfl hR.main (Nat.le_of_ble_eq_true rfl) rfl rfl ?_
          refine x_wd (fun w5 hw5 => ?_)
          have hO : Oth Z K w w5 := hO.trans (by rw [hw5]; exact Oth.set (kind := 0) (idx := 0) rfl _) rfl
          have hR : Rep Z (f_serve K k) J1 w5 := by rw [hw5]; exact hR.putG 3 _ (by rw [show decide (f_svo K k = 1) = true from decide_eq_true h121]; first | (simp [obj, kV_put, kC_put, kG_put, kCV_put, kC_ofCV, kV_ofCV, kCV_ofC, kCV_ofV]; done) | (simp [obj, kV_put, kC_put, kG_put, kCV_put, kC_ofCV, kV_ofCV, kCV_ofC, kCV_ofV]; exact ⟨rfl, rfl⟩) | (simp [obj, kV_put, kC_put, kG_put, kCV_put, kC_ofCV, kV_ofCV, kCV_ofC, kCV_ofV]; rfl) | (simp [obj, kV_put, kC_put, kG_put, kCV_put, kC_ofCV, kV_ofCV, kCV_ofC, kCV_ofV]; and_intros <;> rfl))
          refine x_iload F dX6_isServedCall_134 rfl ?_
          refine x_iret F rfl rfl dX6_isServedCall_136 (Nat.le_refl _) (Nat.le_refl _) ?_
          exact ⟨_, rfl, J1, by rw [hb]; rfl, hR, hO⟩
      · have hb : f_svb K k = true := by unfold f_svb; rw [decide_eq_true (show f_svo K k = 1 from h54), Bool.or_true]
        have ho1 : f_svo K k = 1 := h54
        refine x_iconst (v := 1) F dX6_isServedCall_57 (by decide) ?_
        refine x_goto F dX6_isServedCall_58 rfl ?_
        refine x_istore F dX6_isServedCall_62 (by decide) ?_
        refine x_aload_n F dX6_isServedCall_64 rfl rfl ?_
        refine x_aload_n F dX6_isServedCall_65 rfl rfl ?_
        refine x_get (ci := 6) (C := RX6) (T := TX6) (N := 12) (k := 6) F dX6_isServedCall_66 rfl inX6 (by decide) q71 rfl hR.main rfl ?_
        refine x_iload F dX6_isServedCall_69 rfl ?_
        refine x_cVv2 (ci := 1) (C := RX1) (T := TX1) (N := 8) F dX6_isServedCall_71 (x_gV q337 q338 q339 q13 q340) rfl (c_noteCall hR hk (kG K 0) true) ⟨rfl, rfl, rfl, xd_X1_noteCall, ⟨Nat.le_of_ble_eq_true rfl, Nat.le_of_ble_eq_true rfl⟩, Nat.le_of_ble_eq_true rfl, Nat.le_of_ble_eq_true rfl⟩ rfl (hR.cli hk) (Nat.le_of_ble_eq_true rfl) (fun w1 hp => ?_)
        obtain ⟨J1, hR, hO2⟩ := hp
        have hO := hO.trans hO2 rfl
        have hR : Rep Z (f_sv2 K k) J1 w1 := by unfold f_sv2; rw [hb]; exact hR
        refine x_aload_n F dX6_isServedCall_74 rfl rfl ?_
        refine x_dup F dX6_isServedCall_75 rfl ?_
        refine x_get (ci := 5) (C := RX5) (T := TX5) (N := 9) (k := 7) F dX6_isServedCall_76 rfl inX5 (by decide) q151 rfl (hR.ver (hR.cv hk)) rfl ?_
        refine x_iconst (v := 1) F dX6_isServedCall_79 (by decide) ?_
        refine x_iadd F dX6_isServedCall_80 ?_
        refine x_put (ci := 5) (C := RX5) (T := TX5) (N := 9) (k := 7) F dX6_isServedCall_81 rfl inX5 tyX5 tyX5_ok nmX5 (by decide) q151 rfl rfl (hR.ver (hR.cv hk)) (Nat.le_of_ble_eq_true rfl) rfl rfl ?_
        refine x_wd (fun w1 hw1 => ?_)
        have hO : Oth Z K w w1 := hO.trans (by rw [hw1]; exact Oth.set (kind := 10) (idx := (kCV K k)) (hR.cv hk) _) rfl
        have hR : Rep Z (kPutV (f_sv2 K k) (kCV K k) 4 (kV K (kCV K k) 4 + 1)) J1 w1 := by rw [hw1]; exact hR.putV (hR.cv hk) 4 (by decide) _ (by first | (simp [obj, kV_put, kC_put, kG_put, kCV_put, kC_ofCV, kV_ofCV, kCV_ofC, kCV_ofV]; done) | (simp [obj, kV_put, kC_put, kG_put, kCV_put, kC_ofCV, kV_ofCV, kCV_ofC, kCV_ofV]; exact ⟨rfl, rfl⟩) | (simp [obj, kV_put, kC_put, kG_put, kCV_put, kC_ofCV, kV_ofCV, kCV_ofC, kCV_ofV]; rfl) | (simp [obj, kV_put, kC_put, kG_put, kCV_put, kC_ofCV, kV_ofCV, kCV_ofC, kCV_ofV]; and_intros <;> rfl))
        refine x_aload_n F dX6_isServedCall_84 rfl rfl ?_
        refine x_dup F dX6_isServedCall_85 rfl ?_
        refine x_get (ci := 6) (C := RX6) (T := TX6) (N := 12) (k := 7) F dX6_isServedCall_86 rfl inX6 (by decide) q72 rfl hR.main rfl ?_
        refine x_iconst (v := 1) F dX6_isServedCall_89 (by decide) ?_
        refine x_iadd F dX6_isServedCall_90 ?_
        refine x_put (ci := 6) (C := RX6) (T := TX6) (N := 12) (k := 7) F dX6_isServedCall_91 rfl inX6 tyX6 tyX6_ok nmX6 (by decide) q72 rfl rfl hR.main (Nat.le_of_ble_eq_true rfl) rfl rfl ?_
        refine x_wd (fun w2 hw2 => ?_)
        have hO : Oth Z K w w2 := hO.trans (by rw [hw2]; exact Oth.set (kind := 0) (idx := 0) rfl _) rfl
        have hR : Rep Z (f_sv3 K k) J1 w2 := by rw [hw2]; exact hR.putG 1 _ (by first | (simp [obj, kV_put, kC_put, kG_put, kCV_put, kC_ofCV, kV_ofCV, kCV_ofC, kCV_ofV]; done) | (simp [obj, kV_put, kC_put, kG_put, kCV_put, kC_ofCV, kV_ofCV, kCV_ofC, kCV_ofV]; exact ⟨rfl, rfl⟩) | (simp [obj, kV_put, kC_put, kG_put, kCV_put, kC_ofCV, kV_ofCV, kCV_ofC, kCV_ofV]; rfl) | (simp [obj, kV_put, kC_put, kG_put, kCV_put, kC_ofCV, kV_ofCV, kCV_ofC, kCV_ofV]; and_intros <;> rfl))
        have hR : Rep Z (f_sv4 K k) J1 w2 := by unfold f_sv4; rw [hb, kPutV_self (K := f_sv3 K k) (by exact Int32.add_zero _), kPutG_self (K := f_sv3 K k) (by exact Int32.add_zero _)]; exact hR
        refine x_iload F dX6_isServedCall_94 rfl ?_
        refine x_if_ne F dX6_isServedCall_96 rfl (fun _ => ?_) (fun hc => absurd hc (by decide))
        refine x_iload_n F dX6_isServedCall_119 rfl rfl ?_
        refine x_iconst (v := 1) F dX6_isServedCall_120 (by decide) ?_
        refine x_icmp_ne F dX6_isServedCall_121 rfl (fun h121 => ?_) (fun h121 => ?_)
        · have hR : Rep Z (f_serve K k) J1 w2 := by unfold f_serve; rw [decide_eq_false (show ¬ f_svo K k = 1 from h121), kPutG_self (K := f_sv4 K k) (by exact Int32.add_zero _)]; exact hR
          refine x_iload F dX6_isServedCall_134 rfl ?_
          refine x_iret F rfl rfl dX6_isServedCall_136 (Nat.le_refl _) (Nat.le_refl _) ?_
          exact ⟨_, rfl, J1, by rw [hb]; rfl, hR, hO⟩
        · refine x_aload_n F dX6_isServedCall_124 rfl rfl ?_
          refine x_dup F dX6_isServedCall_125 rfl ?_
          refine x_get (ci := 6) (C := RX6) (T := TX6) (N := 12) (k := 9) F dX6_isServedCall_126 rfl inX6 (by decide) q74 rfl hR.main rfl ?_
          refine x_iconst (v := 1) F dX6_isServedCall_129 (by decide) ?_
          refine x_iadd F dX6_isServedCall_130 ?_
          refine x_put (ci := 6) (C := RX6) (T := TX6) (N := 12) (k := 9) F dX6_isServedCall_131 rfl inX6 tyX6 tyX6_ok nmX6 (by decide) q74 rfl rfl hR.main (Nat.le_of_ble_eq_true rfl) rfl rfl ?_
          refine x_wd (fun w5 hw5 => ?_)
          have hO : Oth Z K w w5 := hO.trans (by rw [hw5]; exact Oth.set (kind := 0) (idx := 0) rfl _) rfl
          have hR : Rep Z (f_serve K k) J1 w5 := by rw [hw5]; exact hR.putG 3 _ (by rw [show decide (f_svo K k = 1) = true from decide_eq_true h121]; first | (simp [obj, kV_put, kC_put, kG_put, kCV_put, kC_ofCV, kV_ofCV, kCV_ofC, kCV_ofV]; done) | (simp [obj, kV_put, kC_put, kG_put, kCV_put, kC_ofCV, kV_ofCV, kCV_ofC, kCV_ofV]; exact ⟨rfl, rfl⟩) | (simp [obj, kV_put, kC_put, kG_put, kCV_put, kC_ofCV, kV_ofCV, kCV_ofC, kCV_ofV]; rfl) | (simp [obj, kV_put, kC_put, kG_put, kCV_put, kC_ofCV, kV_ofCV, kCV_ofC, kCV_ofV]; and_intros <;> rfl))
          refine x_iload F dX6_isServedCall_134 rfl ?_
          refine x_iret F rfl rfl dX6_isServedCall_136 (Nat.le_refl _) (Nat.le_refl _) ?_
          exact ⟨_, rfl, J1, by rw [hb]; rfl, hR, hO⟩
  have hO : Oth Z K w w := Oth.rfl
  refine x_aload_n F dX6_isServedCall_0 rfl rfl ?_
  refine x_get (ci := 1) (C := RX1) (T := TX1) (N := 8) (k := 4) F dX6_isServedCall_1 rfl inX1 (by decide) q253 rfl (hR.cli hk) rfl ?_
  refine x_astore_n F dX6_isServedCall_4 rfl (by decide) ?_
  refine x_aload_n F dX6_isServedCall_5 rfl rfl ?_
  refine x_get (ci := 5) (C := RX5) (T := TX5) (N := 9) (k := 5) F dX6_isServedCall_6 rfl inX5 (by decide) q149 rfl (hR.ver (hR.cv hk)) rfl ?_
  refine x_iconst (v := 1) F dX6_isServedCall_9 (by decide) ?_
  refine x_icmp_ne F dX6_isServedCall_10 rfl (fun h10 => ?_) (fun h10 => ?_)
  · have hR : Rep Z (f_sv1 K k) J w := by rw [f_sv1_of (f := kVA K (kCV K k)) (if_neg h10), kPutVA_self]; exact hR
    exact x_lk (tail _ _ hR hO) ⟨rfl, rfl, rfl, trivial⟩
  · refine x_aload_n F dX6_isServedCall_13 rfl rfl ?_
    refine x_get (ci := 5) (C := RX5) (T := TX5) (N := 9) (k := 4) F dX6_isServedCall_14 rfl inX5 (by decide) q147 rfl (hR.ver (hR.cv hk)) rfl ?_
    refine x_aload_n F dX6_isServedCall_17 rfl rfl ?_
    refine x_get (ci := 1) (C := RX1) (T := TX1) (N := 8) (k := 0) F dX6_isServedCall_18 rfl inX1 (by decide) q246 rfl (hR.cli hk) rfl ?_
    refine x_aload_n F dX6_isServedCall_21 rfl rfl ?_
    refine x_get (ci := 6) (C := RX6) (T := TX6) (N := 12) (k := 6) F dX6_isServedCall_22 rfl inX6 (by decide) q71 rfl hR.main rfl ?_
    refine x_cVi2 (ci := 3) (C := RX3) (T := TX3) (N := 4) F dX6_isServedCall_25 (x_gV q315 q316 q317 q3 q318) rfl (c_ask hR (hR.cv hk) (kC K k 0) (kG K 0)) ⟨rfl, rfl, rfl, xd_X3_ask, ⟨Nat.le_of_ble_eq_true rfl, Nat.le_of_ble_eq_true rfl⟩, Nat.le_of_ble_eq_true rfl, Nat.le_of_ble_eq_true rfl⟩ rfl (hR.ret (hR.cv hk)) (Nat.le_of_ble_eq_true rfl) (fun v1 w1 hp => ?_)
    obtain ⟨J1, rfl, hR, hO2⟩ := hp
    have hO := hO.trans hO2 rfl
    have hR : Rep Z (f_sv1 K k) J1 w1 := by rw [f_sv1_of (if_pos h10)]; exact hR
    refine x_pop F dX6_isServedCall_28 rfl ?_
    exact x_lk (tail _ _ hR hO) ⟨rfl, rfl, rfl, trivial⟩
end MUT
end
section
/-! ===== retirements, answers, hours ===== -/
section HRS
variable {l : Launch} {D : va_G} {dA : Nat → ClassId} {B : Nat} {Z : Nat → Nat → Nat} {K : kT} {J : jT} {w : xW}
def f_fill (n : Nat) (v : Int32) (f : Nat → Int32) : Nat → Int32 := fun j => if j < n then v else f j
theorem f_fill_0 (v : Int32) (f : Nat → Int32) : f_fill 0 v f = f := by funext j; exact if_neg (Nat.not_lt_zero j)
theorem f_fill_s (n : Nat) (v : Int32) (f : Nat → Int32) : upd (f_fill n v f) n v = f_fill (n + 1) v f := by
  funext j
  unfold upd f_fill
  by_cases h : j = n
  · subst h; simp
  · by_cases h2 : j < n
    · simp [h, h2, show j < n + 1 by omega]
    · simp [h, h2, show ¬ j < n + 1 by omega]
set_option maxRecDepth 100000 in
set_option maxHeartbeats 4000000 in
theorem c_fill {a n : Nat} (hn : n < 2 ^ 31) {f : Nat → Int32} (ha : w a = some (aI n f)) (v : Int32) : Cv l D dA B yJ7_fill_53178 wJ7_fill_53178 0 [.ref a, .int v] w (fun w1 => w1 = x_set w a (aI n (f_fill n v f))) := by
  refine x_Ct.of (cc := cJ7_fill_53178) (maxL := 4) (by decide) rfl (Nat.le_of_ble_eq_true rfl) ?_
  intro p e s m below meth c F
  have loop : ∀ n1 k, k + n1 = n → ∀ wz, wz = x_set w a (aI n (f_fill k v f)) → X p l e (rmd 0 0 0) s m #[.ref a, .int v] below meth c (MQ below (x_Q D dA vwCl tyL0 B (fun r w1 => r = none ∧ (w1 = x_set w a (aI n (f_fill n v f))))) #[.ref a, .int v] s 0 0 (fun q => B ≤ q)) D dA vwCl B 4 0 0 5 [(0, .ref a), (1, .int v), (2, .int (nI k)), (3, .int (nI n))] [] wz := by
    intro n1
    induction n1 with
    | zero =>
      intro k hk1 wz hw
      obtain rfl : k = n := by omega
      refine x_iload_n F dJ7_fill_53178_5 rfl rfl ?_
      refine x_iload_n F dJ7_fill_53178_6 rfl rfl ?_
      refine x_icmp_ge F dJ7_fill_53178_7 rfl (fun h7 => ?_) (fun hc => absurd hc (fun q => q (Int32.le_refl _)))
      refine x_vret F rfl dJ7_fill_53178_20 (Nat.le_refl _) (Nat.le_refl _) ?_
      exact ⟨rfl, hw⟩
    | succ n1 ih =>
      intro k hk1 wz hw
      refine x_iload_n F dJ7_fill_53178_5 rfl rfl ?_
      refine x_iload_n F dJ7_fill_53178_6 rfl rfl ?_
      refine x_icmp_ge F dJ7_fill_53178_7 rfl (fun hc => absurd hc (nI_ge (by omega) hn)) (fun h7 => ?_)
      refine x_aload_n F dJ7_fill_53178_10 rfl rfl ?_
      refine x_iload_n F dJ7_fill_53178_11 rfl rfl ?_
      refine x_iload_n F dJ7_fill_53178_12 rfl rfl ?_
      refine x_iastN F dJ7_fill_53178_13 rfl (show wz a = some (aI n (f_fill k v f)) by rw [hw]; exact x_set_eq _ _ _) (by omega) hn ?_
      refine x_wd (fun w1 hw1 => ?_)
      refine x_iincN F dJ7_fill_53178_14 (by decide) rfl (by decide) ?_
      refine x_goto F dJ7_fill_53178_17 rfl ?_
      exact x_lk (ih (k + 1) (by omega) w1 (by rw [hw1, hw, x_set_set, f_fill_s])) ⟨rfl, rfl, rfl, rfl, trivial⟩
  refine x_iconst (v := 0) F dJ7_fill_53178_0 (by decide) ?_
  refine x_istore_n F dJ7_fill_53178_1 rfl (by decide) ?_
  refine x_aload_n F dJ7_fill_53178_2 rfl rfl ?_
  refine x_alen F dJ7_fill_53178_3 rfl ha rfl ?_
  refine x_istore_n F dJ7_fill_53178_4 rfl (by decide) ?_
  exact x_lk (loop n 0 (by omega) w (by rw [f_fill_0, x_set_self ha])) ⟨rfl, rfl, rfl, rfl, trivial⟩
def f_clearK (K : kT) (i : Nat) : kT := kPutVA (kPutV (kPutV (kPutV K i 6 (-1)) i 7 (-1)) i 8 0) i (f_fill 5 (-1) (kVA K i))
theorem kN_clear (K : kT) (i : Nat) : kN (f_clearK K i) = kN K := by unfold f_clearK; rw [kN_ofVA, kN_ofV, kN_ofV, kN_ofV]
def f_startK (K : kT) (i : Nat) (d : Int32) : kT := kPutV (kPutV (f_clearK K i) i 6 (kG K 0)) i 7 (kG K 0 + d * 24)
set_option maxRecDepth 100000 in
set_option maxHeartbeats 4000000 in
theorem c_clear (hR : Rep Z K J w) {i : Nat} (hi : vOk K i) : Cv l D dA B yX3_clear wX3_clear 1 [.ref (Z 11 i)] w (VM Z K w (f_clearK K i)) := by
  refine x_Ct.of (cc := cX3_clear) (maxL := 1) (by decide) rfl (Nat.le_of_ble_eq_true rfl) ?_
  intro p e s m below meth c F
  have hO : Oth Z K w w := Oth.rfl
  refine x_aload_n F dX3_clear_0 rfl rfl ?_
  refine x_iconst (v := (-1)) F dX3_clear_1 (by decide) ?_
  refine x_put (ci := 3) (C := RX3) (T := TX3) (N := 4) (k := 1) F dX3_clear_2 rfl inX3 tyX3 tyX3_ok nmX3 (by decide) q55 rfl rfl (hR.ret hi) (Nat.le_of_ble_eq_true rfl) rfl rfl ?_
  refine x_wd (fun w1 hw1 => ?_)
  have hO : Oth Z K w w1 := hO.trans (by rw [hw1]; exact Oth.set (kind := 11) (idx := i) hi _) rfl
  have hR : Rep Z (kPutV K i 6 (-1)) J w1 := by rw [hw1]; exact hR.putR hi 6 (by decide) _ (by first | (simp [obj, kV_put, kC_put, kG_put, kCV_put, kC_ofCV, kV_ofCV, kCV_ofC, kCV_ofV]; done) | (simp [obj, kV_put, kC_put, kG_put, kCV_put, kC_ofCV, kV_ofCV, kCV_ofC, kCV_ofV]; exact ⟨rfl, rfl⟩) | (simp [obj, kV_put, kC_put, kG_put, kCV_put, kC_ofCV, kV_ofCV, kCV_ofC, kCV_ofV]; rfl) | (simp [obj, kV_put, kC_put, kG_put, kCV_put, kC_ofCV, kV_ofCV, kCV_ofC, kCV_ofV]; and_intros <;> rfl))
  refine x_aload_n F dX3_clear_5 rfl rfl ?_
  refine x_iconst (v := (-1)) F dX3_clear_6 (by decide) ?_
  refine x_put (ci := 3) (C := RX3) (T := TX3) (N := 4) (k := 2) F dX3_clear_7 rfl inX3 tyX3 tyX3_ok nmX3 (by decide) q57 rfl rfl (hR.ret hi) (Nat.le_of_ble_eq_true rfl) rfl rfl ?_
  refine x_wd (fun w2 hw2 => ?_)
  have hO : Oth Z K w w2 := hO.trans (by rw [hw2]; exact Oth.set (kind := 11) (idx := i) hi _) rfl
  have hR : Rep Z (kPutV (kPutV K i 6 (-1)) i 7 (-1)) J w2 := by rw [hw2]; exact hR.putR hi 7 (by decide) _ (by first | (simp [obj, kV_put, kC_put, kG_put, kCV_put, kC_ofCV, kV_ofCV, kCV_ofC, kCV_ofV]; done) | (simp [obj, kV_put, kC_put, kG_put, kCV_put, kC_ofCV, kV_ofCV, kCV_ofC, kCV_ofV]; exact ⟨rfl, rfl⟩) | (simp [obj, kV_put, kC_put, kG_put, kCV_put, kC_ofCV, kV_ofCV, kCV_ofC, kCV_ofV]; rfl) | (simp [obj, kV_put, kC_put, kG_put, kCV_put, kC_ofCV, kV_ofCV, kCV_ofC, kCV_ofV]; and_intros <;> rfl))
  refine x_aload_n F dX3_clear_10 rfl rfl ?_
  refine x_iconst (v := 0) F dX3_clear_11 (by decide) ?_
  refine x_put (ci := 3) (C := RX3) (T := TX3) (N := 4) (k := 3) F dX3_clear_12 rfl inX3 tyX3 tyX3_ok nmX3 (by decide) q59 rfl rfl (hR.ret hi) (Nat.le_of_ble_eq_true rfl) rfl rfl ?_
  refine x_wd (fun w3 hw3 => ?_)
  have hO : Oth Z K w w3 := hO.trans (by rw [hw3]; exact Oth.set (kind := 11) (idx := i) hi _) rfl
  have hR : Rep Z (kPutV (kPutV (kPutV K i 6 (-1)) i 7 (-1)) i 8 0) J w3 := by rw [hw3]; exact hR.putR hi 8 (by decide) _ (by first | (simp [obj, kV_put, kC_put, kG_put, kCV_put, kC_ofCV, kV_ofCV, kCV_ofC, kCV_ofV]; done) | (simp [obj, kV_put, kC_put, kG_put, kCV_put, kC_ofCV, kV_ofCV, kCV_ofC, kCV_ofV]; exact ⟨rfl, rfl⟩) | (simp [obj, kV_put, kC_put, kG_put, kCV_put, kC_ofCV, kV_ofCV, kCV_ofC, kCV_ofV]; rfl) | (simp [obj, kV_put, kC_put, kG_put, kCV_put, kC_ofCV, kV_ofCV, kCV_ofC, kCV_ofV]; and_intros <;> rfl))
  refine x_aload_n F dX3_clear_15 rfl rfl ?_
  refine x_get (ci := 3) (C := RX3) (T := TX3) (N := 4) (k := 0) F dX3_clear_16 rfl inX3 (by decide) q54 rfl (hR.ret hi) rfl ?_
  refine x_iconst (v := (-1)) F dX3_clear_19 (by decide) ?_
  refine x_cSv2 F dX3_clear_20 (x_gS q51 q52 q4 q53) (c_fill (by decide) (hR.ask hi) (-1)) ⟨rfl, rfl, rfl, xd_J7_fill_53178, ⟨Nat.le_of_ble_eq_true rfl, Nat.le_of_ble_eq_true rfl⟩, Nat.le_of_ble_eq_true rfl, Nat.le_of_ble_eq_true rfl⟩ (Nat.le_of_ble_eq_true rfl) (fun w1 hp => ?_)
  have hO : Oth Z K w w1 := hO.trans (by rw [hp]; exact Oth.set (kind := 12) (idx := i) hi _) rfl
  have hR : Rep Z (f_clearK K i) J w1 := by rw [hp]; exact hR.putVA hi (f_fill 5 (-1) (kVA K i))
  refine x_vret F rfl dX3_clear_23 (Nat.le_refl _) (Nat.le_refl _) ?_
  exact ⟨rfl, J, hR, hO⟩
set_option maxRecDepth 100000 in
set_option maxHeartbeats 4000000 in
theorem c_start (hR : Rep Z K J w) {i : Nat} (hi : vOk K i) (d : Int32) : Cv l D dA B yX3_start wX3_start 2 [.ref (Z 11 i), .int (kG K 0), .int d] w (VM Z K w (f_startK K i d)) := by
  refine x_Ct.of (cc := cX3_start) (maxL := 3) (by decide) rfl (Nat.le_of_ble_eq_true rfl) ?_
  intro p e s m below meth c F
  have tail : ∀ Kc J1 wz, Rep Z Kc J1 wz → Oth Z K w wz → vOk Kc i → kN Kc = kN K → kPutV (kPutV Kc i 6 (kG K 0)) i 7 (kG K 0 + d * 24) = f_startK K i d → X p l e (rmd 2 0 0) s m #[.ref (Z 11 i), .int (kG K 0), .int d] below meth c (MQ below (x_Q D dA vwCl tyL0 B (fun r w1 => r = none ∧ (VM Z K w (f_startK K i d) w1))) #[.ref (Z 11 i), .int (kG K 0), .int d] s 0 0 (fun q => B ≤ q)) D dA vwCl B 3 0 0 4 [(0, .ref (Z 11 i)), (1, .int (kG K 0)), (2, .int d)] [] wz := by
    intro Kc J1 wz hR hO hv hN hT
    refine x_aload_n F dX3_start_4 rfl rfl ?_
    refine x_iload_n F dX3_start_5 rfl rfl ?_
    refine x_put (ci := 3) (C := RX3) (T := TX3) (N := 4) (k := 1) F dX3_start_6 rfl inX3 tyX3 tyX3_ok nmX3 (by decide) q55 rfl rfl (hR.ret hv) (Nat.le_of_ble_eq_true rfl) rfl rfl ?_
    refine x_wd (fun w2 hw2 => ?_)
    have hO : Oth Z K w w2 := hO.trans (K1 := Kc) (by rw [hw2]; exact Oth.set (kind := 11) (idx := i) hv _) hN
    have hR : Rep Z (kPutV Kc i 6 (kG K 0)) J1 w2 := by rw [hw2]; exact hR.putR hv 6 (by decide) _ (by first | (simp [obj, kV_put, kC_put, kG_put, kCV_put, kC_ofCV, kV_ofCV, kCV_ofC, kCV_ofV]; done) | (simp [obj, kV_put, kC_put, kG_put, kCV_put, kC_ofCV, kV_ofCV, kCV_ofC, kCV_ofV]; exact ⟨rfl, rfl⟩) | (simp [obj, kV_put, kC_put, kG_put, kCV_put, kC_ofCV, kV_ofCV, kCV_ofC, kCV_ofV]; rfl) | (simp [obj, kV_put, kC_put, kG_put, kCV_put, kC_ofCV, kV_ofCV, kCV_ofC, kCV_ofV]; and_intros <;> rfl))
    refine x_aload_n F dX3_start_9 rfl rfl ?_
    refine x_iload_n F dX3_start_10 rfl rfl ?_
    refine x_iload_n F dX3_start_11 rfl rfl ?_
    refine x_bipush (v := 24) F dX3_start_12 (by decide) ?_
    refine x_imul F dX3_start_14 ?_
    refine x_iadd F dX3_start_15 ?_
    refine x_put (ci := 3) (C := RX3) (T := TX3) (N := 4) (k := 2) F dX3_start_16 rfl inX3 tyX3 tyX3_ok nmX3 (by decide) q57 rfl rfl (hR.ret hv) (Nat.le_of_ble_eq_true rfl) rfl rfl ?_
    refine x_wd (fun w3 hw3 => ?_)
    have hO : Oth Z K w w3 := hO.trans (K1 := Kc) (by rw [hw3]; exact Oth.set (kind := 11) (idx := i) hv _) hN
    have hR : Rep Z (kPutV (kPutV Kc i 6 (kG K 0)) i 7 (kG K 0 + d * 24)) J1 w3 := by rw [hw3]; exact hR.putR hv 7 (by decide) _ (by first | (simp [obj, kV_put, kC_put, kG_put, kCV_put, kC_ofCV, kV_ofCV, kCV_ofC, kCV_ofV]; done) | (simp [obj, kV_put, kC_put, kG_put, kCV_put, kC_ofCV, kV_ofCV, kCV_ofC, kCV_ofV]; exact ⟨rfl, rfl⟩) | (simp [obj, kV_put, kC_put, kG_put, kCV_put, kC_ofCV, kV_ofCV, kCV_ofC, kCV_ofV]; rfl) | (simp [obj, kV_put, kC_put, kG_put, kCV_put, kC_ofCV, kV_ofCV, kCV_ofC, kCV_ofV]; and_intros <;> rfl))
    refine x_vret F rfl dX3_start_19 (Nat.le_refl _) (Nat.le_refl _) ?_
    exact ⟨rfl, J1, by rw [← hT]; exact hR, hO⟩
  refine x_aload_n F dX3_start_0 rfl rfl ?_
  refine x_cVv0 (ci := 3) (C := RX3) (T := TX3) (N := 4) F dX3_start_1 (x_gV q360 q361 q362 q3 q363) rfl (c_clear hR hi) ⟨rfl, rfl, rfl, xd_X3_clear, ⟨Nat.le_of_ble_eq_true rfl, Nat.le_of_ble_eq_true rfl⟩, Nat.le_of_ble_eq_true rfl, Nat.le_of_ble_eq_true rfl⟩ rfl (hR.ret hi) (Nat.le_of_ble_eq_true rfl) (fun w1 hp => ?_)
  obtain ⟨J1, hR, hO⟩ := hp
  exact x_lk (tail _ _ _ hR hO (vOk_of (kN_clear K i) hi) (kN_clear K i) rfl) ⟨rfl, rfl, rfl, trivial⟩
def f_srT (K : kT) (i : Nat) (n k : Nat) (row : Nat → Int32) (c : Nat) : (Nat → Int32) × Nat := match n with
  | 0 => (row, c)
  | n + 1 => if decide (k < nc K) && f_caller K k i (kG K 0) then f_srT K i n (k + 1) (f_askrow row (kC K k 0) (kG K 0)) (c + (if f_askok row (kC K k 0) then 1 else 0)) else f_srT K i n (k + 1) row c
theorem f_srT_t {K : kT} {i n k : Nat} {row : Nat → Int32} {c : Nat} (h : (decide (k < nc K) && f_caller K k i (kG K 0)) = true) : f_srT K i (n + 1) k row c = f_srT K i n (k + 1) (f_askrow row (kC K k 0) (kG K 0)) (c + (if f_askok row (kC K k 0) then 1 else 0)) := if_pos h
theorem f_srT_f {K : kT} {i n k : Nat} {row : Nat → Int32} {c : Nat} (h : (decide (k < nc K) && f_caller K k i (kG K 0)) = false) : f_srT K i (n + 1) k row c = f_srT K i n (k + 1) row c := if_neg (by rw [h]; decide)
def f_sr (K : kT) (i : Nat) : (Nat → Int32) × Nat := f_srT K i 10 0 (f_fill 5 (-1) (kVA K i)) 0
def f_retK (K : kT) (i : Nat) (d : Int32) : kT := kPutVA (f_startK K i d) i (f_sr K i).1
set_option maxRecDepth 100000 in
set_option maxHeartbeats 4000000 in
theorem c_startRetirement (hR : Rep Z K J w) {i : Nat} (hi : vOk K i) (d : Int32) : Ci l D dA B yX6_startRetirement wX6_startRetirement 3 [.ref (Z 0 0), .ref (Z 10 i), .ref (Z 11 i), .int d] w (QM Z K w (nI (f_sr K i).2) (f_retK K i d)) := by
  refine x_Ct.of (cc := cX6_startRetirement) (maxL := 7) (by decide) rfl (Nat.le_of_ble_eq_true rfl) ?_
  intro p e s m below meth c F
  have loop : ∀ n1 k, k + n1 = 10 → ∀ row c0 Jz wz, Rep Z (kPutVA (f_startK K i d) i row) Jz wz → Oth Z K w wz → f_sr K i = f_srT K i n1 k row c0 → X p l e (rmd 3 0 0) s m #[.ref (Z 0 0), .ref (Z 10 i), .ref (Z 11 i), .int d] below meth c (MQ below (x_Q D dA vwCl tyL0 B (fun r w1 => ∃ v, r = some v ∧ (QM Z K w (nI (f_sr K i).2) (f_retK K i d) v w1))) #[.ref (Z 0 0), .ref (Z 10 i), .ref (Z 11 i), .int d] s 0 0 (fun q => B ≤ q)) D dA vwCl B 7 0 0 15 [(0, .ref (Z 0 0)), (1, .ref (Z 10 i)), (2, .ref (Z 11 i)), (3, .int d), (4, .int (nI c0)), (5, .int (nI k))] [] wz := by
    intro n1
    induction n1 with
    | zero =>
      intro k hk1 row c0 Jz wz hR hO hf
      obtain rfl : k = 10 := by omega
      refine x_iload F dX6_startRetirement_15 rfl ?_
      refine x_aload_n F dX6_startRetirement_17 rfl rfl ?_
      refine x_get (ci := 6) (C := RX6) (T := TX6) (N := 12) (k := 1) F dX6_startRetirement_18 rfl inX6 (by decide) q66 rfl hR.main rfl ?_
      refine x_alen (v := 10) F dX6_startRetirement_21 rfl hR.clients rfl ?_
      refine x_icmp_ge F dX6_startRetirement_22 rfl (fun h22 => ?_) (fun hc => absurd hc (fun q => q (Int32.le_refl _)))
      refine x_iload F dX6_startRetirement_77 rfl ?_
      refine x_iret F rfl rfl dX6_startRetirement_79 (Nat.le_refl _) (Nat.le_refl _) ?_
      exact ⟨_, rfl, Jz, by rw [hf]; rfl, by unfold f_retK; rw [hf]; exact hR, hO⟩
    | succ n1 ih =>
      intro k hk1 row c0 Jz wz hR hO hf
      refine x_iload F dX6_startRetirement_15 rfl ?_
      refine x_aload_n F dX6_startRetirement_17 rfl rfl ?_
      refine x_get (ci := 6) (C := RX6) (T := TX6) (N := 12) (k := 1) F dX6_startRetirement_18 rfl inX6 (by decide) q66 rfl hR.main rfl ?_
      refine x_alen (v := 10) F dX6_startRetirement_21 rfl hR.clients rfl ?_
      refine x_icmp_ge F dX6_startRetirement_22 rfl (fun hc => absurd hc (nI_ge (b := 10) (by omega) (by decide))) (fun h22 => ?_)
      refine x_aload_n F dX6_startRetirement_25 rfl rfl ?_
      refine x_get (ci := 6) (C := RX6) (T := TX6) (N := 12) (k := 1) F dX6_startRetirement_26 rfl inX6 (by decide) q66 rfl hR.main rfl ?_
      refine x_iload F dX6_startRetirement_29 rfl ?_
      refine x_aaldN F dX6_startRetirement_31 rfl hR.clients (by omega) (by decide) ?_
      by_cases hk2 : k < nc K
      · simp only [show nc (kPutVA (f_startK K i d) i row) = nc K from rfl, if_pos hk2]
        refine x_astore F dX6_startRetirement_32 (by decide) ?_
        refine x_aload F dX6_startRetirement_34 rfl ?_
        refine x_ifnull F dX6_startRetirement_36 ?_
        refine x_aload F dX6_startRetirement_39 rfl ?_
        refine x_aload_n F dX6_startRetirement_41 rfl rfl ?_
        refine x_aload_n F dX6_startRetirement_42 rfl rfl ?_
        refine x_get (ci := 6) (C := RX6) (T := TX6) (N := 12) (k := 6) F dX6_startRetirement_43 rfl inX6 (by decide) q71 rfl hR.main rfl ?_
        refine x_cVi2 (ci := 1) (C := RX1) (T := TX1) (N := 8) F dX6_startRetirement_46 (x_gV q186 q187 q188 q13 q189) rfl (c_isCallerOf hR hk2 hi (kG K 0)) ⟨rfl, rfl, rfl, xd_X1_isCallerOf, ⟨Nat.le_of_ble_eq_true rfl, Nat.le_of_ble_eq_true rfl⟩, Nat.le_of_ble_eq_true rfl, Nat.le_of_ble_eq_true rfl⟩ rfl (hR.cli hk2) (Nat.le_of_ble_eq_true rfl) (fun v1 w1 hp => ?_)
        obtain ⟨rfl, hw9⟩ := hp
        replace hw9 := hw9.symm
        subst hw9
        refine x_if_eq F dX6_startRetirement_49 rfl (fun h49 => ?_) (fun h49 => ?_)
        · rw [f_srT_f (by rw [show f_caller K k i (kG K 0) = false from x_b_eq.mp h49, Bool.and_false])] at hf
          refine x_iincN F dX6_startRetirement_71 (by decide) rfl (by decide) ?_
          refine x_goto F dX6_startRetirement_74 rfl ?_
          exact x_lk (ih (k + 1) (by omega) _ _ _ _ hR hO hf) ⟨rfl, rfl, rfl, rfl, rfl, rfl, trivial⟩
        · rw [f_srT_t (by rw [decide_eq_true hk2, show f_caller K k i (kG K 0) = true from x_b_ne.mp h49]; rfl)] at hf
          refine x_aload_n F dX6_startRetirement_52 rfl rfl ?_
          refine x_aload F dX6_startRetirement_53 rfl ?_
          refine x_get (ci := 1) (C := RX1) (T := TX1) (N := 8) (k := 0) F dX6_startRetirement_55 rfl inX1 (by decide) q246 rfl (hR.cli hk2) rfl ?_
          refine x_aload_n F dX6_startRetirement_58 rfl rfl ?_
          refine x_get (ci := 6) (C := RX6) (T := TX6) (N := 12) (k := 6) F dX6_startRetirement_59 rfl inX6 (by decide) q71 rfl hR.main rfl ?_
          refine x_cVi2 (ci := 3) (C := RX3) (T := TX3) (N := 4) F dX6_startRetirement_62 (x_gV q315 q316 q317 q3 q318) rfl (c_ask hR hi (kC K k 0) (kG K 0)) ⟨rfl, rfl, rfl, xd_X3_ask, ⟨Nat.le_of_ble_eq_true rfl, Nat.le_of_ble_eq_true rfl⟩, Nat.le_of_ble_eq_true rfl, Nat.le_of_ble_eq_true rfl⟩ rfl (hR.ret hi) (Nat.le_of_ble_eq_true rfl) (fun v1 w1 hp => ?_)
          obtain ⟨J2, rfl, hR, hO2⟩ := hp
          have hO := hO.trans hO2 rfl
          rw [kVA_put_e, kPutVA_twice] at hR
          rw [kVA_put_e]
          refine x_if_eq F dX6_startRetirement_65 rfl (fun h65 => ?_) (fun h65 => ?_)
          · rw [x_b_eq.mp h65, if_neg (by decide), Nat.add_zero] at hf
            refine x_iincN F dX6_startRetirement_71 (by decide) rfl (by decide) ?_
            refine x_goto F dX6_startRetirement_74 rfl ?_
            exact x_lk (ih (k + 1) (by omega) _ _ _ _ hR hO hf) ⟨rfl, rfl, rfl, rfl, rfl, rfl, trivial⟩
          · rw [x_b_ne.mp h65, if_pos rfl] at hf
            refine x_iincN F dX6_startRetirement_68 (by decide) rfl (by decide) ?_
            refine x_iincN F dX6_startRetirement_71 (by decide) rfl (by decide) ?_
            refine x_goto F dX6_startRetirement_74 rfl ?_
            exact x_lk (ih (k + 1) (by omega) _ _ _ _ hR hO hf) ⟨rfl, rfl, rfl, rfl, rfl, rfl, trivial⟩
      · simp only [show nc (kPutVA (f_startK K i d) i row) = nc K from rfl, if_neg hk2]
        rw [f_srT_f (by rw [decide_eq_false hk2]; rfl)] at hf
        refine x_astoreN F dX6_startRetirement_32 (by decide) ?_
        refine x_aloadN F dX6_startRetirement_34 rfl ?_
        refine x_ifnullN F dX6_startRetirement_36 rfl ?_
        refine x_iincN F dX6_startRetirement_71 (by decide) rfl (by decide) ?_
        refine x_goto F dX6_startRetirement_74 rfl ?_
        exact x_lk (ih (k + 1) (by omega) _ _ _ _ hR hO hf) ⟨rfl, rfl, rfl, rfl, rfl, rfl, trivial⟩
  refine x_aload_n F dX6_startRetirement_0 rfl rfl ?_
  refine x_aload_n F dX6_startRetirement_1 rfl rfl ?_
  refine x_get (ci := 6) (C := RX6) (T := TX6) (N := 12) (k := 6) F dX6_startRetirement_2 rfl inX6 (by decide) q71 rfl hR.main rfl ?_
  refine x_iload_n F dX6_startRetirement_5 rfl rfl ?_
  refine x_cVv2 (ci := 3) (C := RX3) (T := TX3) (N := 4) F dX6_startRetirement_6 (x_gV q356 q357 q358 q3 q359) rfl (c_start hR hi d) ⟨rfl, rfl, rfl, xd_X3_start, ⟨Nat.le_of_ble_eq_true rfl, Nat.le_of_ble_eq_true rfl⟩, Nat.le_of_ble_eq_true rfl, Nat.le_of_ble_eq_true rfl⟩ rfl (hR.ret hi) (Nat.le_of_ble_eq_true rfl) (fun w1 hp => ?_)
  obtain ⟨J1, hR, hO⟩ := hp
  have hR : Rep Z (kPutVA (f_startK K i d) i (f_fill 5 (-1) (kVA K i))) J1 w1 := by rw [show f_fill 5 (-1) (kVA K i) = kVA (f_startK K i d) i from (kVA_put_e (K := kPutV (kPutV (kPutV K i 6 (-1)) i 7 (-1)) i 8 0)).symm, kPutVA_self]; exact hR
  refine x_iconst (v := 0) F dX6_startRetirement_9 (by decide) ?_
  refine x_istore F dX6_startRetirement_10 (by decide) ?_
  refine x_iconst (v := 0) F dX6_startRetirement_12 (by decide) ?_
  refine x_istore F dX6_startRetirement_13 (by decide) ?_
  exact x_lk (loop 10 0 (by omega) _ 0 J1 w1 hR hO rfl) ⟨rfl, rfl, rfl, rfl, rfl, rfl, trivial⟩
set_option maxRecDepth 100000 in
set_option maxHeartbeats 4000000 in
theorem c_retire (hR : Rep Z K J w) {f k : Nat} (hi : vOk K (6 * f + k)) (hk : k < 6) {d : Int32} (hd1 : ¬ d < 1) (hd9 : d ≤ 9) (hs : kV K (6 * f + k) 2 = 0) : Ci l D dA B yX6_retire wX6_retire 4 [.ref (Z 0 0), .int (nI f), .int (nI k), .int d] w (QM Z K w (nI (f_sr (kPutV K (6 * f + k) 2 1) (6 * f + k)).2) (f_retK (kPutV K (6 * f + k) 2 1) (6 * f + k) d)) := by
  refine x_Ct.of (cc := cX6_retire) (maxL := 5) (by decide) rfl (Nat.le_of_ble_eq_true rfl) ?_
  intro p e s m below meth c F
  have hO : Oth Z K w w := Oth.rfl
  refine x_aload_n F dX6_retire_0 rfl rfl ?_
  refine x_iload_n F dX6_retire_1 rfl rfl ?_
  refine x_iload_n F dX6_retire_2 rfl rfl ?_
  refine x_cVi2 (ci := 6) (C := RX6) (T := TX6) (N := 12) F dX6_retire_3 (x_gV q177 q178 q449 q1 q179) rfl (c_versionAt hR (nI f) (nI k)) ⟨rfl, rfl, rfl, xd_X6_versionAt, ⟨Nat.le_of_ble_eq_true rfl, Nat.le_of_ble_eq_true rfl⟩, Nat.le_of_ble_eq_true rfl, Nat.le_of_ble_eq_true rfl⟩ rfl hR.main (Nat.le_of_ble_eq_true rfl) (fun v1 w1 hp => ?_)
  obtain ⟨rfl, hw9⟩ := hp
  replace hw9 := hw9.symm
  subst hw9
  rw [verAt_some hR hi hk]
  refine x_astore F dX6_retire_6 (by decide) ?_
  refine x_aload F dX6_retire_8 rfl ?_
  refine x_ifnonnull F dX6_retire_10 rfl ?_
  refine x_iload_n F dX6_retire_23 rfl rfl ?_
  refine x_iconst (v := 1) F dX6_retire_24 (by decide) ?_
  refine x_icmp_lt F dX6_retire_25 rfl (fun hc => absurd hc hd1) (fun h25 => ?_)
  refine x_iload_n F dX6_retire_28 rfl rfl ?_
  refine x_bipush (v := 9) F dX6_retire_29 (by decide) ?_
  refine x_icmp_le F dX6_retire_31 rfl (fun h31 => ?_) (fun hc => absurd hc (fun q => q hd9))
  refine x_aload F dX6_retire_44 rfl ?_
  refine x_get (ci := 5) (C := RX5) (T := TX5) (N := 9) (k := 5) F dX6_retire_46 rfl inX5 (by decide) q149 rfl (hR.ver hi) rfl ?_
  refine x_if_eq F dX6_retire_49 rfl (fun h49 => ?_) (fun hc => absurd hc (fun q => q hs))
  refine x_aload F dX6_retire_62 rfl ?_
  refine x_iconst (v := 1) F dX6_retire_64 (by decide) ?_
  refine x_put (ci := 5) (C := RX5) (T := TX5) (N := 9) (k := 5) F dX6_retire_65 rfl inX5 tyX5 tyX5_ok nmX5 (by decide) q149 rfl rfl (hR.ver hi) (Nat.le_of_ble_eq_true rfl) rfl rfl ?_
  refine x_wd (fun w2 hw2 => ?_)
  have hO : Oth Z K w w2 := hO.trans (by rw [hw2]; exact Oth.set (kind := 10) (idx := (6 * f + k)) hi _) rfl
  have hR : Rep Z (kPutV K (6 * f + k) 2 1) J w2 := by rw [hw2]; exact hR.putV hi 2 (by decide) _ (by first | (simp [obj, kV_put, kC_put, kG_put, kCV_put, kC_ofCV, kV_ofCV, kCV_ofC, kCV_ofV]; done) | (simp [obj, kV_put, kC_put, kG_put, kCV_put, kC_ofCV, kV_ofCV, kCV_ofC, kCV_ofV]; exact ⟨rfl, rfl⟩) | (simp [obj, kV_put, kC_put, kG_put, kCV_put, kC_ofCV, kV_ofCV, kCV_ofC, kCV_ofV]; rfl) | (simp [obj, kV_put, kC_put, kG_put, kCV_put, kC_ofCV, kV_ofCV, kCV_ofC, kCV_ofV]; and_intros <;> rfl))
  refine x_aload_n F dX6_retire_68 rfl rfl ?_
  refine x_aload F dX6_retire_69 rfl ?_
  refine x_aload F dX6_retire_71 rfl ?_
  refine x_get (ci := 5) (C := RX5) (T := TX5) (N := 9) (k := 4) F dX6_retire_73 rfl inX5 (by decide) q147 rfl (hR.ver hi) rfl ?_
  refine x_iload_n F dX6_retire_76 rfl rfl ?_
  refine x_cVi3 (ci := 6) (C := RX6) (T := TX6) (N := 12) F dX6_retire_77 (x_gV q353 q354 q462 q1 q355) rfl (c_startRetirement hR hi d) ⟨rfl, rfl, rfl, xd_X6_startRetirement, ⟨Nat.le_of_ble_eq_true rfl, Nat.le_of_ble_eq_true rfl⟩, Nat.le_of_ble_eq_true rfl, Nat.le_of_ble_eq_true rfl⟩ rfl hR.main (Nat.le_of_ble_eq_true rfl) (fun v1 w1 hp => ?_)
  obtain ⟨J2, rfl, hR, hO2⟩ := hp
  have hO := hO.trans hO2 rfl
  refine x_iret F rfl rfl dX6_retire_80 (Nat.le_refl _) (Nat.le_refl _) ?_
  exact ⟨_, rfl, J2, rfl, hR, hO⟩
set_option maxRecDepth 100000 in
set_option maxHeartbeats 4000000 in
theorem c_answer (hR : Rep Z K J w) {f k : Nat} (hi : vOk K (6 * f + k)) (hk : k < 6) {o : Int32} (ho : f_owner o = true) (hs : kV K (6 * f + k) 2 = 1) (ha : ¬ f_asked (kVA K (6 * f + k)) o = -1) : Ci l D dA B yX6_answer wX6_answer 3 [.ref (Z 0 0), .int o, .int (nI f), .int (nI k)] w (QM Z K w (x_b (f_warned (kVA K (6 * f + k)) (kV K (6 * f + k) 8) o (kG K 0))) (kPutV K (6 * f + k) 8 (kV K (6 * f + k) 8 ||| (1 <<< (o &&& 31))))) := by
  refine x_Ct.of (cc := cX6_answer) (maxL := 6) (by decide) rfl (Nat.le_of_ble_eq_true rfl) ?_
  intro p e s m below meth c F
  have hO : Oth Z K w w := Oth.rfl
  refine x_aload_n F dX6_answer_0 rfl rfl ?_
  refine x_iload_n F dX6_answer_1 rfl rfl ?_
  refine x_iload_n F dX6_answer_2 rfl rfl ?_
  refine x_cVi2 (ci := 6) (C := RX6) (T := TX6) (N := 12) F dX6_answer_3 (x_gV q177 q178 q449 q1 q179) rfl (c_versionAt hR (nI f) (nI k)) ⟨rfl, rfl, rfl, xd_X6_versionAt, ⟨Nat.le_of_ble_eq_true rfl, Nat.le_of_ble_eq_true rfl⟩, Nat.le_of_ble_eq_true rfl, Nat.le_of_ble_eq_true rfl⟩ rfl hR.main (Nat.le_of_ble_eq_true rfl) (fun v1 w1 hp => ?_)
  obtain ⟨rfl, hw9⟩ := hp
  replace hw9 := hw9.symm
  subst hw9
  rw [verAt_some hR hi hk]
  refine x_astore F dX6_answer_6 (by decide) ?_
  refine x_aload F dX6_answer_8 rfl ?_
  refine x_ifnull F dX6_answer_10 ?_
  refine x_iload_n F dX6_answer_13 rfl rfl ?_
  refine x_cSi1 F dX6_answer_14 (x_gS q236 q237 q1 q238) (c_isOwner o) ⟨rfl, rfl, rfl, xd_X6_isOwner, ⟨Nat.le_of_ble_eq_true rfl, Nat.le_of_ble_eq_true rfl⟩, Nat.le_of_ble_eq_true rfl, Nat.le_of_ble_eq_true rfl⟩ (Nat.le_of_ble_eq_true rfl) (fun v1 w1 hp => ?_)
  obtain ⟨rfl, hw9⟩ := hp
  replace hw9 := hw9.symm
  subst hw9
  refine x_if_ne F dX6_answer_17 rfl (fun h17 => ?_) (fun hc => absurd hc (by rw [ho]; decide))
  refine x_aload F dX6_answer_30 rfl ?_
  refine x_get (ci := 5) (C := RX5) (T := TX5) (N := 9) (k := 5) F dX6_answer_32 rfl inX5 (by decide) q149 rfl (hR.ver hi) rfl ?_
  refine x_iconst (v := 1) F dX6_answer_35 (by decide) ?_
  refine x_icmp_ne F dX6_answer_36 rfl (fun hc => absurd hc (fun q => q hs)) (fun h36 => ?_)
  refine x_aload F dX6_answer_39 rfl ?_
  refine x_get (ci := 5) (C := RX5) (T := TX5) (N := 9) (k := 4) F dX6_answer_41 rfl inX5 (by decide) q147 rfl (hR.ver hi) rfl ?_
  refine x_iload_n F dX6_answer_44 rfl rfl ?_
  refine x_cVi1 (ci := 3) (C := RX3) (T := TX3) (N := 4) F dX6_answer_45 (x_gV q368 q202 q203 q3 q204) rfl (c_askedAtOf (hR.ret hi) (hR.ask hi) o) ⟨rfl, rfl, rfl, xd_X3_askedAtOf, ⟨Nat.le_of_ble_eq_true rfl, Nat.le_of_ble_eq_true rfl⟩, Nat.le_of_ble_eq_true rfl, Nat.le_of_ble_eq_true rfl⟩ rfl (hR.ret hi) (Nat.le_of_ble_eq_true rfl) (fun v1 w1 hp => ?_)
  obtain ⟨rfl, hw9⟩ := hp
  replace hw9 := hw9.symm
  subst hw9
  refine x_iconst (v := (-1)) F dX6_answer_48 (by decide) ?_
  refine x_icmp_ne F dX6_answer_49 rfl (fun h49 => ?_) (fun hc => absurd hc ha)
  refine x_aload F dX6_answer_62 rfl ?_
  refine x_get (ci := 5) (C := RX5) (T := TX5) (N := 9) (k := 4) F dX6_answer_64 rfl inX5 (by decide) q147 rfl (hR.ver hi) rfl ?_
  refine x_iload_n F dX6_answer_67 rfl rfl ?_
  refine x_aload_n F dX6_answer_68 rfl rfl ?_
  refine x_get (ci := 6) (C := RX6) (T := TX6) (N := 12) (k := 6) F dX6_answer_69 rfl inX6 (by decide) q71 rfl hR.main rfl ?_
  refine x_cVi2 (ci := 3) (C := RX3) (T := TX3) (N := 4) F dX6_answer_72 (x_gV q197 q198 q199 q3 q200) rfl (c_isWarned (hR.ret hi) (hR.ask hi) o (kG K 0)) ⟨rfl, rfl, rfl, xd_X3_isWarned, ⟨Nat.le_of_ble_eq_true rfl, Nat.le_of_ble_eq_true rfl⟩, Nat.le_of_ble_eq_true rfl, Nat.le_of_ble_eq_true rfl⟩ rfl (hR.ret hi) (Nat.le_of_ble_eq_true rfl) (fun v1 w1 hp => ?_)
  obtain ⟨rfl, hw9⟩ := hp
  replace hw9 := hw9.symm
  subst hw9
  refine x_istore F dX6_answer_75 (by decide) ?_
  refine x_aload F dX6_answer_77 rfl ?_
  refine x_get (ci := 5) (C := RX5) (T := TX5) (N := 9) (k := 4) F dX6_answer_79 rfl inX5 (by decide) q147 rfl (hR.ver hi) rfl ?_
  refine x_dup F dX6_answer_82 rfl ?_
  refine x_get (ci := 3) (C := RX3) (T := TX3) (N := 4) (k := 3) F dX6_answer_83 rfl inX3 (by decide) q60 rfl (hR.ret hi) rfl ?_
  refine x_iconst (v := 1) F dX6_answer_86 (by decide) ?_
  refine x_iload_n F dX6_answer_87 rfl rfl ?_
  refine x_ishl F dX6_answer_88 ?_
  refine x_ior F dX6_answer_89 ?_
  refine x_put (ci := 3) (C := RX3) (T := TX3) (N := 4) (k := 3) F dX6_answer_90 rfl inX3 tyX3 tyX3_ok nmX3 (by decide) q60 rfl rfl (hR.ret hi) (Nat.le_of_ble_eq_true rfl) rfl rfl ?_
  refine x_wd (fun w2 hw2 => ?_)
  have hO : Oth Z K w w2 := hO.trans (by rw [hw2]; exact Oth.set (kind := 11) (idx := (6 * f + k)) hi _) rfl
  have hR : Rep Z (kPutV K (6 * f + k) 8 (kV K (6 * f + k) 8 ||| (1 <<< (o &&& 31)))) J w2 := by rw [hw2]; exact hR.putR hi 8 (by decide) _ (by first | (simp [obj, kV_put, kC_put, kG_put, kCV_put, kC_ofCV, kV_ofCV, kCV_ofC, kCV_ofV]; done) | (simp [obj, kV_put, kC_put, kG_put, kCV_put, kC_ofCV, kV_ofCV, kCV_ofC, kCV_ofV]; exact ⟨rfl, rfl⟩) | (simp [obj, kV_put, kC_put, kG_put, kCV_put, kC_ofCV, kV_ofCV, kCV_ofC, kCV_ofV]; rfl) | (simp [obj, kV_put, kC_put, kG_put, kCV_put, kC_ofCV, kV_ofCV, kCV_ofC, kCV_ofV]; and_intros <;> rfl))
  refine x_iload F dX6_answer_93 rfl ?_
  refine x_iret F rfl x_b_nar dX6_answer_95 (Nat.le_refl _) (Nat.le_refl _) ?_
  exact ⟨_, rfl, J, rfl, hR, hO⟩
theorem Rep.putCV (h : Rep Z K J w) {k v : Nat} (hk : k < nc K) (hv : vOk K v) (hf : v / 6 = kCV K k / 6) {c : xE} (hc : c = obj Z (kPutCV K k v) J 13 k) : Rep Z (kPutCV K k v) J (x_set w (Z 13 k) c) := by
  subst hc
  refine ⟨fun k2 i2 h2 => ?_, fun k1 i1 k2 i2 h1 h2 e => h.2.1 k1 i1 k2 i2 h1 h2 e, ?_⟩
  · by_cases hc : k2 = 13 ∧ i2 = k
    · obtain ⟨rfl, rfl⟩ := hc
      exact x_set_eq _ _ _
    · rw [x_set_ne _ _ (fun e => hc (h.inj (k2 := 13) (i2 := k) h2 hk e)), h.1 _ _ h2]
      rcases k2 with _ | _ | _ | _ | _ | _ | _ | _ | _ | _ | _ | _ | _ | _ | _ | _ | k2
      all_goals first
        | rfl
        | (have hi2 : ¬ i2 = k := fun e => hc ⟨rfl, e⟩
           simp [obj, kCV_put, hi2]; exact ⟨rfl, rfl, rfl, rfl⟩)
        | (have hi2 : ¬ i2 = k := fun e => hc ⟨rfl, e⟩
           simp [obj, kCV_put, hi2]; rfl)
        | (have hi2 : ¬ i2 = k := fun e => hc ⟨rfl, e⟩
           simp [obj, kCV_put, hi2]; and_intros <;> rfl)
  · obtain ⟨a1, a2, a3, a4, a5, a6⟩ := h.2.2
    refine ⟨a1, a2, a3, a4, fun q hq => ?_, a6⟩
    rw [kCV_put]
    by_cases e : q = k
    · rw [if_pos e]; exact hv
    · rw [if_neg e]; exact a5 q hq
set_option maxRecDepth 100000 in
set_option maxHeartbeats 4000000 in
theorem c_again (hR : Rep Z K J w) {k n : Nat} (hk : k < nc K) (hi : vOk K (6 * (kCV K k / 6) + n)) (hn : n < 6) (hs : kV K (6 * (kCV K k / 6) + n) 2 = 0) : Ci l D dA B yX6_again wX6_again 2 [.ref (Z 0 0), .int (nI k), .int (nI n)] w (QM Z K w (f_again (kV K (6 * (kCV K k / 6) + n) 0) (kV K (6 * (kCV K k / 6) + n) 1) (kC K k 1)) (kPutCV (kPutC K k 1 (f_again (kV K (6 * (kCV K k / 6) + n) 0) (kV K (6 * (kCV K k / 6) + n) 1) (kC K k 1))) k (6 * (kCV K k / 6) + n))) := by
  refine x_Ct.of (cc := cX6_again) (maxL := 5) (by decide) rfl (Nat.le_of_ble_eq_true rfl) ?_
  intro p e s m below meth c F
  have hO : Oth Z K w w := Oth.rfl
  refine x_aload_n F dX6_again_0 rfl rfl ?_
  refine x_iload_n F dX6_again_1 rfl rfl ?_
  refine x_cVi1 (ci := 6) (C := RX6) (T := TX6) (N := 12) F dX6_again_2 (x_gV q272 q273 q456 q1 q274) rfl (c_clientAt hR (nI k)) ⟨rfl, rfl, rfl, xd_X6_clientAt, ⟨Nat.le_of_ble_eq_true rfl, Nat.le_of_ble_eq_true rfl⟩, Nat.le_of_ble_eq_true rfl, Nat.le_of_ble_eq_true rfl⟩ rfl hR.main (Nat.le_of_ble_eq_true rfl) (fun v1 w1 hp => ?_)
  obtain ⟨rfl, hw9⟩ := hp
  replace hw9 := hw9.symm
  subst hw9
  rw [cliAt_some hR hk]
  refine x_astore_n F dX6_again_5 rfl (by decide) ?_
  refine x_aload_n F dX6_again_6 rfl rfl ?_
  refine x_ifnonnull F dX6_again_7 rfl ?_
  refine x_aload_n F dX6_again_14 rfl rfl ?_
  refine x_get (ci := 1) (C := RX1) (T := TX1) (N := 8) (k := 1) F dX6_again_15 rfl inX1 (by decide) q248 rfl (hR.cli hk) rfl ?_
  refine x_iload_n F dX6_again_18 rfl rfl ?_
  refine x_cVi1 (ci := 2) (C := RX2) (T := TX2) (N := 3) F dX6_again_19 (x_gV q165 q166 q167 q9 q168) rfl (c_fVersionAt hR (hR.cv hk).1 (nI n)) ⟨rfl, rfl, rfl, xd_X2_versionAt, ⟨Nat.le_of_ble_eq_true rfl, Nat.le_of_ble_eq_true rfl⟩, Nat.le_of_ble_eq_true rfl, Nat.le_of_ble_eq_true rfl⟩ rfl (hR.face (hR.cv hk).1) (Nat.le_of_ble_eq_true rfl) (fun v1 w1 hp => ?_)
  obtain ⟨rfl, hw9⟩ := hp
  replace hw9 := hw9.symm
  subst hw9
  rw [fverAt_some hi hn]
  refine x_astore F dX6_again_22 (by decide) ?_
  refine x_aload_n F dX6_again_24 rfl rfl ?_
  refine x_ifnull F dX6_again_25 ?_
  refine x_aload F dX6_again_28 rfl ?_
  refine x_ifnonnull F dX6_again_30 rfl ?_
  refine x_aload F dX6_again_43 rfl ?_
  refine x_get (ci := 5) (C := RX5) (T := TX5) (N := 9) (k := 5) F dX6_again_45 rfl inX5 (by decide) q149 rfl (hR.ver hi) rfl ?_
  refine x_if_eq F dX6_again_48 rfl (fun h48 => ?_) (fun hc => absurd hc (fun q => q hs))
  refine x_aload_n F dX6_again_61 rfl rfl ?_
  refine x_aload F dX6_again_62 rfl ?_
  refine x_aload_n F dX6_again_64 rfl rfl ?_
  refine x_get (ci := 1) (C := RX1) (T := TX1) (N := 8) (k := 5) F dX6_again_65 rfl inX1 (by decide) q255 rfl (hR.cli hk) rfl ?_
  refine x_cVi1 (ci := 5) (C := RX5) (T := TX5) (N := 9) F dX6_again_68 (x_gV q275 q276 q277 q12 q278) rfl (c_usesAgain hR hi (kC K k 1)) ⟨rfl, rfl, rfl, xd_X5_usesAgain, ⟨Nat.le_of_ble_eq_true rfl, Nat.le_of_ble_eq_true rfl⟩, Nat.le_of_ble_eq_true rfl, Nat.le_of_ble_eq_true rfl⟩ rfl (hR.ver hi) (Nat.le_of_ble_eq_true rfl) (fun v1 w1 hp => ?_)
  obtain ⟨rfl, hw9⟩ := hp
  replace hw9 := hw9.symm
  subst hw9
  refine x_put (ci := 1) (C := RX1) (T := TX1) (N := 8) (k := 5) F dX6_again_71 rfl inX1 tyX1 tyX1_ok nmX1 (by decide) q255 rfl rfl (hR.cli hk) (Nat.le_of_ble_eq_true rfl) rfl rfl ?_
  refine x_wd (fun w2 hw2 => ?_)
  have hO : Oth Z K w w2 := hO.trans (by rw [hw2]; exact Oth.set (kind := 13) (idx := k) hk _) rfl
  have hR : Rep Z (kPutC K k 1 (f_again (kV K (6 * (kCV K k / 6) + n) 0) (kV K (6 * (kCV K k / 6) + n) 1) (kC K k 1))) J w2 := by rw [hw2]; exact hR.putC hk 1 _ (by first | (simp [obj, kV_put, kC_put, kG_put, kCV_put, kC_ofCV, kV_ofCV, kCV_ofC, kCV_ofV]; done) | (simp [obj, kV_put, kC_put, kG_put, kCV_put, kC_ofCV, kV_ofCV, kCV_ofC, kCV_ofV]; exact ⟨rfl, rfl⟩) | (simp [obj, kV_put, kC_put, kG_put, kCV_put, kC_ofCV, kV_ofCV, kCV_ofC, kCV_ofV]; rfl) | (simp [obj, kV_put, kC_put, kG_put, kCV_put, kC_ofCV, kV_ofCV, kCV_ofC, kCV_ofV]; and_intros <;> rfl))
  refine x_aload_n F dX6_again_74 rfl rfl ?_
  refine x_aload F dX6_again_75 rfl ?_
  refine x_put (ci := 1) (C := RX1) (T := TX1) (N := 8) (k := 4) F dX6_again_77 rfl inX1 tyX1 tyX1_ok nmX1 (by decide) q253 rfl rfl (hR.cli hk) (Nat.le_of_ble_eq_true rfl) rfl rfl ?_
  refine x_wd (fun w3 hw3 => ?_)
  have hO : Oth Z K w w3 := hO.trans (by rw [hw3]; exact Oth.set (kind := 13) (idx := k) hk _) rfl
  have hR : Rep Z (kPutCV (kPutC K k 1 (f_again (kV K (6 * (kCV K k / 6) + n) 0) (kV K (6 * (kCV K k / 6) + n) 1) (kC K k 1))) k (6 * (kCV K k / 6) + n)) J w3 := by rw [hw3]; exact hR.putCV hk hi (show (6 * (kCV K k / 6) + n) / 6 = kCV K k / 6 by omega) (by simp [obj, kC_put, kCV_put, kC_ofCV, show (6 * (kCV K k / 6) + n) / 6 = kCV K k / 6 by omega]; and_intros <;> rfl)
  refine x_aload_n F dX6_again_80 rfl rfl ?_
  refine x_get (ci := 1) (C := RX1) (T := TX1) (N := 8) (k := 5) F dX6_again_81 rfl inX1 (by decide) q255 rfl (hR.cli hk) rfl ?_
  refine x_iret F rfl rfl dX6_again_84 (Nat.le_refl _) (Nat.le_refl _) ?_
  exact ⟨_, rfl, J, congrArg Value.int (kC_put_e (K := K)), hR, hO⟩
set_option maxRecDepth 100000 in
set_option maxHeartbeats 4000000 in
theorem c_call1 (hR : Rep Z K J w) {k : Nat} (hk : k < nc K) : Ci l D dA B yX6_call wX6_call 8 [.ref (Z 0 0), .int (nI k), .int 1] w (QM Z K w (x_b (f_svb K k)) (f_serve K k)) := by
  refine x_Ct.of (cc := cX6_call) (maxL := 6) (by decide) rfl (Nat.le_of_ble_eq_true rfl) ?_
  intro p e s m below meth c F
  refine x_aload_n F dX6_call_0 rfl rfl ?_
  refine x_iload_n F dX6_call_1 rfl rfl ?_
  refine x_cVi1 (ci := 6) (C := RX6) (T := TX6) (N := 12) F dX6_call_2 (x_gV q272 q273 q456 q1 q274) rfl (c_clientAt hR (nI k)) ⟨rfl, rfl, rfl, xd_X6_clientAt, ⟨Nat.le_of_ble_eq_true rfl, Nat.le_of_ble_eq_true rfl⟩, Nat.le_of_ble_eq_true rfl, Nat.le_of_ble_eq_true rfl⟩ rfl hR.main (Nat.le_of_ble_eq_true rfl) (fun v1 w1 hp => ?_)
  obtain ⟨rfl, hw9⟩ := hp
  replace hw9 := hw9.symm
  subst hw9
  rw [cliAt_some hR hk]
  refine x_astore_n F dX6_call_5 rfl (by decide) ?_
  refine x_aload_n F dX6_call_6 rfl rfl ?_
  refine x_ifnonnull F dX6_call_7 rfl ?_
  refine x_iload_n F dX6_call_20 rfl rfl ?_
  refine x_iconst (v := 1) F dX6_call_21 (by decide) ?_
  refine x_icmp_lt F dX6_call_22 rfl (fun hc => absurd hc (by decide)) (fun _ => ?_)
  refine x_iload_n F dX6_call_25 rfl rfl ?_
  refine x_bipush (v := 20) F dX6_call_26 (by decide) ?_
  refine x_icmp_le F dX6_call_28 rfl (fun _ => ?_) (fun hc => absurd hc (by decide))
  refine x_iconst (v := 0) F dX6_call_41 (by decide) ?_
  refine x_istore F dX6_call_42 (by decide) ?_
  refine x_iconst (v := 0) F dX6_call_44 (by decide) ?_
  refine x_istore F dX6_call_45 (by decide) ?_
  refine x_iload F dX6_call_47 rfl ?_
  refine x_iload_n F dX6_call_49 rfl rfl ?_
  refine x_icmp_ge F dX6_call_50 rfl (fun hc => absurd hc (by decide)) (fun _ => ?_)
  refine x_aload_n F dX6_call_53 rfl rfl ?_
  refine x_aload_n F dX6_call_54 rfl rfl ?_
  refine x_cVi1 (ci := 6) (C := RX6) (T := TX6) (N := 12) F dX6_call_55 (x_gV q312 q313 q459 q1 q314) rfl (c_isServedCall hR hk) ⟨rfl, rfl, rfl, xd_X6_isServedCall, ⟨Nat.le_of_ble_eq_true rfl, Nat.le_of_ble_eq_true rfl⟩, Nat.le_of_ble_eq_true rfl, Nat.le_of_ble_eq_true rfl⟩ rfl hR.main (Nat.le_of_ble_eq_true rfl) (fun v1 w1 hp => ?_)
  obtain ⟨J2, rfl, hR, hO⟩ := hp
  refine x_if_eq F dX6_call_58 rfl (fun h58 => ?_) (fun h58 => ?_)
  · have g := x_b_eq.mp h58
    refine x_iinc (v := 1) F dX6_call_64 (by decide) rfl (by decide) ?_
    refine x_goto F dX6_call_67 rfl ?_
    refine x_iload F dX6_call_47 rfl ?_
    refine x_iload_n F dX6_call_49 rfl rfl ?_
    refine x_icmp_ge F dX6_call_50 rfl (fun _ => ?_) (fun hc => absurd hc (by decide))
    refine x_iload F dX6_call_70 rfl ?_
    refine x_iret F rfl rfl dX6_call_72 (Nat.le_refl _) (Nat.le_refl _) ?_
    exact ⟨_, rfl, J2, by rw [g]; rfl, hR, hO⟩
  · have g := x_b_ne.mp h58
    refine x_iinc (v := 1) F dX6_call_61 (by decide) rfl (by decide) ?_
    refine x_iinc (v := 1) F dX6_call_64 (by decide) rfl (by decide) ?_
    refine x_goto F dX6_call_67 rfl ?_
    refine x_iload F dX6_call_47 rfl ?_
    refine x_iload_n F dX6_call_49 rfl rfl ?_
    refine x_icmp_ge F dX6_call_50 rfl (fun _ => ?_) (fun hc => absurd hc (by decide))
    refine x_iload F dX6_call_70 rfl ?_
    refine x_iret F rfl rfl dX6_call_72 (Nat.le_refl _) (Nat.le_refl _) ?_
    exact ⟨_, rfl, J2, by rw [g]; rfl, hR, hO⟩
def f_endK (K : kT) (i : Nat) : kT := if f_cnt (p_hin K i (kG K 0) false) 10 = 0 then kPutV K i 2 2 else kPutV (kPutV K i 7 (kV K i 7 + 24)) i 3 (kV K i 3 + 1)
theorem f_endK_N (K : kT) (i : Nat) : kN (f_endK K i) = kN K := by unfold f_endK; split <;> rfl
set_option maxRecDepth 100000 in
set_option maxHeartbeats 4000000 in
theorem c_isGoneAtEnd (hR : Rep Z K J w) {i : Nat} (hi : vOk K i) : Ci l D dA B yX6_isGoneAtEnd wX6_isGoneAtEnd 8 [.ref (Z 0 0), .ref (Z 10 i)] w (QM Z K w (x_b (decide (f_cnt (p_hin K i (kG K 0) false) 10 = 0))) (f_endK K i)) := by
  refine x_Ct.of (cc := cX6_isGoneAtEnd) (maxL := 2) (by decide) rfl (Nat.le_of_ble_eq_true rfl) ?_
  intro p e s m below meth c F
  refine x_aload_n F dX6_isGoneAtEnd_0 rfl rfl ?_
  refine x_aload_n F dX6_isGoneAtEnd_1 rfl rfl ?_
  refine x_aload_n F dX6_isGoneAtEnd_2 rfl rfl ?_
  refine x_get (ci := 5) (C := RX5) (T := TX5) (N := 9) (k := 4) F dX6_isGoneAtEnd_3 rfl inX5 (by decide) q147 rfl (hR.ver hi) rfl ?_
  refine x_aload_n F dX6_isGoneAtEnd_6 rfl rfl ?_
  refine x_get (ci := 6) (C := RX6) (T := TX6) (N := 12) (k := 6) F dX6_isGoneAtEnd_7 rfl inX6 (by decide) q71 rfl hR.main rfl ?_
  refine x_iconst (v := 0) F dX6_isGoneAtEnd_10 (by decide) ?_
  refine x_cVi4 (ci := 6) (C := RX6) (T := TX6) (N := 12) F dX6_isGoneAtEnd_11 (x_gV q194 q195 q452 q1 q196) rfl (c_countHinderers hR hi (kG K 0) false) ⟨rfl, rfl, rfl, xd_X6_countHinderers, ⟨Nat.le_of_ble_eq_true rfl, Nat.le_of_ble_eq_true rfl⟩, Nat.le_of_ble_eq_true rfl, Nat.le_of_ble_eq_true rfl⟩ rfl hR.main (Nat.le_of_ble_eq_true rfl) (fun v1 w1 hp => ?_)
  obtain ⟨J2, rfl, hR, hO⟩ := hp
  have hle := f_cnt_le (p_hin K i (kG K 0) false) 10
  refine x_if_ne F dX6_isGoneAtEnd_14 rfl (fun h14 => ?_) (fun h14 => ?_)
  · rw [nI_eq0 (by omega)] at h14
    refine x_aload_n F dX6_isGoneAtEnd_24 rfl rfl ?_
    refine x_get (ci := 5) (C := RX5) (T := TX5) (N := 9) (k := 4) F dX6_isGoneAtEnd_25 rfl inX5 (by decide) q147 rfl (hR.ver hi) rfl ?_
    refine x_dup F dX6_isGoneAtEnd_28 rfl ?_
    refine x_get (ci := 3) (C := RX3) (T := TX3) (N := 4) (k := 2) F dX6_isGoneAtEnd_29 rfl inX3 (by decide) q58 rfl (hR.ret hi) rfl ?_
    refine x_bipush (v := 24) F dX6_isGoneAtEnd_32 (by decide) ?_
    refine x_iadd F dX6_isGoneAtEnd_34 ?_
    refine x_put (ci := 3) (C := RX3) (T := TX3) (N := 4) (k := 2) F dX6_isGoneAtEnd_35 rfl inX3 tyX3 tyX3_ok nmX3 (by decide) q58 rfl rfl (hR.ret hi) (Nat.le_of_ble_eq_true rfl) rfl rfl ?_
    refine x_wd (fun w2 hw2 => ?_)
    have hO : Oth Z K w w2 := hO.trans (by rw [hw2]; exact Oth.set (kind := 11) (idx := i) hi _) rfl
    have hR : Rep Z (kPutV K i 7 (kV K i 7 + 24)) J2 w2 := by rw [hw2]; exact hR.putR hi 7 (by decide) _ (by first | (simp [obj, kV_put, kC_put, kG_put, kCV_put, kC_ofCV, kV_ofCV, kCV_ofC, kCV_ofV]; done) | (simp [obj, kV_put, kC_put, kG_put, kCV_put, kC_ofCV, kV_ofCV, kCV_ofC, kCV_ofV]; exact ⟨rfl, rfl⟩) | (simp [obj, kV_put, kC_put, kG_put, kCV_put, kC_ofCV, kV_ofCV, kCV_ofC, kCV_ofV]; rfl) | (simp [obj, kV_put, kC_put, kG_put, kCV_put, kC_ofCV, kV_ofCV, kCV_ofC, kCV_ofV]; and_intros <;> rfl))
    refine x_aload_n F dX6_isGoneAtEnd_38 rfl rfl ?_
    refine x_dup F dX6_isGoneAtEnd_39 rfl ?_
    refine x_get (ci := 5) (C := RX5) (T := TX5) (N := 9) (k := 6) F dX6_isGoneAtEnd_40 rfl inX5 (by decide) q150 rfl (hR.ver hi) rfl ?_
    rw [kV_put_j (by decide)]
    refine x_iconst (v := 1) F dX6_isGoneAtEnd_43 (by decide) ?_
    refine x_iadd F dX6_isGoneAtEnd_44 ?_
    refine x_put (ci := 5) (C := RX5) (T := TX5) (N := 9) (k := 6) F dX6_isGoneAtEnd_45 rfl inX5 tyX5 tyX5_ok nmX5 (by decide) q150 rfl rfl (hR.ver hi) (Nat.le_of_ble_eq_true rfl) rfl rfl ?_
    refine x_wd (fun w3 hw3 => ?_)
    have hO : Oth Z K w w3 := hO.trans (by rw [hw3]; exact Oth.set (kind := 10) (idx := i) hi _) rfl
    have hR : Rep Z (kPutV (kPutV K i 7 (kV K i 7 + 24)) i 3 (kV K i 3 + 1)) J2 w3 := by rw [hw3]; exact hR.putV hi 3 (by decide) _ (by first | (simp [obj, kV_put, kC_put, kG_put, kCV_put, kC_ofCV, kV_ofCV, kCV_ofC, kCV_ofV]; done) | (simp [obj, kV_put, kC_put, kG_put, kCV_put, kC_ofCV, kV_ofCV, kCV_ofC, kCV_ofV]; exact ⟨rfl, rfl⟩) | (simp [obj, kV_put, kC_put, kG_put, kCV_put, kC_ofCV, kV_ofCV, kCV_ofC, kCV_ofV]; rfl) | (simp [obj, kV_put, kC_put, kG_put, kCV_put, kC_ofCV, kV_ofCV, kCV_ofC, kCV_ofV]; and_intros <;> rfl))
    refine x_iconst (v := 0) F dX6_isGoneAtEnd_48 (by decide) ?_
    refine x_iret F rfl rfl dX6_isGoneAtEnd_49 (Nat.le_refl _) (Nat.le_refl _) ?_
    exact ⟨_, rfl, J2, by rw [decide_eq_false h14]; rfl, by rw [show f_endK K i = _ from if_neg h14]; exact hR, hO⟩
  · rw [nI_eq0 (by omega)] at h14
    refine x_aload_n F dX6_isGoneAtEnd_17 rfl rfl ?_
    refine x_iconst (v := 2) F dX6_isGoneAtEnd_18 (by decide) ?_
    refine x_put (ci := 5) (C := RX5) (T := TX5) (N := 9) (k := 5) F dX6_isGoneAtEnd_19 rfl inX5 tyX5 tyX5_ok nmX5 (by decide) q149 rfl rfl (hR.ver hi) (Nat.le_of_ble_eq_true rfl) rfl rfl ?_
    refine x_wd (fun w2 hw2 => ?_)
    have hO : Oth Z K w w2 := hO.trans (by rw [hw2]; exact Oth.set (kind := 10) (idx := i) hi _) rfl
    have hR : Rep Z (kPutV K i 2 2) J2 w2 := by rw [hw2]; exact hR.putV hi 2 (by decide) _ (by first | (simp [obj, kV_put, kC_put, kG_put, kCV_put, kC_ofCV, kV_ofCV, kCV_ofC, kCV_ofV]; done) | (simp [obj, kV_put, kC_put, kG_put, kCV_put, kC_ofCV, kV_ofCV, kCV_ofC, kCV_ofV]; exact ⟨rfl, rfl⟩) | (simp [obj, kV_put, kC_put, kG_put, kCV_put, kC_ofCV, kV_ofCV, kCV_ofC, kCV_ofV]; rfl) | (simp [obj, kV_put, kC_put, kG_put, kCV_put, kC_ofCV, kV_ofCV, kCV_ofC, kCV_ofV]; and_intros <;> rfl))
    refine x_iconst (v := 1) F dX6_isGoneAtEnd_22 (by decide) ?_
    refine x_iret F rfl rfl dX6_isGoneAtEnd_23 (Nat.le_refl _) (Nat.le_refl _) ?_
    exact ⟨_, rfl, J2, by rw [decide_eq_true h14]; rfl, by rw [show f_endK K i = _ from if_pos h14]; exact hR, hO⟩
def f_clrT (n k : Nat) (K : kT) : kT := match n with
  | 0 => K
  | n + 1 => f_clrT n (k + 1) (if k < nc K then kPutCS K k (f_fill 6 0 (kCS K k)) else K)
def f_hvT (n j : Nat) (K : kT) (c : Nat) : kT × Nat := match n with
  | 0 => (K, c)
  | n + 1 => if b_ok K j && (decide (kV K j 2 = 1) && decide (kV K j 7 = kG K 0)) then f_hvT n (j + 1) (f_endK K j) (c + (if f_cnt (p_hin K j (kG K 0) false) 10 = 0 then 1 else 0)) else f_hvT n (j + 1) K c
theorem f_hvT_t {n j : Nat} {K : kT} {c : Nat} (h : (b_ok K j && (decide (kV K j 2 = 1) && decide (kV K j 7 = kG K 0))) = true) : f_hvT (n + 1) j K c = f_hvT n (j + 1) (f_endK K j) (c + (if f_cnt (p_hin K j (kG K 0) false) 10 = 0 then 1 else 0)) := if_pos h
theorem f_hvT_f {n j : Nat} {K : kT} {c : Nat} (h : (b_ok K j && (decide (kV K j 2 = 1) && decide (kV K j 7 = kG K 0))) = false) : f_hvT (n + 1) j K c = f_hvT n (j + 1) K c := if_neg (by rw [h]; decide)
def f_hour (K : kT) : kT × Nat := f_hvT 24 0 (f_clrT 10 0 (kPutG K 0 (kG K 0 + 1))) 0
set_option maxRecDepth 100000 in
set_option maxHeartbeats 4000000 in
theorem c_beginHour (hR : Rep Z K J w) : Ci l D dA B yX6_beginHour wX6_beginHour 9 [.ref (Z 0 0)] w (QM Z K w (nI (f_hour K).2) (f_hour K).1) := by
  refine x_Ct.of (cc := cX6_beginHour) (maxL := 5) (by decide) rfl (Nat.le_of_ble_eq_true rfl) ?_
  intro p e s m below meth c F
  have loop2 : ∀ n2 f, f + n2 = 4 → ∀ Kz c0 Jz wz, Rep Z Kz Jz wz → Oth Z K w wz → kN Kz = kN K → f_hour K = f_hvT (6 * n2) (6 * f) Kz c0 → X p l e (rmd 9 0 0) s m #[.ref (Z 0 0)] below meth c (MQ below (x_Q D dA vwCl tyL0 B (fun r w1 => ∃ v, r = some v ∧ (QM Z K w (nI (f_hour K).2) (f_hour K).1 v w1))) #[.ref (Z 0 0)] s 0 0 (fun q => B ≤ q)) D dA vwCl B 5 0 0 50 [(0, .ref (Z 0 0)), (1, .int (nI c0)), (2, .int (nI f))] [] wz := by
    intro n2
    induction n2 with
    | zero =>
      intro f hf1 Kz c0 Jz wz hR hO hN hf
      obtain rfl : f = 4 := by omega
      refine x_iload_n F dX6_beginHour_50 rfl rfl ?_
      refine x_iconst (v := 4) F dX6_beginHour_51 (by decide) ?_
      refine x_icmp_ge F dX6_beginHour_52 rfl (fun h52 => ?_) (fun hc => absurd hc (fun q => q (Int32.le_refl _)))
      refine x_iload_n F dX6_beginHour_124 rfl rfl ?_
      refine x_iret F rfl rfl dX6_beginHour_125 (Nat.le_refl _) (Nat.le_refl _) ?_
      exact ⟨_, rfl, Jz, by rw [hf]; rfl, by rw [hf]; exact hR, hO⟩
    | succ n2 ih2 =>
      intro f hf1 Kz c0 Jz wz hR hO hN hf
      have inner : ∀ n1 k, k + n1 = 6 → ∀ Kz c0 Jz wz, Rep Z Kz Jz wz → Oth Z K w wz → kN Kz = kN K → f_hour K = f_hvT (6 * n2 + n1) (6 * f + k) Kz c0 → X p l e (rmd 9 0 0) s m #[.ref (Z 0 0)] below meth c (MQ below (x_Q D dA vwCl tyL0 B (fun r w1 => ∃ v, r = some v ∧ (QM Z K w (nI (f_hour K).2) (f_hour K).1 v w1))) #[.ref (Z 0 0)] s 0 0 (fun q => B ≤ q)) D dA vwCl B 5 0 0 57 [(0, .ref (Z 0 0)), (1, .int (nI c0)), (2, .int (nI f)), (3, .int (nI k))] [] wz := by
        intro n1
        induction n1 with
        | zero =>
          intro k hk1 Kz c0 Jz wz hR hO hN hf
          obtain rfl : k = 6 := by omega
          refine x_iload_n F dX6_beginHour_57 rfl rfl ?_
          refine x_bipush (v := 6) F dX6_beginHour_58 (by decide) ?_
          refine x_icmp_ge F dX6_beginHour_60 rfl (fun h60 => ?_) (fun hc => absurd hc (fun q => q (Int32.le_refl _)))
          refine x_iincN F dX6_beginHour_118 (by decide) rfl (by decide) ?_
          refine x_goto F dX6_beginHour_121 rfl ?_
          exact x_lk (ih2 (f + 1) (by omega) _ _ _ _ hR hO hN hf) ⟨rfl, rfl, rfl, trivial⟩
        | succ n1 ih =>
          intro k hk1 Kz c0 Jz wz hR hO hN hf
          refine x_iload_n F dX6_beginHour_57 rfl rfl ?_
          refine x_bipush (v := 6) F dX6_beginHour_58 (by decide) ?_
          refine x_icmp_ge F dX6_beginHour_60 rfl (fun hc => absurd hc (nI_ge (b := 6) (by omega) (by decide))) (fun h60 => ?_)
          refine x_aload_n F dX6_beginHour_63 rfl rfl ?_
          refine x_iload_n F dX6_beginHour_64 rfl rfl ?_
          refine x_iload_n F dX6_beginHour_65 rfl rfl ?_
          refine x_cVi2 (ci := 6) (C := RX6) (T := TX6) (N := 12) F dX6_beginHour_66 (x_gV q177 q178 q449 q1 q179) rfl (c_versionAt hR (nI f) (nI k)) ⟨rfl, rfl, rfl, xd_X6_versionAt, ⟨Nat.le_of_ble_eq_true rfl, Nat.le_of_ble_eq_true rfl⟩, Nat.le_of_ble_eq_true rfl, Nat.le_of_ble_eq_true rfl⟩ rfl hR.main (Nat.le_of_ble_eq_true rfl) (fun v1 w1 hp => ?_)
          obtain ⟨rfl, hw9⟩ := hp
          replace hw9 := hw9.symm
          subst hw9
          rw [f_verAt_nI hR (by omega) (by omega)]
          by_cases hv : b_ok Kz (6 * f + k) = true
          · rw [if_pos hv]
            have hi := b_ok_iff.mp hv
            refine x_astore F dX6_beginHour_69 (by decide) ?_
            refine x_aload F dX6_beginHour_71 rfl ?_
            refine x_ifnull F dX6_beginHour_73 ?_
            refine x_aload F dX6_beginHour_76 rfl ?_
            refine x_get (ci := 5) (C := RX5) (T := TX5) (N := 9) (k := 5) F dX6_beginHour_78 rfl inX5 (by decide) q149 rfl (hR.ver hi) rfl ?_
            refine x_iconst (v := 1) F dX6_beginHour_81 (by decide) ?_
            refine x_icmp_ne F dX6_beginHour_82 rfl (fun h82 => ?_) (fun h82 => ?_)
            · rw [show 6 * n2 + (n1 + 1) = 6 * n2 + n1 + 1 from rfl, f_hvT_f (by rw [decide_eq_false h82, Bool.false_and, Bool.and_false])] at hf
              refine x_iincN F dX6_beginHour_112 (by decide) rfl (by decide) ?_
              refine x_goto F dX6_beginHour_115 rfl ?_
              exact x_lk (ih (k + 1) (by omega) _ _ _ _ hR hO hN hf) ⟨rfl, rfl, rfl, rfl, trivial⟩
            · refine x_aload F dX6_beginHour_85 rfl ?_
              refine x_get (ci := 5) (C := RX5) (T := TX5) (N := 9) (k := 4) F dX6_beginHour_87 rfl inX5 (by decide) q147 rfl (hR.ver hi) rfl ?_
              refine x_get (ci := 3) (C := RX3) (T := TX3) (N := 4) (k := 2) F dX6_beginHour_90 rfl inX3 (by decide) q58 rfl (hR.ret hi) rfl ?_
              refine x_aload_n F dX6_beginHour_93 rfl rfl ?_
              refine x_get (ci := 6) (C := RX6) (T := TX6) (N := 12) (k := 6) F dX6_beginHour_94 rfl inX6 (by decide) q71 rfl hR.main rfl ?_
              refine x_icmp_ne F dX6_beginHour_97 rfl (fun h97 => ?_) (fun h97 => ?_)
              · rw [show 6 * n2 + (n1 + 1) = 6 * n2 + n1 + 1 from rfl, f_hvT_f (by rw [decide_eq_false h97, Bool.and_false, Bool.and_false])] at hf
                refine x_iincN F dX6_beginHour_112 (by decide) rfl (by decide) ?_
                refine x_goto F dX6_beginHour_115 rfl ?_
                exact x_lk (ih (k + 1) (by omega) _ _ _ _ hR hO hN hf) ⟨rfl, rfl, rfl, rfl, trivial⟩
              · rw [show 6 * n2 + (n1 + 1) = 6 * n2 + n1 + 1 from rfl, f_hvT_t (by rw [hv, decide_eq_true h82, decide_eq_true h97]; rfl)] at hf
                refine x_aload_n F dX6_beginHour_100 rfl rfl ?_
                refine x_aload F dX6_beginHour_101 rfl ?_
                refine x_cVi1 (ci := 6) (C := RX6) (T := TX6) (N := 12) F dX6_beginHour_103 (x_gV q445 q446 q473 q1 q447) rfl (c_isGoneAtEnd hR hi) ⟨rfl, rfl, rfl, xd_X6_isGoneAtEnd, ⟨Nat.le_of_ble_eq_true rfl, Nat.le_of_ble_eq_true rfl⟩, Nat.le_of_ble_eq_true rfl, Nat.le_of_ble_eq_true rfl⟩ rfl hR.main (Nat.le_of_ble_eq_true rfl) (fun v1 w1 hp => ?_)
                obtain ⟨J2, rfl, hR, hO2⟩ := hp
                have hO := hO.trans hO2 hN
                have hN := (f_endK_N Kz (6 * f + k)).trans hN
                refine x_if_eq F dX6_beginHour_106 rfl (fun h106 => ?_) (fun h106 => ?_)
                · rw [if_neg (of_decide_eq_false (x_b_eq.mp h106)), Nat.add_zero] at hf
                  refine x_iincN F dX6_beginHour_112 (by decide) rfl (by decide) ?_
                  refine x_goto F dX6_beginHour_115 rfl ?_
                  exact x_lk (ih (k + 1) (by omega) _ _ _ _ hR hO hN hf) ⟨rfl, rfl, rfl, rfl, trivial⟩
                · rw [if_pos (of_decide_eq_true (x_b_ne.mp h106))] at hf
                  refine x_iincN F dX6_beginHour_109 (by decide) rfl (by decide) ?_
                  refine x_iincN F dX6_beginHour_112 (by decide) rfl (by decide) ?_
                  refine x_goto F dX6_beginHour_115 rfl ?_
                  exact x_lk (ih (k + 1) (by omega) _ _ _ _ hR hO hN hf) ⟨rfl, rfl, rfl, rfl, trivial⟩
          · rw [if_neg hv]
            rw [show 6 * n2 + (n1 + 1) = 6 * n2 + n1 + 1 from rfl, f_hvT_f (by rw [Bool.not_eq_true _ |>.mp hv]; rfl)] at hf
            refine x_astoreN F dX6_beginHour_69 (by decide) ?_
            refine x_aloadN F dX6_beginHour_71 rfl ?_
            refine x_ifnullN F dX6_beginHour_73 rfl ?_
            refine x_iincN F dX6_beginHour_112 (by decide) rfl (by decide) ?_
            refine x_goto F dX6_beginHour_115 rfl ?_
            exact x_lk (ih (k + 1) (by omega) _ _ _ _ hR hO hN hf) ⟨rfl, rfl, rfl, rfl, trivial⟩
      refine x_iload_n F dX6_beginHour_50 rfl rfl ?_
      refine x_iconst (v := 4) F dX6_beginHour_51 (by decide) ?_
      refine x_icmp_ge F dX6_beginHour_52 rfl (fun hc => absurd hc (nI_ge (b := 4) (by omega) (by decide))) (fun h52 => ?_)
      refine x_iconst (v := 0) F dX6_beginHour_55 (by decide) ?_
      refine x_istore_n F dX6_beginHour_56 rfl (by decide) ?_
      exact x_lk (inner 6 0 (by omega) _ _ _ _ hR hO hN hf) ⟨rfl, rfl, rfl, rfl, trivial⟩
  have loop1 : ∀ n1 k, k + n1 = 10 → ∀ Kz Jz wz, Rep Z Kz Jz wz → Oth Z K w wz → kN Kz = kN K → f_hour K = f_hvT 24 0 (f_clrT n1 k Kz) 0 → X p l e (rmd 9 0 0) s m #[.ref (Z 0 0)] below meth c (MQ below (x_Q D dA vwCl tyL0 B (fun r w1 => ∃ v, r = some v ∧ (QM Z K w (nI (f_hour K).2) (f_hour K).1 v w1))) #[.ref (Z 0 0)] s 0 0 (fun q => B ≤ q)) D dA vwCl B 5 0 0 12 [(0, .ref (Z 0 0)), (1, .int (nI k))] [] wz := by
    intro n1
    induction n1 with
    | zero =>
      intro k hk1 Kz Jz wz hR hO hN hf
      obtain rfl : k = 10 := by omega
      refine x_iload_n F dX6_beginHour_12 rfl rfl ?_
      refine x_aload_n F dX6_beginHour_13 rfl rfl ?_
      refine x_get (ci := 6) (C := RX6) (T := TX6) (N := 12) (k := 1) F dX6_beginHour_14 rfl inX6 (by decide) q66 rfl hR.main rfl ?_
      refine x_alen (v := 10) F dX6_beginHour_17 rfl hR.clients rfl ?_
      refine x_icmp_ge F dX6_beginHour_18 rfl (fun h18 => ?_) (fun hc => absurd hc (fun q => q (Int32.le_refl _)))
      refine x_iconst (v := 0) F dX6_beginHour_46 (by decide) ?_
      refine x_istore_n F dX6_beginHour_47 rfl (by decide) ?_
      refine x_iconst (v := 0) F dX6_beginHour_48 (by decide) ?_
      refine x_istore_n F dX6_beginHour_49 rfl (by decide) ?_
      exact x_lk (loop2 4 0 (by omega) _ 0 _ _ hR hO hN hf) ⟨rfl, rfl, rfl, trivial⟩
    | succ n1 ih =>
      intro k hk1 Kz Jz wz hR hO hN hf
      refine x_iload_n F dX6_beginHour_12 rfl rfl ?_
      refine x_aload_n F dX6_beginHour_13 rfl rfl ?_
      refine x_get (ci := 6) (C := RX6) (T := TX6) (N := 12) (k := 1) F dX6_beginHour_14 rfl inX6 (by decide) q66 rfl hR.main rfl ?_
      refine x_alen (v := 10) F dX6_beginHour_17 rfl hR.clients rfl ?_
      refine x_icmp_ge F dX6_beginHour_18 rfl (fun hc => absurd hc (nI_ge (b := 10) (by omega) (by decide))) (fun h18 => ?_)
      refine x_aload_n F dX6_beginHour_21 rfl rfl ?_
      refine x_get (ci := 6) (C := RX6) (T := TX6) (N := 12) (k := 1) F dX6_beginHour_22 rfl inX6 (by decide) q66 rfl hR.main rfl ?_
      refine x_iload_n F dX6_beginHour_25 rfl rfl ?_
      refine x_aaldN F dX6_beginHour_26 rfl hR.clients (by omega) (by decide) ?_
      by_cases hk2 : k < nc Kz
      · simp only [if_pos hk2]
        simp only [f_clrT, if_pos hk2] at hf
        refine x_astore_n F dX6_beginHour_27 rfl (by decide) ?_
        refine x_aload_n F dX6_beginHour_28 rfl rfl ?_
        refine x_ifnull F dX6_beginHour_29 ?_
        refine x_aload_n F dX6_beginHour_32 rfl rfl ?_
        refine x_get (ci := 1) (C := RX1) (T := TX1) (N := 8) (k := 3) F dX6_beginHour_33 rfl inX1 (by decide) q251 rfl (hR.cli hk2) rfl ?_
        refine x_iconst (v := 0) F dX6_beginHour_36 (by decide) ?_
        refine x_cSv2 F dX6_beginHour_37 (x_gS q444 q52 q4 q53) (c_fill (by decide) (hR.csv hk2) 0) ⟨rfl, rfl, rfl, xd_J7_fill_53178, ⟨Nat.le_of_ble_eq_true rfl, Nat.le_of_ble_eq_true rfl⟩, Nat.le_of_ble_eq_true rfl, Nat.le_of_ble_eq_true rfl⟩ (Nat.le_of_ble_eq_true rfl) (fun w1 hp => ?_)
        have hO : Oth Z K w w1 := hO.trans (by rw [hp]; exact Oth.set (K := Kz) (kind := 15) (idx := k) hk2 _) hN
        have hR : Rep Z (kPutCS Kz k (f_fill 6 0 (kCS Kz k))) Jz w1 := by rw [hp]; exact hR.putCS hk2 (f_fill 6 0 (kCS Kz k))
        refine x_iincN F dX6_beginHour_40 (by decide) rfl (by decide) ?_
        refine x_goto F dX6_beginHour_43 rfl ?_
        exact x_lk (ih (k + 1) (by omega) _ _ _ hR hO (by exact hN) hf) ⟨rfl, rfl, trivial⟩
      · simp only [if_neg hk2]
        simp only [f_clrT, if_neg hk2] at hf
        refine x_astore_nN F dX6_beginHour_27 rfl (by decide) ?_
        refine x_aload_nN F dX6_beginHour_28 rfl rfl ?_
        refine x_ifnullN F dX6_beginHour_29 rfl ?_
        refine x_iincN F dX6_beginHour_40 (by decide) rfl (by decide) ?_
        refine x_goto F dX6_beginHour_43 rfl ?_
        exact x_lk (ih (k + 1) (by omega) _ _ _ hR hO (by exact hN) hf) ⟨rfl, rfl, trivial⟩
  have hO : Oth Z K w w := Oth.rfl
  refine x_aload_n F dX6_beginHour_0 rfl rfl ?_
  refine x_dup F dX6_beginHour_1 rfl ?_
  refine x_get (ci := 6) (C := RX6) (T := TX6) (N := 12) (k := 6) F dX6_beginHour_2 rfl inX6 (by decide) q71 rfl hR.main rfl ?_
  refine x_iconst (v := 1) F dX6_beginHour_5 (by decide) ?_
  refine x_iadd F dX6_beginHour_6 ?_
  refine x_put (ci := 6) (C := RX6) (T := TX6) (N := 12) (k := 6) F dX6_beginHour_7 rfl inX6 tyX6 tyX6_ok nmX6 (by decide) q71 rfl rfl hR.main (Nat.le_of_ble_eq_true rfl) rfl rfl ?_
  refine x_wd (fun w1 hw1 => ?_)
  have hO : Oth Z K w w1 := hO.trans (by rw [hw1]; exact Oth.set (kind := 0) (idx := 0) rfl _) rfl
  have hR : Rep Z (kPutG K 0 (kG K 0 + 1)) J w1 := by rw [hw1]; exact hR.putG 0 _ (by first | (simp [obj, kV_put, kC_put, kG_put, kCV_put, kC_ofCV, kV_ofCV, kCV_ofC, kCV_ofV]; done) | (simp [obj, kV_put, kC_put, kG_put, kCV_put, kC_ofCV, kV_ofCV, kCV_ofC, kCV_ofV]; exact ⟨rfl, rfl⟩) | (simp [obj, kV_put, kC_put, kG_put, kCV_put, kC_ofCV, kV_ofCV, kCV_ofC, kCV_ofV]; rfl) | (simp [obj, kV_put, kC_put, kG_put, kCV_put, kC_ofCV, kV_ofCV, kCV_ofC, kCV_ofV]; and_intros <;> rfl))
  refine x_iconst (v := 0) F dX6_beginHour_10 (by decide) ?_
  refine x_istore_n F dX6_beginHour_11 rfl (by decide) ?_
  exact x_lk (loop1 10 0 (by omega) _ J w1 hR hO rfl rfl) ⟨rfl, rfl, trivial⟩
set_option maxRecDepth 100000 in
set_option maxHeartbeats 4000000 in
theorem c_pass1 (hR : Rep Z K J w) : Ci l D dA B yX6_pass wX6_pass 10 [.ref (Z 0 0), .int 1] w (QM Z K w (nI (f_hour K).2) (f_hour K).1) := by
  refine x_Ct.of (cc := cX6_pass) (maxL := 4) (by decide) rfl (Nat.le_of_ble_eq_true rfl) ?_
  intro p e s m below meth c F
  refine x_iload_n F dX6_pass_0 rfl rfl ?_
  refine x_iconst (v := 1) F dX6_pass_1 (by decide) ?_
  refine x_icmp_lt F dX6_pass_2 rfl (fun hc => absurd hc (by decide)) (fun _ => ?_)
  refine x_iload_n F dX6_pass_5 rfl rfl ?_
  refine x_bipush (v := 100) F dX6_pass_6 (by decide) ?_
  refine x_icmp_le F dX6_pass_8 rfl (fun _ => ?_) (fun hc => absurd hc (by decide))
  refine x_iconst (v := 0) F dX6_pass_21 (by decide) ?_
  refine x_istore_n F dX6_pass_22 rfl (by decide) ?_
  refine x_iconst (v := 0) F dX6_pass_23 (by decide) ?_
  refine x_istore_n F dX6_pass_24 rfl (by decide) ?_
  refine x_iload_n F dX6_pass_25 rfl rfl ?_
  refine x_iload_n F dX6_pass_26 rfl rfl ?_
  refine x_icmp_ge F dX6_pass_27 rfl (fun hc => absurd hc (by decide)) (fun _ => ?_)
  refine x_iload_n F dX6_pass_30 rfl rfl ?_
  refine x_aload_n F dX6_pass_31 rfl rfl ?_
  refine x_cVi0 (ci := 6) (C := RX6) (T := TX6) (N := 12) F dX6_pass_32 (x_gV q441 q442 q472 q1 q443) rfl (c_beginHour hR) ⟨rfl, rfl, rfl, xd_X6_beginHour, ⟨Nat.le_of_ble_eq_true rfl, Nat.le_of_ble_eq_true rfl⟩, Nat.le_of_ble_eq_true rfl, Nat.le_of_ble_eq_true rfl⟩ rfl hR.main (Nat.le_of_ble_eq_true rfl) (fun v1 w1 hp => ?_)
  obtain ⟨J2, rfl, hR, hO⟩ := hp
  refine x_iadd F dX6_pass_35 ?_
  refine x_istore_n F dX6_pass_36 rfl (by decide) ?_
  refine x_iinc (v := 1) F dX6_pass_37 (by decide) rfl (by decide) ?_
  refine x_goto F dX6_pass_40 rfl ?_
  refine x_iload_n F dX6_pass_25 rfl rfl ?_
  refine x_iload_n F dX6_pass_26 rfl rfl ?_
  refine x_icmp_ge F dX6_pass_27 rfl (fun _ => ?_) (fun hc => absurd hc (by decide))
  refine x_iload_n F dX6_pass_43 rfl rfl ?_
  refine x_iret F rfl rfl dX6_pass_44 (Nat.le_refl _) (Nat.le_refl _) ?_
  exact ⟨_, rfl, J2, congrArg Value.int (Int32.zero_add _), hR, hO⟩
end HRS
end
section
/-! ===== constructors ===== -/
section CTR
variable {l : Launch} {D : va_G} {dA : Nat → ClassId} {B : Nat} {w : xW}
set_option maxRecDepth 100000 in
set_option maxHeartbeats 4000000 in
theorem c_ret_init {r : Nat} (h_r : w r = some (.inr (3, [.null, .int 0, .int 0, .int 0]))) : x_Cv l D dA vwCl tyL0 B yX3_init wX3_init (rmd 1 1 5) [.ref r] w (fun w1 => ∃ ka, w ka = none ∧ w1 r = some (oRet ka (-1) (-1) 0) ∧ w1 ka = some (aI 5 (f_fill 5 (-1) (fun _ => 0))) ∧ ∀ b, ¬ b = r → ¬ b = ka → w1 b = w b) 1 5 := by
  refine x_Ct.of (cc := cX3_init) (maxL := 1) (by decide) rfl (Nat.le_of_ble_eq_true rfl) ?_
  intro p e s m below meth c F
  refine x_aload_n F dX3_init_0 rfl rfl ?_
  refine x_objInit F dX3_init_1 q50 q23 q24 (Nat.le_of_ble_eq_true rfl) (Nat.le_of_ble_eq_true rfl) ?_
  have hf : ∀ b, ¬ b = r → w b = w b := fun b _ => rfl
  refine x_aload_n F dX3_init_4 rfl rfl ?_
  refine x_iconst (v := 5) F dX3_init_5 (by decide) ?_
  refine x_newa (t := 0) (N := 5) F dX3_init_6 rfl q44 (by decide) rfl (Nat.le_of_ble_eq_true rfl) (Nat.le_of_ble_eq_true rfl) (Nat.le_of_ble_eq_true rfl) (fun ka hka => ?_)
  refine x_wd (fun w1 hw1 => ?_)
  have ne_r_k : ¬ r = ka := fun e => by rw [e, hka] at h_r; cases h_r
  have fr_k : w ka = none := by rw [← hf ka (fun e => ne_r_k e.symm)]; exact hka
  have h_r : w1 r = some (.inr (3, [.null, .int 0, .int 0, .int 0])) := by rw [hw1, x_set_ne _ _ ne_r_k]; exact h_r
  have h_k : w1 ka = some (aI 5 (fun _ => 0)) := by rw [hw1]; exact x_set_eq _ _ _
  have hf : ∀ b, ¬ b = r → ¬ b = ka → w1 b = w b := fun b g0 g1 => by rw [hw1]; exact (x_set_ne _ _ g1).trans (hf b g0)
  refine x_putF (ci := 3) (C := RX3) (T := TX3) (N := 4) (k := 0) F dX3_init_8 rfl inX3 tyX3 tyX3_ok nmX3 (by decide) q54 rfl rfl rfl rfl h_r (Nat.le_of_ble_eq_true rfl) rfl rfl ?_
  refine x_wd (fun w2 hw2 => ?_)
  have h_r : w2 r = some (.inr (3, [.ref ka, .int 0, .int 0, .int 0])) := by rw [hw2]; exact x_set_eq _ _ _
  have h_k : w2 ka = some (aI 5 (fun _ => 0)) := by rw [hw2, x_set_ne _ _ (fun e => ne_r_k e.symm)]; exact h_k
  have hf : ∀ b, ¬ b = r → ¬ b = ka → w2 b = w b := fun b g0 g1 => by rw [hw2]; exact (x_set_ne _ _ g0).trans (hf b g0 g1)
  refine x_aload_n F dX3_init_11 rfl rfl ?_
  refine x_iconst (v := (-1)) F dX3_init_12 (by decide) ?_
  refine x_put (ci := 3) (C := RX3) (T := TX3) (N := 4) (k := 1) F dX3_init_13 rfl inX3 tyX3 tyX3_ok nmX3 (by decide) q55 rfl rfl h_r (Nat.le_of_ble_eq_true rfl) rfl rfl ?_
  refine x_wd (fun w3 hw3 => ?_)
  have h_r : w3 r = some (.inr (3, [.ref ka, .int (-1), .int 0, .int 0])) := by rw [hw3]; exact x_set_eq _ _ _
  have h_k : w3 ka = some (aI 5 (fun _ => 0)) := by rw [hw3, x_set_ne _ _ (fun e => ne_r_k e.symm)]; exact h_k
  have hf : ∀ b, ¬ b = r → ¬ b = ka → w3 b = w b := fun b g0 g1 => by rw [hw3]; exact (x_set_ne _ _ g0).trans (hf b g0 g1)
  refine x_aload_n F dX3_init_16 rfl rfl ?_
  refine x_iconst (v := (-1)) F dX3_init_17 (by decide) ?_
  refine x_put (ci := 3) (C := RX3) (T := TX3) (N := 4) (k := 2) F dX3_init_18 rfl inX3 tyX3 tyX3_ok nmX3 (by decide) q57 rfl rfl h_r (Nat.le_of_ble_eq_true rfl) rfl rfl ?_
  refine x_wd (fun w4 hw4 => ?_)
  have h_r : w4 r = some (.inr (3, [.ref ka, .int (-1), .int (-1), .int 0])) := by rw [hw4]; exact x_set_eq _ _ _
  have h_k : w4 ka = some (aI 5 (fun _ => 0)) := by rw [hw4, x_set_ne _ _ (fun e => ne_r_k e.symm)]; exact h_k
  have hf : ∀ b, ¬ b = r → ¬ b = ka → w4 b = w b := fun b g0 g1 => by rw [hw4]; exact (x_set_ne _ _ g0).trans (hf b g0 g1)
  refine x_aload_n F dX3_init_21 rfl rfl ?_
  refine x_get (ci := 3) (C := RX3) (T := TX3) (N := 4) (k := 0) F dX3_init_22 rfl inX3 (by decide) q54 rfl h_r rfl ?_
  refine x_iconst (v := (-1)) F dX3_init_25 (by decide) ?_
  refine x_cSv2 F dX3_init_26 (x_gS q51 q52 q4 q53) (c_fill (by decide) h_k (-1)) ⟨rfl, rfl, rfl, xd_J7_fill_53178, ⟨Nat.le_of_ble_eq_true rfl, Nat.le_of_ble_eq_true rfl⟩, Nat.le_of_ble_eq_true rfl, Nat.le_of_ble_eq_true rfl⟩ (Nat.le_of_ble_eq_true rfl) (fun w1 hp => ?_)
  obtain ⟨w5, hw5⟩ : ∃ w5, w5 = w1 := ⟨_, rfl⟩
  rw [← hw5]
  rw [hp] at hw5
  have h_r : w5 r = some (.inr (3, [.ref ka, .int (-1), .int (-1), .int 0])) := by rw [hw5, x_set_ne _ _ ne_r_k]; exact h_r
  have h_k : w5 ka = some (aI 5 (f_fill 5 (-1) (fun _ => 0))) := by rw [hw5]; exact x_set_eq _ _ _
  have hf : ∀ b, ¬ b = r → ¬ b = ka → w5 b = w b := fun b g0 g1 => by rw [hw5]; exact (x_set_ne _ _ g1).trans (hf b g0 g1)
  refine x_vret F rfl dX3_init_29 (Nat.le_refl _) (Nat.le_refl _) ?_
  exact ⟨rfl, ka, fr_k, h_r, h_k, hf⟩
set_option maxRecDepth 100000 in
set_option maxHeartbeats 4000000 in
theorem c_rou_init {r : Nat} (h_r : w r = some (.inr (4, [.null, .int 0, .int 0, .int 0, .null]))) : x_Cv l D dA vwCl tyL0 B yX4_init wX4_init (rmd 1 1 3) [.ref r] w (fun w1 => ∃ ka, w ka = none ∧ w1 r = some (oRou ka 0 0 0 none) ∧ w1 ka = some (aI 3 (fun _ => 0)) ∧ ∀ b, ¬ b = r → ¬ b = ka → w1 b = w b) 1 3 := by
  refine x_Ct.of (cc := cX4_init) (maxL := 1) (by decide) rfl (Nat.le_of_ble_eq_true rfl) ?_
  intro p e s m below meth c F
  refine x_aload_n F dX4_init_0 rfl rfl ?_
  refine x_objInit F dX4_init_1 q32 q23 q24 (Nat.le_of_ble_eq_true rfl) (Nat.le_of_ble_eq_true rfl) ?_
  have hf : ∀ b, ¬ b = r → w b = w b := fun b _ => rfl
  refine x_aload_n F dX4_init_4 rfl rfl ?_
  refine x_iconst (v := 3) F dX4_init_5 (by decide) ?_
  refine x_newa (t := 0) (N := 3) F dX4_init_6 rfl q44 (by decide) rfl (Nat.le_of_ble_eq_true rfl) (Nat.le_of_ble_eq_true rfl) (Nat.le_of_ble_eq_true rfl) (fun ka hka => ?_)
  refine x_wd (fun w1 hw1 => ?_)
  have ne_r_k : ¬ r = ka := fun e => by rw [e, hka] at h_r; cases h_r
  have fr_k : w ka = none := by rw [← hf ka (fun e => ne_r_k e.symm)]; exact hka
  have h_r : w1 r = some (.inr (4, [.null, .int 0, .int 0, .int 0, .null])) := by rw [hw1, x_set_ne _ _ ne_r_k]; exact h_r
  have h_k : w1 ka = some (aI 3 (fun _ => 0)) := by rw [hw1]; exact x_set_eq _ _ _
  have hf : ∀ b, ¬ b = r → ¬ b = ka → w1 b = w b := fun b g0 g1 => by rw [hw1]; exact (x_set_ne _ _ g1).trans (hf b g0)
  refine x_putF (ci := 4) (C := RX4) (T := TX4) (N := 5) (k := 0) F dX4_init_8 rfl inX4 tyX4 tyX4_ok nmX4 (by decide) q33 rfl rfl rfl rfl h_r (Nat.le_of_ble_eq_true rfl) rfl rfl ?_
  refine x_wd (fun w2 hw2 => ?_)
  have h_r : w2 r = some (.inr (4, [.ref ka, .int 0, .int 0, .int 0, .null])) := by rw [hw2]; exact x_set_eq _ _ _
  have h_k : w2 ka = some (aI 3 (fun _ => 0)) := by rw [hw2, x_set_ne _ _ (fun e => ne_r_k e.symm)]; exact h_k
  have hf : ∀ b, ¬ b = r → ¬ b = ka → w2 b = w b := fun b g0 g1 => by rw [hw2]; exact (x_set_ne _ _ g0).trans (hf b g0 g1)
  refine x_vret F rfl dX4_init_11 (Nat.le_refl _) (Nat.le_refl _) ?_
  exact ⟨rfl, ka, fr_k, h_r, h_k, hf⟩
set_option maxRecDepth 100000 in
set_option maxHeartbeats 4000000 in
theorem c_face_init {r : Nat} (h_r : w r = some (.inr (2, [.int 0, .null, .int 0]))) (n : Int32) : x_Cv l D dA vwCl tyL0 B yX2_init wX2_init (rmd 1 1 6) [.ref r, .int n] w (fun w1 => ∃ ka, w ka = none ∧ w1 r = some (.inr (2, [.int n, .ref ka, .int 0])) ∧ w1 ka = some (aV 6 (fun _ => none)) ∧ ∀ b, ¬ b = r → ¬ b = ka → w1 b = w b) 1 6 := by
  refine x_Ct.of (cc := cX2_init) (maxL := 2) (by decide) rfl (Nat.le_of_ble_eq_true rfl) ?_
  intro p e s m below meth c F
  refine x_aload_n F dX2_init_0 rfl rfl ?_
  refine x_objInit F dX2_init_1 q101 q23 q24 (Nat.le_of_ble_eq_true rfl) (Nat.le_of_ble_eq_true rfl) ?_
  have hf : ∀ b, ¬ b = r → w b = w b := fun b _ => rfl
  refine x_aload_n F dX2_init_4 rfl rfl ?_
  refine x_bipush (v := 6) F dX2_init_5 (by decide) ?_
  refine x_newq (t := 4) (N := 6) (C := RX5) F dX2_init_7 rfl q102 (x5 (x_Fix.xt F)) (by decide) rfl (Nat.le_of_ble_eq_true rfl) (Nat.le_of_ble_eq_true rfl) (Nat.le_of_ble_eq_true rfl) (fun ka hka => ?_)
  refine x_wd (fun w1 hw1 => ?_)
  have ne_r_k : ¬ r = ka := fun e => by rw [e, hka] at h_r; cases h_r
  have fr_k : w ka = none := by rw [← hf ka (fun e => ne_r_k e.symm)]; exact hka
  have h_r : w1 r = some (.inr (2, [.int 0, .null, .int 0])) := by rw [hw1, x_set_ne _ _ ne_r_k]; exact h_r
  have h_k : w1 ka = some (aV 6 (fun _ => none)) := by rw [hw1]; exact x_set_eq _ _ _
  have hf : ∀ b, ¬ b = r → ¬ b = ka → w1 b = w b := fun b g0 g1 => by rw [hw1]; exact (x_set_ne _ _ g1).trans (hf b g0)
  refine x_putF (ci := 2) (C := RX2) (T := TX2) (N := 3) (k := 1) F dX2_init_10 rfl inX2 tyX2 tyX2_ok nmX2 (by decide) q105 rfl rfl rfl rfl h_r (Nat.le_of_ble_eq_true rfl) rfl rfl ?_
  refine x_wd (fun w2 hw2 => ?_)
  have h_r : w2 r = some (.inr (2, [.int 0, .ref ka, .int 0])) := by rw [hw2]; exact x_set_eq _ _ _
  have h_k : w2 ka = some (aV 6 (fun _ => none)) := by rw [hw2, x_set_ne _ _ (fun e => ne_r_k e.symm)]; exact h_k
  have hf : ∀ b, ¬ b = r → ¬ b = ka → w2 b = w b := fun b g0 g1 => by rw [hw2]; exact (x_set_ne _ _ g0).trans (hf b g0 g1)
  refine x_aload_n F dX2_init_13 rfl rfl ?_
  refine x_iload_n F dX2_init_14 rfl rfl ?_
  refine x_putF (ci := 2) (C := RX2) (T := TX2) (N := 3) (k := 0) F dX2_init_15 rfl inX2 tyX2 tyX2_ok nmX2 (by decide) q103 rfl rfl rfl rfl h_r (Nat.le_of_ble_eq_true rfl) rfl rfl ?_
  refine x_wd (fun w3 hw3 => ?_)
  have h_r : w3 r = some (.inr (2, [.int n, .ref ka, .int 0])) := by rw [hw3]; exact x_set_eq _ _ _
  have h_k : w3 ka = some (aV 6 (fun _ => none)) := by rw [hw3, x_set_ne _ _ (fun e => ne_r_k e.symm)]; exact h_k
  have hf : ∀ b, ¬ b = r → ¬ b = ka → w3 b = w b := fun b g0 g1 => by rw [hw3]; exact (x_set_ne _ _ g0).trans (hf b g0 g1)
  refine x_vret F rfl dX2_init_18 (Nat.le_refl _) (Nat.le_refl _) ?_
  exact ⟨rfl, ka, fr_k, h_r, h_k, hf⟩
set_option maxRecDepth 100000 in
set_option maxHeartbeats 4000000 in
theorem c_ada_init {r : Nat} (h_r : w r = some (.inr (0, [.null, .null, .int 0, .int 0]))) (x y : Nat) (u v : Int32) : Cv l D dA B yX0_init wX0_init 1 [.ref r, .ref x, .ref y, .int u, .int v] w (fun w1 => w1 r = some (.inr (0, [.ref x, .ref y, .int u, .int v])) ∧ ∀ b, ¬ b = r → w1 b = w b) := by
  refine x_Ct.of (cc := cX0_init) (maxL := 5) (by decide) rfl (Nat.le_of_ble_eq_true rfl) ?_
  intro p e s m below meth c F
  refine x_aload_n F dX0_init_0 rfl rfl ?_
  refine x_objInit F dX0_init_1 q287 q23 q24 (Nat.le_of_ble_eq_true rfl) (Nat.le_of_ble_eq_true rfl) ?_
  have hf : ∀ b, ¬ b = r → w b = w b := fun b _ => rfl
  refine x_aload_n F dX0_init_4 rfl rfl ?_
  refine x_aload_n F dX0_init_5 rfl rfl ?_
  refine x_putF (ci := 0) (C := RX0) (T := TX0) (N := 4) (k := 0) F dX0_init_6 rfl inX0 tyX0 tyX0_ok nmX0 (by decide) q288 rfl rfl rfl rfl h_r (Nat.le_of_ble_eq_true rfl) rfl rfl ?_
  refine x_wd (fun w2 hw2 => ?_)
  have h_r : w2 r = some (.inr (0, [.ref x, .null, .int 0, .int 0])) := by rw [hw2]; exact x_set_eq _ _ _
  have hf : ∀ b, ¬ b = r → w2 b = w b := fun b g0 => by rw [hw2]; exact (x_set_ne _ _ g0).trans (hf b g0)
  refine x_aload_n F dX0_init_9 rfl rfl ?_
  refine x_aload_n F dX0_init_10 rfl rfl ?_
  refine x_putF (ci := 0) (C := RX0) (T := TX0) (N := 4) (k := 1) F dX0_init_11 rfl inX0 tyX0 tyX0_ok nmX0 (by decide) q290 rfl rfl rfl rfl h_r (Nat.le_of_ble_eq_true rfl) rfl rfl ?_
  refine x_wd (fun w3 hw3 => ?_)
  have h_r : w3 r = some (.inr (0, [.ref x, .ref y, .int 0, .int 0])) := by rw [hw3]; exact x_set_eq _ _ _
  have hf : ∀ b, ¬ b = r → w3 b = w b := fun b g0 => by rw [hw3]; exact (x_set_ne _ _ g0).trans (hf b g0)
  refine x_aload_n F dX0_init_14 rfl rfl ?_
  refine x_iload_n F dX0_init_15 rfl rfl ?_
  refine x_putF (ci := 0) (C := RX0) (T := TX0) (N := 4) (k := 2) F dX0_init_16 rfl inX0 tyX0 tyX0_ok nmX0 (by decide) q292 rfl rfl rfl rfl h_r (Nat.le_of_ble_eq_true rfl) rfl rfl ?_
  refine x_wd (fun w4 hw4 => ?_)
  have h_r : w4 r = some (.inr (0, [.ref x, .ref y, .int u, .int 0])) := by rw [hw4]; exact x_set_eq _ _ _
  have hf : ∀ b, ¬ b = r → w4 b = w b := fun b g0 => by rw [hw4]; exact (x_set_ne _ _ g0).trans (hf b g0)
  refine x_aload_n F dX0_init_19 rfl rfl ?_
  refine x_iload F dX0_init_20 rfl ?_
  refine x_putF (ci := 0) (C := RX0) (T := TX0) (N := 4) (k := 3) F dX0_init_22 rfl inX0 tyX0 tyX0_ok nmX0 (by decide) q293 rfl rfl rfl rfl h_r (Nat.le_of_ble_eq_true rfl) rfl rfl ?_
  refine x_wd (fun w5 hw5 => ?_)
  have h_r : w5 r = some (.inr (0, [.ref x, .ref y, .int u, .int v])) := by rw [hw5]; exact x_set_eq _ _ _
  have hf : ∀ b, ¬ b = r → w5 b = w b := fun b g0 => by rw [hw5]; exact (x_set_ne _ _ g0).trans (hf b g0)
  refine x_vret F rfl dX0_init_25 (Nat.le_refl _) (Nat.le_refl _) ?_
  exact ⟨rfl, h_r, hf⟩
set_option maxRecDepth 100000 in
set_option maxHeartbeats 4000000 in
theorem c_ver_init {r : Nat} (h_r : w r = some (.inr (5, [.null, .int 0, .int 0, .int 0, .null, .int 0, .int 0, .int 0, .int 0]))) (fa : Nat) (n h q : Int32) : x_Cv l D dA vwCl tyL0 B yX5_init wX5_init (rmd 2 2 9) [.ref r, .ref fa, .int n, .int h, .int q] w (fun w1 => ∃ ra ka, w ra = none ∧ w ka = none ∧ ¬ ra = ka ∧ w1 r = some (oVer fa n h q ra 0 0 0 0) ∧ w1 ra = some (oRet ka (-1) (-1) 0) ∧ w1 ka = some (aI 5 (f_fill 5 (-1) (fun _ => 0))) ∧ ∀ b, ¬ b = r → ¬ b = ra → ¬ b = ka → w1 b = w b) 2 9 := by
  refine x_Ct.of (cc := cX5_init) (maxL := 5) (by decide) rfl (Nat.le_of_ble_eq_true rfl) ?_
  intro p e s m below meth c F
  refine x_aload_n F dX5_init_0 rfl rfl ?_
  refine x_objInit F dX5_init_1 q133 q23 q24 (Nat.le_of_ble_eq_true rfl) (Nat.le_of_ble_eq_true rfl) ?_
  have hf : ∀ b, ¬ b = r → w b = w b := fun b _ => rfl
  refine x_aload_n F dX5_init_4 rfl rfl ?_
  refine x_new (ci := 3) (C := RX3) (T := TX3) (N := 4) (fs := [.null, .int 0, .int 0, .int 0]) F dX5_init_5 rfl inX3 tyX3 tyX3_ok q134 q46 q3 (fun j hj => by rcases (show j = 0 ∨ j = 1 ∨ j = 2 ∨ j = 3 by omega) with rfl | rfl | rfl | rfl <;> rfl) (Nat.le_of_ble_eq_true rfl) (Nat.le_of_ble_eq_true rfl) (fun ra hra => ?_)
  refine x_wd (fun w1 hw1 => ?_)
  have ne_r_m : ¬ r = ra := fun e => by rw [e, hra] at h_r; cases h_r
  have fr_m : w ra = none := by rw [← hf ra (fun e => ne_r_m e.symm)]; exact hra
  have h_r : w1 r = some (.inr (5, [.null, .int 0, .int 0, .int 0, .null, .int 0, .int 0, .int 0, .int 0])) := by rw [hw1, x_set_ne _ _ ne_r_m]; exact h_r
  have h_m : w1 ra = some (.inr (3, [.null, .int 0, .int 0, .int 0])) := by rw [hw1]; exact x_set_eq _ _ _
  have hf : ∀ b, ¬ b = r → ¬ b = ra → w1 b = w b := fun b g0 g1 => by rw [hw1]; exact (x_set_ne _ _ g1).trans (hf b g0)
  refine x_dup F dX5_init_8 rfl ?_
  have h_m1 := h_m
  refine x_cI0 F dX5_init_9 (x_gI q49) q3 q135 q48 rfl (c_ret_init h_m) ⟨rfl, rfl, rfl, xd_X3_init, ⟨Nat.le_of_ble_eq_true rfl, Nat.le_of_ble_eq_true rfl⟩, Nat.le_of_ble_eq_true rfl, Nat.le_of_ble_eq_true rfl⟩ (Nat.le_of_ble_eq_true rfl) (fun w1 hp => ?_)
  obtain ⟨ka, fk, h_m, h_k, hf2⟩ := hp
  have ne_r_m2 := ne_r_m
  have ne_r_k : ¬ r = ka := fun e => by rw [e, fk] at h_r; cases h_r
  have ne_m_k : ¬ ra = ka := fun e => by rw [e] at h_m1; rw [fk] at h_m1; cases h_m1
  have h_r : w1 r = some (.inr (5, [.null, .int 0, .int 0, .int 0, .null, .int 0, .int 0, .int 0, .int 0])) := by rw [hf2 r ne_r_m ne_r_k]; exact h_r
  have fr_k : w ka = none := by rw [← hf ka (fun e => ne_r_k e.symm) (fun e => ne_m_k e.symm)]; exact fk
  have hf : ∀ b, ¬ b = r → ¬ b = ra → ¬ b = ka → w1 b = w b := fun b g0 g1 g2 => by rw [hf2 b g1 g2]; exact hf b g0 g1
  refine x_putF (ci := 5) (C := RX5) (T := TX5) (N := 9) (k := 4) F dX5_init_12 rfl inX5 tyX5 tyX5_ok nmX5 (by decide) q146 rfl rfl rfl rfl h_r (Nat.le_of_ble_eq_true rfl) rfl rfl ?_
  refine x_wd (fun w3 hw3 => ?_)
  have h_r : w3 r = some (.inr (5, [.null, .int 0, .int 0, .int 0, .ref ra, .int 0, .int 0, .int 0, .int 0])) := by rw [hw3]; exact x_set_eq _ _ _
  have h_m : w3 ra = some (oRet ka (-1) (-1) 0) := by rw [hw3, x_set_ne _ _ (fun e => ne_r_m e.symm)]; exact h_m
  have h_k : w3 ka = some (aI 5 (f_fill 5 (-1) (fun _ => 0))) := by rw [hw3, x_set_ne _ _ (fun e => ne_r_k e.symm)]; exact h_k
  have hf : ∀ b, ¬ b = r → ¬ b = ra → ¬ b = ka → w3 b = w b := fun b g0 g1 g2 => by rw [hw3]; exact (x_set_ne _ _ g0).trans (hf b g0 g1 g2)
  refine x_aload_n F dX5_init_15 rfl rfl ?_
  refine x_iconst (v := 0) F dX5_init_16 (by decide) ?_
  refine x_put (ci := 5) (C := RX5) (T := TX5) (N := 9) (k := 5) F dX5_init_17 rfl inX5 tyX5 tyX5_ok nmX5 (by decide) q148 rfl rfl h_r (Nat.le_of_ble_eq_true rfl) rfl rfl ?_
  refine x_wd (fun w4 hw4 => ?_)
  have h_r : w4 r = some (.inr (5, [.null, .int 0, .int 0, .int 0, .ref ra, .int 0, .int 0, .int 0, .int 0])) := by rw [hw4]; exact x_set_eq _ _ _
  have h_m : w4 ra = some (oRet ka (-1) (-1) 0) := by rw [hw4, x_set_ne _ _ (fun e => ne_r_m e.symm)]; exact h_m
  have h_k : w4 ka = some (aI 5 (f_fill 5 (-1) (fun _ => 0))) := by rw [hw4, x_set_ne _ _ (fun e => ne_r_k e.symm)]; exact h_k
  have hf : ∀ b, ¬ b = r → ¬ b = ra → ¬ b = ka → w4 b = w b := fun b g0 g1 g2 => by rw [hw4]; exact (x_set_ne _ _ g0).trans (hf b g0 g1 g2)
  refine x_aload_n F dX5_init_20 rfl rfl ?_
  refine x_aload_n F dX5_init_21 rfl rfl ?_
  refine x_putF (ci := 5) (C := RX5) (T := TX5) (N := 9) (k := 0) F dX5_init_22 rfl inX5 tyX5 tyX5_ok nmX5 (by decide) q136 rfl rfl rfl rfl h_r (Nat.le_of_ble_eq_true rfl) rfl rfl ?_
  refine x_wd (fun w5 hw5 => ?_)
  have h_r : w5 r = some (.inr (5, [.ref fa, .int 0, .int 0, .int 0, .ref ra, .int 0, .int 0, .int 0, .int 0])) := by rw [hw5]; exact x_set_eq _ _ _
  have h_m : w5 ra = some (oRet ka (-1) (-1) 0) := by rw [hw5, x_set_ne _ _ (fun e => ne_r_m e.symm)]; exact h_m
  have h_k : w5 ka = some (aI 5 (f_fill 5 (-1) (fun _ => 0))) := by rw [hw5, x_set_ne _ _ (fun e => ne_r_k e.symm)]; exact h_k
  have hf : ∀ b, ¬ b = r → ¬ b = ra → ¬ b = ka → w5 b = w b := fun b g0 g1 g2 => by rw [hw5]; exact (x_set_ne _ _ g0).trans (hf b g0 g1 g2)
  refine x_aload_n F dX5_init_25 rfl rfl ?_
  refine x_iload_n F dX5_init_26 rfl rfl ?_
  refine x_putF (ci := 5) (C := RX5) (T := TX5) (N := 9) (k := 1) F dX5_init_27 rfl inX5 tyX5 tyX5_ok nmX5 (by decide) q139 rfl rfl rfl rfl h_r (Nat.le_of_ble_eq_true rfl) rfl rfl ?_
  refine x_wd (fun w6 hw6 => ?_)
  have h_r : w6 r = some (.inr (5, [.ref fa, .int n, .int 0, .int 0, .ref ra, .int 0, .int 0, .int 0, .int 0])) := by rw [hw6]; exact x_set_eq _ _ _
  have h_m : w6 ra = some (oRet ka (-1) (-1) 0) := by rw [hw6, x_set_ne _ _ (fun e => ne_r_m e.symm)]; exact h_m
  have h_k : w6 ka = some (aI 5 (f_fill 5 (-1) (fun _ => 0))) := by rw [hw6, x_set_ne _ _ (fun e => ne_r_k e.symm)]; exact h_k
  have hf : ∀ b, ¬ b = r → ¬ b = ra → ¬ b = ka → w6 b = w b := fun b g0 g1 g2 => by rw [hw6]; exact (x_set_ne _ _ g0).trans (hf b g0 g1 g2)
  refine x_aload_n F dX5_init_30 rfl rfl ?_
  refine x_iload_n F dX5_init_31 rfl rfl ?_
  refine x_putF (ci := 5) (C := RX5) (T := TX5) (N := 9) (k := 2) F dX5_init_32 rfl inX5 tyX5 tyX5_ok nmX5 (by decide) q142 rfl rfl rfl rfl h_r (Nat.le_of_ble_eq_true rfl) rfl rfl ?_
  refine x_wd (fun w7 hw7 => ?_)
  have h_r : w7 r = some (.inr (5, [.ref fa, .int n, .int h, .int 0, .ref ra, .int 0, .int 0, .int 0, .int 0])) := by rw [hw7]; exact x_set_eq _ _ _
  have h_m : w7 ra = some (oRet ka (-1) (-1) 0) := by rw [hw7, x_set_ne _ _ (fun e => ne_r_m e.symm)]; exact h_m
  have h_k : w7 ka = some (aI 5 (f_fill 5 (-1) (fun _ => 0))) := by rw [hw7, x_set_ne _ _ (fun e => ne_r_k e.symm)]; exact h_k
  have hf : ∀ b, ¬ b = r → ¬ b = ra → ¬ b = ka → w7 b = w b := fun b g0 g1 g2 => by rw [hw7]; exact (x_set_ne _ _ g0).trans (hf b g0 g1 g2)
  refine x_aload_n F dX5_init_35 rfl rfl ?_
  refine x_iload F dX5_init_36 rfl ?_
  refine x_putF (ci := 5) (C := RX5) (T := TX5) (N := 9) (k := 3) F dX5_init_38 rfl inX5 tyX5 tyX5_ok nmX5 (by decide) q144 rfl rfl rfl rfl h_r (Nat.le_of_ble_eq_true rfl) rfl rfl ?_
  refine x_wd (fun w8 hw8 => ?_)
  have h_r : w8 r = some (.inr (5, [.ref fa, .int n, .int h, .int q, .ref ra, .int 0, .int 0, .int 0, .int 0])) := by rw [hw8]; exact x_set_eq _ _ _
  have h_m : w8 ra = some (oRet ka (-1) (-1) 0) := by rw [hw8, x_set_ne _ _ (fun e => ne_r_m e.symm)]; exact h_m
  have h_k : w8 ka = some (aI 5 (f_fill 5 (-1) (fun _ => 0))) := by rw [hw8, x_set_ne _ _ (fun e => ne_r_k e.symm)]; exact h_k
  have hf : ∀ b, ¬ b = r → ¬ b = ra → ¬ b = ka → w8 b = w b := fun b g0 g1 g2 => by rw [hw8]; exact (x_set_ne _ _ g0).trans (hf b g0 g1 g2)
  refine x_vret F rfl dX5_init_41 (Nat.le_refl _) (Nat.le_refl _) ?_
  exact ⟨rfl, ra, ka, fr_m, fr_k, ne_m_k, h_r, h_m, h_k, hf⟩
set_option maxRecDepth 100000 in
set_option maxHeartbeats 4000000 in
theorem c_cli_init {r vv fa ra0 : Nat} {n0 h0 q0 s0 p0 x0 y0 : Int32} (h_r : w r = some (.inr (1, [.int 0, .null, .null, .null, .null, .int 0, .int 0, .int 0]))) (h_v : w vv = some (oVer fa n0 h0 q0 ra0 s0 p0 x0 y0)) (o u : Int32) : x_Cv l D dA vwCl tyL0 B yX1_init wX1_init (rmd 1 2 12) [.ref r, .int o, .ref vv, .int u] w (fun w1 => ∃ ka kb, w ka = none ∧ w kb = none ∧ ¬ ka = kb ∧ w1 r = some (.inr (1, [.int o, .ref fa, .ref ka, .ref kb, .ref vv, .int u, .int 0, .int 0])) ∧ w1 ka = some (aI 6 (f_fill 6 (-1) (fun _ => 0))) ∧ w1 kb = some (aI 6 (fun _ => 0)) ∧ ∀ b, ¬ b = r → ¬ b = ka → ¬ b = kb → w1 b = w b) 2 12 := by
  refine x_Ct.of (cc := cX1_init) (maxL := 4) (by decide) rfl (Nat.le_of_ble_eq_true rfl) ?_
  intro p e s m below meth c F
  refine x_aload_n F dX1_init_0 rfl rfl ?_
  refine x_objInit F dX1_init_1 q243 q23 q24 (Nat.le_of_ble_eq_true rfl) (Nat.le_of_ble_eq_true rfl) ?_
  have hf : ∀ b, ¬ b = r → w b = w b := fun b _ => rfl
  have ne_v_r : ¬ vv = r := fun e => by rw [e, h_r] at h_v; cases h_v
  refine x_aload_n F dX1_init_4 rfl rfl ?_
  refine x_bipush (v := 6) F dX1_init_5 (by decide) ?_
  refine x_newa (t := 0) (N := 6) F dX1_init_7 rfl q44 (by decide) rfl (Nat.le_of_ble_eq_true rfl) (Nat.le_of_ble_eq_true rfl) (Nat.le_of_ble_eq_true rfl) (fun ka hka => ?_)
  refine x_wd (fun w1 hw1 => ?_)
  have ne_r_k : ¬ r = ka := fun e => by rw [e, hka] at h_r; cases h_r
  have ne_v_k : ¬ vv = ka := fun e => by rw [e, hka] at h_v; cases h_v
  have fr_k : w ka = none := by rw [← hf ka (fun e => ne_r_k e.symm)]; exact hka
  have h_r : w1 r = some (.inr (1, [.int 0, .null, .null, .null, .null, .int 0, .int 0, .int 0])) := by rw [hw1, x_set_ne _ _ ne_r_k]; exact h_r
  have h_v : w1 vv = some (oVer fa n0 h0 q0 ra0 s0 p0 x0 y0) := by rw [hw1, x_set_ne _ _ ne_v_k]; exact h_v
  have h_k : w1 ka = some (aI 6 (fun _ => 0)) := by rw [hw1]; exact x_set_eq _ _ _
  have hf : ∀ b, ¬ b = r → ¬ b = ka → w1 b = w b := fun b g0 g1 => by rw [hw1]; exact (x_set_ne _ _ g1).trans (hf b g0)
  refine x_putF (ci := 1) (C := RX1) (T := TX1) (N := 8) (k := 2) F dX1_init_9 rfl inX1 tyX1 tyX1_ok nmX1 (by decide) q249 rfl rfl rfl rfl h_r (Nat.le_of_ble_eq_true rfl) rfl rfl ?_
  refine x_wd (fun w2 hw2 => ?_)
  have h_r : w2 r = some (.inr (1, [.int 0, .null, .ref ka, .null, .null, .int 0, .int 0, .int 0])) := by rw [hw2]; exact x_set_eq _ _ _
  have h_v : w2 vv = some (oVer fa n0 h0 q0 ra0 s0 p0 x0 y0) := by rw [hw2, x_set_ne _ _ ne_v_r]; exact h_v
  have h_k : w2 ka = some (aI 6 (fun _ => 0)) := by rw [hw2, x_set_ne _ _ (fun e => ne_r_k e.symm)]; exact h_k
  have hf : ∀ b, ¬ b = r → ¬ b = ka → w2 b = w b := fun b g0 g1 => by rw [hw2]; exact (x_set_ne _ _ g0).trans (hf b g0 g1)
  refine x_aload_n F dX1_init_12 rfl rfl ?_
  refine x_bipush (v := 6) F dX1_init_13 (by decide) ?_
  refine x_newa (t := 0) (N := 6) F dX1_init_15 rfl q44 (by decide) rfl (Nat.le_of_ble_eq_true rfl) (Nat.le_of_ble_eq_true rfl) (Nat.le_of_ble_eq_true rfl) (fun kb hkb => ?_)
  refine x_wd (fun w3 hw3 => ?_)
  have ne_r_s : ¬ r = kb := fun e => by rw [e, hkb] at h_r; cases h_r
  have ne_v_s : ¬ vv = kb := fun e => by rw [e, hkb] at h_v; cases h_v
  have ne_k_s : ¬ ka = kb := fun e => by rw [e, hkb] at h_k; cases h_k
  have fr_s : w kb = none := by rw [← hf kb (fun e => ne_r_s e.symm) (fun e => ne_k_s e.symm)]; exact hkb
  have h_r : w3 r = some (.inr (1, [.int 0, .null, .ref ka, .null, .null, .int 0, .int 0, .int 0])) := by rw [hw3, x_set_ne _ _ ne_r_s]; exact h_r
  have h_v : w3 vv = some (oVer fa n0 h0 q0 ra0 s0 p0 x0 y0) := by rw [hw3, x_set_ne _ _ ne_v_s]; exact h_v
  have h_k : w3 ka = some (aI 6 (fun _ => 0)) := by rw [hw3, x_set_ne _ _ ne_k_s]; exact h_k
  have h_s : w3 kb = some (aI 6 (fun _ => 0)) := by rw [hw3]; exact x_set_eq _ _ _
  have hf : ∀ b, ¬ b = r → ¬ b = ka → ¬ b = kb → w3 b = w b := fun b g0 g1 g2 => by rw [hw3]; exact (x_set_ne _ _ g2).trans (hf b g0 g1)
  refine x_putF (ci := 1) (C := RX1) (T := TX1) (N := 8) (k := 3) F dX1_init_17 rfl inX1 tyX1 tyX1_ok nmX1 (by decide) q250 rfl rfl rfl rfl h_r (Nat.le_of_ble_eq_true rfl) rfl rfl ?_
  refine x_wd (fun w4 hw4 => ?_)
  have h_r : w4 r = some (.inr (1, [.int 0, .null, .ref ka, .ref kb, .null, .int 0, .int 0, .int 0])) := by rw [hw4]; exact x_set_eq _ _ _
  have h_v : w4 vv = some (oVer fa n0 h0 q0 ra0 s0 p0 x0 y0) := by rw [hw4, x_set_ne _ _ ne_v_r]; exact h_v
  have h_k : w4 ka = some (aI 6 (fun _ => 0)) := by rw [hw4, x_set_ne _ _ (fun e => ne_r_k e.symm)]; exact h_k
  have h_s : w4 kb = some (aI 6 (fun _ => 0)) := by rw [hw4, x_set_ne _ _ (fun e => ne_r_s e.symm)]; exact h_s
  have hf : ∀ b, ¬ b = r → ¬ b = ka → ¬ b = kb → w4 b = w b := fun b g0 g1 g2 => by rw [hw4]; exact (x_set_ne _ _ g0).trans (hf b g0 g1 g2)
  refine x_aload_n F dX1_init_20 rfl rfl ?_
  refine x_iload_n F dX1_init_21 rfl rfl ?_
  refine x_putF (ci := 1) (C := RX1) (T := TX1) (N := 8) (k := 0) F dX1_init_22 rfl inX1 tyX1 tyX1_ok nmX1 (by decide) q245 rfl rfl rfl rfl h_r (Nat.le_of_ble_eq_true rfl) rfl rfl ?_
  refine x_wd (fun w5 hw5 => ?_)
  have h_r : w5 r = some (.inr (1, [.int o, .null, .ref ka, .ref kb, .null, .int 0, .int 0, .int 0])) := by rw [hw5]; exact x_set_eq _ _ _
  have h_v : w5 vv = some (oVer fa n0 h0 q0 ra0 s0 p0 x0 y0) := by rw [hw5, x_set_ne _ _ ne_v_r]; exact h_v
  have h_k : w5 ka = some (aI 6 (fun _ => 0)) := by rw [hw5, x_set_ne _ _ (fun e => ne_r_k e.symm)]; exact h_k
  have h_s : w5 kb = some (aI 6 (fun _ => 0)) := by rw [hw5, x_set_ne _ _ (fun e => ne_r_s e.symm)]; exact h_s
  have hf : ∀ b, ¬ b = r → ¬ b = ka → ¬ b = kb → w5 b = w b := fun b g0 g1 g2 => by rw [hw5]; exact (x_set_ne _ _ g0).trans (hf b g0 g1 g2)
  refine x_aload_n F dX1_init_25 rfl rfl ?_
  refine x_aload_n F dX1_init_26 rfl rfl ?_
  refine x_get (ci := 5) (C := RX5) (T := TX5) (N := 9) (k := 0) F dX1_init_27 rfl inX5 (by decide) q137 rfl h_v rfl ?_
  refine x_putF (ci := 1) (C := RX1) (T := TX1) (N := 8) (k := 1) F dX1_init_30 rfl inX1 tyX1 tyX1_ok nmX1 (by decide) q247 rfl rfl rfl rfl h_r (Nat.le_of_ble_eq_true rfl) rfl rfl ?_
  refine x_wd (fun w6 hw6 => ?_)
  have h_r : w6 r = some (.inr (1, [.int o, .ref fa, .ref ka, .ref kb, .null, .int 0, .int 0, .int 0])) := by rw [hw6]; exact x_set_eq _ _ _
  have h_v : w6 vv = some (oVer fa n0 h0 q0 ra0 s0 p0 x0 y0) := by rw [hw6, x_set_ne _ _ ne_v_r]; exact h_v
  have h_k : w6 ka = some (aI 6 (fun _ => 0)) := by rw [hw6, x_set_ne _ _ (fun e => ne_r_k e.symm)]; exact h_k
  have h_s : w6 kb = some (aI 6 (fun _ => 0)) := by rw [hw6, x_set_ne _ _ (fun e => ne_r_s e.symm)]; exact h_s
  have hf : ∀ b, ¬ b = r → ¬ b = ka → ¬ b = kb → w6 b = w b := fun b g0 g1 g2 => by rw [hw6]; exact (x_set_ne _ _ g0).trans (hf b g0 g1 g2)
  refine x_aload_n F dX1_init_33 rfl rfl ?_
  refine x_aload_n F dX1_init_34 rfl rfl ?_
  refine x_put (ci := 1) (C := RX1) (T := TX1) (N := 8) (k := 4) F dX1_init_35 rfl inX1 tyX1 tyX1_ok nmX1 (by decide) q252 rfl rfl h_r (Nat.le_of_ble_eq_true rfl) rfl rfl ?_
  refine x_wd (fun w7 hw7 => ?_)
  have h_r : w7 r = some (.inr (1, [.int o, .ref fa, .ref ka, .ref kb, .ref vv, .int 0, .int 0, .int 0])) := by rw [hw7]; exact x_set_eq _ _ _
  have h_v : w7 vv = some (oVer fa n0 h0 q0 ra0 s0 p0 x0 y0) := by rw [hw7, x_set_ne _ _ ne_v_r]; exact h_v
  have h_k : w7 ka = some (aI 6 (fun _ => 0)) := by rw [hw7, x_set_ne _ _ (fun e => ne_r_k e.symm)]; exact h_k
  have h_s : w7 kb = some (aI 6 (fun _ => 0)) := by rw [hw7, x_set_ne _ _ (fun e => ne_r_s e.symm)]; exact h_s
  have hf : ∀ b, ¬ b = r → ¬ b = ka → ¬ b = kb → w7 b = w b := fun b g0 g1 g2 => by rw [hw7]; exact (x_set_ne _ _ g0).trans (hf b g0 g1 g2)
  refine x_aload_n F dX1_init_38 rfl rfl ?_
  refine x_iload_n F dX1_init_39 rfl rfl ?_
  refine x_put (ci := 1) (C := RX1) (T := TX1) (N := 8) (k := 5) F dX1_init_40 rfl inX1 tyX1 tyX1_ok nmX1 (by decide) q254 rfl rfl h_r (Nat.le_of_ble_eq_true rfl) rfl rfl ?_
  refine x_wd (fun w8 hw8 => ?_)
  have h_r : w8 r = some (.inr (1, [.int o, .ref fa, .ref ka, .ref kb, .ref vv, .int u, .int 0, .int 0])) := by rw [hw8]; exact x_set_eq _ _ _
  have h_v : w8 vv = some (oVer fa n0 h0 q0 ra0 s0 p0 x0 y0) := by rw [hw8, x_set_ne _ _ ne_v_r]; exact h_v
  have h_k : w8 ka = some (aI 6 (fun _ => 0)) := by rw [hw8, x_set_ne _ _ (fun e => ne_r_k e.symm)]; exact h_k
  have h_s : w8 kb = some (aI 6 (fun _ => 0)) := by rw [hw8, x_set_ne _ _ (fun e => ne_r_s e.symm)]; exact h_s
  have hf : ∀ b, ¬ b = r → ¬ b = ka → ¬ b = kb → w8 b = w b := fun b g0 g1 g2 => by rw [hw8]; exact (x_set_ne _ _ g0).trans (hf b g0 g1 g2)
  refine x_aload_n F dX1_init_43 rfl rfl ?_
  refine x_get (ci := 1) (C := RX1) (T := TX1) (N := 8) (k := 2) F dX1_init_44 rfl inX1 (by decide) q249 rfl h_r rfl ?_
  refine x_iconst (v := (-1)) F dX1_init_47 (by decide) ?_
  refine x_cSv2 F dX1_init_48 (x_gS q244 q52 q4 q53) (c_fill (by decide) h_k (-1)) ⟨rfl, rfl, rfl, xd_J7_fill_53178, ⟨Nat.le_of_ble_eq_true rfl, Nat.le_of_ble_eq_true rfl⟩, Nat.le_of_ble_eq_true rfl, Nat.le_of_ble_eq_true rfl⟩ (Nat.le_of_ble_eq_true rfl) (fun w1 hp => ?_)
  obtain ⟨w9, hw9⟩ : ∃ w9, w9 = w1 := ⟨_, rfl⟩
  rw [← hw9]
  rw [hp] at hw9
  have h_r : w9 r = some (.inr (1, [.int o, .ref fa, .ref ka, .ref kb, .ref vv, .int u, .int 0, .int 0])) := by rw [hw9, x_set_ne _ _ ne_r_k]; exact h_r
  have h_v : w9 vv = some (oVer fa n0 h0 q0 ra0 s0 p0 x0 y0) := by rw [hw9, x_set_ne _ _ ne_v_k]; exact h_v
  have h_k : w9 ka = some (aI 6 (f_fill 6 (-1) (fun _ => 0))) := by rw [hw9]; exact x_set_eq _ _ _
  have h_s : w9 kb = some (aI 6 (fun _ => 0)) := by rw [hw9, x_set_ne _ _ (fun e => ne_k_s e.symm)]; exact h_s
  have hf : ∀ b, ¬ b = r → ¬ b = ka → ¬ b = kb → w9 b = w b := fun b g0 g1 g2 => by rw [hw9]; exact (x_set_ne _ _ g1).trans (hf b g0 g1 g2)
  refine x_vret F rfl dX1_init_51 (Nat.le_refl _) (Nat.le_refl _) ?_
  exact ⟨rfl, ka, kb, fr_k, fr_s, ne_k_s, h_r, h_k, h_s, hf⟩
end CTR
end
section
/-! ===== new interfaces, versions, clients, adapters ===== -/
section GRW
variable {l : Launch} {D : va_G} {dA : Nat → ClassId} {B : Nat} {Z : Nat → Nat → Nat} {K : kT} {J : jT} {w : xW}
/-- cells that are none of the registry's stay, and are none of it afterwards -/
def Keep (Z : Nat → Nat → Nat) (K : kT) (w : xW) (Z1 : Nat → Nat → Nat) (K1 : kT) (w1 : xW) : Prop := ∀ a x, w a = some x → (∀ kd ix, live K kd ix → ¬ a = Z kd ix) → w1 a = some x ∧ ∀ kd ix, live K1 kd ix → ¬ a = Z1 kd ix
theorem Oth.keep {K1 : kT} {w1 : xW} (h : Oth Z K w w1) (hN : kN K1 = kN K) : Keep Z K w Z K1 w1 := by
  intro a x hx ha
  refine ⟨by rw [h a ha]; exact hx, fun kd ix hl => ha kd ix ?_⟩
  revert hl
  unfold live vOk
  split <;> first | exact id | (simp only [nf, nc, na, nv, hN]; exact id)
theorem Keep.trans {Z1 Z2 : Nat → Nat → Nat} {K1 K2 : kT} {w1 w2 : xW} (h : Keep Z K w Z1 K1 w1) (h1 : Keep Z1 K1 w1 Z2 K2 w2) : Keep Z K w Z2 K2 w2 := fun a x hx ha => h1 a x (h a x hx ha).1 (h a x hx ha).2
theorem obj_Z {Z1 : Nat → Nat → Nat} (hwf : kWf K) (hZ : ∀ kd ix, live K kd ix → Z1 kd ix = Z kd ix) {kd ix : Nat} (hl : live K kd ix) : obj Z1 K J kd ix = obj Z K J kd ix := by
  have hv : ∀ f j, f < nf K → j < nv K f → vOk K (6 * f + j) := fun f j hf hj => by
    have := hwf.2.1 f hf
    unfold vOk
    rw [show (6 * f + j) / 6 = f by omega, show (6 * f + j) % 6 = j by omega]
    exact ⟨hf, hj⟩
  rcases kd with _ | _ | _ | _ | _ | _ | _ | _ | _ | _ | _ | _ | _ | _ | _ | _ | _ | kd
  · show (Sum.inr _ : xE) = Sum.inr _
    rw [hZ 1 0 rfl, hZ 2 0 rfl, hZ 3 0 rfl, hZ 4 0 rfl, hZ 6 0 rfl]
  · show aF 4 _ = aF 4 _
    congr 5; funext j
    by_cases h : j < nf K
    · rw [if_pos h, if_pos h, hZ 8 j h]
    · rw [if_neg h, if_neg h]
  · show aC 10 _ = aC 10 _
    congr 5; funext j
    by_cases h : j < nc K
    · rw [if_pos h, if_pos h, hZ 13 j h]
    · rw [if_neg h, if_neg h]
  · show aA 10 _ = aA 10 _
    congr 5; funext j
    by_cases h : j < na K
    · rw [if_pos h, if_pos h, hZ 16 j h]
    · rw [if_neg h, if_neg h]
  · show oRou _ _ _ _ _ = oRou _ _ _ _ _
    rw [hZ 5 0 rfl]
  · rfl
  · show oRet _ _ _ _ = oRet _ _ _ _
    rw [hZ 7 0 rfl]
  · rfl
  · show (Sum.inr _ : xE) = Sum.inr _
    rw [hZ 9 ix hl]
  · show aV 6 _ = aV 6 _
    congr 5; funext j
    by_cases h : j < nv K ix
    · rw [if_pos h, if_pos h, hZ 10 _ (hv ix j hl h)]
    · rw [if_neg h, if_neg h]
  · show (Sum.inr _ : xE) = Sum.inr _
    rw [hZ 8 (ix / 6) hl.1, hZ 11 ix hl]
  · show oRet _ _ _ _ = oRet _ _ _ _
    rw [hZ 12 ix hl]
  · rfl
  · show (Sum.inr _ : xE) = Sum.inr _
    rw [hZ 8 (kCV K ix / 6) (hwf.2.2.2.2.1 ix hl).1, hZ 14 ix hl, hZ 15 ix hl, hZ 10 (kCV K ix) (hwf.2.2.2.2.1 ix hl)]
  · rfl
  · rfl
  · show (Sum.inr _ : xE) = Sum.inr _
    rw [hZ 10 _ (hwf.2.2.2.2.2 ix hl).1, hZ 10 _ (hwf.2.2.2.2.2 ix hl).2]
  · exact absurd hl (by unfold live; simp)
theorem Rep.grow (h : Rep Z K J w) {Z1 : Nat → Nat → Nat} {K1 : kT} {w1 : xW} (new sp : Nat → Nat → Prop) (hl : ∀ kd ix, live K1 kd ix → live K kd ix ∨ new kd ix) (hZ : ∀ kd ix, live K kd ix → Z1 kd ix = Z kd ix) (hfr : ∀ kd ix, new kd ix → w (Z1 kd ix) = none)
    (hinj : ∀ k1 i1 k2 i2, new k1 i1 → new k2 i2 → Z1 k1 i1 = Z1 k2 i2 → k1 = k2 ∧ i1 = i2) (hf : ∀ b, (∀ kd ix, live K kd ix → sp kd ix → ¬ b = Z kd ix) → (∀ kd ix, new kd ix → ¬ b = Z1 kd ix) → w1 b = w b)
    (hobj : ∀ kd ix, live K kd ix → ¬ sp kd ix → obj Z1 K1 J kd ix = obj Z1 K J kd ix) (hsp : ∀ kd ix, live K kd ix → sp kd ix → w1 (Z kd ix) = some (obj Z1 K1 J kd ix)) (hnew : ∀ kd ix, new kd ix → w1 (Z1 kd ix) = some (obj Z1 K1 J kd ix)) (hwf : kWf K1) : Rep Z1 K1 J w1 ∧ Keep Z K w Z1 K1 w1 := by
  have hon : ∀ kd ix k2 i2, live K kd ix → new k2 i2 → ¬ Z kd ix = Z1 k2 i2 := fun kd ix k2 i2 g1 g2 e => by
    have a := h.1 kd ix g1
    rw [e, hfr k2 i2 g2] at a
    cases a
  refine ⟨⟨fun kd ix g => ?_, fun k1 i1 k2 i2 g1 g2 e => ?_, hwf⟩, fun a x hx ha => ⟨?_, fun kd ix g e => ?_⟩⟩
  · rcases hl kd ix g with g | g
    · rw [hZ kd ix g]
      by_cases s : sp kd ix
      · exact hsp kd ix g s
      · rw [hf (Z kd ix) (fun k2 i2 g2 s2 e => s (by obtain ⟨rfl, rfl⟩ := h.inj g g2 e; exact s2)) (fun k2 i2 g2 => hon kd ix k2 i2 g g2), hobj kd ix g s, obj_Z h.2.2 hZ g]
        exact h.1 kd ix g
    · exact hnew kd ix g
  · rcases hl k1 i1 g1 with g1 | g1 <;> rcases hl k2 i2 g2 with g2 | g2
    · rw [hZ _ _ g1, hZ _ _ g2] at e
      exact h.inj g1 g2 e
    · rw [hZ _ _ g1] at e
      exact absurd e (hon k1 i1 k2 i2 g1 g2)
    · rw [hZ _ _ g2] at e
      exact absurd e.symm (hon k2 i2 k1 i1 g2 g1)
    · exact hinj k1 i1 k2 i2 g1 g2 e
  · rw [hf a (fun kd ix g _ => ha kd ix g) (fun kd ix g e => by rw [e, hfr kd ix g] at hx; cases hx)]
    exact hx
  · rcases hl kd ix g with g | g
    · rw [hZ kd ix g] at e
      exact ha kd ix g e
    · rw [e, hfr kd ix g] at hx
      cases hx
def kPutN (K : kT) (j n : Nat) : kT := ((fun b => if b = j then n else kN K b), K.2)
theorem kN_put (K : kT) (j n b : Nat) : kN (kPutN K j n) b = if b = j then n else kN K b := rfl
def kOpen (K : kT) : kT := kPutN (kPutN K 0 (nf K + 1)) (3 + nf K) 0
theorem kOpen_nf (K : kT) : nf (kOpen K) = nf K + 1 := by
  show (if (0:Nat) = 3 + nf K then 0 else if (0:Nat) = 0 then nf K + 1 else kN K 0) = _
  rw [if_neg (by omega), if_pos rfl]
theorem kOpen_nc (K : kT) : nc (kOpen K) = nc K := by simp [nc, kOpen, kN_put]; omega
theorem kOpen_na (K : kT) : na (kOpen K) = na K := by simp [na, kOpen, kN_put]; omega
theorem kOpen_nv (K : kT) (f : Nat) : nv (kOpen K) f = if f = nf K then 0 else nv K f := by
  by_cases h : f = nf K
  · simp [nv, kOpen, kN_put, h]
  · simp [nv, kOpen, kN_put, h, show ¬ 3 + f = 0 by omega]
def kNewV (K : kT) (i : Nat) (h q : Int32) : kT := (K.1, K.2.1, (fun a b => if a = i then (match b with | 0 => h | 1 => q | 6 => -1 | 7 => -1 | _ => 0) else kV K a b), (fun a => if a = i then f_fill 5 (-1) (fun _ => 0) else kVA K a), K.2.2.2.2)
def kPub (K : kT) (f : Nat) (h q : Int32) : kT := kPutN (kNewV K (6 * f + nv K f) h q) (3 + f) (nv K f + 1)
theorem kPub_nf (K : kT) (f : Nat) (h q : Int32) : nf (kPub K f h q) = nf K := by
  show (if (0:Nat) = 3 + f then nv K f + 1 else kN K 0) = _
  rw [if_neg (by omega)]
theorem kPub_nc (K : kT) (f : Nat) (h q : Int32) : nc (kPub K f h q) = nc K := by
  show (if (1:Nat) = 3 + f then nv K f + 1 else kN K 1) = _
  rw [if_neg (by omega)]
theorem kPub_na (K : kT) (f : Nat) (h q : Int32) : na (kPub K f h q) = na K := by
  show (if (2:Nat) = 3 + f then nv K f + 1 else kN K 2) = _
  rw [if_neg (by omega)]
theorem kPub_nv (K : kT) (f : Nat) (h q : Int32) (g : Nat) : nv (kPub K f h q) g = if g = f then nv K f + 1 else nv K g := by
  by_cases e : g = f
  · simp [nv, kPub, kN_put, e]
  · simp [nv, kPub, kN_put, e, show ¬ 3 + g = 3 + f by omega]; rfl
def kNewC (K : kT) (k : Nat) (o u : Int32) (v : Nat) : kT := (K.1, K.2.1, K.2.2.1, K.2.2.2.1, (fun a b => if a = k then (match b with | 0 => o | 1 => u | _ => 0) else kC K a b), (fun a => if a = k then f_fill 6 (-1) (fun _ => 0) else kCL K a), (fun a => if a = k then (fun _ => 0) else kCS K a), (fun a => if a = k then v else kCV K a), K.2.2.2.2.2.2.2.2)
def kCli (K : kT) (o u : Int32) (v : Nat) : kT := kPutN (kNewC K (nc K) o u v) 1 (nc K + 1)
theorem kCli_nf (K : kT) (o u : Int32) (v : Nat) : nf (kCli K o u v) = nf K := by simp [nf, kCli, kN_put]; rfl
theorem kCli_nc (K : kT) (o u : Int32) (v : Nat) : nc (kCli K o u v) = nc K + 1 := by simp [nc, kCli, kN_put]
theorem kCli_na (K : kT) (o u : Int32) (v : Nat) : na (kCli K o u v) = na K := by simp [na, kCli, kN_put]; rfl
theorem kCli_nv (K : kT) (o u : Int32) (v : Nat) (f : Nat) : nv (kCli K o u v) f = nv K f := by simp [nv, kCli, kN_put, show ¬ 3 + f = 1 by omega]; rfl
def kNewA (K : kT) (k x y : Nat) (u v : Int32) : kT := (K.1, K.2.1, K.2.2.1, K.2.2.2.1, K.2.2.2.2.1, K.2.2.2.2.2.1, K.2.2.2.2.2.2.1, K.2.2.2.2.2.2.2.1, (fun a b => if a = k then (match b with | 0 => u | _ => v) else kA K a b), (fun a => if a = k then x else kAF K a), (fun a => if a = k then y else kAT K a))
def kAda (K : kT) (x y : Nat) (u v : Int32) : kT := kPutN (kNewA K (na K) x y u v) 2 (na K + 1)
theorem kAda_nf (K : kT) (x y : Nat) (u v : Int32) : nf (kAda K x y u v) = nf K := by simp [nf, kAda, kN_put]; rfl
theorem kAda_nc (K : kT) (x y : Nat) (u v : Int32) : nc (kAda K x y u v) = nc K := by simp [nc, kAda, kN_put]; rfl
theorem kAda_na (K : kT) (x y : Nat) (u v : Int32) : na (kAda K x y u v) = na K + 1 := by simp [na, kAda, kN_put]
theorem kAda_nv (K : kT) (x y : Nat) (u v : Int32) (f : Nat) : nv (kAda K x y u v) f = nv K f := by simp [nv, kAda, kN_put, show ¬ 3 + f = 2 by omega]; rfl
end GRW
end
section
/-! ===== calls that make something new ===== -/
section NEW
variable {l : Launch} {D : va_G} {dA : Nat → ClassId} {B : Nat} {Z : Nat → Nat → Nat} {K : kT} {J : jT} {w : xW}
def zUp (Z : Nat → Nat → Nat) (kd ix a : Nat) : Nat → Nat → Nat := fun k i => if k = kd ∧ i = ix then a else Z k i
theorem zUp_eq (Z : Nat → Nat → Nat) (kd ix a : Nat) : zUp Z kd ix a kd ix = a := if_pos ⟨rfl, rfl⟩
theorem zUp_ne (Z : Nat → Nat → Nat) {kd ix a k i : Nat} (h : ¬ (k = kd ∧ i = ix)) : zUp Z kd ix a k i = Z k i := if_neg h
/-- a call that makes new cells -/
def GM (Z : Nat → Nat → Nat) (K : kT) (w : xW) (K1 : kT) (w1 : xW) : Prop := ∃ Z1 J1, Z1 0 0 = Z 0 0 ∧ Rep Z1 K1 J1 w1 ∧ Keep Z K w Z1 K1 w1
theorem up_arr {n : Nat} {g g1 : Nat → Nat} {r : Nat} (hr : g1 n = r) (hg : ∀ j, j < n → g1 j = g j) : va_up (fun j => if j < n then some (g j) else none) n (some r) = fun j => if j < n + 1 then some (g1 j) else none := by
  funext j
  show (if j = n then some r else if j < n then some (g j) else none) = _
  by_cases h : j = n
  · rw [if_pos h, if_pos (by omega), h, hr]
  · rw [if_neg h]
    by_cases h2 : j < n
    · rw [if_pos h2, if_pos (by omega), hg j h2]
    · rw [if_neg h2, if_neg (by omega)]
theorem Rep.addF (h : Rep Z K J w) {r ka : Nat} (h4 : nf K < 4) (hr : w r = none) (hk : w ka = none) (hrk : ¬ r = ka) {w1 : xW}
    (e0 : w1 (Z 0 0) = some (.inr (6, [.ref (Z 1 0), .ref (Z 2 0), .ref (Z 3 0), .int (nI (nf K) + 1), .int (nI (nc K)), .int (nI (na K)), .int (kG K 0), .int (kG K 1), .int (kG K 2), .int (kG K 3), .ref (Z 4 0), .ref (Z 6 0)])))
    (e1 : w1 (Z 1 0) = some (aF 4 (va_up (fun j => if j < nf K then some (Z 8 j) else none) (nf K) (some r))))
    (er : w1 r = some (.inr (2, [.int (nI (nf K)), .ref ka, .int 0]))) (ek : w1 ka = some (aV 6 (fun _ => none)))
    (hf : ∀ b, ¬ b = Z 0 0 → ¬ b = Z 1 0 → ¬ b = r → ¬ b = ka → w1 b = w b) : GM Z K w (kOpen K) w1 := by
  have hZ : ∀ kd ix, live K kd ix → zUp (zUp Z 8 (nf K) r) 9 (nf K) ka kd ix = Z kd ix := by
    intro kd ix g
    rw [zUp_ne _ (fun q => by obtain ⟨rfl, rfl⟩ := q; exact absurd (show nf K < nf K from g) (Nat.lt_irrefl _)), zUp_ne _ (fun q => by obtain ⟨rfl, rfl⟩ := q; exact absurd (show nf K < nf K from g) (Nat.lt_irrefl _))]
  have z8 : zUp (zUp Z 8 (nf K) r) 9 (nf K) ka 8 (nf K) = r := by rw [zUp_ne _ (by omega), zUp_eq]
  have z9 : zUp (zUp Z 8 (nf K) r) 9 (nf K) ka 9 (nf K) = ka := zUp_eq _ _ _ _
  obtain ⟨Z1, hZ1⟩ : ∃ Z1, Z1 = zUp (zUp Z 8 (nf K) r) 9 (nf K) ka := ⟨_, rfl⟩
  rw [← hZ1] at hZ z8 z9
  have hvk : ∀ j, vOk (kOpen K) j → vOk K j := fun j g => by
    unfold vOk at g ⊢
    rw [kOpen_nf, kOpen_nv] at g
    by_cases q : j / 6 = nf K
    · rw [if_pos q] at g; omega
    · rw [if_neg q] at g; omega
  have hlv : ∀ kd ix, live (kOpen K) kd ix → live K kd ix ∨ ((kd = 8 ∨ kd = 9) ∧ ix = nf K) := by
    intro kd ix g
    rcases kd with _ | _ | _ | _ | _ | _ | _ | _ | _ | _ | _ | _ | _ | _ | _ | _ | _ | kd
    all_goals first
      | exact Or.inl g
      | exact Or.inl (hvk ix g)
      | (have g2 : ix < nf (kOpen K) := g
         rw [kOpen_nf] at g2
         by_cases q : ix = nf K
         · exact Or.inr ⟨by decide, q⟩
         · exact Or.inl (show ix < nf K by omega))
      | (have g2 : ix < nc (kOpen K) := g
         rw [kOpen_nc] at g2
         exact Or.inl g2)
      | (have g2 : ix < na (kOpen K) := g
         rw [kOpen_na] at g2
         exact Or.inl g2)
  have hG := h.grow (Z1 := Z1) (K1 := kOpen K) (w1 := w1) (fun kd ix => (kd = 8 ∨ kd = 9) ∧ ix = nf K) (fun kd ix => (kd = 0 ∨ kd = 1) ∧ ix = 0) hlv hZ
    (fun kd ix g => by obtain ⟨rfl | rfl, rfl⟩ := g; · rw [z8]; exact hr
                       · rw [z9]; exact hk)
    (fun k1 i1 k2 i2 g1 g2 e => by
      obtain ⟨rfl | rfl, rfl⟩ := g1 <;> obtain ⟨rfl | rfl, rfl⟩ := g2
      · exact ⟨rfl, rfl⟩
      · rw [z8, z9] at e; exact absurd e hrk
      · rw [z8, z9] at e; exact absurd e.symm hrk
      · exact ⟨rfl, rfl⟩)
    (fun b g1 g2 => hf b (g1 0 0 rfl (by decide)) (g1 1 0 rfl (by decide)) (by rw [← z8]; exact g2 8 _ (by simp)) (by rw [← z9]; exact g2 9 _ (by simp)))
    (fun kd ix g g1 => by
      rcases kd with _ | _ | _ | _ | _ | _ | _ | _ | _ | _ | _ | _ | _ | _ | _ | _ | _ | kd
      all_goals first
        | rfl
        | exact absurd ⟨Or.inl rfl, g⟩ g1
        | exact absurd ⟨Or.inr rfl, g⟩ g1
        | skip
      · show aC 10 _ = aC 10 _
        rw [kOpen_nc]
      · show aA 10 _ = aA 10 _
        rw [kOpen_na]
      · have g3 : ix < nf K := g
        show (Sum.inr (2, [_, _, Value.int (nI (nv (kOpen K) ix))]) : xE) = _
        rw [kOpen_nv, if_neg (by omega)]
        rfl
      · have g3 : ix < nf K := g
        show aV 6 (fun j => if j < nv (kOpen K) ix then some (Z1 10 (6 * ix + j)) else none) = _
        rw [kOpen_nv, if_neg (by omega)]
        rfl)
    (fun kd ix g g1 => by
      obtain ⟨rfl | rfl, rfl⟩ := g1
      · rw [e0]
        show _ = some (Sum.inr (6, [_, _, _, Value.int (nI (nf (kOpen K))), Value.int (nI (nc (kOpen K))), Value.int (nI (na (kOpen K))), _, _, _, _, _, _]) : xE)
        rw [kOpen_nf, kOpen_nc, kOpen_na, ← nI_1, hZ 1 0 rfl, hZ 2 0 rfl, hZ 3 0 rfl, hZ 4 0 rfl, hZ 6 0 rfl]
        rfl
      · rw [e1, up_arr (g1 := Z1 8) z8 (fun j hj => hZ 8 j hj)]
        show _ = some (aF 4 (fun j => if j < nf (kOpen K) then some (Z1 8 j) else none))
        rw [kOpen_nf])
    (fun kd ix g => by
      obtain ⟨rfl | rfl, rfl⟩ := g
      · rw [z8, er]
        show _ = some (Sum.inr (2, [Value.int (nI (nf K)), Value.ref (Z1 9 (nf K)), Value.int (nI (nv (kOpen K) (nf K)))]) : xE)
        rw [z9, kOpen_nv, if_pos rfl]
        rfl
      · rw [z9, ek]
        show _ = some (aV 6 (fun j => if j < nv (kOpen K) (nf K) then some (Z1 10 (6 * nf K + j)) else none))
        rw [kOpen_nv, if_pos rfl]
        rfl)
    (by
      obtain ⟨a1, a2, a3, a4, a5, a6⟩ := h.2.2
      have hv2 : ∀ j, vOk K j → vOk (kOpen K) j := fun j g => by
        unfold vOk at g ⊢
        rw [kOpen_nf, kOpen_nv, if_neg (by omega)]
        exact ⟨by omega, g.2⟩
      unfold kWf
      rw [kOpen_nf, kOpen_nc, kOpen_na]
      refine ⟨by omega, fun f hf => ?_, a3, a4, fun k hk => hv2 _ (a5 k hk), fun k hk => ⟨hv2 _ (a6 k hk).1, hv2 _ (a6 k hk).2⟩⟩
      rw [kOpen_nv]
      by_cases q : f = nf K
      · rw [if_pos q]; omega
      · rw [if_neg q]; exact a2 f (by omega))
  exact ⟨Z1, J, hZ 0 0 rfl, hG⟩
set_option maxRecDepth 100000 in
set_option maxHeartbeats 4000000 in
theorem c_open (hR : Rep Z K J w) (hn4 : nf K < 4) : x_Ci l D dA vwCl tyL0 B yX6_open wX6_open (rmd 2 2 9) [.ref (Z 0 0)] w (fun v w1 => v = .int (nI (nf K)) ∧ GM Z K w (kOpen K) w1) 2 9 := by
  refine x_Ct.of (cc := cX6_open) (maxL := 1) (by decide) rfl (Nat.le_of_ble_eq_true rfl) ?_
  intro p e s m below meth c F
  have hf : ∀ b, ¬ b = (Z 0 0) → ¬ b = (Z 1 0) → w b = w b := fun b _ _ => rfl
  have h_m := hR.main
  have h_a := hR.faces
  have ne_m_a : ¬ Z 0 0 = Z 1 0 := fun e => absurd (hR.inj (k1 := 0) (i1 := 0) (k2 := 1) (i2 := 0) rfl rfl e).1 (by decide)
  refine x_aload_n F dX6_open_0 rfl rfl ?_
  refine x_get (ci := 6) (C := RX6) (T := TX6) (N := 12) (k := 3) F dX6_open_1 rfl inX6 (by decide) q68 rfl hR.main rfl ?_
  refine x_if_lt F dX6_open_4 rfl (fun hc => absurd hc (nI_pos (by omega))) (fun h4 => ?_)
  refine x_aload_n F dX6_open_7 rfl rfl ?_
  refine x_get (ci := 6) (C := RX6) (T := TX6) (N := 12) (k := 3) F dX6_open_8 rfl inX6 (by decide) q68 rfl hR.main rfl ?_
  refine x_aload_n F dX6_open_11 rfl rfl ?_
  refine x_get (ci := 6) (C := RX6) (T := TX6) (N := 12) (k := 0) F dX6_open_12 rfl inX6 (by decide) q65 rfl hR.main rfl ?_
  refine x_alen (v := 4) F dX6_open_15 rfl hR.faces rfl ?_
  refine x_icmp_lt F dX6_open_16 rfl (fun h16 => ?_) (fun hc => absurd hc (fun q => q (nI_lt (b := 4) hn4 (by decide))))
  refine x_aload_n F dX6_open_29 rfl rfl ?_
  refine x_get (ci := 6) (C := RX6) (T := TX6) (N := 12) (k := 0) F dX6_open_30 rfl inX6 (by decide) q65 rfl hR.main rfl ?_
  refine x_aload_n F dX6_open_33 rfl rfl ?_
  refine x_get (ci := 6) (C := RX6) (T := TX6) (N := 12) (k := 3) F dX6_open_34 rfl inX6 (by decide) q68 rfl hR.main rfl ?_
  refine x_new (ci := 2) (C := RX2) (T := TX2) (N := 3) (fs := [.int 0, .null, .int 0]) F dX6_open_37 rfl inX2 tyX2 tyX2_ok q25 q97 q9 (fun j hj => by rcases (show j = 0 ∨ j = 1 ∨ j = 2 by omega) with rfl | rfl | rfl <;> rfl) (Nat.le_of_ble_eq_true rfl) (Nat.le_of_ble_eq_true rfl) (fun r hr => ?_)
  refine x_wd (fun w1 hw1 => ?_)
  have ne_m_r : ¬ (Z 0 0) = r := fun e => by rw [e, hr] at h_m; cases h_m
  have ne_a_r : ¬ (Z 1 0) = r := fun e => by rw [e, hr] at h_a; cases h_a
  have fr_r : w r = none := by rw [← hf r (fun e => ne_m_r e.symm) (fun e => ne_a_r e.symm)]; exact hr
  have h_m : w1 (Z 0 0) = some (.inr (6, [.ref (Z 1 0), .ref (Z 2 0), .ref (Z 3 0), .int (nI (nf K)), .int (nI (nc K)), .int (nI (na K)), .int (kG K 0), .int (kG K 1), .int (kG K 2), .int (kG K 3), .ref (Z 4 0), .ref (Z 6 0)])) := by rw [hw1, x_set_ne _ _ ne_m_r]; exact h_m
  have h_a : w1 (Z 1 0) = some (aF 4 (fun j => if j < nf K then some (Z 8 j) else none)) := by rw [hw1, x_set_ne _ _ ne_a_r]; exact h_a
  have h_r : w1 r = some (.inr (2, [.int 0, .null, .int 0])) := by rw [hw1]; exact x_set_eq _ _ _
  have hf : ∀ b, ¬ b = (Z 0 0) → ¬ b = (Z 1 0) → ¬ b = r → w1 b = w b := fun b g0 g1 g2 => by rw [hw1]; exact (x_set_ne _ _ g2).trans (hf b g0 g1)
  refine x_dup F dX6_open_40 rfl ?_
  refine x_aload_n F dX6_open_41 rfl rfl ?_
  refine x_get (ci := 6) (C := RX6) (T := TX6) (N := 12) (k := 3) F dX6_open_42 rfl inX6 (by decide) q68 rfl h_m rfl ?_
  refine x_cI1 F dX6_open_45 (x_gI q100) q9 q98 q99 rfl (c_face_init h_r (nI (nf K))) ⟨rfl, rfl, rfl, xd_X2_init, ⟨Nat.le_of_ble_eq_true rfl, Nat.le_of_ble_eq_true rfl⟩, Nat.le_of_ble_eq_true rfl, Nat.le_of_ble_eq_true rfl⟩ (Nat.le_of_ble_eq_true rfl) (fun w1 hp => ?_)
  obtain ⟨ka, fk, g_r, g_k, hf2⟩ := hp
  have ne_m_k : ¬ (Z 0 0) = ka := fun e => by rw [e, fk] at h_m; cases h_m
  have ne_a_k : ¬ (Z 1 0) = ka := fun e => by rw [e, fk] at h_a; cases h_a
  have ne_r_k : ¬ r = ka := fun e => by rw [e, fk] at h_r; cases h_r
  have fr_k : w ka = none := by rw [← hf ka (fun e => ne_m_k e.symm) (fun e => ne_a_k e.symm) (fun e => ne_r_k e.symm)]; exact fk
  have h_m : w1 (Z 0 0) = some (.inr (6, [.ref (Z 1 0), .ref (Z 2 0), .ref (Z 3 0), .int (nI (nf K)), .int (nI (nc K)), .int (nI (na K)), .int (kG K 0), .int (kG K 1), .int (kG K 2), .int (kG K 3), .ref (Z 4 0), .ref (Z 6 0)])) := by rw [hf2 (Z 0 0) ne_m_r ne_m_k]; exact h_m
  have h_a : w1 (Z 1 0) = some (aF 4 (fun j => if j < nf K then some (Z 8 j) else none)) := by rw [hf2 (Z 1 0) ne_a_r ne_a_k]; exact h_a
  have h_r : w1 r = some (.inr (2, [.int (nI (nf K)), .ref ka, .int 0])) := g_r
  have h_k : w1 ka = some (aV 6 (fun _ => none)) := g_k
  have hf : ∀ b, ¬ b = (Z 0 0) → ¬ b = (Z 1 0) → ¬ b = r → ¬ b = ka → w1 b = w b := fun b g0 g1 g2 g3 => by rw [hf2 b g2 g3]; exact hf b g0 g1 g2
  refine x_aastN F dX6_open_48 rfl rfl h_a h_r hn4 (by decide) ?_
  refine x_wd (fun w2 hw2 => ?_)
  have h_m : w2 (Z 0 0) = some (.inr (6, [.ref (Z 1 0), .ref (Z 2 0), .ref (Z 3 0), .int (nI (nf K)), .int (nI (nc K)), .int (nI (na K)), .int (kG K 0), .int (kG K 1), .int (kG K 2), .int (kG K 3), .ref (Z 4 0), .ref (Z 6 0)])) := by rw [hw2, x_set_ne _ _ ne_m_a]; exact h_m
  have h_a : w2 (Z 1 0) = some (aF 4 (va_up (fun j => if j < nf K then some (Z 8 j) else none) (nf K) (some r))) := by rw [hw2]; exact x_set_eq _ _ _
  have h_r : w2 r = some (.inr (2, [.int (nI (nf K)), .ref ka, .int 0])) := by rw [hw2, x_set_ne _ _ (fun e => ne_a_r e.symm)]; exact h_r
  have h_k : w2 ka = some (aV 6 (fun _ => none)) := by rw [hw2, x_set_ne _ _ (fun e => ne_a_k e.symm)]; exact h_k
  have hf : ∀ b, ¬ b = (Z 0 0) → ¬ b = (Z 1 0) → ¬ b = r → ¬ b = ka → w2 b = w b := fun b g0 g1 g2 g3 => by rw [hw2]; exact (x_set_ne _ _ g1).trans (hf b g0 g1 g2 g3)
  refine x_aload_n F dX6_open_49 rfl rfl ?_
  refine x_dup F dX6_open_50 rfl ?_
  refine x_get (ci := 6) (C := RX6) (T := TX6) (N := 12) (k := 3) F dX6_open_51 rfl inX6 (by decide) q68 rfl h_m rfl ?_
  refine x_dup_x1 F dX6_open_54 rfl rfl ?_
  refine x_iconst (v := 1) F dX6_open_55 (by decide) ?_
  refine x_iadd F dX6_open_56 ?_
  refine x_put (ci := 6) (C := RX6) (T := TX6) (N := 12) (k := 3) F dX6_open_57 rfl inX6 tyX6 tyX6_ok nmX6 (by decide) q68 rfl rfl h_m (Nat.le_of_ble_eq_true rfl) rfl rfl ?_
  refine x_wd (fun w3 hw3 => ?_)
  have h_m : w3 (Z 0 0) = some (.inr (6, [.ref (Z 1 0), .ref (Z 2 0), .ref (Z 3 0), .int (nI (nf K) + 1), .int (nI (nc K)), .int (nI (na K)), .int (kG K 0), .int (kG K 1), .int (kG K 2), .int (kG K 3), .ref (Z 4 0), .ref (Z 6 0)])) := by rw [hw3]; exact x_set_eq _ _ _
  have h_a : w3 (Z 1 0) = some (aF 4 (va_up (fun j => if j < nf K then some (Z 8 j) else none) (nf K) (some r))) := by rw [hw3, x_set_ne _ _ (fun e => ne_m_a e.symm)]; exact h_a
  have h_r : w3 r = some (.inr (2, [.int (nI (nf K)), .ref ka, .int 0])) := by rw [hw3, x_set_ne _ _ (fun e => ne_m_r e.symm)]; exact h_r
  have h_k : w3 ka = some (aV 6 (fun _ => none)) := by rw [hw3, x_set_ne _ _ (fun e => ne_m_k e.symm)]; exact h_k
  have hf : ∀ b, ¬ b = (Z 0 0) → ¬ b = (Z 1 0) → ¬ b = r → ¬ b = ka → w3 b = w b := fun b g0 g1 g2 g3 => by rw [hw3]; exact (x_set_ne _ _ g0).trans (hf b g0 g1 g2 g3)
  refine x_iret F rfl rfl dX6_open_60 (Nat.le_refl _) (Nat.le_refl _) ?_
  exact ⟨_, rfl, rfl, hR.addF hn4 fr_r fr_k ne_r_k h_m h_a h_r h_k hf⟩
theorem Rep.addV (h : Rep Z K J w) {f r ra ka : Nat} {hs q : Int32} (hf1 : f < nf K) (h6 : nv K f < 6) (hr : w r = none) (hra : w ra = none) (hk : w ka = none) (n1 : ¬ r = ra) (n2 : ¬ r = ka) (n3 : ¬ ra = ka) {w1 : xW}
    (e0 : w1 (Z 8 f) = some (.inr (2, [.int (nI f), .ref (Z 9 f), .int (nI (nv K f) + 1)])))
    (e1 : w1 (Z 9 f) = some (aV 6 (va_up (fun j => if j < nv K f then some (Z 10 (6 * f + j)) else none) (nv K f) (some r))))
    (er : w1 r = some (oVer (Z 8 f) (nI (nv K f)) hs q ra 0 0 0 0)) (era : w1 ra = some (oRet ka (-1) (-1) 0)) (ek : w1 ka = some (aI 5 (f_fill 5 (-1) (fun _ => 0))))
    (hf : ∀ b, ¬ b = Z 8 f → ¬ b = Z 9 f → ¬ b = r → ¬ b = ra → ¬ b = ka → w1 b = w b) : GM Z K w (kPub K f hs q) w1 := by
  obtain ⟨i, hi⟩ : ∃ i, i = 6 * f + nv K f := ⟨_, rfl⟩
  have i1 : i / 6 = f := by omega
  have i2 : i % 6 = nv K f := by omega
  have hnok : ¬ vOk K i := fun g => by
    have := g.2
    rw [i1, i2] at this
    omega
  have hZ : ∀ kd ix, live K kd ix → zUp (zUp (zUp Z 10 i r) 11 i ra) 12 i ka kd ix = Z kd ix := by
    intro kd ix g
    rw [zUp_ne _ (fun e => by obtain ⟨rfl, rfl⟩ := e; exact hnok g), zUp_ne _ (fun e => by obtain ⟨rfl, rfl⟩ := e; exact hnok g), zUp_ne _ (fun e => by obtain ⟨rfl, rfl⟩ := e; exact hnok g)]
  have z10 : zUp (zUp (zUp Z 10 i r) 11 i ra) 12 i ka 10 i = r := by rw [zUp_ne _ (by omega), zUp_ne _ (by omega), zUp_eq]
  have z11 : zUp (zUp (zUp Z 10 i r) 11 i ra) 12 i ka 11 i = ra := by rw [zUp_ne _ (by omega), zUp_eq]
  have z12 : zUp (zUp (zUp Z 10 i r) 11 i ra) 12 i ka 12 i = ka := zUp_eq _ _ _ _
  obtain ⟨Z1, hZ1⟩ : ∃ Z1, Z1 = zUp (zUp (zUp Z 10 i r) 11 i ra) 12 i ka := ⟨_, rfl⟩
  rw [← hZ1] at hZ z10 z11 z12
  have hvk : ∀ j, vOk (kPub K f hs q) j → vOk K j ∨ j = i := fun j g => by
    unfold vOk at g ⊢
    rw [kPub_nf, kPub_nv] at g
    by_cases e : j / 6 = f
    · rw [if_pos e] at g
      by_cases e2 : j % 6 = nv K f
      · exact Or.inr (by omega)
      · rw [e]; exact Or.inl ⟨hf1, by omega⟩
    · rw [if_neg e] at g; exact Or.inl g
  have hkv : ∀ a b, kV (kPub K f hs q) a b = if a = i then (match b with | 0 => hs | 1 => q | 6 => -1 | 7 => -1 | _ => 0) else kV K a b := fun a b => by subst hi; rfl
  have hkva : ∀ a, kVA (kPub K f hs q) a = if a = i then f_fill 5 (-1) (fun _ => 0) else kVA K a := fun a => by subst hi; rfl
  have hlv : ∀ kd ix, live (kPub K f hs q) kd ix → live K kd ix ∨ ((kd = 10 ∨ kd = 11 ∨ kd = 12) ∧ ix = i) := by
    intro kd ix g
    rcases kd with _ | _ | _ | _ | _ | _ | _ | _ | _ | _ | _ | _ | _ | _ | _ | _ | _ | kd
    all_goals first
      | exact Or.inl g
      | exact (hvk ix g).elim Or.inl (fun e => Or.inr ⟨by decide, e⟩)
      | (have g2 : ix < nf (kPub K f hs q) := g
         rw [kPub_nf] at g2
         exact Or.inl g2)
      | (have g2 : ix < nc (kPub K f hs q) := g
         rw [kPub_nc] at g2
         exact Or.inl g2)
      | (have g2 : ix < na (kPub K f hs q) := g
         rw [kPub_na] at g2
         exact Or.inl g2)
  have hG := h.grow (Z1 := Z1) (K1 := kPub K f hs q) (w1 := w1) (fun kd ix => (kd = 10 ∨ kd = 11 ∨ kd = 12) ∧ ix = i) (fun kd ix => (kd = 8 ∨ kd = 9) ∧ ix = f) hlv hZ
    (fun kd ix g => by obtain ⟨rfl | rfl | rfl, rfl⟩ := g; · rw [z10]; exact hr
                       · rw [z11]; exact hra
                       · rw [z12]; exact hk)
    (fun k1 j1 k2 j2 g1 g2 e => by
      obtain ⟨g1, rfl⟩ := g1
      obtain ⟨g2, rfl⟩ := g2
      refine ⟨?_, rfl⟩
      rcases g1 with rfl | rfl | rfl <;> rcases g2 with rfl | rfl | rfl <;> first | rfl | (simp only [z10, z11, z12] at e; first | exact absurd e n1 | exact absurd e n2 | exact absurd e n3 | exact absurd e.symm n1 | exact absurd e.symm n2 | exact absurd e.symm n3))
    (fun b g1 g2 => hf b (g1 8 f hf1 (by simp)) (g1 9 f hf1 (by simp)) (by rw [← z10]; exact g2 10 _ (by simp)) (by rw [← z11]; exact g2 11 _ (by simp)) (by rw [← z12]; exact g2 12 _ (by simp)))
    (fun kd ix g g1 => by
      rcases kd with _ | _ | _ | _ | _ | _ | _ | _ | _ | _ | _ | _ | _ | _ | _ | _ | _ | kd
      all_goals first
        | rfl
        | skip
      · show (Sum.inr (6, [_, _, _, Value.int (nI (nf (kPub K f hs q))), Value.int (nI (nc (kPub K f hs q))), Value.int (nI (na (kPub K f hs q))), _, _, _, _, _, _]) : xE) = _
        rw [kPub_nf, kPub_nc, kPub_na]
        rfl
      · show aF 4 _ = aF 4 _
        rw [kPub_nf]
      · show aC 10 _ = aC 10 _
        rw [kPub_nc]
      · show aA 10 _ = aA 10 _
        rw [kPub_na]
      · show (Sum.inr (2, [_, _, Value.int (nI (nv (kPub K f hs q) ix))]) : xE) = _
        rw [kPub_nv, if_neg (fun e => g1 ⟨Or.inl rfl, e⟩)]
        rfl
      · show aV 6 (fun j => if j < nv (kPub K f hs q) ix then some (Z1 10 (6 * ix + j)) else none) = _
        rw [kPub_nv, if_neg (fun e => g1 ⟨Or.inr rfl, e⟩)]
        rfl
      · have hx : ¬ ix = i := fun e => hnok (e ▸ g)
        show (Sum.inr (5, [_, _, Value.int (kV (kPub K f hs q) ix 0), Value.int (kV (kPub K f hs q) ix 1), _, Value.int (kV (kPub K f hs q) ix 2), Value.int (kV (kPub K f hs q) ix 3), Value.int (kV (kPub K f hs q) ix 4), Value.int (kV (kPub K f hs q) ix 5)]) : xE) = _
        simp only [hkv, if_neg hx]
        rfl
      · have hx : ¬ ix = i := fun e => hnok (e ▸ g)
        show oRet _ (kV (kPub K f hs q) ix 6) (kV (kPub K f hs q) ix 7) (kV (kPub K f hs q) ix 8) = _
        simp only [hkv, if_neg hx]
        rfl
      · have hx : ¬ ix = i := fun e => hnok (e ▸ g)
        show aI 5 (kVA (kPub K f hs q) ix) = _
        rw [hkva, if_neg hx]
        rfl)
    (fun kd ix g g1 => by
      obtain ⟨rfl | rfl, rfl⟩ := g1
      · rw [e0]
        show _ = some (Sum.inr (2, [Value.int (nI ix), Value.ref (Z1 9 ix), Value.int (nI (nv (kPub K ix hs q) ix))]) : xE)
        rw [kPub_nv, if_pos rfl, ← nI_1, hZ 9 ix g]
      · rw [e1, up_arr (g1 := fun j => Z1 10 (6 * ix + j)) (by show Z1 10 (6 * ix + nv K ix) = r; rw [← hi]; exact z10) (fun j hj => hZ 10 _ (by
          show vOk K (6 * ix + j)
          unfold vOk
          rw [show (6 * ix + j) / 6 = ix by omega, show (6 * ix + j) % 6 = j by omega]
          exact ⟨hf1, hj⟩))]
        show _ = some (aV 6 (fun j => if j < nv (kPub K ix hs q) ix then some (Z1 10 (6 * ix + j)) else none))
        rw [kPub_nv, if_pos rfl])
    (fun kd ix g => by
      obtain ⟨g1, e⟩ := g
      subst e
      rcases g1 with rfl | rfl | rfl
      · rw [z10, er]
        show _ = some (Sum.inr (5, [Value.ref (Z1 8 (ix / 6)), Value.int (nI (ix % 6)), Value.int (kV (kPub K f hs q) ix 0), Value.int (kV (kPub K f hs q) ix 1), Value.ref (Z1 11 ix), Value.int (kV (kPub K f hs q) ix 2), Value.int (kV (kPub K f hs q) ix 3), Value.int (kV (kPub K f hs q) ix 4), Value.int (kV (kPub K f hs q) ix 5)]) : xE)
        simp only [hkv, if_pos, z11, i1, i2]
        rw [hZ 8 f hf1]
      · rw [z11, era]
        show _ = some (oRet (Z1 12 ix) (kV (kPub K f hs q) ix 6) (kV (kPub K f hs q) ix 7) (kV (kPub K f hs q) ix 8))
        simp only [hkv, if_pos, z12]
      · rw [z12, ek]
        show _ = some (aI 5 (kVA (kPub K f hs q) ix))
        rw [hkva, if_pos rfl])
    (by
      obtain ⟨a1, a2, a3, a4, a5, a6⟩ := h.2.2
      have hv2 : ∀ j, vOk K j → vOk (kPub K f hs q) j := fun j g => by
        unfold vOk at g ⊢
        rw [kPub_nf, kPub_nv]
        by_cases e : j / 6 = f
        · rw [e] at g; rw [if_pos e]; exact ⟨by omega, by omega⟩
        · rw [if_neg e]; exact g
      unfold kWf
      rw [kPub_nf, kPub_nc, kPub_na]
      refine ⟨a1, fun g hg => ?_, a3, a4, fun k hk => hv2 _ (a5 k hk), fun k hk => ⟨hv2 _ (a6 k hk).1, hv2 _ (a6 k hk).2⟩⟩
      rw [kPub_nv]
      by_cases e : g = f
      · rw [if_pos e]; omega
      · rw [if_neg e]; exact a2 g hg)
  exact ⟨Z1, J, hZ 0 0 rfl, hG⟩
end NEW
end
