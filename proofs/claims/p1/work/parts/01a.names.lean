def RX0 : String := "ServiceApiary$Adapter"
def TX0 : u_T := fun k => match k with
  | 0 => ("ServiceApiary$Adapter", "from", "LServiceApiary$Version;", true)
  | 1 => ("ServiceApiary$Adapter", "to", "LServiceApiary$Version;", true)
  | 2 => ("ServiceApiary$Adapter", "adds", "I", true)
  | _ => ("ServiceApiary$Adapter", "drops", "I", true)
def tyX0 : Nat → FieldType := fun k => match k with
  | 0 => .object "ServiceApiary$Version"
  | 1 => .object "ServiceApiary$Version"
  | 2 => .int
  | _ => .int
theorem nmX0 : ∀ a, a < 4 → ∀ b, b < 4 → a ≠ b → (TX0 a).2.1 ≠ (TX0 b).2.1 := by decide +kernel
theorem tyX0_ok : ∀ k, k < 4 → parseFieldDescriptor (TX0 k).2.2.1 = some (tyX0 k) := by decide +kernel
abbrev cX0_init : ByteArray := prog_2_method_1_code
def yX0_init : MethodName := ⟨RX0, "<init>", "(LServiceApiary$Version;LServiceApiary$Version;II)V"⟩
abbrev cX0_makesOf : ByteArray := prog_2_method_2_code
def yX0_makesOf : MethodName := ⟨RX0, "makesOf", "(I)I"⟩
def RX1 : String := "ServiceApiary$Client"
def TX1 : u_T := fun k => match k with
  | 0 => ("ServiceApiary$Client", "owner", "I", true)
  | 1 => ("ServiceApiary$Client", "face", "LServiceApiary$Face;", true)
  | 2 => ("ServiceApiary$Client", "calledAt", "[I", true)
  | 3 => ("ServiceApiary$Client", "servedThisHour", "[I", true)
  | 4 => ("ServiceApiary$Client", "version", "LServiceApiary$Version;", false)
  | 5 => ("ServiceApiary$Client", "uses", "I", false)
  | 6 => ("ServiceApiary$Client", "callCount", "I", false)
  | _ => ("ServiceApiary$Client", "refusedCount", "I", false)
def tyX1 : Nat → FieldType := fun k => match k with
  | 0 => .int
  | 1 => .object "ServiceApiary$Face"
  | 2 => .array .int
  | 3 => .array .int
  | 4 => .object "ServiceApiary$Version"
  | 5 => .int
  | 6 => .int
  | _ => .int
theorem nmX1 : ∀ a, a < 8 → ∀ b, b < 8 → a ≠ b → (TX1 a).2.1 ≠ (TX1 b).2.1 := by decide +kernel
theorem tyX1_ok : ∀ k, k < 8 → parseFieldDescriptor (TX1 k).2.2.1 = some (tyX1 k) := by decide +kernel
abbrev cX1_init : ByteArray := prog_3_method_1_code
def yX1_init : MethodName := ⟨RX1, "<init>", "(ILServiceApiary$Version;I)V"⟩
abbrev cX1_calledAtOf : ByteArray := prog_3_method_2_code
def yX1_calledAtOf : MethodName := ⟨RX1, "calledAtOf", "(LServiceApiary$Version;)I"⟩
abbrev cX1_isCallerOf : ByteArray := prog_3_method_3_code
def yX1_isCallerOf : MethodName := ⟨RX1, "isCallerOf", "(LServiceApiary$Version;I)Z"⟩
abbrev cX1_servedThisHourBy : ByteArray := prog_3_method_4_code
def yX1_servedThisHourBy : MethodName := ⟨RX1, "servedThisHourBy", "(LServiceApiary$Version;)I"⟩
abbrev cX1_noteCall : ByteArray := prog_3_method_5_code
def yX1_noteCall : MethodName := ⟨RX1, "noteCall", "(IZ)V"⟩
def RX2 : String := "ServiceApiary$Face"
def TX2 : u_T := fun k => match k with
  | 0 => ("ServiceApiary$Face", "number", "I", true)
  | 1 => ("ServiceApiary$Face", "versions", "[LServiceApiary$Version;", true)
  | _ => ("ServiceApiary$Face", "count", "I", false)
def tyX2 : Nat → FieldType := fun k => match k with
  | 0 => .int
  | 1 => .array (.object "ServiceApiary$Version")
  | _ => .int
theorem nmX2 : ∀ a, a < 3 → ∀ b, b < 3 → a ≠ b → (TX2 a).2.1 ≠ (TX2 b).2.1 := by decide +kernel
theorem tyX2_ok : ∀ k, k < 3 → parseFieldDescriptor (TX2 k).2.2.1 = some (tyX2 k) := by decide +kernel
abbrev cX2_init : ByteArray := prog_4_method_1_code
def yX2_init : MethodName := ⟨RX2, "<init>", "(I)V"⟩
abbrev cX2_versionAt : ByteArray := prog_4_method_2_code
def yX2_versionAt : MethodName := ⟨RX2, "versionAt", "(I)LServiceApiary$Version;"⟩
def RX3 : String := "ServiceApiary$Retirement"
def TX3 : u_T := fun k => match k with
  | 0 => ("ServiceApiary$Retirement", "askedAt", "[I", true)
  | 1 => ("ServiceApiary$Retirement", "began", "I", false)
  | 2 => ("ServiceApiary$Retirement", "end", "I", false)
  | _ => ("ServiceApiary$Retirement", "answered", "I", false)
def tyX3 : Nat → FieldType := fun k => match k with
  | 0 => .array .int
  | 1 => .int
  | 2 => .int
  | _ => .int
theorem nmX3 : ∀ a, a < 4 → ∀ b, b < 4 → a ≠ b → (TX3 a).2.1 ≠ (TX3 b).2.1 := by decide +kernel
theorem tyX3_ok : ∀ k, k < 4 → parseFieldDescriptor (TX3 k).2.2.1 = some (tyX3 k) := by decide +kernel
abbrev cX3_init : ByteArray := prog_5_method_1_code
def yX3_init : MethodName := ⟨RX3, "<init>", "()V"⟩
abbrev cX3_start : ByteArray := prog_5_method_2_code
def yX3_start : MethodName := ⟨RX3, "start", "(II)V"⟩
abbrev cX3_clear : ByteArray := prog_5_method_3_code
def yX3_clear : MethodName := ⟨RX3, "clear", "()V"⟩
abbrev cX3_askedAtOf : ByteArray := prog_5_method_4_code
def yX3_askedAtOf : MethodName := ⟨RX3, "askedAtOf", "(I)I"⟩
abbrev cX3_ask : ByteArray := prog_5_method_5_code
def yX3_ask : MethodName := ⟨RX3, "ask", "(II)Z"⟩
abbrev cX3_hasAnswered : ByteArray := prog_5_method_6_code
def yX3_hasAnswered : MethodName := ⟨RX3, "hasAnswered", "(I)Z"⟩
abbrev cX3_isWarned : ByteArray := prog_5_method_7_code
def yX3_isWarned : MethodName := ⟨RX3, "isWarned", "(II)Z"⟩
abbrev cX3_isBrownedOut : ByteArray := prog_5_method_8_code
def yX3_isBrownedOut : MethodName := ⟨RX3, "isBrownedOut", "(I)Z"⟩
abbrev cX3_quota : ByteArray := prog_5_method_9_code
def yX3_quota : MethodName := ⟨RX3, "quota", "(I)I"⟩
def RX4 : String := "ServiceApiary$Route"
def TX4 : u_T := fun k => match k with
  | 0 => ("ServiceApiary$Route", "steps", "[I", true)
  | 1 => ("ServiceApiary$Route", "length", "I", false)
  | 2 => ("ServiceApiary$Route", "leadsTo", "I", false)
  | 3 => ("ServiceApiary$Route", "makes", "I", false)
  | _ => ("ServiceApiary$Route", "shut", "LServiceApiary$Version;", false)
def tyX4 : Nat → FieldType := fun k => match k with
  | 0 => .array .int
  | 1 => .int
  | 2 => .int
  | 3 => .int
  | _ => .object "ServiceApiary$Version"
theorem nmX4 : ∀ a, a < 5 → ∀ b, b < 5 → a ≠ b → (TX4 a).2.1 ≠ (TX4 b).2.1 := by decide +kernel
theorem tyX4_ok : ∀ k, k < 5 → parseFieldDescriptor (TX4 k).2.2.1 = some (tyX4 k) := by decide +kernel
abbrev cX4_init : ByteArray := prog_6_method_1_code
def yX4_init : MethodName := ⟨RX4, "<init>", "()V"⟩
def RX5 : String := "ServiceApiary$Version"
def TX5 : u_T := fun k => match k with
  | 0 => ("ServiceApiary$Version", "face", "LServiceApiary$Face;", true)
  | 1 => ("ServiceApiary$Version", "number", "I", true)
  | 2 => ("ServiceApiary$Version", "has", "I", true)
  | 3 => ("ServiceApiary$Version", "needs", "I", true)
  | 4 => ("ServiceApiary$Version", "retirement", "LServiceApiary$Retirement;", true)
  | 5 => ("ServiceApiary$Version", "state", "I", false)
  | 6 => ("ServiceApiary$Version", "putOffCount", "I", false)
  | 7 => ("ServiceApiary$Version", "callCount", "I", false)
  | _ => ("ServiceApiary$Version", "refusedCount", "I", false)
def tyX5 : Nat → FieldType := fun k => match k with
  | 0 => .object "ServiceApiary$Face"
  | 1 => .int
  | 2 => .int
  | 3 => .int
  | 4 => .object "ServiceApiary$Retirement"
  | 5 => .int
  | 6 => .int
  | 7 => .int
  | _ => .int
theorem nmX5 : ∀ a, a < 9 → ∀ b, b < 9 → a ≠ b → (TX5 a).2.1 ≠ (TX5 b).2.1 := by decide +kernel
theorem tyX5_ok : ∀ k, k < 9 → parseFieldDescriptor (TX5 k).2.2.1 = some (tyX5 k) := by decide +kernel
abbrev cX5_init : ByteArray := prog_7_method_1_code
def yX5_init : MethodName := ⟨RX5, "<init>", "(LServiceApiary$Face;III)V"⟩
abbrev cX5_suits : ByteArray := prog_7_method_2_code
def yX5_suits : MethodName := ⟨RX5, "suits", "(LServiceApiary$Version;)Z"⟩
abbrev cX5_usesAgain : ByteArray := prog_7_method_3_code
def yX5_usesAgain : MethodName := ⟨RX5, "usesAgain", "(I)I"⟩
def RX6 : String := "ServiceApiary"
def TX6 : u_T := fun k => match k with
  | 0 => ("ServiceApiary", "faces", "[LServiceApiary$Face;", true)
  | 1 => ("ServiceApiary", "clients", "[LServiceApiary$Client;", true)
  | 2 => ("ServiceApiary", "adapters", "[LServiceApiary$Adapter;", true)
  | 3 => ("ServiceApiary", "faceCount", "I", false)
  | 4 => ("ServiceApiary", "clientCount", "I", false)
  | 5 => ("ServiceApiary", "adapterCount", "I", false)
  | 6 => ("ServiceApiary", "now", "I", false)
  | 7 => ("ServiceApiary", "callCount", "I", false)
  | 8 => ("ServiceApiary", "refusedCount", "I", false)
  | 9 => ("ServiceApiary", "byRouteCount", "I", false)
  | 10 => ("ServiceApiary", "route", "LServiceApiary$Route;", true)
  | _ => ("ServiceApiary", "trial", "LServiceApiary$Retirement;", true)
def tyX6 : Nat → FieldType := fun k => match k with
  | 0 => .array (.object "ServiceApiary$Face")
  | 1 => .array (.object "ServiceApiary$Client")
  | 2 => .array (.object "ServiceApiary$Adapter")
  | 3 => .int
  | 4 => .int
  | 5 => .int
  | 6 => .int
  | 7 => .int
  | 8 => .int
  | 9 => .int
  | 10 => .object "ServiceApiary$Route"
  | _ => .object "ServiceApiary$Retirement"
theorem nmX6 : ∀ a, a < 12 → ∀ b, b < 12 → a ≠ b → (TX6 a).2.1 ≠ (TX6 b).2.1 := by decide +kernel
theorem tyX6_ok : ∀ k, k < 12 → parseFieldDescriptor (TX6 k).2.2.1 = some (tyX6 k) := by decide +kernel
abbrev cX6_init : ByteArray := prog_1_method_1_code
def yX6_init : MethodName := ⟨RX6, "<init>", "()V"⟩
abbrev cX6_open : ByteArray := prog_1_method_2_code
def yX6_open : MethodName := ⟨RX6, "open", "()I"⟩
abbrev cX6_publish : ByteArray := prog_1_method_3_code
def yX6_publish : MethodName := ⟨RX6, "publish", "(III)I"⟩
abbrev cX6_ofVersion : ByteArray := prog_1_method_4_code
def yX6_ofVersion : MethodName := ⟨RX6, "ofVersion", "(III)I"⟩
abbrev cX6_isCompatible : ByteArray := prog_1_method_5_code
def yX6_isCompatible : MethodName := ⟨RX6, "isCompatible", "(III)Z"⟩
abbrev cX6_client : ByteArray := prog_1_method_6_code
def yX6_client : MethodName := ⟨RX6, "client", "(IIII)I"⟩
abbrev cX6_again : ByteArray := prog_1_method_7_code
def yX6_again : MethodName := ⟨RX6, "again", "(II)I"⟩
abbrev cX6_adapter : ByteArray := prog_1_method_8_code
def yX6_adapter : MethodName := ⟨RX6, "adapter", "(IIIII)I"⟩
abbrev cX6_ofClient : ByteArray := prog_1_method_9_code
def yX6_ofClient : MethodName := ⟨RX6, "ofClient", "(II)I"⟩
abbrev cX6_routed : ByteArray := prog_1_method_10_code
def yX6_routed : MethodName := ⟨RX6, "routed", "(II)I"⟩
abbrev cX6_call : ByteArray := prog_1_method_11_code
def yX6_call : MethodName := ⟨RX6, "call", "(II)I"⟩
abbrev cX6_pass : ByteArray := prog_1_method_12_code
def yX6_pass : MethodName := ⟨RX6, "pass", "(I)I"⟩
abbrev cX6_lastCall : ByteArray := prog_1_method_13_code
def yX6_lastCall : MethodName := ⟨RX6, "lastCall", "(II)I"⟩
abbrev cX6_retire : ByteArray := prog_1_method_14_code
def yX6_retire : MethodName := ⟨RX6, "retire", "(III)I"⟩
abbrev cX6_answer : ByteArray := prog_1_method_15_code
def yX6_answer : MethodName := ⟨RX6, "answer", "(III)Z"⟩
abbrev cX6_recall : ByteArray := prog_1_method_16_code
def yX6_recall : MethodName := ⟨RX6, "recall", "(II)I"⟩
abbrev cX6_asked : ByteArray := prog_1_method_17_code
def yX6_asked : MethodName := ⟨RX6, "asked", "(III)I"⟩
abbrev cX6_many : ByteArray := prog_1_method_18_code
def yX6_many : MethodName := ⟨RX6, "many", "(I)I"⟩
abbrev cX6_servedShare : ByteArray := prog_1_method_19_code
def yX6_servedShare : MethodName := ⟨RX6, "servedShare", "()D"⟩
abbrev cX6_wouldCome : ByteArray := prog_1_method_20_code
def yX6_wouldCome : MethodName := ⟨RX6, "wouldCome", "(II)I"⟩
abbrev cX6_goneIn : ByteArray := prog_1_method_21_code
def yX6_goneIn : MethodName := ⟨RX6, "goneIn", "(II)I"⟩
abbrev cX6_wouldBreak : ByteArray := prog_1_method_22_code
def yX6_wouldBreak : MethodName := ⟨RX6, "wouldBreak", "(III)I"⟩
abbrev cX6_target : ByteArray := prog_1_method_23_code
def yX6_target : MethodName := ⟨RX6, "target", "(I)I"⟩
abbrev cX6_goneBy : ByteArray := prog_1_method_24_code
def yX6_goneBy : MethodName := ⟨RX6, "goneBy", "(III)I"⟩
abbrev cX6_digest : ByteArray := prog_1_method_25_code
def yX6_digest : MethodName := ⟨RX6, "digest", "()J"⟩
abbrev cX6_faceAt : ByteArray := prog_1_method_26_code
def yX6_faceAt : MethodName := ⟨RX6, "faceAt", "(I)LServiceApiary$Face;"⟩
abbrev cX6_versionAt : ByteArray := prog_1_method_27_code
def yX6_versionAt : MethodName := ⟨RX6, "versionAt", "(II)LServiceApiary$Version;"⟩
abbrev cX6_clientAt : ByteArray := prog_1_method_28_code
def yX6_clientAt : MethodName := ⟨RX6, "clientAt", "(I)LServiceApiary$Client;"⟩
abbrev cX6_isOwner : ByteArray := prog_1_method_29_code
def yX6_isOwner : MethodName := ⟨RX6, "isOwner", "(I)Z"⟩
abbrev cX6_isFieldSet : ByteArray := prog_1_method_30_code
def yX6_isFieldSet : MethodName := ⟨RX6, "isFieldSet", "(I)Z"⟩
abbrev cX6_isShape : ByteArray := prog_1_method_31_code
def yX6_isShape : MethodName := ⟨RX6, "isShape", "(II)Z"⟩
abbrev cX6_fits : ByteArray := prog_1_method_32_code
def yX6_fits : MethodName := ⟨RX6, "fits", "(III)Z"⟩
abbrev cX6_countSuited : ByteArray := prog_1_method_33_code
def yX6_countSuited : MethodName := ⟨RX6, "countSuited", "(LServiceApiary$Version;)I"⟩
abbrev cX6_versionFact : ByteArray := prog_1_method_34_code
def yX6_versionFact : MethodName := ⟨RX6, "versionFact", "(LServiceApiary$Version;I)I"⟩
abbrev cX6_clientFact : ByteArray := prog_1_method_35_code
def yX6_clientFact : MethodName := ⟨RX6, "clientFact", "(LServiceApiary$Client;I)I"⟩
abbrev cX6_countOf : ByteArray := prog_1_method_36_code
def yX6_countOf : MethodName := ⟨RX6, "countOf", "(I)I"⟩
abbrev cX6_countVersions : ByteArray := prog_1_method_37_code
def yX6_countVersions : MethodName := ⟨RX6, "countVersions", "(I)I"⟩
abbrev cX6_countCallers : ByteArray := prog_1_method_38_code
def yX6_countCallers : MethodName := ⟨RX6, "countCallers", "(LServiceApiary$Version;)I"⟩
abbrev cX6_countGeneratedFor : ByteArray := prog_1_method_39_code
def yX6_countGeneratedFor : MethodName := ⟨RX6, "countGeneratedFor", "(LServiceApiary$Version;)I"⟩
abbrev cX6_hoursSinceCall : ByteArray := prog_1_method_40_code
def yX6_hoursSinceCall : MethodName := ⟨RX6, "hoursSinceCall", "(LServiceApiary$Client;LServiceApiary$Version;)I"⟩
abbrev cX6_askedState : ByteArray := prog_1_method_41_code
def yX6_askedState : MethodName := ⟨RX6, "askedState", "(ILServiceApiary$Version;)I"⟩
abbrev cX6_nearestOpen : ByteArray := prog_1_method_42_code
def yX6_nearestOpen : MethodName := ⟨RX6, "nearestOpen", "(LServiceApiary$Client;)I"⟩
abbrev cX6_findOwnRoute : ByteArray := prog_1_method_43_code
def yX6_findOwnRoute : MethodName := ⟨RX6, "findOwnRoute", "(LServiceApiary$Client;)Z"⟩
abbrev cX6_findRoute : ByteArray := prog_1_method_44_code
def yX6_findRoute : MethodName := ⟨RX6, "findRoute", "(LServiceApiary$Client;LServiceApiary$Version;LServiceApiary$Version;)Z"⟩
abbrev cX6_completes : ByteArray := prog_1_method_45_code
def yX6_completes : MethodName := ⟨RX6, "completes", "(LServiceApiary$Route;[LServiceApiary$Adapter;LServiceApiary$Version;II)Z"⟩
abbrev cX6_isServedCall : ByteArray := prog_1_method_46_code
def yX6_isServedCall : MethodName := ⟨RX6, "isServedCall", "(LServiceApiary$Client;)Z"⟩
abbrev cX6_outcomeOf : ByteArray := prog_1_method_47_code
def yX6_outcomeOf : MethodName := ⟨RX6, "outcomeOf", "(LServiceApiary$Client;III)I"⟩
abbrev cX6_outcomeIn : ByteArray := prog_1_method_48_code
def yX6_outcomeIn : MethodName := ⟨RX6, "outcomeIn", "(LServiceApiary$Client;I)I"⟩
abbrev cX6_beginHour : ByteArray := prog_1_method_49_code
def yX6_beginHour : MethodName := ⟨RX6, "beginHour", "()I"⟩
abbrev cX6_isGoneAtEnd : ByteArray := prog_1_method_50_code
def yX6_isGoneAtEnd : MethodName := ⟨RX6, "isGoneAtEnd", "(LServiceApiary$Version;)Z"⟩
abbrev cX6_startRetirement : ByteArray := prog_1_method_51_code
def yX6_startRetirement : MethodName := ⟨RX6, "startRetirement", "(LServiceApiary$Version;LServiceApiary$Retirement;I)I"⟩
abbrev cX6_countHinderers : ByteArray := prog_1_method_52_code
def yX6_countHinderers : MethodName := ⟨RX6, "countHinderers", "(LServiceApiary$Version;LServiceApiary$Retirement;IZ)I"⟩
abbrev cX6_isCallerThen : ByteArray := prog_1_method_53_code
def yX6_isCallerThen : MethodName := ⟨RX6, "isCallerThen", "(LServiceApiary$Client;LServiceApiary$Version;IZ)Z"⟩
abbrev cX6_hoursTillGone : ByteArray := prog_1_method_54_code
def yX6_hoursTillGone : MethodName := ⟨RX6, "hoursTillGone", "(LServiceApiary$Version;LServiceApiary$Retirement;Z)I"⟩
abbrev cX6_hoursLeft : ByteArray := prog_1_method_55_code
def yX6_hoursLeft : MethodName := ⟨RX6, "hoursLeft", "(LServiceApiary$Version;)I"⟩
abbrev cX6_digestVersion : ByteArray := prog_1_method_56_code
def yX6_digestVersion : MethodName := ⟨RX6, "digestVersion", "(JLServiceApiary$Version;)J"⟩
abbrev cX6_digestClient : ByteArray := prog_1_method_57_code
def yX6_digestClient : MethodName := ⟨RX6, "digestClient", "(JLServiceApiary$Client;)J"⟩
def RX7 : String := "ServiceApiaryModel$Adapter"
def TX7 : u_T := fun k => match k with
  | 0 => ("ServiceApiaryModel$Adapter", "face", "I", true)
  | 1 => ("ServiceApiaryModel$Adapter", "from", "I", true)
  | 2 => ("ServiceApiaryModel$Adapter", "to", "I", true)
  | 3 => ("ServiceApiaryModel$Adapter", "adds", "I", true)
  | _ => ("ServiceApiaryModel$Adapter", "drops", "I", true)
def tyX7 : Nat → FieldType := fun k => match k with
  | 0 => .int
  | 1 => .int
  | 2 => .int
  | 3 => .int
  | _ => .int
theorem nmX7 : ∀ a, a < 5 → ∀ b, b < 5 → a ≠ b → (TX7 a).2.1 ≠ (TX7 b).2.1 := by decide +kernel
theorem tyX7_ok : ∀ k, k < 5 → parseFieldDescriptor (TX7 k).2.2.1 = some (tyX7 k) := by decide +kernel
abbrev cX7_init : ByteArray := prog_10_method_1_code
def yX7_init : MethodName := ⟨RX7, "<init>", "(IIIII)V"⟩
abbrev cX7_make : ByteArray := prog_10_method_2_code
def yX7_make : MethodName := ⟨RX7, "make", "(I)I"⟩
def RX8 : String := "ServiceApiaryModel$Call"
def TX8 : u_T := fun k => match k with
  | 0 => ("ServiceApiaryModel$Call", "client", "I", true)
  | 1 => ("ServiceApiaryModel$Call", "version", "I", true)
  | 2 => ("ServiceApiaryModel$Call", "at", "I", true)
  | _ => ("ServiceApiaryModel$Call", "came", "I", true)
def tyX8 : Nat → FieldType := fun k => match k with
  | 0 => .int
  | 1 => .int
  | 2 => .int
  | _ => .int
theorem nmX8 : ∀ a, a < 4 → ∀ b, b < 4 → a ≠ b → (TX8 a).2.1 ≠ (TX8 b).2.1 := by decide +kernel
theorem tyX8_ok : ∀ k, k < 4 → parseFieldDescriptor (TX8 k).2.2.1 = some (tyX8 k) := by decide +kernel
abbrev cX8_init : ByteArray := prog_11_method_1_code
def yX8_init : MethodName := ⟨RX8, "<init>", "(IIII)V"⟩
abbrev cX8_isServed : ByteArray := prog_11_method_2_code
def yX8_isServed : MethodName := ⟨RX8, "isServed", "()Z"⟩
def RX9 : String := "ServiceApiaryModel$Client"
def TX9 : u_T := fun k => match k with
  | 0 => ("ServiceApiaryModel$Client", "owner", "I", true)
  | 1 => ("ServiceApiaryModel$Client", "face", "I", true)
  | 2 => ("ServiceApiaryModel$Client", "version", "I", false)
  | _ => ("ServiceApiaryModel$Client", "uses", "I", false)
def tyX9 : Nat → FieldType := fun k => match k with
  | 0 => .int
  | 1 => .int
  | 2 => .int
  | _ => .int
theorem nmX9 : ∀ a, a < 4 → ∀ b, b < 4 → a ≠ b → (TX9 a).2.1 ≠ (TX9 b).2.1 := by decide +kernel
theorem tyX9_ok : ∀ k, k < 4 → parseFieldDescriptor (TX9 k).2.2.1 = some (tyX9 k) := by decide +kernel
abbrev cX9_init : ByteArray := prog_12_method_1_code
def yX9_init : MethodName := ⟨RX9, "<init>", "(IIII)V"⟩
def RX10 : String := "ServiceApiaryModel$Registry"
def TX10 : u_T := fun k => match k with
  | 0 => ("ServiceApiaryModel$Registry", "faces", "Ljava/util/ArrayList;", true)
  | 1 => ("ServiceApiaryModel$Registry", "clients", "Ljava/util/ArrayList;", true)
  | 2 => ("ServiceApiaryModel$Registry", "adapters", "Ljava/util/ArrayList;", true)
  | 3 => ("ServiceApiaryModel$Registry", "calls", "Ljava/util/ArrayList;", true)
  | _ => ("ServiceApiaryModel$Registry", "now", "I", false)
def tyX10 : Nat → FieldType := fun k => match k with
  | 0 => .object "java/util/ArrayList"
  | 1 => .object "java/util/ArrayList"
  | 2 => .object "java/util/ArrayList"
  | 3 => .object "java/util/ArrayList"
  | _ => .int
theorem nmX10 : ∀ a, a < 5 → ∀ b, b < 5 → a ≠ b → (TX10 a).2.1 ≠ (TX10 b).2.1 := by decide +kernel
theorem tyX10_ok : ∀ k, k < 5 → parseFieldDescriptor (TX10 k).2.2.1 = some (tyX10 k) := by decide +kernel
abbrev cX10_init : ByteArray := prog_13_method_1_code
def yX10_init : MethodName := ⟨RX10, "<init>", "()V"⟩
abbrev cX10_copy : ByteArray := prog_13_method_2_code
def yX10_copy : MethodName := ⟨RX10, "copy", "()LServiceApiaryModel$Registry;"⟩
abbrev cX10_of : ByteArray := prog_13_method_3_code
def yX10_of : MethodName := ⟨RX10, "of", "(II)LServiceApiaryModel$Version;"⟩
abbrev cX10_route : ByteArray := prog_13_method_4_code
def yX10_route : MethodName := ⟨RX10, "route", "(IIII)[I"⟩
abbrev cX10_route_ : ByteArray := prog_13_method_5_code
def yX10_route_ : MethodName := ⟨RX10, "route", "(LServiceApiaryModel$Client;I)[I"⟩
abbrev cX10_lastCall : ByteArray := prog_13_method_6_code
def yX10_lastCall : MethodName := ⟨RX10, "lastCall", "(II)I"⟩
abbrev cX10_isCaller : ByteArray := prog_13_method_7_code
def yX10_isCaller : MethodName := ⟨RX10, "isCaller", "(III)Z"⟩
abbrev cX10_servedNow : ByteArray := prog_13_method_8_code
def yX10_servedNow : MethodName := ⟨RX10, "servedNow", "(II)I"⟩
abbrev cX10_comes : ByteArray := prog_13_method_9_code
def yX10_comes : MethodName := ⟨RX10, "comes", "(I)I"⟩
abbrev cX10_call : ByteArray := prog_13_method_10_code
def yX10_call : MethodName := ⟨RX10, "call", "(I)Z"⟩
abbrev cX10_hinders : ByteArray := prog_13_method_11_code
def yX10_hinders : MethodName := ⟨RX10, "hinders", "(III)Z"⟩
abbrev cX10_hindering : ByteArray := prog_13_method_12_code
def yX10_hindering : MethodName := ⟨RX10, "hindering", "(II)I"⟩
abbrev cX10_retire : ByteArray := prog_13_method_13_code
def yX10_retire : MethodName := ⟨RX10, "retire", "(III)V"⟩
abbrev cX10_look : ByteArray := prog_13_method_14_code
def yX10_look : MethodName := ⟨RX10, "look", "(II)I"⟩
abbrev cX10_begin : ByteArray := prog_13_method_15_code
def yX10_begin : MethodName := ⟨RX10, "begin", "()I"⟩
abbrev cX10_touch : ByteArray := prog_13_method_16_code
def yX10_touch : MethodName := ⟨RX10, "touch", "(ILServiceApiaryModel$Version;)V"⟩
abbrev cX10_goneIn : ByteArray := prog_13_method_17_code
def yX10_goneIn : MethodName := ⟨RX10, "goneIn", "(II)I"⟩
def RX11 : String := "ServiceApiaryModel$Version"
def TX11 : u_T := fun k => match k with
  | 0 => ("ServiceApiaryModel$Version", "has", "I", true)
  | 1 => ("ServiceApiaryModel$Version", "needs", "I", true)
  | 2 => ("ServiceApiaryModel$Version", "state", "I", false)
  | 3 => ("ServiceApiaryModel$Version", "began", "I", false)
  | 4 => ("ServiceApiaryModel$Version", "end", "I", false)
  | 5 => ("ServiceApiaryModel$Version", "putOff", "I", false)
  | 6 => ("ServiceApiaryModel$Version", "askedAt", "[I", true)
  | _ => ("ServiceApiaryModel$Version", "answered", "[Z", true)
def tyX11 : Nat → FieldType := fun k => match k with
  | 0 => .int
  | 1 => .int
  | 2 => .int
  | 3 => .int
  | 4 => .int
  | 5 => .int
  | 6 => .array .int
  | _ => .array .boolean
theorem nmX11 : ∀ a, a < 8 → ∀ b, b < 8 → a ≠ b → (TX11 a).2.1 ≠ (TX11 b).2.1 := by decide +kernel
theorem tyX11_ok : ∀ k, k < 8 → parseFieldDescriptor (TX11 k).2.2.1 = some (tyX11 k) := by decide +kernel
abbrev cX11_init : ByteArray := prog_14_method_1_code
def yX11_init : MethodName := ⟨RX11, "<init>", "(II)V"⟩
abbrev cX11_copy : ByteArray := prog_14_method_2_code
def yX11_copy : MethodName := ⟨RX11, "copy", "()LServiceApiaryModel$Version;"⟩
abbrev cX11_fits : ByteArray := prog_14_method_3_code
def yX11_fits : MethodName := ⟨RX11, "fits", "(I)Z"⟩
abbrev cX11_isCompatible : ByteArray := prog_14_method_4_code
def yX11_isCompatible : MethodName := ⟨RX11, "isCompatible", "(LServiceApiaryModel$Version;)Z"⟩
abbrev cX11_ask : ByteArray := prog_14_method_5_code
def yX11_ask : MethodName := ⟨RX11, "ask", "(II)V"⟩
abbrev cX11_isWarned : ByteArray := prog_14_method_6_code
def yX11_isWarned : MethodName := ⟨RX11, "isWarned", "(II)Z"⟩
abbrev cX11_open : ByteArray := prog_14_method_7_code
def yX11_open : MethodName := ⟨RX11, "open", "()V"⟩
abbrev cX11_days : ByteArray := prog_14_method_8_code
def yX11_days : MethodName := ⟨RX11, "days", "(I)I"⟩
abbrev cX11_isBrowned : ByteArray := prog_14_method_9_code
def yX11_isBrowned : MethodName := ⟨RX11, "isBrowned", "(I)Z"⟩
abbrev cX11_quota : ByteArray := prog_14_method_10_code
def yX11_quota : MethodName := ⟨RX11, "quota", "(I)I"⟩
def RX12 : String := "ServiceApiaryModel"
def TX12 : u_T := fun k => match k with
  | 0 => ("ServiceApiaryModel", "thrown", "I", false)
  | _ => ("ServiceApiaryModel", "registry", "LServiceApiaryModel$Registry;", true)
def tyX12 : Nat → FieldType := fun k => match k with
  | 0 => .int
  | _ => .object "ServiceApiaryModel$Registry"
theorem nmX12 : ∀ a, a < 2 → ∀ b, b < 2 → a ≠ b → (TX12 a).2.1 ≠ (TX12 b).2.1 := by decide +kernel
theorem tyX12_ok : ∀ k, k < 2 → parseFieldDescriptor (TX12 k).2.2.1 = some (tyX12 k) := by decide +kernel
abbrev cX12_init : ByteArray := prog_9_method_1_code
def yX12_init : MethodName := ⟨RX12, "<init>", "()V"⟩
abbrev cX12_thrown : ByteArray := prog_9_method_2_code
def yX12_thrown : MethodName := ⟨RX12, "thrown", "()I"⟩
abbrev cX12_isIn : ByteArray := prog_9_method_3_code
def yX12_isIn : MethodName := ⟨RX12, "isIn", "(III)Z"⟩
abbrev cX12_refuse : ByteArray := prog_9_method_4_code
def yX12_refuse : MethodName := ⟨RX12, "refuse", "(ZI)Z"⟩
abbrev cX12_start : ByteArray := prog_9_method_5_code
def yX12_start : MethodName := ⟨RX12, "start", "(ZI)Z"⟩
abbrev cX12_isNoFace : ByteArray := prog_9_method_6_code
def yX12_isNoFace : MethodName := ⟨RX12, "isNoFace", "(I)Z"⟩
abbrev cX12_isNo : ByteArray := prog_9_method_7_code
def yX12_isNo : MethodName := ⟨RX12, "isNo", "(II)Z"⟩
abbrev cX12_isNoVersion : ByteArray := prog_9_method_8_code
def yX12_isNoVersion : MethodName := ⟨RX12, "isNoVersion", "(II)Z"⟩
abbrev cX12_isNoOne : ByteArray := prog_9_method_9_code
def yX12_isNoOne : MethodName := ⟨RX12, "isNoOne", "(I)Z"⟩
abbrev cX12_isNoClient : ByteArray := prog_9_method_10_code
def yX12_isNoClient : MethodName := ⟨RX12, "isNoClient", "(I)Z"⟩
abbrev cX12_isNoPair : ByteArray := prog_9_method_11_code
def yX12_isNoPair : MethodName := ⟨RX12, "isNoPair", "(II)Z"⟩
abbrev cX12_isNoSet : ByteArray := prog_9_method_12_code
def yX12_isNoSet : MethodName := ⟨RX12, "isNoSet", "(I)Z"⟩
abbrev cX12_isNoShape : ByteArray := prog_9_method_13_code
def yX12_isNoShape : MethodName := ⟨RX12, "isNoShape", "(II)Z"⟩
abbrev cX12_of : ByteArray := prog_9_method_14_code
def yX12_of : MethodName := ⟨RX12, "of", "(II)LServiceApiaryModel$Version;"⟩
abbrev cX12_open : ByteArray := prog_9_method_15_code
def yX12_open : MethodName := ⟨RX12, "open", "()I"⟩
abbrev cX12_publish : ByteArray := prog_9_method_16_code
def yX12_publish : MethodName := ⟨RX12, "publish", "(III)I"⟩
abbrev cX12_callers : ByteArray := prog_9_method_17_code
def yX12_callers : MethodName := ⟨RX12, "callers", "(II)I"⟩
abbrev cX12_calls : ByteArray := prog_9_method_18_code
def yX12_calls : MethodName := ⟨RX12, "calls", "(IIZ)I"⟩
abbrev cX12_clientsOf : ByteArray := prog_9_method_19_code
def yX12_clientsOf : MethodName := ⟨RX12, "clientsOf", "(II)I"⟩
abbrev cX12_ofVersionNow : ByteArray := prog_9_method_20_code
def yX12_ofVersionNow : MethodName := ⟨RX12, "ofVersionNow", "(III)I"⟩
abbrev cX12_ofVersion : ByteArray := prog_9_method_21_code
def yX12_ofVersion : MethodName := ⟨RX12, "ofVersion", "(III)I"⟩
abbrev cX12_isCompatible : ByteArray := prog_9_method_22_code
def yX12_isCompatible : MethodName := ⟨RX12, "isCompatible", "(III)Z"⟩
abbrev cX12_client : ByteArray := prog_9_method_23_code
def yX12_client : MethodName := ⟨RX12, "client", "(IIII)I"⟩
abbrev cX12_usesFor : ByteArray := prog_9_method_24_code
def yX12_usesFor : MethodName := ⟨RX12, "usesFor", "(LServiceApiaryModel$Client;I)I"⟩
abbrev cX12_again : ByteArray := prog_9_method_25_code
def yX12_again : MethodName := ⟨RX12, "again", "(II)I"⟩
abbrev cX12_adapter : ByteArray := prog_9_method_26_code
def yX12_adapter : MethodName := ⟨RX12, "adapter", "(IIIII)I"⟩
abbrev cX12_callsOf : ByteArray := prog_9_method_27_code
def yX12_callsOf : MethodName := ⟨RX12, "callsOf", "(IZ)I"⟩
abbrev cX12_ofClientNow : ByteArray := prog_9_method_28_code
def yX12_ofClientNow : MethodName := ⟨RX12, "ofClientNow", "(II)I"⟩
abbrev cX12_ofClient : ByteArray := prog_9_method_29_code
def yX12_ofClient : MethodName := ⟨RX12, "ofClient", "(II)I"⟩
abbrev cX12_routed : ByteArray := prog_9_method_30_code
def yX12_routed : MethodName := ⟨RX12, "routed", "(II)I"⟩
abbrev cX12_call : ByteArray := prog_9_method_31_code
def yX12_call : MethodName := ⟨RX12, "call", "(II)I"⟩
abbrev cX12_pass : ByteArray := prog_9_method_32_code
def yX12_pass : MethodName := ⟨RX12, "pass", "(I)I"⟩
abbrev cX12_lastCall : ByteArray := prog_9_method_33_code
def yX12_lastCall : MethodName := ⟨RX12, "lastCall", "(II)I"⟩
abbrev cX12_retire : ByteArray := prog_9_method_34_code
def yX12_retire : MethodName := ⟨RX12, "retire", "(III)I"⟩
abbrev cX12_isNoAsk : ByteArray := prog_9_method_35_code
def yX12_isNoAsk : MethodName := ⟨RX12, "isNoAsk", "(III)Z"⟩
abbrev cX12_answer : ByteArray := prog_9_method_36_code
def yX12_answer : MethodName := ⟨RX12, "answer", "(III)Z"⟩
abbrev cX12_recall : ByteArray := prog_9_method_37_code
def yX12_recall : MethodName := ⟨RX12, "recall", "(II)I"⟩
abbrev cX12_askedNow : ByteArray := prog_9_method_38_code
def yX12_askedNow : MethodName := ⟨RX12, "askedNow", "(III)I"⟩
abbrev cX12_asked : ByteArray := prog_9_method_39_code
def yX12_asked : MethodName := ⟨RX12, "asked", "(III)I"⟩
abbrev cX12_versionsIn : ByteArray := prog_9_method_40_code
def yX12_versionsIn : MethodName := ⟨RX12, "versionsIn", "(I)I"⟩
abbrev cX12_callsThat : ByteArray := prog_9_method_41_code
def yX12_callsThat : MethodName := ⟨RX12, "callsThat", "(II)I"⟩
abbrev cX12_count : ByteArray := prog_9_method_42_code
def yX12_count : MethodName := ⟨RX12, "count", "(I)I"⟩
abbrev cX12_many : ByteArray := prog_9_method_43_code
def yX12_many : MethodName := ⟨RX12, "many", "(I)I"⟩
abbrev cX12_servedShare : ByteArray := prog_9_method_44_code
def yX12_servedShare : MethodName := ⟨RX12, "servedShare", "()D"⟩
abbrev cX12_wouldComeNow : ByteArray := prog_9_method_45_code
def yX12_wouldComeNow : MethodName := ⟨RX12, "wouldComeNow", "(II)I"⟩
abbrev cX12_wouldCome : ByteArray := prog_9_method_46_code
def yX12_wouldCome : MethodName := ⟨RX12, "wouldCome", "(II)I"⟩
abbrev cX12_goneInNow : ByteArray := prog_9_method_47_code
def yX12_goneInNow : MethodName := ⟨RX12, "goneInNow", "(II)I"⟩
abbrev cX12_goneIn : ByteArray := prog_9_method_48_code
def yX12_goneIn : MethodName := ⟨RX12, "goneIn", "(II)I"⟩
abbrev cX12_wouldBreak : ByteArray := prog_9_method_49_code
def yX12_wouldBreak : MethodName := ⟨RX12, "wouldBreak", "(III)I"⟩
abbrev cX12_targetNow : ByteArray := prog_9_method_50_code
def yX12_targetNow : MethodName := ⟨RX12, "targetNow", "(I)I"⟩
abbrev cX12_target : ByteArray := prog_9_method_51_code
def yX12_target : MethodName := ⟨RX12, "target", "(I)I"⟩
abbrev cX12_goneBy : ByteArray := prog_9_method_52_code
def yX12_goneBy : MethodName := ⟨RX12, "goneBy", "(III)I"⟩
abbrev cX12_add : ByteArray := prog_9_method_53_code
def yX12_add : MethodName := ⟨RX12, "add", "(JJ)J"⟩
abbrev cX12_digest : ByteArray := prog_9_method_54_code
def yX12_digest : MethodName := ⟨RX12, "digest", "()J"⟩
def RJx145de : String := "java/io/Serializable"
def TJx145de : u_T := fun k => match k with
  | _ => ("", "", "", false)
def tyJx145de : Nat → FieldType := fun k => match k with
  | _ => .int
theorem nmJx145de : ∀ a, a < 0 → ∀ b, b < 0 → a ≠ b → (TJx145de a).2.1 ≠ (TJx145de b).2.1 := by decide +kernel
theorem tyJx145de_ok : ∀ k, k < 0 → parseFieldDescriptor (TJx145de k).2.2.1 = some (tyJx145de k) := by decide +kernel
def RJx8e188 : String := "java/lang/Cloneable"
def TJx8e188 : u_T := fun k => match k with
  | _ => ("", "", "", false)
def tyJx8e188 : Nat → FieldType := fun k => match k with
  | _ => .int
theorem nmJx8e188 : ∀ a, a < 0 → ∀ b, b < 0 → a ≠ b → (TJx8e188 a).2.1 ≠ (TJx8e188 b).2.1 := by decide +kernel
theorem tyJx8e188_ok : ∀ k, k < 0 → parseFieldDescriptor (TJx8e188 k).2.2.1 = some (tyJx8e188 k) := by decide +kernel
def RJ6 : String := "java/lang/Integer"
def TJ6 : u_T := fun k => match k with
  | _ => ("", "", "", false)
def tyJ6 : Nat → FieldType := fun k => match k with
  | _ => .int
theorem nmJ6 : ∀ a, a < 0 → ∀ b, b < 0 → a ≠ b → (TJ6 a).2.1 ≠ (TJ6 b).2.1 := by decide +kernel
theorem tyJ6_ok : ∀ k, k < 0 → parseFieldDescriptor (TJ6 k).2.2.1 = some (tyJ6 k) := by decide +kernel
abbrev cJ6_bitCount_0f7a4 : ByteArray := prog_21_method_49_code
def yJ6_bitCount_0f7a4 : MethodName := ⟨RJ6, "bitCount", "(I)I"⟩
def RJxab1ab : String := "java/lang/Iterable"
def TJxab1ab : u_T := fun k => match k with
  | _ => ("", "", "", false)
def tyJxab1ab : Nat → FieldType := fun k => match k with
  | _ => .int
theorem nmJxab1ab : ∀ a, a < 0 → ∀ b, b < 0 → a ≠ b → (TJxab1ab a).2.1 ≠ (TJxab1ab b).2.1 := by decide +kernel
theorem tyJxab1ab_ok : ∀ k, k < 0 → parseFieldDescriptor (TJxab1ab k).2.2.1 = some (tyJxab1ab k) := by decide +kernel
def RJ9 : String := "java/lang/Math"
def TJ9 : u_T := fun k => match k with
  | _ => ("", "", "", false)
def tyJ9 : Nat → FieldType := fun k => match k with
  | _ => .int
theorem nmJ9 : ∀ a, a < 0 → ∀ b, b < 0 → a ≠ b → (TJ9 a).2.1 ≠ (TJ9 b).2.1 := by decide +kernel
theorem tyJ9_ok : ∀ k, k < 0 → parseFieldDescriptor (TJ9 k).2.2.1 = some (tyJ9 k) := by decide +kernel
abbrev cJ9_max_7cf53 : ByteArray := prog_23_method_65_code
def yJ9_max_7cf53 : MethodName := ⟨RJ9, "max", "(II)I"⟩
abbrev cJ9_min_7cf53 : ByteArray := prog_23_method_69_code
def yJ9_min_7cf53 : MethodName := ⟨RJ9, "min", "(II)I"⟩
def RJ0 : String := "java/lang/String"
def TJ0 : u_T := fun k => match k with
  | _ => ("", "", "", false)
def tyJ0 : Nat → FieldType := fun k => match k with
  | _ => .int
theorem nmJ0 : ∀ a, a < 0 → ∀ b, b < 0 → a ≠ b → (TJ0 a).2.1 ≠ (TJ0 b).2.1 := by decide +kernel
theorem tyJ0_ok : ∀ k, k < 0 → parseFieldDescriptor (TJ0 k).2.2.1 = some (tyJ0 k) := by decide +kernel
def RJ10 : String := "java/lang/System"
def TJ10 : u_T := fun k => match k with
  | _ => ("", "", "", false)
def tyJ10 : Nat → FieldType := fun k => match k with
  | _ => .int
theorem nmJ10 : ∀ a, a < 0 → ∀ b, b < 0 → a ≠ b → (TJ10 a).2.1 ≠ (TJ10 b).2.1 := by decide +kernel
theorem tyJ10_ok : ∀ k, k < 0 → parseFieldDescriptor (TJ10 k).2.2.1 = some (tyJ10 k) := by decide +kernel
def RJxa1e45 : String := "java/util/AbstractCollection"
def TJxa1e45 : u_T := fun k => match k with
  | _ => ("", "", "", false)
def tyJxa1e45 : Nat → FieldType := fun k => match k with
  | _ => .int
theorem nmJxa1e45 : ∀ a, a < 0 → ∀ b, b < 0 → a ≠ b → (TJxa1e45 a).2.1 ≠ (TJxa1e45 b).2.1 := by decide +kernel
theorem tyJxa1e45_ok : ∀ k, k < 0 → parseFieldDescriptor (TJxa1e45 k).2.2.1 = some (tyJxa1e45 k) := by decide +kernel
abbrev cJxa1e45_init_da8c8 : ByteArray := prog_28_method_1_code
def yJxa1e45_init_da8c8 : MethodName := ⟨RJxa1e45, "<init>", "()V"⟩
def RJxc12de : String := "java/util/AbstractList"
def TJxc12de : u_T := fun k => match k with
  | _ => ("", "", "", false)
def tyJxc12de : Nat → FieldType := fun k => match k with
  | _ => .int
theorem nmJxc12de : ∀ a, a < 0 → ∀ b, b < 0 → a ≠ b → (TJxc12de a).2.1 ≠ (TJxc12de b).2.1 := by decide +kernel
theorem tyJxc12de_ok : ∀ k, k < 0 → parseFieldDescriptor (TJxc12de k).2.2.1 = some (tyJxc12de k) := by decide +kernel
abbrev cJxc12de_init_da8c8 : ByteArray := prog_29_method_1_code
def yJxc12de_init_da8c8 : MethodName := ⟨RJxc12de, "<init>", "()V"⟩
def RJx35411 : String := "java/util/ArrayList$Itr"
def TJx35411 : u_T := fun k => match k with
  | 0 => ("java/util/ArrayList$Itr", "cursor", "I", false)
  | 1 => ("java/util/ArrayList$Itr", "lastRet", "I", false)
  | 2 => ("java/util/ArrayList$Itr", "expectedModCount", "I", false)
  | _ => ("java/util/ArrayList$Itr", "this$0", "Ljava/util/ArrayList;", true)
def tyJx35411 : Nat → FieldType := fun k => match k with
  | 0 => .int
  | 1 => .int
  | 2 => .int
  | _ => .object "java/util/ArrayList"
theorem nmJx35411 : ∀ a, a < 4 → ∀ b, b < 4 → a ≠ b → (TJx35411 a).2.1 ≠ (TJx35411 b).2.1 := by decide +kernel
theorem tyJx35411_ok : ∀ k, k < 4 → parseFieldDescriptor (TJx35411 k).2.2.1 = some (tyJx35411 k) := by decide +kernel
abbrev cJx35411_init_45d68 : ByteArray := prog_31_method_1_code
def yJx35411_init_45d68 : MethodName := ⟨RJx35411, "<init>", "(Ljava/util/ArrayList;)V"⟩
abbrev cJx35411_hasNext_aae02 : ByteArray := prog_31_method_2_code
def yJx35411_hasNext_aae02 : MethodName := ⟨RJx35411, "hasNext", "()Z"⟩
abbrev cJx35411_next_0502b : ByteArray := prog_31_method_3_code
def yJx35411_next_0502b : MethodName := ⟨RJx35411, "next", "()Ljava/lang/Object;"⟩
abbrev cJx35411_checkForComodification_da8c8 : ByteArray := prog_31_method_6_code
def yJx35411_checkForComodification_da8c8 : MethodName := ⟨RJx35411, "checkForComodification", "()V"⟩
def RJx4a65c : String := "java/util/ArrayList"
def TJx4a65c : u_T := fun k => match k with
  | 0 => ("java/util/AbstractList", "modCount", "I", false)
  | 1 => ("java/util/ArrayList", "elementData", "[Ljava/lang/Object;", false)
  | _ => ("java/util/ArrayList", "size", "I", false)
def tyJx4a65c : Nat → FieldType := fun k => match k with
  | 0 => .int
  | 1 => .array (.object "java/lang/Object")
  | _ => .int
theorem nmJx4a65c : ∀ a, a < 3 → ∀ b, b < 3 → a ≠ b → (TJx4a65c a).2.1 ≠ (TJx4a65c b).2.1 := by decide +kernel
theorem tyJx4a65c_ok : ∀ k, k < 3 → parseFieldDescriptor (TJx4a65c k).2.2.1 = some (tyJx4a65c k) := by decide +kernel
abbrev cJx4a65c_init_da8c8 : ByteArray := prog_30_method_2_code
def yJx4a65c_init_da8c8 : MethodName := ⟨RJx4a65c, "<init>", "()V"⟩
abbrev cJx4a65c_grow_92f84 : ByteArray := prog_30_method_6_code
def yJx4a65c_grow_92f84 : MethodName := ⟨RJx4a65c, "grow", "(I)[Ljava/lang/Object;"⟩
abbrev cJx4a65c_grow_d5877 : ByteArray := prog_30_method_7_code
def yJx4a65c_grow_d5877 : MethodName := ⟨RJx4a65c, "grow", "()[Ljava/lang/Object;"⟩
abbrev cJx4a65c_size_8abf5 : ByteArray := prog_30_method_8_code
def yJx4a65c_size_8abf5 : MethodName := ⟨RJx4a65c, "size", "()I"⟩
abbrev cJx4a65c_isEmpty_aae02 : ByteArray := prog_30_method_9_code
def yJx4a65c_isEmpty_aae02 : MethodName := ⟨RJx4a65c, "isEmpty", "()Z"⟩
abbrev cJx4a65c_toArray_d5877 : ByteArray := prog_30_method_16_code
def yJx4a65c_toArray_d5877 : MethodName := ⟨RJx4a65c, "toArray", "()[Ljava/lang/Object;"⟩
abbrev cJx4a65c_elementData_915e3 : ByteArray := prog_30_method_18_code
def yJx4a65c_elementData_915e3 : MethodName := ⟨RJx4a65c, "elementData", "(I)Ljava/lang/Object;"⟩
abbrev cJx4a65c_get_915e3 : ByteArray := prog_30_method_20_code
def yJx4a65c_get_915e3 : MethodName := ⟨RJx4a65c, "get", "(I)Ljava/lang/Object;"⟩
abbrev cJx4a65c_add_72be8 : ByteArray := prog_30_method_24_code
def yJx4a65c_add_72be8 : MethodName := ⟨RJx4a65c, "add", "(Ljava/lang/Object;[Ljava/lang/Object;I)V"⟩
abbrev cJx4a65c_add_9ea2d : ByteArray := prog_30_method_25_code
def yJx4a65c_add_9ea2d : MethodName := ⟨RJx4a65c, "add", "(Ljava/lang/Object;)Z"⟩
abbrev cJx4a65c_addAll_f0b43 : ByteArray := prog_30_method_41_code
def yJx4a65c_addAll_f0b43 : MethodName := ⟨RJx4a65c, "addAll", "(Ljava/util/Collection;)Z"⟩
abbrev cJx4a65c_iterator_32c93 : ByteArray := prog_30_method_55_code
def yJx4a65c_iterator_32c93 : MethodName := ⟨RJx4a65c, "iterator", "()Ljava/util/Iterator;"⟩
def RJ7 : String := "java/util/Arrays"
def TJ7 : u_T := fun k => match k with
  | _ => ("", "", "", false)
def tyJ7 : Nat → FieldType := fun k => match k with
  | _ => .int
theorem nmJ7 : ∀ a, a < 0 → ∀ b, b < 0 → a ≠ b → (TJ7 a).2.1 ≠ (TJ7 b).2.1 := by decide +kernel
theorem tyJ7_ok : ∀ k, k < 0 → parseFieldDescriptor (TJ7 k).2.2.1 = some (tyJ7 k) := by decide +kernel
abbrev cJ7_fill_53178 : ByteArray := prog_32_method_103_code
def yJ7_fill_53178 : MethodName := ⟨RJ7, "fill", "([II)V"⟩
abbrev cJ7_copyOf_1904c : ByteArray := prog_32_method_119_code
def yJ7_copyOf_1904c : MethodName := ⟨RJ7, "copyOf", "([Ljava/lang/Object;I)[Ljava/lang/Object;"⟩
abbrev cJ7_copyOf_6403c : ByteArray := prog_32_method_120_code
def yJ7_copyOf_6403c : MethodName := ⟨RJ7, "copyOf", "([Ljava/lang/Object;ILjava/lang/Class;)[Ljava/lang/Object;"⟩
def RJx5ef63 : String := "java/util/Collection"
def TJx5ef63 : u_T := fun k => match k with
  | _ => ("", "", "", false)
def tyJx5ef63 : Nat → FieldType := fun k => match k with
  | _ => .int
theorem nmJx5ef63 : ∀ a, a < 0 → ∀ b, b < 0 → a ≠ b → (TJx5ef63 a).2.1 ≠ (TJx5ef63 b).2.1 := by decide +kernel
theorem tyJx5ef63_ok : ∀ k, k < 0 → parseFieldDescriptor (TJx5ef63 k).2.2.1 = some (tyJx5ef63 k) := by decide +kernel
def RJx4d0d8 : String := "java/util/Iterator"
def TJx4d0d8 : u_T := fun k => match k with
  | _ => ("", "", "", false)
def tyJx4d0d8 : Nat → FieldType := fun k => match k with
  | _ => .int
theorem nmJx4d0d8 : ∀ a, a < 0 → ∀ b, b < 0 → a ≠ b → (TJx4d0d8 a).2.1 ≠ (TJx4d0d8 b).2.1 := by decide +kernel
theorem tyJx4d0d8_ok : ∀ k, k < 0 → parseFieldDescriptor (TJx4d0d8 k).2.2.1 = some (tyJx4d0d8 k) := by decide +kernel
def RJxbd725 : String := "java/util/List"
def TJxbd725 : u_T := fun k => match k with
  | _ => ("", "", "", false)
def tyJxbd725 : Nat → FieldType := fun k => match k with
  | _ => .int
theorem nmJxbd725 : ∀ a, a < 0 → ∀ b, b < 0 → a ≠ b → (TJxbd725 a).2.1 ≠ (TJxbd725 b).2.1 := by decide +kernel
theorem tyJxbd725_ok : ∀ k, k < 0 → parseFieldDescriptor (TJxbd725 k).2.2.1 = some (tyJxbd725 k) := by decide +kernel
def RJ15 : String := "java/util/Objects"
def TJ15 : u_T := fun k => match k with
  | _ => ("", "", "", false)
def tyJ15 : Nat → FieldType := fun k => match k with
  | _ => .int
theorem nmJ15 : ∀ a, a < 0 → ∀ b, b < 0 → a ≠ b → (TJ15 a).2.1 ≠ (TJ15 b).2.1 := by decide +kernel
theorem tyJ15_ok : ∀ k, k < 0 → parseFieldDescriptor (TJ15 k).2.2.1 = some (tyJ15 k) := by decide +kernel
abbrev cJ15_checkIndex_7cf53 : ByteArray := prog_36_method_17_code
def yJ15_checkIndex_7cf53 : MethodName := ⟨RJ15, "checkIndex", "(II)I"⟩
def RJxf0a74 : String := "java/util/RandomAccess"
def TJxf0a74 : u_T := fun k => match k with
  | _ => ("", "", "", false)
def tyJxf0a74 : Nat → FieldType := fun k => match k with
  | _ => .int
theorem nmJxf0a74 : ∀ a, a < 0 → ∀ b, b < 0 → a ≠ b → (TJxf0a74 a).2.1 ≠ (TJxf0a74 b).2.1 := by decide +kernel
theorem tyJxf0a74_ok : ∀ k, k < 0 → parseFieldDescriptor (TJxf0a74 k).2.2.1 = some (tyJxf0a74 k) := by decide +kernel
def RJxa66e6 : String := "java/util/SequencedCollection"
def TJxa66e6 : u_T := fun k => match k with
  | _ => ("", "", "", false)
def tyJxa66e6 : Nat → FieldType := fun k => match k with
  | _ => .int
theorem nmJxa66e6 : ∀ a, a < 0 → ∀ b, b < 0 → a ≠ b → (TJxa66e6 a).2.1 ≠ (TJxa66e6 b).2.1 := by decide +kernel
theorem tyJxa66e6_ok : ∀ k, k < 0 → parseFieldDescriptor (TJxa66e6 k).2.2.1 = some (tyJxa66e6 k) := by decide +kernel
def RJ8 : String := "jdk/internal/util/ArraysSupport"
def TJ8 : u_T := fun k => match k with
  | _ => ("", "", "", false)
def tyJ8 : Nat → FieldType := fun k => match k with
  | _ => .int
theorem nmJ8 : ∀ a, a < 0 → ∀ b, b < 0 → a ≠ b → (TJ8 a).2.1 ≠ (TJ8 b).2.1 := by decide +kernel
theorem tyJ8_ok : ∀ k, k < 0 → parseFieldDescriptor (TJ8 k).2.2.1 = some (tyJ8 k) := by decide +kernel
abbrev cJ8_newLength_cabcc : ByteArray := prog_39_method_27_code
def yJ8_newLength_cabcc : MethodName := ⟨RJ8, "newLength", "(III)I"⟩
abbrev cJ8_hugeLength_7cf53 : ByteArray := prog_39_method_28_code
def yJ8_hugeLength_7cf53 : MethodName := ⟨RJ8, "hugeLength", "(II)I"⟩
def RJ3 : String := "jdk/internal/util/Preconditions"
def TJ3 : u_T := fun k => match k with
  | _ => ("", "", "", false)
def tyJ3 : Nat → FieldType := fun k => match k with
  | _ => .int
theorem nmJ3 : ∀ a, a < 0 → ∀ b, b < 0 → a ≠ b → (TJ3 a).2.1 ≠ (TJ3 b).2.1 := by decide +kernel
theorem tyJ3_ok : ∀ k, k < 0 → parseFieldDescriptor (TJ3 k).2.2.1 = some (tyJ3 k) := by decide +kernel
abbrev cJ3_checkIndex_8e157 : ByteArray := prog_40_method_11_code
def yJ3_checkIndex_8e157 : MethodName := ⟨RJ3, "checkIndex", "(IILjava/util/function/BiFunction;)I"⟩
def RL : String := "ServiceApiaryLaw"
abbrev cL_open : ByteArray := method_3_code
def yL_open : MethodName := ⟨RL, "open", "(LServiceApiary;[J)I"⟩
abbrev cL_publish : ByteArray := method_4_code
def yL_publish : MethodName := ⟨RL, "publish", "(LServiceApiary;III[J)I"⟩
abbrev cL_ofVersion : ByteArray := method_5_code
def yL_ofVersion : MethodName := ⟨RL, "ofVersion", "(LServiceApiary;III[J)I"⟩
abbrev cL_isCompatible : ByteArray := method_6_code
def yL_isCompatible : MethodName := ⟨RL, "isCompatible", "(LServiceApiary;III[J)I"⟩
abbrev cL_client : ByteArray := method_7_code
def yL_client : MethodName := ⟨RL, "client", "(LServiceApiary;IIII[J)I"⟩
abbrev cL_again : ByteArray := method_8_code
def yL_again : MethodName := ⟨RL, "again", "(LServiceApiary;II[J)I"⟩
abbrev cL_adapter : ByteArray := method_9_code
def yL_adapter : MethodName := ⟨RL, "adapter", "(LServiceApiary;IIIII[J)I"⟩
abbrev cL_ofClient : ByteArray := method_10_code
def yL_ofClient : MethodName := ⟨RL, "ofClient", "(LServiceApiary;II[J)I"⟩
abbrev cL_routed : ByteArray := method_11_code
def yL_routed : MethodName := ⟨RL, "routed", "(LServiceApiary;II[J)I"⟩
abbrev cL_call : ByteArray := method_12_code
def yL_call : MethodName := ⟨RL, "call", "(LServiceApiary;II[J)I"⟩
abbrev cL_pass : ByteArray := method_13_code
def yL_pass : MethodName := ⟨RL, "pass", "(LServiceApiary;I[J)I"⟩
abbrev cL_lastCall : ByteArray := method_14_code
def yL_lastCall : MethodName := ⟨RL, "lastCall", "(LServiceApiary;II[J)I"⟩
abbrev cL_retire : ByteArray := method_15_code
def yL_retire : MethodName := ⟨RL, "retire", "(LServiceApiary;III[J)I"⟩
abbrev cL_answer : ByteArray := method_16_code
def yL_answer : MethodName := ⟨RL, "answer", "(LServiceApiary;III[J)I"⟩
abbrev cL_recall : ByteArray := method_17_code
def yL_recall : MethodName := ⟨RL, "recall", "(LServiceApiary;II[J)I"⟩
abbrev cL_asked : ByteArray := method_18_code
def yL_asked : MethodName := ⟨RL, "asked", "(LServiceApiary;III[J)I"⟩
abbrev cL_many : ByteArray := method_19_code
def yL_many : MethodName := ⟨RL, "many", "(LServiceApiary;I[J)I"⟩
abbrev cL_wouldCome : ByteArray := method_20_code
def yL_wouldCome : MethodName := ⟨RL, "wouldCome", "(LServiceApiary;II[J)I"⟩
abbrev cL_goneIn : ByteArray := method_21_code
def yL_goneIn : MethodName := ⟨RL, "goneIn", "(LServiceApiary;II[J)I"⟩
abbrev cL_wouldBreak : ByteArray := method_22_code
def yL_wouldBreak : MethodName := ⟨RL, "wouldBreak", "(LServiceApiary;III[J)I"⟩
abbrev cL_target : ByteArray := method_23_code
def yL_target : MethodName := ⟨RL, "target", "(LServiceApiary;I[J)I"⟩
abbrev cL_goneBy : ByteArray := method_24_code
def yL_goneBy : MethodName := ⟨RL, "goneBy", "(LServiceApiary;III[J)I"⟩
abbrev cL_law : ByteArray := code
def yL_law : MethodName := ⟨RL, "law", "([I)Z"⟩
abbrev vwC1 : List vw_C := [(RJx35411, TJx35411, 4), (RJx4a65c, TJx4a65c, 3), (RX2, TX2, 3), (RX3, TX3, 4), (RX4, TX4, 5), (RX6, TX6, 12), (RX10, TX10, 5), (RX12, TX12, 2)]
