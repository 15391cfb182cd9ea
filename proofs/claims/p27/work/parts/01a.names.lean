def RX0 : String := "ServiceApiary$Adapter"
def TX0 : u_T := fun k => match k with
  | 0 => ("ServiceApiary$Adapter", "from", "LServiceApiary$Version;", true)
  | 1 => ("ServiceApiary$Adapter", "to", "LServiceApiary$Version;", true)
  | 2 => ("ServiceApiary$Adapter", "adds", "I", true)
  | _ => ("ServiceApiary$Adapter", "drops", "I", true)
def tyX0 : Nat → FieldType := fun k => match k with
  | 0 => .object "ServiceApiary$Version"
  | 1 => .object "ServiceApiary$Version"
  | 2 => .int
  | _ => .int
theorem nmX0 : ∀ a, a < 4 → ∀ b, b < 4 → a ≠ b → (TX0 a).2.1 ≠ (TX0 b).2.1 := by decide +kernel
theorem tyX0_ok : ∀ k, k < 4 → parseFieldDescriptor (TX0 k).2.2.1 = some (tyX0 k) := by decide +kernel
abbrev cX0_init : ByteArray := prog_2_method_1_code
def yX0_init : MethodName := ⟨RX0, "<init>", "(LServiceApiary$Version;LServiceApiary$Version;II)V"⟩
abbrev cX0_makesOf : ByteArray := prog_2_method_2_code
def yX0_makesOf : MethodName := ⟨RX0, "makesOf", "(I)I"⟩
def RX1 : String := "ServiceApiary$Client"
def TX1 : u_T := fun k => match k with
  | 0 => ("ServiceApiary$Client", "owner", "I", true)
  | 1 => ("ServiceApiary$Client", "face", "LServiceApiary$Face;", true)
  | 2 => ("ServiceApiary$Client", "calledAt", "[I", true)
  | 3 => ("ServiceApiary$Client", "servedThisHour", "[I", true)
  | 4 => ("ServiceApiary$Client", "version", "LServiceApiary$Version;", false)
  | 5 => ("ServiceApiary$Client", "uses", "I", false)
  | 6 => ("ServiceApiary$Client", "callCount", "I", false)
  | _ => ("ServiceApiary$Client", "refusedCount", "I", false)
def tyX1 : Nat → FieldType := fun k => match k with
  | 0 => .int
  | 1 => .object "ServiceApiary$Face"
  | 2 => .array .int
  | 3 => .array .int
  | 4 => .object "ServiceApiary$Version"
  | 5 => .int
  | 6 => .int
  | _ => .int
theorem nmX1 : ∀ a, a < 8 → ∀ b, b < 8 → a ≠ b → (TX1 a).2.1 ≠ (TX1 b).2.1 := by decide +kernel
theorem tyX1_ok : ∀ k, k < 8 → parseFieldDescriptor (TX1 k).2.2.1 = some (tyX1 k) := by decide +kernel
abbrev cX1_init : ByteArray := prog_3_method_1_code
def yX1_init : MethodName := ⟨RX1, "<init>", "(ILServiceApiary$Version;I)V"⟩
abbrev cX1_calledAtOf : ByteArray := prog_3_method_2_code
def yX1_calledAtOf : MethodName := ⟨RX1, "calledAtOf", "(LServiceApiary$Version;)I"⟩
abbrev cX1_isCallerOf : ByteArray := prog_3_method_3_code
def yX1_isCallerOf : MethodName := ⟨RX1, "isCallerOf", "(LServiceApiary$Version;I)Z"⟩
abbrev cX1_servedThisHourBy : ByteArray := prog_3_method_4_code
def yX1_servedThisHourBy : MethodName := ⟨RX1, "servedThisHourBy", "(LServiceApiary$Version;)I"⟩
abbrev cX1_noteCall : ByteArray := prog_3_method_5_code
def yX1_noteCall : MethodName := ⟨RX1, "noteCall", "(IZ)V"⟩
def RX2 : String := "ServiceApiary$Face"
def TX2 : u_T := fun k => match k with
  | 0 => ("ServiceApiary$Face", "number", "I", true)
  | 1 => ("ServiceApiary$Face", "versions", "[LServiceApiary$Version;", true)
  | _ => ("ServiceApiary$Face", "count", "I", false)
def tyX2 : Nat → FieldType := fun k => match k with
  | 0 => .int
  | 1 => .array (.object "ServiceApiary$Version")
  | _ => .int
theorem nmX2 : ∀ a, a < 3 → ∀ b, b < 3 → a ≠ b → (TX2 a).2.1 ≠ (TX2 b).2.1 := by decide +kernel
theorem tyX2_ok : ∀ k, k < 3 → parseFieldDescriptor (TX2 k).2.2.1 = some (tyX2 k) := by decide +kernel
abbrev cX2_init : ByteArray := prog_4_method_1_code
def yX2_init : MethodName := ⟨RX2, "<init>", "(I)V"⟩
abbrev cX2_versionAt : ByteArray := prog_4_method_2_code
def yX2_versionAt : MethodName := ⟨RX2, "versionAt", "(I)LServiceApiary$Version;"⟩
def RX3 : String := "ServiceApiary$Retirement"
def TX3 : u_T := fun k => match k with
  | 0 => ("ServiceApiary$Retirement", "askedAt", "[I", true)
  | 1 => ("ServiceApiary$Retirement", "began", "I", false)
  | 2 => ("ServiceApiary$Retirement", "end", "I", false)
  | _ => ("ServiceApiary$Retirement", "answered", "I", false)
def tyX3 : Nat → FieldType := fun k => match k with
  | 0 => .array .int
  | 1 => .int
  | 2 => .int
  | _ => .int
theorem nmX3 : ∀ a, a < 4 → ∀ b, b < 4 → a ≠ b → (TX3 a).2.1 ≠ (TX3 b).2.1 := by decide +kernel
theorem tyX3_ok : ∀ k, k < 4 → parseFieldDescriptor (TX3 k).2.2.1 = some (tyX3 k) := by decide +kernel
abbrev cX3_init : ByteArray := prog_5_method_1_code
def yX3_init : MethodName := ⟨RX3, "<init>", "()V"⟩
abbrev cX3_start : ByteArray := prog_5_method_2_code
def yX3_start : MethodName := ⟨RX3, "start", "(II)V"⟩
abbrev cX3_clear : ByteArray := prog_5_method_3_code
def yX3_clear : MethodName := ⟨RX3, "clear", "()V"⟩
abbrev cX3_askedAtOf : ByteArray := prog_5_method_4_code
def yX3_askedAtOf : MethodName := ⟨RX3, "askedAtOf", "(I)I"⟩
abbrev cX3_ask : ByteArray := prog_5_method_5_code
def yX3_ask : MethodName := ⟨RX3, "ask", "(II)Z"⟩
abbrev cX3_hasAnswered : ByteArray := prog_5_method_6_code
def yX3_hasAnswered : MethodName := ⟨RX3, "hasAnswered", "(I)Z"⟩
abbrev cX3_isWarned : ByteArray := prog_5_method_7_code
def yX3_isWarned : MethodName := ⟨RX3, "isWarned", "(II)Z"⟩
abbrev cX3_isBrownedOut : ByteArray := prog_5_method_8_code
def yX3_isBrownedOut : MethodName := ⟨RX3, "isBrownedOut", "(I)Z"⟩
abbrev cX3_quota : ByteArray := prog_5_method_9_code
def yX3_quota : MethodName := ⟨RX3, "quota", "(I)I"⟩
def RX4 : String := "ServiceApiary$Route"
def TX4 : u_T := fun k => match k with
  | 0 => ("ServiceApiary$Route", "steps", "[I", true)
  | 1 => ("ServiceApiary$Route", "length", "I", false)
  | 2 => ("ServiceApiary$Route", "leadsTo", "I", false)
  | 3 => ("ServiceApiary$Route", "makes", "I", false)
  | _ => ("ServiceApiary$Route", "shut", "LServiceApiary$Version;", false)
def tyX4 : Nat → FieldType := fun k => match k with
  | 0 => .array .int
  | 1 => .int
  | 2 => .int
  | 3 => .int
  | _ => .object "ServiceApiary$Version"
theorem nmX4 : ∀ a, a < 5 → ∀ b, b < 5 → a ≠ b → (TX4 a).2.1 ≠ (TX4 b).2.1 := by decide +kernel
theorem tyX4_ok : ∀ k, k < 5 → parseFieldDescriptor (TX4 k).2.2.1 = some (tyX4 k) := by decide +kernel
abbrev cX4_init : ByteArray := prog_6_method_1_code
def yX4_init : MethodName := ⟨RX4, "<init>", "()V"⟩
def RX5 : String := "ServiceApiary$Version"
def TX5 : u_T := fun k => match k with
  | 0 => ("ServiceApiary$Version", "face", "LServiceApiary$Face;", true)
  | 1 => ("ServiceApiary$Version", "number", "I", true)
  | 2 => ("ServiceApiary$Version", "has", "I", true)
  | 3 => ("ServiceApiary$Version", "needs", "I", true)
  | 4 => ("ServiceApiary$Version", "retirement", "LServiceApiary$Retirement;", true)
  | 5 => ("ServiceApiary$Version", "state", "I", false)
  | 6 => ("ServiceApiary$Version", "putOffCount", "I", false)
  | 7 => ("ServiceApiary$Version", "callCount", "I", false)
  | _ => ("ServiceApiary$Version", "refusedCount", "I", false)
def tyX5 : Nat → FieldType := fun k => match k with
  | 0 => .object "ServiceApiary$Face"
  | 1 => .int
  | 2 => .int
  | 3 => .int
  | 4 => .object "ServiceApiary$Retirement"
  | 5 => .int
  | 6 => .int
  | 7 => .int
  | _ => .int
theorem nmX5 : ∀ a, a < 9 → ∀ b, b < 9 → a ≠ b → (TX5 a).2.1 ≠ (TX5 b).2.1 := by decide +kernel
theorem tyX5_ok : ∀ k, k < 9 → parseFieldDescriptor (TX5 k).2.2.1 = some (tyX5 k) := by decide +kernel
abbrev cX5_init : ByteArray := prog_7_method_1_code
def yX5_init : MethodName := ⟨RX5, "<init>", "(LServiceApiary$Face;III)V"⟩
abbrev cX5_suits : ByteArray := prog_7_method_2_code
def yX5_suits : MethodName := ⟨RX5, "suits", "(LServiceApiary$Version;)Z"⟩
abbrev cX5_usesAgain : ByteArray := prog_7_method_3_code
def yX5_usesAgain : MethodName := ⟨RX5, "usesAgain", "(I)I"⟩
def RX6 : String := "ServiceApiary"
def TX6 : u_T := fun k => match k with
  | 0 => ("ServiceApiary", "faces", "[LServiceApiary$Face;", true)
  | 1 => ("ServiceApiary", "clients", "[LServiceApiary$Client;", true)
  | 2 => ("ServiceApiary", "adapters", "[LServiceApiary$Adapter;", true)
  | 3 => ("ServiceApiary", "faceCount", "I", false)
  | 4 => ("ServiceApiary", "clientCount", "I", false)
  | 5 => ("ServiceApiary", "adapterCount", "I", false)
  | 6 => ("ServiceApiary", "now", "I", false)
  | 7 => ("ServiceApiary", "callCount", "I", false)
  | 8 => ("ServiceApiary", "refusedCount", "I", false)
  | 9 => ("ServiceApiary", "byRouteCount", "I", false)
  | 10 => ("ServiceApiary", "route", "LServiceApiary$Route;", true)
  | _ => ("ServiceApiary", "trial", "LServiceApiary$Retirement;", true)
def tyX6 : Nat → FieldType := fun k => match k with
  | 0 => .array (.object "ServiceApiary$Face")
  | 1 => .array (.object "ServiceApiary$Client")
  | 2 => .array (.object "ServiceApiary$Adapter")
  | 3 => .int
  | 4 => .int
  | 5 => .int
  | 6 => .int
  | 7 => .int
  | 8 => .int
  | 9 => .int
  | 10 => .object "ServiceApiary$Route"
  | _ => .object "ServiceApiary$Retirement"
theorem nmX6 : ∀ a, a < 12 → ∀ b, b < 12 → a ≠ b → (TX6 a).2.1 ≠ (TX6 b).2.1 := by decide +kernel
theorem tyX6_ok : ∀ k, k < 12 → parseFieldDescriptor (TX6 k).2.2.1 = some (tyX6 k) := by decide +kernel
abbrev cX6_init : ByteArray := prog_1_method_1_code
def yX6_init : MethodName := ⟨RX6, "<init>", "()V"⟩
abbrev cX6_open : ByteArray := prog_1_method_2_code
def yX6_open : MethodName := ⟨RX6, "open", "()I"⟩
abbrev cX6_publish : ByteArray := prog_1_method_3_code
def yX6_publish : MethodName := ⟨RX6, "publish", "(III)I"⟩
abbrev cX6_ofVersion : ByteArray := prog_1_method_4_code
def yX6_ofVersion : MethodName := ⟨RX6, "ofVersion", "(III)I"⟩
abbrev cX6_isCompatible : ByteArray := prog_1_method_5_code
def yX6_isCompatible : MethodName := ⟨RX6, "isCompatible", "(III)Z"⟩
abbrev cX6_client : ByteArray := prog_1_method_6_code
def yX6_client : MethodName := ⟨RX6, "client", "(IIII)I"⟩
abbrev cX6_again : ByteArray := prog_1_method_7_code
def yX6_again : MethodName := ⟨RX6, "again", "(II)I"⟩
abbrev cX6_adapter : ByteArray := prog_1_method_8_code
def yX6_adapter : MethodName := ⟨RX6, "adapter", "(IIIII)I"⟩
abbrev cX6_ofClient : ByteArray := prog_1_method_9_code
def yX6_ofClient : MethodName := ⟨RX6, "ofClient", "(II)I"⟩
abbrev cX6_call : ByteArray := prog_1_method_11_code
def yX6_call : MethodName := ⟨RX6, "call", "(II)I"⟩
abbrev cX6_pass : ByteArray := prog_1_method_12_code
def yX6_pass : MethodName := ⟨RX6, "pass", "(I)I"⟩
abbrev cX6_lastCall : ByteArray := prog_1_method_13_code
def yX6_lastCall : MethodName := ⟨RX6, "lastCall", "(II)I"⟩
abbrev cX6_retire : ByteArray := prog_1_method_14_code
def yX6_retire : MethodName := ⟨RX6, "retire", "(III)I"⟩
abbrev cX6_answer : ByteArray := prog_1_method_15_code
def yX6_answer : MethodName := ⟨RX6, "answer", "(III)Z"⟩
abbrev cX6_asked : ByteArray := prog_1_method_17_code
def yX6_asked : MethodName := ⟨RX6, "asked", "(III)I"⟩
abbrev cX6_many : ByteArray := prog_1_method_18_code
def yX6_many : MethodName := ⟨RX6, "many", "(I)I"⟩
abbrev cX6_wouldCome : ByteArray := prog_1_method_20_code
def yX6_wouldCome : MethodName := ⟨RX6, "wouldCome", "(II)I"⟩
abbrev cX6_target : ByteArray := prog_1_method_23_code
def yX6_target : MethodName := ⟨RX6, "target", "(I)I"⟩
abbrev cX6_digest : ByteArray := prog_1_method_25_code
def yX6_digest : MethodName := ⟨RX6, "digest", "()J"⟩
abbrev cX6_faceAt : ByteArray := prog_1_method_26_code
def yX6_faceAt : MethodName := ⟨RX6, "faceAt", "(I)LServiceApiary$Face;"⟩
abbrev cX6_versionAt : ByteArray := prog_1_method_27_code
def yX6_versionAt : MethodName := ⟨RX6, "versionAt", "(II)LServiceApiary$Version;"⟩
abbrev cX6_clientAt : ByteArray := prog_1_method_28_code
def yX6_clientAt : MethodName := ⟨RX6, "clientAt", "(I)LServiceApiary$Client;"⟩
abbrev cX6_isOwner : ByteArray := prog_1_method_29_code
def yX6_isOwner : MethodName := ⟨RX6, "isOwner", "(I)Z"⟩
abbrev cX6_isFieldSet : ByteArray := prog_1_method_30_code
def yX6_isFieldSet : MethodName := ⟨RX6, "isFieldSet", "(I)Z"⟩
abbrev cX6_isShape : ByteArray := prog_1_method_31_code
def yX6_isShape : MethodName := ⟨RX6, "isShape", "(II)Z"⟩
abbrev cX6_fits : ByteArray := prog_1_method_32_code
def yX6_fits : MethodName := ⟨RX6, "fits", "(III)Z"⟩
abbrev cX6_countSuited : ByteArray := prog_1_method_33_code
def yX6_countSuited : MethodName := ⟨RX6, "countSuited", "(LServiceApiary$Version;)I"⟩
abbrev cX6_versionFact : ByteArray := prog_1_method_34_code
def yX6_versionFact : MethodName := ⟨RX6, "versionFact", "(LServiceApiary$Version;I)I"⟩
abbrev cX6_clientFact : ByteArray := prog_1_method_35_code
def yX6_clientFact : MethodName := ⟨RX6, "clientFact", "(LServiceApiary$Client;I)I"⟩
abbrev cX6_countOf : ByteArray := prog_1_method_36_code
def yX6_countOf : MethodName := ⟨RX6, "countOf", "(I)I"⟩
abbrev cX6_countVersions : ByteArray := prog_1_method_37_code
def yX6_countVersions : MethodName := ⟨RX6, "countVersions", "(I)I"⟩
abbrev cX6_countCallers : ByteArray := prog_1_method_38_code
def yX6_countCallers : MethodName := ⟨RX6, "countCallers", "(LServiceApiary$Version;)I"⟩
abbrev cX6_countGeneratedFor : ByteArray := prog_1_method_39_code
def yX6_countGeneratedFor : MethodName := ⟨RX6, "countGeneratedFor", "(LServiceApiary$Version;)I"⟩
abbrev cX6_hoursSinceCall : ByteArray := prog_1_method_40_code
def yX6_hoursSinceCall : MethodName := ⟨RX6, "hoursSinceCall", "(LServiceApiary$Client;LServiceApiary$Version;)I"⟩
abbrev cX6_askedState : ByteArray := prog_1_method_41_code
def yX6_askedState : MethodName := ⟨RX6, "askedState", "(ILServiceApiary$Version;)I"⟩
abbrev cX6_nearestOpen : ByteArray := prog_1_method_42_code
def yX6_nearestOpen : MethodName := ⟨RX6, "nearestOpen", "(LServiceApiary$Client;)I"⟩
abbrev cX6_findOwnRoute : ByteArray := prog_1_method_43_code
def yX6_findOwnRoute : MethodName := ⟨RX6, "findOwnRoute", "(LServiceApiary$Client;)Z"⟩
abbrev cX6_findRoute : ByteArray := prog_1_method_44_code
def yX6_findRoute : MethodName := ⟨RX6, "findRoute", "(LServiceApiary$Client;LServiceApiary$Version;LServiceApiary$Version;)Z"⟩
abbrev cX6_completes : ByteArray := prog_1_method_45_code
def yX6_completes : MethodName := ⟨RX6, "completes", "(LServiceApiary$Route;[LServiceApiary$Adapter;LServiceApiary$Version;II)Z"⟩
abbrev cX6_isServedCall : ByteArray := prog_1_method_46_code
def yX6_isServedCall : MethodName := ⟨RX6, "isServedCall", "(LServiceApiary$Client;)Z"⟩
abbrev cX6_outcomeOf : ByteArray := prog_1_method_47_code
def yX6_outcomeOf : MethodName := ⟨RX6, "outcomeOf", "(LServiceApiary$Client;III)I"⟩
abbrev cX6_outcomeIn : ByteArray := prog_1_method_48_code
def yX6_outcomeIn : MethodName := ⟨RX6, "outcomeIn", "(LServiceApiary$Client;I)I"⟩
abbrev cX6_beginHour : ByteArray := prog_1_method_49_code
def yX6_beginHour : MethodName := ⟨RX6, "beginHour", "()I"⟩
abbrev cX6_isGoneAtEnd : ByteArray := prog_1_method_50_code
def yX6_isGoneAtEnd : MethodName := ⟨RX6, "isGoneAtEnd", "(LServiceApiary$Version;)Z"⟩
abbrev cX6_startRetirement : ByteArray := prog_1_method_51_code
def yX6_startRetirement : MethodName := ⟨RX6, "startRetirement", "(LServiceApiary$Version;LServiceApiary$Retirement;I)I"⟩
abbrev cX6_countHinderers : ByteArray := prog_1_method_52_code
def yX6_countHinderers : MethodName := ⟨RX6, "countHinderers", "(LServiceApiary$Version;LServiceApiary$Retirement;IZ)I"⟩
abbrev cX6_isCallerThen : ByteArray := prog_1_method_53_code
def yX6_isCallerThen : MethodName := ⟨RX6, "isCallerThen", "(LServiceApiary$Client;LServiceApiary$Version;IZ)Z"⟩
abbrev cX6_hoursTillGone : ByteArray := prog_1_method_54_code
def yX6_hoursTillGone : MethodName := ⟨RX6, "hoursTillGone", "(LServiceApiary$Version;LServiceApiary$Retirement;Z)I"⟩
abbrev cX6_hoursLeft : ByteArray := prog_1_method_55_code
def yX6_hoursLeft : MethodName := ⟨RX6, "hoursLeft", "(LServiceApiary$Version;)I"⟩
abbrev cX6_digestVersion : ByteArray := prog_1_method_56_code
def yX6_digestVersion : MethodName := ⟨RX6, "digestVersion", "(JLServiceApiary$Version;)J"⟩
abbrev cX6_digestClient : ByteArray := prog_1_method_57_code
def yX6_digestClient : MethodName := ⟨RX6, "digestClient", "(JLServiceApiary$Client;)J"⟩
def RX7 : String := "ServiceApiaryModel$Adapter"
def TX7 : u_T := fun k => match k with
  | _ => ("", "", "", false)
def tyX7 : Nat → FieldType := fun k => match k with
  | _ => .int
theorem nmX7 : ∀ a, a < 0 → ∀ b, b < 0 → a ≠ b → (TX7 a).2.1 ≠ (TX7 b).2.1 := by decide +kernel
theorem tyX7_ok : ∀ k, k < 0 → parseFieldDescriptor (TX7 k).2.2.1 = some (tyX7 k) := by decide +kernel
def RX8 : String := "ServiceApiaryModel$Call"
def TX8 : u_T := fun k => match k with
  | _ => ("", "", "", false)
def tyX8 : Nat → FieldType := fun k => match k with
  | _ => .int
theorem nmX8 : ∀ a, a < 0 → ∀ b, b < 0 → a ≠ b → (TX8 a).2.1 ≠ (TX8 b).2.1 := by decide +kernel
theorem tyX8_ok : ∀ k, k < 0 → parseFieldDescriptor (TX8 k).2.2.1 = some (tyX8 k) := by decide +kernel
def RX9 : String := "ServiceApiaryModel$Client"
def TX9 : u_T := fun k => match k with
  | _ => ("", "", "", false)
def tyX9 : Nat → FieldType := fun k => match k with
  | _ => .int
theorem nmX9 : ∀ a, a < 0 → ∀ b, b < 0 → a ≠ b → (TX9 a).2.1 ≠ (TX9 b).2.1 := by decide +kernel
theorem tyX9_ok : ∀ k, k < 0 → parseFieldDescriptor (TX9 k).2.2.1 = some (tyX9 k) := by decide +kernel
def RX10 : String := "ServiceApiaryModel$Registry"
def TX10 : u_T := fun k => match k with
  | _ => ("", "", "", false)
def tyX10 : Nat → FieldType := fun k => match k with
  | _ => .int
theorem nmX10 : ∀ a, a < 0 → ∀ b, b < 0 → a ≠ b → (TX10 a).2.1 ≠ (TX10 b).2.1 := by decide +kernel
theorem tyX10_ok : ∀ k, k < 0 → parseFieldDescriptor (TX10 k).2.2.1 = some (tyX10 k) := by decide +kernel
def RX11 : String := "ServiceApiaryModel$Version"
def TX11 : u_T := fun k => match k with
  | _ => ("", "", "", false)
def tyX11 : Nat → FieldType := fun k => match k with
  | _ => .int
theorem nmX11 : ∀ a, a < 0 → ∀ b, b < 0 → a ≠ b → (TX11 a).2.1 ≠ (TX11 b).2.1 := by decide +kernel
theorem tyX11_ok : ∀ k, k < 0 → parseFieldDescriptor (TX11 k).2.2.1 = some (tyX11 k) := by decide +kernel
def RX12 : String := "ServiceApiaryModel"
def TX12 : u_T := fun k => match k with
  | _ => ("", "", "", false)
def tyX12 : Nat → FieldType := fun k => match k with
  | _ => .int
theorem nmX12 : ∀ a, a < 0 → ∀ b, b < 0 → a ≠ b → (TX12 a).2.1 ≠ (TX12 b).2.1 := by decide +kernel
theorem tyX12_ok : ∀ k, k < 0 → parseFieldDescriptor (TX12 k).2.2.1 = some (tyX12 k) := by decide +kernel
def RJx145de : String := "java/io/Serializable"
def TJx145de : u_T := fun k => match k with
  | _ => ("", "", "", false)
def tyJx145de : Nat → FieldType := fun k => match k with
  | _ => .int
theorem nmJx145de : ∀ a, a < 0 → ∀ b, b < 0 → a ≠ b → (TJx145de a).2.1 ≠ (TJx145de b).2.1 := by decide +kernel
theorem tyJx145de_ok : ∀ k, k < 0 → parseFieldDescriptor (TJx145de k).2.2.1 = some (tyJx145de k) := by decide +kernel
def RJ6 : String := "java/lang/Integer"
def TJ6 : u_T := fun k => match k with
  | _ => ("", "", "", false)
def tyJ6 : Nat → FieldType := fun k => match k with
  | _ => .int
theorem nmJ6 : ∀ a, a < 0 → ∀ b, b < 0 → a ≠ b → (TJ6 a).2.1 ≠ (TJ6 b).2.1 := by decide +kernel
theorem tyJ6_ok : ∀ k, k < 0 → parseFieldDescriptor (TJ6 k).2.2.1 = some (tyJ6 k) := by decide +kernel
abbrev cJ6_bitCount_0f7a4 : ByteArray := prog_19_method_49_code
def yJ6_bitCount_0f7a4 : MethodName := ⟨RJ6, "bitCount", "(I)I"⟩
def RJ9 : String := "java/lang/Math"
def TJ9 : u_T := fun k => match k with
  | _ => ("", "", "", false)
def tyJ9 : Nat → FieldType := fun k => match k with
  | _ => .int
theorem nmJ9 : ∀ a, a < 0 → ∀ b, b < 0 → a ≠ b → (TJ9 a).2.1 ≠ (TJ9 b).2.1 := by decide +kernel
theorem tyJ9_ok : ∀ k, k < 0 → parseFieldDescriptor (TJ9 k).2.2.1 = some (tyJ9 k) := by decide +kernel
abbrev cJ9_max_7cf53 : ByteArray := prog_20_method_65_code
def yJ9_max_7cf53 : MethodName := ⟨RJ9, "max", "(II)I"⟩
def RJ0 : String := "java/lang/String"
def TJ0 : u_T := fun k => match k with
  | _ => ("", "", "", false)
def tyJ0 : Nat → FieldType := fun k => match k with
  | _ => .int
theorem nmJ0 : ∀ a, a < 0 → ∀ b, b < 0 → a ≠ b → (TJ0 a).2.1 ≠ (TJ0 b).2.1 := by decide +kernel
theorem tyJ0_ok : ∀ k, k < 0 → parseFieldDescriptor (TJ0 k).2.2.1 = some (tyJ0 k) := by decide +kernel
def RJ7 : String := "java/util/Arrays"
def TJ7 : u_T := fun k => match k with
  | _ => ("", "", "", false)
def tyJ7 : Nat → FieldType := fun k => match k with
  | _ => .int
theorem nmJ7 : ∀ a, a < 0 → ∀ b, b < 0 → a ≠ b → (TJ7 a).2.1 ≠ (TJ7 b).2.1 := by decide +kernel
theorem tyJ7_ok : ∀ k, k < 0 → parseFieldDescriptor (TJ7 k).2.2.1 = some (tyJ7 k) := by decide +kernel
abbrev cJ7_fill_53178 : ByteArray := prog_24_method_103_code
def yJ7_fill_53178 : MethodName := ⟨RJ7, "fill", "([II)V"⟩
def RL : String := "ServiceApiaryLaw"
abbrev cL_below : ByteArray := method_2_code
def yL_below : MethodName := ⟨RL, "below", "(II)I"⟩
abbrev cL_cell : ByteArray := method_3_code
def yL_cell : MethodName := ⟨RL, "cell", "([II)I"⟩
abbrev cL_law : ByteArray := code
def yL_law : MethodName := ⟨RL, "law", "([I)Z"⟩
abbrev cL_isKind : ByteArray := method_5_code
def yL_isKind : MethodName := ⟨RL, "isKind", "(LServiceApiary;II)Z"⟩
abbrev vwCl : List vw_C := [(RX0, TX0, 4), (RX1, TX1, 8), (RX2, TX2, 3), (RX3, TX3, 4), (RX4, TX4, 5), (RX5, TX5, 9), (RX6, TX6, 12)]
