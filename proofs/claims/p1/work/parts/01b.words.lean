/-! the words that a program's rows rest on: those of the tables that the tables alone decide -/
def xTs : List Cond := lw_tbl.filter goodWord
theorem xTs_1 {w : Cond} {i : Nat} (h : tables_1_1[i]? = some w) (g : goodWord w = true) : w ∈ xTs := List.mem_filter.mpr ⟨List.mem_append_right _ (List.mem_append_left _ (List.mem_of_getElem? h)), g⟩
theorem xTs_2 {w : Cond} {i : Nat} (h : tables_1_2[i]? = some w) (g : goodWord w = true) : w ∈ xTs := List.mem_filter.mpr ⟨List.mem_append_right _ (List.mem_append_right _ (List.mem_append_left _ (List.mem_of_getElem? h))), g⟩
theorem xTs_3 {w : Cond} {i : Nat} (h : tables_1_3[i]? = some w) (g : goodWord w = true) : w ∈ xTs := List.mem_filter.mpr ⟨List.mem_append_right _ (List.mem_append_right _ (List.mem_append_right _ (List.mem_append_left _ (List.mem_of_getElem? h)))), g⟩
theorem xTs_4 {w : Cond} {i : Nat} (h : tables_1_4[i]? = some w) (g : goodWord w = true) : w ∈ xTs := List.mem_filter.mpr ⟨List.mem_append_right _ (List.mem_append_right _ (List.mem_append_right _ (List.mem_append_right _ (List.mem_append_left _ (List.mem_of_getElem? h))))), g⟩
theorem xTs_5 {w : Cond} {i : Nat} (h : tables_1_5[i]? = some w) (g : goodWord w = true) : w ∈ xTs := List.mem_filter.mpr ⟨List.mem_append_right _ (List.mem_append_right _ (List.mem_append_right _ (List.mem_append_right _ (List.mem_append_right _ (List.mem_append_left _ (List.mem_of_getElem? h)))))), g⟩
theorem xTs_6 {w : Cond} {i : Nat} (h : tables_1_6[i]? = some w) (g : goodWord w = true) : w ∈ xTs := List.mem_filter.mpr ⟨List.mem_append_right _ (List.mem_append_right _ (List.mem_append_right _ (List.mem_append_right _ (List.mem_append_right _ (List.mem_append_right _ (List.mem_append_left _ (List.mem_of_getElem? h))))))), g⟩
theorem xTs_7 {w : Cond} {i : Nat} (h : tables_1_7[i]? = some w) (g : goodWord w = true) : w ∈ xTs := List.mem_filter.mpr ⟨List.mem_append_right _ (List.mem_append_right _ (List.mem_append_right _ (List.mem_append_right _ (List.mem_append_right _ (List.mem_append_right _ (List.mem_append_right _ (List.mem_of_getElem? h))))))), g⟩
theorem xTs_0 {w : Cond} {i : Nat} (h : (k2_sels lw_privs)[i]? = some w) (g : goodWord w = true) : w ∈ xTs := List.mem_filter.mpr ⟨List.mem_append_left _ (List.mem_of_getElem? h), g⟩
theorem xTs_sub : ∀ w ∈ xTs, w ∈ lw_tbl := fun w h => (List.mem_filter.mp h).1
theorem xTs_good : GoodIn xTs xTs := fun w h => ⟨h, good_of_word (List.mem_filter.mp h).2⟩
def yIt : MethodName := ⟨"java/util/Iterator", "hasNext", "()Z"⟩
set_option maxRecDepth 20000 in
theorem q0 : (Cond.initialized RL) ∈ xTs := xTs_1 (i := 0) rfl rfl
set_option maxRecDepth 20000 in
theorem q1 : (Cond.initialized RX6) ∈ xTs := xTs_1 (i := 1) rfl rfl
set_option maxRecDepth 20000 in
theorem q2 : (Cond.initialized RX4) ∈ xTs := xTs_1 (i := 2) rfl rfl
set_option maxRecDepth 20000 in
theorem q3 : (Cond.initialized RX3) ∈ xTs := xTs_1 (i := 3) rfl rfl
set_option maxRecDepth 20000 in
theorem q4 : (Cond.initialized RJ7) ∈ xTs := xTs_1 (i := 4) rfl rfl
set_option maxRecDepth 20000 in
theorem q5 : (Cond.initialized RX12) ∈ xTs := xTs_1 (i := 5) rfl rfl
set_option maxRecDepth 20000 in
theorem q6 : (Cond.initialized RX10) ∈ xTs := xTs_1 (i := 6) rfl rfl
set_option maxRecDepth 20000 in
theorem q7 : (Cond.initialized RJxa1e45) ∈ xTs := xTs_1 (i := 7) rfl rfl
set_option maxRecDepth 20000 in
theorem q8 : (Cond.initialized RJxc12de) ∈ xTs := xTs_1 (i := 8) rfl rfl
set_option maxRecDepth 20000 in
theorem q9 : (Cond.initialized RJx4a65c) ∈ xTs := xTs_1 (i := 9) rfl rfl
set_option maxRecDepth 20000 in
theorem q10 : (Cond.initialized "java/lang/Throwable") ∈ xTs := xTs_1 (i := 10) rfl rfl
set_option maxRecDepth 20000 in
theorem q11 : (Cond.initialized "java/lang/Exception") ∈ xTs := xTs_1 (i := 11) rfl rfl
set_option maxRecDepth 20000 in
theorem q12 : (Cond.initialized "java/lang/RuntimeException") ∈ xTs := xTs_1 (i := 12) rfl rfl
set_option maxRecDepth 20000 in
theorem q13 : (Cond.initialized "java/lang/IllegalStateException") ∈ xTs := xTs_1 (i := 13) rfl rfl
set_option maxRecDepth 20000 in
theorem q14 : (Cond.initialized RX2) ∈ xTs := xTs_1 (i := 14) rfl rfl
set_option maxRecDepth 20000 in
theorem q15 : (Cond.initialized RJ8) ∈ xTs := xTs_1 (i := 15) rfl rfl
set_option maxRecDepth 20000 in
theorem q16 : (Cond.initialized RJ9) ∈ xTs := xTs_1 (i := 16) rfl rfl
set_option maxRecDepth 20000 in
theorem q17 : (Cond.initialized RJ10) ∈ xTs := xTs_1 (i := 17) rfl rfl
set_option maxRecDepth 20000 in
theorem q18 : (Cond.initialized "java/lang/IndexOutOfBoundsException") ∈ xTs := xTs_1 (i := 18) rfl rfl
set_option maxRecDepth 20000 in
theorem q19 : (Cond.initialized "java/lang/IllegalArgumentException") ∈ xTs := xTs_1 (i := 19) rfl rfl
set_option maxRecDepth 20000 in
theorem q20 : (Cond.initialized RX5) ∈ xTs := xTs_1 (i := 20) rfl rfl
set_option maxRecDepth 20000 in
theorem q21 : (Cond.initialized RJ15) ∈ xTs := xTs_1 (i := 21) rfl rfl
set_option maxRecDepth 20000 in
theorem q22 : (Cond.initialized RJ3) ∈ xTs := xTs_1 (i := 22) rfl rfl
set_option maxRecDepth 20000 in
theorem q23 : (Cond.initialized RX11) ∈ xTs := xTs_1 (i := 23) rfl rfl
set_option maxRecDepth 20000 in
theorem q24 : (Cond.initialized RJx35411) ∈ xTs := xTs_1 (i := 24) rfl rfl
set_option maxRecDepth 20000 in
theorem q25 : (Cond.initialized RX1) ∈ xTs := xTs_1 (i := 25) rfl rfl
set_option maxRecDepth 20000 in
theorem q26 : (Cond.initialized RX9) ∈ xTs := xTs_1 (i := 26) rfl rfl
set_option maxRecDepth 20000 in
theorem q27 : (Cond.initialized RX0) ∈ xTs := xTs_1 (i := 27) rfl rfl
set_option maxRecDepth 20000 in
theorem q28 : (Cond.initialized RX7) ∈ xTs := xTs_1 (i := 28) rfl rfl
set_option maxRecDepth 20000 in
theorem q29 : (Cond.initialized RX8) ∈ xTs := xTs_1 (i := 29) rfl rfl
set_option maxRecDepth 20000 in
theorem q30 : (Cond.initialized RJ6) ∈ xTs := xTs_1 (i := 30) rfl rfl
set_option maxRecDepth 20000 in
theorem q31 : (Cond.classLink RL 8 RX6) ∈ xTs := xTs_1 (i := 31) rfl rfl
set_option maxRecDepth 20000 in
theorem q32 : (Cond.instantiable RX6 12) ∈ xTs := xTs_1 (i := 32) rfl rfl
set_option maxRecDepth 20000 in
theorem q33 : (Cond.methodLink RL 88 yX6_init) ∈ xTs := xTs_1 (i := 33) rfl rfl
set_option maxRecDepth 20000 in
theorem q34 : (Cond.instanceMethod yX6_init) ∈ xTs := xTs_1 (i := 34) rfl rfl
set_option maxRecDepth 20000 in
theorem q35 : (Cond.code yX6_init cX6_init 1 (Option.none : Option Jvm.ClassFile.FieldType)) ∈ xTs := xTs_1 (i := 35) rfl rfl
set_option maxRecDepth 20000 in
theorem q36 : (Cond.methodLink RX6 1 objectInit) ∈ xTs := xTs_1 (i := 36) rfl rfl
set_option maxRecDepth 20000 in
theorem q37 : (Cond.instanceMethod objectInit) ∈ xTs := xTs_1 (i := 37) rfl rfl
set_option maxRecDepth 20000 in
theorem q38 : (Cond.code objectInit ⟨#[0xb1]⟩ 1 none) ∈ xTs := xTs_1 (i := 38) rfl rfl
set_option maxRecDepth 20000 in
theorem q39 : (Cond.classLink RX6 9 RX2) ∈ xTs := xTs_1 (i := 39) rfl rfl
set_option maxRecDepth 20000 in
theorem q40 : (Cond.classLink RX6 15 RX1) ∈ xTs := xTs_1 (i := 41) rfl rfl
set_option maxRecDepth 20000 in
theorem q41 : (Cond.classLink RX6 21 RX0) ∈ xTs := xTs_1 (i := 43) rfl rfl
set_option maxRecDepth 20000 in
theorem q42 : (Cond.classLink RX6 27 RX4) ∈ xTs := xTs_1 (i := 45) rfl rfl
set_option maxRecDepth 20000 in
theorem q43 : (Cond.instantiable RX4 5) ∈ xTs := xTs_1 (i := 46) rfl rfl
set_option maxRecDepth 20000 in
theorem q44 : (Cond.instanceMethod yX4_init) ∈ xTs := xTs_1 (i := 48) rfl rfl
set_option maxRecDepth 20000 in
theorem q45 : (Cond.code yX4_init cX4_init 1 (Option.none : Option Jvm.ClassFile.FieldType)) ∈ xTs := xTs_1 (i := 49) rfl rfl
set_option maxRecDepth 20000 in
theorem q46 : (Cond.methodLink RX4 3 objectInit) ∈ xTs := xTs_1 (i := 50) rfl rfl
set_option maxRecDepth 20000 in
theorem q47 : (Cond.fieldLink RX4 9 "ServiceApiary$Route" "steps" "[I") ∈ xTs := xTs_1 (i := 51) rfl rfl
set_option maxRecDepth 20000 in
theorem q48 : (Cond.fieldLink RX6 188 "ServiceApiary$Route" "steps" "[I") ∈ xTs := xTs_1 (i := 52) rfl rfl
set_option maxRecDepth 20000 in
theorem q49 : (Cond.fieldLink RX6 185 "ServiceApiary$Route" "length" "I") ∈ xTs := xTs_1 (i := 53) rfl rfl
set_option maxRecDepth 20000 in
theorem q50 : (Cond.fieldLink RX6 311 "ServiceApiary$Route" "leadsTo" "I") ∈ xTs := xTs_1 (i := 54) rfl rfl
set_option maxRecDepth 20000 in
theorem q51 : (Cond.fieldLink RX6 314 "ServiceApiary$Route" "makes" "I") ∈ xTs := xTs_1 (i := 55) rfl rfl
set_option maxRecDepth 20000 in
theorem q52 : (Cond.fieldLink RX6 342 "ServiceApiary$Route" "shut" "LServiceApiary$Version;") ∈ xTs := xTs_1 (i := 56) rfl rfl
set_option maxRecDepth 20000 in
theorem q53 : (Cond.laysFinal "ServiceApiary$Route" "ServiceApiary$Route" "steps" "[I") ∈ xTs := xTs_1 (i := 57) rfl rfl
set_option maxRecDepth 20000 in
theorem q54 : (Cond.lays "ServiceApiary$Route" "ServiceApiary$Route" "length" "I") ∈ xTs := xTs_1 (i := 59) rfl rfl
set_option maxRecDepth 20000 in
theorem q55 : (Cond.lays "ServiceApiary$Route" "ServiceApiary$Route" "leadsTo" "I") ∈ xTs := xTs_1 (i := 61) rfl rfl
set_option maxRecDepth 20000 in
theorem q56 : (Cond.lays "ServiceApiary$Route" "ServiceApiary$Route" "makes" "I") ∈ xTs := xTs_1 (i := 63) rfl rfl
set_option maxRecDepth 20000 in
theorem q57 : (Cond.lays "ServiceApiary$Route" "ServiceApiary$Route" "shut" "LServiceApiary$Version;") ∈ xTs := xTs_1 (i := 65) rfl rfl
set_option maxRecDepth 20000 in
theorem q58 : (Cond.arrayClass FieldType.int) ∈ xTs := xTs_1 (i := 68) rfl rfl
set_option maxRecDepth 20000 in
theorem q59 : (Cond.classLink RX6 34 RX3) ∈ xTs := xTs_1 (i := 69) rfl rfl
set_option maxRecDepth 20000 in
theorem q60 : (Cond.instantiable RX3 4) ∈ xTs := xTs_1 (i := 70) rfl rfl
set_option maxRecDepth 20000 in
theorem q61 : (Cond.methodLink RX6 36 yX3_init) ∈ xTs := xTs_1 (i := 71) rfl rfl
set_option maxRecDepth 20000 in
theorem q62 : (Cond.instanceMethod yX3_init) ∈ xTs := xTs_1 (i := 72) rfl rfl
set_option maxRecDepth 20000 in
theorem q63 : (Cond.code yX3_init cX3_init 1 (Option.none : Option Jvm.ClassFile.FieldType)) ∈ xTs := xTs_1 (i := 73) rfl rfl
set_option maxRecDepth 20000 in
theorem q64 : (Cond.methodLink RX3 3 objectInit) ∈ xTs := xTs_1 (i := 74) rfl rfl
set_option maxRecDepth 20000 in
theorem q65 : (Cond.methodLink RX3 22 yJ7_fill_53178) ∈ xTs := xTs_1 (i := 75) rfl rfl
set_option maxRecDepth 20000 in
theorem q66 : (Cond.static yJ7_fill_53178) ∈ xTs := xTs_1 (i := 76) rfl rfl
set_option maxRecDepth 20000 in
theorem q67 : (Cond.code yJ7_fill_53178 cJ7_fill_53178 4 (Option.none : Option Jvm.ClassFile.FieldType)) ∈ xTs := xTs_1 (i := 77) rfl rfl
set_option maxRecDepth 20000 in
theorem q68 : (Cond.fieldLink RX3 9 "ServiceApiary$Retirement" "askedAt" "[I") ∈ xTs := xTs_1 (i := 78) rfl rfl
set_option maxRecDepth 20000 in
theorem q69 : (Cond.fieldLink RX3 15 "ServiceApiary$Retirement" "began" "I") ∈ xTs := xTs_1 (i := 79) rfl rfl
set_option maxRecDepth 20000 in
theorem q70 : (Cond.fieldLink RX6 287 "ServiceApiary$Retirement" "began" "I") ∈ xTs := xTs_1 (i := 80) rfl rfl
set_option maxRecDepth 20000 in
theorem q71 : (Cond.fieldLink RX3 19 "ServiceApiary$Retirement" "end" "I") ∈ xTs := xTs_1 (i := 81) rfl rfl
set_option maxRecDepth 20000 in
theorem q72 : (Cond.fieldLink RX6 236 "ServiceApiary$Retirement" "end" "I") ∈ xTs := xTs_1 (i := 82) rfl rfl
set_option maxRecDepth 20000 in
theorem q73 : (Cond.fieldLink RX3 31 "ServiceApiary$Retirement" "answered" "I") ∈ xTs := xTs_1 (i := 83) rfl rfl
set_option maxRecDepth 20000 in
theorem q74 : (Cond.fieldLink RX6 231 "ServiceApiary$Retirement" "answered" "I") ∈ xTs := xTs_1 (i := 84) rfl rfl
set_option maxRecDepth 20000 in
theorem q75 : (Cond.laysFinal "ServiceApiary$Retirement" "ServiceApiary$Retirement" "askedAt" "[I") ∈ xTs := xTs_1 (i := 85) rfl rfl
set_option maxRecDepth 20000 in
theorem q76 : (Cond.lays "ServiceApiary$Retirement" "ServiceApiary$Retirement" "began" "I") ∈ xTs := xTs_1 (i := 87) rfl rfl
set_option maxRecDepth 20000 in
theorem q77 : (Cond.lays "ServiceApiary$Retirement" "ServiceApiary$Retirement" "end" "I") ∈ xTs := xTs_1 (i := 89) rfl rfl
set_option maxRecDepth 20000 in
theorem q78 : (Cond.lays "ServiceApiary$Retirement" "ServiceApiary$Retirement" "answered" "I") ∈ xTs := xTs_1 (i := 91) rfl rfl
set_option maxRecDepth 20000 in
theorem q79 : (Cond.fieldLink RX6 11 "ServiceApiary" "faces" "[LServiceApiary$Face;") ∈ xTs := xTs_1 (i := 94) rfl rfl
set_option maxRecDepth 20000 in
theorem q80 : (Cond.fieldLink RX6 17 "ServiceApiary" "clients" "[LServiceApiary$Client;") ∈ xTs := xTs_1 (i := 95) rfl rfl
set_option maxRecDepth 20000 in
theorem q81 : (Cond.fieldLink RX6 23 "ServiceApiary" "adapters" "[LServiceApiary$Adapter;") ∈ xTs := xTs_1 (i := 96) rfl rfl
set_option maxRecDepth 20000 in
theorem q82 : (Cond.fieldLink RX6 41 "ServiceApiary" "faceCount" "I") ∈ xTs := xTs_1 (i := 97) rfl rfl
set_option maxRecDepth 20000 in
theorem q83 : (Cond.fieldLink RX6 126 "ServiceApiary" "clientCount" "I") ∈ xTs := xTs_1 (i := 98) rfl rfl
set_option maxRecDepth 20000 in
theorem q84 : (Cond.fieldLink RX6 165 "ServiceApiary" "adapterCount" "I") ∈ xTs := xTs_1 (i := 99) rfl rfl
set_option maxRecDepth 20000 in
theorem q85 : (Cond.fieldLink RX6 225 "ServiceApiary" "now" "I") ∈ xTs := xTs_1 (i := 100) rfl rfl
set_option maxRecDepth 20000 in
theorem q86 : (Cond.fieldLink RX6 249 "ServiceApiary" "callCount" "I") ∈ xTs := xTs_1 (i := 101) rfl rfl
set_option maxRecDepth 20000 in
theorem q87 : (Cond.fieldLink RX6 252 "ServiceApiary" "refusedCount" "I") ∈ xTs := xTs_1 (i := 102) rfl rfl
set_option maxRecDepth 20000 in
theorem q88 : (Cond.fieldLink RX6 320 "ServiceApiary" "byRouteCount" "I") ∈ xTs := xTs_1 (i := 103) rfl rfl
set_option maxRecDepth 20000 in
theorem q89 : (Cond.fieldLink RX6 30 "ServiceApiary" "route" "LServiceApiary$Route;") ∈ xTs := xTs_1 (i := 104) rfl rfl
set_option maxRecDepth 20000 in
theorem q90 : (Cond.fieldLink RX6 37 "ServiceApiary" "trial" "LServiceApiary$Retirement;") ∈ xTs := xTs_1 (i := 105) rfl rfl
set_option maxRecDepth 20000 in
theorem q91 : (Cond.laysFinal "ServiceApiary" "ServiceApiary" "faces" "[LServiceApiary$Face;") ∈ xTs := xTs_1 (i := 106) rfl rfl
set_option maxRecDepth 20000 in
theorem q92 : (Cond.laysFinal "ServiceApiary" "ServiceApiary" "clients" "[LServiceApiary$Client;") ∈ xTs := xTs_1 (i := 108) rfl rfl
set_option maxRecDepth 20000 in
theorem q93 : (Cond.laysFinal "ServiceApiary" "ServiceApiary" "adapters" "[LServiceApiary$Adapter;") ∈ xTs := xTs_1 (i := 110) rfl rfl
set_option maxRecDepth 20000 in
theorem q94 : (Cond.lays "ServiceApiary" "ServiceApiary" "faceCount" "I") ∈ xTs := xTs_1 (i := 112) rfl rfl
set_option maxRecDepth 20000 in
theorem q95 : (Cond.lays "ServiceApiary" "ServiceApiary" "clientCount" "I") ∈ xTs := xTs_1 (i := 114) rfl rfl
set_option maxRecDepth 20000 in
theorem q96 : (Cond.lays "ServiceApiary" "ServiceApiary" "adapterCount" "I") ∈ xTs := xTs_1 (i := 116) rfl rfl
set_option maxRecDepth 20000 in
theorem q97 : (Cond.lays "ServiceApiary" "ServiceApiary" "now" "I") ∈ xTs := xTs_1 (i := 118) rfl rfl
set_option maxRecDepth 20000 in
theorem q98 : (Cond.lays "ServiceApiary" "ServiceApiary" "callCount" "I") ∈ xTs := xTs_1 (i := 120) rfl rfl
set_option maxRecDepth 20000 in
theorem q99 : (Cond.lays "ServiceApiary" "ServiceApiary" "refusedCount" "I") ∈ xTs := xTs_1 (i := 122) rfl rfl
set_option maxRecDepth 20000 in
theorem q100 : (Cond.lays "ServiceApiary" "ServiceApiary" "byRouteCount" "I") ∈ xTs := xTs_1 (i := 124) rfl rfl
set_option maxRecDepth 20000 in
theorem q101 : (Cond.laysFinal "ServiceApiary" "ServiceApiary" "route" "LServiceApiary$Route;") ∈ xTs := xTs_1 (i := 126) rfl rfl
set_option maxRecDepth 20000 in
theorem q102 : (Cond.laysFinal "ServiceApiary" "ServiceApiary" "trial" "LServiceApiary$Retirement;") ∈ xTs := xTs_1 (i := 128) rfl rfl
set_option maxRecDepth 20000 in
theorem q103 : (Cond.methodLink RL 154 yX6_servedShare) ∈ xTs := xTs_1 (i := 131) rfl rfl
set_option maxRecDepth 20000 in
theorem q104 : (Cond.instanceMethod yX6_servedShare) ∈ xTs := xTs_1 (i := 132) rfl rfl
set_option maxRecDepth 20000 in
theorem q105 : (Cond.selects RX6 yX6_servedShare yX6_servedShare) ∈ xTs := xTs_1 (i := 133) rfl rfl
set_option maxRecDepth 20000 in
theorem q106 : (Cond.code yX6_servedShare cX6_servedShare 1 (Option.some Jvm.ClassFile.FieldType.double)) ∈ xTs := xTs_1 (i := 134) rfl rfl
set_option maxRecDepth 20000 in
theorem q107 : (Cond.methodLink RL 174 yX6_digest) ∈ xTs := xTs_1 (i := 135) rfl rfl
set_option maxRecDepth 20000 in
theorem q108 : (Cond.instanceMethod yX6_digest) ∈ xTs := xTs_1 (i := 136) rfl rfl
set_option maxRecDepth 20000 in
theorem q109 : (Cond.selects RX6 yX6_digest yX6_digest) ∈ xTs := xTs_1 (i := 137) rfl rfl
set_option maxRecDepth 20000 in
theorem q110 : (Cond.code yX6_digest cX6_digest 6 (Option.some Jvm.ClassFile.FieldType.long)) ∈ xTs := xTs_1 (i := 138) rfl rfl
set_option maxRecDepth 20000 in
theorem q111 : (Cond.constantLong RX6 271 58106) ∈ xTs := xTs_1 (i := 139) rfl rfl
set_option maxRecDepth 20000 in
theorem q112 : (Cond.constantLong RX6 273 31) ∈ xTs := xTs_1 (i := 140) rfl rfl
set_option maxRecDepth 20000 in
theorem q113 : (Cond.methodLink RX6 246 yX6_countOf) ∈ xTs := xTs_1 (i := 141) rfl rfl
set_option maxRecDepth 20000 in
theorem q114 : (Cond.instanceMethod yX6_countOf) ∈ xTs := xTs_1 (i := 143) rfl rfl
set_option maxRecDepth 20000 in
theorem q115 : (Cond.code yX6_countOf cX6_countOf 2 (Option.some Jvm.ClassFile.FieldType.int)) ∈ xTs := xTs_1 (i := 144) rfl rfl
set_option maxRecDepth 20000 in
theorem q116 : (Cond.methodLink RX6 317 yX6_countVersions) ∈ xTs := xTs_1 (i := 145) rfl rfl
set_option maxRecDepth 20000 in
theorem q117 : (Cond.instanceMethod yX6_countVersions) ∈ xTs := xTs_1 (i := 147) rfl rfl
set_option maxRecDepth 20000 in
theorem q118 : (Cond.code yX6_countVersions cX6_countVersions 6 (Option.some Jvm.ClassFile.FieldType.int)) ∈ xTs := xTs_1 (i := 148) rfl rfl
set_option maxRecDepth 20000 in
theorem q119 : (Cond.methodLink RX6 91 yX6_versionAt) ∈ xTs := xTs_1 (i := 149) rfl rfl
set_option maxRecDepth 20000 in
theorem q120 : (Cond.instanceMethod yX6_versionAt) ∈ xTs := xTs_1 (i := 151) rfl rfl
set_option maxRecDepth 20000 in
theorem q121 : (Cond.code yX6_versionAt cX6_versionAt 4 (Option.some (Jvm.ClassFile.FieldType.object "ServiceApiary$Version"))) ∈ xTs := xTs_1 (i := 152) rfl rfl
set_option maxRecDepth 20000 in
theorem q122 : (Cond.methodLink RX6 55 yX6_faceAt) ∈ xTs := xTs_1 (i := 153) rfl rfl
set_option maxRecDepth 20000 in
theorem q123 : (Cond.instanceMethod yX6_faceAt) ∈ xTs := xTs_1 (i := 155) rfl rfl
set_option maxRecDepth 20000 in
theorem q124 : (Cond.code yX6_faceAt cX6_faceAt 2 (Option.some (Jvm.ClassFile.FieldType.object "ServiceApiary$Face"))) ∈ xTs := xTs_1 (i := 156) rfl rfl
set_option maxRecDepth 20000 in
theorem q125 : (Cond.methodLink RX3 42 Lib.Math.max.name) ∈ xTs := xTs_2 (i := 30) rfl rfl
set_option maxRecDepth 20000 in
theorem q126 : (Cond.static Lib.Math.max.name) ∈ xTs := xTs_2 (i := 31) rfl rfl
set_option maxRecDepth 20000 in
theorem q127 : (Cond.code Lib.Math.max.name Lib.Math.max.code 2 (some .int)) ∈ xTs := xTs_2 (i := 32) rfl rfl
set_option maxRecDepth 20000 in
theorem q128 : (Cond.methodLink RL 92 yL_open) ∈ xTs := xTs_2 (i := 47) rfl rfl
set_option maxRecDepth 20000 in
theorem q129 : (Cond.static yL_open) ∈ xTs := xTs_2 (i := 48) rfl rfl
set_option maxRecDepth 20000 in
theorem q130 : (Cond.codeWith yL_open cL_open 3 (Option.some Jvm.ClassFile.FieldType.int) [(0, 8, 11, 13)]) ∈ xTs := xTs_2 (i := 49) rfl rfl
set_option maxRecDepth 20000 in
theorem q131 : (Cond.classLink RL 13 "java/lang/IllegalStateException") ∈ xTs := xTs_2 (i := 50) rfl rfl
set_option maxRecDepth 20000 in
theorem q132 : (Cond.methodLink RL 7 yX6_open) ∈ xTs := xTs_2 (i := 51) rfl rfl
set_option maxRecDepth 20000 in
theorem q133 : (Cond.instanceMethod yX6_open) ∈ xTs := xTs_2 (i := 52) rfl rfl
set_option maxRecDepth 20000 in
theorem q134 : (Cond.selects RX6 yX6_open yX6_open) ∈ xTs := xTs_2 (i := 53) rfl rfl
set_option maxRecDepth 20000 in
theorem q135 : (Cond.code yX6_open cX6_open 1 (Option.some Jvm.ClassFile.FieldType.int)) ∈ xTs := xTs_2 (i := 54) rfl rfl
set_option maxRecDepth 20000 in
theorem q136 : (Cond.classLink RX6 45 "java/lang/IllegalStateException") ∈ xTs := xTs_2 (i := 55) rfl rfl
set_option maxRecDepth 20000 in
theorem q137 : (Cond.instantiable "java/lang/IllegalStateException" 6) ∈ xTs := xTs_2 (i := 56) rfl rfl
set_option maxRecDepth 20000 in
theorem q138 : (Cond.instantiable "java/lang/Throwable" 6) ∈ xTs := xTs_2 (i := 94) rfl rfl
set_option maxRecDepth 20000 in
theorem q139 : (Cond.arrayClass FieldType.byte) ∈ xTs := xTs_2 (i := 122) rfl rfl
set_option maxRecDepth 20000 in
theorem q140 : (Cond.instantiable RX2 3) ∈ xTs := xTs_2 (i := 123) rfl rfl
set_option maxRecDepth 20000 in
theorem q141 : (Cond.methodLink RX6 52 yX2_init) ∈ xTs := xTs_2 (i := 124) rfl rfl
set_option maxRecDepth 20000 in
theorem q142 : (Cond.instanceMethod yX2_init) ∈ xTs := xTs_2 (i := 125) rfl rfl
set_option maxRecDepth 20000 in
theorem q143 : (Cond.code yX2_init cX2_init 2 (Option.none : Option Jvm.ClassFile.FieldType)) ∈ xTs := xTs_2 (i := 126) rfl rfl
set_option maxRecDepth 20000 in
theorem q144 : (Cond.methodLink RX2 3 objectInit) ∈ xTs := xTs_2 (i := 127) rfl rfl
set_option maxRecDepth 20000 in
theorem q145 : (Cond.classLink RX2 9 RX5) ∈ xTs := xTs_2 (i := 128) rfl rfl
set_option maxRecDepth 20000 in
theorem q146 : (Cond.fieldLink RX2 17 "ServiceApiary$Face" "number" "I") ∈ xTs := xTs_2 (i := 130) rfl rfl
set_option maxRecDepth 20000 in
theorem q147 : (Cond.fieldLink RX6 308 "ServiceApiary$Face" "number" "I") ∈ xTs := xTs_2 (i := 131) rfl rfl
set_option maxRecDepth 20000 in
theorem q148 : (Cond.fieldLink RX2 11 "ServiceApiary$Face" "versions" "[LServiceApiary$Version;") ∈ xTs := xTs_2 (i := 132) rfl rfl
set_option maxRecDepth 20000 in
theorem q149 : (Cond.fieldLink RX6 76 "ServiceApiary$Face" "versions" "[LServiceApiary$Version;") ∈ xTs := xTs_2 (i := 133) rfl rfl
set_option maxRecDepth 20000 in
theorem q150 : (Cond.fieldLink RX6 73 "ServiceApiary$Face" "count" "I") ∈ xTs := xTs_2 (i := 134) rfl rfl
set_option maxRecDepth 20000 in
theorem q151 : (Cond.laysFinal "ServiceApiary$Face" "ServiceApiary$Face" "number" "I") ∈ xTs := xTs_2 (i := 135) rfl rfl
set_option maxRecDepth 20000 in
theorem q152 : (Cond.laysFinal "ServiceApiary$Face" "ServiceApiary$Face" "versions" "[LServiceApiary$Version;") ∈ xTs := xTs_2 (i := 137) rfl rfl
set_option maxRecDepth 20000 in
theorem q153 : (Cond.lays "ServiceApiary$Face" "ServiceApiary$Face" "count" "I") ∈ xTs := xTs_2 (i := 139) rfl rfl
set_option maxRecDepth 20000 in
theorem q154 : (Cond.methodLink RL 101 yL_publish) ∈ xTs := xTs_2 (i := 142) rfl rfl
set_option maxRecDepth 20000 in
theorem q155 : (Cond.static yL_publish) ∈ xTs := xTs_2 (i := 143) rfl rfl
set_option maxRecDepth 20000 in
theorem q156 : (Cond.codeWith yL_publish cL_publish 6 (Option.some Jvm.ClassFile.FieldType.int) [(0, 12, 15, 19), (0, 12, 19, 21), (0, 12, 23, 13)]) ∈ xTs := xTs_2 (i := 144) rfl rfl
set_option maxRecDepth 20000 in
theorem q157 : (Cond.classLink RL 19 "java/lang/IndexOutOfBoundsException") ∈ xTs := xTs_2 (i := 145) rfl rfl
set_option maxRecDepth 20000 in
theorem q158 : (Cond.classLink RL 21 "java/lang/IllegalArgumentException") ∈ xTs := xTs_2 (i := 146) rfl rfl
set_option maxRecDepth 20000 in
theorem q159 : (Cond.methodLink RL 15 yX6_publish) ∈ xTs := xTs_2 (i := 147) rfl rfl
set_option maxRecDepth 20000 in
theorem q160 : (Cond.instanceMethod yX6_publish) ∈ xTs := xTs_2 (i := 148) rfl rfl
set_option maxRecDepth 20000 in
theorem q161 : (Cond.selects RX6 yX6_publish yX6_publish) ∈ xTs := xTs_2 (i := 149) rfl rfl
set_option maxRecDepth 20000 in
theorem q162 : (Cond.code yX6_publish cX6_publish 8 (Option.some Jvm.ClassFile.FieldType.int)) ∈ xTs := xTs_2 (i := 150) rfl rfl
set_option maxRecDepth 20000 in
theorem q163 : (Cond.classLink RX6 59 "java/lang/IndexOutOfBoundsException") ∈ xTs := xTs_2 (i := 151) rfl rfl
set_option maxRecDepth 20000 in
theorem q164 : (Cond.instantiable "java/lang/IndexOutOfBoundsException" 6) ∈ xTs := xTs_2 (i := 152) rfl rfl
set_option maxRecDepth 20000 in
theorem q165 : (Cond.classLink RX6 68 "java/lang/IllegalArgumentException") ∈ xTs := xTs_2 (i := 173) rfl rfl
set_option maxRecDepth 20000 in
theorem q166 : (Cond.instantiable "java/lang/IllegalArgumentException" 6) ∈ xTs := xTs_2 (i := 174) rfl rfl
set_option maxRecDepth 20000 in
theorem q167 : (Cond.classLink RX6 82 RX5) ∈ xTs := xTs_2 (i := 190) rfl rfl
set_option maxRecDepth 20000 in
theorem q168 : (Cond.instantiable RX5 9) ∈ xTs := xTs_2 (i := 191) rfl rfl
set_option maxRecDepth 20000 in
theorem q169 : (Cond.fieldLink RX6 286 "ServiceApiary$Version" "face" "LServiceApiary$Face;") ∈ xTs := xTs_2 (i := 200) rfl rfl
set_option maxRecDepth 20000 in
theorem q170 : (Cond.fieldLink RX6 283 "ServiceApiary$Version" "number" "I") ∈ xTs := xTs_2 (i := 203) rfl rfl
set_option maxRecDepth 20000 in
theorem q171 : (Cond.fieldLink RX6 114 "ServiceApiary$Version" "has" "I") ∈ xTs := xTs_2 (i := 205) rfl rfl
set_option maxRecDepth 20000 in
theorem q172 : (Cond.fieldLink RX6 117 "ServiceApiary$Version" "needs" "I") ∈ xTs := xTs_2 (i := 207) rfl rfl
set_option maxRecDepth 20000 in
theorem q173 : (Cond.fieldLink RX6 211 "ServiceApiary$Version" "retirement" "LServiceApiary$Retirement;") ∈ xTs := xTs_2 (i := 209) rfl rfl
set_option maxRecDepth 20000 in
theorem q174 : (Cond.fieldLink RX6 129 "ServiceApiary$Version" "state" "I") ∈ xTs := xTs_2 (i := 211) rfl rfl
set_option maxRecDepth 20000 in
theorem q175 : (Cond.fieldLink RX6 297 "ServiceApiary$Version" "putOffCount" "I") ∈ xTs := xTs_2 (i := 212) rfl rfl
set_option maxRecDepth 20000 in
theorem q176 : (Cond.fieldLink RX6 300 "ServiceApiary$Version" "callCount" "I") ∈ xTs := xTs_2 (i := 213) rfl rfl
set_option maxRecDepth 20000 in
theorem q177 : (Cond.fieldLink RX6 301 "ServiceApiary$Version" "refusedCount" "I") ∈ xTs := xTs_2 (i := 214) rfl rfl
set_option maxRecDepth 20000 in
theorem q178 : (Cond.methodLink RL 105 yL_ofVersion) ∈ xTs := xTs_3 (i := 1) rfl rfl
set_option maxRecDepth 20000 in
theorem q179 : (Cond.static yL_ofVersion) ∈ xTs := xTs_3 (i := 2) rfl rfl
set_option maxRecDepth 20000 in
theorem q180 : (Cond.codeWith yL_ofVersion cL_ofVersion 6 (Option.some Jvm.ClassFile.FieldType.int) [(0, 12, 15, 19), (0, 12, 19, 21)]) ∈ xTs := xTs_3 (i := 3) rfl rfl
set_option maxRecDepth 20000 in
theorem q181 : (Cond.methodLink RL 23 yX6_ofVersion) ∈ xTs := xTs_3 (i := 4) rfl rfl
set_option maxRecDepth 20000 in
theorem q182 : (Cond.instanceMethod yX6_ofVersion) ∈ xTs := xTs_3 (i := 5) rfl rfl
set_option maxRecDepth 20000 in
theorem q183 : (Cond.selects RX6 yX6_ofVersion yX6_ofVersion) ∈ xTs := xTs_3 (i := 6) rfl rfl
set_option maxRecDepth 20000 in
theorem q184 : (Cond.code yX6_ofVersion cX6_ofVersion 5 (Option.some Jvm.ClassFile.FieldType.int)) ∈ xTs := xTs_3 (i := 7) rfl rfl
set_option maxRecDepth 20000 in
theorem q185 : (Cond.methodLink RL 108 yL_isCompatible) ∈ xTs := xTs_3 (i := 10) rfl rfl
set_option maxRecDepth 20000 in
theorem q186 : (Cond.static yL_isCompatible) ∈ xTs := xTs_3 (i := 11) rfl rfl
set_option maxRecDepth 20000 in
theorem q187 : (Cond.codeWith yL_isCompatible cL_isCompatible 6 (Option.some Jvm.ClassFile.FieldType.int) [(0, 19, 22, 19)]) ∈ xTs := xTs_3 (i := 12) rfl rfl
set_option maxRecDepth 20000 in
theorem q188 : (Cond.methodLink RL 26 yX6_isCompatible) ∈ xTs := xTs_3 (i := 13) rfl rfl
set_option maxRecDepth 20000 in
theorem q189 : (Cond.instanceMethod yX6_isCompatible) ∈ xTs := xTs_3 (i := 14) rfl rfl
set_option maxRecDepth 20000 in
theorem q190 : (Cond.selects RX6 yX6_isCompatible yX6_isCompatible) ∈ xTs := xTs_3 (i := 15) rfl rfl
set_option maxRecDepth 20000 in
theorem q191 : (Cond.code yX6_isCompatible cX6_isCompatible 6 (Option.some Jvm.ClassFile.FieldType.boolean)) ∈ xTs := xTs_3 (i := 16) rfl rfl
set_option maxRecDepth 20000 in
theorem q192 : (Cond.methodLink RL 111 yL_client) ∈ xTs := xTs_3 (i := 17) rfl rfl
set_option maxRecDepth 20000 in
theorem q193 : (Cond.static yL_client) ∈ xTs := xTs_3 (i := 18) rfl rfl
set_option maxRecDepth 20000 in
theorem q194 : (Cond.codeWith yL_client cL_client 7 (Option.some Jvm.ClassFile.FieldType.int) [(0, 14, 17, 19), (0, 14, 21, 21), (0, 14, 25, 13)]) ∈ xTs := xTs_3 (i := 19) rfl rfl
set_option maxRecDepth 20000 in
theorem q195 : (Cond.methodLink RL 30 yX6_client) ∈ xTs := xTs_3 (i := 20) rfl rfl
set_option maxRecDepth 20000 in
theorem q196 : (Cond.instanceMethod yX6_client) ∈ xTs := xTs_3 (i := 21) rfl rfl
set_option maxRecDepth 20000 in
theorem q197 : (Cond.selects RX6 yX6_client yX6_client) ∈ xTs := xTs_3 (i := 22) rfl rfl
set_option maxRecDepth 20000 in
theorem q198 : (Cond.code yX6_client cX6_client 6 (Option.some Jvm.ClassFile.FieldType.int)) ∈ xTs := xTs_3 (i := 23) rfl rfl
set_option maxRecDepth 20000 in
theorem q199 : (Cond.instantiable RX1 8) ∈ xTs := xTs_3 (i := 29) rfl rfl
set_option maxRecDepth 20000 in
theorem q200 : (Cond.fieldLink RX6 305 "ServiceApiary$Client" "owner" "I") ∈ xTs := xTs_3 (i := 36) rfl rfl
set_option maxRecDepth 20000 in
theorem q201 : (Cond.fieldLink RX6 141 "ServiceApiary$Client" "face" "LServiceApiary$Face;") ∈ xTs := xTs_3 (i := 38) rfl rfl
set_option maxRecDepth 20000 in
theorem q202 : (Cond.fieldLink RX6 378 "ServiceApiary$Client" "servedThisHour" "[I") ∈ xTs := xTs_3 (i := 41) rfl rfl
set_option maxRecDepth 20000 in
theorem q203 : (Cond.fieldLink RX6 159 "ServiceApiary$Client" "version" "LServiceApiary$Version;") ∈ xTs := xTs_3 (i := 43) rfl rfl
set_option maxRecDepth 20000 in
theorem q204 : (Cond.fieldLink RX6 152 "ServiceApiary$Client" "uses" "I") ∈ xTs := xTs_3 (i := 45) rfl rfl
set_option maxRecDepth 20000 in
theorem q205 : (Cond.fieldLink RX6 309 "ServiceApiary$Client" "callCount" "I") ∈ xTs := xTs_3 (i := 47) rfl rfl
set_option maxRecDepth 20000 in
theorem q206 : (Cond.fieldLink RX6 310 "ServiceApiary$Client" "refusedCount" "I") ∈ xTs := xTs_3 (i := 49) rfl rfl
set_option maxRecDepth 20000 in
theorem q207 : (Cond.methodLink RL 115 yL_again) ∈ xTs := xTs_3 (i := 67) rfl rfl
set_option maxRecDepth 20000 in
theorem q208 : (Cond.static yL_again) ∈ xTs := xTs_3 (i := 68) rfl rfl
set_option maxRecDepth 20000 in
theorem q209 : (Cond.codeWith yL_again cL_again 5 (Option.some Jvm.ClassFile.FieldType.int) [(0, 10, 13, 19), (0, 10, 17, 13)]) ∈ xTs := xTs_3 (i := 69) rfl rfl
set_option maxRecDepth 20000 in
theorem q210 : (Cond.methodLink RL 34 yX6_again) ∈ xTs := xTs_3 (i := 70) rfl rfl
set_option maxRecDepth 20000 in
theorem q211 : (Cond.instanceMethod yX6_again) ∈ xTs := xTs_3 (i := 71) rfl rfl
set_option maxRecDepth 20000 in
theorem q212 : (Cond.selects RX6 yX6_again yX6_again) ∈ xTs := xTs_3 (i := 72) rfl rfl
set_option maxRecDepth 20000 in
theorem q213 : (Cond.code yX6_again cX6_again 5 (Option.some Jvm.ClassFile.FieldType.int)) ∈ xTs := xTs_3 (i := 73) rfl rfl
set_option maxRecDepth 20000 in
theorem q214 : (Cond.methodLink RX6 137 yX6_clientAt) ∈ xTs := xTs_3 (i := 74) rfl rfl
set_option maxRecDepth 20000 in
theorem q215 : (Cond.instanceMethod yX6_clientAt) ∈ xTs := xTs_3 (i := 76) rfl rfl
set_option maxRecDepth 20000 in
theorem q216 : (Cond.code yX6_clientAt cX6_clientAt 2 (Option.some (Jvm.ClassFile.FieldType.object "ServiceApiary$Client"))) ∈ xTs := xTs_3 (i := 77) rfl rfl
set_option maxRecDepth 20000 in
theorem q217 : (Cond.methodLink RL 119 yL_adapter) ∈ xTs := xTs_3 (i := 80) rfl rfl
set_option maxRecDepth 20000 in
theorem q218 : (Cond.static yL_adapter) ∈ xTs := xTs_3 (i := 81) rfl rfl
set_option maxRecDepth 20000 in
theorem q219 : (Cond.codeWith yL_adapter cL_adapter 8 (Option.some Jvm.ClassFile.FieldType.int) [(0, 16, 19, 19), (0, 16, 23, 21), (0, 16, 27, 13)]) ∈ xTs := xTs_3 (i := 82) rfl rfl
set_option maxRecDepth 20000 in
theorem q220 : (Cond.methodLink RL 38 yX6_adapter) ∈ xTs := xTs_3 (i := 83) rfl rfl
set_option maxRecDepth 20000 in
theorem q221 : (Cond.instanceMethod yX6_adapter) ∈ xTs := xTs_3 (i := 84) rfl rfl
set_option maxRecDepth 20000 in
theorem q222 : (Cond.selects RX6 yX6_adapter yX6_adapter) ∈ xTs := xTs_3 (i := 85) rfl rfl
set_option maxRecDepth 20000 in
theorem q223 : (Cond.code yX6_adapter cX6_adapter 8 (Option.some Jvm.ClassFile.FieldType.int)) ∈ xTs := xTs_3 (i := 86) rfl rfl
set_option maxRecDepth 20000 in
theorem q224 : (Cond.instantiable RX0 4) ∈ xTs := xTs_3 (i := 89) rfl rfl
set_option maxRecDepth 20000 in
theorem q225 : (Cond.fieldLink RX6 349 "ServiceApiary$Adapter" "from" "LServiceApiary$Version;") ∈ xTs := xTs_3 (i := 95) rfl rfl
set_option maxRecDepth 20000 in
theorem q226 : (Cond.fieldLink RX6 352 "ServiceApiary$Adapter" "to" "LServiceApiary$Version;") ∈ xTs := xTs_3 (i := 97) rfl rfl
set_option maxRecDepth 20000 in
theorem q227 : (Cond.methodLink RL 123 yL_ofClient) ∈ xTs := xTs_3 (i := 109) rfl rfl
set_option maxRecDepth 20000 in
theorem q228 : (Cond.static yL_ofClient) ∈ xTs := xTs_3 (i := 110) rfl rfl
set_option maxRecDepth 20000 in
theorem q229 : (Cond.codeWith yL_ofClient cL_ofClient 5 (Option.some Jvm.ClassFile.FieldType.int) [(0, 10, 13, 19), (0, 10, 17, 21)]) ∈ xTs := xTs_3 (i := 111) rfl rfl
set_option maxRecDepth 20000 in
theorem q230 : (Cond.methodLink RL 42 yX6_ofClient) ∈ xTs := xTs_3 (i := 112) rfl rfl
set_option maxRecDepth 20000 in
theorem q231 : (Cond.instanceMethod yX6_ofClient) ∈ xTs := xTs_3 (i := 113) rfl rfl
set_option maxRecDepth 20000 in
theorem q232 : (Cond.selects RX6 yX6_ofClient yX6_ofClient) ∈ xTs := xTs_3 (i := 114) rfl rfl
set_option maxRecDepth 20000 in
theorem q233 : (Cond.code yX6_ofClient cX6_ofClient 4 (Option.some Jvm.ClassFile.FieldType.int)) ∈ xTs := xTs_3 (i := 115) rfl rfl
set_option maxRecDepth 20000 in
theorem q234 : (Cond.methodLink RL 126 yL_routed) ∈ xTs := xTs_3 (i := 118) rfl rfl
set_option maxRecDepth 20000 in
theorem q235 : (Cond.static yL_routed) ∈ xTs := xTs_3 (i := 119) rfl rfl
set_option maxRecDepth 20000 in
theorem q236 : (Cond.codeWith yL_routed cL_routed 5 (Option.some Jvm.ClassFile.FieldType.int) [(0, 10, 13, 19)]) ∈ xTs := xTs_3 (i := 120) rfl rfl
set_option maxRecDepth 20000 in
theorem q237 : (Cond.methodLink RL 45 yX6_routed) ∈ xTs := xTs_3 (i := 121) rfl rfl
set_option maxRecDepth 20000 in
theorem q238 : (Cond.instanceMethod yX6_routed) ∈ xTs := xTs_3 (i := 122) rfl rfl
set_option maxRecDepth 20000 in
theorem q239 : (Cond.selects RX6 yX6_routed yX6_routed) ∈ xTs := xTs_3 (i := 123) rfl rfl
set_option maxRecDepth 20000 in
theorem q240 : (Cond.code yX6_routed cX6_routed 4 (Option.some Jvm.ClassFile.FieldType.int)) ∈ xTs := xTs_3 (i := 124) rfl rfl
set_option maxRecDepth 20000 in
theorem q241 : (Cond.methodLink RL 129 yL_call) ∈ xTs := xTs_3 (i := 126) rfl rfl
set_option maxRecDepth 20000 in
theorem q242 : (Cond.static yL_call) ∈ xTs := xTs_3 (i := 127) rfl rfl
set_option maxRecDepth 20000 in
theorem q243 : (Cond.codeWith yL_call cL_call 5 (Option.some Jvm.ClassFile.FieldType.int) [(0, 10, 13, 19), (0, 10, 17, 21)]) ∈ xTs := xTs_3 (i := 128) rfl rfl
set_option maxRecDepth 20000 in
theorem q244 : (Cond.methodLink RL 48 yX6_call) ∈ xTs := xTs_3 (i := 129) rfl rfl
set_option maxRecDepth 20000 in
theorem q245 : (Cond.instanceMethod yX6_call) ∈ xTs := xTs_3 (i := 130) rfl rfl
set_option maxRecDepth 20000 in
theorem q246 : (Cond.selects RX6 yX6_call yX6_call) ∈ xTs := xTs_3 (i := 131) rfl rfl
set_option maxRecDepth 20000 in
theorem q247 : (Cond.code yX6_call cX6_call 6 (Option.some Jvm.ClassFile.FieldType.int)) ∈ xTs := xTs_3 (i := 132) rfl rfl
set_option maxRecDepth 20000 in
theorem q248 : (Cond.methodLink RL 132 yL_pass) ∈ xTs := xTs_3 (i := 146) rfl rfl
set_option maxRecDepth 20000 in
theorem q249 : (Cond.static yL_pass) ∈ xTs := xTs_3 (i := 147) rfl rfl
set_option maxRecDepth 20000 in
theorem q250 : (Cond.codeWith yL_pass cL_pass 4 (Option.some Jvm.ClassFile.FieldType.int) [(0, 9, 12, 21)]) ∈ xTs := xTs_3 (i := 148) rfl rfl
set_option maxRecDepth 20000 in
theorem q251 : (Cond.methodLink RL 51 yX6_pass) ∈ xTs := xTs_3 (i := 149) rfl rfl
set_option maxRecDepth 20000 in
theorem q252 : (Cond.instanceMethod yX6_pass) ∈ xTs := xTs_3 (i := 150) rfl rfl
set_option maxRecDepth 20000 in
theorem q253 : (Cond.selects RX6 yX6_pass yX6_pass) ∈ xTs := xTs_3 (i := 151) rfl rfl
set_option maxRecDepth 20000 in
theorem q254 : (Cond.code yX6_pass cX6_pass 4 (Option.some Jvm.ClassFile.FieldType.int)) ∈ xTs := xTs_3 (i := 152) rfl rfl
set_option maxRecDepth 20000 in
theorem q255 : (Cond.methodLink RX6 201 yX6_beginHour) ∈ xTs := xTs_3 (i := 154) rfl rfl
set_option maxRecDepth 20000 in
theorem q256 : (Cond.instanceMethod yX6_beginHour) ∈ xTs := xTs_3 (i := 156) rfl rfl
set_option maxRecDepth 20000 in
theorem q257 : (Cond.code yX6_beginHour cX6_beginHour 5 (Option.some Jvm.ClassFile.FieldType.int)) ∈ xTs := xTs_3 (i := 157) rfl rfl
set_option maxRecDepth 20000 in
theorem q258 : (Cond.methodLink RX6 381 yJ7_fill_53178) ∈ xTs := xTs_3 (i := 158) rfl rfl
set_option maxRecDepth 20000 in
theorem q259 : (Cond.methodLink RL 136 yL_lastCall) ∈ xTs := xTs_3 (i := 163) rfl rfl
set_option maxRecDepth 20000 in
theorem q260 : (Cond.static yL_lastCall) ∈ xTs := xTs_3 (i := 164) rfl rfl
set_option maxRecDepth 20000 in
theorem q261 : (Cond.codeWith yL_lastCall cL_lastCall 5 (Option.some Jvm.ClassFile.FieldType.int) [(0, 10, 13, 19)]) ∈ xTs := xTs_3 (i := 165) rfl rfl
set_option maxRecDepth 20000 in
theorem q262 : (Cond.methodLink RL 55 yX6_lastCall) ∈ xTs := xTs_3 (i := 166) rfl rfl
set_option maxRecDepth 20000 in
theorem q263 : (Cond.instanceMethod yX6_lastCall) ∈ xTs := xTs_3 (i := 167) rfl rfl
set_option maxRecDepth 20000 in
theorem q264 : (Cond.selects RX6 yX6_lastCall yX6_lastCall) ∈ xTs := xTs_3 (i := 168) rfl rfl
set_option maxRecDepth 20000 in
theorem q265 : (Cond.code yX6_lastCall cX6_lastCall 5 (Option.some Jvm.ClassFile.FieldType.int)) ∈ xTs := xTs_3 (i := 169) rfl rfl
set_option maxRecDepth 20000 in
theorem q266 : (Cond.methodLink RL 139 yL_retire) ∈ xTs := xTs_3 (i := 170) rfl rfl
set_option maxRecDepth 20000 in
theorem q267 : (Cond.static yL_retire) ∈ xTs := xTs_3 (i := 171) rfl rfl
set_option maxRecDepth 20000 in
theorem q268 : (Cond.codeWith yL_retire cL_retire 6 (Option.some Jvm.ClassFile.FieldType.int) [(0, 12, 15, 19), (0, 12, 19, 21), (0, 12, 23, 13)]) ∈ xTs := xTs_3 (i := 172) rfl rfl
set_option maxRecDepth 20000 in
theorem q269 : (Cond.methodLink RL 58 yX6_retire) ∈ xTs := xTs_3 (i := 173) rfl rfl
set_option maxRecDepth 20000 in
theorem q270 : (Cond.instanceMethod yX6_retire) ∈ xTs := xTs_3 (i := 174) rfl rfl
set_option maxRecDepth 20000 in
theorem q271 : (Cond.selects RX6 yX6_retire yX6_retire) ∈ xTs := xTs_3 (i := 175) rfl rfl
set_option maxRecDepth 20000 in
theorem q272 : (Cond.code yX6_retire cX6_retire 5 (Option.some Jvm.ClassFile.FieldType.int)) ∈ xTs := xTs_3 (i := 176) rfl rfl
set_option maxRecDepth 20000 in
theorem q273 : (Cond.methodLink RL 142 yL_answer) ∈ xTs := xTs_3 (i := 190) rfl rfl
set_option maxRecDepth 20000 in
theorem q274 : (Cond.static yL_answer) ∈ xTs := xTs_3 (i := 191) rfl rfl
set_option maxRecDepth 20000 in
theorem q275 : (Cond.codeWith yL_answer cL_answer 6 (Option.some Jvm.ClassFile.FieldType.int) [(0, 19, 22, 19), (0, 19, 26, 13)]) ∈ xTs := xTs_3 (i := 192) rfl rfl
set_option maxRecDepth 20000 in
theorem q276 : (Cond.methodLink RL 61 yX6_answer) ∈ xTs := xTs_3 (i := 193) rfl rfl
set_option maxRecDepth 20000 in
theorem q277 : (Cond.instanceMethod yX6_answer) ∈ xTs := xTs_3 (i := 194) rfl rfl
set_option maxRecDepth 20000 in
theorem q278 : (Cond.selects RX6 yX6_answer yX6_answer) ∈ xTs := xTs_3 (i := 195) rfl rfl
set_option maxRecDepth 20000 in
theorem q279 : (Cond.code yX6_answer cX6_answer 6 (Option.some Jvm.ClassFile.FieldType.boolean)) ∈ xTs := xTs_3 (i := 196) rfl rfl
set_option maxRecDepth 20000 in
theorem q280 : (Cond.methodLink RL 145 yL_recall) ∈ xTs := xTs_3 (i := 199) rfl rfl
set_option maxRecDepth 20000 in
theorem q281 : (Cond.static yL_recall) ∈ xTs := xTs_3 (i := 200) rfl rfl
set_option maxRecDepth 20000 in
theorem q282 : (Cond.codeWith yL_recall cL_recall 5 (Option.some Jvm.ClassFile.FieldType.int) [(0, 10, 13, 19), (0, 10, 17, 13)]) ∈ xTs := xTs_3 (i := 201) rfl rfl
set_option maxRecDepth 20000 in
theorem q283 : (Cond.methodLink RL 64 yX6_recall) ∈ xTs := xTs_3 (i := 202) rfl rfl
set_option maxRecDepth 20000 in
theorem q284 : (Cond.instanceMethod yX6_recall) ∈ xTs := xTs_3 (i := 203) rfl rfl
set_option maxRecDepth 20000 in
theorem q285 : (Cond.selects RX6 yX6_recall yX6_recall) ∈ xTs := xTs_3 (i := 204) rfl rfl
set_option maxRecDepth 20000 in
theorem q286 : (Cond.code yX6_recall cX6_recall 5 (Option.some Jvm.ClassFile.FieldType.int)) ∈ xTs := xTs_3 (i := 205) rfl rfl
set_option maxRecDepth 20000 in
theorem q287 : (Cond.methodLink RL 148 yL_asked) ∈ xTs := xTs_3 (i := 208) rfl rfl
set_option maxRecDepth 20000 in
theorem q288 : (Cond.static yL_asked) ∈ xTs := xTs_3 (i := 209) rfl rfl
set_option maxRecDepth 20000 in
theorem q289 : (Cond.codeWith yL_asked cL_asked 6 (Option.some Jvm.ClassFile.FieldType.int) [(0, 12, 15, 19)]) ∈ xTs := xTs_3 (i := 210) rfl rfl
set_option maxRecDepth 20000 in
theorem q290 : (Cond.methodLink RL 67 yX6_asked) ∈ xTs := xTs_3 (i := 211) rfl rfl
set_option maxRecDepth 20000 in
theorem q291 : (Cond.instanceMethod yX6_asked) ∈ xTs := xTs_3 (i := 212) rfl rfl
set_option maxRecDepth 20000 in
theorem q292 : (Cond.selects RX6 yX6_asked yX6_asked) ∈ xTs := xTs_3 (i := 213) rfl rfl
set_option maxRecDepth 20000 in
theorem q293 : (Cond.code yX6_asked cX6_asked 5 (Option.some Jvm.ClassFile.FieldType.int)) ∈ xTs := xTs_3 (i := 214) rfl rfl
set_option maxRecDepth 20000 in
theorem q294 : (Cond.methodLink RL 151 yL_many) ∈ xTs := xTs_3 (i := 215) rfl rfl
set_option maxRecDepth 20000 in
theorem q295 : (Cond.static yL_many) ∈ xTs := xTs_3 (i := 216) rfl rfl
set_option maxRecDepth 20000 in
theorem q296 : (Cond.codeWith yL_many cL_many 4 (Option.some Jvm.ClassFile.FieldType.int) [(0, 9, 12, 21)]) ∈ xTs := xTs_3 (i := 217) rfl rfl
set_option maxRecDepth 20000 in
theorem q297 : (Cond.methodLink RL 70 yX6_many) ∈ xTs := xTs_3 (i := 218) rfl rfl
set_option maxRecDepth 20000 in
theorem q298 : (Cond.instanceMethod yX6_many) ∈ xTs := xTs_3 (i := 219) rfl rfl
set_option maxRecDepth 20000 in
theorem q299 : (Cond.selects RX6 yX6_many yX6_many) ∈ xTs := xTs_3 (i := 220) rfl rfl
set_option maxRecDepth 20000 in
theorem q300 : (Cond.code yX6_many cX6_many 2 (Option.some Jvm.ClassFile.FieldType.int)) ∈ xTs := xTs_3 (i := 221) rfl rfl
set_option maxRecDepth 20000 in
theorem q301 : (Cond.methodLink RL 159 yL_wouldCome) ∈ xTs := xTs_3 (i := 222) rfl rfl
set_option maxRecDepth 20000 in
theorem q302 : (Cond.static yL_wouldCome) ∈ xTs := xTs_3 (i := 223) rfl rfl
set_option maxRecDepth 20000 in
theorem q303 : (Cond.codeWith yL_wouldCome cL_wouldCome 5 (Option.some Jvm.ClassFile.FieldType.int) [(0, 10, 13, 19), (0, 10, 17, 21)]) ∈ xTs := xTs_3 (i := 224) rfl rfl
set_option maxRecDepth 20000 in
theorem q304 : (Cond.methodLink RL 73 yX6_wouldCome) ∈ xTs := xTs_3 (i := 225) rfl rfl
set_option maxRecDepth 20000 in
theorem q305 : (Cond.instanceMethod yX6_wouldCome) ∈ xTs := xTs_3 (i := 226) rfl rfl
set_option maxRecDepth 20000 in
theorem q306 : (Cond.selects RX6 yX6_wouldCome yX6_wouldCome) ∈ xTs := xTs_3 (i := 227) rfl rfl
set_option maxRecDepth 20000 in
theorem q307 : (Cond.code yX6_wouldCome cX6_wouldCome 4 (Option.some Jvm.ClassFile.FieldType.int)) ∈ xTs := xTs_3 (i := 228) rfl rfl
set_option maxRecDepth 20000 in
theorem q308 : (Cond.methodLink RL 162 yL_goneIn) ∈ xTs := xTs_3 (i := 230) rfl rfl
set_option maxRecDepth 20000 in
theorem q309 : (Cond.static yL_goneIn) ∈ xTs := xTs_3 (i := 231) rfl rfl
set_option maxRecDepth 20000 in
theorem q310 : (Cond.codeWith yL_goneIn cL_goneIn 5 (Option.some Jvm.ClassFile.FieldType.int) [(0, 10, 13, 19)]) ∈ xTs := xTs_3 (i := 232) rfl rfl
set_option maxRecDepth 20000 in
theorem q311 : (Cond.methodLink RL 76 yX6_goneIn) ∈ xTs := xTs_3 (i := 233) rfl rfl
set_option maxRecDepth 20000 in
theorem q312 : (Cond.instanceMethod yX6_goneIn) ∈ xTs := xTs_3 (i := 234) rfl rfl
set_option maxRecDepth 20000 in
theorem q313 : (Cond.selects RX6 yX6_goneIn yX6_goneIn) ∈ xTs := xTs_3 (i := 235) rfl rfl
set_option maxRecDepth 20000 in
theorem q314 : (Cond.code yX6_goneIn cX6_goneIn 4 (Option.some Jvm.ClassFile.FieldType.int)) ∈ xTs := xTs_3 (i := 236) rfl rfl
set_option maxRecDepth 20000 in
theorem q315 : (Cond.methodLink RL 165 yL_wouldBreak) ∈ xTs := xTs_3 (i := 237) rfl rfl
set_option maxRecDepth 20000 in
theorem q316 : (Cond.static yL_wouldBreak) ∈ xTs := xTs_3 (i := 238) rfl rfl
set_option maxRecDepth 20000 in
theorem q317 : (Cond.codeWith yL_wouldBreak cL_wouldBreak 6 (Option.some Jvm.ClassFile.FieldType.int) [(0, 12, 15, 19), (0, 12, 19, 21)]) ∈ xTs := xTs_3 (i := 239) rfl rfl
set_option maxRecDepth 20000 in
theorem q318 : (Cond.methodLink RL 79 yX6_wouldBreak) ∈ xTs := xTs_4 (i := 0) rfl rfl
set_option maxRecDepth 20000 in
theorem q319 : (Cond.instanceMethod yX6_wouldBreak) ∈ xTs := xTs_4 (i := 1) rfl rfl
set_option maxRecDepth 20000 in
theorem q320 : (Cond.selects RX6 yX6_wouldBreak yX6_wouldBreak) ∈ xTs := xTs_4 (i := 2) rfl rfl
set_option maxRecDepth 20000 in
theorem q321 : (Cond.code yX6_wouldBreak cX6_wouldBreak 8 (Option.some Jvm.ClassFile.FieldType.int)) ∈ xTs := xTs_4 (i := 3) rfl rfl
set_option maxRecDepth 20000 in
theorem q322 : (Cond.methodLink RL 168 yL_target) ∈ xTs := xTs_4 (i := 4) rfl rfl
set_option maxRecDepth 20000 in
theorem q323 : (Cond.static yL_target) ∈ xTs := xTs_4 (i := 5) rfl rfl
set_option maxRecDepth 20000 in
theorem q324 : (Cond.codeWith yL_target cL_target 4 (Option.some Jvm.ClassFile.FieldType.int) [(0, 9, 12, 19)]) ∈ xTs := xTs_4 (i := 6) rfl rfl
set_option maxRecDepth 20000 in
theorem q325 : (Cond.methodLink RL 82 yX6_target) ∈ xTs := xTs_4 (i := 7) rfl rfl
set_option maxRecDepth 20000 in
theorem q326 : (Cond.instanceMethod yX6_target) ∈ xTs := xTs_4 (i := 8) rfl rfl
set_option maxRecDepth 20000 in
theorem q327 : (Cond.selects RX6 yX6_target yX6_target) ∈ xTs := xTs_4 (i := 9) rfl rfl
set_option maxRecDepth 20000 in
theorem q328 : (Cond.code yX6_target cX6_target 3 (Option.some Jvm.ClassFile.FieldType.int)) ∈ xTs := xTs_4 (i := 10) rfl rfl
set_option maxRecDepth 20000 in
theorem q329 : (Cond.methodLink RL 171 yL_goneBy) ∈ xTs := xTs_4 (i := 11) rfl rfl
set_option maxRecDepth 20000 in
theorem q330 : (Cond.static yL_goneBy) ∈ xTs := xTs_4 (i := 12) rfl rfl
set_option maxRecDepth 20000 in
theorem q331 : (Cond.codeWith yL_goneBy cL_goneBy 6 (Option.some Jvm.ClassFile.FieldType.int) [(0, 12, 15, 19), (0, 12, 19, 21), (0, 12, 23, 13)]) ∈ xTs := xTs_4 (i := 13) rfl rfl
set_option maxRecDepth 20000 in
theorem q332 : (Cond.methodLink RL 85 yX6_goneBy) ∈ xTs := xTs_4 (i := 14) rfl rfl
set_option maxRecDepth 20000 in
theorem q333 : (Cond.instanceMethod yX6_goneBy) ∈ xTs := xTs_4 (i := 15) rfl rfl
set_option maxRecDepth 20000 in
theorem q334 : (Cond.selects RX6 yX6_goneBy yX6_goneBy) ∈ xTs := xTs_4 (i := 16) rfl rfl
set_option maxRecDepth 20000 in
theorem q335 : (Cond.code yX6_goneBy cX6_goneBy 5 (Option.some Jvm.ClassFile.FieldType.int)) ∈ xTs := xTs_4 (i := 17) rfl rfl
set_option maxRecDepth 20000 in
theorem q336 : (Cond.classLink RL 89 RX12) ∈ xTs := xTs_4 (i := 18) rfl rfl
set_option maxRecDepth 20000 in
theorem q337 : (Cond.instantiable RX12 2) ∈ xTs := xTs_4 (i := 19) rfl rfl
set_option maxRecDepth 20000 in
theorem q338 : (Cond.methodLink RL 91 yX12_init) ∈ xTs := xTs_4 (i := 20) rfl rfl
set_option maxRecDepth 20000 in
theorem q339 : (Cond.instanceMethod yX12_init) ∈ xTs := xTs_4 (i := 21) rfl rfl
set_option maxRecDepth 20000 in
theorem q340 : (Cond.code yX12_init cX12_init 1 (Option.none : Option Jvm.ClassFile.FieldType)) ∈ xTs := xTs_4 (i := 22) rfl rfl
set_option maxRecDepth 20000 in
theorem q341 : (Cond.methodLink RX12 1 objectInit) ∈ xTs := xTs_4 (i := 23) rfl rfl
set_option maxRecDepth 20000 in
theorem q342 : (Cond.classLink RX12 7 RX10) ∈ xTs := xTs_4 (i := 24) rfl rfl
set_option maxRecDepth 20000 in
theorem q343 : (Cond.instantiable RX10 5) ∈ xTs := xTs_4 (i := 25) rfl rfl
set_option maxRecDepth 20000 in
theorem q344 : (Cond.instanceMethod yX10_init) ∈ xTs := xTs_4 (i := 27) rfl rfl
set_option maxRecDepth 20000 in
theorem q345 : (Cond.code yX10_init cX10_init 1 (Option.none : Option Jvm.ClassFile.FieldType)) ∈ xTs := xTs_4 (i := 28) rfl rfl
set_option maxRecDepth 20000 in
theorem q346 : (Cond.methodLink RX10 3 objectInit) ∈ xTs := xTs_4 (i := 29) rfl rfl
set_option maxRecDepth 20000 in
theorem q347 : (Cond.classLink RX10 9 RJx4a65c) ∈ xTs := xTs_4 (i := 30) rfl rfl
set_option maxRecDepth 20000 in
theorem q348 : (Cond.instantiable RJx4a65c 3) ∈ xTs := xTs_4 (i := 31) rfl rfl
set_option maxRecDepth 20000 in
theorem q349 : (Cond.methodLink RX10 11 yJx4a65c_init_da8c8) ∈ xTs := xTs_4 (i := 32) rfl rfl
set_option maxRecDepth 20000 in
theorem q350 : (Cond.instanceMethod yJx4a65c_init_da8c8) ∈ xTs := xTs_4 (i := 33) rfl rfl
set_option maxRecDepth 20000 in
theorem q351 : (Cond.code yJx4a65c_init_da8c8 cJx4a65c_init_da8c8 1 (Option.none : Option Jvm.ClassFile.FieldType)) ∈ xTs := xTs_4 (i := 34) rfl rfl
set_option maxRecDepth 20000 in
theorem q352 : (Cond.methodLink RJx4a65c 1 yJxc12de_init_da8c8) ∈ xTs := xTs_4 (i := 35) rfl rfl
set_option maxRecDepth 20000 in
theorem q353 : (Cond.instanceMethod yJxc12de_init_da8c8) ∈ xTs := xTs_4 (i := 36) rfl rfl
set_option maxRecDepth 20000 in
theorem q354 : (Cond.code yJxc12de_init_da8c8 cJxc12de_init_da8c8 1 (Option.none : Option Jvm.ClassFile.FieldType)) ∈ xTs := xTs_4 (i := 37) rfl rfl
set_option maxRecDepth 20000 in
theorem q355 : (Cond.methodLink RJxc12de 1 yJxa1e45_init_da8c8) ∈ xTs := xTs_4 (i := 38) rfl rfl
set_option maxRecDepth 20000 in
theorem q356 : (Cond.instanceMethod yJxa1e45_init_da8c8) ∈ xTs := xTs_4 (i := 39) rfl rfl
set_option maxRecDepth 20000 in
theorem q357 : (Cond.code yJxa1e45_init_da8c8 cJxa1e45_init_da8c8 1 (Option.none : Option Jvm.ClassFile.FieldType)) ∈ xTs := xTs_4 (i := 40) rfl rfl
set_option maxRecDepth 20000 in
theorem q358 : (Cond.methodLink RJxa1e45 1 objectInit) ∈ xTs := xTs_4 (i := 41) rfl rfl
set_option maxRecDepth 20000 in
theorem q359 : (Cond.fieldLink RJx4a65c 39 "java/util/ArrayList" "DEFAULTCAPACITY_EMPTY_ELEMENTDATA" "[Ljava/lang/Object;") ∈ xTs := xTs_4 (i := 42) rfl rfl
set_option maxRecDepth 20000 in
theorem q360 : (Cond.fieldLink RJx4a65c 9 "java/util/ArrayList" "elementData" "[Ljava/lang/Object;") ∈ xTs := xTs_4 (i := 44) rfl rfl
set_option maxRecDepth 20000 in
theorem q361 : (Cond.fieldLink RJx35411 37 "java/util/ArrayList" "elementData" "[Ljava/lang/Object;") ∈ xTs := xTs_4 (i := 45) rfl rfl
set_option maxRecDepth 20000 in
theorem q362 : (Cond.fieldLink RJx4a65c 48 "java/util/ArrayList" "size" "I") ∈ xTs := xTs_4 (i := 47) rfl rfl
set_option maxRecDepth 20000 in
theorem q363 : (Cond.fieldLink RJxc12de 7 "java/util/AbstractList" "modCount" "I") ∈ xTs := xTs_4 (i := 48) rfl rfl
set_option maxRecDepth 20000 in
theorem q364 : (Cond.fieldLink RJx35411 17 "java/util/ArrayList" "modCount" "I") ∈ xTs := xTs_4 (i := 49) rfl rfl
set_option maxRecDepth 20000 in
theorem q365 : (Cond.sameField "java/util/ArrayList" "java/util/AbstractList" "modCount" "I") ∈ xTs := xTs_4 (i := 50) rfl rfl
set_option maxRecDepth 20000 in
theorem q366 : (Cond.fieldLink RJx4a65c 63 "java/util/ArrayList" "modCount" "I") ∈ xTs := xTs_4 (i := 51) rfl rfl
set_option maxRecDepth 20000 in
theorem q367 : (Cond.lays "java/util/ArrayList" "java/util/ArrayList" "elementData" "[Ljava/lang/Object;") ∈ xTs := xTs_4 (i := 52) rfl rfl
set_option maxRecDepth 20000 in
theorem q368 : (Cond.lays "java/util/ArrayList" "java/util/ArrayList" "size" "I") ∈ xTs := xTs_4 (i := 54) rfl rfl
set_option maxRecDepth 20000 in
theorem q369 : (Cond.lays "java/util/ArrayList" "java/util/AbstractList" "modCount" "I") ∈ xTs := xTs_4 (i := 56) rfl rfl
set_option maxRecDepth 20000 in
theorem q370 : (Cond.fieldLink RX10 12 "ServiceApiaryModel$Registry" "faces" "Ljava/util/ArrayList;") ∈ xTs := xTs_4 (i := 59) rfl rfl
set_option maxRecDepth 20000 in
theorem q371 : (Cond.fieldLink RX12 24 "ServiceApiaryModel$Registry" "faces" "Ljava/util/ArrayList;") ∈ xTs := xTs_4 (i := 60) rfl rfl
set_option maxRecDepth 20000 in
theorem q372 : (Cond.fieldLink RX10 18 "ServiceApiaryModel$Registry" "clients" "Ljava/util/ArrayList;") ∈ xTs := xTs_4 (i := 61) rfl rfl
set_option maxRecDepth 20000 in
theorem q373 : (Cond.fieldLink RX12 53 "ServiceApiaryModel$Registry" "clients" "Ljava/util/ArrayList;") ∈ xTs := xTs_4 (i := 62) rfl rfl
set_option maxRecDepth 20000 in
theorem q374 : (Cond.fieldLink RX10 21 "ServiceApiaryModel$Registry" "adapters" "Ljava/util/ArrayList;") ∈ xTs := xTs_4 (i := 63) rfl rfl
set_option maxRecDepth 20000 in
theorem q375 : (Cond.fieldLink RX12 175 "ServiceApiaryModel$Registry" "adapters" "Ljava/util/ArrayList;") ∈ xTs := xTs_4 (i := 64) rfl rfl
set_option maxRecDepth 20000 in
theorem q376 : (Cond.fieldLink RX10 24 "ServiceApiaryModel$Registry" "calls" "Ljava/util/ArrayList;") ∈ xTs := xTs_4 (i := 65) rfl rfl
set_option maxRecDepth 20000 in
theorem q377 : (Cond.fieldLink RX12 105 "ServiceApiaryModel$Registry" "calls" "Ljava/util/ArrayList;") ∈ xTs := xTs_4 (i := 66) rfl rfl
set_option maxRecDepth 20000 in
theorem q378 : (Cond.fieldLink RX10 50 "ServiceApiaryModel$Registry" "now" "I") ∈ xTs := xTs_4 (i := 67) rfl rfl
set_option maxRecDepth 20000 in
theorem q379 : (Cond.fieldLink RX12 227 "ServiceApiaryModel$Registry" "now" "I") ∈ xTs := xTs_4 (i := 68) rfl rfl
set_option maxRecDepth 20000 in
theorem q380 : (Cond.laysFinal "ServiceApiaryModel$Registry" "ServiceApiaryModel$Registry" "faces" "Ljava/util/ArrayList;") ∈ xTs := xTs_4 (i := 69) rfl rfl
set_option maxRecDepth 20000 in
theorem q381 : (Cond.laysFinal "ServiceApiaryModel$Registry" "ServiceApiaryModel$Registry" "clients" "Ljava/util/ArrayList;") ∈ xTs := xTs_4 (i := 71) rfl rfl
set_option maxRecDepth 20000 in
theorem q382 : (Cond.laysFinal "ServiceApiaryModel$Registry" "ServiceApiaryModel$Registry" "adapters" "Ljava/util/ArrayList;") ∈ xTs := xTs_4 (i := 73) rfl rfl
set_option maxRecDepth 20000 in
theorem q383 : (Cond.laysFinal "ServiceApiaryModel$Registry" "ServiceApiaryModel$Registry" "calls" "Ljava/util/ArrayList;") ∈ xTs := xTs_4 (i := 75) rfl rfl
set_option maxRecDepth 20000 in
theorem q384 : (Cond.lays "ServiceApiaryModel$Registry" "ServiceApiaryModel$Registry" "now" "I") ∈ xTs := xTs_4 (i := 77) rfl rfl
set_option maxRecDepth 20000 in
theorem q385 : (Cond.fieldLink RX12 16 "ServiceApiaryModel" "thrown" "I") ∈ xTs := xTs_4 (i := 80) rfl rfl
set_option maxRecDepth 20000 in
theorem q386 : (Cond.fieldLink RX12 10 "ServiceApiaryModel" "registry" "LServiceApiaryModel$Registry;") ∈ xTs := xTs_4 (i := 81) rfl rfl
set_option maxRecDepth 20000 in
theorem q387 : (Cond.lays "ServiceApiaryModel" "ServiceApiaryModel" "thrown" "I") ∈ xTs := xTs_4 (i := 82) rfl rfl
set_option maxRecDepth 20000 in
theorem q388 : (Cond.laysFinal "ServiceApiaryModel" "ServiceApiaryModel" "registry" "LServiceApiaryModel$Registry;") ∈ xTs := xTs_4 (i := 84) rfl rfl
set_option maxRecDepth 20000 in
theorem q389 : (Cond.methodLink RL 98 yX12_thrown) ∈ xTs := xTs_4 (i := 87) rfl rfl
set_option maxRecDepth 20000 in
theorem q390 : (Cond.instanceMethod yX12_thrown) ∈ xTs := xTs_4 (i := 88) rfl rfl
set_option maxRecDepth 20000 in
theorem q391 : (Cond.selects RX12 yX12_thrown yX12_thrown) ∈ xTs := xTs_4 (i := 89) rfl rfl
set_option maxRecDepth 20000 in
theorem q392 : (Cond.code yX12_thrown cX12_thrown 1 (Option.some Jvm.ClassFile.FieldType.int)) ∈ xTs := xTs_4 (i := 90) rfl rfl
set_option maxRecDepth 20000 in
theorem q393 : (Cond.methodLink RL 97 yX12_open) ∈ xTs := xTs_4 (i := 91) rfl rfl
set_option maxRecDepth 20000 in
theorem q394 : (Cond.instanceMethod yX12_open) ∈ xTs := xTs_4 (i := 92) rfl rfl
set_option maxRecDepth 20000 in
theorem q395 : (Cond.selects RX12 yX12_open yX12_open) ∈ xTs := xTs_4 (i := 93) rfl rfl
set_option maxRecDepth 20000 in
theorem q396 : (Cond.code yX12_open cX12_open 1 (Option.some Jvm.ClassFile.FieldType.int)) ∈ xTs := xTs_4 (i := 94) rfl rfl
set_option maxRecDepth 20000 in
theorem q397 : (Cond.methodLink RX12 28 yJx4a65c_size_8abf5) ∈ xTs := xTs_4 (i := 95) rfl rfl
set_option maxRecDepth 20000 in
theorem q398 : (Cond.instanceMethod yJx4a65c_size_8abf5) ∈ xTs := xTs_4 (i := 96) rfl rfl
set_option maxRecDepth 20000 in
theorem q399 : (Cond.selects RJx4a65c yJx4a65c_size_8abf5 yJx4a65c_size_8abf5) ∈ xTs := xTs_4 (i := 97) rfl rfl
set_option maxRecDepth 20000 in
theorem q400 : (Cond.code yJx4a65c_size_8abf5 cJx4a65c_size_8abf5 1 (Option.some Jvm.ClassFile.FieldType.int)) ∈ xTs := xTs_4 (i := 98) rfl rfl
set_option maxRecDepth 20000 in
theorem q401 : (Cond.methodLink RX12 50 yX12_start) ∈ xTs := xTs_4 (i := 99) rfl rfl
set_option maxRecDepth 20000 in
theorem q402 : (Cond.instanceMethod yX12_start) ∈ xTs := xTs_4 (i := 101) rfl rfl
set_option maxRecDepth 20000 in
theorem q403 : (Cond.code yX12_start cX12_start 3 (Option.some Jvm.ClassFile.FieldType.boolean)) ∈ xTs := xTs_4 (i := 102) rfl rfl
set_option maxRecDepth 20000 in
theorem q404 : (Cond.methodLink RX12 20 yX12_refuse) ∈ xTs := xTs_4 (i := 103) rfl rfl
set_option maxRecDepth 20000 in
theorem q405 : (Cond.instanceMethod yX12_refuse) ∈ xTs := xTs_4 (i := 105) rfl rfl
set_option maxRecDepth 20000 in
theorem q406 : (Cond.code yX12_refuse cX12_refuse 3 (Option.some Jvm.ClassFile.FieldType.boolean)) ∈ xTs := xTs_4 (i := 106) rfl rfl
set_option maxRecDepth 20000 in
theorem q407 : (Cond.classLink RX12 29 RJx4a65c) ∈ xTs := xTs_4 (i := 107) rfl rfl
set_option maxRecDepth 20000 in
theorem q408 : (Cond.methodLink RX12 71 yJx4a65c_init_da8c8) ∈ xTs := xTs_4 (i := 108) rfl rfl
set_option maxRecDepth 20000 in
theorem q409 : (Cond.methodLink RX12 72 yJx4a65c_add_9ea2d) ∈ xTs := xTs_4 (i := 109) rfl rfl
set_option maxRecDepth 20000 in
theorem q410 : (Cond.instanceMethod yJx4a65c_add_9ea2d) ∈ xTs := xTs_4 (i := 110) rfl rfl
set_option maxRecDepth 20000 in
theorem q411 : (Cond.selects RJx4a65c yJx4a65c_add_9ea2d yJx4a65c_add_9ea2d) ∈ xTs := xTs_4 (i := 111) rfl rfl
set_option maxRecDepth 20000 in
theorem q412 : (Cond.code yJx4a65c_add_9ea2d cJx4a65c_add_9ea2d 2 (Option.some Jvm.ClassFile.FieldType.boolean)) ∈ xTs := xTs_4 (i := 112) rfl rfl
set_option maxRecDepth 20000 in
theorem q413 : (Cond.methodLink RJx4a65c 131 yJx4a65c_add_72be8) ∈ xTs := xTs_4 (i := 113) rfl rfl
set_option maxRecDepth 20000 in
theorem q414 : (Cond.instanceMethod yJx4a65c_add_72be8) ∈ xTs := xTs_4 (i := 115) rfl rfl
set_option maxRecDepth 20000 in
theorem q415 : (Cond.code yJx4a65c_add_72be8 cJx4a65c_add_72be8 4 (Option.none : Option Jvm.ClassFile.FieldType)) ∈ xTs := xTs_4 (i := 116) rfl rfl
set_option maxRecDepth 20000 in
theorem q416 : (Cond.methodLink RJx4a65c 129 yJx4a65c_grow_d5877) ∈ xTs := xTs_4 (i := 117) rfl rfl
set_option maxRecDepth 20000 in
theorem q417 : (Cond.instanceMethod yJx4a65c_grow_d5877) ∈ xTs := xTs_4 (i := 119) rfl rfl
set_option maxRecDepth 20000 in
theorem q418 : (Cond.code yJx4a65c_grow_d5877 cJx4a65c_grow_d5877 1 (Option.some (Jvm.ClassFile.FieldType.array (Jvm.ClassFile.FieldType.object "java/lang/Object")))) ∈ xTs := xTs_4 (i := 120) rfl rfl
set_option maxRecDepth 20000 in
theorem q419 : (Cond.methodLink RJx4a65c 69 yJx4a65c_grow_92f84) ∈ xTs := xTs_4 (i := 121) rfl rfl
set_option maxRecDepth 20000 in
theorem q420 : (Cond.instanceMethod yJx4a65c_grow_92f84) ∈ xTs := xTs_4 (i := 123) rfl rfl
set_option maxRecDepth 20000 in
theorem q421 : (Cond.code yJx4a65c_grow_92f84 cJx4a65c_grow_92f84 4 (Option.some (Jvm.ClassFile.FieldType.array (Jvm.ClassFile.FieldType.object "java/lang/Object")))) ∈ xTs := xTs_4 (i := 124) rfl rfl
set_option maxRecDepth 20000 in
theorem q422 : (Cond.classLink RJ7 110 "[Ljava/lang/Object;") ∈ xTs := xTs_4 (i := 161) rfl rfl
set_option maxRecDepth 20000 in
theorem q423 : (Cond.classLink RJ7 2 "java/lang/Object") ∈ xTs := xTs_4 (i := 163) rfl rfl
set_option maxRecDepth 20000 in
theorem q424 : (Cond.methodLink RJx4a65c 79 Lib.Math.max.name) ∈ xTs := xTs_4 (i := 170) rfl rfl
set_option maxRecDepth 20000 in
theorem q425 : (Cond.classLink RJx4a65c 7 "java/lang/Object") ∈ xTs := xTs_4 (i := 171) rfl rfl
set_option maxRecDepth 20000 in
theorem q426 : (Cond.methodLink RL 104 yX12_publish) ∈ xTs := xTs_4 (i := 172) rfl rfl
set_option maxRecDepth 20000 in
theorem q427 : (Cond.instanceMethod yX12_publish) ∈ xTs := xTs_4 (i := 173) rfl rfl
set_option maxRecDepth 20000 in
theorem q428 : (Cond.selects RX12 yX12_publish yX12_publish) ∈ xTs := xTs_4 (i := 174) rfl rfl
set_option maxRecDepth 20000 in
theorem q429 : (Cond.code yX12_publish cX12_publish 8 (Option.some Jvm.ClassFile.FieldType.int)) ∈ xTs := xTs_4 (i := 175) rfl rfl
set_option maxRecDepth 20000 in
theorem q430 : (Cond.methodLink RX12 38 yX12_isNoFace) ∈ xTs := xTs_4 (i := 176) rfl rfl
set_option maxRecDepth 20000 in
theorem q431 : (Cond.instanceMethod yX12_isNoFace) ∈ xTs := xTs_4 (i := 178) rfl rfl
set_option maxRecDepth 20000 in
theorem q432 : (Cond.code yX12_isNoFace cX12_isNoFace 2 (Option.some Jvm.ClassFile.FieldType.boolean)) ∈ xTs := xTs_4 (i := 179) rfl rfl
set_option maxRecDepth 20000 in
theorem q433 : (Cond.methodLink RX12 34 yX12_isIn) ∈ xTs := xTs_4 (i := 180) rfl rfl
set_option maxRecDepth 20000 in
theorem q434 : (Cond.static yX12_isIn) ∈ xTs := xTs_4 (i := 181) rfl rfl
set_option maxRecDepth 20000 in
theorem q435 : (Cond.code yX12_isIn cX12_isIn 3 (Option.some Jvm.ClassFile.FieldType.boolean)) ∈ xTs := xTs_4 (i := 182) rfl rfl
set_option maxRecDepth 20000 in
theorem q436 : (Cond.classLink RX12 79 RX11) ∈ xTs := xTs_4 (i := 203) rfl rfl
set_option maxRecDepth 20000 in
theorem q437 : (Cond.instantiable RX11 8) ∈ xTs := xTs_4 (i := 204) rfl rfl
set_option maxRecDepth 20000 in
theorem q438 : (Cond.fieldLink RX12 121 "ServiceApiaryModel$Version" "has" "I") ∈ xTs := xTs_4 (i := 210) rfl rfl
set_option maxRecDepth 20000 in
theorem q439 : (Cond.fieldLink RX12 124 "ServiceApiaryModel$Version" "needs" "I") ∈ xTs := xTs_4 (i := 212) rfl rfl
set_option maxRecDepth 20000 in
theorem q440 : (Cond.fieldLink RX10 58 "ServiceApiaryModel$Version" "state" "I") ∈ xTs := xTs_4 (i := 214) rfl rfl
set_option maxRecDepth 20000 in
theorem q441 : (Cond.fieldLink RX12 127 "ServiceApiaryModel$Version" "state" "I") ∈ xTs := xTs_4 (i := 215) rfl rfl
set_option maxRecDepth 20000 in
theorem q442 : (Cond.fieldLink RX10 152 "ServiceApiaryModel$Version" "began" "I") ∈ xTs := xTs_4 (i := 217) rfl rfl
set_option maxRecDepth 20000 in
theorem q443 : (Cond.fieldLink RX12 130 "ServiceApiaryModel$Version" "began" "I") ∈ xTs := xTs_4 (i := 218) rfl rfl
set_option maxRecDepth 20000 in
theorem q444 : (Cond.fieldLink RX10 155 "ServiceApiaryModel$Version" "end" "I") ∈ xTs := xTs_4 (i := 220) rfl rfl
set_option maxRecDepth 20000 in
theorem q445 : (Cond.fieldLink RX12 133 "ServiceApiaryModel$Version" "end" "I") ∈ xTs := xTs_4 (i := 221) rfl rfl
set_option maxRecDepth 20000 in
theorem q446 : (Cond.fieldLink RX10 161 "ServiceApiaryModel$Version" "putOff" "I") ∈ xTs := xTs_4 (i := 223) rfl rfl
set_option maxRecDepth 20000 in
theorem q447 : (Cond.fieldLink RX12 143 "ServiceApiaryModel$Version" "putOff" "I") ∈ xTs := xTs_4 (i := 224) rfl rfl
set_option maxRecDepth 20000 in
theorem q448 : (Cond.fieldLink RX12 220 "ServiceApiaryModel$Version" "askedAt" "[I") ∈ xTs := xTs_4 (i := 226) rfl rfl
set_option maxRecDepth 20000 in
theorem q449 : (Cond.fieldLink RX12 233 "ServiceApiaryModel$Version" "answered" "[Z") ∈ xTs := xTs_4 (i := 228) rfl rfl
set_option maxRecDepth 20000 in
theorem q450 : (Cond.arrayClass FieldType.boolean) ∈ xTs := xTs_5 (i := 6) rfl rfl
set_option maxRecDepth 20000 in
theorem q451 : (Cond.methodLink RX12 84 yJx4a65c_iterator_32c93) ∈ xTs := xTs_5 (i := 7) rfl rfl
set_option maxRecDepth 20000 in
theorem q452 : (Cond.instanceMethod yJx4a65c_iterator_32c93) ∈ xTs := xTs_5 (i := 8) rfl rfl
set_option maxRecDepth 20000 in
theorem q453 : (Cond.selects RJx4a65c yJx4a65c_iterator_32c93 yJx4a65c_iterator_32c93) ∈ xTs := xTs_5 (i := 9) rfl rfl
set_option maxRecDepth 20000 in
theorem q454 : (Cond.code yJx4a65c_iterator_32c93 cJx4a65c_iterator_32c93 1 (Option.some (Jvm.ClassFile.FieldType.object "java/util/Iterator"))) ∈ xTs := xTs_5 (i := 10) rfl rfl
set_option maxRecDepth 20000 in
theorem q455 : (Cond.classLink RJx4a65c 267 RJx35411) ∈ xTs := xTs_5 (i := 11) rfl rfl
set_option maxRecDepth 20000 in
theorem q456 : (Cond.instantiable RJx35411 4) ∈ xTs := xTs_5 (i := 12) rfl rfl
set_option maxRecDepth 20000 in
theorem q457 : (Cond.methodLink RJx4a65c 269 yJx35411_init_45d68) ∈ xTs := xTs_5 (i := 13) rfl rfl
set_option maxRecDepth 20000 in
theorem q458 : (Cond.instanceMethod yJx35411_init_45d68) ∈ xTs := xTs_5 (i := 14) rfl rfl
set_option maxRecDepth 20000 in
theorem q459 : (Cond.code yJx35411_init_45d68 cJx35411_init_45d68 2 (Option.none : Option Jvm.ClassFile.FieldType)) ∈ xTs := xTs_5 (i := 15) rfl rfl
set_option maxRecDepth 20000 in
theorem q460 : (Cond.methodLink RJx35411 7 objectInit) ∈ xTs := xTs_5 (i := 16) rfl rfl
set_option maxRecDepth 20000 in
theorem q461 : (Cond.fieldLink RJx35411 25 "java/util/ArrayList$Itr" "cursor" "I") ∈ xTs := xTs_5 (i := 17) rfl rfl
set_option maxRecDepth 20000 in
theorem q462 : (Cond.fieldLink RJx35411 13 "java/util/ArrayList$Itr" "lastRet" "I") ∈ xTs := xTs_5 (i := 18) rfl rfl
set_option maxRecDepth 20000 in
theorem q463 : (Cond.fieldLink RJx35411 22 "java/util/ArrayList$Itr" "expectedModCount" "I") ∈ xTs := xTs_5 (i := 19) rfl rfl
set_option maxRecDepth 20000 in
theorem q464 : (Cond.fieldLink RJx35411 1 "java/util/ArrayList$Itr" "this$0" "Ljava/util/ArrayList;") ∈ xTs := xTs_5 (i := 20) rfl rfl
set_option maxRecDepth 20000 in
theorem q465 : (Cond.lays "java/util/ArrayList$Itr" "java/util/ArrayList$Itr" "cursor" "I") ∈ xTs := xTs_5 (i := 21) rfl rfl
set_option maxRecDepth 20000 in
theorem q466 : (Cond.lays "java/util/ArrayList$Itr" "java/util/ArrayList$Itr" "lastRet" "I") ∈ xTs := xTs_5 (i := 23) rfl rfl
set_option maxRecDepth 20000 in
theorem q467 : (Cond.lays "java/util/ArrayList$Itr" "java/util/ArrayList$Itr" "expectedModCount" "I") ∈ xTs := xTs_5 (i := 25) rfl rfl
set_option maxRecDepth 20000 in
theorem q468 : (Cond.laysFinal "java/util/ArrayList$Itr" "java/util/ArrayList$Itr" "this$0" "Ljava/util/ArrayList;") ∈ xTs := xTs_5 (i := 27) rfl rfl
set_option maxRecDepth 20000 in
theorem q469 : (Cond.methodLink RX12 88 yIt) ∈ xTs := xTs_5 (i := 31) rfl rfl
set_option maxRecDepth 20000 in
theorem q470 : (Cond.selects RJx35411 yIt yJx35411_hasNext_aae02) ∈ xTs := xTs_5 (i := 35) rfl rfl
set_option maxRecDepth 20000 in
theorem q471 : (Cond.instanceMethod yJx35411_hasNext_aae02) ∈ xTs := xTs_5 (i := 37) rfl rfl
set_option maxRecDepth 20000 in
theorem q472 : (Cond.code yJx35411_hasNext_aae02 cJx35411_hasNext_aae02 1 (Option.some Jvm.ClassFile.FieldType.boolean)) ∈ xTs := xTs_5 (i := 39) rfl rfl
set_option maxRecDepth 20000 in
theorem q473 : (Cond.methodLink RL 107 yX12_ofVersion) ∈ xTs := xTs_5 (i := 57) rfl rfl
set_option maxRecDepth 20000 in
theorem q474 : (Cond.instanceMethod yX12_ofVersion) ∈ xTs := xTs_5 (i := 58) rfl rfl
set_option maxRecDepth 20000 in
theorem q475 : (Cond.selects RX12 yX12_ofVersion yX12_ofVersion) ∈ xTs := xTs_5 (i := 59) rfl rfl
set_option maxRecDepth 20000 in
theorem q476 : (Cond.code yX12_ofVersion cX12_ofVersion 4 (Option.some Jvm.ClassFile.FieldType.int)) ∈ xTs := xTs_5 (i := 60) rfl rfl
set_option maxRecDepth 20000 in
theorem q477 : (Cond.methodLink RX12 152 yX12_isNoVersion) ∈ xTs := xTs_5 (i := 61) rfl rfl
set_option maxRecDepth 20000 in
theorem q478 : (Cond.instanceMethod yX12_isNoVersion) ∈ xTs := xTs_5 (i := 63) rfl rfl
set_option maxRecDepth 20000 in
theorem q479 : (Cond.code yX12_isNoVersion cX12_isNoVersion 3 (Option.some Jvm.ClassFile.FieldType.boolean)) ∈ xTs := xTs_5 (i := 64) rfl rfl
set_option maxRecDepth 20000 in
theorem q480 : (Cond.methodLink RX12 46 yX12_isNo) ∈ xTs := xTs_5 (i := 65) rfl rfl
set_option maxRecDepth 20000 in
theorem q481 : (Cond.instanceMethod yX12_isNo) ∈ xTs := xTs_5 (i := 67) rfl rfl
set_option maxRecDepth 20000 in
theorem q482 : (Cond.code yX12_isNo cX12_isNo 3 (Option.some Jvm.ClassFile.FieldType.boolean)) ∈ xTs := xTs_5 (i := 68) rfl rfl
set_option maxRecDepth 20000 in
theorem q483 : (Cond.classLink RX10 36 RX11) ∈ xTs := xTs_5 (i := 82) rfl rfl
set_option maxRecDepth 20000 in
theorem q484 : (Cond.classLink RX10 91 RX9) ∈ xTs := xTs_5 (i := 91) rfl rfl
set_option maxRecDepth 20000 in
theorem q485 : (Cond.methodLink RX10 28 yJx4a65c_size_8abf5) ∈ xTs := xTs_5 (i := 96) rfl rfl
set_option maxRecDepth 20000 in
theorem q486 : (Cond.classLink RX10 96 RX8) ∈ xTs := xTs_5 (i := 97) rfl rfl
set_option maxRecDepth 20000 in
theorem q487 : (Cond.classLink RX10 65 RX7) ∈ xTs := xTs_5 (i := 124) rfl rfl
set_option maxRecDepth 20000 in
theorem q488 : (Cond.classLink RX12 108 RX8) ∈ xTs := xTs_5 (i := 134) rfl rfl
set_option maxRecDepth 20000 in
theorem q489 : (Cond.classLink RX12 59 RX9) ∈ xTs := xTs_5 (i := 135) rfl rfl
set_option maxRecDepth 20000 in
theorem q490 : (Cond.methodLink RL 110 yX12_isCompatible) ∈ xTs := xTs_5 (i := 144) rfl rfl
set_option maxRecDepth 20000 in
theorem q491 : (Cond.instanceMethod yX12_isCompatible) ∈ xTs := xTs_5 (i := 145) rfl rfl
set_option maxRecDepth 20000 in
theorem q492 : (Cond.selects RX12 yX12_isCompatible yX12_isCompatible) ∈ xTs := xTs_5 (i := 146) rfl rfl
set_option maxRecDepth 20000 in
theorem q493 : (Cond.code yX12_isCompatible cX12_isCompatible 4 (Option.some Jvm.ClassFile.FieldType.boolean)) ∈ xTs := xTs_5 (i := 147) rfl rfl
set_option maxRecDepth 20000 in
theorem q494 : (Cond.methodLink RL 114 yX12_client) ∈ xTs := xTs_5 (i := 148) rfl rfl
set_option maxRecDepth 20000 in
theorem q495 : (Cond.instanceMethod yX12_client) ∈ xTs := xTs_5 (i := 149) rfl rfl
set_option maxRecDepth 20000 in
theorem q496 : (Cond.selects RX12 yX12_client yX12_client) ∈ xTs := xTs_5 (i := 150) rfl rfl
set_option maxRecDepth 20000 in
theorem q497 : (Cond.code yX12_client cX12_client 5 (Option.some Jvm.ClassFile.FieldType.int)) ∈ xTs := xTs_5 (i := 151) rfl rfl
set_option maxRecDepth 20000 in
theorem q498 : (Cond.instantiable RX9 4) ∈ xTs := xTs_5 (i := 153) rfl rfl
set_option maxRecDepth 20000 in
theorem q499 : (Cond.fieldLink RX10 128 "ServiceApiaryModel$Client" "owner" "I") ∈ xTs := xTs_5 (i := 159) rfl rfl
set_option maxRecDepth 20000 in
theorem q500 : (Cond.fieldLink RX12 183 "ServiceApiaryModel$Client" "owner" "I") ∈ xTs := xTs_5 (i := 160) rfl rfl
set_option maxRecDepth 20000 in
theorem q501 : (Cond.fieldLink RX10 90 "ServiceApiaryModel$Client" "face" "I") ∈ xTs := xTs_5 (i := 162) rfl rfl
set_option maxRecDepth 20000 in
theorem q502 : (Cond.fieldLink RX12 61 "ServiceApiaryModel$Client" "face" "I") ∈ xTs := xTs_5 (i := 163) rfl rfl
set_option maxRecDepth 20000 in
theorem q503 : (Cond.fieldLink RX10 115 "ServiceApiaryModel$Client" "version" "I") ∈ xTs := xTs_5 (i := 165) rfl rfl
set_option maxRecDepth 20000 in
theorem q504 : (Cond.fieldLink RX12 119 "ServiceApiaryModel$Client" "version" "I") ∈ xTs := xTs_5 (i := 166) rfl rfl
set_option maxRecDepth 20000 in
theorem q505 : (Cond.fieldLink RX10 93 "ServiceApiaryModel$Client" "uses" "I") ∈ xTs := xTs_5 (i := 168) rfl rfl
set_option maxRecDepth 20000 in
theorem q506 : (Cond.fieldLink RX12 165 "ServiceApiaryModel$Client" "uses" "I") ∈ xTs := xTs_5 (i := 169) rfl rfl
set_option maxRecDepth 20000 in
theorem q507 : (Cond.methodLink RL 118 yX12_again) ∈ xTs := xTs_5 (i := 179) rfl rfl
set_option maxRecDepth 20000 in
theorem q508 : (Cond.instanceMethod yX12_again) ∈ xTs := xTs_5 (i := 180) rfl rfl
set_option maxRecDepth 20000 in
theorem q509 : (Cond.selects RX12 yX12_again yX12_again) ∈ xTs := xTs_5 (i := 181) rfl rfl
set_option maxRecDepth 20000 in
theorem q510 : (Cond.code yX12_again cX12_again 4 (Option.some Jvm.ClassFile.FieldType.int)) ∈ xTs := xTs_5 (i := 182) rfl rfl
set_option maxRecDepth 20000 in
theorem q511 : (Cond.methodLink RX12 168 yX12_isNoPair) ∈ xTs := xTs_5 (i := 183) rfl rfl
set_option maxRecDepth 20000 in
theorem q512 : (Cond.instanceMethod yX12_isNoPair) ∈ xTs := xTs_5 (i := 185) rfl rfl
set_option maxRecDepth 20000 in
theorem q513 : (Cond.code yX12_isNoPair cX12_isNoPair 3 (Option.some Jvm.ClassFile.FieldType.boolean)) ∈ xTs := xTs_5 (i := 186) rfl rfl
set_option maxRecDepth 20000 in
theorem q514 : (Cond.methodLink RX12 56 yX12_isNoOne) ∈ xTs := xTs_5 (i := 187) rfl rfl
set_option maxRecDepth 20000 in
theorem q515 : (Cond.instanceMethod yX12_isNoOne) ∈ xTs := xTs_5 (i := 189) rfl rfl
set_option maxRecDepth 20000 in
theorem q516 : (Cond.code yX12_isNoOne cX12_isNoOne 2 (Option.some Jvm.ClassFile.FieldType.boolean)) ∈ xTs := xTs_5 (i := 190) rfl rfl
set_option maxRecDepth 20000 in
theorem q517 : (Cond.methodLink RL 122 yX12_adapter) ∈ xTs := xTs_5 (i := 195) rfl rfl
set_option maxRecDepth 20000 in
theorem q518 : (Cond.instanceMethod yX12_adapter) ∈ xTs := xTs_5 (i := 196) rfl rfl
set_option maxRecDepth 20000 in
theorem q519 : (Cond.selects RX12 yX12_adapter yX12_adapter) ∈ xTs := xTs_5 (i := 197) rfl rfl
set_option maxRecDepth 20000 in
theorem q520 : (Cond.code yX12_adapter cX12_adapter 6 (Option.some Jvm.ClassFile.FieldType.int)) ∈ xTs := xTs_5 (i := 198) rfl rfl
set_option maxRecDepth 20000 in
theorem q521 : (Cond.classLink RX12 178 RX7) ∈ xTs := xTs_5 (i := 199) rfl rfl
set_option maxRecDepth 20000 in
theorem q522 : (Cond.instantiable RX7 5) ∈ xTs := xTs_5 (i := 200) rfl rfl
set_option maxRecDepth 20000 in
theorem q523 : (Cond.fieldLink RX10 67 "ServiceApiaryModel$Adapter" "face" "I") ∈ xTs := xTs_5 (i := 206) rfl rfl
set_option maxRecDepth 20000 in
theorem q524 : (Cond.fieldLink RX10 70 "ServiceApiaryModel$Adapter" "from" "I") ∈ xTs := xTs_5 (i := 208) rfl rfl
set_option maxRecDepth 20000 in
theorem q525 : (Cond.fieldLink RX10 73 "ServiceApiaryModel$Adapter" "to" "I") ∈ xTs := xTs_5 (i := 210) rfl rfl
set_option maxRecDepth 20000 in
theorem q526 : (Cond.fieldLink RX12 198 "ServiceApiaryModel$Adapter" "to" "I") ∈ xTs := xTs_5 (i := 211) rfl rfl
set_option maxRecDepth 20000 in
theorem q527 : (Cond.methodLink RL 125 yX12_ofClient) ∈ xTs := xTs_5 (i := 225) rfl rfl
set_option maxRecDepth 20000 in
theorem q528 : (Cond.instanceMethod yX12_ofClient) ∈ xTs := xTs_5 (i := 226) rfl rfl
set_option maxRecDepth 20000 in
theorem q529 : (Cond.selects RX12 yX12_ofClient yX12_ofClient) ∈ xTs := xTs_5 (i := 227) rfl rfl
set_option maxRecDepth 20000 in
theorem q530 : (Cond.code yX12_ofClient cX12_ofClient 3 (Option.some Jvm.ClassFile.FieldType.int)) ∈ xTs := xTs_5 (i := 228) rfl rfl
set_option maxRecDepth 20000 in
theorem q531 : (Cond.methodLink RX12 201 yX12_isNoClient) ∈ xTs := xTs_5 (i := 229) rfl rfl
set_option maxRecDepth 20000 in
theorem q532 : (Cond.instanceMethod yX12_isNoClient) ∈ xTs := xTs_5 (i := 231) rfl rfl
set_option maxRecDepth 20000 in
theorem q533 : (Cond.code yX12_isNoClient cX12_isNoClient 2 (Option.some Jvm.ClassFile.FieldType.boolean)) ∈ xTs := xTs_5 (i := 232) rfl rfl
set_option maxRecDepth 20000 in
theorem q534 : (Cond.methodLink RL 128 yX12_routed) ∈ xTs := xTs_6 (i := 3) rfl rfl
set_option maxRecDepth 20000 in
theorem q535 : (Cond.instanceMethod yX12_routed) ∈ xTs := xTs_6 (i := 4) rfl rfl
set_option maxRecDepth 20000 in
theorem q536 : (Cond.selects RX12 yX12_routed yX12_routed) ∈ xTs := xTs_6 (i := 5) rfl rfl
set_option maxRecDepth 20000 in
theorem q537 : (Cond.code yX12_routed cX12_routed 4 (Option.some Jvm.ClassFile.FieldType.int)) ∈ xTs := xTs_6 (i := 6) rfl rfl
set_option maxRecDepth 20000 in
theorem q538 : (Cond.methodLink RL 131 yX12_call) ∈ xTs := xTs_6 (i := 7) rfl rfl
set_option maxRecDepth 20000 in
theorem q539 : (Cond.instanceMethod yX12_call) ∈ xTs := xTs_6 (i := 8) rfl rfl
set_option maxRecDepth 20000 in
theorem q540 : (Cond.selects RX12 yX12_call yX12_call) ∈ xTs := xTs_6 (i := 9) rfl rfl
set_option maxRecDepth 20000 in
theorem q541 : (Cond.code yX12_call cX12_call 5 (Option.some Jvm.ClassFile.FieldType.int)) ∈ xTs := xTs_6 (i := 10) rfl rfl
set_option maxRecDepth 20000 in
theorem q542 : (Cond.instantiable RX8 4) ∈ xTs := xTs_6 (i := 19) rfl rfl
set_option maxRecDepth 20000 in
theorem q543 : (Cond.fieldLink RX10 98 "ServiceApiaryModel$Call" "client" "I") ∈ xTs := xTs_6 (i := 47) rfl rfl
set_option maxRecDepth 20000 in
theorem q544 : (Cond.fieldLink RX12 110 "ServiceApiaryModel$Call" "client" "I") ∈ xTs := xTs_6 (i := 48) rfl rfl
set_option maxRecDepth 20000 in
theorem q545 : (Cond.fieldLink RX10 101 "ServiceApiaryModel$Call" "version" "I") ∈ xTs := xTs_6 (i := 50) rfl rfl
set_option maxRecDepth 20000 in
theorem q546 : (Cond.fieldLink RX12 113 "ServiceApiaryModel$Call" "version" "I") ∈ xTs := xTs_6 (i := 51) rfl rfl
set_option maxRecDepth 20000 in
theorem q547 : (Cond.fieldLink RX10 104 "ServiceApiaryModel$Call" "at" "I") ∈ xTs := xTs_6 (i := 53) rfl rfl
set_option maxRecDepth 20000 in
theorem q548 : (Cond.fieldLink RX12 243 "ServiceApiaryModel$Call" "came" "I") ∈ xTs := xTs_6 (i := 55) rfl rfl
set_option maxRecDepth 20000 in
theorem q549 : (Cond.methodLink RX10 42 yJx4a65c_add_9ea2d) ∈ xTs := xTs_6 (i := 65) rfl rfl
set_option maxRecDepth 20000 in
theorem q550 : (Cond.methodLink RL 135 yX12_pass) ∈ xTs := xTs_6 (i := 66) rfl rfl
set_option maxRecDepth 20000 in
theorem q551 : (Cond.instanceMethod yX12_pass) ∈ xTs := xTs_6 (i := 67) rfl rfl
set_option maxRecDepth 20000 in
theorem q552 : (Cond.selects RX12 yX12_pass yX12_pass) ∈ xTs := xTs_6 (i := 68) rfl rfl
set_option maxRecDepth 20000 in
theorem q553 : (Cond.code yX12_pass cX12_pass 4 (Option.some Jvm.ClassFile.FieldType.int)) ∈ xTs := xTs_6 (i := 69) rfl rfl
set_option maxRecDepth 20000 in
theorem q554 : (Cond.methodLink RX12 210 yX10_begin) ∈ xTs := xTs_6 (i := 70) rfl rfl
set_option maxRecDepth 20000 in
theorem q555 : (Cond.instanceMethod yX10_begin) ∈ xTs := xTs_6 (i := 71) rfl rfl
set_option maxRecDepth 20000 in
theorem q556 : (Cond.selects RX10 yX10_begin yX10_begin) ∈ xTs := xTs_6 (i := 72) rfl rfl
set_option maxRecDepth 20000 in
theorem q557 : (Cond.code yX10_begin cX10_begin 4 (Option.some Jvm.ClassFile.FieldType.int)) ∈ xTs := xTs_6 (i := 73) rfl rfl
set_option maxRecDepth 20000 in
theorem q558 : (Cond.methodLink RL 138 yX12_lastCall) ∈ xTs := xTs_6 (i := 79) rfl rfl
set_option maxRecDepth 20000 in
theorem q559 : (Cond.instanceMethod yX12_lastCall) ∈ xTs := xTs_6 (i := 80) rfl rfl
set_option maxRecDepth 20000 in
theorem q560 : (Cond.selects RX12 yX12_lastCall yX12_lastCall) ∈ xTs := xTs_6 (i := 81) rfl rfl
set_option maxRecDepth 20000 in
theorem q561 : (Cond.code yX12_lastCall cX12_lastCall 3 (Option.some Jvm.ClassFile.FieldType.int)) ∈ xTs := xTs_6 (i := 82) rfl rfl
set_option maxRecDepth 20000 in
theorem q562 : (Cond.methodLink RL 141 yX12_retire) ∈ xTs := xTs_6 (i := 84) rfl rfl
set_option maxRecDepth 20000 in
theorem q563 : (Cond.instanceMethod yX12_retire) ∈ xTs := xTs_6 (i := 85) rfl rfl
set_option maxRecDepth 20000 in
theorem q564 : (Cond.selects RX12 yX12_retire yX12_retire) ∈ xTs := xTs_6 (i := 86) rfl rfl
set_option maxRecDepth 20000 in
theorem q565 : (Cond.code yX12_retire cX12_retire 9 (Option.some Jvm.ClassFile.FieldType.int)) ∈ xTs := xTs_6 (i := 87) rfl rfl
set_option maxRecDepth 20000 in
theorem q566 : (Cond.methodLink RL 144 yX12_answer) ∈ xTs := xTs_6 (i := 92) rfl rfl
set_option maxRecDepth 20000 in
theorem q567 : (Cond.instanceMethod yX12_answer) ∈ xTs := xTs_6 (i := 93) rfl rfl
set_option maxRecDepth 20000 in
theorem q568 : (Cond.selects RX12 yX12_answer yX12_answer) ∈ xTs := xTs_6 (i := 94) rfl rfl
set_option maxRecDepth 20000 in
theorem q569 : (Cond.code yX12_answer cX12_answer 5 (Option.some Jvm.ClassFile.FieldType.boolean)) ∈ xTs := xTs_6 (i := 95) rfl rfl
set_option maxRecDepth 20000 in
theorem q570 : (Cond.methodLink RX12 224 yX12_isNoAsk) ∈ xTs := xTs_6 (i := 96) rfl rfl
set_option maxRecDepth 20000 in
theorem q571 : (Cond.instanceMethod yX12_isNoAsk) ∈ xTs := xTs_6 (i := 98) rfl rfl
set_option maxRecDepth 20000 in
theorem q572 : (Cond.code yX12_isNoAsk cX12_isNoAsk 4 (Option.some Jvm.ClassFile.FieldType.boolean)) ∈ xTs := xTs_6 (i := 99) rfl rfl
set_option maxRecDepth 20000 in
theorem q573 : (Cond.methodLink RL 147 yX12_recall) ∈ xTs := xTs_6 (i := 101) rfl rfl
set_option maxRecDepth 20000 in
theorem q574 : (Cond.instanceMethod yX12_recall) ∈ xTs := xTs_6 (i := 102) rfl rfl
set_option maxRecDepth 20000 in
theorem q575 : (Cond.selects RX12 yX12_recall yX12_recall) ∈ xTs := xTs_6 (i := 103) rfl rfl
set_option maxRecDepth 20000 in
theorem q576 : (Cond.code yX12_recall cX12_recall 4 (Option.some Jvm.ClassFile.FieldType.int)) ∈ xTs := xTs_6 (i := 104) rfl rfl
set_option maxRecDepth 20000 in
theorem q577 : (Cond.methodLink RL 150 yX12_asked) ∈ xTs := xTs_6 (i := 109) rfl rfl
set_option maxRecDepth 20000 in
theorem q578 : (Cond.instanceMethod yX12_asked) ∈ xTs := xTs_6 (i := 110) rfl rfl
set_option maxRecDepth 20000 in
theorem q579 : (Cond.selects RX12 yX12_asked yX12_asked) ∈ xTs := xTs_6 (i := 111) rfl rfl
set_option maxRecDepth 20000 in
theorem q580 : (Cond.code yX12_asked cX12_asked 4 (Option.some Jvm.ClassFile.FieldType.int)) ∈ xTs := xTs_6 (i := 112) rfl rfl
set_option maxRecDepth 20000 in
theorem q581 : (Cond.methodLink RL 153 yX12_many) ∈ xTs := xTs_6 (i := 117) rfl rfl
set_option maxRecDepth 20000 in
theorem q582 : (Cond.instanceMethod yX12_many) ∈ xTs := xTs_6 (i := 118) rfl rfl
set_option maxRecDepth 20000 in
theorem q583 : (Cond.selects RX12 yX12_many yX12_many) ∈ xTs := xTs_6 (i := 119) rfl rfl
set_option maxRecDepth 20000 in
theorem q584 : (Cond.code yX12_many cX12_many 2 (Option.some Jvm.ClassFile.FieldType.int)) ∈ xTs := xTs_6 (i := 120) rfl rfl
set_option maxRecDepth 20000 in
theorem q585 : (Cond.methodLink RX12 252 yX12_count) ∈ xTs := xTs_6 (i := 121) rfl rfl
set_option maxRecDepth 20000 in
theorem q586 : (Cond.instanceMethod yX12_count) ∈ xTs := xTs_6 (i := 123) rfl rfl
set_option maxRecDepth 20000 in
theorem q587 : (Cond.code yX12_count cX12_count 2 (Option.some Jvm.ClassFile.FieldType.int)) ∈ xTs := xTs_6 (i := 124) rfl rfl
set_option maxRecDepth 20000 in
theorem q588 : (Cond.methodLink RX12 246 yX12_versionsIn) ∈ xTs := xTs_6 (i := 125) rfl rfl
set_option maxRecDepth 20000 in
theorem q589 : (Cond.instanceMethod yX12_versionsIn) ∈ xTs := xTs_6 (i := 127) rfl rfl
set_option maxRecDepth 20000 in
theorem q590 : (Cond.code yX12_versionsIn cX12_versionsIn 7 (Option.some Jvm.ClassFile.FieldType.int)) ∈ xTs := xTs_6 (i := 128) rfl rfl
set_option maxRecDepth 20000 in
theorem q591 : (Cond.methodLink RX12 249 yX12_callsThat) ∈ xTs := xTs_6 (i := 129) rfl rfl
set_option maxRecDepth 20000 in
theorem q592 : (Cond.instanceMethod yX12_callsThat) ∈ xTs := xTs_6 (i := 131) rfl rfl
set_option maxRecDepth 20000 in
theorem q593 : (Cond.code yX12_callsThat cX12_callsThat 6 (Option.some Jvm.ClassFile.FieldType.int)) ∈ xTs := xTs_6 (i := 132) rfl rfl
set_option maxRecDepth 20000 in
theorem q594 : (Cond.methodLink RL 158 yX12_servedShare) ∈ xTs := xTs_6 (i := 133) rfl rfl
set_option maxRecDepth 20000 in
theorem q595 : (Cond.instanceMethod yX12_servedShare) ∈ xTs := xTs_6 (i := 134) rfl rfl
set_option maxRecDepth 20000 in
theorem q596 : (Cond.selects RX12 yX12_servedShare yX12_servedShare) ∈ xTs := xTs_6 (i := 135) rfl rfl
set_option maxRecDepth 20000 in
theorem q597 : (Cond.code yX12_servedShare cX12_servedShare 1 (Option.some Jvm.ClassFile.FieldType.double)) ∈ xTs := xTs_6 (i := 136) rfl rfl
set_option maxRecDepth 20000 in
theorem q598 : (Cond.methodLink RX12 255 yJx4a65c_isEmpty_aae02) ∈ xTs := xTs_6 (i := 137) rfl rfl
set_option maxRecDepth 20000 in
theorem q599 : (Cond.instanceMethod yJx4a65c_isEmpty_aae02) ∈ xTs := xTs_6 (i := 138) rfl rfl
set_option maxRecDepth 20000 in
theorem q600 : (Cond.selects RJx4a65c yJx4a65c_isEmpty_aae02 yJx4a65c_isEmpty_aae02) ∈ xTs := xTs_6 (i := 139) rfl rfl
set_option maxRecDepth 20000 in
theorem q601 : (Cond.code yJx4a65c_isEmpty_aae02 cJx4a65c_isEmpty_aae02 1 (Option.some Jvm.ClassFile.FieldType.boolean)) ∈ xTs := xTs_6 (i := 140) rfl rfl
set_option maxRecDepth 20000 in
theorem q602 : (Cond.methodLink RL 161 yX12_wouldCome) ∈ xTs := xTs_6 (i := 141) rfl rfl
set_option maxRecDepth 20000 in
theorem q603 : (Cond.instanceMethod yX12_wouldCome) ∈ xTs := xTs_6 (i := 142) rfl rfl
set_option maxRecDepth 20000 in
theorem q604 : (Cond.selects RX12 yX12_wouldCome yX12_wouldCome) ∈ xTs := xTs_6 (i := 143) rfl rfl
set_option maxRecDepth 20000 in
theorem q605 : (Cond.code yX12_wouldCome cX12_wouldCome 3 (Option.some Jvm.ClassFile.FieldType.int)) ∈ xTs := xTs_6 (i := 144) rfl rfl
set_option maxRecDepth 20000 in
theorem q606 : (Cond.classLink RX10 13 RX10) ∈ xTs := xTs_6 (i := 153) rfl rfl
set_option maxRecDepth 20000 in
theorem q607 : (Cond.methodLink RX10 27 yX10_init) ∈ xTs := xTs_6 (i := 154) rfl rfl
set_option maxRecDepth 20000 in
theorem q608 : (Cond.methodLink RL 164 yX12_goneIn) ∈ xTs := xTs_6 (i := 178) rfl rfl
set_option maxRecDepth 20000 in
theorem q609 : (Cond.instanceMethod yX12_goneIn) ∈ xTs := xTs_6 (i := 179) rfl rfl
set_option maxRecDepth 20000 in
theorem q610 : (Cond.selects RX12 yX12_goneIn yX12_goneIn) ∈ xTs := xTs_6 (i := 180) rfl rfl
set_option maxRecDepth 20000 in
theorem q611 : (Cond.code yX12_goneIn cX12_goneIn 3 (Option.some Jvm.ClassFile.FieldType.int)) ∈ xTs := xTs_6 (i := 181) rfl rfl
set_option maxRecDepth 20000 in
theorem q612 : (Cond.methodLink RL 167 yX12_wouldBreak) ∈ xTs := xTs_6 (i := 194) rfl rfl
set_option maxRecDepth 20000 in
theorem q613 : (Cond.instanceMethod yX12_wouldBreak) ∈ xTs := xTs_6 (i := 195) rfl rfl
set_option maxRecDepth 20000 in
theorem q614 : (Cond.selects RX12 yX12_wouldBreak yX12_wouldBreak) ∈ xTs := xTs_6 (i := 196) rfl rfl
set_option maxRecDepth 20000 in
theorem q615 : (Cond.code yX12_wouldBreak cX12_wouldBreak 8 (Option.some Jvm.ClassFile.FieldType.int)) ∈ xTs := xTs_6 (i := 197) rfl rfl
set_option maxRecDepth 20000 in
theorem q616 : (Cond.methodLink RL 170 yX12_target) ∈ xTs := xTs_6 (i := 198) rfl rfl
set_option maxRecDepth 20000 in
theorem q617 : (Cond.instanceMethod yX12_target) ∈ xTs := xTs_6 (i := 199) rfl rfl
set_option maxRecDepth 20000 in
theorem q618 : (Cond.selects RX12 yX12_target yX12_target) ∈ xTs := xTs_6 (i := 200) rfl rfl
set_option maxRecDepth 20000 in
theorem q619 : (Cond.code yX12_target cX12_target 2 (Option.some Jvm.ClassFile.FieldType.int)) ∈ xTs := xTs_6 (i := 201) rfl rfl
set_option maxRecDepth 20000 in
theorem q620 : (Cond.methodLink RL 173 yX12_goneBy) ∈ xTs := xTs_6 (i := 207) rfl rfl
set_option maxRecDepth 20000 in
theorem q621 : (Cond.instanceMethod yX12_goneBy) ∈ xTs := xTs_6 (i := 208) rfl rfl
set_option maxRecDepth 20000 in
theorem q622 : (Cond.selects RX12 yX12_goneBy yX12_goneBy) ∈ xTs := xTs_6 (i := 209) rfl rfl
set_option maxRecDepth 20000 in
theorem q623 : (Cond.code yX12_goneBy cX12_goneBy 5 (Option.some Jvm.ClassFile.FieldType.int)) ∈ xTs := xTs_6 (i := 210) rfl rfl
set_option maxRecDepth 20000 in
theorem q624 : (Cond.methodLink RL 178 yX12_digest) ∈ xTs := xTs_6 (i := 211) rfl rfl
set_option maxRecDepth 20000 in
theorem q625 : (Cond.instanceMethod yX12_digest) ∈ xTs := xTs_6 (i := 212) rfl rfl
set_option maxRecDepth 20000 in
theorem q626 : (Cond.selects RX12 yX12_digest yX12_digest) ∈ xTs := xTs_6 (i := 213) rfl rfl
set_option maxRecDepth 20000 in
theorem q627 : (Cond.code yX12_digest cX12_digest 7 (Option.some Jvm.ClassFile.FieldType.long)) ∈ xTs := xTs_6 (i := 214) rfl rfl
set_option maxRecDepth 20000 in
theorem q628 : (Cond.constantLong RX12 284 58106) ∈ xTs := xTs_6 (i := 215) rfl rfl
set_option maxRecDepth 20000 in
theorem q629 : (Cond.methodLink RX12 286 yX12_add) ∈ xTs := xTs_6 (i := 216) rfl rfl
set_option maxRecDepth 20000 in
theorem q630 : (Cond.static yX12_add) ∈ xTs := xTs_6 (i := 217) rfl rfl
set_option maxRecDepth 20000 in
theorem q631 : (Cond.code yX12_add cX12_add 4 (Option.some Jvm.ClassFile.FieldType.long)) ∈ xTs := xTs_6 (i := 218) rfl rfl
set_option maxRecDepth 20000 in
theorem q632 : (Cond.constantLong RX12 282 31) ∈ xTs := xTs_6 (i := 219) rfl rfl
set_option maxRecDepth 20000 in
theorem q633 : (Cond.arrayClass FieldType.long) ∈ xTs := xTs_6 (i := 220) rfl rfl
set_option maxRecDepth 20000 in
theorem q634 : (Cond.selects RX6 yX6_countOf yX6_countOf) ∈ xTs := xTs_0 (i := 0) rfl rfl
set_option maxRecDepth 20000 in
theorem q635 : (Cond.selects RX6 yX6_countVersions yX6_countVersions) ∈ xTs := xTs_0 (i := 1) rfl rfl
set_option maxRecDepth 20000 in
theorem q636 : (Cond.selects RX6 yX6_versionAt yX6_versionAt) ∈ xTs := xTs_0 (i := 2) rfl rfl
set_option maxRecDepth 20000 in
theorem q637 : (Cond.selects RX6 yX6_faceAt yX6_faceAt) ∈ xTs := xTs_0 (i := 3) rfl rfl
set_option maxRecDepth 20000 in
theorem q638 : (Cond.selects RX6 yX6_clientAt yX6_clientAt) ∈ xTs := xTs_0 (i := 22) rfl rfl
set_option maxRecDepth 20000 in
theorem q639 : (Cond.selects RX6 yX6_beginHour yX6_beginHour) ∈ xTs := xTs_0 (i := 24) rfl rfl
set_option maxRecDepth 20000 in
theorem q640 : (Cond.selects RX12 yX12_start yX12_start) ∈ xTs := xTs_0 (i := 27) rfl rfl
set_option maxRecDepth 20000 in
theorem q641 : (Cond.selects RX12 yX12_refuse yX12_refuse) ∈ xTs := xTs_0 (i := 28) rfl rfl
set_option maxRecDepth 20000 in
theorem q642 : (Cond.selects RJx4a65c yJx4a65c_add_72be8 yJx4a65c_add_72be8) ∈ xTs := xTs_0 (i := 29) rfl rfl
set_option maxRecDepth 20000 in
theorem q643 : (Cond.selects RJx4a65c yJx4a65c_grow_d5877 yJx4a65c_grow_d5877) ∈ xTs := xTs_0 (i := 30) rfl rfl
set_option maxRecDepth 20000 in
theorem q644 : (Cond.selects RJx4a65c yJx4a65c_grow_92f84 yJx4a65c_grow_92f84) ∈ xTs := xTs_0 (i := 31) rfl rfl
set_option maxRecDepth 20000 in
theorem q645 : (Cond.selects RX12 yX12_isNoFace yX12_isNoFace) ∈ xTs := xTs_0 (i := 32) rfl rfl
set_option maxRecDepth 20000 in
theorem q646 : (Cond.selects RX12 yX12_isNoVersion yX12_isNoVersion) ∈ xTs := xTs_0 (i := 33) rfl rfl
set_option maxRecDepth 20000 in
theorem q647 : (Cond.selects RX12 yX12_isNo yX12_isNo) ∈ xTs := xTs_0 (i := 34) rfl rfl
set_option maxRecDepth 20000 in
theorem q648 : (Cond.selects RX12 yX12_isNoPair yX12_isNoPair) ∈ xTs := xTs_0 (i := 41) rfl rfl
set_option maxRecDepth 20000 in
theorem q649 : (Cond.selects RX12 yX12_isNoOne yX12_isNoOne) ∈ xTs := xTs_0 (i := 42) rfl rfl
set_option maxRecDepth 20000 in
theorem q650 : (Cond.selects RX12 yX12_isNoClient yX12_isNoClient) ∈ xTs := xTs_0 (i := 44) rfl rfl
set_option maxRecDepth 20000 in
theorem q651 : (Cond.selects RX12 yX12_isNoAsk yX12_isNoAsk) ∈ xTs := xTs_0 (i := 49) rfl rfl
set_option maxRecDepth 20000 in
theorem q652 : (Cond.selects RX12 yX12_count yX12_count) ∈ xTs := xTs_0 (i := 51) rfl rfl
set_option maxRecDepth 20000 in
theorem q653 : (Cond.selects RX12 yX12_versionsIn yX12_versionsIn) ∈ xTs := xTs_0 (i := 52) rfl rfl
set_option maxRecDepth 20000 in
theorem q654 : (Cond.selects RX12 yX12_callsThat yX12_callsThat) ∈ xTs := xTs_0 (i := 53) rfl rfl
theorem x_AOm {ty : FieldType} {u U : State} (hvm : u.vm.Alike U.vm) (h : va_Nw (Cond.arrayOver ty) u) : va_Nw (Cond.arrayOver ty) U := by
  unfold va_Nw at h ⊢
  rw [← Cond.arrayOver_setVmC hvm] at h
  exact h
theorem x_AOof {ty : FieldType} {A : Array Value} {U : State} (h : (Cond.arrayOver ty).before A U = true) : va_Nw (Cond.arrayOver ty) U := h
/-- a text of the class -/
def x_St (own : String) (k : Nat) (tx : String) (U : State) : Prop := (∃ cur, U.vm.findClass own = some cur) ∧ ∃ a, vk_R own k tx a U
theorem x_St.warm {own tx : String} {k : Nat} {s U : State} (hW : s.WarmedH U.vm) (h : x_St own k tx s) : x_St own k tx U := by
  obtain ⟨⟨cur, hc⟩, a, h⟩ := h
  exact ⟨⟨cur, by rw [hW.alike.findClass]; exact hc⟩, a, vk_R.warm hW h⟩
theorem x_St.same {own tx : String} {k : Nat} {u U : State} (hv : u.vm = U.vm) (h : x_St own k tx u) : x_St own k tx U := by
  obtain ⟨⟨cur, hc⟩, a, h⟩ := h
  exact ⟨⟨cur, by rw [← hv]; exact hc⟩, a, vk_R.same hv.symm h⟩
theorem x_St.of {own tx : String} {k cur : Nat} {A : Array Value} {U : State} (hc : U.vm.findClass own = some cur) (h : (Cond.stringRef own k tx).before A U = true) : x_St own k tx U := by
  obtain ⟨-, -, -, a, -, -, -, -, -, he⟩ := Cond.stringRef_spec hc h
  exact ⟨⟨cur, hc⟩, a, vk_R.of h he⟩
/-- words of the tables that are kept in another way -/
def x_xt (U : State) : Prop := va_Nw (Cond.arrayOver (FieldType.object "ServiceApiary$Face")) U ∧ va_Nw (Cond.arrayOver (FieldType.object "ServiceApiary$Client")) U ∧ va_Nw (Cond.arrayOver (FieldType.object "ServiceApiary$Adapter")) U ∧ va_Nw (Cond.methodLinkNest RX6 29 yX4_init RX6) U ∧ va_Nw (Cond.declares (Bundle.initS "java/lang/RuntimeException")) U ∧ va_Nw (Cond.declares (Bundle.initS "java/lang/Exception")) U ∧ va_Nw (Cond.declares (Bundle.initS "java/lang/Throwable")) U ∧ va_Nw (Cond.arrayOver (FieldType.object "ServiceApiary$Version")) U ∧ va_Nw (Cond.castable "java/lang/IndexOutOfBoundsException" "java/lang/IndexOutOfBoundsException") U ∧ va_Nw (Cond.castable "java/lang/IllegalArgumentException" "java/lang/IllegalArgumentException") U ∧ va_Nw (Cond.methodLinkNest RX12 9 yX10_init RX12) U ∧ va_Nw (Cond.fieldLinkNest RJx35411 28 "java/util/ArrayList" "size" "I" RJx4a65c) U ∧ va_Nw (Cond.arrayOver (FieldType.object "java/lang/Object")) U ∧ va_Nw (Cond.castable "java/util/ArrayList" "java/lang/Object") U ∧ x_St RX6 47 "there are 4 interfaces" U ∧ x_St RX6 61 "no such interface" U ∧ x_St RX6 70 "no such sets of fields" U ∧ x_St RX6 80 "there are 6 versions" U ∧ x_St RX6 95 "no such interface or version" U ∧ x_St RX6 97 "what is not 0 to 10" U ∧ x_St RX6 124 "no such owner, or fields that do not fit" U ∧ x_St RX6 132 "there are 10 clients, or the version is not open" U ∧ x_St RX6 148 "no such client or version" U ∧ x_St RX6 150 "the version is not open" U ∧ x_St RX6 163 "the same version twice, or no set of fields" U ∧ x_St RX6 168 "there are 10 adapters" U ∧ x_St RX6 173 "no such client" U ∧ x_St RX6 175 "what is not 0 to 8" U ∧ x_St RX6 192 "no such client, route or place" U ∧ x_St RX6 194 "times is not 1 to 20" U ∧ x_St RX6 199 "hours is not 1 to 100" U ∧ x_St RX6 209 "days is not 1 to 9" U ∧ x_St RX6 218 "no such owner, interface or version" U ∧ x_St RX6 223 "the version is not retiring, or the owner was not asked" U ∧ x_St RX6 234 "the version is not retiring" U ∧ x_St RX6 255 "hours is not 0 to 100" U ∧ va_Fw RJx35411 yIt yJx35411_hasNext_aae02 U ∧ True
theorem x1 {U : State} (h : x_xt U) : va_Nw (Cond.arrayOver (FieldType.object "ServiceApiary$Face")) U := h.1
theorem x2 {U : State} (h : x_xt U) : va_Nw (Cond.arrayOver (FieldType.object "ServiceApiary$Client")) U := h.2.1
theorem x3 {U : State} (h : x_xt U) : va_Nw (Cond.arrayOver (FieldType.object "ServiceApiary$Adapter")) U := h.2.2.1
theorem x4 {U : State} (h : x_xt U) : va_Nw (Cond.methodLinkNest RX6 29 yX4_init RX6) U := h.2.2.2.1
theorem x5 {U : State} (h : x_xt U) : va_Nw (Cond.declares (Bundle.initS "java/lang/RuntimeException")) U := h.2.2.2.2.1
theorem x6 {U : State} (h : x_xt U) : va_Nw (Cond.declares (Bundle.initS "java/lang/Exception")) U := h.2.2.2.2.2.1
theorem x7 {U : State} (h : x_xt U) : va_Nw (Cond.declares (Bundle.initS "java/lang/Throwable")) U := h.2.2.2.2.2.2.1
theorem x8 {U : State} (h : x_xt U) : va_Nw (Cond.arrayOver (FieldType.object "ServiceApiary$Version")) U := h.2.2.2.2.2.2.2.1
theorem x9 {U : State} (h : x_xt U) : va_Nw (Cond.castable "java/lang/IndexOutOfBoundsException" "java/lang/IndexOutOfBoundsException") U := h.2.2.2.2.2.2.2.2.1
theorem x10 {U : State} (h : x_xt U) : va_Nw (Cond.castable "java/lang/IllegalArgumentException" "java/lang/IllegalArgumentException") U := h.2.2.2.2.2.2.2.2.2.1
theorem x11 {U : State} (h : x_xt U) : va_Nw (Cond.methodLinkNest RX12 9 yX10_init RX12) U := h.2.2.2.2.2.2.2.2.2.2.1
theorem x12 {U : State} (h : x_xt U) : va_Nw (Cond.fieldLinkNest RJx35411 28 "java/util/ArrayList" "size" "I" RJx4a65c) U := h.2.2.2.2.2.2.2.2.2.2.2.1
theorem x13 {U : State} (h : x_xt U) : va_Nw (Cond.arrayOver (FieldType.object "java/lang/Object")) U := h.2.2.2.2.2.2.2.2.2.2.2.2.1
theorem x14 {U : State} (h : x_xt U) : va_Nw (Cond.castable "java/util/ArrayList" "java/lang/Object") U := h.2.2.2.2.2.2.2.2.2.2.2.2.2.1
theorem xs47 {U : State} (h : x_xt U) : x_St RX6 47 "there are 4 interfaces" U := h.2.2.2.2.2.2.2.2.2.2.2.2.2.2.1
theorem xs61 {U : State} (h : x_xt U) : x_St RX6 61 "no such interface" U := h.2.2.2.2.2.2.2.2.2.2.2.2.2.2.2.1
theorem xs70 {U : State} (h : x_xt U) : x_St RX6 70 "no such sets of fields" U := h.2.2.2.2.2.2.2.2.2.2.2.2.2.2.2.2.1
theorem xs80 {U : State} (h : x_xt U) : x_St RX6 80 "there are 6 versions" U := h.2.2.2.2.2.2.2.2.2.2.2.2.2.2.2.2.2.1
theorem xs95 {U : State} (h : x_xt U) : x_St RX6 95 "no such interface or version" U := h.2.2.2.2.2.2.2.2.2.2.2.2.2.2.2.2.2.2.1
theorem xs97 {U : State} (h : x_xt U) : x_St RX6 97 "what is not 0 to 10" U := h.2.2.2.2.2.2.2.2.2.2.2.2.2.2.2.2.2.2.2.1
theorem xs124 {U : State} (h : x_xt U) : x_St RX6 124 "no such owner, or fields that do not fit" U := h.2.2.2.2.2.2.2.2.2.2.2.2.2.2.2.2.2.2.2.2.1
theorem xs132 {U : State} (h : x_xt U) : x_St RX6 132 "there are 10 clients, or the version is not open" U := h.2.2.2.2.2.2.2.2.2.2.2.2.2.2.2.2.2.2.2.2.2.1
theorem xs148 {U : State} (h : x_xt U) : x_St RX6 148 "no such client or version" U := h.2.2.2.2.2.2.2.2.2.2.2.2.2.2.2.2.2.2.2.2.2.2.1
theorem xs150 {U : State} (h : x_xt U) : x_St RX6 150 "the version is not open" U := h.2.2.2.2.2.2.2.2.2.2.2.2.2.2.2.2.2.2.2.2.2.2.2.1
theorem xs163 {U : State} (h : x_xt U) : x_St RX6 163 "the same version twice, or no set of fields" U := h.2.2.2.2.2.2.2.2.2.2.2.2.2.2.2.2.2.2.2.2.2.2.2.2.1
theorem xs168 {U : State} (h : x_xt U) : x_St RX6 168 "there are 10 adapters" U := h.2.2.2.2.2.2.2.2.2.2.2.2.2.2.2.2.2.2.2.2.2.2.2.2.2.1
theorem xs173 {U : State} (h : x_xt U) : x_St RX6 173 "no such client" U := h.2.2.2.2.2.2.2.2.2.2.2.2.2.2.2.2.2.2.2.2.2.2.2.2.2.2.1
theorem xs175 {U : State} (h : x_xt U) : x_St RX6 175 "what is not 0 to 8" U := h.2.2.2.2.2.2.2.2.2.2.2.2.2.2.2.2.2.2.2.2.2.2.2.2.2.2.2.1
theorem xs192 {U : State} (h : x_xt U) : x_St RX6 192 "no such client, route or place" U := h.2.2.2.2.2.2.2.2.2.2.2.2.2.2.2.2.2.2.2.2.2.2.2.2.2.2.2.2.1
theorem xs194 {U : State} (h : x_xt U) : x_St RX6 194 "times is not 1 to 20" U := h.2.2.2.2.2.2.2.2.2.2.2.2.2.2.2.2.2.2.2.2.2.2.2.2.2.2.2.2.2.1
theorem xs199 {U : State} (h : x_xt U) : x_St RX6 199 "hours is not 1 to 100" U := h.2.2.2.2.2.2.2.2.2.2.2.2.2.2.2.2.2.2.2.2.2.2.2.2.2.2.2.2.2.2.1
theorem xs209 {U : State} (h : x_xt U) : x_St RX6 209 "days is not 1 to 9" U := h.2.2.2.2.2.2.2.2.2.2.2.2.2.2.2.2.2.2.2.2.2.2.2.2.2.2.2.2.2.2.2.1
theorem xs218 {U : State} (h : x_xt U) : x_St RX6 218 "no such owner, interface or version" U := h.2.2.2.2.2.2.2.2.2.2.2.2.2.2.2.2.2.2.2.2.2.2.2.2.2.2.2.2.2.2.2.2.1
theorem xs223 {U : State} (h : x_xt U) : x_St RX6 223 "the version is not retiring, or the owner was not asked" U := h.2.2.2.2.2.2.2.2.2.2.2.2.2.2.2.2.2.2.2.2.2.2.2.2.2.2.2.2.2.2.2.2.2.1
theorem xs234 {U : State} (h : x_xt U) : x_St RX6 234 "the version is not retiring" U := h.2.2.2.2.2.2.2.2.2.2.2.2.2.2.2.2.2.2.2.2.2.2.2.2.2.2.2.2.2.2.2.2.2.2.1
theorem xs255 {U : State} (h : x_xt U) : x_St RX6 255 "hours is not 0 to 100" U := h.2.2.2.2.2.2.2.2.2.2.2.2.2.2.2.2.2.2.2.2.2.2.2.2.2.2.2.2.2.2.2.2.2.2.2.1
theorem xfw {U : State} (h : x_xt U) : va_Fw RJx35411 yIt yJx35411_hasNext_aae02 U := h.2.2.2.2.2.2.2.2.2.2.2.2.2.2.2.2.2.2.2.2.2.2.2.2.2.2.2.2.2.2.2.2.2.2.2.2.1
theorem yIt_ok : yIt.cls ≠ "java/lang/invoke/MethodHandle" ∧ yIt.cls ≠ "java/lang/invoke/VarHandle" := by decide +kernel
theorem x_xt.warm {s U : State} (hW : s.WarmedH U.vm) (h : x_xt s) : x_xt U := ⟨x_AOm hW.alike h.1, x_AOm hW.alike h.2.1, x_AOm hW.alike h.2.2.1, va_Nw.warmM hW h.2.2.2.1, va_Nw.warmD hW h.2.2.2.2.1, va_Nw.warmD hW h.2.2.2.2.2.1, va_Nw.warmD hW h.2.2.2.2.2.2.1, x_AOm hW.alike h.2.2.2.2.2.2.2.1, va_Nw.warmC hW h.2.2.2.2.2.2.2.2.1, va_Nw.warmC hW h.2.2.2.2.2.2.2.2.2.1, va_Nw.warmM hW h.2.2.2.2.2.2.2.2.2.2.1, va_Nw.warmF hW h.2.2.2.2.2.2.2.2.2.2.2.1, x_AOm hW.alike h.2.2.2.2.2.2.2.2.2.2.2.2.1, va_Nw.warmC hW h.2.2.2.2.2.2.2.2.2.2.2.2.2.1, x_St.warm hW h.2.2.2.2.2.2.2.2.2.2.2.2.2.2.1, x_St.warm hW h.2.2.2.2.2.2.2.2.2.2.2.2.2.2.2.1, x_St.warm hW h.2.2.2.2.2.2.2.2.2.2.2.2.2.2.2.2.1, x_St.warm hW h.2.2.2.2.2.2.2.2.2.2.2.2.2.2.2.2.2.1, x_St.warm hW h.2.2.2.2.2.2.2.2.2.2.2.2.2.2.2.2.2.2.1, x_St.warm hW h.2.2.2.2.2.2.2.2.2.2.2.2.2.2.2.2.2.2.2.1, x_St.warm hW h.2.2.2.2.2.2.2.2.2.2.2.2.2.2.2.2.2.2.2.2.1, x_St.warm hW h.2.2.2.2.2.2.2.2.2.2.2.2.2.2.2.2.2.2.2.2.2.1, x_St.warm hW h.2.2.2.2.2.2.2.2.2.2.2.2.2.2.2.2.2.2.2.2.2.2.1, x_St.warm hW h.2.2.2.2.2.2.2.2.2.2.2.2.2.2.2.2.2.2.2.2.2.2.2.1, x_St.warm hW h.2.2.2.2.2.2.2.2.2.2.2.2.2.2.2.2.2.2.2.2.2.2.2.2.1, x_St.warm hW h.2.2.2.2.2.2.2.2.2.2.2.2.2.2.2.2.2.2.2.2.2.2.2.2.2.1, x_St.warm hW h.2.2.2.2.2.2.2.2.2.2.2.2.2.2.2.2.2.2.2.2.2.2.2.2.2.2.1, x_St.warm hW h.2.2.2.2.2.2.2.2.2.2.2.2.2.2.2.2.2.2.2.2.2.2.2.2.2.2.2.1, x_St.warm hW h.2.2.2.2.2.2.2.2.2.2.2.2.2.2.2.2.2.2.2.2.2.2.2.2.2.2.2.2.1, x_St.warm hW h.2.2.2.2.2.2.2.2.2.2.2.2.2.2.2.2.2.2.2.2.2.2.2.2.2.2.2.2.2.1, x_St.warm hW h.2.2.2.2.2.2.2.2.2.2.2.2.2.2.2.2.2.2.2.2.2.2.2.2.2.2.2.2.2.2.1, x_St.warm hW h.2.2.2.2.2.2.2.2.2.2.2.2.2.2.2.2.2.2.2.2.2.2.2.2.2.2.2.2.2.2.2.1, x_St.warm hW h.2.2.2.2.2.2.2.2.2.2.2.2.2.2.2.2.2.2.2.2.2.2.2.2.2.2.2.2.2.2.2.2.1, x_St.warm hW h.2.2.2.2.2.2.2.2.2.2.2.2.2.2.2.2.2.2.2.2.2.2.2.2.2.2.2.2.2.2.2.2.2.1, x_St.warm hW h.2.2.2.2.2.2.2.2.2.2.2.2.2.2.2.2.2.2.2.2.2.2.2.2.2.2.2.2.2.2.2.2.2.2.1, x_St.warm hW h.2.2.2.2.2.2.2.2.2.2.2.2.2.2.2.2.2.2.2.2.2.2.2.2.2.2.2.2.2.2.2.2.2.2.2.1, va_Fw.moved yIt_ok hW.alike h.2.2.2.2.2.2.2.2.2.2.2.2.2.2.2.2.2.2.2.2.2.2.2.2.2.2.2.2.2.2.2.2.2.2.2.2.1, trivial⟩
theorem x_xt.same {u U : State} (hv : u.vm = U.vm) (h : x_xt u) : x_xt U := ⟨x_AOm (by rw [hv]; exact Vm.Alike.refl _) h.1, x_AOm (by rw [hv]; exact Vm.Alike.refl _) h.2.1, x_AOm (by rw [hv]; exact Vm.Alike.refl _) h.2.2.1, va_Nw.same rfl hv h.2.2.2.1, va_Nw.same rfl hv h.2.2.2.2.1, va_Nw.same rfl hv h.2.2.2.2.2.1, va_Nw.same rfl hv h.2.2.2.2.2.2.1, x_AOm (by rw [hv]; exact Vm.Alike.refl _) h.2.2.2.2.2.2.2.1, va_Nw.same rfl hv h.2.2.2.2.2.2.2.2.1, va_Nw.same rfl hv h.2.2.2.2.2.2.2.2.2.1, va_Nw.same rfl hv h.2.2.2.2.2.2.2.2.2.2.1, va_Nw.same rfl hv h.2.2.2.2.2.2.2.2.2.2.2.1, x_AOm (by rw [hv]; exact Vm.Alike.refl _) h.2.2.2.2.2.2.2.2.2.2.2.2.1, va_Nw.same rfl hv h.2.2.2.2.2.2.2.2.2.2.2.2.2.1, x_St.same hv h.2.2.2.2.2.2.2.2.2.2.2.2.2.2.1, x_St.same hv h.2.2.2.2.2.2.2.2.2.2.2.2.2.2.2.1, x_St.same hv h.2.2.2.2.2.2.2.2.2.2.2.2.2.2.2.2.1, x_St.same hv h.2.2.2.2.2.2.2.2.2.2.2.2.2.2.2.2.2.1, x_St.same hv h.2.2.2.2.2.2.2.2.2.2.2.2.2.2.2.2.2.2.1, x_St.same hv h.2.2.2.2.2.2.2.2.2.2.2.2.2.2.2.2.2.2.2.1, x_St.same hv h.2.2.2.2.2.2.2.2.2.2.2.2.2.2.2.2.2.2.2.2.1, x_St.same hv h.2.2.2.2.2.2.2.2.2.2.2.2.2.2.2.2.2.2.2.2.2.1, x_St.same hv h.2.2.2.2.2.2.2.2.2.2.2.2.2.2.2.2.2.2.2.2.2.2.1, x_St.same hv h.2.2.2.2.2.2.2.2.2.2.2.2.2.2.2.2.2.2.2.2.2.2.2.1, x_St.same hv h.2.2.2.2.2.2.2.2.2.2.2.2.2.2.2.2.2.2.2.2.2.2.2.2.1, x_St.same hv h.2.2.2.2.2.2.2.2.2.2.2.2.2.2.2.2.2.2.2.2.2.2.2.2.2.1, x_St.same hv h.2.2.2.2.2.2.2.2.2.2.2.2.2.2.2.2.2.2.2.2.2.2.2.2.2.2.1, x_St.same hv h.2.2.2.2.2.2.2.2.2.2.2.2.2.2.2.2.2.2.2.2.2.2.2.2.2.2.2.1, x_St.same hv h.2.2.2.2.2.2.2.2.2.2.2.2.2.2.2.2.2.2.2.2.2.2.2.2.2.2.2.2.1, x_St.same hv h.2.2.2.2.2.2.2.2.2.2.2.2.2.2.2.2.2.2.2.2.2.2.2.2.2.2.2.2.2.1, x_St.same hv h.2.2.2.2.2.2.2.2.2.2.2.2.2.2.2.2.2.2.2.2.2.2.2.2.2.2.2.2.2.2.1, x_St.same hv h.2.2.2.2.2.2.2.2.2.2.2.2.2.2.2.2.2.2.2.2.2.2.2.2.2.2.2.2.2.2.2.1, x_St.same hv h.2.2.2.2.2.2.2.2.2.2.2.2.2.2.2.2.2.2.2.2.2.2.2.2.2.2.2.2.2.2.2.2.1, x_St.same hv h.2.2.2.2.2.2.2.2.2.2.2.2.2.2.2.2.2.2.2.2.2.2.2.2.2.2.2.2.2.2.2.2.2.1, x_St.same hv h.2.2.2.2.2.2.2.2.2.2.2.2.2.2.2.2.2.2.2.2.2.2.2.2.2.2.2.2.2.2.2.2.2.2.1, x_St.same hv h.2.2.2.2.2.2.2.2.2.2.2.2.2.2.2.2.2.2.2.2.2.2.2.2.2.2.2.2.2.2.2.2.2.2.2.1, va_Fw.moved yIt_ok (by rw [hv]; exact Vm.Alike.refl _) h.2.2.2.2.2.2.2.2.2.2.2.2.2.2.2.2.2.2.2.2.2.2.2.2.2.2.2.2.2.2.2.2.2.2.2.2.1, trivial⟩
set_option maxRecDepth 20000 in
theorem x_xt.of {A : Array Value} {U : State} {cur : ClassId} (hc : U.vm.findClass RX6 = some cur) (h : ∀ w ∈ lw_tbl, w.before A U = true) : x_xt U := ⟨x_AOof (h _ (List.mem_append_right _ (List.mem_append_left _ (List.mem_of_getElem? (i := 40) (l := tables_1_1) rfl)))), x_AOof (h _ (List.mem_append_right _ (List.mem_append_left _ (List.mem_of_getElem? (i := 42) (l := tables_1_1) rfl)))), x_AOof (h _ (List.mem_append_right _ (List.mem_append_left _ (List.mem_of_getElem? (i := 44) (l := tables_1_1) rfl)))), va_Nw.of rfl (h _ (List.mem_append_right _ (List.mem_append_left _ (List.mem_of_getElem? (i := 47) (l := tables_1_1) rfl)))), va_Nw.of rfl (h _ (List.mem_append_right _ (List.mem_append_right _ (List.mem_append_left _ (List.mem_of_getElem? (i := 59) (l := tables_1_2) rfl))))), va_Nw.of rfl (h _ (List.mem_append_right _ (List.mem_append_right _ (List.mem_append_left _ (List.mem_of_getElem? (i := 61) (l := tables_1_2) rfl))))), va_Nw.of rfl (h _ (List.mem_append_right _ (List.mem_append_right _ (List.mem_append_left _ (List.mem_of_getElem? (i := 63) (l := tables_1_2) rfl))))), x_AOof (h _ (List.mem_append_right _ (List.mem_append_right _ (List.mem_append_left _ (List.mem_of_getElem? (i := 129) (l := tables_1_2) rfl))))), va_Nw.of rfl (h _ (List.mem_append_right _ (List.mem_append_right _ (List.mem_append_left _ (List.mem_of_getElem? (i := 153) (l := tables_1_2) rfl))))), va_Nw.of rfl (h _ (List.mem_append_right _ (List.mem_append_right _ (List.mem_append_left _ (List.mem_of_getElem? (i := 175) (l := tables_1_2) rfl))))), va_Nw.of rfl (h _ (List.mem_append_right _ (List.mem_append_right _ (List.mem_append_right _ (List.mem_append_right _ (List.mem_append_left _ (List.mem_of_getElem? (i := 26) (l := tables_1_4) rfl))))))), va_Nw.of rfl (h _ (List.mem_append_right _ (List.mem_append_right _ (List.mem_append_right _ (List.mem_append_right _ (List.mem_append_left _ (List.mem_of_getElem? (i := 46) (l := tables_1_4) rfl))))))), x_AOof (h _ (List.mem_append_right _ (List.mem_append_right _ (List.mem_append_right _ (List.mem_append_right _ (List.mem_append_left _ (List.mem_of_getElem? (i := 162) (l := tables_1_4) rfl))))))), va_Nw.of rfl (h _ (List.mem_append_right _ (List.mem_append_right _ (List.mem_append_right _ (List.mem_append_right _ (List.mem_append_right _ (List.mem_append_right _ (List.mem_append_left _ (List.mem_of_getElem? (i := 231) (l := tables_1_6) rfl))))))))), x_St.of hc (h _ (List.mem_append_right _ (List.mem_append_right _ (List.mem_append_left _ (List.mem_of_getElem? (i := 96) (l := tables_1_2) rfl))))), x_St.of hc (h _ (List.mem_append_right _ (List.mem_append_right _ (List.mem_append_left _ (List.mem_of_getElem? (i := 160) (l := tables_1_2) rfl))))), x_St.of hc (h _ (List.mem_append_right _ (List.mem_append_right _ (List.mem_append_left _ (List.mem_of_getElem? (i := 182) (l := tables_1_2) rfl))))), x_St.of hc (h _ (List.mem_append_right _ (List.mem_append_right _ (List.mem_append_left _ (List.mem_of_getElem? (i := 189) (l := tables_1_2) rfl))))), x_St.of hc (h _ (List.mem_append_right _ (List.mem_append_right _ (List.mem_append_right _ (List.mem_append_left _ (List.mem_of_getElem? (i := 8) (l := tables_1_3) rfl)))))), x_St.of hc (h _ (List.mem_append_right _ (List.mem_append_right _ (List.mem_append_right _ (List.mem_append_left _ (List.mem_of_getElem? (i := 9) (l := tables_1_3) rfl)))))), x_St.of hc (h _ (List.mem_append_right _ (List.mem_append_right _ (List.mem_append_right _ (List.mem_append_left _ (List.mem_of_getElem? (i := 27) (l := tables_1_3) rfl)))))), x_St.of hc (h _ (List.mem_append_right _ (List.mem_append_right _ (List.mem_append_right _ (List.mem_append_left _ (List.mem_of_getElem? (i := 28) (l := tables_1_3) rfl)))))), x_St.of hc (h _ (List.mem_append_right _ (List.mem_append_right _ (List.mem_append_right _ (List.mem_append_left _ (List.mem_of_getElem? (i := 78) (l := tables_1_3) rfl)))))), x_St.of hc (h _ (List.mem_append_right _ (List.mem_append_right _ (List.mem_append_right _ (List.mem_append_left _ (List.mem_of_getElem? (i := 79) (l := tables_1_3) rfl)))))), x_St.of hc (h _ (List.mem_append_right _ (List.mem_append_right _ (List.mem_append_right _ (List.mem_append_left _ (List.mem_of_getElem? (i := 87) (l := tables_1_3) rfl)))))), x_St.of hc (h _ (List.mem_append_right _ (List.mem_append_right _ (List.mem_append_right _ (List.mem_append_left _ (List.mem_of_getElem? (i := 88) (l := tables_1_3) rfl)))))), x_St.of hc (h _ (List.mem_append_right _ (List.mem_append_right _ (List.mem_append_right _ (List.mem_append_left _ (List.mem_of_getElem? (i := 116) (l := tables_1_3) rfl)))))), x_St.of hc (h _ (List.mem_append_right _ (List.mem_append_right _ (List.mem_append_right _ (List.mem_append_left _ (List.mem_of_getElem? (i := 117) (l := tables_1_3) rfl)))))), x_St.of hc (h _ (List.mem_append_right _ (List.mem_append_right _ (List.mem_append_right _ (List.mem_append_left _ (List.mem_of_getElem? (i := 125) (l := tables_1_3) rfl)))))), x_St.of hc (h _ (List.mem_append_right _ (List.mem_append_right _ (List.mem_append_right _ (List.mem_append_left _ (List.mem_of_getElem? (i := 133) (l := tables_1_3) rfl)))))), x_St.of hc (h _ (List.mem_append_right _ (List.mem_append_right _ (List.mem_append_right _ (List.mem_append_left _ (List.mem_of_getElem? (i := 153) (l := tables_1_3) rfl)))))), x_St.of hc (h _ (List.mem_append_right _ (List.mem_append_right _ (List.mem_append_right _ (List.mem_append_left _ (List.mem_of_getElem? (i := 177) (l := tables_1_3) rfl)))))), x_St.of hc (h _ (List.mem_append_right _ (List.mem_append_right _ (List.mem_append_right _ (List.mem_append_left _ (List.mem_of_getElem? (i := 197) (l := tables_1_3) rfl)))))), x_St.of hc (h _ (List.mem_append_right _ (List.mem_append_right _ (List.mem_append_right _ (List.mem_append_left _ (List.mem_of_getElem? (i := 198) (l := tables_1_3) rfl)))))), x_St.of hc (h _ (List.mem_append_right _ (List.mem_append_right _ (List.mem_append_right _ (List.mem_append_left _ (List.mem_of_getElem? (i := 206) (l := tables_1_3) rfl)))))), x_St.of hc (h _ (List.mem_append_right _ (List.mem_append_right _ (List.mem_append_right _ (List.mem_append_left _ (List.mem_of_getElem? (i := 229) (l := tables_1_3) rfl)))))), va_Fw.of (h _ (List.mem_append_right _ (List.mem_append_right _ (List.mem_append_right _ (List.mem_append_right _ (List.mem_append_right _ (List.mem_append_left _ (List.mem_of_getElem? (i := 33) (l := tables_1_5) rfl)))))))) (h _ (List.mem_append_right _ (List.mem_append_right _ (List.mem_append_right _ (List.mem_append_right _ (List.mem_append_right _ (List.mem_append_left _ (List.mem_of_getElem? (i := 32) (l := tables_1_5) rfl)))))))) (h _ (List.mem_append_right _ (List.mem_append_right _ (List.mem_append_right _ (List.mem_append_right _ (List.mem_append_right _ (List.mem_append_left _ (List.mem_of_getElem? (i := 38) (l := tables_1_5) rfl)))))))) (h _ (List.mem_append_right _ (List.mem_append_right _ (List.mem_append_right _ (List.mem_append_right _ (List.mem_append_right _ (List.mem_append_left _ (List.mem_of_getElem? (i := 36) (l := tables_1_5) rfl)))))))) (h _ (List.mem_append_right _ (List.mem_append_right _ (List.mem_append_right _ (List.mem_append_right _ (List.mem_append_right _ (List.mem_append_left _ (List.mem_of_getElem? (i := 34) (l := tables_1_5) rfl)))))))), trivial⟩
set_option maxRecDepth 20000 in
theorem inJx35411 : ∀ q ∈ u_ws RJx35411 TJx35411 4, q ∈ xTs := List.forall_mem_cons.mpr ⟨q465, List.forall_mem_cons.mpr ⟨q466, List.forall_mem_cons.mpr ⟨q467, List.forall_mem_cons.mpr ⟨q468, fun _ h => absurd h List.not_mem_nil⟩⟩⟩⟩
set_option maxRecDepth 20000 in
theorem inJx4a65c : ∀ q ∈ u_ws RJx4a65c TJx4a65c 3, q ∈ xTs := List.forall_mem_cons.mpr ⟨q369, List.forall_mem_cons.mpr ⟨q367, List.forall_mem_cons.mpr ⟨q368, fun _ h => absurd h List.not_mem_nil⟩⟩⟩
set_option maxRecDepth 20000 in
theorem inX2 : ∀ q ∈ u_ws RX2 TX2 3, q ∈ xTs := List.forall_mem_cons.mpr ⟨q151, List.forall_mem_cons.mpr ⟨q152, List.forall_mem_cons.mpr ⟨q153, fun _ h => absurd h List.not_mem_nil⟩⟩⟩
set_option maxRecDepth 20000 in
theorem inX3 : ∀ q ∈ u_ws RX3 TX3 4, q ∈ xTs := List.forall_mem_cons.mpr ⟨q75, List.forall_mem_cons.mpr ⟨q76, List.forall_mem_cons.mpr ⟨q77, List.forall_mem_cons.mpr ⟨q78, fun _ h => absurd h List.not_mem_nil⟩⟩⟩⟩
set_option maxRecDepth 20000 in
theorem inX4 : ∀ q ∈ u_ws RX4 TX4 5, q ∈ xTs := List.forall_mem_cons.mpr ⟨q53, List.forall_mem_cons.mpr ⟨q54, List.forall_mem_cons.mpr ⟨q55, List.forall_mem_cons.mpr ⟨q56, List.forall_mem_cons.mpr ⟨q57, fun _ h => absurd h List.not_mem_nil⟩⟩⟩⟩⟩
set_option maxRecDepth 20000 in
theorem inX6 : ∀ q ∈ u_ws RX6 TX6 12, q ∈ xTs := List.forall_mem_cons.mpr ⟨q91, List.forall_mem_cons.mpr ⟨q92, List.forall_mem_cons.mpr ⟨q93, List.forall_mem_cons.mpr ⟨q94, List.forall_mem_cons.mpr ⟨q95, List.forall_mem_cons.mpr ⟨q96, List.forall_mem_cons.mpr ⟨q97, List.forall_mem_cons.mpr ⟨q98, List.forall_mem_cons.mpr ⟨q99, List.forall_mem_cons.mpr ⟨q100, List.forall_mem_cons.mpr ⟨q101, List.forall_mem_cons.mpr ⟨q102, fun _ h => absurd h List.not_mem_nil⟩⟩⟩⟩⟩⟩⟩⟩⟩⟩⟩⟩
set_option maxRecDepth 20000 in
theorem inX10 : ∀ q ∈ u_ws RX10 TX10 5, q ∈ xTs := List.forall_mem_cons.mpr ⟨q380, List.forall_mem_cons.mpr ⟨q381, List.forall_mem_cons.mpr ⟨q382, List.forall_mem_cons.mpr ⟨q383, List.forall_mem_cons.mpr ⟨q384, fun _ h => absurd h List.not_mem_nil⟩⟩⟩⟩⟩
set_option maxRecDepth 20000 in
theorem inX12 : ∀ q ∈ u_ws RX12 TX12 2, q ∈ xTs := List.forall_mem_cons.mpr ⟨q387, List.forall_mem_cons.mpr ⟨q388, fun _ h => absurd h List.not_mem_nil⟩⟩
theorem x_gV {own C : String} {idx maxL : Nat} {y : MethodName} {bytes : ByteArray} {rt : Option FieldType} (h1 : Cond.methodLink own idx y ∈ xTs) (h2 : Cond.instanceMethod y ∈ xTs) (h3 : Cond.selects C y y ∈ xTs) (h4 : Cond.initialized C ∈ xTs) (h5 : Cond.code y bytes maxL rt ∈ xTs) : GoodIn xTs (wsV own idx C y (Cond.code y bytes maxL rt :: xTs)) := by
  intro w hw
  unfold wsV at hw
  rcases List.mem_append.mp hw with h | h
  · simp only [List.mem_cons, List.not_mem_nil, or_false] at h
    rcases h with rfl | rfl | rfl | rfl
    · exact xTs_good _ h1
    · exact xTs_good _ h2
    · exact xTs_good _ h3
    · exact xTs_good _ h4
  · rcases List.mem_cons.mp h with rfl | h
    · exact xTs_good _ h5
    · exact xTs_good _ h
theorem x_gS {own : String} {idx maxL : Nat} {y : MethodName} {bytes : ByteArray} {rt : Option FieldType} (h1 : Cond.methodLink own idx y ∈ xTs) (h2 : Cond.static y ∈ xTs) (h3 : Cond.initialized y.cls ∈ xTs) (h5 : Cond.code y bytes maxL rt ∈ xTs) : GoodIn xTs (va_wsS own idx y (Cond.code y bytes maxL rt :: xTs)) := by
  intro w hw
  unfold va_wsS at hw
  rcases List.mem_append.mp hw with h | h
  · simp only [List.mem_cons, List.not_mem_nil, or_false] at h
    rcases h with rfl | rfl | rfl
    · exact xTs_good _ h1
    · exact xTs_good _ h2
    · exact xTs_good _ h3
  · rcases List.mem_cons.mp h with rfl | h
    · exact xTs_good _ h5
    · exact xTs_good _ h
theorem x_gSW {own : String} {idx maxL : Nat} {y : MethodName} {bytes : ByteArray} {rt : Option FieldType} {hh : List (Nat × Nat × Nat × Nat)} (h1 : Cond.methodLink own idx y ∈ xTs) (h2 : Cond.static y ∈ xTs) (h3 : Cond.initialized y.cls ∈ xTs) (h5 : Cond.codeWith y bytes maxL rt hh ∈ xTs) : GoodIn xTs (va_wsS own idx y (Cond.codeWith y bytes maxL rt hh :: xTs)) := by
  intro w hw
  unfold va_wsS at hw
  rcases List.mem_append.mp hw with h | h
  · simp only [List.mem_cons, List.not_mem_nil, or_false] at h
    rcases h with rfl | rfl | rfl
    · exact xTs_good _ h1
    · exact xTs_good _ h2
    · exact xTs_good _ h3
  · rcases List.mem_cons.mp h with rfl | h
    · exact xTs_good _ h5
    · exact xTs_good _ h
theorem x_gF {own C : String} {idx maxL : Nat} {x y : MethodName} {bytes : ByteArray} {rt : Option FieldType} (h1 : Cond.methodLink own idx x ∈ xTs) (h2 : Cond.selects C x y ∈ xTs) (h3 : Cond.instanceMethod y ∈ xTs) (h4 : Cond.initialized y.cls ∈ xTs) (h5 : Cond.code y bytes maxL rt ∈ xTs) : GoodIn xTs (va_wsF own idx C x y (Cond.code y bytes maxL rt :: xTs)) := by
  intro w hw
  unfold va_wsF at hw
  rcases List.mem_append.mp hw with h | h
  · simp only [List.mem_cons, List.not_mem_nil, or_false] at h
    rcases h with rfl | rfl | rfl | rfl
    · exact xTs_good _ h1
    · exact xTs_good _ h2
    · exact xTs_good _ h3
    · exact xTs_good _ h4
  · rcases List.mem_cons.mp h with rfl | h
    · exact xTs_good _ h5
    · exact xTs_good _ h
theorem x_gI {maxL : Nat} {y : MethodName} {bytes : ByteArray} {rt : Option FieldType} (h5 : Cond.code y bytes maxL rt ∈ xTs) : GoodIn xTs (Cond.code y bytes maxL rt :: xTs) := by
  intro w hw
  rcases List.mem_cons.mp hw with rfl | h
  · exact xTs_good _ h5
  · exact xTs_good _ h
abbrev wX6_init : List Cond := Cond.code yX6_init cX6_init 1 (Option.none : Option Jvm.ClassFile.FieldType) :: xTs
theorem xd_X6_init : yX6_init.cls ≠ "java/lang/invoke/MethodHandle" ∧ yX6_init.cls ≠ "java/lang/invoke/VarHandle" ∧ (parseMethodDescriptor yX6_init.desc).map (fun d => d.parameters.length) = some 0 := by decide +kernel
abbrev wX4_init : List Cond := Cond.code yX4_init cX4_init 1 (Option.none : Option Jvm.ClassFile.FieldType) :: xTs
theorem xd_X4_init : yX4_init.cls ≠ "java/lang/invoke/MethodHandle" ∧ yX4_init.cls ≠ "java/lang/invoke/VarHandle" ∧ (parseMethodDescriptor yX4_init.desc).map (fun d => d.parameters.length) = some 0 := by decide +kernel
abbrev wX3_init : List Cond := Cond.code yX3_init cX3_init 1 (Option.none : Option Jvm.ClassFile.FieldType) :: xTs
theorem xd_X3_init : yX3_init.cls ≠ "java/lang/invoke/MethodHandle" ∧ yX3_init.cls ≠ "java/lang/invoke/VarHandle" ∧ (parseMethodDescriptor yX3_init.desc).map (fun d => d.parameters.length) = some 0 := by decide +kernel
abbrev wJ7_fill_53178 : List Cond := Cond.code yJ7_fill_53178 cJ7_fill_53178 4 (Option.none : Option Jvm.ClassFile.FieldType) :: xTs
theorem xd_J7_fill_53178 : yJ7_fill_53178.cls ≠ "java/lang/invoke/MethodHandle" ∧ yJ7_fill_53178.cls ≠ "java/lang/invoke/VarHandle" ∧ (parseMethodDescriptor yJ7_fill_53178.desc).map (fun d => d.parameters.length) = some 2 := by decide +kernel
abbrev wX6_servedShare : List Cond := Cond.code yX6_servedShare cX6_servedShare 1 (Option.some Jvm.ClassFile.FieldType.double) :: xTs
theorem xd_X6_servedShare : yX6_servedShare.cls ≠ "java/lang/invoke/MethodHandle" ∧ yX6_servedShare.cls ≠ "java/lang/invoke/VarHandle" ∧ (parseMethodDescriptor yX6_servedShare.desc).map (fun d => d.parameters.length) = some 0 := by decide +kernel
abbrev wX6_digest : List Cond := Cond.code yX6_digest cX6_digest 6 (Option.some Jvm.ClassFile.FieldType.long) :: xTs
theorem xd_X6_digest : yX6_digest.cls ≠ "java/lang/invoke/MethodHandle" ∧ yX6_digest.cls ≠ "java/lang/invoke/VarHandle" ∧ (parseMethodDescriptor yX6_digest.desc).map (fun d => d.parameters.length) = some 0 := by decide +kernel
abbrev wX6_countOf : List Cond := Cond.code yX6_countOf cX6_countOf 2 (Option.some Jvm.ClassFile.FieldType.int) :: xTs
theorem xd_X6_countOf : yX6_countOf.cls ≠ "java/lang/invoke/MethodHandle" ∧ yX6_countOf.cls ≠ "java/lang/invoke/VarHandle" ∧ (parseMethodDescriptor yX6_countOf.desc).map (fun d => d.parameters.length) = some 1 := by decide +kernel
abbrev wX6_countVersions : List Cond := Cond.code yX6_countVersions cX6_countVersions 6 (Option.some Jvm.ClassFile.FieldType.int) :: xTs
theorem xd_X6_countVersions : yX6_countVersions.cls ≠ "java/lang/invoke/MethodHandle" ∧ yX6_countVersions.cls ≠ "java/lang/invoke/VarHandle" ∧ (parseMethodDescriptor yX6_countVersions.desc).map (fun d => d.parameters.length) = some 1 := by decide +kernel
abbrev wX6_versionAt : List Cond := Cond.code yX6_versionAt cX6_versionAt 4 (Option.some (Jvm.ClassFile.FieldType.object "ServiceApiary$Version")) :: xTs
theorem xd_X6_versionAt : yX6_versionAt.cls ≠ "java/lang/invoke/MethodHandle" ∧ yX6_versionAt.cls ≠ "java/lang/invoke/VarHandle" ∧ (parseMethodDescriptor yX6_versionAt.desc).map (fun d => d.parameters.length) = some 2 := by decide +kernel
abbrev wX6_faceAt : List Cond := Cond.code yX6_faceAt cX6_faceAt 2 (Option.some (Jvm.ClassFile.FieldType.object "ServiceApiary$Face")) :: xTs
theorem xd_X6_faceAt : yX6_faceAt.cls ≠ "java/lang/invoke/MethodHandle" ∧ yX6_faceAt.cls ≠ "java/lang/invoke/VarHandle" ∧ (parseMethodDescriptor yX6_faceAt.desc).map (fun d => d.parameters.length) = some 1 := by decide +kernel
abbrev wL_open : List Cond := Cond.codeWith yL_open cL_open 3 (Option.some Jvm.ClassFile.FieldType.int) [(0, 8, 11, 13)] :: xTs
theorem xd_L_open : yL_open.cls ≠ "java/lang/invoke/MethodHandle" ∧ yL_open.cls ≠ "java/lang/invoke/VarHandle" ∧ (parseMethodDescriptor yL_open.desc).map (fun d => d.parameters.length) = some 2 := by decide +kernel
abbrev wX6_open : List Cond := Cond.code yX6_open cX6_open 1 (Option.some Jvm.ClassFile.FieldType.int) :: xTs
theorem xd_X6_open : yX6_open.cls ≠ "java/lang/invoke/MethodHandle" ∧ yX6_open.cls ≠ "java/lang/invoke/VarHandle" ∧ (parseMethodDescriptor yX6_open.desc).map (fun d => d.parameters.length) = some 0 := by decide +kernel
abbrev wX2_init : List Cond := Cond.code yX2_init cX2_init 2 (Option.none : Option Jvm.ClassFile.FieldType) :: xTs
theorem xd_X2_init : yX2_init.cls ≠ "java/lang/invoke/MethodHandle" ∧ yX2_init.cls ≠ "java/lang/invoke/VarHandle" ∧ (parseMethodDescriptor yX2_init.desc).map (fun d => d.parameters.length) = some 1 := by decide +kernel
abbrev wL_publish : List Cond := Cond.codeWith yL_publish cL_publish 6 (Option.some Jvm.ClassFile.FieldType.int) [(0, 12, 15, 19), (0, 12, 19, 21), (0, 12, 23, 13)] :: xTs
theorem xd_L_publish : yL_publish.cls ≠ "java/lang/invoke/MethodHandle" ∧ yL_publish.cls ≠ "java/lang/invoke/VarHandle" ∧ (parseMethodDescriptor yL_publish.desc).map (fun d => d.parameters.length) = some 5 := by decide +kernel
abbrev wX6_publish : List Cond := Cond.code yX6_publish cX6_publish 8 (Option.some Jvm.ClassFile.FieldType.int) :: xTs
theorem xd_X6_publish : yX6_publish.cls ≠ "java/lang/invoke/MethodHandle" ∧ yX6_publish.cls ≠ "java/lang/invoke/VarHandle" ∧ (parseMethodDescriptor yX6_publish.desc).map (fun d => d.parameters.length) = some 3 := by decide +kernel
abbrev wL_ofVersion : List Cond := Cond.codeWith yL_ofVersion cL_ofVersion 6 (Option.some Jvm.ClassFile.FieldType.int) [(0, 12, 15, 19), (0, 12, 19, 21)] :: xTs
theorem xd_L_ofVersion : yL_ofVersion.cls ≠ "java/lang/invoke/MethodHandle" ∧ yL_ofVersion.cls ≠ "java/lang/invoke/VarHandle" ∧ (parseMethodDescriptor yL_ofVersion.desc).map (fun d => d.parameters.length) = some 5 := by decide +kernel
abbrev wX6_ofVersion : List Cond := Cond.code yX6_ofVersion cX6_ofVersion 5 (Option.some Jvm.ClassFile.FieldType.int) :: xTs
theorem xd_X6_ofVersion : yX6_ofVersion.cls ≠ "java/lang/invoke/MethodHandle" ∧ yX6_ofVersion.cls ≠ "java/lang/invoke/VarHandle" ∧ (parseMethodDescriptor yX6_ofVersion.desc).map (fun d => d.parameters.length) = some 3 := by decide +kernel
abbrev wL_isCompatible : List Cond := Cond.codeWith yL_isCompatible cL_isCompatible 6 (Option.some Jvm.ClassFile.FieldType.int) [(0, 19, 22, 19)] :: xTs
theorem xd_L_isCompatible : yL_isCompatible.cls ≠ "java/lang/invoke/MethodHandle" ∧ yL_isCompatible.cls ≠ "java/lang/invoke/VarHandle" ∧ (parseMethodDescriptor yL_isCompatible.desc).map (fun d => d.parameters.length) = some 5 := by decide +kernel
abbrev wX6_isCompatible : List Cond := Cond.code yX6_isCompatible cX6_isCompatible 6 (Option.some Jvm.ClassFile.FieldType.boolean) :: xTs
theorem xd_X6_isCompatible : yX6_isCompatible.cls ≠ "java/lang/invoke/MethodHandle" ∧ yX6_isCompatible.cls ≠ "java/lang/invoke/VarHandle" ∧ (parseMethodDescriptor yX6_isCompatible.desc).map (fun d => d.parameters.length) = some 3 := by decide +kernel
abbrev wL_client : List Cond := Cond.codeWith yL_client cL_client 7 (Option.some Jvm.ClassFile.FieldType.int) [(0, 14, 17, 19), (0, 14, 21, 21), (0, 14, 25, 13)] :: xTs
theorem xd_L_client : yL_client.cls ≠ "java/lang/invoke/MethodHandle" ∧ yL_client.cls ≠ "java/lang/invoke/VarHandle" ∧ (parseMethodDescriptor yL_client.desc).map (fun d => d.parameters.length) = some 6 := by decide +kernel
abbrev wX6_client : List Cond := Cond.code yX6_client cX6_client 6 (Option.some Jvm.ClassFile.FieldType.int) :: xTs
theorem xd_X6_client : yX6_client.cls ≠ "java/lang/invoke/MethodHandle" ∧ yX6_client.cls ≠ "java/lang/invoke/VarHandle" ∧ (parseMethodDescriptor yX6_client.desc).map (fun d => d.parameters.length) = some 4 := by decide +kernel
abbrev wL_again : List Cond := Cond.codeWith yL_again cL_again 5 (Option.some Jvm.ClassFile.FieldType.int) [(0, 10, 13, 19), (0, 10, 17, 13)] :: xTs
theorem xd_L_again : yL_again.cls ≠ "java/lang/invoke/MethodHandle" ∧ yL_again.cls ≠ "java/lang/invoke/VarHandle" ∧ (parseMethodDescriptor yL_again.desc).map (fun d => d.parameters.length) = some 4 := by decide +kernel
abbrev wX6_again : List Cond := Cond.code yX6_again cX6_again 5 (Option.some Jvm.ClassFile.FieldType.int) :: xTs
theorem xd_X6_again : yX6_again.cls ≠ "java/lang/invoke/MethodHandle" ∧ yX6_again.cls ≠ "java/lang/invoke/VarHandle" ∧ (parseMethodDescriptor yX6_again.desc).map (fun d => d.parameters.length) = some 2 := by decide +kernel
abbrev wX6_clientAt : List Cond := Cond.code yX6_clientAt cX6_clientAt 2 (Option.some (Jvm.ClassFile.FieldType.object "ServiceApiary$Client")) :: xTs
theorem xd_X6_clientAt : yX6_clientAt.cls ≠ "java/lang/invoke/MethodHandle" ∧ yX6_clientAt.cls ≠ "java/lang/invoke/VarHandle" ∧ (parseMethodDescriptor yX6_clientAt.desc).map (fun d => d.parameters.length) = some 1 := by decide +kernel
abbrev wL_adapter : List Cond := Cond.codeWith yL_adapter cL_adapter 8 (Option.some Jvm.ClassFile.FieldType.int) [(0, 16, 19, 19), (0, 16, 23, 21), (0, 16, 27, 13)] :: xTs
theorem xd_L_adapter : yL_adapter.cls ≠ "java/lang/invoke/MethodHandle" ∧ yL_adapter.cls ≠ "java/lang/invoke/VarHandle" ∧ (parseMethodDescriptor yL_adapter.desc).map (fun d => d.parameters.length) = some 7 := by decide +kernel
abbrev wX6_adapter : List Cond := Cond.code yX6_adapter cX6_adapter 8 (Option.some Jvm.ClassFile.FieldType.int) :: xTs
theorem xd_X6_adapter : yX6_adapter.cls ≠ "java/lang/invoke/MethodHandle" ∧ yX6_adapter.cls ≠ "java/lang/invoke/VarHandle" ∧ (parseMethodDescriptor yX6_adapter.desc).map (fun d => d.parameters.length) = some 5 := by decide +kernel
abbrev wL_ofClient : List Cond := Cond.codeWith yL_ofClient cL_ofClient 5 (Option.some Jvm.ClassFile.FieldType.int) [(0, 10, 13, 19), (0, 10, 17, 21)] :: xTs
theorem xd_L_ofClient : yL_ofClient.cls ≠ "java/lang/invoke/MethodHandle" ∧ yL_ofClient.cls ≠ "java/lang/invoke/VarHandle" ∧ (parseMethodDescriptor yL_ofClient.desc).map (fun d => d.parameters.length) = some 4 := by decide +kernel
abbrev wX6_ofClient : List Cond := Cond.code yX6_ofClient cX6_ofClient 4 (Option.some Jvm.ClassFile.FieldType.int) :: xTs
theorem xd_X6_ofClient : yX6_ofClient.cls ≠ "java/lang/invoke/MethodHandle" ∧ yX6_ofClient.cls ≠ "java/lang/invoke/VarHandle" ∧ (parseMethodDescriptor yX6_ofClient.desc).map (fun d => d.parameters.length) = some 2 := by decide +kernel
abbrev wL_routed : List Cond := Cond.codeWith yL_routed cL_routed 5 (Option.some Jvm.ClassFile.FieldType.int) [(0, 10, 13, 19)] :: xTs
theorem xd_L_routed : yL_routed.cls ≠ "java/lang/invoke/MethodHandle" ∧ yL_routed.cls ≠ "java/lang/invoke/VarHandle" ∧ (parseMethodDescriptor yL_routed.desc).map (fun d => d.parameters.length) = some 4 := by decide +kernel
abbrev wX6_routed : List Cond := Cond.code yX6_routed cX6_routed 4 (Option.some Jvm.ClassFile.FieldType.int) :: xTs
theorem xd_X6_routed : yX6_routed.cls ≠ "java/lang/invoke/MethodHandle" ∧ yX6_routed.cls ≠ "java/lang/invoke/VarHandle" ∧ (parseMethodDescriptor yX6_routed.desc).map (fun d => d.parameters.length) = some 2 := by decide +kernel
abbrev wL_call : List Cond := Cond.codeWith yL_call cL_call 5 (Option.some Jvm.ClassFile.FieldType.int) [(0, 10, 13, 19), (0, 10, 17, 21)] :: xTs
theorem xd_L_call : yL_call.cls ≠ "java/lang/invoke/MethodHandle" ∧ yL_call.cls ≠ "java/lang/invoke/VarHandle" ∧ (parseMethodDescriptor yL_call.desc).map (fun d => d.parameters.length) = some 4 := by decide +kernel
abbrev wX6_call : List Cond := Cond.code yX6_call cX6_call 6 (Option.some Jvm.ClassFile.FieldType.int) :: xTs
theorem xd_X6_call : yX6_call.cls ≠ "java/lang/invoke/MethodHandle" ∧ yX6_call.cls ≠ "java/lang/invoke/VarHandle" ∧ (parseMethodDescriptor yX6_call.desc).map (fun d => d.parameters.length) = some 2 := by decide +kernel
abbrev wL_pass : List Cond := Cond.codeWith yL_pass cL_pass 4 (Option.some Jvm.ClassFile.FieldType.int) [(0, 9, 12, 21)] :: xTs
theorem xd_L_pass : yL_pass.cls ≠ "java/lang/invoke/MethodHandle" ∧ yL_pass.cls ≠ "java/lang/invoke/VarHandle" ∧ (parseMethodDescriptor yL_pass.desc).map (fun d => d.parameters.length) = some 3 := by decide +kernel
abbrev wX6_pass : List Cond := Cond.code yX6_pass cX6_pass 4 (Option.some Jvm.ClassFile.FieldType.int) :: xTs
theorem xd_X6_pass : yX6_pass.cls ≠ "java/lang/invoke/MethodHandle" ∧ yX6_pass.cls ≠ "java/lang/invoke/VarHandle" ∧ (parseMethodDescriptor yX6_pass.desc).map (fun d => d.parameters.length) = some 1 := by decide +kernel
abbrev wX6_beginHour : List Cond := Cond.code yX6_beginHour cX6_beginHour 5 (Option.some Jvm.ClassFile.FieldType.int) :: xTs
theorem xd_X6_beginHour : yX6_beginHour.cls ≠ "java/lang/invoke/MethodHandle" ∧ yX6_beginHour.cls ≠ "java/lang/invoke/VarHandle" ∧ (parseMethodDescriptor yX6_beginHour.desc).map (fun d => d.parameters.length) = some 0 := by decide +kernel
abbrev wL_lastCall : List Cond := Cond.codeWith yL_lastCall cL_lastCall 5 (Option.some Jvm.ClassFile.FieldType.int) [(0, 10, 13, 19)] :: xTs
theorem xd_L_lastCall : yL_lastCall.cls ≠ "java/lang/invoke/MethodHandle" ∧ yL_lastCall.cls ≠ "java/lang/invoke/VarHandle" ∧ (parseMethodDescriptor yL_lastCall.desc).map (fun d => d.parameters.length) = some 4 := by decide +kernel
abbrev wX6_lastCall : List Cond := Cond.code yX6_lastCall cX6_lastCall 5 (Option.some Jvm.ClassFile.FieldType.int) :: xTs
theorem xd_X6_lastCall : yX6_lastCall.cls ≠ "java/lang/invoke/MethodHandle" ∧ yX6_lastCall.cls ≠ "java/lang/invoke/VarHandle" ∧ (parseMethodDescriptor yX6_lastCall.desc).map (fun d => d.parameters.length) = some 2 := by decide +kernel
abbrev wL_retire : List Cond := Cond.codeWith yL_retire cL_retire 6 (Option.some Jvm.ClassFile.FieldType.int) [(0, 12, 15, 19), (0, 12, 19, 21), (0, 12, 23, 13)] :: xTs
theorem xd_L_retire : yL_retire.cls ≠ "java/lang/invoke/MethodHandle" ∧ yL_retire.cls ≠ "java/lang/invoke/VarHandle" ∧ (parseMethodDescriptor yL_retire.desc).map (fun d => d.parameters.length) = some 5 := by decide +kernel
abbrev wX6_retire : List Cond := Cond.code yX6_retire cX6_retire 5 (Option.some Jvm.ClassFile.FieldType.int) :: xTs
theorem xd_X6_retire : yX6_retire.cls ≠ "java/lang/invoke/MethodHandle" ∧ yX6_retire.cls ≠ "java/lang/invoke/VarHandle" ∧ (parseMethodDescriptor yX6_retire.desc).map (fun d => d.parameters.length) = some 3 := by decide +kernel
abbrev wL_answer : List Cond := Cond.codeWith yL_answer cL_answer 6 (Option.some Jvm.ClassFile.FieldType.int) [(0, 19, 22, 19), (0, 19, 26, 13)] :: xTs
theorem xd_L_answer : yL_answer.cls ≠ "java/lang/invoke/MethodHandle" ∧ yL_answer.cls ≠ "java/lang/invoke/VarHandle" ∧ (parseMethodDescriptor yL_answer.desc).map (fun d => d.parameters.length) = some 5 := by decide +kernel
abbrev wX6_answer : List Cond := Cond.code yX6_answer cX6_answer 6 (Option.some Jvm.ClassFile.FieldType.boolean) :: xTs
theorem xd_X6_answer : yX6_answer.cls ≠ "java/lang/invoke/MethodHandle" ∧ yX6_answer.cls ≠ "java/lang/invoke/VarHandle" ∧ (parseMethodDescriptor yX6_answer.desc).map (fun d => d.parameters.length) = some 3 := by decide +kernel
abbrev wL_recall : List Cond := Cond.codeWith yL_recall cL_recall 5 (Option.some Jvm.ClassFile.FieldType.int) [(0, 10, 13, 19), (0, 10, 17, 13)] :: xTs
theorem xd_L_recall : yL_recall.cls ≠ "java/lang/invoke/MethodHandle" ∧ yL_recall.cls ≠ "java/lang/invoke/VarHandle" ∧ (parseMethodDescriptor yL_recall.desc).map (fun d => d.parameters.length) = some 4 := by decide +kernel
abbrev wX6_recall : List Cond := Cond.code yX6_recall cX6_recall 5 (Option.some Jvm.ClassFile.FieldType.int) :: xTs
theorem xd_X6_recall : yX6_recall.cls ≠ "java/lang/invoke/MethodHandle" ∧ yX6_recall.cls ≠ "java/lang/invoke/VarHandle" ∧ (parseMethodDescriptor yX6_recall.desc).map (fun d => d.parameters.length) = some 2 := by decide +kernel
abbrev wL_asked : List Cond := Cond.codeWith yL_asked cL_asked 6 (Option.some Jvm.ClassFile.FieldType.int) [(0, 12, 15, 19)] :: xTs
theorem xd_L_asked : yL_asked.cls ≠ "java/lang/invoke/MethodHandle" ∧ yL_asked.cls ≠ "java/lang/invoke/VarHandle" ∧ (parseMethodDescriptor yL_asked.desc).map (fun d => d.parameters.length) = some 5 := by decide +kernel
abbrev wX6_asked : List Cond := Cond.code yX6_asked cX6_asked 5 (Option.some Jvm.ClassFile.FieldType.int) :: xTs
theorem xd_X6_asked : yX6_asked.cls ≠ "java/lang/invoke/MethodHandle" ∧ yX6_asked.cls ≠ "java/lang/invoke/VarHandle" ∧ (parseMethodDescriptor yX6_asked.desc).map (fun d => d.parameters.length) = some 3 := by decide +kernel
abbrev wL_many : List Cond := Cond.codeWith yL_many cL_many 4 (Option.some Jvm.ClassFile.FieldType.int) [(0, 9, 12, 21)] :: xTs
theorem xd_L_many : yL_many.cls ≠ "java/lang/invoke/MethodHandle" ∧ yL_many.cls ≠ "java/lang/invoke/VarHandle" ∧ (parseMethodDescriptor yL_many.desc).map (fun d => d.parameters.length) = some 3 := by decide +kernel
abbrev wX6_many : List Cond := Cond.code yX6_many cX6_many 2 (Option.some Jvm.ClassFile.FieldType.int) :: xTs
theorem xd_X6_many : yX6_many.cls ≠ "java/lang/invoke/MethodHandle" ∧ yX6_many.cls ≠ "java/lang/invoke/VarHandle" ∧ (parseMethodDescriptor yX6_many.desc).map (fun d => d.parameters.length) = some 1 := by decide +kernel
abbrev wL_wouldCome : List Cond := Cond.codeWith yL_wouldCome cL_wouldCome 5 (Option.some Jvm.ClassFile.FieldType.int) [(0, 10, 13, 19), (0, 10, 17, 21)] :: xTs
theorem xd_L_wouldCome : yL_wouldCome.cls ≠ "java/lang/invoke/MethodHandle" ∧ yL_wouldCome.cls ≠ "java/lang/invoke/VarHandle" ∧ (parseMethodDescriptor yL_wouldCome.desc).map (fun d => d.parameters.length) = some 4 := by decide +kernel
abbrev wX6_wouldCome : List Cond := Cond.code yX6_wouldCome cX6_wouldCome 4 (Option.some Jvm.ClassFile.FieldType.int) :: xTs
theorem xd_X6_wouldCome : yX6_wouldCome.cls ≠ "java/lang/invoke/MethodHandle" ∧ yX6_wouldCome.cls ≠ "java/lang/invoke/VarHandle" ∧ (parseMethodDescriptor yX6_wouldCome.desc).map (fun d => d.parameters.length) = some 2 := by decide +kernel
abbrev wL_goneIn : List Cond := Cond.codeWith yL_goneIn cL_goneIn 5 (Option.some Jvm.ClassFile.FieldType.int) [(0, 10, 13, 19)] :: xTs
theorem xd_L_goneIn : yL_goneIn.cls ≠ "java/lang/invoke/MethodHandle" ∧ yL_goneIn.cls ≠ "java/lang/invoke/VarHandle" ∧ (parseMethodDescriptor yL_goneIn.desc).map (fun d => d.parameters.length) = some 4 := by decide +kernel
abbrev wX6_goneIn : List Cond := Cond.code yX6_goneIn cX6_goneIn 4 (Option.some Jvm.ClassFile.FieldType.int) :: xTs
theorem xd_X6_goneIn : yX6_goneIn.cls ≠ "java/lang/invoke/MethodHandle" ∧ yX6_goneIn.cls ≠ "java/lang/invoke/VarHandle" ∧ (parseMethodDescriptor yX6_goneIn.desc).map (fun d => d.parameters.length) = some 2 := by decide +kernel
abbrev wL_wouldBreak : List Cond := Cond.codeWith yL_wouldBreak cL_wouldBreak 6 (Option.some Jvm.ClassFile.FieldType.int) [(0, 12, 15, 19), (0, 12, 19, 21)] :: xTs
theorem xd_L_wouldBreak : yL_wouldBreak.cls ≠ "java/lang/invoke/MethodHandle" ∧ yL_wouldBreak.cls ≠ "java/lang/invoke/VarHandle" ∧ (parseMethodDescriptor yL_wouldBreak.desc).map (fun d => d.parameters.length) = some 5 := by decide +kernel
abbrev wX6_wouldBreak : List Cond := Cond.code yX6_wouldBreak cX6_wouldBreak 8 (Option.some Jvm.ClassFile.FieldType.int) :: xTs
theorem xd_X6_wouldBreak : yX6_wouldBreak.cls ≠ "java/lang/invoke/MethodHandle" ∧ yX6_wouldBreak.cls ≠ "java/lang/invoke/VarHandle" ∧ (parseMethodDescriptor yX6_wouldBreak.desc).map (fun d => d.parameters.length) = some 3 := by decide +kernel
abbrev wL_target : List Cond := Cond.codeWith yL_target cL_target 4 (Option.some Jvm.ClassFile.FieldType.int) [(0, 9, 12, 19)] :: xTs
theorem xd_L_target : yL_target.cls ≠ "java/lang/invoke/MethodHandle" ∧ yL_target.cls ≠ "java/lang/invoke/VarHandle" ∧ (parseMethodDescriptor yL_target.desc).map (fun d => d.parameters.length) = some 3 := by decide +kernel
abbrev wX6_target : List Cond := Cond.code yX6_target cX6_target 3 (Option.some Jvm.ClassFile.FieldType.int) :: xTs
theorem xd_X6_target : yX6_target.cls ≠ "java/lang/invoke/MethodHandle" ∧ yX6_target.cls ≠ "java/lang/invoke/VarHandle" ∧ (parseMethodDescriptor yX6_target.desc).map (fun d => d.parameters.length) = some 1 := by decide +kernel
abbrev wL_goneBy : List Cond := Cond.codeWith yL_goneBy cL_goneBy 6 (Option.some Jvm.ClassFile.FieldType.int) [(0, 12, 15, 19), (0, 12, 19, 21), (0, 12, 23, 13)] :: xTs
theorem xd_L_goneBy : yL_goneBy.cls ≠ "java/lang/invoke/MethodHandle" ∧ yL_goneBy.cls ≠ "java/lang/invoke/VarHandle" ∧ (parseMethodDescriptor yL_goneBy.desc).map (fun d => d.parameters.length) = some 5 := by decide +kernel
abbrev wX6_goneBy : List Cond := Cond.code yX6_goneBy cX6_goneBy 5 (Option.some Jvm.ClassFile.FieldType.int) :: xTs
theorem xd_X6_goneBy : yX6_goneBy.cls ≠ "java/lang/invoke/MethodHandle" ∧ yX6_goneBy.cls ≠ "java/lang/invoke/VarHandle" ∧ (parseMethodDescriptor yX6_goneBy.desc).map (fun d => d.parameters.length) = some 3 := by decide +kernel
abbrev wX12_init : List Cond := Cond.code yX12_init cX12_init 1 (Option.none : Option Jvm.ClassFile.FieldType) :: xTs
theorem xd_X12_init : yX12_init.cls ≠ "java/lang/invoke/MethodHandle" ∧ yX12_init.cls ≠ "java/lang/invoke/VarHandle" ∧ (parseMethodDescriptor yX12_init.desc).map (fun d => d.parameters.length) = some 0 := by decide +kernel
abbrev wX10_init : List Cond := Cond.code yX10_init cX10_init 1 (Option.none : Option Jvm.ClassFile.FieldType) :: xTs
theorem xd_X10_init : yX10_init.cls ≠ "java/lang/invoke/MethodHandle" ∧ yX10_init.cls ≠ "java/lang/invoke/VarHandle" ∧ (parseMethodDescriptor yX10_init.desc).map (fun d => d.parameters.length) = some 0 := by decide +kernel
abbrev wJx4a65c_init_da8c8 : List Cond := Cond.code yJx4a65c_init_da8c8 cJx4a65c_init_da8c8 1 (Option.none : Option Jvm.ClassFile.FieldType) :: xTs
theorem xd_Jx4a65c_init_da8c8 : yJx4a65c_init_da8c8.cls ≠ "java/lang/invoke/MethodHandle" ∧ yJx4a65c_init_da8c8.cls ≠ "java/lang/invoke/VarHandle" ∧ (parseMethodDescriptor yJx4a65c_init_da8c8.desc).map (fun d => d.parameters.length) = some 0 := by decide +kernel
abbrev wJxc12de_init_da8c8 : List Cond := Cond.code yJxc12de_init_da8c8 cJxc12de_init_da8c8 1 (Option.none : Option Jvm.ClassFile.FieldType) :: xTs
theorem xd_Jxc12de_init_da8c8 : yJxc12de_init_da8c8.cls ≠ "java/lang/invoke/MethodHandle" ∧ yJxc12de_init_da8c8.cls ≠ "java/lang/invoke/VarHandle" ∧ (parseMethodDescriptor yJxc12de_init_da8c8.desc).map (fun d => d.parameters.length) = some 0 := by decide +kernel
abbrev wJxa1e45_init_da8c8 : List Cond := Cond.code yJxa1e45_init_da8c8 cJxa1e45_init_da8c8 1 (Option.none : Option Jvm.ClassFile.FieldType) :: xTs
theorem xd_Jxa1e45_init_da8c8 : yJxa1e45_init_da8c8.cls ≠ "java/lang/invoke/MethodHandle" ∧ yJxa1e45_init_da8c8.cls ≠ "java/lang/invoke/VarHandle" ∧ (parseMethodDescriptor yJxa1e45_init_da8c8.desc).map (fun d => d.parameters.length) = some 0 := by decide +kernel
abbrev wX12_thrown : List Cond := Cond.code yX12_thrown cX12_thrown 1 (Option.some Jvm.ClassFile.FieldType.int) :: xTs
theorem xd_X12_thrown : yX12_thrown.cls ≠ "java/lang/invoke/MethodHandle" ∧ yX12_thrown.cls ≠ "java/lang/invoke/VarHandle" ∧ (parseMethodDescriptor yX12_thrown.desc).map (fun d => d.parameters.length) = some 0 := by decide +kernel
abbrev wX12_open : List Cond := Cond.code yX12_open cX12_open 1 (Option.some Jvm.ClassFile.FieldType.int) :: xTs
theorem xd_X12_open : yX12_open.cls ≠ "java/lang/invoke/MethodHandle" ∧ yX12_open.cls ≠ "java/lang/invoke/VarHandle" ∧ (parseMethodDescriptor yX12_open.desc).map (fun d => d.parameters.length) = some 0 := by decide +kernel
abbrev wJx4a65c_size_8abf5 : List Cond := Cond.code yJx4a65c_size_8abf5 cJx4a65c_size_8abf5 1 (Option.some Jvm.ClassFile.FieldType.int) :: xTs
theorem xd_Jx4a65c_size_8abf5 : yJx4a65c_size_8abf5.cls ≠ "java/lang/invoke/MethodHandle" ∧ yJx4a65c_size_8abf5.cls ≠ "java/lang/invoke/VarHandle" ∧ (parseMethodDescriptor yJx4a65c_size_8abf5.desc).map (fun d => d.parameters.length) = some 0 := by decide +kernel
abbrev wX12_start : List Cond := Cond.code yX12_start cX12_start 3 (Option.some Jvm.ClassFile.FieldType.boolean) :: xTs
theorem xd_X12_start : yX12_start.cls ≠ "java/lang/invoke/MethodHandle" ∧ yX12_start.cls ≠ "java/lang/invoke/VarHandle" ∧ (parseMethodDescriptor yX12_start.desc).map (fun d => d.parameters.length) = some 2 := by decide +kernel
abbrev wX12_refuse : List Cond := Cond.code yX12_refuse cX12_refuse 3 (Option.some Jvm.ClassFile.FieldType.boolean) :: xTs
theorem xd_X12_refuse : yX12_refuse.cls ≠ "java/lang/invoke/MethodHandle" ∧ yX12_refuse.cls ≠ "java/lang/invoke/VarHandle" ∧ (parseMethodDescriptor yX12_refuse.desc).map (fun d => d.parameters.length) = some 2 := by decide +kernel
abbrev wJx4a65c_add_9ea2d : List Cond := Cond.code yJx4a65c_add_9ea2d cJx4a65c_add_9ea2d 2 (Option.some Jvm.ClassFile.FieldType.boolean) :: xTs
theorem xd_Jx4a65c_add_9ea2d : yJx4a65c_add_9ea2d.cls ≠ "java/lang/invoke/MethodHandle" ∧ yJx4a65c_add_9ea2d.cls ≠ "java/lang/invoke/VarHandle" ∧ (parseMethodDescriptor yJx4a65c_add_9ea2d.desc).map (fun d => d.parameters.length) = some 1 := by decide +kernel
abbrev wJx4a65c_add_72be8 : List Cond := Cond.code yJx4a65c_add_72be8 cJx4a65c_add_72be8 4 (Option.none : Option Jvm.ClassFile.FieldType) :: xTs
theorem xd_Jx4a65c_add_72be8 : yJx4a65c_add_72be8.cls ≠ "java/lang/invoke/MethodHandle" ∧ yJx4a65c_add_72be8.cls ≠ "java/lang/invoke/VarHandle" ∧ (parseMethodDescriptor yJx4a65c_add_72be8.desc).map (fun d => d.parameters.length) = some 3 := by decide +kernel
abbrev wJx4a65c_grow_d5877 : List Cond := Cond.code yJx4a65c_grow_d5877 cJx4a65c_grow_d5877 1 (Option.some (Jvm.ClassFile.FieldType.array (Jvm.ClassFile.FieldType.object "java/lang/Object"))) :: xTs
theorem xd_Jx4a65c_grow_d5877 : yJx4a65c_grow_d5877.cls ≠ "java/lang/invoke/MethodHandle" ∧ yJx4a65c_grow_d5877.cls ≠ "java/lang/invoke/VarHandle" ∧ (parseMethodDescriptor yJx4a65c_grow_d5877.desc).map (fun d => d.parameters.length) = some 0 := by decide +kernel
abbrev wJx4a65c_grow_92f84 : List Cond := Cond.code yJx4a65c_grow_92f84 cJx4a65c_grow_92f84 4 (Option.some (Jvm.ClassFile.FieldType.array (Jvm.ClassFile.FieldType.object "java/lang/Object"))) :: xTs
theorem xd_Jx4a65c_grow_92f84 : yJx4a65c_grow_92f84.cls ≠ "java/lang/invoke/MethodHandle" ∧ yJx4a65c_grow_92f84.cls ≠ "java/lang/invoke/VarHandle" ∧ (parseMethodDescriptor yJx4a65c_grow_92f84.desc).map (fun d => d.parameters.length) = some 1 := by decide +kernel
abbrev wX12_publish : List Cond := Cond.code yX12_publish cX12_publish 8 (Option.some Jvm.ClassFile.FieldType.int) :: xTs
theorem xd_X12_publish : yX12_publish.cls ≠ "java/lang/invoke/MethodHandle" ∧ yX12_publish.cls ≠ "java/lang/invoke/VarHandle" ∧ (parseMethodDescriptor yX12_publish.desc).map (fun d => d.parameters.length) = some 3 := by decide +kernel
abbrev wX12_isNoFace : List Cond := Cond.code yX12_isNoFace cX12_isNoFace 2 (Option.some Jvm.ClassFile.FieldType.boolean) :: xTs
theorem xd_X12_isNoFace : yX12_isNoFace.cls ≠ "java/lang/invoke/MethodHandle" ∧ yX12_isNoFace.cls ≠ "java/lang/invoke/VarHandle" ∧ (parseMethodDescriptor yX12_isNoFace.desc).map (fun d => d.parameters.length) = some 1 := by decide +kernel
abbrev wX12_isIn : List Cond := Cond.code yX12_isIn cX12_isIn 3 (Option.some Jvm.ClassFile.FieldType.boolean) :: xTs
theorem xd_X12_isIn : yX12_isIn.cls ≠ "java/lang/invoke/MethodHandle" ∧ yX12_isIn.cls ≠ "java/lang/invoke/VarHandle" ∧ (parseMethodDescriptor yX12_isIn.desc).map (fun d => d.parameters.length) = some 3 := by decide +kernel
abbrev wJx4a65c_iterator_32c93 : List Cond := Cond.code yJx4a65c_iterator_32c93 cJx4a65c_iterator_32c93 1 (Option.some (Jvm.ClassFile.FieldType.object "java/util/Iterator")) :: xTs
theorem xd_Jx4a65c_iterator_32c93 : yJx4a65c_iterator_32c93.cls ≠ "java/lang/invoke/MethodHandle" ∧ yJx4a65c_iterator_32c93.cls ≠ "java/lang/invoke/VarHandle" ∧ (parseMethodDescriptor yJx4a65c_iterator_32c93.desc).map (fun d => d.parameters.length) = some 0 := by decide +kernel
abbrev wJx35411_init_45d68 : List Cond := Cond.code yJx35411_init_45d68 cJx35411_init_45d68 2 (Option.none : Option Jvm.ClassFile.FieldType) :: xTs
theorem xd_Jx35411_init_45d68 : yJx35411_init_45d68.cls ≠ "java/lang/invoke/MethodHandle" ∧ yJx35411_init_45d68.cls ≠ "java/lang/invoke/VarHandle" ∧ (parseMethodDescriptor yJx35411_init_45d68.desc).map (fun d => d.parameters.length) = some 1 := by decide +kernel
abbrev wJx35411_hasNext_aae02 : List Cond := Cond.code yJx35411_hasNext_aae02 cJx35411_hasNext_aae02 1 (Option.some Jvm.ClassFile.FieldType.boolean) :: xTs
theorem xd_Jx35411_hasNext_aae02 : yJx35411_hasNext_aae02.cls ≠ "java/lang/invoke/MethodHandle" ∧ yJx35411_hasNext_aae02.cls ≠ "java/lang/invoke/VarHandle" ∧ (parseMethodDescriptor yJx35411_hasNext_aae02.desc).map (fun d => d.parameters.length) = some 0 := by decide +kernel
abbrev wX12_ofVersion : List Cond := Cond.code yX12_ofVersion cX12_ofVersion 4 (Option.some Jvm.ClassFile.FieldType.int) :: xTs
theorem xd_X12_ofVersion : yX12_ofVersion.cls ≠ "java/lang/invoke/MethodHandle" ∧ yX12_ofVersion.cls ≠ "java/lang/invoke/VarHandle" ∧ (parseMethodDescriptor yX12_ofVersion.desc).map (fun d => d.parameters.length) = some 3 := by decide +kernel
abbrev wX12_isNoVersion : List Cond := Cond.code yX12_isNoVersion cX12_isNoVersion 3 (Option.some Jvm.ClassFile.FieldType.boolean) :: xTs
theorem xd_X12_isNoVersion : yX12_isNoVersion.cls ≠ "java/lang/invoke/MethodHandle" ∧ yX12_isNoVersion.cls ≠ "java/lang/invoke/VarHandle" ∧ (parseMethodDescriptor yX12_isNoVersion.desc).map (fun d => d.parameters.length) = some 2 := by decide +kernel
abbrev wX12_isNo : List Cond := Cond.code yX12_isNo cX12_isNo 3 (Option.some Jvm.ClassFile.FieldType.boolean) :: xTs
theorem xd_X12_isNo : yX12_isNo.cls ≠ "java/lang/invoke/MethodHandle" ∧ yX12_isNo.cls ≠ "java/lang/invoke/VarHandle" ∧ (parseMethodDescriptor yX12_isNo.desc).map (fun d => d.parameters.length) = some 2 := by decide +kernel
abbrev wX12_isCompatible : List Cond := Cond.code yX12_isCompatible cX12_isCompatible 4 (Option.some Jvm.ClassFile.FieldType.boolean) :: xTs
theorem xd_X12_isCompatible : yX12_isCompatible.cls ≠ "java/lang/invoke/MethodHandle" ∧ yX12_isCompatible.cls ≠ "java/lang/invoke/VarHandle" ∧ (parseMethodDescriptor yX12_isCompatible.desc).map (fun d => d.parameters.length) = some 3 := by decide +kernel
abbrev wX12_client : List Cond := Cond.code yX12_client cX12_client 5 (Option.some Jvm.ClassFile.FieldType.int) :: xTs
theorem xd_X12_client : yX12_client.cls ≠ "java/lang/invoke/MethodHandle" ∧ yX12_client.cls ≠ "java/lang/invoke/VarHandle" ∧ (parseMethodDescriptor yX12_client.desc).map (fun d => d.parameters.length) = some 4 := by decide +kernel
abbrev wX12_again : List Cond := Cond.code yX12_again cX12_again 4 (Option.some Jvm.ClassFile.FieldType.int) :: xTs
theorem xd_X12_again : yX12_again.cls ≠ "java/lang/invoke/MethodHandle" ∧ yX12_again.cls ≠ "java/lang/invoke/VarHandle" ∧ (parseMethodDescriptor yX12_again.desc).map (fun d => d.parameters.length) = some 2 := by decide +kernel
abbrev wX12_isNoPair : List Cond := Cond.code yX12_isNoPair cX12_isNoPair 3 (Option.some Jvm.ClassFile.FieldType.boolean) :: xTs
theorem xd_X12_isNoPair : yX12_isNoPair.cls ≠ "java/lang/invoke/MethodHandle" ∧ yX12_isNoPair.cls ≠ "java/lang/invoke/VarHandle" ∧ (parseMethodDescriptor yX12_isNoPair.desc).map (fun d => d.parameters.length) = some 2 := by decide +kernel
abbrev wX12_isNoOne : List Cond := Cond.code yX12_isNoOne cX12_isNoOne 2 (Option.some Jvm.ClassFile.FieldType.boolean) :: xTs
theorem xd_X12_isNoOne : yX12_isNoOne.cls ≠ "java/lang/invoke/MethodHandle" ∧ yX12_isNoOne.cls ≠ "java/lang/invoke/VarHandle" ∧ (parseMethodDescriptor yX12_isNoOne.desc).map (fun d => d.parameters.length) = some 1 := by decide +kernel
abbrev wX12_adapter : List Cond := Cond.code yX12_adapter cX12_adapter 6 (Option.some Jvm.ClassFile.FieldType.int) :: xTs
theorem xd_X12_adapter : yX12_adapter.cls ≠ "java/lang/invoke/MethodHandle" ∧ yX12_adapter.cls ≠ "java/lang/invoke/VarHandle" ∧ (parseMethodDescriptor yX12_adapter.desc).map (fun d => d.parameters.length) = some 5 := by decide +kernel
abbrev wX12_ofClient : List Cond := Cond.code yX12_ofClient cX12_ofClient 3 (Option.some Jvm.ClassFile.FieldType.int) :: xTs
theorem xd_X12_ofClient : yX12_ofClient.cls ≠ "java/lang/invoke/MethodHandle" ∧ yX12_ofClient.cls ≠ "java/lang/invoke/VarHandle" ∧ (parseMethodDescriptor yX12_ofClient.desc).map (fun d => d.parameters.length) = some 2 := by decide +kernel
abbrev wX12_isNoClient : List Cond := Cond.code yX12_isNoClient cX12_isNoClient 2 (Option.some Jvm.ClassFile.FieldType.boolean) :: xTs
theorem xd_X12_isNoClient : yX12_isNoClient.cls ≠ "java/lang/invoke/MethodHandle" ∧ yX12_isNoClient.cls ≠ "java/lang/invoke/VarHandle" ∧ (parseMethodDescriptor yX12_isNoClient.desc).map (fun d => d.parameters.length) = some 1 := by decide +kernel
abbrev wX12_routed : List Cond := Cond.code yX12_routed cX12_routed 4 (Option.some Jvm.ClassFile.FieldType.int) :: xTs
theorem xd_X12_routed : yX12_routed.cls ≠ "java/lang/invoke/MethodHandle" ∧ yX12_routed.cls ≠ "java/lang/invoke/VarHandle" ∧ (parseMethodDescriptor yX12_routed.desc).map (fun d => d.parameters.length) = some 2 := by decide +kernel
abbrev wX12_call : List Cond := Cond.code yX12_call cX12_call 5 (Option.some Jvm.ClassFile.FieldType.int) :: xTs
theorem xd_X12_call : yX12_call.cls ≠ "java/lang/invoke/MethodHandle" ∧ yX12_call.cls ≠ "java/lang/invoke/VarHandle" ∧ (parseMethodDescriptor yX12_call.desc).map (fun d => d.parameters.length) = some 2 := by decide +kernel
abbrev wX12_pass : List Cond := Cond.code yX12_pass cX12_pass 4 (Option.some Jvm.ClassFile.FieldType.int) :: xTs
theorem xd_X12_pass : yX12_pass.cls ≠ "java/lang/invoke/MethodHandle" ∧ yX12_pass.cls ≠ "java/lang/invoke/VarHandle" ∧ (parseMethodDescriptor yX12_pass.desc).map (fun d => d.parameters.length) = some 1 := by decide +kernel
abbrev wX10_begin : List Cond := Cond.code yX10_begin cX10_begin 4 (Option.some Jvm.ClassFile.FieldType.int) :: xTs
theorem xd_X10_begin : yX10_begin.cls ≠ "java/lang/invoke/MethodHandle" ∧ yX10_begin.cls ≠ "java/lang/invoke/VarHandle" ∧ (parseMethodDescriptor yX10_begin.desc).map (fun d => d.parameters.length) = some 0 := by decide +kernel
abbrev wX12_lastCall : List Cond := Cond.code yX12_lastCall cX12_lastCall 3 (Option.some Jvm.ClassFile.FieldType.int) :: xTs
theorem xd_X12_lastCall : yX12_lastCall.cls ≠ "java/lang/invoke/MethodHandle" ∧ yX12_lastCall.cls ≠ "java/lang/invoke/VarHandle" ∧ (parseMethodDescriptor yX12_lastCall.desc).map (fun d => d.parameters.length) = some 2 := by decide +kernel
abbrev wX12_retire : List Cond := Cond.code yX12_retire cX12_retire 9 (Option.some Jvm.ClassFile.FieldType.int) :: xTs
theorem xd_X12_retire : yX12_retire.cls ≠ "java/lang/invoke/MethodHandle" ∧ yX12_retire.cls ≠ "java/lang/invoke/VarHandle" ∧ (parseMethodDescriptor yX12_retire.desc).map (fun d => d.parameters.length) = some 3 := by decide +kernel
abbrev wX12_answer : List Cond := Cond.code yX12_answer cX12_answer 5 (Option.some Jvm.ClassFile.FieldType.boolean) :: xTs
theorem xd_X12_answer : yX12_answer.cls ≠ "java/lang/invoke/MethodHandle" ∧ yX12_answer.cls ≠ "java/lang/invoke/VarHandle" ∧ (parseMethodDescriptor yX12_answer.desc).map (fun d => d.parameters.length) = some 3 := by decide +kernel
abbrev wX12_isNoAsk : List Cond := Cond.code yX12_isNoAsk cX12_isNoAsk 4 (Option.some Jvm.ClassFile.FieldType.boolean) :: xTs
theorem xd_X12_isNoAsk : yX12_isNoAsk.cls ≠ "java/lang/invoke/MethodHandle" ∧ yX12_isNoAsk.cls ≠ "java/lang/invoke/VarHandle" ∧ (parseMethodDescriptor yX12_isNoAsk.desc).map (fun d => d.parameters.length) = some 3 := by decide +kernel
abbrev wX12_recall : List Cond := Cond.code yX12_recall cX12_recall 4 (Option.some Jvm.ClassFile.FieldType.int) :: xTs
theorem xd_X12_recall : yX12_recall.cls ≠ "java/lang/invoke/MethodHandle" ∧ yX12_recall.cls ≠ "java/lang/invoke/VarHandle" ∧ (parseMethodDescriptor yX12_recall.desc).map (fun d => d.parameters.length) = some 2 := by decide +kernel
abbrev wX12_asked : List Cond := Cond.code yX12_asked cX12_asked 4 (Option.some Jvm.ClassFile.FieldType.int) :: xTs
theorem xd_X12_asked : yX12_asked.cls ≠ "java/lang/invoke/MethodHandle" ∧ yX12_asked.cls ≠ "java/lang/invoke/VarHandle" ∧ (parseMethodDescriptor yX12_asked.desc).map (fun d => d.parameters.length) = some 3 := by decide +kernel
abbrev wX12_many : List Cond := Cond.code yX12_many cX12_many 2 (Option.some Jvm.ClassFile.FieldType.int) :: xTs
theorem xd_X12_many : yX12_many.cls ≠ "java/lang/invoke/MethodHandle" ∧ yX12_many.cls ≠ "java/lang/invoke/VarHandle" ∧ (parseMethodDescriptor yX12_many.desc).map (fun d => d.parameters.length) = some 1 := by decide +kernel
abbrev wX12_count : List Cond := Cond.code yX12_count cX12_count 2 (Option.some Jvm.ClassFile.FieldType.int) :: xTs
theorem xd_X12_count : yX12_count.cls ≠ "java/lang/invoke/MethodHandle" ∧ yX12_count.cls ≠ "java/lang/invoke/VarHandle" ∧ (parseMethodDescriptor yX12_count.desc).map (fun d => d.parameters.length) = some 1 := by decide +kernel
abbrev wX12_versionsIn : List Cond := Cond.code yX12_versionsIn cX12_versionsIn 7 (Option.some Jvm.ClassFile.FieldType.int) :: xTs
theorem xd_X12_versionsIn : yX12_versionsIn.cls ≠ "java/lang/invoke/MethodHandle" ∧ yX12_versionsIn.cls ≠ "java/lang/invoke/VarHandle" ∧ (parseMethodDescriptor yX12_versionsIn.desc).map (fun d => d.parameters.length) = some 1 := by decide +kernel
abbrev wX12_callsThat : List Cond := Cond.code yX12_callsThat cX12_callsThat 6 (Option.some Jvm.ClassFile.FieldType.int) :: xTs
theorem xd_X12_callsThat : yX12_callsThat.cls ≠ "java/lang/invoke/MethodHandle" ∧ yX12_callsThat.cls ≠ "java/lang/invoke/VarHandle" ∧ (parseMethodDescriptor yX12_callsThat.desc).map (fun d => d.parameters.length) = some 2 := by decide +kernel
abbrev wX12_servedShare : List Cond := Cond.code yX12_servedShare cX12_servedShare 1 (Option.some Jvm.ClassFile.FieldType.double) :: xTs
theorem xd_X12_servedShare : yX12_servedShare.cls ≠ "java/lang/invoke/MethodHandle" ∧ yX12_servedShare.cls ≠ "java/lang/invoke/VarHandle" ∧ (parseMethodDescriptor yX12_servedShare.desc).map (fun d => d.parameters.length) = some 0 := by decide +kernel
abbrev wJx4a65c_isEmpty_aae02 : List Cond := Cond.code yJx4a65c_isEmpty_aae02 cJx4a65c_isEmpty_aae02 1 (Option.some Jvm.ClassFile.FieldType.boolean) :: xTs
theorem xd_Jx4a65c_isEmpty_aae02 : yJx4a65c_isEmpty_aae02.cls ≠ "java/lang/invoke/MethodHandle" ∧ yJx4a65c_isEmpty_aae02.cls ≠ "java/lang/invoke/VarHandle" ∧ (parseMethodDescriptor yJx4a65c_isEmpty_aae02.desc).map (fun d => d.parameters.length) = some 0 := by decide +kernel
abbrev wX12_wouldCome : List Cond := Cond.code yX12_wouldCome cX12_wouldCome 3 (Option.some Jvm.ClassFile.FieldType.int) :: xTs
theorem xd_X12_wouldCome : yX12_wouldCome.cls ≠ "java/lang/invoke/MethodHandle" ∧ yX12_wouldCome.cls ≠ "java/lang/invoke/VarHandle" ∧ (parseMethodDescriptor yX12_wouldCome.desc).map (fun d => d.parameters.length) = some 2 := by decide +kernel
abbrev wX12_goneIn : List Cond := Cond.code yX12_goneIn cX12_goneIn 3 (Option.some Jvm.ClassFile.FieldType.int) :: xTs
theorem xd_X12_goneIn : yX12_goneIn.cls ≠ "java/lang/invoke/MethodHandle" ∧ yX12_goneIn.cls ≠ "java/lang/invoke/VarHandle" ∧ (parseMethodDescriptor yX12_goneIn.desc).map (fun d => d.parameters.length) = some 2 := by decide +kernel
abbrev wX12_wouldBreak : List Cond := Cond.code yX12_wouldBreak cX12_wouldBreak 8 (Option.some Jvm.ClassFile.FieldType.int) :: xTs
theorem xd_X12_wouldBreak : yX12_wouldBreak.cls ≠ "java/lang/invoke/MethodHandle" ∧ yX12_wouldBreak.cls ≠ "java/lang/invoke/VarHandle" ∧ (parseMethodDescriptor yX12_wouldBreak.desc).map (fun d => d.parameters.length) = some 3 := by decide +kernel
abbrev wX12_target : List Cond := Cond.code yX12_target cX12_target 2 (Option.some Jvm.ClassFile.FieldType.int) :: xTs
theorem xd_X12_target : yX12_target.cls ≠ "java/lang/invoke/MethodHandle" ∧ yX12_target.cls ≠ "java/lang/invoke/VarHandle" ∧ (parseMethodDescriptor yX12_target.desc).map (fun d => d.parameters.length) = some 1 := by decide +kernel
abbrev wX12_goneBy : List Cond := Cond.code yX12_goneBy cX12_goneBy 5 (Option.some Jvm.ClassFile.FieldType.int) :: xTs
theorem xd_X12_goneBy : yX12_goneBy.cls ≠ "java/lang/invoke/MethodHandle" ∧ yX12_goneBy.cls ≠ "java/lang/invoke/VarHandle" ∧ (parseMethodDescriptor yX12_goneBy.desc).map (fun d => d.parameters.length) = some 3 := by decide +kernel
abbrev wX12_digest : List Cond := Cond.code yX12_digest cX12_digest 7 (Option.some Jvm.ClassFile.FieldType.long) :: xTs
theorem xd_X12_digest : yX12_digest.cls ≠ "java/lang/invoke/MethodHandle" ∧ yX12_digest.cls ≠ "java/lang/invoke/VarHandle" ∧ (parseMethodDescriptor yX12_digest.desc).map (fun d => d.parameters.length) = some 0 := by decide +kernel
abbrev wX12_add : List Cond := Cond.code yX12_add cX12_add 4 (Option.some Jvm.ClassFile.FieldType.long) :: xTs
theorem xd_X12_add : yX12_add.cls ≠ "java/lang/invoke/MethodHandle" ∧ yX12_add.cls ≠ "java/lang/invoke/VarHandle" ∧ (parseMethodDescriptor yX12_add.desc).map (fun d => d.parameters.length) = some 2 := by decide +kernel
theorem xd_It : yIt.cls ≠ "java/lang/invoke/MethodHandle" ∧ yIt.cls ≠ "java/lang/invoke/VarHandle" ∧ (parseMethodDescriptor yIt.desc).map (fun d => d.parameters.length) = some 0 := by decide +kernel
def xNm : List String := ["java/lang/RuntimeException", "java/lang/Exception"]
theorem xatI_0 : ∀ w ∈ (vx_atS RX6 63 "java/lang/IndexOutOfBoundsException" xNm).filter goodWord, w ∈ lw_tbl := by decide +kernel
theorem xatI_2 : ∀ w ∈ (vx_atS RX6 63 "java/lang/IndexOutOfBoundsException" xNm).filter (fun w => !goodWord w), w ∈ [Cond.castable "java/lang/IndexOutOfBoundsException" "java/lang/IndexOutOfBoundsException", Cond.declares (Bundle.initS "java/lang/RuntimeException"), Cond.declares (Bundle.initS "java/lang/Exception"), Cond.declares (Bundle.initS "java/lang/Throwable")] := by decide +kernel
theorem xatI {A : Array Value} {U : State} (ht : ∀ w ∈ xTs, w.before A U = true) (hx : x_xt U) : ∀ w ∈ vx_atS RX6 63 "java/lang/IndexOutOfBoundsException" xNm, w.before A U = true :=
  vx_hat (fun w h => ht w (List.mem_filter.mpr ⟨xatI_0 w h, (List.mem_filter.mp h).2⟩)) xatI_2 (vx_c (va_Nw.use rfl (x9 hx)) (vx_c (va_Nw.use rfl (x5 hx)) (vx_c (va_Nw.use rfl (x6 hx)) (vx_c (va_Nw.use rfl (x7 hx)) vx_n))))
theorem xokI : ∀ w ∈ Cond.classLink RX6 59 "java/lang/IndexOutOfBoundsException" :: Cond.initialized "java/lang/IndexOutOfBoundsException" :: vx_atS RX6 63 "java/lang/IndexOutOfBoundsException" xNm, vx_ot w = true := by decide +kernel
theorem xatA_0 : ∀ w ∈ (vx_atS RX6 72 "java/lang/IllegalArgumentException" xNm).filter goodWord, w ∈ lw_tbl := by decide +kernel
theorem xatA_2 : ∀ w ∈ (vx_atS RX6 72 "java/lang/IllegalArgumentException" xNm).filter (fun w => !goodWord w), w ∈ [Cond.castable "java/lang/IllegalArgumentException" "java/lang/IllegalArgumentException", Cond.declares (Bundle.initS "java/lang/RuntimeException"), Cond.declares (Bundle.initS "java/lang/Exception"), Cond.declares (Bundle.initS "java/lang/Throwable")] := by decide +kernel
theorem xatA {A : Array Value} {U : State} (ht : ∀ w ∈ xTs, w.before A U = true) (hx : x_xt U) : ∀ w ∈ vx_atS RX6 72 "java/lang/IllegalArgumentException" xNm, w.before A U = true :=
  vx_hat (fun w h => ht w (List.mem_filter.mpr ⟨xatA_0 w h, (List.mem_filter.mp h).2⟩)) xatA_2 (vx_c (va_Nw.use rfl (x10 hx)) (vx_c (va_Nw.use rfl (x5 hx)) (vx_c (va_Nw.use rfl (x6 hx)) (vx_c (va_Nw.use rfl (x7 hx)) vx_n))))
theorem xokA : ∀ w ∈ Cond.classLink RX6 68 "java/lang/IllegalArgumentException" :: Cond.initialized "java/lang/IllegalArgumentException" :: vx_atS RX6 72 "java/lang/IllegalArgumentException" xNm, vx_ot w = true := by decide +kernel
