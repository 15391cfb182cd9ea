/-! the words that a program's rows rest on: those of the tables that the tables alone decide -/
def xTs : List Cond := lw_tbl.filter goodWord
theorem xTs_1 {w : Cond} {i : Nat} (h : tables_1_1[i]? = some w) (g : goodWord w = true) : w ∈ xTs := List.mem_filter.mpr ⟨List.mem_append_right _ (List.mem_append_left _ (List.mem_of_getElem? h)), g⟩
theorem xTs_2 {w : Cond} {i : Nat} (h : tables_1_2[i]? = some w) (g : goodWord w = true) : w ∈ xTs := List.mem_filter.mpr ⟨List.mem_append_right _ (List.mem_append_right _ (List.mem_append_left _ (List.mem_of_getElem? h))), g⟩
theorem xTs_3 {w : Cond} {i : Nat} (h : tables_1_3[i]? = some w) (g : goodWord w = true) : w ∈ xTs := List.mem_filter.mpr ⟨List.mem_append_right _ (List.mem_append_right _ (List.mem_append_right _ (List.mem_of_getElem? h))), g⟩
theorem xTs_0 {w : Cond} {i : Nat} (h : (k2_sels lw_privs)[i]? = some w) (g : goodWord w = true) : w ∈ xTs := List.mem_filter.mpr ⟨List.mem_append_left _ (List.mem_of_getElem? h), g⟩
theorem xTs_sub : ∀ w ∈ xTs, w ∈ lw_tbl := fun w h => (List.mem_filter.mp h).1
theorem xTs_good : GoodIn xTs xTs := fun w h => ⟨h, good_of_word (List.mem_filter.mp h).2⟩
set_option maxRecDepth 20000 in
theorem q0 : (Cond.initialized RL) ∈ xTs := xTs_1 (i := 0) rfl rfl
set_option maxRecDepth 20000 in
theorem q1 : (Cond.initialized RX6) ∈ xTs := xTs_1 (i := 1) rfl rfl
set_option maxRecDepth 20000 in
theorem q2 : (Cond.initialized RX4) ∈ xTs := xTs_1 (i := 2) rfl rfl
set_option maxRecDepth 20000 in
theorem q3 : (Cond.initialized RX3) ∈ xTs := xTs_1 (i := 3) rfl rfl
set_option maxRecDepth 20000 in
theorem q4 : (Cond.initialized RJ7) ∈ xTs := xTs_1 (i := 4) rfl rfl
set_option maxRecDepth 20000 in
theorem q5 : (Cond.initialized "java/lang/Throwable") ∈ xTs := xTs_1 (i := 5) rfl rfl
set_option maxRecDepth 20000 in
theorem q6 : (Cond.initialized "java/lang/Exception") ∈ xTs := xTs_1 (i := 6) rfl rfl
set_option maxRecDepth 20000 in
theorem q7 : (Cond.initialized "java/lang/RuntimeException") ∈ xTs := xTs_1 (i := 7) rfl rfl
set_option maxRecDepth 20000 in
theorem q8 : (Cond.initialized "java/lang/IllegalStateException") ∈ xTs := xTs_1 (i := 8) rfl rfl
set_option maxRecDepth 20000 in
theorem q9 : (Cond.initialized RX2) ∈ xTs := xTs_1 (i := 9) rfl rfl
set_option maxRecDepth 20000 in
theorem q10 : (Cond.initialized "java/lang/IndexOutOfBoundsException") ∈ xTs := xTs_1 (i := 10) rfl rfl
set_option maxRecDepth 20000 in
theorem q11 : (Cond.initialized "java/lang/IllegalArgumentException") ∈ xTs := xTs_1 (i := 11) rfl rfl
set_option maxRecDepth 20000 in
theorem q12 : (Cond.initialized RX5) ∈ xTs := xTs_1 (i := 12) rfl rfl
set_option maxRecDepth 20000 in
theorem q13 : (Cond.initialized RX1) ∈ xTs := xTs_1 (i := 13) rfl rfl
set_option maxRecDepth 20000 in
theorem q14 : (Cond.initialized RX0) ∈ xTs := xTs_1 (i := 14) rfl rfl
set_option maxRecDepth 20000 in
theorem q15 : (Cond.initialized RJ9) ∈ xTs := xTs_1 (i := 15) rfl rfl
set_option maxRecDepth 20000 in
theorem q16 : (Cond.initialized RJ6) ∈ xTs := xTs_1 (i := 16) rfl rfl
set_option maxRecDepth 20000 in
theorem q17 : (Cond.classLink RL 9 RX6) ∈ xTs := xTs_1 (i := 17) rfl rfl
set_option maxRecDepth 20000 in
theorem q18 : (Cond.instantiable RX6 12) ∈ xTs := xTs_1 (i := 18) rfl rfl
set_option maxRecDepth 20000 in
theorem q19 : (Cond.methodLink RL 11 yX6_init) ∈ xTs := xTs_1 (i := 19) rfl rfl
set_option maxRecDepth 20000 in
theorem q20 : (Cond.instanceMethod yX6_init) ∈ xTs := xTs_1 (i := 20) rfl rfl
set_option maxRecDepth 20000 in
theorem q21 : (Cond.code yX6_init cX6_init 1 (Option.none : Option Jvm.ClassFile.FieldType)) ∈ xTs := xTs_1 (i := 21) rfl rfl
set_option maxRecDepth 20000 in
theorem q22 : (Cond.methodLink RX6 1 objectInit) ∈ xTs := xTs_1 (i := 22) rfl rfl
set_option maxRecDepth 20000 in
theorem q23 : (Cond.instanceMethod objectInit) ∈ xTs := xTs_1 (i := 23) rfl rfl
set_option maxRecDepth 20000 in
theorem q24 : (Cond.code objectInit ⟨#[0xb1]⟩ 1 none) ∈ xTs := xTs_1 (i := 24) rfl rfl
set_option maxRecDepth 20000 in
theorem q25 : (Cond.classLink RX6 9 RX2) ∈ xTs := xTs_1 (i := 25) rfl rfl
set_option maxRecDepth 20000 in
theorem q26 : (Cond.classLink RX6 15 RX1) ∈ xTs := xTs_1 (i := 27) rfl rfl
set_option maxRecDepth 20000 in
theorem q27 : (Cond.classLink RX6 21 RX0) ∈ xTs := xTs_1 (i := 29) rfl rfl
set_option maxRecDepth 20000 in
theorem q28 : (Cond.classLink RX6 27 RX4) ∈ xTs := xTs_1 (i := 31) rfl rfl
set_option maxRecDepth 20000 in
theorem q29 : (Cond.instantiable RX4 5) ∈ xTs := xTs_1 (i := 32) rfl rfl
set_option maxRecDepth 20000 in
theorem q30 : (Cond.instanceMethod yX4_init) ∈ xTs := xTs_1 (i := 34) rfl rfl
set_option maxRecDepth 20000 in
theorem q31 : (Cond.code yX4_init cX4_init 1 (Option.none : Option Jvm.ClassFile.FieldType)) ∈ xTs := xTs_1 (i := 35) rfl rfl
set_option maxRecDepth 20000 in
theorem q32 : (Cond.methodLink RX4 3 objectInit) ∈ xTs := xTs_1 (i := 36) rfl rfl
set_option maxRecDepth 20000 in
theorem q33 : (Cond.fieldLink RX4 9 "ServiceApiary$Route" "steps" "[I") ∈ xTs := xTs_1 (i := 37) rfl rfl
set_option maxRecDepth 20000 in
theorem q34 : (Cond.fieldLink RX6 188 "ServiceApiary$Route" "steps" "[I") ∈ xTs := xTs_1 (i := 38) rfl rfl
set_option maxRecDepth 20000 in
theorem q35 : (Cond.fieldLink RX6 185 "ServiceApiary$Route" "length" "I") ∈ xTs := xTs_1 (i := 39) rfl rfl
set_option maxRecDepth 20000 in
theorem q36 : (Cond.fieldLink RX6 311 "ServiceApiary$Route" "leadsTo" "I") ∈ xTs := xTs_1 (i := 40) rfl rfl
set_option maxRecDepth 20000 in
theorem q37 : (Cond.fieldLink RX6 314 "ServiceApiary$Route" "makes" "I") ∈ xTs := xTs_1 (i := 41) rfl rfl
set_option maxRecDepth 20000 in
theorem q38 : (Cond.fieldLink RX6 342 "ServiceApiary$Route" "shut" "LServiceApiary$Version;") ∈ xTs := xTs_1 (i := 42) rfl rfl
set_option maxRecDepth 20000 in
theorem q39 : (Cond.laysFinal "ServiceApiary$Route" "ServiceApiary$Route" "steps" "[I") ∈ xTs := xTs_1 (i := 43) rfl rfl
set_option maxRecDepth 20000 in
theorem q40 : (Cond.lays "ServiceApiary$Route" "ServiceApiary$Route" "length" "I") ∈ xTs := xTs_1 (i := 45) rfl rfl
set_option maxRecDepth 20000 in
theorem q41 : (Cond.lays "ServiceApiary$Route" "ServiceApiary$Route" "leadsTo" "I") ∈ xTs := xTs_1 (i := 47) rfl rfl
set_option maxRecDepth 20000 in
theorem q42 : (Cond.lays "ServiceApiary$Route" "ServiceApiary$Route" "makes" "I") ∈ xTs := xTs_1 (i := 49) rfl rfl
set_option maxRecDepth 20000 in
theorem q43 : (Cond.lays "ServiceApiary$Route" "ServiceApiary$Route" "shut" "LServiceApiary$Version;") ∈ xTs := xTs_1 (i := 51) rfl rfl
set_option maxRecDepth 20000 in
theorem q44 : (Cond.arrayClass FieldType.int) ∈ xTs := xTs_1 (i := 54) rfl rfl
set_option maxRecDepth 20000 in
theorem q45 : (Cond.classLink RX6 34 RX3) ∈ xTs := xTs_1 (i := 55) rfl rfl
set_option maxRecDepth 20000 in
theorem q46 : (Cond.instantiable RX3 4) ∈ xTs := xTs_1 (i := 56) rfl rfl
set_option maxRecDepth 20000 in
theorem q47 : (Cond.methodLink RX6 36 yX3_init) ∈ xTs := xTs_1 (i := 57) rfl rfl
set_option maxRecDepth 20000 in
theorem q48 : (Cond.instanceMethod yX3_init) ∈ xTs := xTs_1 (i := 58) rfl rfl
set_option maxRecDepth 20000 in
theorem q49 : (Cond.code yX3_init cX3_init 1 (Option.none : Option Jvm.ClassFile.FieldType)) ∈ xTs := xTs_1 (i := 59) rfl rfl
set_option maxRecDepth 20000 in
theorem q50 : (Cond.methodLink RX3 3 objectInit) ∈ xTs := xTs_1 (i := 60) rfl rfl
set_option maxRecDepth 20000 in
theorem q51 : (Cond.methodLink RX3 22 yJ7_fill_53178) ∈ xTs := xTs_1 (i := 61) rfl rfl
set_option maxRecDepth 20000 in
theorem q52 : (Cond.static yJ7_fill_53178) ∈ xTs := xTs_1 (i := 62) rfl rfl
set_option maxRecDepth 20000 in
theorem q53 : (Cond.code yJ7_fill_53178 cJ7_fill_53178 4 (Option.none : Option Jvm.ClassFile.FieldType)) ∈ xTs := xTs_1 (i := 63) rfl rfl
set_option maxRecDepth 20000 in
theorem q54 : (Cond.fieldLink RX3 9 "ServiceApiary$Retirement" "askedAt" "[I") ∈ xTs := xTs_1 (i := 64) rfl rfl
set_option maxRecDepth 20000 in
theorem q55 : (Cond.fieldLink RX3 15 "ServiceApiary$Retirement" "began" "I") ∈ xTs := xTs_1 (i := 65) rfl rfl
set_option maxRecDepth 20000 in
theorem q56 : (Cond.fieldLink RX6 287 "ServiceApiary$Retirement" "began" "I") ∈ xTs := xTs_1 (i := 66) rfl rfl
set_option maxRecDepth 20000 in
theorem q57 : (Cond.fieldLink RX3 19 "ServiceApiary$Retirement" "end" "I") ∈ xTs := xTs_1 (i := 67) rfl rfl
set_option maxRecDepth 20000 in
theorem q58 : (Cond.fieldLink RX6 236 "ServiceApiary$Retirement" "end" "I") ∈ xTs := xTs_1 (i := 68) rfl rfl
set_option maxRecDepth 20000 in
theorem q59 : (Cond.fieldLink RX3 31 "ServiceApiary$Retirement" "answered" "I") ∈ xTs := xTs_1 (i := 69) rfl rfl
set_option maxRecDepth 20000 in
theorem q60 : (Cond.fieldLink RX6 231 "ServiceApiary$Retirement" "answered" "I") ∈ xTs := xTs_1 (i := 70) rfl rfl
set_option maxRecDepth 20000 in
theorem q61 : (Cond.laysFinal "ServiceApiary$Retirement" "ServiceApiary$Retirement" "askedAt" "[I") ∈ xTs := xTs_1 (i := 71) rfl rfl
set_option maxRecDepth 20000 in
theorem q62 : (Cond.lays "ServiceApiary$Retirement" "ServiceApiary$Retirement" "began" "I") ∈ xTs := xTs_1 (i := 73) rfl rfl
set_option maxRecDepth 20000 in
theorem q63 : (Cond.lays "ServiceApiary$Retirement" "ServiceApiary$Retirement" "end" "I") ∈ xTs := xTs_1 (i := 75) rfl rfl
set_option maxRecDepth 20000 in
theorem q64 : (Cond.lays "ServiceApiary$Retirement" "ServiceApiary$Retirement" "answered" "I") ∈ xTs := xTs_1 (i := 77) rfl rfl
set_option maxRecDepth 20000 in
theorem q65 : (Cond.fieldLink RX6 11 "ServiceApiary" "faces" "[LServiceApiary$Face;") ∈ xTs := xTs_1 (i := 80) rfl rfl
set_option maxRecDepth 20000 in
theorem q66 : (Cond.fieldLink RX6 17 "ServiceApiary" "clients" "[LServiceApiary$Client;") ∈ xTs := xTs_1 (i := 81) rfl rfl
set_option maxRecDepth 20000 in
theorem q67 : (Cond.fieldLink RX6 23 "ServiceApiary" "adapters" "[LServiceApiary$Adapter;") ∈ xTs := xTs_1 (i := 82) rfl rfl
set_option maxRecDepth 20000 in
theorem q68 : (Cond.fieldLink RX6 41 "ServiceApiary" "faceCount" "I") ∈ xTs := xTs_1 (i := 83) rfl rfl
set_option maxRecDepth 20000 in
theorem q69 : (Cond.fieldLink RX6 126 "ServiceApiary" "clientCount" "I") ∈ xTs := xTs_1 (i := 84) rfl rfl
set_option maxRecDepth 20000 in
theorem q70 : (Cond.fieldLink RX6 165 "ServiceApiary" "adapterCount" "I") ∈ xTs := xTs_1 (i := 85) rfl rfl
set_option maxRecDepth 20000 in
theorem q71 : (Cond.fieldLink RX6 225 "ServiceApiary" "now" "I") ∈ xTs := xTs_1 (i := 86) rfl rfl
set_option maxRecDepth 20000 in
theorem q72 : (Cond.fieldLink RX6 249 "ServiceApiary" "callCount" "I") ∈ xTs := xTs_1 (i := 87) rfl rfl
set_option maxRecDepth 20000 in
theorem q73 : (Cond.fieldLink RX6 252 "ServiceApiary" "refusedCount" "I") ∈ xTs := xTs_1 (i := 88) rfl rfl
set_option maxRecDepth 20000 in
theorem q74 : (Cond.fieldLink RX6 320 "ServiceApiary" "byRouteCount" "I") ∈ xTs := xTs_1 (i := 89) rfl rfl
set_option maxRecDepth 20000 in
theorem q75 : (Cond.fieldLink RX6 30 "ServiceApiary" "route" "LServiceApiary$Route;") ∈ xTs := xTs_1 (i := 90) rfl rfl
set_option maxRecDepth 20000 in
theorem q76 : (Cond.fieldLink RX6 37 "ServiceApiary" "trial" "LServiceApiary$Retirement;") ∈ xTs := xTs_1 (i := 91) rfl rfl
set_option maxRecDepth 20000 in
theorem q77 : (Cond.laysFinal "ServiceApiary" "ServiceApiary" "faces" "[LServiceApiary$Face;") ∈ xTs := xTs_1 (i := 92) rfl rfl
set_option maxRecDepth 20000 in
theorem q78 : (Cond.laysFinal "ServiceApiary" "ServiceApiary" "clients" "[LServiceApiary$Client;") ∈ xTs := xTs_1 (i := 94) rfl rfl
set_option maxRecDepth 20000 in
theorem q79 : (Cond.laysFinal "ServiceApiary" "ServiceApiary" "adapters" "[LServiceApiary$Adapter;") ∈ xTs := xTs_1 (i := 96) rfl rfl
set_option maxRecDepth 20000 in
theorem q80 : (Cond.lays "ServiceApiary" "ServiceApiary" "faceCount" "I") ∈ xTs := xTs_1 (i := 98) rfl rfl
set_option maxRecDepth 20000 in
theorem q81 : (Cond.lays "ServiceApiary" "ServiceApiary" "clientCount" "I") ∈ xTs := xTs_1 (i := 100) rfl rfl
set_option maxRecDepth 20000 in
theorem q82 : (Cond.lays "ServiceApiary" "ServiceApiary" "adapterCount" "I") ∈ xTs := xTs_1 (i := 102) rfl rfl
set_option maxRecDepth 20000 in
theorem q83 : (Cond.lays "ServiceApiary" "ServiceApiary" "now" "I") ∈ xTs := xTs_1 (i := 104) rfl rfl
set_option maxRecDepth 20000 in
theorem q84 : (Cond.lays "ServiceApiary" "ServiceApiary" "callCount" "I") ∈ xTs := xTs_1 (i := 106) rfl rfl
set_option maxRecDepth 20000 in
theorem q85 : (Cond.lays "ServiceApiary" "ServiceApiary" "refusedCount" "I") ∈ xTs := xTs_1 (i := 108) rfl rfl
set_option maxRecDepth 20000 in
theorem q86 : (Cond.lays "ServiceApiary" "ServiceApiary" "byRouteCount" "I") ∈ xTs := xTs_1 (i := 110) rfl rfl
set_option maxRecDepth 20000 in
theorem q87 : (Cond.laysFinal "ServiceApiary" "ServiceApiary" "route" "LServiceApiary$Route;") ∈ xTs := xTs_1 (i := 112) rfl rfl
set_option maxRecDepth 20000 in
theorem q88 : (Cond.laysFinal "ServiceApiary" "ServiceApiary" "trial" "LServiceApiary$Retirement;") ∈ xTs := xTs_1 (i := 114) rfl rfl
set_option maxRecDepth 20000 in
theorem q89 : (Cond.methodLink RL 12 yX6_open) ∈ xTs := xTs_1 (i := 117) rfl rfl
set_option maxRecDepth 20000 in
theorem q90 : (Cond.instanceMethod yX6_open) ∈ xTs := xTs_1 (i := 118) rfl rfl
set_option maxRecDepth 20000 in
theorem q91 : (Cond.selects RX6 yX6_open yX6_open) ∈ xTs := xTs_1 (i := 119) rfl rfl
set_option maxRecDepth 20000 in
theorem q92 : (Cond.code yX6_open cX6_open 1 (Option.some Jvm.ClassFile.FieldType.int)) ∈ xTs := xTs_1 (i := 120) rfl rfl
set_option maxRecDepth 20000 in
theorem q93 : (Cond.classLink RX6 45 "java/lang/IllegalStateException") ∈ xTs := xTs_1 (i := 121) rfl rfl
set_option maxRecDepth 20000 in
theorem q94 : (Cond.instantiable "java/lang/IllegalStateException" 6) ∈ xTs := xTs_1 (i := 122) rfl rfl
set_option maxRecDepth 20000 in
theorem q95 : (Cond.instantiable "java/lang/Throwable" 6) ∈ xTs := xTs_1 (i := 160) rfl rfl
set_option maxRecDepth 20000 in
theorem q96 : (Cond.arrayClass FieldType.byte) ∈ xTs := xTs_1 (i := 188) rfl rfl
set_option maxRecDepth 20000 in
theorem q97 : (Cond.instantiable RX2 3) ∈ xTs := xTs_1 (i := 189) rfl rfl
set_option maxRecDepth 20000 in
theorem q98 : (Cond.methodLink RX6 52 yX2_init) ∈ xTs := xTs_1 (i := 190) rfl rfl
set_option maxRecDepth 20000 in
theorem q99 : (Cond.instanceMethod yX2_init) ∈ xTs := xTs_1 (i := 191) rfl rfl
set_option maxRecDepth 20000 in
theorem q100 : (Cond.code yX2_init cX2_init 2 (Option.none : Option Jvm.ClassFile.FieldType)) ∈ xTs := xTs_1 (i := 192) rfl rfl
set_option maxRecDepth 20000 in
theorem q101 : (Cond.methodLink RX2 3 objectInit) ∈ xTs := xTs_1 (i := 193) rfl rfl
set_option maxRecDepth 20000 in
theorem q102 : (Cond.classLink RX2 9 RX5) ∈ xTs := xTs_1 (i := 194) rfl rfl
set_option maxRecDepth 20000 in
theorem q103 : (Cond.fieldLink RX2 17 "ServiceApiary$Face" "number" "I") ∈ xTs := xTs_1 (i := 196) rfl rfl
set_option maxRecDepth 20000 in
theorem q104 : (Cond.fieldLink RX6 308 "ServiceApiary$Face" "number" "I") ∈ xTs := xTs_1 (i := 197) rfl rfl
set_option maxRecDepth 20000 in
theorem q105 : (Cond.fieldLink RX2 11 "ServiceApiary$Face" "versions" "[LServiceApiary$Version;") ∈ xTs := xTs_1 (i := 198) rfl rfl
set_option maxRecDepth 20000 in
theorem q106 : (Cond.fieldLink RX6 76 "ServiceApiary$Face" "versions" "[LServiceApiary$Version;") ∈ xTs := xTs_1 (i := 199) rfl rfl
set_option maxRecDepth 20000 in
theorem q107 : (Cond.fieldLink RX6 73 "ServiceApiary$Face" "count" "I") ∈ xTs := xTs_1 (i := 200) rfl rfl
set_option maxRecDepth 20000 in
theorem q108 : (Cond.laysFinal "ServiceApiary$Face" "ServiceApiary$Face" "number" "I") ∈ xTs := xTs_1 (i := 201) rfl rfl
set_option maxRecDepth 20000 in
theorem q109 : (Cond.laysFinal "ServiceApiary$Face" "ServiceApiary$Face" "versions" "[LServiceApiary$Version;") ∈ xTs := xTs_1 (i := 203) rfl rfl
set_option maxRecDepth 20000 in
theorem q110 : (Cond.lays "ServiceApiary$Face" "ServiceApiary$Face" "count" "I") ∈ xTs := xTs_1 (i := 205) rfl rfl
set_option maxRecDepth 20000 in
theorem q111 : (Cond.methodLink RL 26 yX6_publish) ∈ xTs := xTs_1 (i := 208) rfl rfl
set_option maxRecDepth 20000 in
theorem q112 : (Cond.instanceMethod yX6_publish) ∈ xTs := xTs_1 (i := 209) rfl rfl
set_option maxRecDepth 20000 in
theorem q113 : (Cond.selects RX6 yX6_publish yX6_publish) ∈ xTs := xTs_1 (i := 210) rfl rfl
set_option maxRecDepth 20000 in
theorem q114 : (Cond.code yX6_publish cX6_publish 8 (Option.some Jvm.ClassFile.FieldType.int)) ∈ xTs := xTs_1 (i := 211) rfl rfl
set_option maxRecDepth 20000 in
theorem q115 : (Cond.methodLink RX6 55 yX6_faceAt) ∈ xTs := xTs_1 (i := 212) rfl rfl
set_option maxRecDepth 20000 in
theorem q116 : (Cond.instanceMethod yX6_faceAt) ∈ xTs := xTs_1 (i := 214) rfl rfl
set_option maxRecDepth 20000 in
theorem q117 : (Cond.code yX6_faceAt cX6_faceAt 2 (Option.some (Jvm.ClassFile.FieldType.object "ServiceApiary$Face"))) ∈ xTs := xTs_1 (i := 215) rfl rfl
set_option maxRecDepth 20000 in
theorem q118 : (Cond.classLink RX6 59 "java/lang/IndexOutOfBoundsException") ∈ xTs := xTs_1 (i := 216) rfl rfl
set_option maxRecDepth 20000 in
theorem q119 : (Cond.instantiable "java/lang/IndexOutOfBoundsException" 6) ∈ xTs := xTs_1 (i := 217) rfl rfl
set_option maxRecDepth 20000 in
theorem q120 : (Cond.methodLink RX6 64 yX6_isShape) ∈ xTs := xTs_1 (i := 232) rfl rfl
set_option maxRecDepth 20000 in
theorem q121 : (Cond.static yX6_isShape) ∈ xTs := xTs_1 (i := 233) rfl rfl
set_option maxRecDepth 20000 in
theorem q122 : (Cond.code yX6_isShape cX6_isShape 2 (Option.some Jvm.ClassFile.FieldType.boolean)) ∈ xTs := xTs_1 (i := 234) rfl rfl
set_option maxRecDepth 20000 in
theorem q123 : (Cond.methodLink RX6 111 yX6_isFieldSet) ∈ xTs := xTs_1 (i := 235) rfl rfl
set_option maxRecDepth 20000 in
theorem q124 : (Cond.static yX6_isFieldSet) ∈ xTs := xTs_1 (i := 236) rfl rfl
set_option maxRecDepth 20000 in
theorem q125 : (Cond.code yX6_isFieldSet cX6_isFieldSet 1 (Option.some Jvm.ClassFile.FieldType.boolean)) ∈ xTs := xTs_1 (i := 237) rfl rfl
set_option maxRecDepth 20000 in
theorem q126 : (Cond.classLink RX6 68 "java/lang/IllegalArgumentException") ∈ xTs := xTs_1 (i := 238) rfl rfl
set_option maxRecDepth 20000 in
theorem q127 : (Cond.instantiable "java/lang/IllegalArgumentException" 6) ∈ xTs := xTs_1 (i := 239) rfl rfl
set_option maxRecDepth 20000 in
theorem q128 : (Cond.classLink RX6 82 RX5) ∈ xTs := xTs_2 (i := 15) rfl rfl
set_option maxRecDepth 20000 in
theorem q129 : (Cond.instantiable RX5 9) ∈ xTs := xTs_2 (i := 16) rfl rfl
set_option maxRecDepth 20000 in
theorem q130 : (Cond.methodLink RX6 84 yX5_init) ∈ xTs := xTs_2 (i := 17) rfl rfl
set_option maxRecDepth 20000 in
theorem q131 : (Cond.instanceMethod yX5_init) ∈ xTs := xTs_2 (i := 18) rfl rfl
set_option maxRecDepth 20000 in
theorem q132 : (Cond.code yX5_init cX5_init 5 (Option.none : Option Jvm.ClassFile.FieldType)) ∈ xTs := xTs_2 (i := 19) rfl rfl
set_option maxRecDepth 20000 in
theorem q133 : (Cond.methodLink RX5 3 objectInit) ∈ xTs := xTs_2 (i := 20) rfl rfl
set_option maxRecDepth 20000 in
theorem q134 : (Cond.classLink RX5 9 RX3) ∈ xTs := xTs_2 (i := 21) rfl rfl
set_option maxRecDepth 20000 in
theorem q135 : (Cond.methodLink RX5 11 yX3_init) ∈ xTs := xTs_2 (i := 22) rfl rfl
set_option maxRecDepth 20000 in
theorem q136 : (Cond.fieldLink RX5 22 "ServiceApiary$Version" "face" "LServiceApiary$Face;") ∈ xTs := xTs_2 (i := 23) rfl rfl
set_option maxRecDepth 20000 in
theorem q137 : (Cond.fieldLink RX1 22 "ServiceApiary$Version" "face" "LServiceApiary$Face;") ∈ xTs := xTs_2 (i := 24) rfl rfl
set_option maxRecDepth 20000 in
theorem q138 : (Cond.fieldLink RX6 286 "ServiceApiary$Version" "face" "LServiceApiary$Face;") ∈ xTs := xTs_2 (i := 25) rfl rfl
set_option maxRecDepth 20000 in
theorem q139 : (Cond.fieldLink RX5 26 "ServiceApiary$Version" "number" "I") ∈ xTs := xTs_2 (i := 26) rfl rfl
set_option maxRecDepth 20000 in
theorem q140 : (Cond.fieldLink RX1 42 "ServiceApiary$Version" "number" "I") ∈ xTs := xTs_2 (i := 27) rfl rfl
set_option maxRecDepth 20000 in
theorem q141 : (Cond.fieldLink RX6 283 "ServiceApiary$Version" "number" "I") ∈ xTs := xTs_2 (i := 28) rfl rfl
set_option maxRecDepth 20000 in
theorem q142 : (Cond.fieldLink RX5 29 "ServiceApiary$Version" "has" "I") ∈ xTs := xTs_2 (i := 29) rfl rfl
set_option maxRecDepth 20000 in
theorem q143 : (Cond.fieldLink RX6 114 "ServiceApiary$Version" "has" "I") ∈ xTs := xTs_2 (i := 30) rfl rfl
set_option maxRecDepth 20000 in
theorem q144 : (Cond.fieldLink RX5 32 "ServiceApiary$Version" "needs" "I") ∈ xTs := xTs_2 (i := 31) rfl rfl
set_option maxRecDepth 20000 in
theorem q145 : (Cond.fieldLink RX6 117 "ServiceApiary$Version" "needs" "I") ∈ xTs := xTs_2 (i := 32) rfl rfl
set_option maxRecDepth 20000 in
theorem q146 : (Cond.fieldLink RX5 12 "ServiceApiary$Version" "retirement" "LServiceApiary$Retirement;") ∈ xTs := xTs_2 (i := 33) rfl rfl
set_option maxRecDepth 20000 in
theorem q147 : (Cond.fieldLink RX6 211 "ServiceApiary$Version" "retirement" "LServiceApiary$Retirement;") ∈ xTs := xTs_2 (i := 34) rfl rfl
set_option maxRecDepth 20000 in
theorem q148 : (Cond.fieldLink RX5 18 "ServiceApiary$Version" "state" "I") ∈ xTs := xTs_2 (i := 35) rfl rfl
set_option maxRecDepth 20000 in
theorem q149 : (Cond.fieldLink RX6 129 "ServiceApiary$Version" "state" "I") ∈ xTs := xTs_2 (i := 36) rfl rfl
set_option maxRecDepth 20000 in
theorem q150 : (Cond.fieldLink RX6 297 "ServiceApiary$Version" "putOffCount" "I") ∈ xTs := xTs_2 (i := 37) rfl rfl
set_option maxRecDepth 20000 in
theorem q151 : (Cond.fieldLink RX6 300 "ServiceApiary$Version" "callCount" "I") ∈ xTs := xTs_2 (i := 38) rfl rfl
set_option maxRecDepth 20000 in
theorem q152 : (Cond.fieldLink RX6 301 "ServiceApiary$Version" "refusedCount" "I") ∈ xTs := xTs_2 (i := 39) rfl rfl
set_option maxRecDepth 20000 in
theorem q153 : (Cond.laysFinal "ServiceApiary$Version" "ServiceApiary$Version" "face" "LServiceApiary$Face;") ∈ xTs := xTs_2 (i := 40) rfl rfl
set_option maxRecDepth 20000 in
theorem q154 : (Cond.laysFinal "ServiceApiary$Version" "ServiceApiary$Version" "number" "I") ∈ xTs := xTs_2 (i := 42) rfl rfl
set_option maxRecDepth 20000 in
theorem q155 : (Cond.laysFinal "ServiceApiary$Version" "ServiceApiary$Version" "has" "I") ∈ xTs := xTs_2 (i := 44) rfl rfl
set_option maxRecDepth 20000 in
theorem q156 : (Cond.laysFinal "ServiceApiary$Version" "ServiceApiary$Version" "needs" "I") ∈ xTs := xTs_2 (i := 46) rfl rfl
set_option maxRecDepth 20000 in
theorem q157 : (Cond.laysFinal "ServiceApiary$Version" "ServiceApiary$Version" "retirement" "LServiceApiary$Retirement;") ∈ xTs := xTs_2 (i := 48) rfl rfl
set_option maxRecDepth 20000 in
theorem q158 : (Cond.lays "ServiceApiary$Version" "ServiceApiary$Version" "state" "I") ∈ xTs := xTs_2 (i := 50) rfl rfl
set_option maxRecDepth 20000 in
theorem q159 : (Cond.lays "ServiceApiary$Version" "ServiceApiary$Version" "putOffCount" "I") ∈ xTs := xTs_2 (i := 52) rfl rfl
set_option maxRecDepth 20000 in
theorem q160 : (Cond.lays "ServiceApiary$Version" "ServiceApiary$Version" "callCount" "I") ∈ xTs := xTs_2 (i := 54) rfl rfl
set_option maxRecDepth 20000 in
theorem q161 : (Cond.lays "ServiceApiary$Version" "ServiceApiary$Version" "refusedCount" "I") ∈ xTs := xTs_2 (i := 56) rfl rfl
set_option maxRecDepth 20000 in
theorem q162 : (Cond.methodLink RX6 87 yX6_countSuited) ∈ xTs := xTs_2 (i := 59) rfl rfl
set_option maxRecDepth 20000 in
theorem q163 : (Cond.static yX6_countSuited) ∈ xTs := xTs_2 (i := 60) rfl rfl
set_option maxRecDepth 20000 in
theorem q164 : (Cond.code yX6_countSuited cX6_countSuited 4 (Option.some Jvm.ClassFile.FieldType.int)) ∈ xTs := xTs_2 (i := 61) rfl rfl
set_option maxRecDepth 20000 in
theorem q165 : (Cond.methodLink RX6 145 yX2_versionAt) ∈ xTs := xTs_2 (i := 62) rfl rfl
set_option maxRecDepth 20000 in
theorem q166 : (Cond.instanceMethod yX2_versionAt) ∈ xTs := xTs_2 (i := 63) rfl rfl
set_option maxRecDepth 20000 in
theorem q167 : (Cond.selects RX2 yX2_versionAt yX2_versionAt) ∈ xTs := xTs_2 (i := 64) rfl rfl
set_option maxRecDepth 20000 in
theorem q168 : (Cond.code yX2_versionAt cX2_versionAt 2 (Option.some (Jvm.ClassFile.FieldType.object "ServiceApiary$Version"))) ∈ xTs := xTs_2 (i := 65) rfl rfl
set_option maxRecDepth 20000 in
theorem q169 : (Cond.methodLink RX6 103 yX5_suits) ∈ xTs := xTs_2 (i := 66) rfl rfl
set_option maxRecDepth 20000 in
theorem q170 : (Cond.instanceMethod yX5_suits) ∈ xTs := xTs_2 (i := 67) rfl rfl
set_option maxRecDepth 20000 in
theorem q171 : (Cond.selects RX5 yX5_suits yX5_suits) ∈ xTs := xTs_2 (i := 68) rfl rfl
set_option maxRecDepth 20000 in
theorem q172 : (Cond.code yX5_suits cX5_suits 2 (Option.some Jvm.ClassFile.FieldType.boolean)) ∈ xTs := xTs_2 (i := 69) rfl rfl
set_option maxRecDepth 20000 in
theorem q173 : (Cond.methodLink RL 54 yX6_ofVersion) ∈ xTs := xTs_2 (i := 70) rfl rfl
set_option maxRecDepth 20000 in
theorem q174 : (Cond.instanceMethod yX6_ofVersion) ∈ xTs := xTs_2 (i := 71) rfl rfl
set_option maxRecDepth 20000 in
theorem q175 : (Cond.selects RX6 yX6_ofVersion yX6_ofVersion) ∈ xTs := xTs_2 (i := 72) rfl rfl
set_option maxRecDepth 20000 in
theorem q176 : (Cond.code yX6_ofVersion cX6_ofVersion 5 (Option.some Jvm.ClassFile.FieldType.int)) ∈ xTs := xTs_2 (i := 73) rfl rfl
set_option maxRecDepth 20000 in
theorem q177 : (Cond.methodLink RX6 91 yX6_versionAt) ∈ xTs := xTs_2 (i := 74) rfl rfl
set_option maxRecDepth 20000 in
theorem q178 : (Cond.instanceMethod yX6_versionAt) ∈ xTs := xTs_2 (i := 76) rfl rfl
set_option maxRecDepth 20000 in
theorem q179 : (Cond.code yX6_versionAt cX6_versionAt 4 (Option.some (Jvm.ClassFile.FieldType.object "ServiceApiary$Version"))) ∈ xTs := xTs_2 (i := 77) rfl rfl
set_option maxRecDepth 20000 in
theorem q180 : (Cond.methodLink RX6 99 yX6_versionFact) ∈ xTs := xTs_2 (i := 80) rfl rfl
set_option maxRecDepth 20000 in
theorem q181 : (Cond.instanceMethod yX6_versionFact) ∈ xTs := xTs_2 (i := 82) rfl rfl
set_option maxRecDepth 20000 in
theorem q182 : (Cond.code yX6_versionFact cX6_versionFact 3 (Option.some Jvm.ClassFile.FieldType.int)) ∈ xTs := xTs_2 (i := 83) rfl rfl
set_option maxRecDepth 20000 in
theorem q183 : (Cond.methodLink RX6 290 yX6_countCallers) ∈ xTs := xTs_2 (i := 84) rfl rfl
set_option maxRecDepth 20000 in
theorem q184 : (Cond.instanceMethod yX6_countCallers) ∈ xTs := xTs_2 (i := 86) rfl rfl
set_option maxRecDepth 20000 in
theorem q185 : (Cond.code yX6_countCallers cX6_countCallers 5 (Option.some Jvm.ClassFile.FieldType.int)) ∈ xTs := xTs_2 (i := 87) rfl rfl
set_option maxRecDepth 20000 in
theorem q186 : (Cond.methodLink RX6 323 yX1_isCallerOf) ∈ xTs := xTs_2 (i := 88) rfl rfl
set_option maxRecDepth 20000 in
theorem q187 : (Cond.instanceMethod yX1_isCallerOf) ∈ xTs := xTs_2 (i := 89) rfl rfl
set_option maxRecDepth 20000 in
theorem q188 : (Cond.selects RX1 yX1_isCallerOf yX1_isCallerOf) ∈ xTs := xTs_2 (i := 90) rfl rfl
set_option maxRecDepth 20000 in
theorem q189 : (Cond.code yX1_isCallerOf cX1_isCallerOf 4 (Option.some Jvm.ClassFile.FieldType.boolean)) ∈ xTs := xTs_2 (i := 91) rfl rfl
set_option maxRecDepth 20000 in
theorem q190 : (Cond.methodLink RX1 45 yX1_calledAtOf) ∈ xTs := xTs_2 (i := 92) rfl rfl
set_option maxRecDepth 20000 in
theorem q191 : (Cond.instanceMethod yX1_calledAtOf) ∈ xTs := xTs_2 (i := 93) rfl rfl
set_option maxRecDepth 20000 in
theorem q192 : (Cond.selects RX1 yX1_calledAtOf yX1_calledAtOf) ∈ xTs := xTs_2 (i := 94) rfl rfl
set_option maxRecDepth 20000 in
theorem q193 : (Cond.code yX1_calledAtOf cX1_calledAtOf 3 (Option.some Jvm.ClassFile.FieldType.int)) ∈ xTs := xTs_2 (i := 95) rfl rfl
set_option maxRecDepth 20000 in
theorem q194 : (Cond.methodLink RX6 293 yX6_countHinderers) ∈ xTs := xTs_2 (i := 96) rfl rfl
set_option maxRecDepth 20000 in
theorem q195 : (Cond.instanceMethod yX6_countHinderers) ∈ xTs := xTs_2 (i := 98) rfl rfl
set_option maxRecDepth 20000 in
theorem q196 : (Cond.code yX6_countHinderers cX6_countHinderers 8 (Option.some Jvm.ClassFile.FieldType.int)) ∈ xTs := xTs_2 (i := 99) rfl rfl
set_option maxRecDepth 20000 in
theorem q197 : (Cond.methodLink RX6 228 yX3_isWarned) ∈ xTs := xTs_2 (i := 100) rfl rfl
set_option maxRecDepth 20000 in
theorem q198 : (Cond.instanceMethod yX3_isWarned) ∈ xTs := xTs_2 (i := 101) rfl rfl
set_option maxRecDepth 20000 in
theorem q199 : (Cond.selects RX3 yX3_isWarned yX3_isWarned) ∈ xTs := xTs_2 (i := 102) rfl rfl
set_option maxRecDepth 20000 in
theorem q200 : (Cond.code yX3_isWarned cX3_isWarned 4 (Option.some Jvm.ClassFile.FieldType.boolean)) ∈ xTs := xTs_2 (i := 103) rfl rfl
set_option maxRecDepth 20000 in
theorem q201 : (Cond.methodLink RX3 34 yX3_askedAtOf) ∈ xTs := xTs_2 (i := 104) rfl rfl
set_option maxRecDepth 20000 in
theorem q202 : (Cond.instanceMethod yX3_askedAtOf) ∈ xTs := xTs_2 (i := 105) rfl rfl
set_option maxRecDepth 20000 in
theorem q203 : (Cond.selects RX3 yX3_askedAtOf yX3_askedAtOf) ∈ xTs := xTs_2 (i := 106) rfl rfl
set_option maxRecDepth 20000 in
theorem q204 : (Cond.code yX3_askedAtOf cX3_askedAtOf 2 (Option.some Jvm.ClassFile.FieldType.int)) ∈ xTs := xTs_2 (i := 107) rfl rfl
set_option maxRecDepth 20000 in
theorem q205 : (Cond.methodLink RX3 38 yX3_hasAnswered) ∈ xTs := xTs_2 (i := 108) rfl rfl
set_option maxRecDepth 20000 in
theorem q206 : (Cond.instanceMethod yX3_hasAnswered) ∈ xTs := xTs_2 (i := 109) rfl rfl
set_option maxRecDepth 20000 in
theorem q207 : (Cond.selects RX3 yX3_hasAnswered yX3_hasAnswered) ∈ xTs := xTs_2 (i := 110) rfl rfl
set_option maxRecDepth 20000 in
theorem q208 : (Cond.code yX3_hasAnswered cX3_hasAnswered 2 (Option.some Jvm.ClassFile.FieldType.boolean)) ∈ xTs := xTs_2 (i := 111) rfl rfl
set_option maxRecDepth 20000 in
theorem q209 : (Cond.methodLink RX6 394 yX6_isCallerThen) ∈ xTs := xTs_2 (i := 112) rfl rfl
set_option maxRecDepth 20000 in
theorem q210 : (Cond.instanceMethod yX6_isCallerThen) ∈ xTs := xTs_2 (i := 114) rfl rfl
set_option maxRecDepth 20000 in
theorem q211 : (Cond.code yX6_isCallerThen cX6_isCallerThen 5 (Option.some Jvm.ClassFile.FieldType.boolean)) ∈ xTs := xTs_2 (i := 115) rfl rfl
set_option maxRecDepth 20000 in
theorem q212 : (Cond.methodLink RX6 338 yX6_findRoute) ∈ xTs := xTs_2 (i := 116) rfl rfl
set_option maxRecDepth 20000 in
theorem q213 : (Cond.instanceMethod yX6_findRoute) ∈ xTs := xTs_2 (i := 118) rfl rfl
set_option maxRecDepth 20000 in
theorem q214 : (Cond.code yX6_findRoute cX6_findRoute 5 (Option.some Jvm.ClassFile.FieldType.boolean)) ∈ xTs := xTs_2 (i := 119) rfl rfl
set_option maxRecDepth 20000 in
theorem q215 : (Cond.methodLink RX6 345 yX6_completes) ∈ xTs := xTs_2 (i := 120) rfl rfl
set_option maxRecDepth 20000 in
theorem q216 : (Cond.static yX6_completes) ∈ xTs := xTs_2 (i := 121) rfl rfl
set_option maxRecDepth 20000 in
theorem q217 : (Cond.code yX6_completes cX6_completes 7 (Option.some Jvm.ClassFile.FieldType.boolean)) ∈ xTs := xTs_2 (i := 122) rfl rfl
set_option maxRecDepth 20000 in
theorem q218 : (Cond.methodLink RX6 120 yX6_fits) ∈ xTs := xTs_2 (i := 123) rfl rfl
set_option maxRecDepth 20000 in
theorem q219 : (Cond.static yX6_fits) ∈ xTs := xTs_2 (i := 124) rfl rfl
set_option maxRecDepth 20000 in
theorem q220 : (Cond.code yX6_fits cX6_fits 3 (Option.some Jvm.ClassFile.FieldType.boolean)) ∈ xTs := xTs_2 (i := 125) rfl rfl
set_option maxRecDepth 20000 in
theorem q221 : (Cond.methodLink RX6 355 yX0_makesOf) ∈ xTs := xTs_2 (i := 126) rfl rfl
set_option maxRecDepth 20000 in
theorem q222 : (Cond.instanceMethod yX0_makesOf) ∈ xTs := xTs_2 (i := 127) rfl rfl
set_option maxRecDepth 20000 in
theorem q223 : (Cond.selects RX0 yX0_makesOf yX0_makesOf) ∈ xTs := xTs_2 (i := 128) rfl rfl
set_option maxRecDepth 20000 in
theorem q224 : (Cond.code yX0_makesOf cX0_makesOf 2 (Option.some Jvm.ClassFile.FieldType.int)) ∈ xTs := xTs_2 (i := 129) rfl rfl
set_option maxRecDepth 20000 in
theorem q225 : (Cond.methodLink RX6 302 yX6_countGeneratedFor) ∈ xTs := xTs_2 (i := 130) rfl rfl
set_option maxRecDepth 20000 in
theorem q226 : (Cond.instanceMethod yX6_countGeneratedFor) ∈ xTs := xTs_2 (i := 132) rfl rfl
set_option maxRecDepth 20000 in
theorem q227 : (Cond.code yX6_countGeneratedFor cX6_countGeneratedFor 5 (Option.some Jvm.ClassFile.FieldType.int)) ∈ xTs := xTs_2 (i := 133) rfl rfl
set_option maxRecDepth 20000 in
theorem q228 : (Cond.methodLink RL 81 yX6_isCompatible) ∈ xTs := xTs_2 (i := 134) rfl rfl
set_option maxRecDepth 20000 in
theorem q229 : (Cond.instanceMethod yX6_isCompatible) ∈ xTs := xTs_2 (i := 135) rfl rfl
set_option maxRecDepth 20000 in
theorem q230 : (Cond.selects RX6 yX6_isCompatible yX6_isCompatible) ∈ xTs := xTs_2 (i := 136) rfl rfl
set_option maxRecDepth 20000 in
theorem q231 : (Cond.code yX6_isCompatible cX6_isCompatible 6 (Option.some Jvm.ClassFile.FieldType.boolean)) ∈ xTs := xTs_2 (i := 137) rfl rfl
set_option maxRecDepth 20000 in
theorem q232 : (Cond.methodLink RL 30 yX6_client) ∈ xTs := xTs_2 (i := 138) rfl rfl
set_option maxRecDepth 20000 in
theorem q233 : (Cond.instanceMethod yX6_client) ∈ xTs := xTs_2 (i := 139) rfl rfl
set_option maxRecDepth 20000 in
theorem q234 : (Cond.selects RX6 yX6_client yX6_client) ∈ xTs := xTs_2 (i := 140) rfl rfl
set_option maxRecDepth 20000 in
theorem q235 : (Cond.code yX6_client cX6_client 6 (Option.some Jvm.ClassFile.FieldType.int)) ∈ xTs := xTs_2 (i := 141) rfl rfl
set_option maxRecDepth 20000 in
theorem q236 : (Cond.methodLink RX6 107 yX6_isOwner) ∈ xTs := xTs_2 (i := 142) rfl rfl
set_option maxRecDepth 20000 in
theorem q237 : (Cond.static yX6_isOwner) ∈ xTs := xTs_2 (i := 143) rfl rfl
set_option maxRecDepth 20000 in
theorem q238 : (Cond.code yX6_isOwner cX6_isOwner 1 (Option.some Jvm.ClassFile.FieldType.boolean)) ∈ xTs := xTs_2 (i := 144) rfl rfl
set_option maxRecDepth 20000 in
theorem q239 : (Cond.instantiable RX1 8) ∈ xTs := xTs_2 (i := 147) rfl rfl
set_option maxRecDepth 20000 in
theorem q240 : (Cond.methodLink RX6 134 yX1_init) ∈ xTs := xTs_2 (i := 148) rfl rfl
set_option maxRecDepth 20000 in
theorem q241 : (Cond.instanceMethod yX1_init) ∈ xTs := xTs_2 (i := 149) rfl rfl
set_option maxRecDepth 20000 in
theorem q242 : (Cond.code yX1_init cX1_init 4 (Option.none : Option Jvm.ClassFile.FieldType)) ∈ xTs := xTs_2 (i := 150) rfl rfl
set_option maxRecDepth 20000 in
theorem q243 : (Cond.methodLink RX1 3 objectInit) ∈ xTs := xTs_2 (i := 151) rfl rfl
set_option maxRecDepth 20000 in
theorem q244 : (Cond.methodLink RX1 36 yJ7_fill_53178) ∈ xTs := xTs_2 (i := 152) rfl rfl
set_option maxRecDepth 20000 in
theorem q245 : (Cond.fieldLink RX1 18 "ServiceApiary$Client" "owner" "I") ∈ xTs := xTs_2 (i := 153) rfl rfl
set_option maxRecDepth 20000 in
theorem q246 : (Cond.fieldLink RX6 305 "ServiceApiary$Client" "owner" "I") ∈ xTs := xTs_2 (i := 154) rfl rfl
set_option maxRecDepth 20000 in
theorem q247 : (Cond.fieldLink RX1 28 "ServiceApiary$Client" "face" "LServiceApiary$Face;") ∈ xTs := xTs_2 (i := 155) rfl rfl
set_option maxRecDepth 20000 in
theorem q248 : (Cond.fieldLink RX6 141 "ServiceApiary$Client" "face" "LServiceApiary$Face;") ∈ xTs := xTs_2 (i := 156) rfl rfl
set_option maxRecDepth 20000 in
theorem q249 : (Cond.fieldLink RX1 9 "ServiceApiary$Client" "calledAt" "[I") ∈ xTs := xTs_2 (i := 157) rfl rfl
set_option maxRecDepth 20000 in
theorem q250 : (Cond.fieldLink RX1 15 "ServiceApiary$Client" "servedThisHour" "[I") ∈ xTs := xTs_2 (i := 158) rfl rfl
set_option maxRecDepth 20000 in
theorem q251 : (Cond.fieldLink RX6 378 "ServiceApiary$Client" "servedThisHour" "[I") ∈ xTs := xTs_2 (i := 159) rfl rfl
set_option maxRecDepth 20000 in
theorem q252 : (Cond.fieldLink RX1 29 "ServiceApiary$Client" "version" "LServiceApiary$Version;") ∈ xTs := xTs_2 (i := 160) rfl rfl
set_option maxRecDepth 20000 in
theorem q253 : (Cond.fieldLink RX6 159 "ServiceApiary$Client" "version" "LServiceApiary$Version;") ∈ xTs := xTs_2 (i := 161) rfl rfl
set_option maxRecDepth 20000 in
theorem q254 : (Cond.fieldLink RX1 33 "ServiceApiary$Client" "uses" "I") ∈ xTs := xTs_2 (i := 162) rfl rfl
set_option maxRecDepth 20000 in
theorem q255 : (Cond.fieldLink RX6 152 "ServiceApiary$Client" "uses" "I") ∈ xTs := xTs_2 (i := 163) rfl rfl
set_option maxRecDepth 20000 in
theorem q256 : (Cond.fieldLink RX1 49 "ServiceApiary$Client" "callCount" "I") ∈ xTs := xTs_2 (i := 164) rfl rfl
set_option maxRecDepth 20000 in
theorem q257 : (Cond.fieldLink RX6 309 "ServiceApiary$Client" "callCount" "I") ∈ xTs := xTs_2 (i := 165) rfl rfl
set_option maxRecDepth 20000 in
theorem q258 : (Cond.fieldLink RX1 52 "ServiceApiary$Client" "refusedCount" "I") ∈ xTs := xTs_2 (i := 166) rfl rfl
set_option maxRecDepth 20000 in
theorem q259 : (Cond.fieldLink RX6 310 "ServiceApiary$Client" "refusedCount" "I") ∈ xTs := xTs_2 (i := 167) rfl rfl
set_option maxRecDepth 20000 in
theorem q260 : (Cond.laysFinal "ServiceApiary$Client" "ServiceApiary$Client" "owner" "I") ∈ xTs := xTs_2 (i := 168) rfl rfl
set_option maxRecDepth 20000 in
theorem q261 : (Cond.laysFinal "ServiceApiary$Client" "ServiceApiary$Client" "face" "LServiceApiary$Face;") ∈ xTs := xTs_2 (i := 170) rfl rfl
set_option maxRecDepth 20000 in
theorem q262 : (Cond.laysFinal "ServiceApiary$Client" "ServiceApiary$Client" "calledAt" "[I") ∈ xTs := xTs_2 (i := 172) rfl rfl
set_option maxRecDepth 20000 in
theorem q263 : (Cond.laysFinal "ServiceApiary$Client" "ServiceApiary$Client" "servedThisHour" "[I") ∈ xTs := xTs_2 (i := 174) rfl rfl
set_option maxRecDepth 20000 in
theorem q264 : (Cond.lays "ServiceApiary$Client" "ServiceApiary$Client" "version" "LServiceApiary$Version;") ∈ xTs := xTs_2 (i := 176) rfl rfl
set_option maxRecDepth 20000 in
theorem q265 : (Cond.lays "ServiceApiary$Client" "ServiceApiary$Client" "uses" "I") ∈ xTs := xTs_2 (i := 178) rfl rfl
set_option maxRecDepth 20000 in
theorem q266 : (Cond.lays "ServiceApiary$Client" "ServiceApiary$Client" "callCount" "I") ∈ xTs := xTs_2 (i := 180) rfl rfl
set_option maxRecDepth 20000 in
theorem q267 : (Cond.lays "ServiceApiary$Client" "ServiceApiary$Client" "refusedCount" "I") ∈ xTs := xTs_2 (i := 182) rfl rfl
set_option maxRecDepth 20000 in
theorem q268 : (Cond.methodLink RL 70 yX6_again) ∈ xTs := xTs_2 (i := 185) rfl rfl
set_option maxRecDepth 20000 in
theorem q269 : (Cond.instanceMethod yX6_again) ∈ xTs := xTs_2 (i := 186) rfl rfl
set_option maxRecDepth 20000 in
theorem q270 : (Cond.selects RX6 yX6_again yX6_again) ∈ xTs := xTs_2 (i := 187) rfl rfl
set_option maxRecDepth 20000 in
theorem q271 : (Cond.code yX6_again cX6_again 5 (Option.some Jvm.ClassFile.FieldType.int)) ∈ xTs := xTs_2 (i := 188) rfl rfl
set_option maxRecDepth 20000 in
theorem q272 : (Cond.methodLink RX6 137 yX6_clientAt) ∈ xTs := xTs_2 (i := 189) rfl rfl
set_option maxRecDepth 20000 in
theorem q273 : (Cond.instanceMethod yX6_clientAt) ∈ xTs := xTs_2 (i := 191) rfl rfl
set_option maxRecDepth 20000 in
theorem q274 : (Cond.code yX6_clientAt cX6_clientAt 2 (Option.some (Jvm.ClassFile.FieldType.object "ServiceApiary$Client"))) ∈ xTs := xTs_2 (i := 192) rfl rfl
set_option maxRecDepth 20000 in
theorem q275 : (Cond.methodLink RX6 155 yX5_usesAgain) ∈ xTs := xTs_2 (i := 195) rfl rfl
set_option maxRecDepth 20000 in
theorem q276 : (Cond.instanceMethod yX5_usesAgain) ∈ xTs := xTs_2 (i := 196) rfl rfl
set_option maxRecDepth 20000 in
theorem q277 : (Cond.selects RX5 yX5_usesAgain yX5_usesAgain) ∈ xTs := xTs_2 (i := 197) rfl rfl
set_option maxRecDepth 20000 in
theorem q278 : (Cond.code yX5_usesAgain cX5_usesAgain 2 (Option.some Jvm.ClassFile.FieldType.int)) ∈ xTs := xTs_2 (i := 198) rfl rfl
set_option maxRecDepth 20000 in
theorem q279 : (Cond.methodLink RL 34 yX6_adapter) ∈ xTs := xTs_2 (i := 199) rfl rfl
set_option maxRecDepth 20000 in
theorem q280 : (Cond.instanceMethod yX6_adapter) ∈ xTs := xTs_2 (i := 200) rfl rfl
set_option maxRecDepth 20000 in
theorem q281 : (Cond.selects RX6 yX6_adapter yX6_adapter) ∈ xTs := xTs_2 (i := 201) rfl rfl
set_option maxRecDepth 20000 in
theorem q282 : (Cond.code yX6_adapter cX6_adapter 8 (Option.some Jvm.ClassFile.FieldType.int)) ∈ xTs := xTs_2 (i := 202) rfl rfl
set_option maxRecDepth 20000 in
theorem q283 : (Cond.instantiable RX0 4) ∈ xTs := xTs_2 (i := 205) rfl rfl
set_option maxRecDepth 20000 in
theorem q284 : (Cond.methodLink RX6 170 yX0_init) ∈ xTs := xTs_2 (i := 206) rfl rfl
set_option maxRecDepth 20000 in
theorem q285 : (Cond.instanceMethod yX0_init) ∈ xTs := xTs_2 (i := 207) rfl rfl
set_option maxRecDepth 20000 in
theorem q286 : (Cond.code yX0_init cX0_init 5 (Option.none : Option Jvm.ClassFile.FieldType)) ∈ xTs := xTs_2 (i := 208) rfl rfl
set_option maxRecDepth 20000 in
theorem q287 : (Cond.methodLink RX0 1 objectInit) ∈ xTs := xTs_2 (i := 209) rfl rfl
set_option maxRecDepth 20000 in
theorem q288 : (Cond.fieldLink RX0 7 "ServiceApiary$Adapter" "from" "LServiceApiary$Version;") ∈ xTs := xTs_2 (i := 210) rfl rfl
set_option maxRecDepth 20000 in
theorem q289 : (Cond.fieldLink RX6 349 "ServiceApiary$Adapter" "from" "LServiceApiary$Version;") ∈ xTs := xTs_2 (i := 211) rfl rfl
set_option maxRecDepth 20000 in
theorem q290 : (Cond.fieldLink RX0 13 "ServiceApiary$Adapter" "to" "LServiceApiary$Version;") ∈ xTs := xTs_2 (i := 212) rfl rfl
set_option maxRecDepth 20000 in
theorem q291 : (Cond.fieldLink RX6 352 "ServiceApiary$Adapter" "to" "LServiceApiary$Version;") ∈ xTs := xTs_2 (i := 213) rfl rfl
set_option maxRecDepth 20000 in
theorem q292 : (Cond.fieldLink RX0 16 "ServiceApiary$Adapter" "adds" "I") ∈ xTs := xTs_2 (i := 214) rfl rfl
set_option maxRecDepth 20000 in
theorem q293 : (Cond.fieldLink RX0 20 "ServiceApiary$Adapter" "drops" "I") ∈ xTs := xTs_2 (i := 215) rfl rfl
set_option maxRecDepth 20000 in
theorem q294 : (Cond.laysFinal "ServiceApiary$Adapter" "ServiceApiary$Adapter" "from" "LServiceApiary$Version;") ∈ xTs := xTs_2 (i := 216) rfl rfl
set_option maxRecDepth 20000 in
theorem q295 : (Cond.laysFinal "ServiceApiary$Adapter" "ServiceApiary$Adapter" "to" "LServiceApiary$Version;") ∈ xTs := xTs_2 (i := 218) rfl rfl
set_option maxRecDepth 20000 in
theorem q296 : (Cond.laysFinal "ServiceApiary$Adapter" "ServiceApiary$Adapter" "adds" "I") ∈ xTs := xTs_2 (i := 220) rfl rfl
set_option maxRecDepth 20000 in
theorem q297 : (Cond.laysFinal "ServiceApiary$Adapter" "ServiceApiary$Adapter" "drops" "I") ∈ xTs := xTs_2 (i := 222) rfl rfl
set_option maxRecDepth 20000 in
theorem q298 : (Cond.methodLink RL 48 yX6_ofClient) ∈ xTs := xTs_2 (i := 225) rfl rfl
set_option maxRecDepth 20000 in
theorem q299 : (Cond.instanceMethod yX6_ofClient) ∈ xTs := xTs_2 (i := 226) rfl rfl
set_option maxRecDepth 20000 in
theorem q300 : (Cond.selects RX6 yX6_ofClient yX6_ofClient) ∈ xTs := xTs_2 (i := 227) rfl rfl
set_option maxRecDepth 20000 in
theorem q301 : (Cond.code yX6_ofClient cX6_ofClient 4 (Option.some Jvm.ClassFile.FieldType.int)) ∈ xTs := xTs_2 (i := 228) rfl rfl
set_option maxRecDepth 20000 in
theorem q302 : (Cond.methodLink RX6 177 yX6_clientFact) ∈ xTs := xTs_2 (i := 231) rfl rfl
set_option maxRecDepth 20000 in
theorem q303 : (Cond.instanceMethod yX6_clientFact) ∈ xTs := xTs_2 (i := 233) rfl rfl
set_option maxRecDepth 20000 in
theorem q304 : (Cond.code yX6_clientFact cX6_clientFact 3 (Option.some Jvm.ClassFile.FieldType.int)) ∈ xTs := xTs_2 (i := 234) rfl rfl
set_option maxRecDepth 20000 in
theorem q305 : (Cond.methodLink RX6 181 yX6_findOwnRoute) ∈ xTs := xTs_2 (i := 235) rfl rfl
set_option maxRecDepth 20000 in
theorem q306 : (Cond.instanceMethod yX6_findOwnRoute) ∈ xTs := xTs_2 (i := 237) rfl rfl
set_option maxRecDepth 20000 in
theorem q307 : (Cond.code yX6_findOwnRoute cX6_findOwnRoute 2 (Option.some Jvm.ClassFile.FieldType.boolean)) ∈ xTs := xTs_2 (i := 238) rfl rfl
set_option maxRecDepth 20000 in
theorem q308 : (Cond.methodLink RL 45 yX6_call) ∈ xTs := xTs_2 (i := 239) rfl rfl
set_option maxRecDepth 20000 in
theorem q309 : (Cond.instanceMethod yX6_call) ∈ xTs := xTs_3 (i := 0) rfl rfl
set_option maxRecDepth 20000 in
theorem q310 : (Cond.selects RX6 yX6_call yX6_call) ∈ xTs := xTs_3 (i := 1) rfl rfl
set_option maxRecDepth 20000 in
theorem q311 : (Cond.code yX6_call cX6_call 6 (Option.some Jvm.ClassFile.FieldType.int)) ∈ xTs := xTs_3 (i := 2) rfl rfl
set_option maxRecDepth 20000 in
theorem q312 : (Cond.methodLink RX6 196 yX6_isServedCall) ∈ xTs := xTs_3 (i := 4) rfl rfl
set_option maxRecDepth 20000 in
theorem q313 : (Cond.instanceMethod yX6_isServedCall) ∈ xTs := xTs_3 (i := 6) rfl rfl
set_option maxRecDepth 20000 in
theorem q314 : (Cond.code yX6_isServedCall cX6_isServedCall 5 (Option.some Jvm.ClassFile.FieldType.boolean)) ∈ xTs := xTs_3 (i := 7) rfl rfl
set_option maxRecDepth 20000 in
theorem q315 : (Cond.methodLink RX6 358 yX3_ask) ∈ xTs := xTs_3 (i := 8) rfl rfl
set_option maxRecDepth 20000 in
theorem q316 : (Cond.instanceMethod yX3_ask) ∈ xTs := xTs_3 (i := 9) rfl rfl
set_option maxRecDepth 20000 in
theorem q317 : (Cond.selects RX3 yX3_ask yX3_ask) ∈ xTs := xTs_3 (i := 10) rfl rfl
set_option maxRecDepth 20000 in
theorem q318 : (Cond.code yX3_ask cX3_ask 3 (Option.some Jvm.ClassFile.FieldType.boolean)) ∈ xTs := xTs_3 (i := 11) rfl rfl
set_option maxRecDepth 20000 in
theorem q319 : (Cond.methodLink RX6 361 yX1_servedThisHourBy) ∈ xTs := xTs_3 (i := 12) rfl rfl
set_option maxRecDepth 20000 in
theorem q320 : (Cond.instanceMethod yX1_servedThisHourBy) ∈ xTs := xTs_3 (i := 13) rfl rfl
set_option maxRecDepth 20000 in
theorem q321 : (Cond.selects RX1 yX1_servedThisHourBy yX1_servedThisHourBy) ∈ xTs := xTs_3 (i := 14) rfl rfl
set_option maxRecDepth 20000 in
theorem q322 : (Cond.code yX1_servedThisHourBy cX1_servedThisHourBy 3 (Option.some Jvm.ClassFile.FieldType.int)) ∈ xTs := xTs_3 (i := 15) rfl rfl
set_option maxRecDepth 20000 in
theorem q323 : (Cond.methodLink RX6 364 yX6_outcomeOf) ∈ xTs := xTs_3 (i := 16) rfl rfl
set_option maxRecDepth 20000 in
theorem q324 : (Cond.instanceMethod yX6_outcomeOf) ∈ xTs := xTs_3 (i := 18) rfl rfl
set_option maxRecDepth 20000 in
theorem q325 : (Cond.code yX6_outcomeOf cX6_outcomeOf 6 (Option.some Jvm.ClassFile.FieldType.int)) ∈ xTs := xTs_3 (i := 19) rfl rfl
set_option maxRecDepth 20000 in
theorem q326 : (Cond.methodLink RX6 372 yX3_isBrownedOut) ∈ xTs := xTs_3 (i := 20) rfl rfl
set_option maxRecDepth 20000 in
theorem q327 : (Cond.instanceMethod yX3_isBrownedOut) ∈ xTs := xTs_3 (i := 21) rfl rfl
set_option maxRecDepth 20000 in
theorem q328 : (Cond.selects RX3 yX3_isBrownedOut yX3_isBrownedOut) ∈ xTs := xTs_3 (i := 22) rfl rfl
set_option maxRecDepth 20000 in
theorem q329 : (Cond.code yX3_isBrownedOut cX3_isBrownedOut 3 (Option.some Jvm.ClassFile.FieldType.boolean)) ∈ xTs := xTs_3 (i := 23) rfl rfl
set_option maxRecDepth 20000 in
theorem q330 : (Cond.methodLink RX6 375 yX3_quota) ∈ xTs := xTs_3 (i := 24) rfl rfl
set_option maxRecDepth 20000 in
theorem q331 : (Cond.instanceMethod yX3_quota) ∈ xTs := xTs_3 (i := 25) rfl rfl
set_option maxRecDepth 20000 in
theorem q332 : (Cond.selects RX3 yX3_quota yX3_quota) ∈ xTs := xTs_3 (i := 26) rfl rfl
set_option maxRecDepth 20000 in
theorem q333 : (Cond.code yX3_quota cX3_quota 2 (Option.some Jvm.ClassFile.FieldType.int)) ∈ xTs := xTs_3 (i := 27) rfl rfl
set_option maxRecDepth 20000 in
theorem q334 : (Cond.methodLink RX3 42 Lib.Math.max.name) ∈ xTs := xTs_3 (i := 28) rfl rfl
set_option maxRecDepth 20000 in
theorem q335 : (Cond.static Lib.Math.max.name) ∈ xTs := xTs_3 (i := 29) rfl rfl
set_option maxRecDepth 20000 in
theorem q336 : (Cond.code Lib.Math.max.name Lib.Math.max.code 2 (some .int)) ∈ xTs := xTs_3 (i := 30) rfl rfl
set_option maxRecDepth 20000 in
theorem q337 : (Cond.methodLink RX6 368 yX1_noteCall) ∈ xTs := xTs_3 (i := 31) rfl rfl
set_option maxRecDepth 20000 in
theorem q338 : (Cond.instanceMethod yX1_noteCall) ∈ xTs := xTs_3 (i := 32) rfl rfl
set_option maxRecDepth 20000 in
theorem q339 : (Cond.selects RX1 yX1_noteCall yX1_noteCall) ∈ xTs := xTs_3 (i := 33) rfl rfl
set_option maxRecDepth 20000 in
theorem q340 : (Cond.code yX1_noteCall cX1_noteCall 4 (Option.none : Option Jvm.ClassFile.FieldType)) ∈ xTs := xTs_3 (i := 34) rfl rfl
set_option maxRecDepth 20000 in
theorem q341 : (Cond.methodLink RL 51 yX6_lastCall) ∈ xTs := xTs_3 (i := 35) rfl rfl
set_option maxRecDepth 20000 in
theorem q342 : (Cond.instanceMethod yX6_lastCall) ∈ xTs := xTs_3 (i := 36) rfl rfl
set_option maxRecDepth 20000 in
theorem q343 : (Cond.selects RX6 yX6_lastCall yX6_lastCall) ∈ xTs := xTs_3 (i := 37) rfl rfl
set_option maxRecDepth 20000 in
theorem q344 : (Cond.code yX6_lastCall cX6_lastCall 5 (Option.some Jvm.ClassFile.FieldType.int)) ∈ xTs := xTs_3 (i := 38) rfl rfl
set_option maxRecDepth 20000 in
theorem q345 : (Cond.methodLink RX6 205 yX6_hoursSinceCall) ∈ xTs := xTs_3 (i := 39) rfl rfl
set_option maxRecDepth 20000 in
theorem q346 : (Cond.instanceMethod yX6_hoursSinceCall) ∈ xTs := xTs_3 (i := 41) rfl rfl
set_option maxRecDepth 20000 in
theorem q347 : (Cond.code yX6_hoursSinceCall cX6_hoursSinceCall 4 (Option.some Jvm.ClassFile.FieldType.int)) ∈ xTs := xTs_3 (i := 42) rfl rfl
set_option maxRecDepth 20000 in
theorem q348 : (Cond.methodLink RX6 327 yX1_calledAtOf) ∈ xTs := xTs_3 (i := 43) rfl rfl
set_option maxRecDepth 20000 in
theorem q349 : (Cond.methodLink RL 57 yX6_retire) ∈ xTs := xTs_3 (i := 44) rfl rfl
set_option maxRecDepth 20000 in
theorem q350 : (Cond.instanceMethod yX6_retire) ∈ xTs := xTs_3 (i := 45) rfl rfl
set_option maxRecDepth 20000 in
theorem q351 : (Cond.selects RX6 yX6_retire yX6_retire) ∈ xTs := xTs_3 (i := 46) rfl rfl
set_option maxRecDepth 20000 in
theorem q352 : (Cond.code yX6_retire cX6_retire 5 (Option.some Jvm.ClassFile.FieldType.int)) ∈ xTs := xTs_3 (i := 47) rfl rfl
set_option maxRecDepth 20000 in
theorem q353 : (Cond.methodLink RX6 214 yX6_startRetirement) ∈ xTs := xTs_3 (i := 49) rfl rfl
set_option maxRecDepth 20000 in
theorem q354 : (Cond.instanceMethod yX6_startRetirement) ∈ xTs := xTs_3 (i := 51) rfl rfl
set_option maxRecDepth 20000 in
theorem q355 : (Cond.code yX6_startRetirement cX6_startRetirement 7 (Option.some Jvm.ClassFile.FieldType.int)) ∈ xTs := xTs_3 (i := 52) rfl rfl
set_option maxRecDepth 20000 in
theorem q356 : (Cond.methodLink RX6 390 yX3_start) ∈ xTs := xTs_3 (i := 53) rfl rfl
set_option maxRecDepth 20000 in
theorem q357 : (Cond.instanceMethod yX3_start) ∈ xTs := xTs_3 (i := 54) rfl rfl
set_option maxRecDepth 20000 in
theorem q358 : (Cond.selects RX3 yX3_start yX3_start) ∈ xTs := xTs_3 (i := 55) rfl rfl
set_option maxRecDepth 20000 in
theorem q359 : (Cond.code yX3_start cX3_start 3 (Option.none : Option Jvm.ClassFile.FieldType)) ∈ xTs := xTs_3 (i := 56) rfl rfl
set_option maxRecDepth 20000 in
theorem q360 : (Cond.methodLink RX3 28 yX3_clear) ∈ xTs := xTs_3 (i := 57) rfl rfl
set_option maxRecDepth 20000 in
theorem q361 : (Cond.instanceMethod yX3_clear) ∈ xTs := xTs_3 (i := 58) rfl rfl
set_option maxRecDepth 20000 in
theorem q362 : (Cond.selects RX3 yX3_clear yX3_clear) ∈ xTs := xTs_3 (i := 59) rfl rfl
set_option maxRecDepth 20000 in
theorem q363 : (Cond.code yX3_clear cX3_clear 1 (Option.none : Option Jvm.ClassFile.FieldType)) ∈ xTs := xTs_3 (i := 60) rfl rfl
set_option maxRecDepth 20000 in
theorem q364 : (Cond.methodLink RL 63 yX6_answer) ∈ xTs := xTs_3 (i := 61) rfl rfl
set_option maxRecDepth 20000 in
theorem q365 : (Cond.instanceMethod yX6_answer) ∈ xTs := xTs_3 (i := 62) rfl rfl
set_option maxRecDepth 20000 in
theorem q366 : (Cond.selects RX6 yX6_answer yX6_answer) ∈ xTs := xTs_3 (i := 63) rfl rfl
set_option maxRecDepth 20000 in
theorem q367 : (Cond.code yX6_answer cX6_answer 6 (Option.some Jvm.ClassFile.FieldType.boolean)) ∈ xTs := xTs_3 (i := 64) rfl rfl
set_option maxRecDepth 20000 in
theorem q368 : (Cond.methodLink RX6 220 yX3_askedAtOf) ∈ xTs := xTs_3 (i := 66) rfl rfl
set_option maxRecDepth 20000 in
theorem q369 : (Cond.methodLink RL 60 yX6_asked) ∈ xTs := xTs_3 (i := 68) rfl rfl
set_option maxRecDepth 20000 in
theorem q370 : (Cond.instanceMethod yX6_asked) ∈ xTs := xTs_3 (i := 69) rfl rfl
set_option maxRecDepth 20000 in
theorem q371 : (Cond.selects RX6 yX6_asked yX6_asked) ∈ xTs := xTs_3 (i := 70) rfl rfl
set_option maxRecDepth 20000 in
theorem q372 : (Cond.code yX6_asked cX6_asked 5 (Option.some Jvm.ClassFile.FieldType.int)) ∈ xTs := xTs_3 (i := 71) rfl rfl
set_option maxRecDepth 20000 in
theorem q373 : (Cond.methodLink RX6 242 yX6_askedState) ∈ xTs := xTs_3 (i := 72) rfl rfl
set_option maxRecDepth 20000 in
theorem q374 : (Cond.instanceMethod yX6_askedState) ∈ xTs := xTs_3 (i := 74) rfl rfl
set_option maxRecDepth 20000 in
theorem q375 : (Cond.code yX6_askedState cX6_askedState 4 (Option.some Jvm.ClassFile.FieldType.int)) ∈ xTs := xTs_3 (i := 75) rfl rfl
set_option maxRecDepth 20000 in
theorem q376 : (Cond.methodLink RX6 330 yX3_hasAnswered) ∈ xTs := xTs_3 (i := 76) rfl rfl
set_option maxRecDepth 20000 in
theorem q377 : (Cond.methodLink RL 41 yX6_many) ∈ xTs := xTs_3 (i := 77) rfl rfl
set_option maxRecDepth 20000 in
theorem q378 : (Cond.instanceMethod yX6_many) ∈ xTs := xTs_3 (i := 78) rfl rfl
set_option maxRecDepth 20000 in
theorem q379 : (Cond.selects RX6 yX6_many yX6_many) ∈ xTs := xTs_3 (i := 79) rfl rfl
set_option maxRecDepth 20000 in
theorem q380 : (Cond.code yX6_many cX6_many 2 (Option.some Jvm.ClassFile.FieldType.int)) ∈ xTs := xTs_3 (i := 80) rfl rfl
set_option maxRecDepth 20000 in
theorem q381 : (Cond.methodLink RX6 246 yX6_countOf) ∈ xTs := xTs_3 (i := 81) rfl rfl
set_option maxRecDepth 20000 in
theorem q382 : (Cond.instanceMethod yX6_countOf) ∈ xTs := xTs_3 (i := 83) rfl rfl
set_option maxRecDepth 20000 in
theorem q383 : (Cond.code yX6_countOf cX6_countOf 2 (Option.some Jvm.ClassFile.FieldType.int)) ∈ xTs := xTs_3 (i := 84) rfl rfl
set_option maxRecDepth 20000 in
theorem q384 : (Cond.methodLink RX6 317 yX6_countVersions) ∈ xTs := xTs_3 (i := 85) rfl rfl
set_option maxRecDepth 20000 in
theorem q385 : (Cond.instanceMethod yX6_countVersions) ∈ xTs := xTs_3 (i := 87) rfl rfl
set_option maxRecDepth 20000 in
theorem q386 : (Cond.code yX6_countVersions cX6_countVersions 6 (Option.some Jvm.ClassFile.FieldType.int)) ∈ xTs := xTs_3 (i := 88) rfl rfl
set_option maxRecDepth 20000 in
theorem q387 : (Cond.methodLink RL 38 yX6_wouldCome) ∈ xTs := xTs_3 (i := 89) rfl rfl
set_option maxRecDepth 20000 in
theorem q388 : (Cond.instanceMethod yX6_wouldCome) ∈ xTs := xTs_3 (i := 90) rfl rfl
set_option maxRecDepth 20000 in
theorem q389 : (Cond.selects RX6 yX6_wouldCome yX6_wouldCome) ∈ xTs := xTs_3 (i := 91) rfl rfl
set_option maxRecDepth 20000 in
theorem q390 : (Cond.code yX6_wouldCome cX6_wouldCome 4 (Option.some Jvm.ClassFile.FieldType.int)) ∈ xTs := xTs_3 (i := 92) rfl rfl
set_option maxRecDepth 20000 in
theorem q391 : (Cond.methodLink RX6 257 yX6_outcomeIn) ∈ xTs := xTs_3 (i := 94) rfl rfl
set_option maxRecDepth 20000 in
theorem q392 : (Cond.instanceMethod yX6_outcomeIn) ∈ xTs := xTs_3 (i := 96) rfl rfl
set_option maxRecDepth 20000 in
theorem q393 : (Cond.code yX6_outcomeIn cX6_outcomeIn 6 (Option.some Jvm.ClassFile.FieldType.int)) ∈ xTs := xTs_3 (i := 97) rfl rfl
set_option maxRecDepth 20000 in
theorem q394 : (Cond.methodLink RX6 267 yX6_hoursTillGone) ∈ xTs := xTs_3 (i := 98) rfl rfl
set_option maxRecDepth 20000 in
theorem q395 : (Cond.instanceMethod yX6_hoursTillGone) ∈ xTs := xTs_3 (i := 100) rfl rfl
set_option maxRecDepth 20000 in
theorem q396 : (Cond.code yX6_hoursTillGone cX6_hoursTillGone 6 (Option.some Jvm.ClassFile.FieldType.int)) ∈ xTs := xTs_3 (i := 101) rfl rfl
set_option maxRecDepth 20000 in
theorem q397 : (Cond.methodLink RL 67 yX6_target) ∈ xTs := xTs_3 (i := 102) rfl rfl
set_option maxRecDepth 20000 in
theorem q398 : (Cond.instanceMethod yX6_target) ∈ xTs := xTs_3 (i := 103) rfl rfl
set_option maxRecDepth 20000 in
theorem q399 : (Cond.selects RX6 yX6_target yX6_target) ∈ xTs := xTs_3 (i := 104) rfl rfl
set_option maxRecDepth 20000 in
theorem q400 : (Cond.code yX6_target cX6_target 3 (Option.some Jvm.ClassFile.FieldType.int)) ∈ xTs := xTs_3 (i := 105) rfl rfl
set_option maxRecDepth 20000 in
theorem q401 : (Cond.methodLink RX6 263 yX6_nearestOpen) ∈ xTs := xTs_3 (i := 106) rfl rfl
set_option maxRecDepth 20000 in
theorem q402 : (Cond.instanceMethod yX6_nearestOpen) ∈ xTs := xTs_3 (i := 108) rfl rfl
set_option maxRecDepth 20000 in
theorem q403 : (Cond.code yX6_nearestOpen cX6_nearestOpen 7 (Option.some Jvm.ClassFile.FieldType.int)) ∈ xTs := xTs_3 (i := 109) rfl rfl
set_option maxRecDepth 20000 in
theorem q404 : (Cond.methodLink RX6 333 yJ6_bitCount_0f7a4) ∈ xTs := xTs_3 (i := 110) rfl rfl
set_option maxRecDepth 20000 in
theorem q405 : (Cond.static yJ6_bitCount_0f7a4) ∈ xTs := xTs_3 (i := 111) rfl rfl
set_option maxRecDepth 20000 in
theorem q406 : (Cond.code yJ6_bitCount_0f7a4 cJ6_bitCount_0f7a4 1 (Option.some Jvm.ClassFile.FieldType.int)) ∈ xTs := xTs_3 (i := 112) rfl rfl
set_option maxRecDepth 20000 in
theorem q407 : (Cond.constant RJ6 265 1431655765) ∈ xTs := xTs_3 (i := 113) rfl rfl
set_option maxRecDepth 20000 in
theorem q408 : (Cond.constant RJ6 266 858993459) ∈ xTs := xTs_3 (i := 114) rfl rfl
set_option maxRecDepth 20000 in
theorem q409 : (Cond.constant RJ6 267 252645135) ∈ xTs := xTs_3 (i := 115) rfl rfl
set_option maxRecDepth 20000 in
theorem q410 : (Cond.methodLink RL 77 yX6_digest) ∈ xTs := xTs_3 (i := 116) rfl rfl
set_option maxRecDepth 20000 in
theorem q411 : (Cond.instanceMethod yX6_digest) ∈ xTs := xTs_3 (i := 117) rfl rfl
set_option maxRecDepth 20000 in
theorem q412 : (Cond.selects RX6 yX6_digest yX6_digest) ∈ xTs := xTs_3 (i := 118) rfl rfl
set_option maxRecDepth 20000 in
theorem q413 : (Cond.code yX6_digest cX6_digest 6 (Option.some Jvm.ClassFile.FieldType.long)) ∈ xTs := xTs_3 (i := 119) rfl rfl
set_option maxRecDepth 20000 in
theorem q414 : (Cond.constantLong RX6 271 58106) ∈ xTs := xTs_3 (i := 120) rfl rfl
set_option maxRecDepth 20000 in
theorem q415 : (Cond.constantLong RX6 273 31) ∈ xTs := xTs_3 (i := 121) rfl rfl
set_option maxRecDepth 20000 in
theorem q416 : (Cond.methodLink RX6 275 yX6_digestVersion) ∈ xTs := xTs_3 (i := 122) rfl rfl
set_option maxRecDepth 20000 in
theorem q417 : (Cond.instanceMethod yX6_digestVersion) ∈ xTs := xTs_3 (i := 124) rfl rfl
set_option maxRecDepth 20000 in
theorem q418 : (Cond.code yX6_digestVersion cX6_digestVersion 7 (Option.some Jvm.ClassFile.FieldType.long)) ∈ xTs := xTs_3 (i := 125) rfl rfl
set_option maxRecDepth 20000 in
theorem q419 : (Cond.methodLink RX6 260 yX6_hoursLeft) ∈ xTs := xTs_3 (i := 126) rfl rfl
set_option maxRecDepth 20000 in
theorem q420 : (Cond.instanceMethod yX6_hoursLeft) ∈ xTs := xTs_3 (i := 128) rfl rfl
set_option maxRecDepth 20000 in
theorem q421 : (Cond.code yX6_hoursLeft cX6_hoursLeft 2 (Option.some Jvm.ClassFile.FieldType.int)) ∈ xTs := xTs_3 (i := 129) rfl rfl
set_option maxRecDepth 20000 in
theorem q422 : (Cond.methodLink RX6 279 yX6_digestClient) ∈ xTs := xTs_3 (i := 130) rfl rfl
set_option maxRecDepth 20000 in
theorem q423 : (Cond.instanceMethod yX6_digestClient) ∈ xTs := xTs_3 (i := 132) rfl rfl
set_option maxRecDepth 20000 in
theorem q424 : (Cond.code yX6_digestClient cX6_digestClient 8 (Option.some Jvm.ClassFile.FieldType.long)) ∈ xTs := xTs_3 (i := 133) rfl rfl
set_option maxRecDepth 20000 in
theorem q425 : (Cond.methodLink RL 22 yL_below) ∈ xTs := xTs_3 (i := 134) rfl rfl
set_option maxRecDepth 20000 in
theorem q426 : (Cond.static yL_below) ∈ xTs := xTs_3 (i := 135) rfl rfl
set_option maxRecDepth 20000 in
theorem q427 : (Cond.code yL_below cL_below 2 (Option.some Jvm.ClassFile.FieldType.int)) ∈ xTs := xTs_3 (i := 136) rfl rfl
set_option maxRecDepth 20000 in
theorem q428 : (Cond.constant RL 7 2147483647) ∈ xTs := xTs_3 (i := 137) rfl rfl
set_option maxRecDepth 20000 in
theorem q429 : (Cond.methodLink RL 16 yL_cell) ∈ xTs := xTs_3 (i := 138) rfl rfl
set_option maxRecDepth 20000 in
theorem q430 : (Cond.static yL_cell) ∈ xTs := xTs_3 (i := 139) rfl rfl
set_option maxRecDepth 20000 in
theorem q431 : (Cond.code yL_cell cL_cell 2 (Option.some Jvm.ClassFile.FieldType.int)) ∈ xTs := xTs_3 (i := 140) rfl rfl
set_option maxRecDepth 20000 in
theorem q432 : (Cond.constant RL 8 790386105) ∈ xTs := xTs_3 (i := 141) rfl rfl
set_option maxRecDepth 20000 in
theorem q433 : (Cond.methodLink RL 73 yL_isKind) ∈ xTs := xTs_3 (i := 142) rfl rfl
set_option maxRecDepth 20000 in
theorem q434 : (Cond.static yL_isKind) ∈ xTs := xTs_3 (i := 143) rfl rfl
set_option maxRecDepth 20000 in
theorem q435 : (Cond.code yL_isKind cL_isKind 12 (Option.some Jvm.ClassFile.FieldType.boolean)) ∈ xTs := xTs_3 (i := 144) rfl rfl
set_option maxRecDepth 20000 in
theorem q436 : (Cond.classLink RL 84 "[[I") ∈ xTs := xTs_3 (i := 145) rfl rfl
set_option maxRecDepth 20000 in
theorem q437 : (Cond.methodLink RL 86 yX6_pass) ∈ xTs := xTs_3 (i := 147) rfl rfl
set_option maxRecDepth 20000 in
theorem q438 : (Cond.instanceMethod yX6_pass) ∈ xTs := xTs_3 (i := 148) rfl rfl
set_option maxRecDepth 20000 in
theorem q439 : (Cond.selects RX6 yX6_pass yX6_pass) ∈ xTs := xTs_3 (i := 149) rfl rfl
set_option maxRecDepth 20000 in
theorem q440 : (Cond.code yX6_pass cX6_pass 4 (Option.some Jvm.ClassFile.FieldType.int)) ∈ xTs := xTs_3 (i := 150) rfl rfl
set_option maxRecDepth 20000 in
theorem q441 : (Cond.methodLink RX6 201 yX6_beginHour) ∈ xTs := xTs_3 (i := 152) rfl rfl
set_option maxRecDepth 20000 in
theorem q442 : (Cond.instanceMethod yX6_beginHour) ∈ xTs := xTs_3 (i := 154) rfl rfl
set_option maxRecDepth 20000 in
theorem q443 : (Cond.code yX6_beginHour cX6_beginHour 5 (Option.some Jvm.ClassFile.FieldType.int)) ∈ xTs := xTs_3 (i := 155) rfl rfl
set_option maxRecDepth 20000 in
theorem q444 : (Cond.methodLink RX6 381 yJ7_fill_53178) ∈ xTs := xTs_3 (i := 156) rfl rfl
set_option maxRecDepth 20000 in
theorem q445 : (Cond.methodLink RX6 387 yX6_isGoneAtEnd) ∈ xTs := xTs_3 (i := 157) rfl rfl
set_option maxRecDepth 20000 in
theorem q446 : (Cond.instanceMethod yX6_isGoneAtEnd) ∈ xTs := xTs_3 (i := 159) rfl rfl
set_option maxRecDepth 20000 in
theorem q447 : (Cond.code yX6_isGoneAtEnd cX6_isGoneAtEnd 2 (Option.some Jvm.ClassFile.FieldType.boolean)) ∈ xTs := xTs_3 (i := 160) rfl rfl
set_option maxRecDepth 20000 in
theorem q448 : (Cond.selects RX6 yX6_faceAt yX6_faceAt) ∈ xTs := xTs_0 (i := 1) rfl rfl
set_option maxRecDepth 20000 in
theorem q449 : (Cond.selects RX6 yX6_versionAt yX6_versionAt) ∈ xTs := xTs_0 (i := 2) rfl rfl
set_option maxRecDepth 20000 in
theorem q450 : (Cond.selects RX6 yX6_versionFact yX6_versionFact) ∈ xTs := xTs_0 (i := 3) rfl rfl
set_option maxRecDepth 20000 in
theorem q451 : (Cond.selects RX6 yX6_countCallers yX6_countCallers) ∈ xTs := xTs_0 (i := 4) rfl rfl
set_option maxRecDepth 20000 in
theorem q452 : (Cond.selects RX6 yX6_countHinderers yX6_countHinderers) ∈ xTs := xTs_0 (i := 5) rfl rfl
set_option maxRecDepth 20000 in
theorem q453 : (Cond.selects RX6 yX6_isCallerThen yX6_isCallerThen) ∈ xTs := xTs_0 (i := 6) rfl rfl
set_option maxRecDepth 20000 in
theorem q454 : (Cond.selects RX6 yX6_findRoute yX6_findRoute) ∈ xTs := xTs_0 (i := 7) rfl rfl
set_option maxRecDepth 20000 in
theorem q455 : (Cond.selects RX6 yX6_countGeneratedFor yX6_countGeneratedFor) ∈ xTs := xTs_0 (i := 8) rfl rfl
set_option maxRecDepth 20000 in
theorem q456 : (Cond.selects RX6 yX6_clientAt yX6_clientAt) ∈ xTs := xTs_0 (i := 9) rfl rfl
set_option maxRecDepth 20000 in
theorem q457 : (Cond.selects RX6 yX6_clientFact yX6_clientFact) ∈ xTs := xTs_0 (i := 10) rfl rfl
set_option maxRecDepth 20000 in
theorem q458 : (Cond.selects RX6 yX6_findOwnRoute yX6_findOwnRoute) ∈ xTs := xTs_0 (i := 11) rfl rfl
set_option maxRecDepth 20000 in
theorem q459 : (Cond.selects RX6 yX6_isServedCall yX6_isServedCall) ∈ xTs := xTs_0 (i := 12) rfl rfl
set_option maxRecDepth 20000 in
theorem q460 : (Cond.selects RX6 yX6_outcomeOf yX6_outcomeOf) ∈ xTs := xTs_0 (i := 13) rfl rfl
set_option maxRecDepth 20000 in
theorem q461 : (Cond.selects RX6 yX6_hoursSinceCall yX6_hoursSinceCall) ∈ xTs := xTs_0 (i := 14) rfl rfl
set_option maxRecDepth 20000 in
theorem q462 : (Cond.selects RX6 yX6_startRetirement yX6_startRetirement) ∈ xTs := xTs_0 (i := 15) rfl rfl
set_option maxRecDepth 20000 in
theorem q463 : (Cond.selects RX6 yX6_askedState yX6_askedState) ∈ xTs := xTs_0 (i := 16) rfl rfl
set_option maxRecDepth 20000 in
theorem q464 : (Cond.selects RX6 yX6_countOf yX6_countOf) ∈ xTs := xTs_0 (i := 17) rfl rfl
set_option maxRecDepth 20000 in
theorem q465 : (Cond.selects RX6 yX6_countVersions yX6_countVersions) ∈ xTs := xTs_0 (i := 18) rfl rfl
set_option maxRecDepth 20000 in
theorem q466 : (Cond.selects RX6 yX6_outcomeIn yX6_outcomeIn) ∈ xTs := xTs_0 (i := 19) rfl rfl
set_option maxRecDepth 20000 in
theorem q467 : (Cond.selects RX6 yX6_hoursTillGone yX6_hoursTillGone) ∈ xTs := xTs_0 (i := 20) rfl rfl
set_option maxRecDepth 20000 in
theorem q468 : (Cond.selects RX6 yX6_nearestOpen yX6_nearestOpen) ∈ xTs := xTs_0 (i := 21) rfl rfl
set_option maxRecDepth 20000 in
theorem q469 : (Cond.selects RX6 yX6_digestVersion yX6_digestVersion) ∈ xTs := xTs_0 (i := 22) rfl rfl
set_option maxRecDepth 20000 in
theorem q470 : (Cond.selects RX6 yX6_hoursLeft yX6_hoursLeft) ∈ xTs := xTs_0 (i := 23) rfl rfl
set_option maxRecDepth 20000 in
theorem q471 : (Cond.selects RX6 yX6_digestClient yX6_digestClient) ∈ xTs := xTs_0 (i := 24) rfl rfl
set_option maxRecDepth 20000 in
theorem q472 : (Cond.selects RX6 yX6_beginHour yX6_beginHour) ∈ xTs := xTs_0 (i := 25) rfl rfl
set_option maxRecDepth 20000 in
theorem q473 : (Cond.selects RX6 yX6_isGoneAtEnd yX6_isGoneAtEnd) ∈ xTs := xTs_0 (i := 26) rfl rfl
theorem x_AOm {ty : FieldType} {u U : State} (hvm : u.vm.Alike U.vm) (h : va_Nw (Cond.arrayOver ty) u) : va_Nw (Cond.arrayOver ty) U := by
  unfold va_Nw at h ⊢
  rw [← Cond.arrayOver_setVmC hvm] at h
  exact h
theorem x_AOof {ty : FieldType} {A : Array Value} {U : State} (h : (Cond.arrayOver ty).before A U = true) : va_Nw (Cond.arrayOver ty) U := h
/-- words of the tables that are kept in another way -/
def x_xt (U : State) : Prop := va_Nw (Cond.arrayOver (FieldType.object "ServiceApiary$Face")) U ∧ va_Nw (Cond.arrayOver (FieldType.object "ServiceApiary$Client")) U ∧ va_Nw (Cond.arrayOver (FieldType.object "ServiceApiary$Adapter")) U ∧ va_Nw (Cond.methodLinkNest RX6 29 yX4_init RX6) U ∧ va_Nw (Cond.arrayOver (FieldType.object "ServiceApiary$Version")) U ∧ va_Nw (Cond.arrayOver (FieldType.array FieldType.int)) U ∧ True
theorem x1 {U : State} (h : x_xt U) : va_Nw (Cond.arrayOver (FieldType.object "ServiceApiary$Face")) U := h.1
theorem x2 {U : State} (h : x_xt U) : va_Nw (Cond.arrayOver (FieldType.object "ServiceApiary$Client")) U := h.2.1
theorem x3 {U : State} (h : x_xt U) : va_Nw (Cond.arrayOver (FieldType.object "ServiceApiary$Adapter")) U := h.2.2.1
theorem x4 {U : State} (h : x_xt U) : va_Nw (Cond.methodLinkNest RX6 29 yX4_init RX6) U := h.2.2.2.1
theorem x5 {U : State} (h : x_xt U) : va_Nw (Cond.arrayOver (FieldType.object "ServiceApiary$Version")) U := h.2.2.2.2.1
theorem x6 {U : State} (h : x_xt U) : va_Nw (Cond.arrayOver (FieldType.array FieldType.int)) U := h.2.2.2.2.2.1
theorem x_xt.warm {s U : State} (hW : s.WarmedH U.vm) (h : x_xt s) : x_xt U := ⟨x_AOm hW.alike h.1, x_AOm hW.alike h.2.1, x_AOm hW.alike h.2.2.1, va_Nw.warmM hW h.2.2.2.1, x_AOm hW.alike h.2.2.2.2.1, x_AOm hW.alike h.2.2.2.2.2.1, trivial⟩
theorem x_xt.same {u U : State} (hv : u.vm = U.vm) (h : x_xt u) : x_xt U := ⟨x_AOm (by rw [hv]; exact Vm.Alike.refl _) h.1, x_AOm (by rw [hv]; exact Vm.Alike.refl _) h.2.1, x_AOm (by rw [hv]; exact Vm.Alike.refl _) h.2.2.1, va_Nw.same rfl hv h.2.2.2.1, x_AOm (by rw [hv]; exact Vm.Alike.refl _) h.2.2.2.2.1, x_AOm (by rw [hv]; exact Vm.Alike.refl _) h.2.2.2.2.2.1, trivial⟩
set_option maxRecDepth 20000 in
theorem x_xt.of {A : Array Value} {U : State} (h : ∀ w ∈ lw_tbl, w.before A U = true) : x_xt U := ⟨x_AOof (h _ (List.mem_append_right _ (List.mem_append_left _ (List.mem_of_getElem? (i := 26) (l := tables_1_1) rfl)))), x_AOof (h _ (List.mem_append_right _ (List.mem_append_left _ (List.mem_of_getElem? (i := 28) (l := tables_1_1) rfl)))), x_AOof (h _ (List.mem_append_right _ (List.mem_append_left _ (List.mem_of_getElem? (i := 30) (l := tables_1_1) rfl)))), va_Nw.of rfl (h _ (List.mem_append_right _ (List.mem_append_left _ (List.mem_of_getElem? (i := 33) (l := tables_1_1) rfl)))), x_AOof (h _ (List.mem_append_right _ (List.mem_append_left _ (List.mem_of_getElem? (i := 195) (l := tables_1_1) rfl)))), x_AOof (h _ (List.mem_append_right _ (List.mem_append_right _ (List.mem_append_right _ (List.mem_of_getElem? (i := 146) (l := tables_1_3) rfl))))), trivial⟩
set_option maxRecDepth 20000 in
theorem inX0 : ∀ q ∈ u_ws RX0 TX0 4, q ∈ xTs := List.forall_mem_cons.mpr ⟨q294, List.forall_mem_cons.mpr ⟨q295, List.forall_mem_cons.mpr ⟨q296, List.forall_mem_cons.mpr ⟨q297, fun _ h => absurd h List.not_mem_nil⟩⟩⟩⟩
set_option maxRecDepth 20000 in
theorem inX1 : ∀ q ∈ u_ws RX1 TX1 8, q ∈ xTs := List.forall_mem_cons.mpr ⟨q260, List.forall_mem_cons.mpr ⟨q261, List.forall_mem_cons.mpr ⟨q262, List.forall_mem_cons.mpr ⟨q263, List.forall_mem_cons.mpr ⟨q264, List.forall_mem_cons.mpr ⟨q265, List.forall_mem_cons.mpr ⟨q266, List.forall_mem_cons.mpr ⟨q267, fun _ h => absurd h List.not_mem_nil⟩⟩⟩⟩⟩⟩⟩⟩
set_option maxRecDepth 20000 in
theorem inX2 : ∀ q ∈ u_ws RX2 TX2 3, q ∈ xTs := List.forall_mem_cons.mpr ⟨q108, List.forall_mem_cons.mpr ⟨q109, List.forall_mem_cons.mpr ⟨q110, fun _ h => absurd h List.not_mem_nil⟩⟩⟩
set_option maxRecDepth 20000 in
theorem inX3 : ∀ q ∈ u_ws RX3 TX3 4, q ∈ xTs := List.forall_mem_cons.mpr ⟨q61, List.forall_mem_cons.mpr ⟨q62, List.forall_mem_cons.mpr ⟨q63, List.forall_mem_cons.mpr ⟨q64, fun _ h => absurd h List.not_mem_nil⟩⟩⟩⟩
set_option maxRecDepth 20000 in
theorem inX4 : ∀ q ∈ u_ws RX4 TX4 5, q ∈ xTs := List.forall_mem_cons.mpr ⟨q39, List.forall_mem_cons.mpr ⟨q40, List.forall_mem_cons.mpr ⟨q41, List.forall_mem_cons.mpr ⟨q42, List.forall_mem_cons.mpr ⟨q43, fun _ h => absurd h List.not_mem_nil⟩⟩⟩⟩⟩
set_option maxRecDepth 20000 in
theorem inX5 : ∀ q ∈ u_ws RX5 TX5 9, q ∈ xTs := List.forall_mem_cons.mpr ⟨q153, List.forall_mem_cons.mpr ⟨q154, List.forall_mem_cons.mpr ⟨q155, List.forall_mem_cons.mpr ⟨q156, List.forall_mem_cons.mpr ⟨q157, List.forall_mem_cons.mpr ⟨q158, List.forall_mem_cons.mpr ⟨q159, List.forall_mem_cons.mpr ⟨q160, List.forall_mem_cons.mpr ⟨q161, fun _ h => absurd h List.not_mem_nil⟩⟩⟩⟩⟩⟩⟩⟩⟩
set_option maxRecDepth 20000 in
theorem inX6 : ∀ q ∈ u_ws RX6 TX6 12, q ∈ xTs := List.forall_mem_cons.mpr ⟨q77, List.forall_mem_cons.mpr ⟨q78, List.forall_mem_cons.mpr ⟨q79, List.forall_mem_cons.mpr ⟨q80, List.forall_mem_cons.mpr ⟨q81, List.forall_mem_cons.mpr ⟨q82, List.forall_mem_cons.mpr ⟨q83, List.forall_mem_cons.mpr ⟨q84, List.forall_mem_cons.mpr ⟨q85, List.forall_mem_cons.mpr ⟨q86, List.forall_mem_cons.mpr ⟨q87, List.forall_mem_cons.mpr ⟨q88, fun _ h => absurd h List.not_mem_nil⟩⟩⟩⟩⟩⟩⟩⟩⟩⟩⟩⟩
theorem x_gV {own C : String} {idx maxL : Nat} {y : MethodName} {bytes : ByteArray} {rt : Option FieldType} (h1 : Cond.methodLink own idx y ∈ xTs) (h2 : Cond.instanceMethod y ∈ xTs) (h3 : Cond.selects C y y ∈ xTs) (h4 : Cond.initialized C ∈ xTs) (h5 : Cond.code y bytes maxL rt ∈ xTs) : GoodIn xTs (wsV own idx C y (Cond.code y bytes maxL rt :: xTs)) := by
  intro w hw
  unfold wsV at hw
  rcases List.mem_append.mp hw with h | h
  · simp only [List.mem_cons, List.not_mem_nil, or_false] at h
    rcases h with rfl | rfl | rfl | rfl
    · exact xTs_good _ h1
    · exact xTs_good _ h2
    · exact xTs_good _ h3
    · exact xTs_good _ h4
  · rcases List.mem_cons.mp h with rfl | h
    · exact xTs_good _ h5
    · exact xTs_good _ h
theorem x_gS {own : String} {idx maxL : Nat} {y : MethodName} {bytes : ByteArray} {rt : Option FieldType} (h1 : Cond.methodLink own idx y ∈ xTs) (h2 : Cond.static y ∈ xTs) (h4 : Cond.initialized y.cls ∈ xTs) (h5 : Cond.code y bytes maxL rt ∈ xTs) : GoodIn xTs (va_wsS own idx y (Cond.code y bytes maxL rt :: xTs)) := by
  intro w hw
  unfold va_wsS at hw
  rcases List.mem_append.mp hw with h | h
  · simp only [List.mem_cons, List.not_mem_nil, or_false] at h
    rcases h with rfl | rfl | rfl
    · exact xTs_good _ h1
    · exact xTs_good _ h2
    · exact xTs_good _ h4
  · rcases List.mem_cons.mp h with rfl | h
    · exact xTs_good _ h5
    · exact xTs_good _ h
theorem x_gI {maxL : Nat} {y : MethodName} {bytes : ByteArray} {rt : Option FieldType} (h5 : Cond.code y bytes maxL rt ∈ xTs) : GoodIn xTs (Cond.code y bytes maxL rt :: xTs) := by
  intro w hw
  rcases List.mem_cons.mp hw with rfl | h
  · exact xTs_good _ h5
  · exact xTs_good _ h
abbrev wX6_init : List Cond := Cond.code yX6_init cX6_init 1 (Option.none : Option Jvm.ClassFile.FieldType) :: xTs
theorem xd_X6_init : yX6_init.cls ≠ "java/lang/invoke/MethodHandle" ∧ yX6_init.cls ≠ "java/lang/invoke/VarHandle" ∧ (parseMethodDescriptor yX6_init.desc).map (fun d => d.parameters.length) = some 0 := by decide +kernel
abbrev wX4_init : List Cond := Cond.code yX4_init cX4_init 1 (Option.none : Option Jvm.ClassFile.FieldType) :: xTs
theorem xd_X4_init : yX4_init.cls ≠ "java/lang/invoke/MethodHandle" ∧ yX4_init.cls ≠ "java/lang/invoke/VarHandle" ∧ (parseMethodDescriptor yX4_init.desc).map (fun d => d.parameters.length) = some 0 := by decide +kernel
abbrev wX3_init : List Cond := Cond.code yX3_init cX3_init 1 (Option.none : Option Jvm.ClassFile.FieldType) :: xTs
theorem xd_X3_init : yX3_init.cls ≠ "java/lang/invoke/MethodHandle" ∧ yX3_init.cls ≠ "java/lang/invoke/VarHandle" ∧ (parseMethodDescriptor yX3_init.desc).map (fun d => d.parameters.length) = some 0 := by decide +kernel
abbrev wJ7_fill_53178 : List Cond := Cond.code yJ7_fill_53178 cJ7_fill_53178 4 (Option.none : Option Jvm.ClassFile.FieldType) :: xTs
theorem xd_J7_fill_53178 : yJ7_fill_53178.cls ≠ "java/lang/invoke/MethodHandle" ∧ yJ7_fill_53178.cls ≠ "java/lang/invoke/VarHandle" ∧ (parseMethodDescriptor yJ7_fill_53178.desc).map (fun d => d.parameters.length) = some 2 := by decide +kernel
abbrev wX6_open : List Cond := Cond.code yX6_open cX6_open 1 (Option.some Jvm.ClassFile.FieldType.int) :: xTs
theorem xd_X6_open : yX6_open.cls ≠ "java/lang/invoke/MethodHandle" ∧ yX6_open.cls ≠ "java/lang/invoke/VarHandle" ∧ (parseMethodDescriptor yX6_open.desc).map (fun d => d.parameters.length) = some 0 := by decide +kernel
abbrev wX2_init : List Cond := Cond.code yX2_init cX2_init 2 (Option.none : Option Jvm.ClassFile.FieldType) :: xTs
theorem xd_X2_init : yX2_init.cls ≠ "java/lang/invoke/MethodHandle" ∧ yX2_init.cls ≠ "java/lang/invoke/VarHandle" ∧ (parseMethodDescriptor yX2_init.desc).map (fun d => d.parameters.length) = some 1 := by decide +kernel
abbrev wX6_publish : List Cond := Cond.code yX6_publish cX6_publish 8 (Option.some Jvm.ClassFile.FieldType.int) :: xTs
theorem xd_X6_publish : yX6_publish.cls ≠ "java/lang/invoke/MethodHandle" ∧ yX6_publish.cls ≠ "java/lang/invoke/VarHandle" ∧ (parseMethodDescriptor yX6_publish.desc).map (fun d => d.parameters.length) = some 3 := by decide +kernel
abbrev wX6_faceAt : List Cond := Cond.code yX6_faceAt cX6_faceAt 2 (Option.some (Jvm.ClassFile.FieldType.object "ServiceApiary$Face")) :: xTs
theorem xd_X6_faceAt : yX6_faceAt.cls ≠ "java/lang/invoke/MethodHandle" ∧ yX6_faceAt.cls ≠ "java/lang/invoke/VarHandle" ∧ (parseMethodDescriptor yX6_faceAt.desc).map (fun d => d.parameters.length) = some 1 := by decide +kernel
abbrev wX6_isShape : List Cond := Cond.code yX6_isShape cX6_isShape 2 (Option.some Jvm.ClassFile.FieldType.boolean) :: xTs
theorem xd_X6_isShape : yX6_isShape.cls ≠ "java/lang/invoke/MethodHandle" ∧ yX6_isShape.cls ≠ "java/lang/invoke/VarHandle" ∧ (parseMethodDescriptor yX6_isShape.desc).map (fun d => d.parameters.length) = some 2 := by decide +kernel
abbrev wX6_isFieldSet : List Cond := Cond.code yX6_isFieldSet cX6_isFieldSet 1 (Option.some Jvm.ClassFile.FieldType.boolean) :: xTs
theorem xd_X6_isFieldSet : yX6_isFieldSet.cls ≠ "java/lang/invoke/MethodHandle" ∧ yX6_isFieldSet.cls ≠ "java/lang/invoke/VarHandle" ∧ (parseMethodDescriptor yX6_isFieldSet.desc).map (fun d => d.parameters.length) = some 1 := by decide +kernel
abbrev wX5_init : List Cond := Cond.code yX5_init cX5_init 5 (Option.none : Option Jvm.ClassFile.FieldType) :: xTs
theorem xd_X5_init : yX5_init.cls ≠ "java/lang/invoke/MethodHandle" ∧ yX5_init.cls ≠ "java/lang/invoke/VarHandle" ∧ (parseMethodDescriptor yX5_init.desc).map (fun d => d.parameters.length) = some 4 := by decide +kernel
abbrev wX6_countSuited : List Cond := Cond.code yX6_countSuited cX6_countSuited 4 (Option.some Jvm.ClassFile.FieldType.int) :: xTs
theorem xd_X6_countSuited : yX6_countSuited.cls ≠ "java/lang/invoke/MethodHandle" ∧ yX6_countSuited.cls ≠ "java/lang/invoke/VarHandle" ∧ (parseMethodDescriptor yX6_countSuited.desc).map (fun d => d.parameters.length) = some 1 := by decide +kernel
abbrev wX2_versionAt : List Cond := Cond.code yX2_versionAt cX2_versionAt 2 (Option.some (Jvm.ClassFile.FieldType.object "ServiceApiary$Version")) :: xTs
theorem xd_X2_versionAt : yX2_versionAt.cls ≠ "java/lang/invoke/MethodHandle" ∧ yX2_versionAt.cls ≠ "java/lang/invoke/VarHandle" ∧ (parseMethodDescriptor yX2_versionAt.desc).map (fun d => d.parameters.length) = some 1 := by decide +kernel
abbrev wX5_suits : List Cond := Cond.code yX5_suits cX5_suits 2 (Option.some Jvm.ClassFile.FieldType.boolean) :: xTs
theorem xd_X5_suits : yX5_suits.cls ≠ "java/lang/invoke/MethodHandle" ∧ yX5_suits.cls ≠ "java/lang/invoke/VarHandle" ∧ (parseMethodDescriptor yX5_suits.desc).map (fun d => d.parameters.length) = some 1 := by decide +kernel
abbrev wX6_ofVersion : List Cond := Cond.code yX6_ofVersion cX6_ofVersion 5 (Option.some Jvm.ClassFile.FieldType.int) :: xTs
theorem xd_X6_ofVersion : yX6_ofVersion.cls ≠ "java/lang/invoke/MethodHandle" ∧ yX6_ofVersion.cls ≠ "java/lang/invoke/VarHandle" ∧ (parseMethodDescriptor yX6_ofVersion.desc).map (fun d => d.parameters.length) = some 3 := by decide +kernel
abbrev wX6_versionAt : List Cond := Cond.code yX6_versionAt cX6_versionAt 4 (Option.some (Jvm.ClassFile.FieldType.object "ServiceApiary$Version")) :: xTs
theorem xd_X6_versionAt : yX6_versionAt.cls ≠ "java/lang/invoke/MethodHandle" ∧ yX6_versionAt.cls ≠ "java/lang/invoke/VarHandle" ∧ (parseMethodDescriptor yX6_versionAt.desc).map (fun d => d.parameters.length) = some 2 := by decide +kernel
abbrev wX6_versionFact : List Cond := Cond.code yX6_versionFact cX6_versionFact 3 (Option.some Jvm.ClassFile.FieldType.int) :: xTs
theorem xd_X6_versionFact : yX6_versionFact.cls ≠ "java/lang/invoke/MethodHandle" ∧ yX6_versionFact.cls ≠ "java/lang/invoke/VarHandle" ∧ (parseMethodDescriptor yX6_versionFact.desc).map (fun d => d.parameters.length) = some 2 := by decide +kernel
abbrev wX6_countCallers : List Cond := Cond.code yX6_countCallers cX6_countCallers 5 (Option.some Jvm.ClassFile.FieldType.int) :: xTs
theorem xd_X6_countCallers : yX6_countCallers.cls ≠ "java/lang/invoke/MethodHandle" ∧ yX6_countCallers.cls ≠ "java/lang/invoke/VarHandle" ∧ (parseMethodDescriptor yX6_countCallers.desc).map (fun d => d.parameters.length) = some 1 := by decide +kernel
abbrev wX1_isCallerOf : List Cond := Cond.code yX1_isCallerOf cX1_isCallerOf 4 (Option.some Jvm.ClassFile.FieldType.boolean) :: xTs
theorem xd_X1_isCallerOf : yX1_isCallerOf.cls ≠ "java/lang/invoke/MethodHandle" ∧ yX1_isCallerOf.cls ≠ "java/lang/invoke/VarHandle" ∧ (parseMethodDescriptor yX1_isCallerOf.desc).map (fun d => d.parameters.length) = some 2 := by decide +kernel
abbrev wX1_calledAtOf : List Cond := Cond.code yX1_calledAtOf cX1_calledAtOf 3 (Option.some Jvm.ClassFile.FieldType.int) :: xTs
theorem xd_X1_calledAtOf : yX1_calledAtOf.cls ≠ "java/lang/invoke/MethodHandle" ∧ yX1_calledAtOf.cls ≠ "java/lang/invoke/VarHandle" ∧ (parseMethodDescriptor yX1_calledAtOf.desc).map (fun d => d.parameters.length) = some 1 := by decide +kernel
abbrev wX6_countHinderers : List Cond := Cond.code yX6_countHinderers cX6_countHinderers 8 (Option.some Jvm.ClassFile.FieldType.int) :: xTs
theorem xd_X6_countHinderers : yX6_countHinderers.cls ≠ "java/lang/invoke/MethodHandle" ∧ yX6_countHinderers.cls ≠ "java/lang/invoke/VarHandle" ∧ (parseMethodDescriptor yX6_countHinderers.desc).map (fun d => d.parameters.length) = some 4 := by decide +kernel
abbrev wX3_isWarned : List Cond := Cond.code yX3_isWarned cX3_isWarned 4 (Option.some Jvm.ClassFile.FieldType.boolean) :: xTs
theorem xd_X3_isWarned : yX3_isWarned.cls ≠ "java/lang/invoke/MethodHandle" ∧ yX3_isWarned.cls ≠ "java/lang/invoke/VarHandle" ∧ (parseMethodDescriptor yX3_isWarned.desc).map (fun d => d.parameters.length) = some 2 := by decide +kernel
abbrev wX3_askedAtOf : List Cond := Cond.code yX3_askedAtOf cX3_askedAtOf 2 (Option.some Jvm.ClassFile.FieldType.int) :: xTs
theorem xd_X3_askedAtOf : yX3_askedAtOf.cls ≠ "java/lang/invoke/MethodHandle" ∧ yX3_askedAtOf.cls ≠ "java/lang/invoke/VarHandle" ∧ (parseMethodDescriptor yX3_askedAtOf.desc).map (fun d => d.parameters.length) = some 1 := by decide +kernel
abbrev wX3_hasAnswered : List Cond := Cond.code yX3_hasAnswered cX3_hasAnswered 2 (Option.some Jvm.ClassFile.FieldType.boolean) :: xTs
theorem xd_X3_hasAnswered : yX3_hasAnswered.cls ≠ "java/lang/invoke/MethodHandle" ∧ yX3_hasAnswered.cls ≠ "java/lang/invoke/VarHandle" ∧ (parseMethodDescriptor yX3_hasAnswered.desc).map (fun d => d.parameters.length) = some 1 := by decide +kernel
abbrev wX6_isCallerThen : List Cond := Cond.code yX6_isCallerThen cX6_isCallerThen 5 (Option.some Jvm.ClassFile.FieldType.boolean) :: xTs
theorem xd_X6_isCallerThen : yX6_isCallerThen.cls ≠ "java/lang/invoke/MethodHandle" ∧ yX6_isCallerThen.cls ≠ "java/lang/invoke/VarHandle" ∧ (parseMethodDescriptor yX6_isCallerThen.desc).map (fun d => d.parameters.length) = some 4 := by decide +kernel
abbrev wX6_findRoute : List Cond := Cond.code yX6_findRoute cX6_findRoute 5 (Option.some Jvm.ClassFile.FieldType.boolean) :: xTs
theorem xd_X6_findRoute : yX6_findRoute.cls ≠ "java/lang/invoke/MethodHandle" ∧ yX6_findRoute.cls ≠ "java/lang/invoke/VarHandle" ∧ (parseMethodDescriptor yX6_findRoute.desc).map (fun d => d.parameters.length) = some 3 := by decide +kernel
abbrev wX6_completes : List Cond := Cond.code yX6_completes cX6_completes 7 (Option.some Jvm.ClassFile.FieldType.boolean) :: xTs
theorem xd_X6_completes : yX6_completes.cls ≠ "java/lang/invoke/MethodHandle" ∧ yX6_completes.cls ≠ "java/lang/invoke/VarHandle" ∧ (parseMethodDescriptor yX6_completes.desc).map (fun d => d.parameters.length) = some 5 := by decide +kernel
abbrev wX6_fits : List Cond := Cond.code yX6_fits cX6_fits 3 (Option.some Jvm.ClassFile.FieldType.boolean) :: xTs
theorem xd_X6_fits : yX6_fits.cls ≠ "java/lang/invoke/MethodHandle" ∧ yX6_fits.cls ≠ "java/lang/invoke/VarHandle" ∧ (parseMethodDescriptor yX6_fits.desc).map (fun d => d.parameters.length) = some 3 := by decide +kernel
abbrev wX0_makesOf : List Cond := Cond.code yX0_makesOf cX0_makesOf 2 (Option.some Jvm.ClassFile.FieldType.int) :: xTs
theorem xd_X0_makesOf : yX0_makesOf.cls ≠ "java/lang/invoke/MethodHandle" ∧ yX0_makesOf.cls ≠ "java/lang/invoke/VarHandle" ∧ (parseMethodDescriptor yX0_makesOf.desc).map (fun d => d.parameters.length) = some 1 := by decide +kernel
abbrev wX6_countGeneratedFor : List Cond := Cond.code yX6_countGeneratedFor cX6_countGeneratedFor 5 (Option.some Jvm.ClassFile.FieldType.int) :: xTs
theorem xd_X6_countGeneratedFor : yX6_countGeneratedFor.cls ≠ "java/lang/invoke/MethodHandle" ∧ yX6_countGeneratedFor.cls ≠ "java/lang/invoke/VarHandle" ∧ (parseMethodDescriptor yX6_countGeneratedFor.desc).map (fun d => d.parameters.length) = some 1 := by decide +kernel
abbrev wX6_isCompatible : List Cond := Cond.code yX6_isCompatible cX6_isCompatible 6 (Option.some Jvm.ClassFile.FieldType.boolean) :: xTs
theorem xd_X6_isCompatible : yX6_isCompatible.cls ≠ "java/lang/invoke/MethodHandle" ∧ yX6_isCompatible.cls ≠ "java/lang/invoke/VarHandle" ∧ (parseMethodDescriptor yX6_isCompatible.desc).map (fun d => d.parameters.length) = some 3 := by decide +kernel
abbrev wX6_client : List Cond := Cond.code yX6_client cX6_client 6 (Option.some Jvm.ClassFile.FieldType.int) :: xTs
theorem xd_X6_client : yX6_client.cls ≠ "java/lang/invoke/MethodHandle" ∧ yX6_client.cls ≠ "java/lang/invoke/VarHandle" ∧ (parseMethodDescriptor yX6_client.desc).map (fun d => d.parameters.length) = some 4 := by decide +kernel
abbrev wX6_isOwner : List Cond := Cond.code yX6_isOwner cX6_isOwner 1 (Option.some Jvm.ClassFile.FieldType.boolean) :: xTs
theorem xd_X6_isOwner : yX6_isOwner.cls ≠ "java/lang/invoke/MethodHandle" ∧ yX6_isOwner.cls ≠ "java/lang/invoke/VarHandle" ∧ (parseMethodDescriptor yX6_isOwner.desc).map (fun d => d.parameters.length) = some 1 := by decide +kernel
abbrev wX1_init : List Cond := Cond.code yX1_init cX1_init 4 (Option.none : Option Jvm.ClassFile.FieldType) :: xTs
theorem xd_X1_init : yX1_init.cls ≠ "java/lang/invoke/MethodHandle" ∧ yX1_init.cls ≠ "java/lang/invoke/VarHandle" ∧ (parseMethodDescriptor yX1_init.desc).map (fun d => d.parameters.length) = some 3 := by decide +kernel
abbrev wX6_again : List Cond := Cond.code yX6_again cX6_again 5 (Option.some Jvm.ClassFile.FieldType.int) :: xTs
theorem xd_X6_again : yX6_again.cls ≠ "java/lang/invoke/MethodHandle" ∧ yX6_again.cls ≠ "java/lang/invoke/VarHandle" ∧ (parseMethodDescriptor yX6_again.desc).map (fun d => d.parameters.length) = some 2 := by decide +kernel
abbrev wX6_clientAt : List Cond := Cond.code yX6_clientAt cX6_clientAt 2 (Option.some (Jvm.ClassFile.FieldType.object "ServiceApiary$Client")) :: xTs
theorem xd_X6_clientAt : yX6_clientAt.cls ≠ "java/lang/invoke/MethodHandle" ∧ yX6_clientAt.cls ≠ "java/lang/invoke/VarHandle" ∧ (parseMethodDescriptor yX6_clientAt.desc).map (fun d => d.parameters.length) = some 1 := by decide +kernel
abbrev wX5_usesAgain : List Cond := Cond.code yX5_usesAgain cX5_usesAgain 2 (Option.some Jvm.ClassFile.FieldType.int) :: xTs
theorem xd_X5_usesAgain : yX5_usesAgain.cls ≠ "java/lang/invoke/MethodHandle" ∧ yX5_usesAgain.cls ≠ "java/lang/invoke/VarHandle" ∧ (parseMethodDescriptor yX5_usesAgain.desc).map (fun d => d.parameters.length) = some 1 := by decide +kernel
abbrev wX6_adapter : List Cond := Cond.code yX6_adapter cX6_adapter 8 (Option.some Jvm.ClassFile.FieldType.int) :: xTs
theorem xd_X6_adapter : yX6_adapter.cls ≠ "java/lang/invoke/MethodHandle" ∧ yX6_adapter.cls ≠ "java/lang/invoke/VarHandle" ∧ (parseMethodDescriptor yX6_adapter.desc).map (fun d => d.parameters.length) = some 5 := by decide +kernel
abbrev wX0_init : List Cond := Cond.code yX0_init cX0_init 5 (Option.none : Option Jvm.ClassFile.FieldType) :: xTs
theorem xd_X0_init : yX0_init.cls ≠ "java/lang/invoke/MethodHandle" ∧ yX0_init.cls ≠ "java/lang/invoke/VarHandle" ∧ (parseMethodDescriptor yX0_init.desc).map (fun d => d.parameters.length) = some 4 := by decide +kernel
abbrev wX6_ofClient : List Cond := Cond.code yX6_ofClient cX6_ofClient 4 (Option.some Jvm.ClassFile.FieldType.int) :: xTs
theorem xd_X6_ofClient : yX6_ofClient.cls ≠ "java/lang/invoke/MethodHandle" ∧ yX6_ofClient.cls ≠ "java/lang/invoke/VarHandle" ∧ (parseMethodDescriptor yX6_ofClient.desc).map (fun d => d.parameters.length) = some 2 := by decide +kernel
abbrev wX6_clientFact : List Cond := Cond.code yX6_clientFact cX6_clientFact 3 (Option.some Jvm.ClassFile.FieldType.int) :: xTs
theorem xd_X6_clientFact : yX6_clientFact.cls ≠ "java/lang/invoke/MethodHandle" ∧ yX6_clientFact.cls ≠ "java/lang/invoke/VarHandle" ∧ (parseMethodDescriptor yX6_clientFact.desc).map (fun d => d.parameters.length) = some 2 := by decide +kernel
abbrev wX6_findOwnRoute : List Cond := Cond.code yX6_findOwnRoute cX6_findOwnRoute 2 (Option.some Jvm.ClassFile.FieldType.boolean) :: xTs
theorem xd_X6_findOwnRoute : yX6_findOwnRoute.cls ≠ "java/lang/invoke/MethodHandle" ∧ yX6_findOwnRoute.cls ≠ "java/lang/invoke/VarHandle" ∧ (parseMethodDescriptor yX6_findOwnRoute.desc).map (fun d => d.parameters.length) = some 1 := by decide +kernel
abbrev wX6_call : List Cond := Cond.code yX6_call cX6_call 6 (Option.some Jvm.ClassFile.FieldType.int) :: xTs
theorem xd_X6_call : yX6_call.cls ≠ "java/lang/invoke/MethodHandle" ∧ yX6_call.cls ≠ "java/lang/invoke/VarHandle" ∧ (parseMethodDescriptor yX6_call.desc).map (fun d => d.parameters.length) = some 2 := by decide +kernel
abbrev wX6_isServedCall : List Cond := Cond.code yX6_isServedCall cX6_isServedCall 5 (Option.some Jvm.ClassFile.FieldType.boolean) :: xTs
theorem xd_X6_isServedCall : yX6_isServedCall.cls ≠ "java/lang/invoke/MethodHandle" ∧ yX6_isServedCall.cls ≠ "java/lang/invoke/VarHandle" ∧ (parseMethodDescriptor yX6_isServedCall.desc).map (fun d => d.parameters.length) = some 1 := by decide +kernel
abbrev wX3_ask : List Cond := Cond.code yX3_ask cX3_ask 3 (Option.some Jvm.ClassFile.FieldType.boolean) :: xTs
theorem xd_X3_ask : yX3_ask.cls ≠ "java/lang/invoke/MethodHandle" ∧ yX3_ask.cls ≠ "java/lang/invoke/VarHandle" ∧ (parseMethodDescriptor yX3_ask.desc).map (fun d => d.parameters.length) = some 2 := by decide +kernel
abbrev wX1_servedThisHourBy : List Cond := Cond.code yX1_servedThisHourBy cX1_servedThisHourBy 3 (Option.some Jvm.ClassFile.FieldType.int) :: xTs
theorem xd_X1_servedThisHourBy : yX1_servedThisHourBy.cls ≠ "java/lang/invoke/MethodHandle" ∧ yX1_servedThisHourBy.cls ≠ "java/lang/invoke/VarHandle" ∧ (parseMethodDescriptor yX1_servedThisHourBy.desc).map (fun d => d.parameters.length) = some 1 := by decide +kernel
abbrev wX6_outcomeOf : List Cond := Cond.code yX6_outcomeOf cX6_outcomeOf 6 (Option.some Jvm.ClassFile.FieldType.int) :: xTs
theorem xd_X6_outcomeOf : yX6_outcomeOf.cls ≠ "java/lang/invoke/MethodHandle" ∧ yX6_outcomeOf.cls ≠ "java/lang/invoke/VarHandle" ∧ (parseMethodDescriptor yX6_outcomeOf.desc).map (fun d => d.parameters.length) = some 4 := by decide +kernel
abbrev wX3_isBrownedOut : List Cond := Cond.code yX3_isBrownedOut cX3_isBrownedOut 3 (Option.some Jvm.ClassFile.FieldType.boolean) :: xTs
theorem xd_X3_isBrownedOut : yX3_isBrownedOut.cls ≠ "java/lang/invoke/MethodHandle" ∧ yX3_isBrownedOut.cls ≠ "java/lang/invoke/VarHandle" ∧ (parseMethodDescriptor yX3_isBrownedOut.desc).map (fun d => d.parameters.length) = some 1 := by decide +kernel
abbrev wX3_quota : List Cond := Cond.code yX3_quota cX3_quota 2 (Option.some Jvm.ClassFile.FieldType.int) :: xTs
theorem xd_X3_quota : yX3_quota.cls ≠ "java/lang/invoke/MethodHandle" ∧ yX3_quota.cls ≠ "java/lang/invoke/VarHandle" ∧ (parseMethodDescriptor yX3_quota.desc).map (fun d => d.parameters.length) = some 1 := by decide +kernel
abbrev wX1_noteCall : List Cond := Cond.code yX1_noteCall cX1_noteCall 4 (Option.none : Option Jvm.ClassFile.FieldType) :: xTs
theorem xd_X1_noteCall : yX1_noteCall.cls ≠ "java/lang/invoke/MethodHandle" ∧ yX1_noteCall.cls ≠ "java/lang/invoke/VarHandle" ∧ (parseMethodDescriptor yX1_noteCall.desc).map (fun d => d.parameters.length) = some 2 := by decide +kernel
abbrev wX6_lastCall : List Cond := Cond.code yX6_lastCall cX6_lastCall 5 (Option.some Jvm.ClassFile.FieldType.int) :: xTs
theorem xd_X6_lastCall : yX6_lastCall.cls ≠ "java/lang/invoke/MethodHandle" ∧ yX6_lastCall.cls ≠ "java/lang/invoke/VarHandle" ∧ (parseMethodDescriptor yX6_lastCall.desc).map (fun d => d.parameters.length) = some 2 := by decide +kernel
abbrev wX6_hoursSinceCall : List Cond := Cond.code yX6_hoursSinceCall cX6_hoursSinceCall 4 (Option.some Jvm.ClassFile.FieldType.int) :: xTs
theorem xd_X6_hoursSinceCall : yX6_hoursSinceCall.cls ≠ "java/lang/invoke/MethodHandle" ∧ yX6_hoursSinceCall.cls ≠ "java/lang/invoke/VarHandle" ∧ (parseMethodDescriptor yX6_hoursSinceCall.desc).map (fun d => d.parameters.length) = some 2 := by decide +kernel
abbrev wX6_retire : List Cond := Cond.code yX6_retire cX6_retire 5 (Option.some Jvm.ClassFile.FieldType.int) :: xTs
theorem xd_X6_retire : yX6_retire.cls ≠ "java/lang/invoke/MethodHandle" ∧ yX6_retire.cls ≠ "java/lang/invoke/VarHandle" ∧ (parseMethodDescriptor yX6_retire.desc).map (fun d => d.parameters.length) = some 3 := by decide +kernel
abbrev wX6_startRetirement : List Cond := Cond.code yX6_startRetirement cX6_startRetirement 7 (Option.some Jvm.ClassFile.FieldType.int) :: xTs
theorem xd_X6_startRetirement : yX6_startRetirement.cls ≠ "java/lang/invoke/MethodHandle" ∧ yX6_startRetirement.cls ≠ "java/lang/invoke/VarHandle" ∧ (parseMethodDescriptor yX6_startRetirement.desc).map (fun d => d.parameters.length) = some 3 := by decide +kernel
abbrev wX3_start : List Cond := Cond.code yX3_start cX3_start 3 (Option.none : Option Jvm.ClassFile.FieldType) :: xTs
theorem xd_X3_start : yX3_start.cls ≠ "java/lang/invoke/MethodHandle" ∧ yX3_start.cls ≠ "java/lang/invoke/VarHandle" ∧ (parseMethodDescriptor yX3_start.desc).map (fun d => d.parameters.length) = some 2 := by decide +kernel
abbrev wX3_clear : List Cond := Cond.code yX3_clear cX3_clear 1 (Option.none : Option Jvm.ClassFile.FieldType) :: xTs
theorem xd_X3_clear : yX3_clear.cls ≠ "java/lang/invoke/MethodHandle" ∧ yX3_clear.cls ≠ "java/lang/invoke/VarHandle" ∧ (parseMethodDescriptor yX3_clear.desc).map (fun d => d.parameters.length) = some 0 := by decide +kernel
abbrev wX6_answer : List Cond := Cond.code yX6_answer cX6_answer 6 (Option.some Jvm.ClassFile.FieldType.boolean) :: xTs
theorem xd_X6_answer : yX6_answer.cls ≠ "java/lang/invoke/MethodHandle" ∧ yX6_answer.cls ≠ "java/lang/invoke/VarHandle" ∧ (parseMethodDescriptor yX6_answer.desc).map (fun d => d.parameters.length) = some 3 := by decide +kernel
abbrev wX6_asked : List Cond := Cond.code yX6_asked cX6_asked 5 (Option.some Jvm.ClassFile.FieldType.int) :: xTs
theorem xd_X6_asked : yX6_asked.cls ≠ "java/lang/invoke/MethodHandle" ∧ yX6_asked.cls ≠ "java/lang/invoke/VarHandle" ∧ (parseMethodDescriptor yX6_asked.desc).map (fun d => d.parameters.length) = some 3 := by decide +kernel
abbrev wX6_askedState : List Cond := Cond.code yX6_askedState cX6_askedState 4 (Option.some Jvm.ClassFile.FieldType.int) :: xTs
theorem xd_X6_askedState : yX6_askedState.cls ≠ "java/lang/invoke/MethodHandle" ∧ yX6_askedState.cls ≠ "java/lang/invoke/VarHandle" ∧ (parseMethodDescriptor yX6_askedState.desc).map (fun d => d.parameters.length) = some 2 := by decide +kernel
abbrev wX6_many : List Cond := Cond.code yX6_many cX6_many 2 (Option.some Jvm.ClassFile.FieldType.int) :: xTs
theorem xd_X6_many : yX6_many.cls ≠ "java/lang/invoke/MethodHandle" ∧ yX6_many.cls ≠ "java/lang/invoke/VarHandle" ∧ (parseMethodDescriptor yX6_many.desc).map (fun d => d.parameters.length) = some 1 := by decide +kernel
abbrev wX6_countOf : List Cond := Cond.code yX6_countOf cX6_countOf 2 (Option.some Jvm.ClassFile.FieldType.int) :: xTs
theorem xd_X6_countOf : yX6_countOf.cls ≠ "java/lang/invoke/MethodHandle" ∧ yX6_countOf.cls ≠ "java/lang/invoke/VarHandle" ∧ (parseMethodDescriptor yX6_countOf.desc).map (fun d => d.parameters.length) = some 1 := by decide +kernel
abbrev wX6_countVersions : List Cond := Cond.code yX6_countVersions cX6_countVersions 6 (Option.some Jvm.ClassFile.FieldType.int) :: xTs
theorem xd_X6_countVersions : yX6_countVersions.cls ≠ "java/lang/invoke/MethodHandle" ∧ yX6_countVersions.cls ≠ "java/lang/invoke/VarHandle" ∧ (parseMethodDescriptor yX6_countVersions.desc).map (fun d => d.parameters.length) = some 1 := by decide +kernel
abbrev wX6_wouldCome : List Cond := Cond.code yX6_wouldCome cX6_wouldCome 4 (Option.some Jvm.ClassFile.FieldType.int) :: xTs
theorem xd_X6_wouldCome : yX6_wouldCome.cls ≠ "java/lang/invoke/MethodHandle" ∧ yX6_wouldCome.cls ≠ "java/lang/invoke/VarHandle" ∧ (parseMethodDescriptor yX6_wouldCome.desc).map (fun d => d.parameters.length) = some 2 := by decide +kernel
abbrev wX6_outcomeIn : List Cond := Cond.code yX6_outcomeIn cX6_outcomeIn 6 (Option.some Jvm.ClassFile.FieldType.int) :: xTs
theorem xd_X6_outcomeIn : yX6_outcomeIn.cls ≠ "java/lang/invoke/MethodHandle" ∧ yX6_outcomeIn.cls ≠ "java/lang/invoke/VarHandle" ∧ (parseMethodDescriptor yX6_outcomeIn.desc).map (fun d => d.parameters.length) = some 2 := by decide +kernel
abbrev wX6_hoursTillGone : List Cond := Cond.code yX6_hoursTillGone cX6_hoursTillGone 6 (Option.some Jvm.ClassFile.FieldType.int) :: xTs
theorem xd_X6_hoursTillGone : yX6_hoursTillGone.cls ≠ "java/lang/invoke/MethodHandle" ∧ yX6_hoursTillGone.cls ≠ "java/lang/invoke/VarHandle" ∧ (parseMethodDescriptor yX6_hoursTillGone.desc).map (fun d => d.parameters.length) = some 3 := by decide +kernel
abbrev wX6_target : List Cond := Cond.code yX6_target cX6_target 3 (Option.some Jvm.ClassFile.FieldType.int) :: xTs
theorem xd_X6_target : yX6_target.cls ≠ "java/lang/invoke/MethodHandle" ∧ yX6_target.cls ≠ "java/lang/invoke/VarHandle" ∧ (parseMethodDescriptor yX6_target.desc).map (fun d => d.parameters.length) = some 1 := by decide +kernel
abbrev wX6_nearestOpen : List Cond := Cond.code yX6_nearestOpen cX6_nearestOpen 7 (Option.some Jvm.ClassFile.FieldType.int) :: xTs
theorem xd_X6_nearestOpen : yX6_nearestOpen.cls ≠ "java/lang/invoke/MethodHandle" ∧ yX6_nearestOpen.cls ≠ "java/lang/invoke/VarHandle" ∧ (parseMethodDescriptor yX6_nearestOpen.desc).map (fun d => d.parameters.length) = some 1 := by decide +kernel
abbrev wJ6_bitCount_0f7a4 : List Cond := Cond.code yJ6_bitCount_0f7a4 cJ6_bitCount_0f7a4 1 (Option.some Jvm.ClassFile.FieldType.int) :: xTs
theorem xd_J6_bitCount_0f7a4 : yJ6_bitCount_0f7a4.cls ≠ "java/lang/invoke/MethodHandle" ∧ yJ6_bitCount_0f7a4.cls ≠ "java/lang/invoke/VarHandle" ∧ (parseMethodDescriptor yJ6_bitCount_0f7a4.desc).map (fun d => d.parameters.length) = some 1 := by decide +kernel
abbrev wX6_digest : List Cond := Cond.code yX6_digest cX6_digest 6 (Option.some Jvm.ClassFile.FieldType.long) :: xTs
theorem xd_X6_digest : yX6_digest.cls ≠ "java/lang/invoke/MethodHandle" ∧ yX6_digest.cls ≠ "java/lang/invoke/VarHandle" ∧ (parseMethodDescriptor yX6_digest.desc).map (fun d => d.parameters.length) = some 0 := by decide +kernel
abbrev wX6_digestVersion : List Cond := Cond.code yX6_digestVersion cX6_digestVersion 7 (Option.some Jvm.ClassFile.FieldType.long) :: xTs
theorem xd_X6_digestVersion : yX6_digestVersion.cls ≠ "java/lang/invoke/MethodHandle" ∧ yX6_digestVersion.cls ≠ "java/lang/invoke/VarHandle" ∧ (parseMethodDescriptor yX6_digestVersion.desc).map (fun d => d.parameters.length) = some 2 := by decide +kernel
abbrev wX6_hoursLeft : List Cond := Cond.code yX6_hoursLeft cX6_hoursLeft 2 (Option.some Jvm.ClassFile.FieldType.int) :: xTs
theorem xd_X6_hoursLeft : yX6_hoursLeft.cls ≠ "java/lang/invoke/MethodHandle" ∧ yX6_hoursLeft.cls ≠ "java/lang/invoke/VarHandle" ∧ (parseMethodDescriptor yX6_hoursLeft.desc).map (fun d => d.parameters.length) = some 1 := by decide +kernel
abbrev wX6_digestClient : List Cond := Cond.code yX6_digestClient cX6_digestClient 8 (Option.some Jvm.ClassFile.FieldType.long) :: xTs
theorem xd_X6_digestClient : yX6_digestClient.cls ≠ "java/lang/invoke/MethodHandle" ∧ yX6_digestClient.cls ≠ "java/lang/invoke/VarHandle" ∧ (parseMethodDescriptor yX6_digestClient.desc).map (fun d => d.parameters.length) = some 2 := by decide +kernel
abbrev wL_below : List Cond := Cond.code yL_below cL_below 2 (Option.some Jvm.ClassFile.FieldType.int) :: xTs
theorem xd_L_below : yL_below.cls ≠ "java/lang/invoke/MethodHandle" ∧ yL_below.cls ≠ "java/lang/invoke/VarHandle" ∧ (parseMethodDescriptor yL_below.desc).map (fun d => d.parameters.length) = some 2 := by decide +kernel
abbrev wL_cell : List Cond := Cond.code yL_cell cL_cell 2 (Option.some Jvm.ClassFile.FieldType.int) :: xTs
theorem xd_L_cell : yL_cell.cls ≠ "java/lang/invoke/MethodHandle" ∧ yL_cell.cls ≠ "java/lang/invoke/VarHandle" ∧ (parseMethodDescriptor yL_cell.desc).map (fun d => d.parameters.length) = some 2 := by decide +kernel
abbrev wL_isKind : List Cond := Cond.code yL_isKind cL_isKind 12 (Option.some Jvm.ClassFile.FieldType.boolean) :: xTs
theorem xd_L_isKind : yL_isKind.cls ≠ "java/lang/invoke/MethodHandle" ∧ yL_isKind.cls ≠ "java/lang/invoke/VarHandle" ∧ (parseMethodDescriptor yL_isKind.desc).map (fun d => d.parameters.length) = some 3 := by decide +kernel
abbrev wX6_pass : List Cond := Cond.code yX6_pass cX6_pass 4 (Option.some Jvm.ClassFile.FieldType.int) :: xTs
theorem xd_X6_pass : yX6_pass.cls ≠ "java/lang/invoke/MethodHandle" ∧ yX6_pass.cls ≠ "java/lang/invoke/VarHandle" ∧ (parseMethodDescriptor yX6_pass.desc).map (fun d => d.parameters.length) = some 1 := by decide +kernel
abbrev wX6_beginHour : List Cond := Cond.code yX6_beginHour cX6_beginHour 5 (Option.some Jvm.ClassFile.FieldType.int) :: xTs
theorem xd_X6_beginHour : yX6_beginHour.cls ≠ "java/lang/invoke/MethodHandle" ∧ yX6_beginHour.cls ≠ "java/lang/invoke/VarHandle" ∧ (parseMethodDescriptor yX6_beginHour.desc).map (fun d => d.parameters.length) = some 0 := by decide +kernel
abbrev wX6_isGoneAtEnd : List Cond := Cond.code yX6_isGoneAtEnd cX6_isGoneAtEnd 2 (Option.some Jvm.ClassFile.FieldType.boolean) :: xTs
theorem xd_X6_isGoneAtEnd : yX6_isGoneAtEnd.cls ≠ "java/lang/invoke/MethodHandle" ∧ yX6_isGoneAtEnd.cls ≠ "java/lang/invoke/VarHandle" ∧ (parseMethodDescriptor yX6_isGoneAtEnd.desc).map (fun d => d.parameters.length) = some 1 := by decide +kernel
