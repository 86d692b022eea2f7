set_option maxRecDepth 100000 in
theorem zm_0 : Jvm.Cond.selects "ZipGuard$Unpacker" ({ cls := "ZipGuard$Unpacker", name := "buildFixedCodes", desc := "()V" } : Jvm.MethodName) ({ cls := "ZipGuard$Unpacker", name := "buildFixedCodes", desc := "()V" } : Jvm.MethodName) ∈ zt := zt_mp (List.mem_of_getElem? (i := 0) rfl)
set_option maxRecDepth 100000 in
theorem zm_66 : Jvm.Cond.initialized "ZipGuard$Tape" ∈ zt := zt_m1 (List.mem_of_getElem? (i := 2) rfl)
set_option maxRecDepth 100000 in
theorem zm_67 : Jvm.Cond.initialized "ZipGuard$Directory" ∈ zt := zt_m1 (List.mem_of_getElem? (i := 3) rfl)
set_option maxRecDepth 100000 in
theorem zm_68 : Jvm.Cond.initialized "ZipGuard$Entry" ∈ zt := zt_m1 (List.mem_of_getElem? (i := 4) rfl)
set_option maxRecDepth 100000 in
theorem zm_69 : Jvm.Cond.initialized "ZipGuard$Target" ∈ zt := zt_m1 (List.mem_of_getElem? (i := 5) rfl)
set_option maxRecDepth 100000 in
theorem zm_70 : Jvm.Cond.initialized "ZipGuard$Unpacker" ∈ zt := zt_m1 (List.mem_of_getElem? (i := 6) rfl)
set_option maxRecDepth 100000 in
theorem zm_71 : Jvm.Cond.initialized "ZipGuard$BitReader" ∈ zt := zt_m1 (List.mem_of_getElem? (i := 7) rfl)
set_option maxRecDepth 100000 in
theorem zm_72 : Jvm.Cond.initialized "ZipGuard$CodeSet" ∈ zt := zt_m1 (List.mem_of_getElem? (i := 8) rfl)
set_option maxRecDepth 100000 in
theorem zm_86 : Jvm.Cond.methodLink "ZipGuard" (1 : Nat) ({ cls := "java/lang/Object", name := "<init>", desc := "()V" } : Jvm.MethodName) ∈ zt := zt_m1 (List.mem_of_getElem? (i := 22) rfl)
set_option maxRecDepth 100000 in
theorem zm_89 : Jvm.Cond.classLink "ZipGuard" (7 : Nat) "ZipGuard$Tape" ∈ zt := zt_m1 (List.mem_of_getElem? (i := 25) rfl)
set_option maxRecDepth 100000 in
theorem zm_90 : Jvm.Cond.instantiable "ZipGuard$Tape" (2 : Nat) ∈ zt := zt_m1 (List.mem_of_getElem? (i := 26) rfl)
set_option maxRecDepth 100000 in
theorem zm_91 : Jvm.Cond.methodLink "ZipGuard" (9 : Nat) ({ cls := "ZipGuard$Tape", name := "<init>", desc := "()V" } : Jvm.MethodName) ∈ zt := zt_m1 (List.mem_of_getElem? (i := 27) rfl)
set_option maxRecDepth 100000 in
theorem zm_92 : Jvm.Cond.instanceMethod ({ cls := "ZipGuard$Tape", name := "<init>", desc := "()V" } : Jvm.MethodName) ∈ zt := zt_m1 (List.mem_of_getElem? (i := 28) rfl)
set_option maxRecDepth 100000 in
theorem zm_93 : Jvm.Cond.code ({ cls := "ZipGuard$Tape", name := "<init>", desc := "()V" } : Jvm.MethodName) prog_6_method_1_code (1 : Nat) (Option.none : Option Jvm.ClassFile.FieldType) ∈ zt := zt_m1 (List.mem_of_getElem? (i := 29) rfl)
set_option maxRecDepth 100000 in
theorem zm_106 : Jvm.Cond.classLink "ZipGuard" (16 : Nat) "ZipGuard$Directory" ∈ zt := zt_m1 (List.mem_of_getElem? (i := 42) rfl)
set_option maxRecDepth 100000 in
theorem zm_107 : Jvm.Cond.instantiable "ZipGuard$Directory" (5 : Nat) ∈ zt := zt_m1 (List.mem_of_getElem? (i := 43) rfl)
set_option maxRecDepth 100000 in
theorem zm_108 : Jvm.Cond.methodLink "ZipGuard" (18 : Nat) ({ cls := "ZipGuard$Directory", name := "<init>", desc := "(LZipGuard$Tape;)V" } : Jvm.MethodName) ∈ zt := zt_m1 (List.mem_of_getElem? (i := 44) rfl)
set_option maxRecDepth 100000 in
theorem zm_109 : Jvm.Cond.instanceMethod ({ cls := "ZipGuard$Directory", name := "<init>", desc := "(LZipGuard$Tape;)V" } : Jvm.MethodName) ∈ zt := zt_m1 (List.mem_of_getElem? (i := 45) rfl)
set_option maxRecDepth 100000 in
theorem zm_110 : Jvm.Cond.code ({ cls := "ZipGuard$Directory", name := "<init>", desc := "(LZipGuard$Tape;)V" } : Jvm.MethodName) prog_4_method_1_code (3 : Nat) (Option.none : Option Jvm.ClassFile.FieldType) ∈ zt := zt_m1 (List.mem_of_getElem? (i := 46) rfl)
set_option maxRecDepth 100000 in
theorem zm_111 : Jvm.Cond.methodLink "ZipGuard$Directory" (3 : Nat) ({ cls := "java/lang/Object", name := "<init>", desc := "()V" } : Jvm.MethodName) ∈ zt := zt_m1 (List.mem_of_getElem? (i := 47) rfl)
set_option maxRecDepth 100000 in
theorem zm_112 : Jvm.Cond.classLink "ZipGuard$Directory" (15 : Nat) "ZipGuard$Entry" ∈ zt := zt_m1 (List.mem_of_getElem? (i := 48) rfl)
set_option maxRecDepth 100000 in
theorem zm_113 : Jvm.Cond.instantiable "ZipGuard$Entry" (12 : Nat) ∈ zt := zt_m1 (List.mem_of_getElem? (i := 49) rfl)
set_option maxRecDepth 100000 in
theorem zm_114 : Jvm.Cond.methodLink "ZipGuard$Directory" (21 : Nat) ({ cls := "ZipGuard$Entry", name := "<init>", desc := "()V" } : Jvm.MethodName) ∈ zt := zt_m1 (List.mem_of_getElem? (i := 50) rfl)
set_option maxRecDepth 100000 in
theorem zm_115 : Jvm.Cond.instanceMethod ({ cls := "ZipGuard$Entry", name := "<init>", desc := "()V" } : Jvm.MethodName) ∈ zt := zt_m1 (List.mem_of_getElem? (i := 51) rfl)
set_option maxRecDepth 100000 in
theorem zm_116 : Jvm.Cond.code ({ cls := "ZipGuard$Entry", name := "<init>", desc := "()V" } : Jvm.MethodName) prog_5_method_1_code (1 : Nat) (Option.none : Option Jvm.ClassFile.FieldType) ∈ zt := zt_m1 (List.mem_of_getElem? (i := 52) rfl)
set_option maxRecDepth 100000 in
theorem zm_179 : Jvm.Cond.fieldLink "ZipGuard$Directory" (17 : Nat) "ZipGuard$Directory" "entries" "[LZipGuard$Entry;" ∈ zt := zt_m1 (List.mem_of_getElem? (i := 115) rfl)
set_option maxRecDepth 100000 in
theorem zm_181 : Jvm.Cond.fieldLink "ZipGuard$Directory" (22 : Nat) "ZipGuard$Directory" "count" "I" ∈ zt := zt_m1 (List.mem_of_getElem? (i := 117) rfl)
set_option maxRecDepth 100000 in
theorem zm_183 : Jvm.Cond.fieldLink "ZipGuard$Directory" (26 : Nat) "ZipGuard$Directory" "isOpen" "Z" ∈ zt := zt_m1 (List.mem_of_getElem? (i := 119) rfl)
set_option maxRecDepth 100000 in
theorem zm_185 : Jvm.Cond.fieldLink "ZipGuard$Directory" (30 : Nat) "ZipGuard$Directory" "faultPlace" "I" ∈ zt := zt_m1 (List.mem_of_getElem? (i := 121) rfl)
set_option maxRecDepth 100000 in
theorem zm_187 : Jvm.Cond.fieldLink "ZipGuard$Directory" (9 : Nat) "ZipGuard$Directory" "tape" "LZipGuard$Tape;" ∈ zt := zt_m1 (List.mem_of_getElem? (i := 123) rfl)
set_option maxRecDepth 100000 in
theorem zm_199 : Jvm.Cond.classLink "ZipGuard" (25 : Nat) "ZipGuard$Target" ∈ zt := zt_m1 (List.mem_of_getElem? (i := 135) rfl)
set_option maxRecDepth 100000 in
theorem zm_200 : Jvm.Cond.instantiable "ZipGuard$Target" (5 : Nat) ∈ zt := zt_m1 (List.mem_of_getElem? (i := 136) rfl)
set_option maxRecDepth 100000 in
theorem zm_201 : Jvm.Cond.methodLink "ZipGuard" (27 : Nat) ({ cls := "ZipGuard$Target", name := "<init>", desc := "()V" } : Jvm.MethodName) ∈ zt := zt_m1 (List.mem_of_getElem? (i := 137) rfl)
set_option maxRecDepth 100000 in
theorem zm_202 : Jvm.Cond.instanceMethod ({ cls := "ZipGuard$Target", name := "<init>", desc := "()V" } : Jvm.MethodName) ∈ zt := zt_m1 (List.mem_of_getElem? (i := 138) rfl)
set_option maxRecDepth 100000 in
theorem zm_203 : Jvm.Cond.code ({ cls := "ZipGuard$Target", name := "<init>", desc := "()V" } : Jvm.MethodName) prog_7_method_1_code (1 : Nat) (Option.none : Option Jvm.ClassFile.FieldType) ∈ zt := zt_m1 (List.mem_of_getElem? (i := 139) rfl)
set_option maxRecDepth 100000 in
theorem zm_225 : Jvm.Cond.classLink "ZipGuard" (32 : Nat) "ZipGuard$Unpacker" ∈ zt := zt_m1 (List.mem_of_getElem? (i := 161) rfl)
set_option maxRecDepth 100000 in
theorem zm_226 : Jvm.Cond.instantiable "ZipGuard$Unpacker" (8 : Nat) ∈ zt := zt_m1 (List.mem_of_getElem? (i := 162) rfl)
set_option maxRecDepth 100000 in
theorem zm_227 : Jvm.Cond.methodLink "ZipGuard" (34 : Nat) ({ cls := "ZipGuard$Unpacker", name := "<init>", desc := "(LZipGuard$Tape;LZipGuard$Target;)V" } : Jvm.MethodName) ∈ zt := zt_m1 (List.mem_of_getElem? (i := 163) rfl)
set_option maxRecDepth 100000 in
theorem zm_228 : Jvm.Cond.instanceMethod ({ cls := "ZipGuard$Unpacker", name := "<init>", desc := "(LZipGuard$Tape;LZipGuard$Target;)V" } : Jvm.MethodName) ∈ zt := zt_m1 (List.mem_of_getElem? (i := 164) rfl)
set_option maxRecDepth 100000 in
theorem zm_229 : Jvm.Cond.code ({ cls := "ZipGuard$Unpacker", name := "<init>", desc := "(LZipGuard$Tape;LZipGuard$Target;)V" } : Jvm.MethodName) prog_8_method_1_code (3 : Nat) (Option.none : Option Jvm.ClassFile.FieldType) ∈ zt := zt_m1 (List.mem_of_getElem? (i := 165) rfl)
set_option maxRecDepth 100000 in
theorem zm_230 : Jvm.Cond.methodLink "ZipGuard$Unpacker" (1 : Nat) ({ cls := "java/lang/Object", name := "<init>", desc := "()V" } : Jvm.MethodName) ∈ zt := zt_m1 (List.mem_of_getElem? (i := 166) rfl)
set_option maxRecDepth 100000 in
theorem zm_231 : Jvm.Cond.classLink "ZipGuard$Unpacker" (13 : Nat) "ZipGuard$BitReader" ∈ zt := zt_m1 (List.mem_of_getElem? (i := 167) rfl)
set_option maxRecDepth 100000 in
theorem zm_232 : Jvm.Cond.instantiable "ZipGuard$BitReader" (4 : Nat) ∈ zt := zt_m1 (List.mem_of_getElem? (i := 168) rfl)
set_option maxRecDepth 100000 in
theorem zm_233 : Jvm.Cond.methodLink "ZipGuard$Unpacker" (15 : Nat) ({ cls := "ZipGuard$BitReader", name := "<init>", desc := "(LZipGuard$Tape;)V" } : Jvm.MethodName) ∈ zt := zt_m1 (List.mem_of_getElem? (i := 169) rfl)
set_option maxRecDepth 100000 in
theorem zm_234 : Jvm.Cond.instanceMethod ({ cls := "ZipGuard$BitReader", name := "<init>", desc := "(LZipGuard$Tape;)V" } : Jvm.MethodName) ∈ zt := zt_m1 (List.mem_of_getElem? (i := 170) rfl)
set_option maxRecDepth 100000 in
theorem zm_235 : Jvm.Cond.code ({ cls := "ZipGuard$BitReader", name := "<init>", desc := "(LZipGuard$Tape;)V" } : Jvm.MethodName) prog_2_method_1_code (2 : Nat) (Option.none : Option Jvm.ClassFile.FieldType) ∈ zt := zt_m1 (List.mem_of_getElem? (i := 171) rfl)
set_option maxRecDepth 100000 in
theorem zm_250 : Jvm.Cond.classLink "ZipGuard$Unpacker" (26 : Nat) "ZipGuard$CodeSet" ∈ zt := zt_m1 (List.mem_of_getElem? (i := 186) rfl)
set_option maxRecDepth 100000 in
theorem zm_251 : Jvm.Cond.instantiable "ZipGuard$CodeSet" (4 : Nat) ∈ zt := zt_m1 (List.mem_of_getElem? (i := 187) rfl)
set_option maxRecDepth 100000 in
theorem zm_252 : Jvm.Cond.methodLink "ZipGuard$Unpacker" (28 : Nat) ({ cls := "ZipGuard$CodeSet", name := "<init>", desc := "(I)V" } : Jvm.MethodName) ∈ zt := zt_m1 (List.mem_of_getElem? (i := 188) rfl)
set_option maxRecDepth 100000 in
theorem zm_253 : Jvm.Cond.instanceMethod ({ cls := "ZipGuard$CodeSet", name := "<init>", desc := "(I)V" } : Jvm.MethodName) ∈ zt := zt_m1 (List.mem_of_getElem? (i := 189) rfl)
set_option maxRecDepth 100000 in
theorem zm_254 : Jvm.Cond.code ({ cls := "ZipGuard$CodeSet", name := "<init>", desc := "(I)V" } : Jvm.MethodName) prog_3_method_1_code (2 : Nat) (Option.none : Option Jvm.ClassFile.FieldType) ∈ zt := zt_m1 (List.mem_of_getElem? (i := 190) rfl)
set_option maxRecDepth 100000 in
theorem zm_270 : Jvm.Cond.methodLink "ZipGuard$Unpacker" (47 : Nat) ({ cls := "ZipGuard$Unpacker", name := "buildFixedCodes", desc := "()V" } : Jvm.MethodName) ∈ zt := zt_m1 (List.mem_of_getElem? (i := 206) rfl)
set_option maxRecDepth 100000 in
theorem zm_271 : Jvm.Cond.instanceMethod ({ cls := "ZipGuard$Unpacker", name := "buildFixedCodes", desc := "()V" } : Jvm.MethodName) ∈ zt := zt_m1 (List.mem_of_getElem? (i := 207) rfl)
set_option maxRecDepth 100000 in
theorem zm_272 : Jvm.Cond.code ({ cls := "ZipGuard$Unpacker", name := "buildFixedCodes", desc := "()V" } : Jvm.MethodName) prog_8_method_2_code (1 : Nat) (Option.none : Option Jvm.ClassFile.FieldType) ∈ zt := zt_m1 (List.mem_of_getElem? (i := 208) rfl)
set_option maxRecDepth 100000 in
theorem zm_273 : Jvm.Cond.methodLink "ZipGuard$Unpacker" (50 : Nat) ({ cls := "java/util/Arrays", name := "fill", desc := "([IIII)V" } : Jvm.MethodName) ∈ zt := zt_m1 (List.mem_of_getElem? (i := 209) rfl)
set_option maxRecDepth 100000 in
theorem zm_274 : Jvm.Cond.static ({ cls := "java/util/Arrays", name := "fill", desc := "([IIII)V" } : Jvm.MethodName) ∈ zt := zt_m1 (List.mem_of_getElem? (i := 210) rfl)
set_option maxRecDepth 100000 in
theorem zm_275 : Jvm.Cond.code ({ cls := "java/util/Arrays", name := "fill", desc := "([IIII)V" } : Jvm.MethodName) prog_27_method_104_code (5 : Nat) (Option.none : Option Jvm.ClassFile.FieldType) ∈ zt := zt_m1 (List.mem_of_getElem? (i := 211) rfl)
set_option maxRecDepth 100000 in
theorem zm_363 : Jvm.Cond.methodLink "ZipGuard$Unpacker" (56 : Nat) ({ cls := "ZipGuard$CodeSet", name := "build", desc := "([III)V" } : Jvm.MethodName) ∈ zt := zt_m3 (List.mem_of_getElem? (i := 35) rfl)
set_option maxRecDepth 100000 in
theorem zm_364 : Jvm.Cond.instanceMethod ({ cls := "ZipGuard$CodeSet", name := "build", desc := "([III)V" } : Jvm.MethodName) ∈ zt := zt_m3 (List.mem_of_getElem? (i := 36) rfl)
set_option maxRecDepth 100000 in
theorem zm_365 : Jvm.Cond.selects "ZipGuard$CodeSet" ({ cls := "ZipGuard$CodeSet", name := "build", desc := "([III)V" } : Jvm.MethodName) ({ cls := "ZipGuard$CodeSet", name := "build", desc := "([III)V" } : Jvm.MethodName) ∈ zt := zt_m3 (List.mem_of_getElem? (i := 37) rfl)
set_option maxRecDepth 100000 in
theorem zm_366 : Jvm.Cond.code ({ cls := "ZipGuard$CodeSet", name := "build", desc := "([III)V" } : Jvm.MethodName) prog_3_method_2_code (6 : Nat) (Option.none : Option Jvm.ClassFile.FieldType) ∈ zt := zt_m3 (List.mem_of_getElem? (i := 38) rfl)
set_option maxRecDepth 100000 in
theorem zm_370 : Jvm.Cond.fieldLink "ZipGuard$Unpacker" (7 : Nat) "ZipGuard$Unpacker" "target" "LZipGuard$Target;" ∈ zt := zt_m3 (List.mem_of_getElem? (i := 42) rfl)
set_option maxRecDepth 100000 in
theorem zm_371 : Jvm.Cond.fieldLink "ZipGuard$Unpacker" (18 : Nat) "ZipGuard$Unpacker" "bits" "LZipGuard$BitReader;" ∈ zt := zt_m3 (List.mem_of_getElem? (i := 43) rfl)
set_option maxRecDepth 100000 in
theorem zm_372 : Jvm.Cond.fieldLink "ZipGuard$Unpacker" (22 : Nat) "ZipGuard$Unpacker" "row" "[I" ∈ zt := zt_m3 (List.mem_of_getElem? (i := 44) rfl)
set_option maxRecDepth 100000 in
theorem zm_373 : Jvm.Cond.fieldLink "ZipGuard$Unpacker" (31 : Nat) "ZipGuard$Unpacker" "fixedSymbols" "LZipGuard$CodeSet;" ∈ zt := zt_m3 (List.mem_of_getElem? (i := 45) rfl)
set_option maxRecDepth 100000 in
theorem zm_374 : Jvm.Cond.fieldLink "ZipGuard$Unpacker" (35 : Nat) "ZipGuard$Unpacker" "fixedDistances" "LZipGuard$CodeSet;" ∈ zt := zt_m3 (List.mem_of_getElem? (i := 46) rfl)
set_option maxRecDepth 100000 in
theorem zm_375 : Jvm.Cond.fieldLink "ZipGuard$Unpacker" (38 : Nat) "ZipGuard$Unpacker" "lengthCodes" "LZipGuard$CodeSet;" ∈ zt := zt_m3 (List.mem_of_getElem? (i := 47) rfl)
set_option maxRecDepth 100000 in
theorem zm_376 : Jvm.Cond.fieldLink "ZipGuard$Unpacker" (41 : Nat) "ZipGuard$Unpacker" "ownSymbols" "LZipGuard$CodeSet;" ∈ zt := zt_m3 (List.mem_of_getElem? (i := 48) rfl)
set_option maxRecDepth 100000 in
theorem zm_377 : Jvm.Cond.fieldLink "ZipGuard$Unpacker" (44 : Nat) "ZipGuard$Unpacker" "ownDistances" "LZipGuard$CodeSet;" ∈ zt := zt_m3 (List.mem_of_getElem? (i := 49) rfl)
set_option maxRecDepth 100000 in
theorem zm_395 : Jvm.Cond.fieldLink "ZipGuard" (10 : Nat) "ZipGuard" "tape" "LZipGuard$Tape;" ∈ zt := zt_m3 (List.mem_of_getElem? (i := 67) rfl)
set_option maxRecDepth 100000 in
theorem zm_396 : Jvm.Cond.fieldLink "ZipGuard" (21 : Nat) "ZipGuard" "directory" "LZipGuard$Directory;" ∈ zt := zt_m3 (List.mem_of_getElem? (i := 68) rfl)
set_option maxRecDepth 100000 in
theorem zm_397 : Jvm.Cond.fieldLink "ZipGuard" (28 : Nat) "ZipGuard" "target" "LZipGuard$Target;" ∈ zt := zt_m3 (List.mem_of_getElem? (i := 69) rfl)
set_option maxRecDepth 100000 in
theorem zm_398 : Jvm.Cond.fieldLink "ZipGuard" (37 : Nat) "ZipGuard" "unpacker" "LZipGuard$Unpacker;" ∈ zt := zt_m3 (List.mem_of_getElem? (i := 70) rfl)
theorem d_D_init_0 : decode prog_4_method_1_code 0 = .ok (.aload_n 0, 1) := by decide +kernel
theorem d_D_init_1 : decode prog_4_method_1_code 1 = .ok (.invokespecial 3, 3) := by decide +kernel
theorem d_D_init_4 : decode prog_4_method_1_code 4 = .ok (.aload_n 0, 1) := by decide +kernel
theorem d_D_init_5 : decode prog_4_method_1_code 5 = .ok (.aload_n 1, 1) := by decide +kernel
theorem d_D_init_6 : decode prog_4_method_1_code 6 = .ok (.putfield 9, 3) := by decide +kernel
theorem d_D_init_9 : decode prog_4_method_1_code 9 = .ok (.aload_n 0, 1) := by decide +kernel
theorem d_D_init_10 : decode prog_4_method_1_code 10 = .ok (.bipush 64, 2) := by decide +kernel
theorem d_D_init_12 : decode prog_4_method_1_code 12 = .ok (.anewarray 15, 3) := by decide +kernel
theorem d_D_init_15 : decode prog_4_method_1_code 15 = .ok (.putfield 17, 3) := by decide +kernel
theorem d_D_init_18 : decode prog_4_method_1_code 18 = .ok (.iconst 0, 1) := by decide +kernel
theorem d_D_init_19 : decode prog_4_method_1_code 19 = .ok (.istore_n 2, 1) := by decide +kernel
theorem d_D_init_20 : decode prog_4_method_1_code 20 = .ok (.iload_n 2, 1) := by decide +kernel
theorem d_D_init_21 : decode prog_4_method_1_code 21 = .ok (.bipush 64, 2) := by decide +kernel
theorem d_D_init_23 : decode prog_4_method_1_code 23 = .ok (.if_icmp .ge 22, 3) := by decide +kernel
theorem d_D_init_26 : decode prog_4_method_1_code 26 = .ok (.aload_n 0, 1) := by decide +kernel
theorem d_D_init_27 : decode prog_4_method_1_code 27 = .ok (.getfield 17, 3) := by decide +kernel
theorem d_D_init_30 : decode prog_4_method_1_code 30 = .ok (.iload_n 2, 1) := by decide +kernel
theorem d_D_init_31 : decode prog_4_method_1_code 31 = .ok (.new 15, 3) := by decide +kernel
theorem d_D_init_34 : decode prog_4_method_1_code 34 = .ok (.dup, 1) := by decide +kernel
theorem d_D_init_35 : decode prog_4_method_1_code 35 = .ok (.invokespecial 21, 3) := by decide +kernel
theorem d_D_init_38 : decode prog_4_method_1_code 38 = .ok (.aastore, 1) := by decide +kernel
theorem d_D_init_39 : decode prog_4_method_1_code 39 = .ok (.iinc 2 1, 3) := by decide +kernel
theorem d_D_init_42 : decode prog_4_method_1_code 42 = .ok (.goto (-22), 3) := by decide +kernel
theorem d_D_init_45 : decode prog_4_method_1_code 45 = .ok (.aload_n 0, 1) := by decide +kernel
theorem d_D_init_46 : decode prog_4_method_1_code 46 = .ok (.iconst 0, 1) := by decide +kernel
theorem d_D_init_47 : decode prog_4_method_1_code 47 = .ok (.putfield 22, 3) := by decide +kernel
theorem d_D_init_50 : decode prog_4_method_1_code 50 = .ok (.aload_n 0, 1) := by decide +kernel
theorem d_D_init_51 : decode prog_4_method_1_code 51 = .ok (.iconst 0, 1) := by decide +kernel
theorem d_D_init_52 : decode prog_4_method_1_code 52 = .ok (.putfield 26, 3) := by decide +kernel
theorem d_D_init_55 : decode prog_4_method_1_code 55 = .ok (.aload_n 0, 1) := by decide +kernel
theorem d_D_init_56 : decode prog_4_method_1_code 56 = .ok (.iconst (-1), 1) := by decide +kernel
theorem d_D_init_57 : decode prog_4_method_1_code 57 = .ok (.putfield 30, 3) := by decide +kernel
theorem d_D_init_60 : decode prog_4_method_1_code 60 = .ok (.return_, 1) := by decide +kernel
theorem d_G_init_0 : decode prog_1_method_1_code 0 = .ok (.aload_n 0, 1) := by decide +kernel
theorem d_G_init_1 : decode prog_1_method_1_code 1 = .ok (.invokespecial 1, 3) := by decide +kernel
theorem d_G_init_4 : decode prog_1_method_1_code 4 = .ok (.aload_n 0, 1) := by decide +kernel
theorem d_G_init_5 : decode prog_1_method_1_code 5 = .ok (.new 7, 3) := by decide +kernel
theorem d_G_init_8 : decode prog_1_method_1_code 8 = .ok (.dup, 1) := by decide +kernel
theorem d_G_init_9 : decode prog_1_method_1_code 9 = .ok (.invokespecial 9, 3) := by decide +kernel
theorem d_G_init_12 : decode prog_1_method_1_code 12 = .ok (.putfield 10, 3) := by decide +kernel
theorem d_G_init_15 : decode prog_1_method_1_code 15 = .ok (.aload_n 0, 1) := by decide +kernel
theorem d_G_init_16 : decode prog_1_method_1_code 16 = .ok (.new 16, 3) := by decide +kernel
theorem d_G_init_19 : decode prog_1_method_1_code 19 = .ok (.dup, 1) := by decide +kernel
theorem d_G_init_20 : decode prog_1_method_1_code 20 = .ok (.aload_n 0, 1) := by decide +kernel
theorem d_G_init_21 : decode prog_1_method_1_code 21 = .ok (.getfield 10, 3) := by decide +kernel
theorem d_G_init_24 : decode prog_1_method_1_code 24 = .ok (.invokespecial 18, 3) := by decide +kernel
theorem d_G_init_27 : decode prog_1_method_1_code 27 = .ok (.putfield 21, 3) := by decide +kernel
theorem d_G_init_30 : decode prog_1_method_1_code 30 = .ok (.aload_n 0, 1) := by decide +kernel
theorem d_G_init_31 : decode prog_1_method_1_code 31 = .ok (.new 25, 3) := by decide +kernel
theorem d_G_init_34 : decode prog_1_method_1_code 34 = .ok (.dup, 1) := by decide +kernel
theorem d_G_init_35 : decode prog_1_method_1_code 35 = .ok (.invokespecial 27, 3) := by decide +kernel
theorem d_G_init_38 : decode prog_1_method_1_code 38 = .ok (.putfield 28, 3) := by decide +kernel
theorem d_G_init_41 : decode prog_1_method_1_code 41 = .ok (.aload_n 0, 1) := by decide +kernel
theorem d_G_init_42 : decode prog_1_method_1_code 42 = .ok (.new 32, 3) := by decide +kernel
theorem d_G_init_45 : decode prog_1_method_1_code 45 = .ok (.dup, 1) := by decide +kernel
theorem d_G_init_46 : decode prog_1_method_1_code 46 = .ok (.aload_n 0, 1) := by decide +kernel
theorem d_G_init_47 : decode prog_1_method_1_code 47 = .ok (.getfield 10, 3) := by decide +kernel
theorem d_G_init_50 : decode prog_1_method_1_code 50 = .ok (.aload_n 0, 1) := by decide +kernel
theorem d_G_init_51 : decode prog_1_method_1_code 51 = .ok (.getfield 28, 3) := by decide +kernel
theorem d_G_init_54 : decode prog_1_method_1_code 54 = .ok (.invokespecial 34, 3) := by decide +kernel
theorem d_G_init_57 : decode prog_1_method_1_code 57 = .ok (.putfield 37, 3) := by decide +kernel
theorem d_G_init_60 : decode prog_1_method_1_code 60 = .ok (.return_, 1) := by decide +kernel
theorem d_U_buildFixedCodes_0 : decode prog_8_method_2_code 0 = .ok (.aload_n 0, 1) := by decide +kernel
theorem d_U_buildFixedCodes_1 : decode prog_8_method_2_code 1 = .ok (.getfield 22, 3) := by decide +kernel
theorem d_U_buildFixedCodes_4 : decode prog_8_method_2_code 4 = .ok (.iconst 0, 1) := by decide +kernel
theorem d_U_buildFixedCodes_5 : decode prog_8_method_2_code 5 = .ok (.sipush 144, 3) := by decide +kernel
theorem d_U_buildFixedCodes_8 : decode prog_8_method_2_code 8 = .ok (.bipush 8, 2) := by decide +kernel
theorem d_U_buildFixedCodes_10 : decode prog_8_method_2_code 10 = .ok (.invokestatic 50, 3) := by decide +kernel
theorem d_U_buildFixedCodes_13 : decode prog_8_method_2_code 13 = .ok (.aload_n 0, 1) := by decide +kernel
theorem d_U_buildFixedCodes_14 : decode prog_8_method_2_code 14 = .ok (.getfield 22, 3) := by decide +kernel
theorem d_U_buildFixedCodes_17 : decode prog_8_method_2_code 17 = .ok (.sipush 144, 3) := by decide +kernel
theorem d_U_buildFixedCodes_20 : decode prog_8_method_2_code 20 = .ok (.sipush 256, 3) := by decide +kernel
theorem d_U_buildFixedCodes_23 : decode prog_8_method_2_code 23 = .ok (.bipush 9, 2) := by decide +kernel
theorem d_U_buildFixedCodes_25 : decode prog_8_method_2_code 25 = .ok (.invokestatic 50, 3) := by decide +kernel
theorem d_U_buildFixedCodes_28 : decode prog_8_method_2_code 28 = .ok (.aload_n 0, 1) := by decide +kernel
theorem d_U_buildFixedCodes_29 : decode prog_8_method_2_code 29 = .ok (.getfield 22, 3) := by decide +kernel
theorem d_U_buildFixedCodes_32 : decode prog_8_method_2_code 32 = .ok (.sipush 256, 3) := by decide +kernel
theorem d_U_buildFixedCodes_35 : decode prog_8_method_2_code 35 = .ok (.sipush 280, 3) := by decide +kernel
theorem d_U_buildFixedCodes_38 : decode prog_8_method_2_code 38 = .ok (.bipush 7, 2) := by decide +kernel
theorem d_U_buildFixedCodes_40 : decode prog_8_method_2_code 40 = .ok (.invokestatic 50, 3) := by decide +kernel
theorem d_U_buildFixedCodes_43 : decode prog_8_method_2_code 43 = .ok (.aload_n 0, 1) := by decide +kernel
theorem d_U_buildFixedCodes_44 : decode prog_8_method_2_code 44 = .ok (.getfield 22, 3) := by decide +kernel
theorem d_U_buildFixedCodes_47 : decode prog_8_method_2_code 47 = .ok (.sipush 280, 3) := by decide +kernel
theorem d_U_buildFixedCodes_50 : decode prog_8_method_2_code 50 = .ok (.sipush 288, 3) := by decide +kernel
theorem d_U_buildFixedCodes_53 : decode prog_8_method_2_code 53 = .ok (.bipush 8, 2) := by decide +kernel
theorem d_U_buildFixedCodes_55 : decode prog_8_method_2_code 55 = .ok (.invokestatic 50, 3) := by decide +kernel
theorem d_U_buildFixedCodes_58 : decode prog_8_method_2_code 58 = .ok (.aload_n 0, 1) := by decide +kernel
theorem d_U_buildFixedCodes_59 : decode prog_8_method_2_code 59 = .ok (.getfield 22, 3) := by decide +kernel
theorem d_U_buildFixedCodes_62 : decode prog_8_method_2_code 62 = .ok (.sipush 288, 3) := by decide +kernel
theorem d_U_buildFixedCodes_65 : decode prog_8_method_2_code 65 = .ok (.sipush 320, 3) := by decide +kernel
theorem d_U_buildFixedCodes_68 : decode prog_8_method_2_code 68 = .ok (.iconst 5, 1) := by decide +kernel
theorem d_U_buildFixedCodes_69 : decode prog_8_method_2_code 69 = .ok (.invokestatic 50, 3) := by decide +kernel
theorem d_U_buildFixedCodes_72 : decode prog_8_method_2_code 72 = .ok (.aload_n 0, 1) := by decide +kernel
theorem d_U_buildFixedCodes_73 : decode prog_8_method_2_code 73 = .ok (.getfield 31, 3) := by decide +kernel
theorem d_U_buildFixedCodes_76 : decode prog_8_method_2_code 76 = .ok (.aload_n 0, 1) := by decide +kernel
theorem d_U_buildFixedCodes_77 : decode prog_8_method_2_code 77 = .ok (.getfield 22, 3) := by decide +kernel
theorem d_U_buildFixedCodes_80 : decode prog_8_method_2_code 80 = .ok (.iconst 0, 1) := by decide +kernel
theorem d_U_buildFixedCodes_81 : decode prog_8_method_2_code 81 = .ok (.sipush 288, 3) := by decide +kernel
theorem d_U_buildFixedCodes_84 : decode prog_8_method_2_code 84 = .ok (.invokevirtual 56, 3) := by decide +kernel
theorem d_U_buildFixedCodes_87 : decode prog_8_method_2_code 87 = .ok (.aload_n 0, 1) := by decide +kernel
theorem d_U_buildFixedCodes_88 : decode prog_8_method_2_code 88 = .ok (.getfield 35, 3) := by decide +kernel
theorem d_U_buildFixedCodes_91 : decode prog_8_method_2_code 91 = .ok (.aload_n 0, 1) := by decide +kernel
theorem d_U_buildFixedCodes_92 : decode prog_8_method_2_code 92 = .ok (.getfield 22, 3) := by decide +kernel
theorem d_U_buildFixedCodes_95 : decode prog_8_method_2_code 95 = .ok (.sipush 288, 3) := by decide +kernel
theorem d_U_buildFixedCodes_98 : decode prog_8_method_2_code 98 = .ok (.bipush 32, 2) := by decide +kernel
theorem d_U_buildFixedCodes_100 : decode prog_8_method_2_code 100 = .ok (.invokevirtual 56, 3) := by decide +kernel
theorem d_U_buildFixedCodes_103 : decode prog_8_method_2_code 103 = .ok (.return_, 1) := by decide +kernel
theorem d_U_init_0 : decode prog_8_method_1_code 0 = .ok (.aload_n 0, 1) := by decide +kernel
theorem d_U_init_1 : decode prog_8_method_1_code 1 = .ok (.invokespecial 1, 3) := by decide +kernel
theorem d_U_init_4 : decode prog_8_method_1_code 4 = .ok (.aload_n 0, 1) := by decide +kernel
theorem d_U_init_5 : decode prog_8_method_1_code 5 = .ok (.aload_n 2, 1) := by decide +kernel
theorem d_U_init_6 : decode prog_8_method_1_code 6 = .ok (.putfield 7, 3) := by decide +kernel
theorem d_U_init_9 : decode prog_8_method_1_code 9 = .ok (.aload_n 0, 1) := by decide +kernel
theorem d_U_init_10 : decode prog_8_method_1_code 10 = .ok (.new 13, 3) := by decide +kernel
theorem d_U_init_13 : decode prog_8_method_1_code 13 = .ok (.dup, 1) := by decide +kernel
theorem d_U_init_14 : decode prog_8_method_1_code 14 = .ok (.aload_n 1, 1) := by decide +kernel
theorem d_U_init_15 : decode prog_8_method_1_code 15 = .ok (.invokespecial 15, 3) := by decide +kernel
theorem d_U_init_18 : decode prog_8_method_1_code 18 = .ok (.putfield 18, 3) := by decide +kernel
theorem d_U_init_21 : decode prog_8_method_1_code 21 = .ok (.aload_n 0, 1) := by decide +kernel
theorem d_U_init_22 : decode prog_8_method_1_code 22 = .ok (.sipush 320, 3) := by decide +kernel
theorem d_U_init_25 : decode prog_8_method_1_code 25 = .ok (.newarray .int, 2) := by decide +kernel
theorem d_U_init_27 : decode prog_8_method_1_code 27 = .ok (.putfield 22, 3) := by decide +kernel
theorem d_U_init_30 : decode prog_8_method_1_code 30 = .ok (.aload_n 0, 1) := by decide +kernel
theorem d_U_init_31 : decode prog_8_method_1_code 31 = .ok (.new 26, 3) := by decide +kernel
theorem d_U_init_34 : decode prog_8_method_1_code 34 = .ok (.dup, 1) := by decide +kernel
theorem d_U_init_35 : decode prog_8_method_1_code 35 = .ok (.sipush 288, 3) := by decide +kernel
theorem d_U_init_38 : decode prog_8_method_1_code 38 = .ok (.invokespecial 28, 3) := by decide +kernel
theorem d_U_init_41 : decode prog_8_method_1_code 41 = .ok (.putfield 31, 3) := by decide +kernel
theorem d_U_init_44 : decode prog_8_method_1_code 44 = .ok (.aload_n 0, 1) := by decide +kernel
theorem d_U_init_45 : decode prog_8_method_1_code 45 = .ok (.new 26, 3) := by decide +kernel
theorem d_U_init_48 : decode prog_8_method_1_code 48 = .ok (.dup, 1) := by decide +kernel
theorem d_U_init_49 : decode prog_8_method_1_code 49 = .ok (.bipush 32, 2) := by decide +kernel
theorem d_U_init_51 : decode prog_8_method_1_code 51 = .ok (.invokespecial 28, 3) := by decide +kernel
theorem d_U_init_54 : decode prog_8_method_1_code 54 = .ok (.putfield 35, 3) := by decide +kernel
theorem d_U_init_57 : decode prog_8_method_1_code 57 = .ok (.aload_n 0, 1) := by decide +kernel
theorem d_U_init_58 : decode prog_8_method_1_code 58 = .ok (.new 26, 3) := by decide +kernel
theorem d_U_init_61 : decode prog_8_method_1_code 61 = .ok (.dup, 1) := by decide +kernel
theorem d_U_init_62 : decode prog_8_method_1_code 62 = .ok (.bipush 19, 2) := by decide +kernel
theorem d_U_init_64 : decode prog_8_method_1_code 64 = .ok (.invokespecial 28, 3) := by decide +kernel
theorem d_U_init_67 : decode prog_8_method_1_code 67 = .ok (.putfield 38, 3) := by decide +kernel
theorem d_U_init_70 : decode prog_8_method_1_code 70 = .ok (.aload_n 0, 1) := by decide +kernel
theorem d_U_init_71 : decode prog_8_method_1_code 71 = .ok (.new 26, 3) := by decide +kernel
theorem d_U_init_74 : decode prog_8_method_1_code 74 = .ok (.dup, 1) := by decide +kernel
theorem d_U_init_75 : decode prog_8_method_1_code 75 = .ok (.sipush 286, 3) := by decide +kernel
theorem d_U_init_78 : decode prog_8_method_1_code 78 = .ok (.invokespecial 28, 3) := by decide +kernel
theorem d_U_init_81 : decode prog_8_method_1_code 81 = .ok (.putfield 41, 3) := by decide +kernel
theorem d_U_init_84 : decode prog_8_method_1_code 84 = .ok (.aload_n 0, 1) := by decide +kernel
theorem d_U_init_85 : decode prog_8_method_1_code 85 = .ok (.new 26, 3) := by decide +kernel
theorem d_U_init_88 : decode prog_8_method_1_code 88 = .ok (.dup, 1) := by decide +kernel
theorem d_U_init_89 : decode prog_8_method_1_code 89 = .ok (.bipush 30, 2) := by decide +kernel
theorem d_U_init_91 : decode prog_8_method_1_code 91 = .ok (.invokespecial 28, 3) := by decide +kernel
theorem d_U_init_94 : decode prog_8_method_1_code 94 = .ok (.putfield 44, 3) := by decide +kernel
theorem d_U_init_97 : decode prog_8_method_1_code 97 = .ok (.aload_n 0, 1) := by decide +kernel
theorem d_U_init_98 : decode prog_8_method_1_code 98 = .ok (.invokevirtual 47, 3) := by decide +kernel
theorem d_U_init_101 : decode prog_8_method_1_code 101 = .ok (.return_, 1) := by decide +kernel
def zfix (k : Nat) : Nat := if k < 144 then 8 else if k < 256 then 9 else if k < 280 then 7 else 8
def zfixF (f : Nat → Int32) : Nat → Int32 := zfill (zfill (zfill (zfill (zfill f 8 0 144) 9 144 256) 7 256 280) 8 280 288) 5 288 320
theorem zfix_s (f : Nat → Int32) : ∀ k, k < 288 → zfixF f (0 + k) = nI (zfix k) := by
  intro k hk
  unfold zfixF
  simp only [zfill, zfix, Nat.zero_add]
  by_cases h1 : k < 144
  · rw [if_neg (by omega), if_neg (by omega), if_neg (by omega), if_neg (by omega), if_pos (by omega), if_pos h1]; rfl
  · by_cases h2 : k < 256
    · rw [if_neg (by omega), if_neg (by omega), if_neg (by omega), if_pos (by omega), if_neg h1, if_pos h2]; rfl
    · by_cases h3 : k < 280
      · rw [if_neg (by omega), if_neg (by omega), if_pos (by omega), if_neg h1, if_neg h2, if_pos h3]; rfl
      · rw [if_neg (by omega), if_pos (by omega), if_neg h1, if_neg h2, if_neg h3]; rfl
theorem zfix_d (f : Nat → Int32) : ∀ k, k < 32 → zfixF f (288 + k) = nI ((fun _ => 5) k) := by
  intro k hk
  unfold zfixF
  simp only [zfill]
  rw [if_pos (by omega)]; rfl
theorem zfix_15 : ∀ k, k < 288 → zfix k ≤ 15 := by
  intro k hk
  unfold zfix
  split
  · omega
  · split
    · omega
    · split <;> omega
theorem zBlind_AO : zBlind (va_AO "ZipGuard$Entry") := fun _ _ h _ hx => hx.moved h
set_option maxHeartbeats 4000000 in
set_option maxRecDepth 100000 in
theorem c_U_bfc (l : Launch) (D : va_G) (sz : Nat) (h0 : Nat) (tg : Nat) (bt : Nat) (ar : Nat) (fs : Nat) (fd : Nat) (lc : Nat) (os : Nat) (od : Nat) (s1 : Nat) (s2 : Nat) (s3 : Nat) (d1 : Nat) (d2 : Nat) (d3 : Nat) (cR : ClassId) (cS1 : ClassId) (cS2 : ClassId) (cS3 : ClassId) (cD1 : ClassId) (cD2 : ClassId) (cD3 : ClassId) (f : Nat → Int32) (k1 : Int32) (k2 : Int32) (u1 : Nat → Int32) (u2 : Nat → Int32) (u3 : Nat → Int32) (v1 : Nat → Int32) (v2 : Nat → Int32) (v3 : Nat → Int32)  : Met l y_U_buildFixedCodes (Cond.code y_U_buildFixedCodes prog_8_method_2_code 1 (Option.none : Option Jvm.ClassFile.FieldType) :: zt) { frames := 2, cells := 0, slots := 0, locals := 48 } (zPc [.ref h0] D [(h0, .inr (4, [.ref tg, .ref bt, .ref ar, .ref fs, .ref fd, .ref lc, .ref os, .ref od])), (ar, .inl (cR, 320, .inl f)), (fs, .inr (6, [.ref s1, .ref s2, .ref s3, .int k1])), (s1, .inl (cS1, 16, .inl u1)), (s2, .inl (cS2, 16, .inl u2)), (s3, .inl (cS3, 288, .inl u3)), (fd, .inr (6, [.ref d1, .ref d2, .ref d3, .int k2])), (d1, .inl (cD1, 16, .inl v1)), (d2, .inl (cD2, 16, .inl v2)), (d3, .inl (cD3, 32, .inl v3))] [(cR, .int), (cS1, .int), (cS2, .int), (cS3, .int), (cD1, .int), (cD2, .int), (cD3, .int)] sz (fun _ => True)) (va_Qv (fun (u : ((Nat → Int32) × (Nat → Int32) × (Nat → Int32)) × ((Nat → Int32) × (Nat → Int32) × (Nat → Int32))) => match u with | ((G1, G2, G3), (E1, E2, E3)) => ((∀ l, l ≤ 15 → G1 l = nI (zcn zfix 288 l)) ∧ (∀ i, i < 288 → 1 ≤ zfix i → G3 (zst zfix 288 (zfix i) + zcn zfix i (zfix i)) = nI i)) ∧ ((∀ l, l ≤ 15 → E1 l = nI (zcn (fun _ => 5) 32 l)) ∧ (∀ i, i < 32 → 1 ≤ 5 → E3 (zst (fun _ => 5) 32 5 + zcn (fun _ => 5) i 5) = nI i))) (fun u t => zB D ((fun (u : ((Nat → Int32) × (Nat → Int32) × (Nat → Int32)) × ((Nat → Int32) × (Nat → Int32) × (Nat → Int32))) => match u with | ((G1, G2, G3), (E1, E2, E3)) => [(h0, .inr (4, [.ref tg, .ref bt, .ref ar, .ref fs, .ref fd, .ref lc, .ref os, .ref od])), (ar, .inl (cR, 320, .inl (zfixF f))), (fs, .inr (6, [.ref s1, .ref s2, .ref s3, .int (nI (zst zfix 288 16))])), (s1, .inl (cS1, 16, .inl G1)), (s2, .inl (cS2, 16, .inl G2)), (s3, .inl (cS3, 288, .inl G3)), (fd, .inr (6, [.ref d1, .ref d2, .ref d3, .int (nI (zst (fun _ => 5) 32 16))])), (d1, .inl (cD1, 16, .inl E1)), (d2, .inl (cD2, 16, .inl E2)), (d3, .inl (cD3, 32, .inl E3))]) u) ((fun (u : ((Nat → Int32) × (Nat → Int32) × (Nat → Int32)) × ((Nat → Int32) × (Nat → Int32) × (Nat → Int32))) => match u with | ((G1, G2, G3), (E1, E2, E3)) => [(cR, .int), (cS1, .int), (cS2, .int), (cS3, .int), (cD1, .int), (cD2, .int), (cD3, .int)]) u) (va_A [(h0, .inr (4, [.ref tg, .ref bt, .ref ar, .ref fs, .ref fd, .ref lc, .ref os, .ref od])), (ar, .inl (cR, 320, .inl f)), (fs, .inr (6, [.ref s1, .ref s2, .ref s3, .int k1])), (s1, .inl (cS1, 16, .inl u1)), (s2, .inl (cS2, 16, .inl u2)), (s3, .inl (cS3, 288, .inl u3)), (fd, .inr (6, [.ref d1, .ref d2, .ref d3, .int k2])), (d1, .inl (cD1, 16, .inl v1)), (d2, .inl (cD2, 16, .inl v2)), (d3, .inl (cD3, 32, .inl v3))] sz) t) (va_A [(h0, .inr (4, [.ref tg, .ref bt, .ref ar, .ref fs, .ref fd, .ref lc, .ref os, .ref od])), (ar, .inl (cR, 320, .inl f)), (fs, .inr (6, [.ref s1, .ref s2, .ref s3, .int k1])), (s1, .inl (cS1, 16, .inl u1)), (s2, .inl (cS2, 16, .inl u2)), (s3, .inl (cS3, 288, .inl u3)), (fd, .inr (6, [.ref d1, .ref d2, .ref d3, .int k2])), (d1, .inl (cD1, 16, .inl v1)), (d2, .inl (cD2, 16, .inl v2)), (d3, .inl (cD3, 32, .inl v3))] sz)) 0 0 (va_A [(h0, .inr (4, [.ref tg, .ref bt, .ref ar, .ref fs, .ref fd, .ref lc, .ref os, .ref od])), (ar, .inl (cR, 320, .inl f)), (fs, .inr (6, [.ref s1, .ref s2, .ref s3, .int k1])), (s1, .inl (cS1, 16, .inl u1)), (s2, .inl (cS2, 16, .inl u2)), (s3, .inl (cS3, 288, .inl u3)), (fd, .inr (6, [.ref d1, .ref d2, .ref d3, .int k2])), (d1, .inl (cD1, 16, .inl v1)), (d2, .inl (cD2, 16, .inl v2)), (d3, .inl (cD3, 32, .inl v3))] sz) :=
  zMet (Qf := fun A => va_Qv (fun (u : ((Nat → Int32) × (Nat → Int32) × (Nat → Int32)) × ((Nat → Int32) × (Nat → Int32) × (Nat → Int32))) => match u with | ((G1, G2, G3), (E1, E2, E3)) => ((∀ l, l ≤ 15 → G1 l = nI (zcn zfix 288 l)) ∧ (∀ i, i < 288 → 1 ≤ zfix i → G3 (zst zfix 288 (zfix i) + zcn zfix i (zfix i)) = nI i)) ∧ ((∀ l, l ≤ 15 → E1 l = nI (zcn (fun _ => 5) 32 l)) ∧ (∀ i, i < 32 → 1 ≤ 5 → E3 (zst (fun _ => 5) 32 5 + zcn (fun _ => 5) i 5) = nI i))) (fun u t => zB D ((fun (u : ((Nat → Int32) × (Nat → Int32) × (Nat → Int32)) × ((Nat → Int32) × (Nat → Int32) × (Nat → Int32))) => match u with | ((G1, G2, G3), (E1, E2, E3)) => [(h0, .inr (4, [.ref tg, .ref bt, .ref ar, .ref fs, .ref fd, .ref lc, .ref os, .ref od])), (ar, .inl (cR, 320, .inl (zfixF f))), (fs, .inr (6, [.ref s1, .ref s2, .ref s3, .int (nI (zst zfix 288 16))])), (s1, .inl (cS1, 16, .inl G1)), (s2, .inl (cS2, 16, .inl G2)), (s3, .inl (cS3, 288, .inl G3)), (fd, .inr (6, [.ref d1, .ref d2, .ref d3, .int (nI (zst (fun _ => 5) 32 16))])), (d1, .inl (cD1, 16, .inl E1)), (d2, .inl (cD2, 16, .inl E2)), (d3, .inl (cD3, 32, .inl E3))]) u) ((fun (u : ((Nat → Int32) × (Nat → Int32) × (Nat → Int32)) × ((Nat → Int32) × (Nat → Int32) × (Nat → Int32))) => match u with | ((G1, G2, G3), (E1, E2, E3)) => [(cR, .int), (cS1, .int), (cS2, .int), (cS3, .int), (cD1, .int), (cD2, .int), (cD3, .int)]) u) A t) A) (by decide) (Nat.le_of_ble_eq_true rfl) (fun p e s m below meth c A ls hx hb hr hml hown ht hlk hnm hA hK hP hD hX hl => by
    have hS : va_S A s.heap s.heap [] := va_S.rf
    have hl : lv_has ls 1 [(0, .ref h0)] := hl
    refine lv_aload_n hx hb d_U_buildFixedCodes_0 rfl (lv_at hl 0 rfl) ?_
    refine va_get (ci := 4) (C := "ZipGuard$Unpacker") (T := F_U) (N := 8) hx hb ht zi_U hown hK hP 0 rfl rfl 2 (by decide) (ht _ zm_372) (fun _ h9 => h9) rfl d_U_buildFixedCodes_1 ?_
    refine lv_iconst (v := 0) hx hb d_U_buildFixedCodes_4 (by decide) ?_
    refine lv_sipush (v := 144) hx hb d_U_buildFixedCodes_5 (by decide) ?_
    refine lv_bipush (v := 8) hx hb d_U_buildFixedCodes_8 (by decide) ?_
    refine zjv (wr := [(h0, .inr (4, [.ref tg, .ref bt, .ref ar, .ref fs, .ref fd, .ref lc, .ref os, .ref od])), (fs, .inr (6, [.ref s1, .ref s2, .ref s3, .int k1])), (s1, .inl (cS1, 16, .inl u1)), (s2, .inl (cS2, 16, .inl u2)), (s3, .inl (cS3, 288, .inl u3)), (fd, .inr (6, [.ref d1, .ref d2, .ref d3, .int k2])), (d1, .inl (cD1, 16, .inl v1)), (d2, .inl (cD2, 16, .inl v2)), (d3, .inl (cD3, 32, .inl v3))]) (va_runS (As := [.ref ar, .int 0, .int 144, .int 8]) (rest := []) ⟨hx, hb, hml, hown, ht⟩ (c_J_fillr l D _ ar cR 320 f 0 144 8 (by decide) (by decide) (by decide)) (zcwS 4 ht zm_273 zm_274 zm_73 zm_275 rfl rfl (by decide +kernel) ⟨Nat.le_of_ble_eq_true rfl, Nat.le_of_ble_eq_true rfl⟩) (zpre zBlind_t hK hP hD [1] [0] rfl (by decide) rfl (fun _ _ _ => trivial)) rfl rfl hl.1 rfl (lv_room (Nat.le_of_ble_eq_true rfl)) d_U_buildFixedCodes_10 ⟨Nat.le_of_ble_eq_true rfl, Nat.le_of_ble_eq_true rfl⟩) hK hP hD hS hA [1] [0, 2, 3, 4, 5, 6, 7, 8, 9] rfl rfl (by decide) (by decide) (fun u H locs hp2 hP hD hK hS => ?_)
    have hP : va_P D zcl [(h0, .inr (4, [.ref tg, .ref bt, .ref ar, .ref fs, .ref fd, .ref lc, .ref os, .ref od])), (fs, .inr (6, [.ref s1, .ref s2, .ref s3, .int k1])), (s1, .inl (cS1, 16, .inl u1)), (s2, .inl (cS2, 16, .inl u2)), (s3, .inl (cS3, 288, .inl u3)), (fd, .inr (6, [.ref d1, .ref d2, .ref d3, .int k2])), (d1, .inl (cD1, 16, .inl v1)), (d2, .inl (cD2, 16, .inl v2)), (d3, .inl (cD3, 32, .inl v3)), (ar, .inl (cR, 320, .inl (zfill f 8 0 144)))] H := hP
    have hD : va_D A [(h0, .inr (4, [.ref tg, .ref bt, .ref ar, .ref fs, .ref fd, .ref lc, .ref os, .ref od])), (fs, .inr (6, [.ref s1, .ref s2, .ref s3, .int k1])), (s1, .inl (cS1, 16, .inl u1)), (s2, .inl (cS2, 16, .inl u2)), (s3, .inl (cS3, 288, .inl u3)), (fd, .inr (6, [.ref d1, .ref d2, .ref d3, .int k2])), (d1, .inl (cD1, 16, .inl v1)), (d2, .inl (cD2, 16, .inl v2)), (d3, .inl (cD3, 32, .inl v3)), (ar, .inl (cR, 320, .inl (zfill f 8 0 144)))] := hD
    have hK : va_K D zcl [(cR, .int), (cS1, .int), (cS2, .int), (cS3, .int), (cD1, .int), (cD2, .int), (cD3, .int), (cR, .int)] s := hK
    have hP := hP.sub (ws' := [(h0, .inr (4, [.ref tg, .ref bt, .ref ar, .ref fs, .ref fd, .ref lc, .ref os, .ref od])), (ar, .inl (cR, 320, .inl (zfill f 8 0 144))), (fs, .inr (6, [.ref s1, .ref s2, .ref s3, .int k1])), (s1, .inl (cS1, 16, .inl u1)), (s2, .inl (cS2, 16, .inl u2)), (s3, .inl (cS3, 288, .inl u3)), (fd, .inr (6, [.ref d1, .ref d2, .ref d3, .int k2])), (d1, .inl (cD1, 16, .inl v1)), (d2, .inl (cD2, 16, .inl v2)), (d3, .inl (cD3, 32, .inl v3))]) [0, 9, 1, 2, 3, 4, 5, 6, 7, 8] rfl
    have hD := hD.sub (ws' := [(h0, .inr (4, [.ref tg, .ref bt, .ref ar, .ref fs, .ref fd, .ref lc, .ref os, .ref od])), (ar, .inl (cR, 320, .inl (zfill f 8 0 144))), (fs, .inr (6, [.ref s1, .ref s2, .ref s3, .int k1])), (s1, .inl (cS1, 16, .inl u1)), (s2, .inl (cS2, 16, .inl u2)), (s3, .inl (cS3, 288, .inl u3)), (fd, .inr (6, [.ref d1, .ref d2, .ref d3, .int k2])), (d1, .inl (cD1, 16, .inl v1)), (d2, .inl (cD2, 16, .inl v2)), (d3, .inl (cD3, 32, .inl v3))]) [0, 9, 1, 2, 3, 4, 5, 6, 7, 8] (by decide) rfl
    have hK := hK.sub (tys' := [(cR, .int), (cS1, .int), (cS2, .int), (cS3, .int), (cD1, .int), (cD2, .int), (cD3, .int)]) [0, 1, 2, 3, 4, 5, 6] rfl
    refine lv_aload_n hx hb d_U_buildFixedCodes_13 rfl (lv_at hl 0 rfl) ?_
    refine va_get (ci := 4) (C := "ZipGuard$Unpacker") (T := F_U) (N := 8) hx hb ht zi_U hown hK hP 0 rfl rfl 2 (by decide) (ht _ zm_372) (fun _ h9 => h9) rfl d_U_buildFixedCodes_14 ?_
    refine lv_sipush (v := 144) hx hb d_U_buildFixedCodes_17 (by decide) ?_
    refine lv_sipush (v := 256) hx hb d_U_buildFixedCodes_20 (by decide) ?_
    refine lv_bipush (v := 9) hx hb d_U_buildFixedCodes_23 (by decide) ?_
    refine zjv (wr := [(h0, .inr (4, [.ref tg, .ref bt, .ref ar, .ref fs, .ref fd, .ref lc, .ref os, .ref od])), (fs, .inr (6, [.ref s1, .ref s2, .ref s3, .int k1])), (s1, .inl (cS1, 16, .inl u1)), (s2, .inl (cS2, 16, .inl u2)), (s3, .inl (cS3, 288, .inl u3)), (fd, .inr (6, [.ref d1, .ref d2, .ref d3, .int k2])), (d1, .inl (cD1, 16, .inl v1)), (d2, .inl (cD2, 16, .inl v2)), (d3, .inl (cD3, 32, .inl v3))]) (va_runS (As := [.ref ar, .int 144, .int 256, .int 9]) (rest := []) ⟨hx, hb, hml, hown, ht⟩ (c_J_fillr l D _ ar cR 320 (zfill f 8 0 144) 144 256 9 (by decide) (by decide) (by decide)) (zcwS 4 ht zm_273 zm_274 zm_73 zm_275 rfl rfl (by decide +kernel) ⟨Nat.le_of_ble_eq_true rfl, Nat.le_of_ble_eq_true rfl⟩) (zpre zBlind_t hK hP hD [1] [0] rfl (by decide) rfl (fun _ _ _ => trivial)) rfl rfl hl.1 rfl (lv_room (Nat.le_of_ble_eq_true rfl)) d_U_buildFixedCodes_25 ⟨Nat.le_of_ble_eq_true rfl, Nat.le_of_ble_eq_true rfl⟩) hK hP hD hS hA [1] [0, 2, 3, 4, 5, 6, 7, 8, 9] rfl rfl (by decide) (by decide) (fun u H locs hp4 hP hD hK hS => ?_)
    have hP : va_P D zcl [(h0, .inr (4, [.ref tg, .ref bt, .ref ar, .ref fs, .ref fd, .ref lc, .ref os, .ref od])), (fs, .inr (6, [.ref s1, .ref s2, .ref s3, .int k1])), (s1, .inl (cS1, 16, .inl u1)), (s2, .inl (cS2, 16, .inl u2)), (s3, .inl (cS3, 288, .inl u3)), (fd, .inr (6, [.ref d1, .ref d2, .ref d3, .int k2])), (d1, .inl (cD1, 16, .inl v1)), (d2, .inl (cD2, 16, .inl v2)), (d3, .inl (cD3, 32, .inl v3)), (ar, .inl (cR, 320, .inl (zfill (zfill f 8 0 144) 9 144 256)))] H := hP
    have hD : va_D A [(h0, .inr (4, [.ref tg, .ref bt, .ref ar, .ref fs, .ref fd, .ref lc, .ref os, .ref od])), (fs, .inr (6, [.ref s1, .ref s2, .ref s3, .int k1])), (s1, .inl (cS1, 16, .inl u1)), (s2, .inl (cS2, 16, .inl u2)), (s3, .inl (cS3, 288, .inl u3)), (fd, .inr (6, [.ref d1, .ref d2, .ref d3, .int k2])), (d1, .inl (cD1, 16, .inl v1)), (d2, .inl (cD2, 16, .inl v2)), (d3, .inl (cD3, 32, .inl v3)), (ar, .inl (cR, 320, .inl (zfill (zfill f 8 0 144) 9 144 256)))] := hD
    have hK : va_K D zcl [(cR, .int), (cS1, .int), (cS2, .int), (cS3, .int), (cD1, .int), (cD2, .int), (cD3, .int), (cR, .int)] s := hK
    have hP := hP.sub (ws' := [(h0, .inr (4, [.ref tg, .ref bt, .ref ar, .ref fs, .ref fd, .ref lc, .ref os, .ref od])), (ar, .inl (cR, 320, .inl (zfill (zfill f 8 0 144) 9 144 256))), (fs, .inr (6, [.ref s1, .ref s2, .ref s3, .int k1])), (s1, .inl (cS1, 16, .inl u1)), (s2, .inl (cS2, 16, .inl u2)), (s3, .inl (cS3, 288, .inl u3)), (fd, .inr (6, [.ref d1, .ref d2, .ref d3, .int k2])), (d1, .inl (cD1, 16, .inl v1)), (d2, .inl (cD2, 16, .inl v2)), (d3, .inl (cD3, 32, .inl v3))]) [0, 9, 1, 2, 3, 4, 5, 6, 7, 8] rfl
    have hD := hD.sub (ws' := [(h0, .inr (4, [.ref tg, .ref bt, .ref ar, .ref fs, .ref fd, .ref lc, .ref os, .ref od])), (ar, .inl (cR, 320, .inl (zfill (zfill f 8 0 144) 9 144 256))), (fs, .inr (6, [.ref s1, .ref s2, .ref s3, .int k1])), (s1, .inl (cS1, 16, .inl u1)), (s2, .inl (cS2, 16, .inl u2)), (s3, .inl (cS3, 288, .inl u3)), (fd, .inr (6, [.ref d1, .ref d2, .ref d3, .int k2])), (d1, .inl (cD1, 16, .inl v1)), (d2, .inl (cD2, 16, .inl v2)), (d3, .inl (cD3, 32, .inl v3))]) [0, 9, 1, 2, 3, 4, 5, 6, 7, 8] (by decide) rfl
    have hK := hK.sub (tys' := [(cR, .int), (cS1, .int), (cS2, .int), (cS3, .int), (cD1, .int), (cD2, .int), (cD3, .int)]) [0, 1, 2, 3, 4, 5, 6] rfl
    refine lv_aload_n hx hb d_U_buildFixedCodes_28 rfl (lv_at hl 0 rfl) ?_
    refine va_get (ci := 4) (C := "ZipGuard$Unpacker") (T := F_U) (N := 8) hx hb ht zi_U hown hK hP 0 rfl rfl 2 (by decide) (ht _ zm_372) (fun _ h9 => h9) rfl d_U_buildFixedCodes_29 ?_
    refine lv_sipush (v := 256) hx hb d_U_buildFixedCodes_32 (by decide) ?_
    refine lv_sipush (v := 280) hx hb d_U_buildFixedCodes_35 (by decide) ?_
    refine lv_bipush (v := 7) hx hb d_U_buildFixedCodes_38 (by decide) ?_
    refine zjv (wr := [(h0, .inr (4, [.ref tg, .ref bt, .ref ar, .ref fs, .ref fd, .ref lc, .ref os, .ref od])), (fs, .inr (6, [.ref s1, .ref s2, .ref s3, .int k1])), (s1, .inl (cS1, 16, .inl u1)), (s2, .inl (cS2, 16, .inl u2)), (s3, .inl (cS3, 288, .inl u3)), (fd, .inr (6, [.ref d1, .ref d2, .ref d3, .int k2])), (d1, .inl (cD1, 16, .inl v1)), (d2, .inl (cD2, 16, .inl v2)), (d3, .inl (cD3, 32, .inl v3))]) (va_runS (As := [.ref ar, .int 256, .int 280, .int 7]) (rest := []) ⟨hx, hb, hml, hown, ht⟩ (c_J_fillr l D _ ar cR 320 (zfill (zfill f 8 0 144) 9 144 256) 256 280 7 (by decide) (by decide) (by decide)) (zcwS 4 ht zm_273 zm_274 zm_73 zm_275 rfl rfl (by decide +kernel) ⟨Nat.le_of_ble_eq_true rfl, Nat.le_of_ble_eq_true rfl⟩) (zpre zBlind_t hK hP hD [1] [0] rfl (by decide) rfl (fun _ _ _ => trivial)) rfl rfl hl.1 rfl (lv_room (Nat.le_of_ble_eq_true rfl)) d_U_buildFixedCodes_40 ⟨Nat.le_of_ble_eq_true rfl, Nat.le_of_ble_eq_true rfl⟩) hK hP hD hS hA [1] [0, 2, 3, 4, 5, 6, 7, 8, 9] rfl rfl (by decide) (by decide) (fun u H locs hp6 hP hD hK hS => ?_)
    have hP : va_P D zcl [(h0, .inr (4, [.ref tg, .ref bt, .ref ar, .ref fs, .ref fd, .ref lc, .ref os, .ref od])), (fs, .inr (6, [.ref s1, .ref s2, .ref s3, .int k1])), (s1, .inl (cS1, 16, .inl u1)), (s2, .inl (cS2, 16, .inl u2)), (s3, .inl (cS3, 288, .inl u3)), (fd, .inr (6, [.ref d1, .ref d2, .ref d3, .int k2])), (d1, .inl (cD1, 16, .inl v1)), (d2, .inl (cD2, 16, .inl v2)), (d3, .inl (cD3, 32, .inl v3)), (ar, .inl (cR, 320, .inl (zfill (zfill (zfill f 8 0 144) 9 144 256) 7 256 280)))] H := hP
    have hD : va_D A [(h0, .inr (4, [.ref tg, .ref bt, .ref ar, .ref fs, .ref fd, .ref lc, .ref os, .ref od])), (fs, .inr (6, [.ref s1, .ref s2, .ref s3, .int k1])), (s1, .inl (cS1, 16, .inl u1)), (s2, .inl (cS2, 16, .inl u2)), (s3, .inl (cS3, 288, .inl u3)), (fd, .inr (6, [.ref d1, .ref d2, .ref d3, .int k2])), (d1, .inl (cD1, 16, .inl v1)), (d2, .inl (cD2, 16, .inl v2)), (d3, .inl (cD3, 32, .inl v3)), (ar, .inl (cR, 320, .inl (zfill (zfill (zfill f 8 0 144) 9 144 256) 7 256 280)))] := hD
    have hK : va_K D zcl [(cR, .int), (cS1, .int), (cS2, .int), (cS3, .int), (cD1, .int), (cD2, .int), (cD3, .int), (cR, .int)] s := hK
    have hP := hP.sub (ws' := [(h0, .inr (4, [.ref tg, .ref bt, .ref ar, .ref fs, .ref fd, .ref lc, .ref os, .ref od])), (ar, .inl (cR, 320, .inl (zfill (zfill (zfill f 8 0 144) 9 144 256) 7 256 280))), (fs, .inr (6, [.ref s1, .ref s2, .ref s3, .int k1])), (s1, .inl (cS1, 16, .inl u1)), (s2, .inl (cS2, 16, .inl u2)), (s3, .inl (cS3, 288, .inl u3)), (fd, .inr (6, [.ref d1, .ref d2, .ref d3, .int k2])), (d1, .inl (cD1, 16, .inl v1)), (d2, .inl (cD2, 16, .inl v2)), (d3, .inl (cD3, 32, .inl v3))]) [0, 9, 1, 2, 3, 4, 5, 6, 7, 8] rfl
    have hD := hD.sub (ws' := [(h0, .inr (4, [.ref tg, .ref bt, .ref ar, .ref fs, .ref fd, .ref lc, .ref os, .ref od])), (ar, .inl (cR, 320, .inl (zfill (zfill (zfill f 8 0 144) 9 144 256) 7 256 280))), (fs, .inr (6, [.ref s1, .ref s2, .ref s3, .int k1])), (s1, .inl (cS1, 16, .inl u1)), (s2, .inl (cS2, 16, .inl u2)), (s3, .inl (cS3, 288, .inl u3)), (fd, .inr (6, [.ref d1, .ref d2, .ref d3, .int k2])), (d1, .inl (cD1, 16, .inl v1)), (d2, .inl (cD2, 16, .inl v2)), (d3, .inl (cD3, 32, .inl v3))]) [0, 9, 1, 2, 3, 4, 5, 6, 7, 8] (by decide) rfl
    have hK := hK.sub (tys' := [(cR, .int), (cS1, .int), (cS2, .int), (cS3, .int), (cD1, .int), (cD2, .int), (cD3, .int)]) [0, 1, 2, 3, 4, 5, 6] rfl
    refine lv_aload_n hx hb d_U_buildFixedCodes_43 rfl (lv_at hl 0 rfl) ?_
    refine va_get (ci := 4) (C := "ZipGuard$Unpacker") (T := F_U) (N := 8) hx hb ht zi_U hown hK hP 0 rfl rfl 2 (by decide) (ht _ zm_372) (fun _ h9 => h9) rfl d_U_buildFixedCodes_44 ?_
    refine lv_sipush (v := 280) hx hb d_U_buildFixedCodes_47 (by decide) ?_
    refine lv_sipush (v := 288) hx hb d_U_buildFixedCodes_50 (by decide) ?_
    refine lv_bipush (v := 8) hx hb d_U_buildFixedCodes_53 (by decide) ?_
    refine zjv (wr := [(h0, .inr (4, [.ref tg, .ref bt, .ref ar, .ref fs, .ref fd, .ref lc, .ref os, .ref od])), (fs, .inr (6, [.ref s1, .ref s2, .ref s3, .int k1])), (s1, .inl (cS1, 16, .inl u1)), (s2, .inl (cS2, 16, .inl u2)), (s3, .inl (cS3, 288, .inl u3)), (fd, .inr (6, [.ref d1, .ref d2, .ref d3, .int k2])), (d1, .inl (cD1, 16, .inl v1)), (d2, .inl (cD2, 16, .inl v2)), (d3, .inl (cD3, 32, .inl v3))]) (va_runS (As := [.ref ar, .int 280, .int 288, .int 8]) (rest := []) ⟨hx, hb, hml, hown, ht⟩ (c_J_fillr l D _ ar cR 320 (zfill (zfill (zfill f 8 0 144) 9 144 256) 7 256 280) 280 288 8 (by decide) (by decide) (by decide)) (zcwS 4 ht zm_273 zm_274 zm_73 zm_275 rfl rfl (by decide +kernel) ⟨Nat.le_of_ble_eq_true rfl, Nat.le_of_ble_eq_true rfl⟩) (zpre zBlind_t hK hP hD [1] [0] rfl (by decide) rfl (fun _ _ _ => trivial)) rfl rfl hl.1 rfl (lv_room (Nat.le_of_ble_eq_true rfl)) d_U_buildFixedCodes_55 ⟨Nat.le_of_ble_eq_true rfl, Nat.le_of_ble_eq_true rfl⟩) hK hP hD hS hA [1] [0, 2, 3, 4, 5, 6, 7, 8, 9] rfl rfl (by decide) (by decide) (fun u H locs hp8 hP hD hK hS => ?_)
    have hP : va_P D zcl [(h0, .inr (4, [.ref tg, .ref bt, .ref ar, .ref fs, .ref fd, .ref lc, .ref os, .ref od])), (fs, .inr (6, [.ref s1, .ref s2, .ref s3, .int k1])), (s1, .inl (cS1, 16, .inl u1)), (s2, .inl (cS2, 16, .inl u2)), (s3, .inl (cS3, 288, .inl u3)), (fd, .inr (6, [.ref d1, .ref d2, .ref d3, .int k2])), (d1, .inl (cD1, 16, .inl v1)), (d2, .inl (cD2, 16, .inl v2)), (d3, .inl (cD3, 32, .inl v3)), (ar, .inl (cR, 320, .inl (zfill (zfill (zfill (zfill f 8 0 144) 9 144 256) 7 256 280) 8 280 288)))] H := hP
    have hD : va_D A [(h0, .inr (4, [.ref tg, .ref bt, .ref ar, .ref fs, .ref fd, .ref lc, .ref os, .ref od])), (fs, .inr (6, [.ref s1, .ref s2, .ref s3, .int k1])), (s1, .inl (cS1, 16, .inl u1)), (s2, .inl (cS2, 16, .inl u2)), (s3, .inl (cS3, 288, .inl u3)), (fd, .inr (6, [.ref d1, .ref d2, .ref d3, .int k2])), (d1, .inl (cD1, 16, .inl v1)), (d2, .inl (cD2, 16, .inl v2)), (d3, .inl (cD3, 32, .inl v3)), (ar, .inl (cR, 320, .inl (zfill (zfill (zfill (zfill f 8 0 144) 9 144 256) 7 256 280) 8 280 288)))] := hD
    have hK : va_K D zcl [(cR, .int), (cS1, .int), (cS2, .int), (cS3, .int), (cD1, .int), (cD2, .int), (cD3, .int), (cR, .int)] s := hK
    have hP := hP.sub (ws' := [(h0, .inr (4, [.ref tg, .ref bt, .ref ar, .ref fs, .ref fd, .ref lc, .ref os, .ref od])), (ar, .inl (cR, 320, .inl (zfill (zfill (zfill (zfill f 8 0 144) 9 144 256) 7 256 280) 8 280 288))), (fs, .inr (6, [.ref s1, .ref s2, .ref s3, .int k1])), (s1, .inl (cS1, 16, .inl u1)), (s2, .inl (cS2, 16, .inl u2)), (s3, .inl (cS3, 288, .inl u3)), (fd, .inr (6, [.ref d1, .ref d2, .ref d3, .int k2])), (d1, .inl (cD1, 16, .inl v1)), (d2, .inl (cD2, 16, .inl v2)), (d3, .inl (cD3, 32, .inl v3))]) [0, 9, 1, 2, 3, 4, 5, 6, 7, 8] rfl
    have hD := hD.sub (ws' := [(h0, .inr (4, [.ref tg, .ref bt, .ref ar, .ref fs, .ref fd, .ref lc, .ref os, .ref od])), (ar, .inl (cR, 320, .inl (zfill (zfill (zfill (zfill f 8 0 144) 9 144 256) 7 256 280) 8 280 288))), (fs, .inr (6, [.ref s1, .ref s2, .ref s3, .int k1])), (s1, .inl (cS1, 16, .inl u1)), (s2, .inl (cS2, 16, .inl u2)), (s3, .inl (cS3, 288, .inl u3)), (fd, .inr (6, [.ref d1, .ref d2, .ref d3, .int k2])), (d1, .inl (cD1, 16, .inl v1)), (d2, .inl (cD2, 16, .inl v2)), (d3, .inl (cD3, 32, .inl v3))]) [0, 9, 1, 2, 3, 4, 5, 6, 7, 8] (by decide) rfl
    have hK := hK.sub (tys' := [(cR, .int), (cS1, .int), (cS2, .int), (cS3, .int), (cD1, .int), (cD2, .int), (cD3, .int)]) [0, 1, 2, 3, 4, 5, 6] rfl
    refine lv_aload_n hx hb d_U_buildFixedCodes_58 rfl (lv_at hl 0 rfl) ?_
    refine va_get (ci := 4) (C := "ZipGuard$Unpacker") (T := F_U) (N := 8) hx hb ht zi_U hown hK hP 0 rfl rfl 2 (by decide) (ht _ zm_372) (fun _ h9 => h9) rfl d_U_buildFixedCodes_59 ?_
    refine lv_sipush (v := 288) hx hb d_U_buildFixedCodes_62 (by decide) ?_
    refine lv_sipush (v := 320) hx hb d_U_buildFixedCodes_65 (by decide) ?_
    refine lv_iconst (v := 5) hx hb d_U_buildFixedCodes_68 (by decide) ?_
    refine zjv (wr := [(h0, .inr (4, [.ref tg, .ref bt, .ref ar, .ref fs, .ref fd, .ref lc, .ref os, .ref od])), (fs, .inr (6, [.ref s1, .ref s2, .ref s3, .int k1])), (s1, .inl (cS1, 16, .inl u1)), (s2, .inl (cS2, 16, .inl u2)), (s3, .inl (cS3, 288, .inl u3)), (fd, .inr (6, [.ref d1, .ref d2, .ref d3, .int k2])), (d1, .inl (cD1, 16, .inl v1)), (d2, .inl (cD2, 16, .inl v2)), (d3, .inl (cD3, 32, .inl v3))]) (va_runS (As := [.ref ar, .int 288, .int 320, .int 5]) (rest := []) ⟨hx, hb, hml, hown, ht⟩ (c_J_fillr l D _ ar cR 320 (zfill (zfill (zfill (zfill f 8 0 144) 9 144 256) 7 256 280) 8 280 288) 288 320 5 (by decide) (by decide) (by decide)) (zcwS 4 ht zm_273 zm_274 zm_73 zm_275 rfl rfl (by decide +kernel) ⟨Nat.le_of_ble_eq_true rfl, Nat.le_of_ble_eq_true rfl⟩) (zpre zBlind_t hK hP hD [1] [0] rfl (by decide) rfl (fun _ _ _ => trivial)) rfl rfl hl.1 rfl (lv_room (Nat.le_of_ble_eq_true rfl)) d_U_buildFixedCodes_69 ⟨Nat.le_of_ble_eq_true rfl, Nat.le_of_ble_eq_true rfl⟩) hK hP hD hS hA [1] [0, 2, 3, 4, 5, 6, 7, 8, 9] rfl rfl (by decide) (by decide) (fun u H locs hp10 hP hD hK hS => ?_)
    have hP : va_P D zcl [(h0, .inr (4, [.ref tg, .ref bt, .ref ar, .ref fs, .ref fd, .ref lc, .ref os, .ref od])), (fs, .inr (6, [.ref s1, .ref s2, .ref s3, .int k1])), (s1, .inl (cS1, 16, .inl u1)), (s2, .inl (cS2, 16, .inl u2)), (s3, .inl (cS3, 288, .inl u3)), (fd, .inr (6, [.ref d1, .ref d2, .ref d3, .int k2])), (d1, .inl (cD1, 16, .inl v1)), (d2, .inl (cD2, 16, .inl v2)), (d3, .inl (cD3, 32, .inl v3)), (ar, .inl (cR, 320, .inl (zfill (zfill (zfill (zfill (zfill f 8 0 144) 9 144 256) 7 256 280) 8 280 288) 5 288 320)))] H := hP
    have hD : va_D A [(h0, .inr (4, [.ref tg, .ref bt, .ref ar, .ref fs, .ref fd, .ref lc, .ref os, .ref od])), (fs, .inr (6, [.ref s1, .ref s2, .ref s3, .int k1])), (s1, .inl (cS1, 16, .inl u1)), (s2, .inl (cS2, 16, .inl u2)), (s3, .inl (cS3, 288, .inl u3)), (fd, .inr (6, [.ref d1, .ref d2, .ref d3, .int k2])), (d1, .inl (cD1, 16, .inl v1)), (d2, .inl (cD2, 16, .inl v2)), (d3, .inl (cD3, 32, .inl v3)), (ar, .inl (cR, 320, .inl (zfill (zfill (zfill (zfill (zfill f 8 0 144) 9 144 256) 7 256 280) 8 280 288) 5 288 320)))] := hD
    have hK : va_K D zcl [(cR, .int), (cS1, .int), (cS2, .int), (cS3, .int), (cD1, .int), (cD2, .int), (cD3, .int), (cR, .int)] s := hK
    have hP := hP.sub (ws' := [(h0, .inr (4, [.ref tg, .ref bt, .ref ar, .ref fs, .ref fd, .ref lc, .ref os, .ref od])), (ar, .inl (cR, 320, .inl (zfill (zfill (zfill (zfill (zfill f 8 0 144) 9 144 256) 7 256 280) 8 280 288) 5 288 320))), (fs, .inr (6, [.ref s1, .ref s2, .ref s3, .int k1])), (s1, .inl (cS1, 16, .inl u1)), (s2, .inl (cS2, 16, .inl u2)), (s3, .inl (cS3, 288, .inl u3)), (fd, .inr (6, [.ref d1, .ref d2, .ref d3, .int k2])), (d1, .inl (cD1, 16, .inl v1)), (d2, .inl (cD2, 16, .inl v2)), (d3, .inl (cD3, 32, .inl v3))]) [0, 9, 1, 2, 3, 4, 5, 6, 7, 8] rfl
    have hD := hD.sub (ws' := [(h0, .inr (4, [.ref tg, .ref bt, .ref ar, .ref fs, .ref fd, .ref lc, .ref os, .ref od])), (ar, .inl (cR, 320, .inl (zfill (zfill (zfill (zfill (zfill f 8 0 144) 9 144 256) 7 256 280) 8 280 288) 5 288 320))), (fs, .inr (6, [.ref s1, .ref s2, .ref s3, .int k1])), (s1, .inl (cS1, 16, .inl u1)), (s2, .inl (cS2, 16, .inl u2)), (s3, .inl (cS3, 288, .inl u3)), (fd, .inr (6, [.ref d1, .ref d2, .ref d3, .int k2])), (d1, .inl (cD1, 16, .inl v1)), (d2, .inl (cD2, 16, .inl v2)), (d3, .inl (cD3, 32, .inl v3))]) [0, 9, 1, 2, 3, 4, 5, 6, 7, 8] (by decide) rfl
    have hK := hK.sub (tys' := [(cR, .int), (cS1, .int), (cS2, .int), (cS3, .int), (cD1, .int), (cD2, .int), (cD3, .int)]) [0, 1, 2, 3, 4, 5, 6] rfl
    have hP : va_P D zcl [(h0, .inr (4, [.ref tg, .ref bt, .ref ar, .ref fs, .ref fd, .ref lc, .ref os, .ref od])), (ar, .inl (cR, 320, .inl (zfixF f))), (fs, .inr (6, [.ref s1, .ref s2, .ref s3, .int k1])), (s1, .inl (cS1, 16, .inl u1)), (s2, .inl (cS2, 16, .inl u2)), (s3, .inl (cS3, 288, .inl u3)), (fd, .inr (6, [.ref d1, .ref d2, .ref d3, .int k2])), (d1, .inl (cD1, 16, .inl v1)), (d2, .inl (cD2, 16, .inl v2)), (d3, .inl (cD3, 32, .inl v3))] H := hP
    have hD : va_D A [(h0, .inr (4, [.ref tg, .ref bt, .ref ar, .ref fs, .ref fd, .ref lc, .ref os, .ref od])), (ar, .inl (cR, 320, .inl (zfixF f))), (fs, .inr (6, [.ref s1, .ref s2, .ref s3, .int k1])), (s1, .inl (cS1, 16, .inl u1)), (s2, .inl (cS2, 16, .inl u2)), (s3, .inl (cS3, 288, .inl u3)), (fd, .inr (6, [.ref d1, .ref d2, .ref d3, .int k2])), (d1, .inl (cD1, 16, .inl v1)), (d2, .inl (cD2, 16, .inl v2)), (d3, .inl (cD3, 32, .inl v3))] := hD
    refine lv_aload_n hx hb d_U_buildFixedCodes_72 rfl (lv_at hl 0 rfl) ?_
    refine va_get (ci := 4) (C := "ZipGuard$Unpacker") (T := F_U) (N := 8) hx hb ht zi_U hown hK hP 0 rfl rfl 3 (by decide) (ht _ zm_373) (fun _ h9 => h9) rfl d_U_buildFixedCodes_73 ?_
    refine lv_aload_n hx hb d_U_buildFixedCodes_76 rfl (lv_at hl 0 rfl) ?_
    refine va_get (ci := 4) (C := "ZipGuard$Unpacker") (T := F_U) (N := 8) hx hb ht zi_U hown hK hP 0 rfl rfl 2 (by decide) (ht _ zm_372) (fun _ h9 => h9) rfl d_U_buildFixedCodes_77 ?_
    refine lv_iconst (v := 0) hx hb d_U_buildFixedCodes_80 (by decide) ?_
    refine lv_sipush (v := 288) hx hb d_U_buildFixedCodes_81 (by decide) ?_
    refine zjv (wr := [(h0, .inr (4, [.ref tg, .ref bt, .ref ar, .ref fs, .ref fd, .ref lc, .ref os, .ref od])), (fd, .inr (6, [.ref d1, .ref d2, .ref d3, .int k2])), (d1, .inl (cD1, 16, .inl v1)), (d2, .inl (cD2, 16, .inl v2)), (d3, .inl (cD3, 32, .inl v3))]) (va_runV (As := [.ref ar, .int 0, .int 288]) (rest := []) ⟨hx, hb, hml, hown, ht⟩ (c_C_build l D _ fs s1 s2 s3 ar cS1 cS2 cS3 cR 288 320 (zfixF f) 0 288 zfix k1 u1 u2 u3 (zfix_s f) zfix_15 (by decide) (by decide) (by decide) (by decide)) (cwV 3 ht (zt_goodV zm_363 zm_364 zm_365 zm_72 zm_366) rfl rfl rfl (by decide +kernel) ⟨Nat.le_of_ble_eq_true rfl, Nat.le_of_ble_eq_true rfl⟩) (zpreV zBlind_t hK hP hD [2, 3, 4, 5, 1] [1, 2, 3, 0] rfl (by decide) rfl (fun _ _ _ => trivial) (va_recv (q := ("ZipGuard$CodeSet", F_C, 4)) hK hP rfl (q0 := 2) (ci := 6) rfl)) rfl rfl hl.1 rfl (lv_room (Nat.le_of_ble_eq_true rfl)) d_U_buildFixedCodes_84 ⟨Nat.le_of_ble_eq_true rfl, Nat.le_of_ble_eq_true rfl⟩) hK hP hD hS hA [2, 3, 4, 5, 1] [0, 6, 7, 8, 9] rfl rfl (by decide) (by decide) (fun u H locs hp12 hP hD hK hS => ?_)
    obtain ⟨G1, G2, G3⟩ := u
    dsimp only at hp12 hP hD hK
    have hP : va_P D zcl [(h0, .inr (4, [.ref tg, .ref bt, .ref ar, .ref fs, .ref fd, .ref lc, .ref os, .ref od])), (fd, .inr (6, [.ref d1, .ref d2, .ref d3, .int k2])), (d1, .inl (cD1, 16, .inl v1)), (d2, .inl (cD2, 16, .inl v2)), (d3, .inl (cD3, 32, .inl v3)), (fs, .inr (6, [.ref s1, .ref s2, .ref s3, .int (nI (zst zfix 288 16))])), (s1, .inl (cS1, 16, .inl G1)), (s2, .inl (cS2, 16, .inl G2)), (s3, .inl (cS3, 288, .inl G3)), (ar, .inl (cR, 320, .inl (zfixF f)))] H := hP
    have hD : va_D A [(h0, .inr (4, [.ref tg, .ref bt, .ref ar, .ref fs, .ref fd, .ref lc, .ref os, .ref od])), (fd, .inr (6, [.ref d1, .ref d2, .ref d3, .int k2])), (d1, .inl (cD1, 16, .inl v1)), (d2, .inl (cD2, 16, .inl v2)), (d3, .inl (cD3, 32, .inl v3)), (fs, .inr (6, [.ref s1, .ref s2, .ref s3, .int (nI (zst zfix 288 16))])), (s1, .inl (cS1, 16, .inl G1)), (s2, .inl (cS2, 16, .inl G2)), (s3, .inl (cS3, 288, .inl G3)), (ar, .inl (cR, 320, .inl (zfixF f)))] := hD
    have hK : va_K D zcl [(cR, .int), (cS1, .int), (cS2, .int), (cS3, .int), (cD1, .int), (cD2, .int), (cD3, .int), (cS1, .int), (cS2, .int), (cS3, .int), (cR, .int)] s := hK
    have hP := hP.sub (ws' := [(h0, .inr (4, [.ref tg, .ref bt, .ref ar, .ref fs, .ref fd, .ref lc, .ref os, .ref od])), (ar, .inl (cR, 320, .inl (zfixF f))), (fs, .inr (6, [.ref s1, .ref s2, .ref s3, .int (nI (zst zfix 288 16))])), (s1, .inl (cS1, 16, .inl G1)), (s2, .inl (cS2, 16, .inl G2)), (s3, .inl (cS3, 288, .inl G3)), (fd, .inr (6, [.ref d1, .ref d2, .ref d3, .int k2])), (d1, .inl (cD1, 16, .inl v1)), (d2, .inl (cD2, 16, .inl v2)), (d3, .inl (cD3, 32, .inl v3))]) [0, 9, 5, 6, 7, 8, 1, 2, 3, 4] rfl
    have hD := hD.sub (ws' := [(h0, .inr (4, [.ref tg, .ref bt, .ref ar, .ref fs, .ref fd, .ref lc, .ref os, .ref od])), (ar, .inl (cR, 320, .inl (zfixF f))), (fs, .inr (6, [.ref s1, .ref s2, .ref s3, .int (nI (zst zfix 288 16))])), (s1, .inl (cS1, 16, .inl G1)), (s2, .inl (cS2, 16, .inl G2)), (s3, .inl (cS3, 288, .inl G3)), (fd, .inr (6, [.ref d1, .ref d2, .ref d3, .int k2])), (d1, .inl (cD1, 16, .inl v1)), (d2, .inl (cD2, 16, .inl v2)), (d3, .inl (cD3, 32, .inl v3))]) [0, 9, 5, 6, 7, 8, 1, 2, 3, 4] (by decide) rfl
    have hK := hK.sub (tys' := [(cR, .int), (cS1, .int), (cS2, .int), (cS3, .int), (cD1, .int), (cD2, .int), (cD3, .int)]) [0, 1, 2, 3, 4, 5, 6] rfl
    refine lv_aload_n hx hb d_U_buildFixedCodes_87 rfl (lv_at hl 0 rfl) ?_
    refine va_get (ci := 4) (C := "ZipGuard$Unpacker") (T := F_U) (N := 8) hx hb ht zi_U hown hK hP 0 rfl rfl 4 (by decide) (ht _ zm_374) (fun _ h9 => h9) rfl d_U_buildFixedCodes_88 ?_
    refine lv_aload_n hx hb d_U_buildFixedCodes_91 rfl (lv_at hl 0 rfl) ?_
    refine va_get (ci := 4) (C := "ZipGuard$Unpacker") (T := F_U) (N := 8) hx hb ht zi_U hown hK hP 0 rfl rfl 2 (by decide) (ht _ zm_372) (fun _ h9 => h9) rfl d_U_buildFixedCodes_92 ?_
    refine lv_sipush (v := 288) hx hb d_U_buildFixedCodes_95 (by decide) ?_
    refine lv_bipush (v := 32) hx hb d_U_buildFixedCodes_98 (by decide) ?_
    refine zjv (wr := [(h0, .inr (4, [.ref tg, .ref bt, .ref ar, .ref fs, .ref fd, .ref lc, .ref os, .ref od])), (fs, .inr (6, [.ref s1, .ref s2, .ref s3, .int (nI (zst zfix 288 16))])), (s1, .inl (cS1, 16, .inl G1)), (s2, .inl (cS2, 16, .inl G2)), (s3, .inl (cS3, 288, .inl G3))]) (va_runV (As := [.ref ar, .int 288, .int 32]) (rest := []) ⟨hx, hb, hml, hown, ht⟩ (c_C_build l D _ fd d1 d2 d3 ar cD1 cD2 cD3 cR 32 320 (zfixF f) 288 32 (fun _ => 5) k2 v1 v2 v3 (zfix_d f) (fun _ _ => by decide) (by decide) (by decide) (by decide) (by decide)) (cwV 3 ht (zt_goodV zm_363 zm_364 zm_365 zm_72 zm_366) rfl rfl rfl (by decide +kernel) ⟨Nat.le_of_ble_eq_true rfl, Nat.le_of_ble_eq_true rfl⟩) (zpreV zBlind_t hK hP hD [6, 7, 8, 9, 1] [4, 5, 6, 0] rfl (by decide) rfl (fun _ _ _ => trivial) (va_recv (q := ("ZipGuard$CodeSet", F_C, 4)) hK hP rfl (q0 := 6) (ci := 6) rfl)) rfl rfl hl.1 rfl (lv_room (Nat.le_of_ble_eq_true rfl)) d_U_buildFixedCodes_100 ⟨Nat.le_of_ble_eq_true rfl, Nat.le_of_ble_eq_true rfl⟩) hK hP hD hS hA [6, 7, 8, 9, 1] [0, 2, 3, 4, 5] rfl rfl (by decide) (by decide) (fun u H locs hp14 hP hD hK hS => ?_)
    obtain ⟨E1, E2, E3⟩ := u
    dsimp only at hp14 hP hD hK
    have hP : va_P D zcl [(h0, .inr (4, [.ref tg, .ref bt, .ref ar, .ref fs, .ref fd, .ref lc, .ref os, .ref od])), (fs, .inr (6, [.ref s1, .ref s2, .ref s3, .int (nI (zst zfix 288 16))])), (s1, .inl (cS1, 16, .inl G1)), (s2, .inl (cS2, 16, .inl G2)), (s3, .inl (cS3, 288, .inl G3)), (fd, .inr (6, [.ref d1, .ref d2, .ref d3, .int (nI (zst (fun _ => 5) 32 16))])), (d1, .inl (cD1, 16, .inl E1)), (d2, .inl (cD2, 16, .inl E2)), (d3, .inl (cD3, 32, .inl E3)), (ar, .inl (cR, 320, .inl (zfixF f)))] H := hP
    have hD : va_D A [(h0, .inr (4, [.ref tg, .ref bt, .ref ar, .ref fs, .ref fd, .ref lc, .ref os, .ref od])), (fs, .inr (6, [.ref s1, .ref s2, .ref s3, .int (nI (zst zfix 288 16))])), (s1, .inl (cS1, 16, .inl G1)), (s2, .inl (cS2, 16, .inl G2)), (s3, .inl (cS3, 288, .inl G3)), (fd, .inr (6, [.ref d1, .ref d2, .ref d3, .int (nI (zst (fun _ => 5) 32 16))])), (d1, .inl (cD1, 16, .inl E1)), (d2, .inl (cD2, 16, .inl E2)), (d3, .inl (cD3, 32, .inl E3)), (ar, .inl (cR, 320, .inl (zfixF f)))] := hD
    have hK : va_K D zcl [(cR, .int), (cS1, .int), (cS2, .int), (cS3, .int), (cD1, .int), (cD2, .int), (cD3, .int), (cD1, .int), (cD2, .int), (cD3, .int), (cR, .int)] s := hK
    have hP := hP.sub (ws' := [(h0, .inr (4, [.ref tg, .ref bt, .ref ar, .ref fs, .ref fd, .ref lc, .ref os, .ref od])), (ar, .inl (cR, 320, .inl (zfixF f))), (fs, .inr (6, [.ref s1, .ref s2, .ref s3, .int (nI (zst zfix 288 16))])), (s1, .inl (cS1, 16, .inl G1)), (s2, .inl (cS2, 16, .inl G2)), (s3, .inl (cS3, 288, .inl G3)), (fd, .inr (6, [.ref d1, .ref d2, .ref d3, .int (nI (zst (fun _ => 5) 32 16))])), (d1, .inl (cD1, 16, .inl E1)), (d2, .inl (cD2, 16, .inl E2)), (d3, .inl (cD3, 32, .inl E3))]) [0, 9, 1, 2, 3, 4, 5, 6, 7, 8] rfl
    have hD := hD.sub (ws' := [(h0, .inr (4, [.ref tg, .ref bt, .ref ar, .ref fs, .ref fd, .ref lc, .ref os, .ref od])), (ar, .inl (cR, 320, .inl (zfixF f))), (fs, .inr (6, [.ref s1, .ref s2, .ref s3, .int (nI (zst zfix 288 16))])), (s1, .inl (cS1, 16, .inl G1)), (s2, .inl (cS2, 16, .inl G2)), (s3, .inl (cS3, 288, .inl G3)), (fd, .inr (6, [.ref d1, .ref d2, .ref d3, .int (nI (zst (fun _ => 5) 32 16))])), (d1, .inl (cD1, 16, .inl E1)), (d2, .inl (cD2, 16, .inl E2)), (d3, .inl (cD3, 32, .inl E3))]) [0, 9, 1, 2, 3, 4, 5, 6, 7, 8] (by decide) rfl
    have hK := hK.sub (tys' := [(cR, .int), (cS1, .int), (cS2, .int), (cS3, .int), (cD1, .int), (cD2, .int), (cD3, .int)]) [0, 1, 2, 3, 4, 5, 6] rfl
    exact zretv hx hb hr hlk hK hP hD hS ((G1, G2, G3), (E1, E2, E3)) [0, 1, 2, 3, 4, 5, 6, 7, 8, 9] [0, 1, 2, 3, 4, 5, 6] rfl (by decide) rfl (⟨hp12, hp14⟩) (Nat.le_of_ble_eq_true rfl) (Nat.le_of_ble_eq_true rfl) d_U_buildFixedCodes_103)
set_option maxHeartbeats 4000000 in
set_option maxRecDepth 100000 in
theorem c_U_init0 (l : Launch) (D : va_G) (sz : Nat) (h0 : Nat) (h1 : Nat) (h2 : Nat) (b : Nat) (n : Int32)  : Met l y_U_init (Cond.code y_U_init prog_8_method_1_code 3 (Option.none : Option Jvm.ClassFile.FieldType) :: zt) { frames := 3, cells := 22, slots := 1159, locals := 68 } (zPc [.ref h0, .ref h1, .ref h2] D [(h0, .inr (4, [.null, .null, .null, .null, .null, .null, .null, .null])), (h1, .inr (1, [.ref b, .int n]))] [] sz (fun _ => True)) (va_Qv (fun (_ : Unit) => True) (fun u t => zB D ((fun (_ : Unit) => [(h1, .inr (1, [.ref b, .int n]))]) u) ((fun (_ : Unit) => []) u) (va_A [(h0, .inr (4, [.null, .null, .null, .null, .null, .null, .null, .null])), (h1, .inr (1, [.ref b, .int n]))] sz) t) (va_A [(h0, .inr (4, [.null, .null, .null, .null, .null, .null, .null, .null])), (h1, .inr (1, [.ref b, .int n]))] sz)) 22 1159 (va_A [(h0, .inr (4, [.null, .null, .null, .null, .null, .null, .null, .null])), (h1, .inr (1, [.ref b, .int n]))] sz) :=
  zMet (Qf := fun A => va_Qv (fun (_ : Unit) => True) (fun u t => zB D ((fun (_ : Unit) => [(h1, .inr (1, [.ref b, .int n]))]) u) ((fun (_ : Unit) => []) u) A t) A) (by decide) (Nat.le_of_ble_eq_true rfl) (fun p e s m below meth c A ls hx hb hr hml hown ht hlk hnm hA hK hP hD hX hl => by
    have hS : va_S A s.heap s.heap [] := va_S.rf
    have hl : lv_has ls 3 [(0, .ref h0), (1, .ref h1), (2, .ref h2)] := hl
    refine lv_aload_n hx hb d_U_init_0 rfl (lv_at hl 0 rfl) ?_
    refine W.objInit hx hb hown (ht _ zm_230) (ht _ zm_87) (ht _ zm_88) rfl (by rw [hml]; exact hl.1) rfl d_U_init_1 (Nat.le_of_ble_eq_true rfl) (Nat.le_of_ble_eq_true rfl) ?_
    refine W.eq (g2 := F0 m 4 ls []) rfl ?_
    refine lv_aload_n hx hb d_U_init_4 rfl (lv_at hl 0 rfl) ?_
    refine lv_aload_n hx hb d_U_init_5 rfl (lv_at hl 2 rfl) ?_
    refine va_putF (ci := 4) (v := .ref h2) (ty := .object "ZipGuard$Target") (C := "ZipGuard$Unpacker") (T := F_U) (N := 8) hx hb ht zi_U ty_U tk_U nm_U hown hK hP hD hS 0 rfl rfl 0 (by decide) (ht _ zm_370) (fun _ h9 => h9) rfl hnm rfl (by decide +kernel) rfl rfl (Nat.le_of_ble_eq_true rfl) d_U_init_6 (fun H locs hP hD hS => ?_)
    have hP : va_P D zcl [(h0, .inr (4, [.ref h2, .null, .null, .null, .null, .null, .null, .null])), (h1, .inr (1, [.ref b, .int n]))] H := hP
    have hD : va_D A [(h0, .inr (4, [.ref h2, .null, .null, .null, .null, .null, .null, .null])), (h1, .inr (1, [.ref b, .int n]))] := hD
    refine lv_aload_n hx hb d_U_init_9 rfl (lv_at hl 0 rfl) ?_
    refine va_new (ci := 5) (fs := [.null, .int 0, .int 0, .int 0]) (C := "ZipGuard$BitReader") (T := F_B) (N := 4) hx hb ht zi_B ty_B tk_B hown (ht _ zm_231) (ht _ zm_232) (ht _ zm_71) hK hP hD hS hA rfl zdf_B (Nat.le_of_ble_eq_true rfl) (Nat.le_of_ble_eq_true rfl) d_U_init_10 (fun q1 H hP hD hS => ?_)
    have hP : va_P D zcl [(h0, .inr (4, [.ref h2, .null, .null, .null, .null, .null, .null, .null])), (h1, .inr (1, [.ref b, .int n])), (q1, .inr (5, [.null, .int 0, .int 0, .int 0]))] H := hP
    have hD : va_D A [(h0, .inr (4, [.ref h2, .null, .null, .null, .null, .null, .null, .null])), (h1, .inr (1, [.ref b, .int n])), (q1, .inr (5, [.null, .int 0, .int 0, .int 0]))] := hD
    refine lv_dup hx hb d_U_init_13 rfl ?_
    refine lv_aload_n hx hb d_U_init_14 rfl (lv_at hl 1 rfl) ?_
    refine zjv (wr := [(h0, .inr (4, [.ref h2, .null, .null, .null, .null, .null, .null, .null]))]) (va_runI (As := [.ref h1]) (rest := [.ref q1, .ref h0]) ⟨hx, hb, hml, hown, ht⟩ (c_B_init l D _ q1 h1 b n ) (cwI 1 ht (zt_good zm_235) rfl rfl rfl (ht _ zm_71) (ht _ zm_233) (ht _ zm_234) rfl (by decide +kernel) ⟨Nat.le_of_ble_eq_true rfl, Nat.le_of_ble_eq_true rfl⟩) (zpre zBlind_t hK hP hD [2, 1] [] rfl (by decide) rfl (fun _ _ _ => trivial)) rfl rfl hl.1 rfl (lv_room (Nat.le_of_ble_eq_true rfl)) d_U_init_15 ⟨Nat.le_of_ble_eq_true rfl, Nat.le_of_ble_eq_true rfl⟩) hK hP hD hS hA [2, 1] [0] rfl rfl (by decide) (by decide) (fun u H locs hp3 hP hD hK hS => ?_)
    have hP : va_P D zcl [(h0, .inr (4, [.ref h2, .null, .null, .null, .null, .null, .null, .null])), (q1, .inr (5, [.ref b, .int 0, .int 0, .int 0])), (h1, .inr (1, [.ref b, .int n]))] H := hP
    have hD : va_D A [(h0, .inr (4, [.ref h2, .null, .null, .null, .null, .null, .null, .null])), (q1, .inr (5, [.ref b, .int 0, .int 0, .int 0])), (h1, .inr (1, [.ref b, .int n]))] := hD
    have hK : va_K D zcl [] s := hK
    refine va_putF (ci := 4) (v := .ref q1) (ty := .object "ZipGuard$BitReader") (C := "ZipGuard$Unpacker") (T := F_U) (N := 8) hx hb ht zi_U ty_U tk_U nm_U hown hK hP hD hS 0 rfl rfl 1 (by decide) (ht _ zm_371) (fun _ h9 => h9) rfl hnm rfl (by decide +kernel) rfl rfl (Nat.le_of_ble_eq_true rfl) d_U_init_18 (fun H locs hP hD hS => ?_)
    have hP : va_P D zcl [(h0, .inr (4, [.ref h2, .ref q1, .null, .null, .null, .null, .null, .null])), (q1, .inr (5, [.ref b, .int 0, .int 0, .int 0])), (h1, .inr (1, [.ref b, .int n]))] H := hP
    have hD : va_D A [(h0, .inr (4, [.ref h2, .ref q1, .null, .null, .null, .null, .null, .null])), (q1, .inr (5, [.ref b, .int 0, .int 0, .int 0])), (h1, .inr (1, [.ref b, .int n]))] := hD
    refine lv_aload_n hx hb d_U_init_21 rfl (lv_at hl 0 rfl) ?_
    refine lv_sipush (v := 320) hx hb d_U_init_22 (by decide) ?_
    refine va_newa (atype := .int) (ty := .int) (n := 320) (N' := 320) (a0 := (320, .inl (fun _ => 0))) hx hb (ht _ zm_269) rfl hK hP hD hS hA (fun _ => rfl) (by decide) (by decide) (by decide) (Nat.le_of_ble_eq_true rfl) (Nat.le_of_ble_eq_true rfl) d_U_init_25 (fun q4 cA5 H hK hP hD hS => ?_)
    have hP : va_P D zcl [(h0, .inr (4, [.ref h2, .ref q1, .null, .null, .null, .null, .null, .null])), (q1, .inr (5, [.ref b, .int 0, .int 0, .int 0])), (h1, .inr (1, [.ref b, .int n])), (q4, .inl (cA5, 320, .inl (fun _ => 0)))] H := hP
    have hD : va_D A [(h0, .inr (4, [.ref h2, .ref q1, .null, .null, .null, .null, .null, .null])), (q1, .inr (5, [.ref b, .int 0, .int 0, .int 0])), (h1, .inr (1, [.ref b, .int n])), (q4, .inl (cA5, 320, .inl (fun _ => 0)))] := hD
    have hK : va_K D zcl [(cA5, .int)] s := hK
    refine va_putF (ci := 4) (v := .ref q4) (ty := .array .int) (C := "ZipGuard$Unpacker") (T := F_U) (N := 8) hx hb ht zi_U ty_U tk_U nm_U hown hK hP hD hS 0 rfl rfl 2 (by decide) (ht _ zm_372) (fun _ h9 => h9) rfl hnm rfl (by decide +kernel) rfl rfl (Nat.le_of_ble_eq_true rfl) d_U_init_27 (fun H locs hP hD hS => ?_)
    have hP : va_P D zcl [(h0, .inr (4, [.ref h2, .ref q1, .ref q4, .null, .null, .null, .null, .null])), (q1, .inr (5, [.ref b, .int 0, .int 0, .int 0])), (h1, .inr (1, [.ref b, .int n])), (q4, .inl (cA5, 320, .inl (fun _ => 0)))] H := hP
    have hD : va_D A [(h0, .inr (4, [.ref h2, .ref q1, .ref q4, .null, .null, .null, .null, .null])), (q1, .inr (5, [.ref b, .int 0, .int 0, .int 0])), (h1, .inr (1, [.ref b, .int n])), (q4, .inl (cA5, 320, .inl (fun _ => 0)))] := hD
    refine lv_aload_n hx hb d_U_init_30 rfl (lv_at hl 0 rfl) ?_
    refine va_new (ci := 6) (fs := [.null, .null, .null, .int 0]) (C := "ZipGuard$CodeSet") (T := F_C) (N := 4) hx hb ht zi_C ty_C tk_C hown (ht _ zm_250) (ht _ zm_251) (ht _ zm_72) hK hP hD hS hA rfl zdf_C (Nat.le_of_ble_eq_true rfl) (Nat.le_of_ble_eq_true rfl) d_U_init_31 (fun q6 H hP hD hS => ?_)
    have hP : va_P D zcl [(h0, .inr (4, [.ref h2, .ref q1, .ref q4, .null, .null, .null, .null, .null])), (q1, .inr (5, [.ref b, .int 0, .int 0, .int 0])), (h1, .inr (1, [.ref b, .int n])), (q4, .inl (cA5, 320, .inl (fun _ => 0))), (q6, .inr (6, [.null, .null, .null, .int 0]))] H := hP
    have hD : va_D A [(h0, .inr (4, [.ref h2, .ref q1, .ref q4, .null, .null, .null, .null, .null])), (q1, .inr (5, [.ref b, .int 0, .int 0, .int 0])), (h1, .inr (1, [.ref b, .int n])), (q4, .inl (cA5, 320, .inl (fun _ => 0))), (q6, .inr (6, [.null, .null, .null, .int 0]))] := hD
    refine lv_dup hx hb d_U_init_34 rfl ?_
    refine lv_sipush (v := 288) hx hb d_U_init_35 (by decide) ?_
    refine zjv (wr := [(h0, .inr (4, [.ref h2, .ref q1, .ref q4, .null, .null, .null, .null, .null])), (q1, .inr (5, [.ref b, .int 0, .int 0, .int 0])), (h1, .inr (1, [.ref b, .int n])), (q4, .inl (cA5, 320, .inl (fun _ => 0)))]) (va_runI (As := [.int 288]) (rest := [.ref q6, .ref h0]) ⟨hx, hb, hml, hown, ht⟩ (c_C_init_288 l D _ q6 ) (cwI 1 ht (zt_good zm_254) rfl rfl rfl (ht _ zm_72) (ht _ zm_252) (ht _ zm_253) rfl (by decide +kernel) ⟨Nat.le_of_ble_eq_true rfl, Nat.le_of_ble_eq_true rfl⟩) (zpre zBlind_t hK hP hD [4] [] rfl (by decide) rfl (fun _ _ _ => trivial)) rfl rfl hl.1 rfl (lv_room (Nat.le_of_ble_eq_true rfl)) d_U_init_38 ⟨Nat.le_of_ble_eq_true rfl, Nat.le_of_ble_eq_true rfl⟩) hK hP hD hS hA [4] [0, 1, 2, 3] rfl rfl (by decide) (by decide) (fun u H locs hp14 hP hD hK hS => ?_)
    obtain ⟨q17, q28, q39, cA110, cA211, cA312⟩ := u
    dsimp only at hp14 hP hD hK
    have hP : va_P D zcl [(h0, .inr (4, [.ref h2, .ref q1, .ref q4, .null, .null, .null, .null, .null])), (q1, .inr (5, [.ref b, .int 0, .int 0, .int 0])), (h1, .inr (1, [.ref b, .int n])), (q4, .inl (cA5, 320, .inl (fun _ => 0))), (q6, .inr (6, [.ref q17, .ref q28, .ref q39, .int 0])), (q17, .inl (cA110, 16, .inl (fun _ => 0))), (q28, .inl (cA211, 16, .inl (fun _ => 0))), (q39, .inl (cA312, 288, .inl (fun _ => 0)))] H := hP
    have hD : va_D A [(h0, .inr (4, [.ref h2, .ref q1, .ref q4, .null, .null, .null, .null, .null])), (q1, .inr (5, [.ref b, .int 0, .int 0, .int 0])), (h1, .inr (1, [.ref b, .int n])), (q4, .inl (cA5, 320, .inl (fun _ => 0))), (q6, .inr (6, [.ref q17, .ref q28, .ref q39, .int 0])), (q17, .inl (cA110, 16, .inl (fun _ => 0))), (q28, .inl (cA211, 16, .inl (fun _ => 0))), (q39, .inl (cA312, 288, .inl (fun _ => 0)))] := hD
    have hK : va_K D zcl [(cA5, .int), (cA110, .int), (cA211, .int), (cA312, .int)] s := hK
    refine va_putF (ci := 4) (v := .ref q6) (ty := .object "ZipGuard$CodeSet") (C := "ZipGuard$Unpacker") (T := F_U) (N := 8) hx hb ht zi_U ty_U tk_U nm_U hown hK hP hD hS 0 rfl rfl 3 (by decide) (ht _ zm_373) (fun _ h9 => h9) rfl hnm rfl (by decide +kernel) rfl rfl (Nat.le_of_ble_eq_true rfl) d_U_init_41 (fun H locs hP hD hS => ?_)
    have hP : va_P D zcl [(h0, .inr (4, [.ref h2, .ref q1, .ref q4, .ref q6, .null, .null, .null, .null])), (q1, .inr (5, [.ref b, .int 0, .int 0, .int 0])), (h1, .inr (1, [.ref b, .int n])), (q4, .inl (cA5, 320, .inl (fun _ => 0))), (q6, .inr (6, [.ref q17, .ref q28, .ref q39, .int 0])), (q17, .inl (cA110, 16, .inl (fun _ => 0))), (q28, .inl (cA211, 16, .inl (fun _ => 0))), (q39, .inl (cA312, 288, .inl (fun _ => 0)))] H := hP
    have hD : va_D A [(h0, .inr (4, [.ref h2, .ref q1, .ref q4, .ref q6, .null, .null, .null, .null])), (q1, .inr (5, [.ref b, .int 0, .int 0, .int 0])), (h1, .inr (1, [.ref b, .int n])), (q4, .inl (cA5, 320, .inl (fun _ => 0))), (q6, .inr (6, [.ref q17, .ref q28, .ref q39, .int 0])), (q17, .inl (cA110, 16, .inl (fun _ => 0))), (q28, .inl (cA211, 16, .inl (fun _ => 0))), (q39, .inl (cA312, 288, .inl (fun _ => 0)))] := hD
    have hP := hP.sub (ws' := [(h0, .inr (4, [.ref h2, .ref q1, .ref q4, .ref q6, .null, .null, .null, .null])), (h1, .inr (1, [.ref b, .int n])), (q4, .inl (cA5, 320, .inl (fun _ => 0))), (q6, .inr (6, [.ref q17, .ref q28, .ref q39, .int 0])), (q17, .inl (cA110, 16, .inl (fun _ => 0))), (q28, .inl (cA211, 16, .inl (fun _ => 0))), (q39, .inl (cA312, 288, .inl (fun _ => 0)))]) [0, 2, 3, 4, 5, 6, 7] rfl
    have hD := hD.sub (ws' := [(h0, .inr (4, [.ref h2, .ref q1, .ref q4, .ref q6, .null, .null, .null, .null])), (h1, .inr (1, [.ref b, .int n])), (q4, .inl (cA5, 320, .inl (fun _ => 0))), (q6, .inr (6, [.ref q17, .ref q28, .ref q39, .int 0])), (q17, .inl (cA110, 16, .inl (fun _ => 0))), (q28, .inl (cA211, 16, .inl (fun _ => 0))), (q39, .inl (cA312, 288, .inl (fun _ => 0)))]) [0, 2, 3, 4, 5, 6, 7] (by decide) rfl
    have hK := hK.sub (tys' := [(cA5, .int), (cA110, .int), (cA211, .int), (cA312, .int)]) [0, 1, 2, 3] rfl
    refine lv_aload_n hx hb d_U_init_44 rfl (lv_at hl 0 rfl) ?_
    refine va_new (ci := 6) (fs := [.null, .null, .null, .int 0]) (C := "ZipGuard$CodeSet") (T := F_C) (N := 4) hx hb ht zi_C ty_C tk_C hown (ht _ zm_250) (ht _ zm_251) (ht _ zm_72) hK hP hD hS hA rfl zdf_C (Nat.le_of_ble_eq_true rfl) (Nat.le_of_ble_eq_true rfl) d_U_init_45 (fun q15 H hP hD hS => ?_)
    have hP : va_P D zcl [(h0, .inr (4, [.ref h2, .ref q1, .ref q4, .ref q6, .null, .null, .null, .null])), (h1, .inr (1, [.ref b, .int n])), (q4, .inl (cA5, 320, .inl (fun _ => 0))), (q6, .inr (6, [.ref q17, .ref q28, .ref q39, .int 0])), (q17, .inl (cA110, 16, .inl (fun _ => 0))), (q28, .inl (cA211, 16, .inl (fun _ => 0))), (q39, .inl (cA312, 288, .inl (fun _ => 0))), (q15, .inr (6, [.null, .null, .null, .int 0]))] H := hP
    have hD : va_D A [(h0, .inr (4, [.ref h2, .ref q1, .ref q4, .ref q6, .null, .null, .null, .null])), (h1, .inr (1, [.ref b, .int n])), (q4, .inl (cA5, 320, .inl (fun _ => 0))), (q6, .inr (6, [.ref q17, .ref q28, .ref q39, .int 0])), (q17, .inl (cA110, 16, .inl (fun _ => 0))), (q28, .inl (cA211, 16, .inl (fun _ => 0))), (q39, .inl (cA312, 288, .inl (fun _ => 0))), (q15, .inr (6, [.null, .null, .null, .int 0]))] := hD
    refine lv_dup hx hb d_U_init_48 rfl ?_
    refine lv_bipush (v := 32) hx hb d_U_init_49 (by decide) ?_
    refine zjv (wr := [(h0, .inr (4, [.ref h2, .ref q1, .ref q4, .ref q6, .null, .null, .null, .null])), (h1, .inr (1, [.ref b, .int n])), (q4, .inl (cA5, 320, .inl (fun _ => 0))), (q6, .inr (6, [.ref q17, .ref q28, .ref q39, .int 0])), (q17, .inl (cA110, 16, .inl (fun _ => 0))), (q28, .inl (cA211, 16, .inl (fun _ => 0))), (q39, .inl (cA312, 288, .inl (fun _ => 0)))]) (va_runI (As := [.int 32]) (rest := [.ref q15, .ref h0]) ⟨hx, hb, hml, hown, ht⟩ (c_C_init_32 l D _ q15 ) (cwI 1 ht (zt_good zm_254) rfl rfl rfl (ht _ zm_72) (ht _ zm_252) (ht _ zm_253) rfl (by decide +kernel) ⟨Nat.le_of_ble_eq_true rfl, Nat.le_of_ble_eq_true rfl⟩) (zpre zBlind_t hK hP hD [7] [] rfl (by decide) rfl (fun _ _ _ => trivial)) rfl rfl hl.1 rfl (lv_room (Nat.le_of_ble_eq_true rfl)) d_U_init_51 ⟨Nat.le_of_ble_eq_true rfl, Nat.le_of_ble_eq_true rfl⟩) hK hP hD hS hA [7] [0, 1, 2, 3, 4, 5, 6] rfl rfl (by decide) (by decide) (fun u H locs hp23 hP hD hK hS => ?_)
    obtain ⟨q116, q217, q318, cA119, cA220, cA321⟩ := u
    dsimp only at hp23 hP hD hK
    have hP : va_P D zcl [(h0, .inr (4, [.ref h2, .ref q1, .ref q4, .ref q6, .null, .null, .null, .null])), (h1, .inr (1, [.ref b, .int n])), (q4, .inl (cA5, 320, .inl (fun _ => 0))), (q6, .inr (6, [.ref q17, .ref q28, .ref q39, .int 0])), (q17, .inl (cA110, 16, .inl (fun _ => 0))), (q28, .inl (cA211, 16, .inl (fun _ => 0))), (q39, .inl (cA312, 288, .inl (fun _ => 0))), (q15, .inr (6, [.ref q116, .ref q217, .ref q318, .int 0])), (q116, .inl (cA119, 16, .inl (fun _ => 0))), (q217, .inl (cA220, 16, .inl (fun _ => 0))), (q318, .inl (cA321, 32, .inl (fun _ => 0)))] H := hP
    have hD : va_D A [(h0, .inr (4, [.ref h2, .ref q1, .ref q4, .ref q6, .null, .null, .null, .null])), (h1, .inr (1, [.ref b, .int n])), (q4, .inl (cA5, 320, .inl (fun _ => 0))), (q6, .inr (6, [.ref q17, .ref q28, .ref q39, .int 0])), (q17, .inl (cA110, 16, .inl (fun _ => 0))), (q28, .inl (cA211, 16, .inl (fun _ => 0))), (q39, .inl (cA312, 288, .inl (fun _ => 0))), (q15, .inr (6, [.ref q116, .ref q217, .ref q318, .int 0])), (q116, .inl (cA119, 16, .inl (fun _ => 0))), (q217, .inl (cA220, 16, .inl (fun _ => 0))), (q318, .inl (cA321, 32, .inl (fun _ => 0)))] := hD
    have hK : va_K D zcl [(cA5, .int), (cA110, .int), (cA211, .int), (cA312, .int), (cA119, .int), (cA220, .int), (cA321, .int)] s := hK
    refine va_putF (ci := 4) (v := .ref q15) (ty := .object "ZipGuard$CodeSet") (C := "ZipGuard$Unpacker") (T := F_U) (N := 8) hx hb ht zi_U ty_U tk_U nm_U hown hK hP hD hS 0 rfl rfl 4 (by decide) (ht _ zm_374) (fun _ h9 => h9) rfl hnm rfl (by decide +kernel) rfl rfl (Nat.le_of_ble_eq_true rfl) d_U_init_54 (fun H locs hP hD hS => ?_)
    have hP : va_P D zcl [(h0, .inr (4, [.ref h2, .ref q1, .ref q4, .ref q6, .ref q15, .null, .null, .null])), (h1, .inr (1, [.ref b, .int n])), (q4, .inl (cA5, 320, .inl (fun _ => 0))), (q6, .inr (6, [.ref q17, .ref q28, .ref q39, .int 0])), (q17, .inl (cA110, 16, .inl (fun _ => 0))), (q28, .inl (cA211, 16, .inl (fun _ => 0))), (q39, .inl (cA312, 288, .inl (fun _ => 0))), (q15, .inr (6, [.ref q116, .ref q217, .ref q318, .int 0])), (q116, .inl (cA119, 16, .inl (fun _ => 0))), (q217, .inl (cA220, 16, .inl (fun _ => 0))), (q318, .inl (cA321, 32, .inl (fun _ => 0)))] H := hP
    have hD : va_D A [(h0, .inr (4, [.ref h2, .ref q1, .ref q4, .ref q6, .ref q15, .null, .null, .null])), (h1, .inr (1, [.ref b, .int n])), (q4, .inl (cA5, 320, .inl (fun _ => 0))), (q6, .inr (6, [.ref q17, .ref q28, .ref q39, .int 0])), (q17, .inl (cA110, 16, .inl (fun _ => 0))), (q28, .inl (cA211, 16, .inl (fun _ => 0))), (q39, .inl (cA312, 288, .inl (fun _ => 0))), (q15, .inr (6, [.ref q116, .ref q217, .ref q318, .int 0])), (q116, .inl (cA119, 16, .inl (fun _ => 0))), (q217, .inl (cA220, 16, .inl (fun _ => 0))), (q318, .inl (cA321, 32, .inl (fun _ => 0)))] := hD
    have hP := hP.sub (ws' := [(h0, .inr (4, [.ref h2, .ref q1, .ref q4, .ref q6, .ref q15, .null, .null, .null])), (h1, .inr (1, [.ref b, .int n])), (q4, .inl (cA5, 320, .inl (fun _ => 0))), (q6, .inr (6, [.ref q17, .ref q28, .ref q39, .int 0])), (q17, .inl (cA110, 16, .inl (fun _ => 0))), (q28, .inl (cA211, 16, .inl (fun _ => 0))), (q39, .inl (cA312, 288, .inl (fun _ => 0))), (q15, .inr (6, [.ref q116, .ref q217, .ref q318, .int 0])), (q116, .inl (cA119, 16, .inl (fun _ => 0))), (q217, .inl (cA220, 16, .inl (fun _ => 0))), (q318, .inl (cA321, 32, .inl (fun _ => 0)))]) [0, 1, 2, 3, 4, 5, 6, 7, 8, 9, 10] rfl
    have hD := hD.sub (ws' := [(h0, .inr (4, [.ref h2, .ref q1, .ref q4, .ref q6, .ref q15, .null, .null, .null])), (h1, .inr (1, [.ref b, .int n])), (q4, .inl (cA5, 320, .inl (fun _ => 0))), (q6, .inr (6, [.ref q17, .ref q28, .ref q39, .int 0])), (q17, .inl (cA110, 16, .inl (fun _ => 0))), (q28, .inl (cA211, 16, .inl (fun _ => 0))), (q39, .inl (cA312, 288, .inl (fun _ => 0))), (q15, .inr (6, [.ref q116, .ref q217, .ref q318, .int 0])), (q116, .inl (cA119, 16, .inl (fun _ => 0))), (q217, .inl (cA220, 16, .inl (fun _ => 0))), (q318, .inl (cA321, 32, .inl (fun _ => 0)))]) [0, 1, 2, 3, 4, 5, 6, 7, 8, 9, 10] (by decide) rfl
    have hK := hK.sub (tys' := [(cA5, .int), (cA110, .int), (cA211, .int), (cA312, .int), (cA119, .int), (cA220, .int), (cA321, .int)]) [0, 1, 2, 3, 4, 5, 6] rfl
    refine lv_aload_n hx hb d_U_init_57 rfl (lv_at hl 0 rfl) ?_
    refine va_new (ci := 6) (fs := [.null, .null, .null, .int 0]) (C := "ZipGuard$CodeSet") (T := F_C) (N := 4) hx hb ht zi_C ty_C tk_C hown (ht _ zm_250) (ht _ zm_251) (ht _ zm_72) hK hP hD hS hA rfl zdf_C (Nat.le_of_ble_eq_true rfl) (Nat.le_of_ble_eq_true rfl) d_U_init_58 (fun q24 H hP hD hS => ?_)
    have hP : va_P D zcl [(h0, .inr (4, [.ref h2, .ref q1, .ref q4, .ref q6, .ref q15, .null, .null, .null])), (h1, .inr (1, [.ref b, .int n])), (q4, .inl (cA5, 320, .inl (fun _ => 0))), (q6, .inr (6, [.ref q17, .ref q28, .ref q39, .int 0])), (q17, .inl (cA110, 16, .inl (fun _ => 0))), (q28, .inl (cA211, 16, .inl (fun _ => 0))), (q39, .inl (cA312, 288, .inl (fun _ => 0))), (q15, .inr (6, [.ref q116, .ref q217, .ref q318, .int 0])), (q116, .inl (cA119, 16, .inl (fun _ => 0))), (q217, .inl (cA220, 16, .inl (fun _ => 0))), (q318, .inl (cA321, 32, .inl (fun _ => 0))), (q24, .inr (6, [.null, .null, .null, .int 0]))] H := hP
    have hD : va_D A [(h0, .inr (4, [.ref h2, .ref q1, .ref q4, .ref q6, .ref q15, .null, .null, .null])), (h1, .inr (1, [.ref b, .int n])), (q4, .inl (cA5, 320, .inl (fun _ => 0))), (q6, .inr (6, [.ref q17, .ref q28, .ref q39, .int 0])), (q17, .inl (cA110, 16, .inl (fun _ => 0))), (q28, .inl (cA211, 16, .inl (fun _ => 0))), (q39, .inl (cA312, 288, .inl (fun _ => 0))), (q15, .inr (6, [.ref q116, .ref q217, .ref q318, .int 0])), (q116, .inl (cA119, 16, .inl (fun _ => 0))), (q217, .inl (cA220, 16, .inl (fun _ => 0))), (q318, .inl (cA321, 32, .inl (fun _ => 0))), (q24, .inr (6, [.null, .null, .null, .int 0]))] := hD
    refine lv_dup hx hb d_U_init_61 rfl ?_
    refine lv_bipush (v := 19) hx hb d_U_init_62 (by decide) ?_
    refine zjv (wr := [(h0, .inr (4, [.ref h2, .ref q1, .ref q4, .ref q6, .ref q15, .null, .null, .null])), (h1, .inr (1, [.ref b, .int n])), (q4, .inl (cA5, 320, .inl (fun _ => 0))), (q6, .inr (6, [.ref q17, .ref q28, .ref q39, .int 0])), (q17, .inl (cA110, 16, .inl (fun _ => 0))), (q28, .inl (cA211, 16, .inl (fun _ => 0))), (q39, .inl (cA312, 288, .inl (fun _ => 0))), (q15, .inr (6, [.ref q116, .ref q217, .ref q318, .int 0])), (q116, .inl (cA119, 16, .inl (fun _ => 0))), (q217, .inl (cA220, 16, .inl (fun _ => 0))), (q318, .inl (cA321, 32, .inl (fun _ => 0)))]) (va_runI (As := [.int 19]) (rest := [.ref q24, .ref h0]) ⟨hx, hb, hml, hown, ht⟩ (c_C_init_19 l D _ q24 ) (cwI 1 ht (zt_good zm_254) rfl rfl rfl (ht _ zm_72) (ht _ zm_252) (ht _ zm_253) rfl (by decide +kernel) ⟨Nat.le_of_ble_eq_true rfl, Nat.le_of_ble_eq_true rfl⟩) (zpre zBlind_t hK hP hD [11] [] rfl (by decide) rfl (fun _ _ _ => trivial)) rfl rfl hl.1 rfl (lv_room (Nat.le_of_ble_eq_true rfl)) d_U_init_64 ⟨Nat.le_of_ble_eq_true rfl, Nat.le_of_ble_eq_true rfl⟩) hK hP hD hS hA [11] [0, 1, 2, 3, 4, 5, 6, 7, 8, 9, 10] rfl rfl (by decide) (by decide) (fun u H locs hp32 hP hD hK hS => ?_)
    obtain ⟨q125, q226, q327, cA128, cA229, cA330⟩ := u
    dsimp only at hp32 hP hD hK
    have hP : va_P D zcl [(h0, .inr (4, [.ref h2, .ref q1, .ref q4, .ref q6, .ref q15, .null, .null, .null])), (h1, .inr (1, [.ref b, .int n])), (q4, .inl (cA5, 320, .inl (fun _ => 0))), (q6, .inr (6, [.ref q17, .ref q28, .ref q39, .int 0])), (q17, .inl (cA110, 16, .inl (fun _ => 0))), (q28, .inl (cA211, 16, .inl (fun _ => 0))), (q39, .inl (cA312, 288, .inl (fun _ => 0))), (q15, .inr (6, [.ref q116, .ref q217, .ref q318, .int 0])), (q116, .inl (cA119, 16, .inl (fun _ => 0))), (q217, .inl (cA220, 16, .inl (fun _ => 0))), (q318, .inl (cA321, 32, .inl (fun _ => 0))), (q24, .inr (6, [.ref q125, .ref q226, .ref q327, .int 0])), (q125, .inl (cA128, 16, .inl (fun _ => 0))), (q226, .inl (cA229, 16, .inl (fun _ => 0))), (q327, .inl (cA330, 19, .inl (fun _ => 0)))] H := hP
    have hD : va_D A [(h0, .inr (4, [.ref h2, .ref q1, .ref q4, .ref q6, .ref q15, .null, .null, .null])), (h1, .inr (1, [.ref b, .int n])), (q4, .inl (cA5, 320, .inl (fun _ => 0))), (q6, .inr (6, [.ref q17, .ref q28, .ref q39, .int 0])), (q17, .inl (cA110, 16, .inl (fun _ => 0))), (q28, .inl (cA211, 16, .inl (fun _ => 0))), (q39, .inl (cA312, 288, .inl (fun _ => 0))), (q15, .inr (6, [.ref q116, .ref q217, .ref q318, .int 0])), (q116, .inl (cA119, 16, .inl (fun _ => 0))), (q217, .inl (cA220, 16, .inl (fun _ => 0))), (q318, .inl (cA321, 32, .inl (fun _ => 0))), (q24, .inr (6, [.ref q125, .ref q226, .ref q327, .int 0])), (q125, .inl (cA128, 16, .inl (fun _ => 0))), (q226, .inl (cA229, 16, .inl (fun _ => 0))), (q327, .inl (cA330, 19, .inl (fun _ => 0)))] := hD
    have hK : va_K D zcl [(cA5, .int), (cA110, .int), (cA211, .int), (cA312, .int), (cA119, .int), (cA220, .int), (cA321, .int), (cA128, .int), (cA229, .int), (cA330, .int)] s := hK
    refine va_putF (ci := 4) (v := .ref q24) (ty := .object "ZipGuard$CodeSet") (C := "ZipGuard$Unpacker") (T := F_U) (N := 8) hx hb ht zi_U ty_U tk_U nm_U hown hK hP hD hS 0 rfl rfl 5 (by decide) (ht _ zm_375) (fun _ h9 => h9) rfl hnm rfl (by decide +kernel) rfl rfl (Nat.le_of_ble_eq_true rfl) d_U_init_67 (fun H locs hP hD hS => ?_)
    have hP : va_P D zcl [(h0, .inr (4, [.ref h2, .ref q1, .ref q4, .ref q6, .ref q15, .ref q24, .null, .null])), (h1, .inr (1, [.ref b, .int n])), (q4, .inl (cA5, 320, .inl (fun _ => 0))), (q6, .inr (6, [.ref q17, .ref q28, .ref q39, .int 0])), (q17, .inl (cA110, 16, .inl (fun _ => 0))), (q28, .inl (cA211, 16, .inl (fun _ => 0))), (q39, .inl (cA312, 288, .inl (fun _ => 0))), (q15, .inr (6, [.ref q116, .ref q217, .ref q318, .int 0])), (q116, .inl (cA119, 16, .inl (fun _ => 0))), (q217, .inl (cA220, 16, .inl (fun _ => 0))), (q318, .inl (cA321, 32, .inl (fun _ => 0))), (q24, .inr (6, [.ref q125, .ref q226, .ref q327, .int 0])), (q125, .inl (cA128, 16, .inl (fun _ => 0))), (q226, .inl (cA229, 16, .inl (fun _ => 0))), (q327, .inl (cA330, 19, .inl (fun _ => 0)))] H := hP
    have hD : va_D A [(h0, .inr (4, [.ref h2, .ref q1, .ref q4, .ref q6, .ref q15, .ref q24, .null, .null])), (h1, .inr (1, [.ref b, .int n])), (q4, .inl (cA5, 320, .inl (fun _ => 0))), (q6, .inr (6, [.ref q17, .ref q28, .ref q39, .int 0])), (q17, .inl (cA110, 16, .inl (fun _ => 0))), (q28, .inl (cA211, 16, .inl (fun _ => 0))), (q39, .inl (cA312, 288, .inl (fun _ => 0))), (q15, .inr (6, [.ref q116, .ref q217, .ref q318, .int 0])), (q116, .inl (cA119, 16, .inl (fun _ => 0))), (q217, .inl (cA220, 16, .inl (fun _ => 0))), (q318, .inl (cA321, 32, .inl (fun _ => 0))), (q24, .inr (6, [.ref q125, .ref q226, .ref q327, .int 0])), (q125, .inl (cA128, 16, .inl (fun _ => 0))), (q226, .inl (cA229, 16, .inl (fun _ => 0))), (q327, .inl (cA330, 19, .inl (fun _ => 0)))] := hD
    have hP := hP.sub (ws' := [(h0, .inr (4, [.ref h2, .ref q1, .ref q4, .ref q6, .ref q15, .ref q24, .null, .null])), (h1, .inr (1, [.ref b, .int n])), (q4, .inl (cA5, 320, .inl (fun _ => 0))), (q6, .inr (6, [.ref q17, .ref q28, .ref q39, .int 0])), (q17, .inl (cA110, 16, .inl (fun _ => 0))), (q28, .inl (cA211, 16, .inl (fun _ => 0))), (q39, .inl (cA312, 288, .inl (fun _ => 0))), (q15, .inr (6, [.ref q116, .ref q217, .ref q318, .int 0])), (q116, .inl (cA119, 16, .inl (fun _ => 0))), (q217, .inl (cA220, 16, .inl (fun _ => 0))), (q318, .inl (cA321, 32, .inl (fun _ => 0)))]) [0, 1, 2, 3, 4, 5, 6, 7, 8, 9, 10] rfl
    have hD := hD.sub (ws' := [(h0, .inr (4, [.ref h2, .ref q1, .ref q4, .ref q6, .ref q15, .ref q24, .null, .null])), (h1, .inr (1, [.ref b, .int n])), (q4, .inl (cA5, 320, .inl (fun _ => 0))), (q6, .inr (6, [.ref q17, .ref q28, .ref q39, .int 0])), (q17, .inl (cA110, 16, .inl (fun _ => 0))), (q28, .inl (cA211, 16, .inl (fun _ => 0))), (q39, .inl (cA312, 288, .inl (fun _ => 0))), (q15, .inr (6, [.ref q116, .ref q217, .ref q318, .int 0])), (q116, .inl (cA119, 16, .inl (fun _ => 0))), (q217, .inl (cA220, 16, .inl (fun _ => 0))), (q318, .inl (cA321, 32, .inl (fun _ => 0)))]) [0, 1, 2, 3, 4, 5, 6, 7, 8, 9, 10] (by decide) rfl
    have hK := hK.sub (tys' := [(cA5, .int), (cA110, .int), (cA211, .int), (cA312, .int), (cA119, .int), (cA220, .int), (cA321, .int)]) [0, 1, 2, 3, 4, 5, 6] rfl
    refine lv_aload_n hx hb d_U_init_70 rfl (lv_at hl 0 rfl) ?_
    refine va_new (ci := 6) (fs := [.null, .null, .null, .int 0]) (C := "ZipGuard$CodeSet") (T := F_C) (N := 4) hx hb ht zi_C ty_C tk_C hown (ht _ zm_250) (ht _ zm_251) (ht _ zm_72) hK hP hD hS hA rfl zdf_C (Nat.le_of_ble_eq_true rfl) (Nat.le_of_ble_eq_true rfl) d_U_init_71 (fun q33 H hP hD hS => ?_)
    have hP : va_P D zcl [(h0, .inr (4, [.ref h2, .ref q1, .ref q4, .ref q6, .ref q15, .ref q24, .null, .null])), (h1, .inr (1, [.ref b, .int n])), (q4, .inl (cA5, 320, .inl (fun _ => 0))), (q6, .inr (6, [.ref q17, .ref q28, .ref q39, .int 0])), (q17, .inl (cA110, 16, .inl (fun _ => 0))), (q28, .inl (cA211, 16, .inl (fun _ => 0))), (q39, .inl (cA312, 288, .inl (fun _ => 0))), (q15, .inr (6, [.ref q116, .ref q217, .ref q318, .int 0])), (q116, .inl (cA119, 16, .inl (fun _ => 0))), (q217, .inl (cA220, 16, .inl (fun _ => 0))), (q318, .inl (cA321, 32, .inl (fun _ => 0))), (q33, .inr (6, [.null, .null, .null, .int 0]))] H := hP
    have hD : va_D A [(h0, .inr (4, [.ref h2, .ref q1, .ref q4, .ref q6, .ref q15, .ref q24, .null, .null])), (h1, .inr (1, [.ref b, .int n])), (q4, .inl (cA5, 320, .inl (fun _ => 0))), (q6, .inr (6, [.ref q17, .ref q28, .ref q39, .int 0])), (q17, .inl (cA110, 16, .inl (fun _ => 0))), (q28, .inl (cA211, 16, .inl (fun _ => 0))), (q39, .inl (cA312, 288, .inl (fun _ => 0))), (q15, .inr (6, [.ref q116, .ref q217, .ref q318, .int 0])), (q116, .inl (cA119, 16, .inl (fun _ => 0))), (q217, .inl (cA220, 16, .inl (fun _ => 0))), (q318, .inl (cA321, 32, .inl (fun _ => 0))), (q33, .inr (6, [.null, .null, .null, .int 0]))] := hD
    refine lv_dup hx hb d_U_init_74 rfl ?_
    refine lv_sipush (v := 286) hx hb d_U_init_75 (by decide) ?_
    refine zjv (wr := [(h0, .inr (4, [.ref h2, .ref q1, .ref q4, .ref q6, .ref q15, .ref q24, .null, .null])), (h1, .inr (1, [.ref b, .int n])), (q4, .inl (cA5, 320, .inl (fun _ => 0))), (q6, .inr (6, [.ref q17, .ref q28, .ref q39, .int 0])), (q17, .inl (cA110, 16, .inl (fun _ => 0))), (q28, .inl (cA211, 16, .inl (fun _ => 0))), (q39, .inl (cA312, 288, .inl (fun _ => 0))), (q15, .inr (6, [.ref q116, .ref q217, .ref q318, .int 0])), (q116, .inl (cA119, 16, .inl (fun _ => 0))), (q217, .inl (cA220, 16, .inl (fun _ => 0))), (q318, .inl (cA321, 32, .inl (fun _ => 0)))]) (va_runI (As := [.int 286]) (rest := [.ref q33, .ref h0]) ⟨hx, hb, hml, hown, ht⟩ (c_C_init_286 l D _ q33 ) (cwI 1 ht (zt_good zm_254) rfl rfl rfl (ht _ zm_72) (ht _ zm_252) (ht _ zm_253) rfl (by decide +kernel) ⟨Nat.le_of_ble_eq_true rfl, Nat.le_of_ble_eq_true rfl⟩) (zpre zBlind_t hK hP hD [11] [] rfl (by decide) rfl (fun _ _ _ => trivial)) rfl rfl hl.1 rfl (lv_room (Nat.le_of_ble_eq_true rfl)) d_U_init_78 ⟨Nat.le_of_ble_eq_true rfl, Nat.le_of_ble_eq_true rfl⟩) hK hP hD hS hA [11] [0, 1, 2, 3, 4, 5, 6, 7, 8, 9, 10] rfl rfl (by decide) (by decide) (fun u H locs hp41 hP hD hK hS => ?_)
    obtain ⟨q134, q235, q336, cA137, cA238, cA339⟩ := u
    dsimp only at hp41 hP hD hK
    have hP : va_P D zcl [(h0, .inr (4, [.ref h2, .ref q1, .ref q4, .ref q6, .ref q15, .ref q24, .null, .null])), (h1, .inr (1, [.ref b, .int n])), (q4, .inl (cA5, 320, .inl (fun _ => 0))), (q6, .inr (6, [.ref q17, .ref q28, .ref q39, .int 0])), (q17, .inl (cA110, 16, .inl (fun _ => 0))), (q28, .inl (cA211, 16, .inl (fun _ => 0))), (q39, .inl (cA312, 288, .inl (fun _ => 0))), (q15, .inr (6, [.ref q116, .ref q217, .ref q318, .int 0])), (q116, .inl (cA119, 16, .inl (fun _ => 0))), (q217, .inl (cA220, 16, .inl (fun _ => 0))), (q318, .inl (cA321, 32, .inl (fun _ => 0))), (q33, .inr (6, [.ref q134, .ref q235, .ref q336, .int 0])), (q134, .inl (cA137, 16, .inl (fun _ => 0))), (q235, .inl (cA238, 16, .inl (fun _ => 0))), (q336, .inl (cA339, 286, .inl (fun _ => 0)))] H := hP
    have hD : va_D A [(h0, .inr (4, [.ref h2, .ref q1, .ref q4, .ref q6, .ref q15, .ref q24, .null, .null])), (h1, .inr (1, [.ref b, .int n])), (q4, .inl (cA5, 320, .inl (fun _ => 0))), (q6, .inr (6, [.ref q17, .ref q28, .ref q39, .int 0])), (q17, .inl (cA110, 16, .inl (fun _ => 0))), (q28, .inl (cA211, 16, .inl (fun _ => 0))), (q39, .inl (cA312, 288, .inl (fun _ => 0))), (q15, .inr (6, [.ref q116, .ref q217, .ref q318, .int 0])), (q116, .inl (cA119, 16, .inl (fun _ => 0))), (q217, .inl (cA220, 16, .inl (fun _ => 0))), (q318, .inl (cA321, 32, .inl (fun _ => 0))), (q33, .inr (6, [.ref q134, .ref q235, .ref q336, .int 0])), (q134, .inl (cA137, 16, .inl (fun _ => 0))), (q235, .inl (cA238, 16, .inl (fun _ => 0))), (q336, .inl (cA339, 286, .inl (fun _ => 0)))] := hD
    have hK : va_K D zcl [(cA5, .int), (cA110, .int), (cA211, .int), (cA312, .int), (cA119, .int), (cA220, .int), (cA321, .int), (cA137, .int), (cA238, .int), (cA339, .int)] s := hK
    refine va_putF (ci := 4) (v := .ref q33) (ty := .object "ZipGuard$CodeSet") (C := "ZipGuard$Unpacker") (T := F_U) (N := 8) hx hb ht zi_U ty_U tk_U nm_U hown hK hP hD hS 0 rfl rfl 6 (by decide) (ht _ zm_376) (fun _ h9 => h9) rfl hnm rfl (by decide +kernel) rfl rfl (Nat.le_of_ble_eq_true rfl) d_U_init_81 (fun H locs hP hD hS => ?_)
    have hP : va_P D zcl [(h0, .inr (4, [.ref h2, .ref q1, .ref q4, .ref q6, .ref q15, .ref q24, .ref q33, .null])), (h1, .inr (1, [.ref b, .int n])), (q4, .inl (cA5, 320, .inl (fun _ => 0))), (q6, .inr (6, [.ref q17, .ref q28, .ref q39, .int 0])), (q17, .inl (cA110, 16, .inl (fun _ => 0))), (q28, .inl (cA211, 16, .inl (fun _ => 0))), (q39, .inl (cA312, 288, .inl (fun _ => 0))), (q15, .inr (6, [.ref q116, .ref q217, .ref q318, .int 0])), (q116, .inl (cA119, 16, .inl (fun _ => 0))), (q217, .inl (cA220, 16, .inl (fun _ => 0))), (q318, .inl (cA321, 32, .inl (fun _ => 0))), (q33, .inr (6, [.ref q134, .ref q235, .ref q336, .int 0])), (q134, .inl (cA137, 16, .inl (fun _ => 0))), (q235, .inl (cA238, 16, .inl (fun _ => 0))), (q336, .inl (cA339, 286, .inl (fun _ => 0)))] H := hP
    have hD : va_D A [(h0, .inr (4, [.ref h2, .ref q1, .ref q4, .ref q6, .ref q15, .ref q24, .ref q33, .null])), (h1, .inr (1, [.ref b, .int n])), (q4, .inl (cA5, 320, .inl (fun _ => 0))), (q6, .inr (6, [.ref q17, .ref q28, .ref q39, .int 0])), (q17, .inl (cA110, 16, .inl (fun _ => 0))), (q28, .inl (cA211, 16, .inl (fun _ => 0))), (q39, .inl (cA312, 288, .inl (fun _ => 0))), (q15, .inr (6, [.ref q116, .ref q217, .ref q318, .int 0])), (q116, .inl (cA119, 16, .inl (fun _ => 0))), (q217, .inl (cA220, 16, .inl (fun _ => 0))), (q318, .inl (cA321, 32, .inl (fun _ => 0))), (q33, .inr (6, [.ref q134, .ref q235, .ref q336, .int 0])), (q134, .inl (cA137, 16, .inl (fun _ => 0))), (q235, .inl (cA238, 16, .inl (fun _ => 0))), (q336, .inl (cA339, 286, .inl (fun _ => 0)))] := hD
    have hP := hP.sub (ws' := [(h0, .inr (4, [.ref h2, .ref q1, .ref q4, .ref q6, .ref q15, .ref q24, .ref q33, .null])), (h1, .inr (1, [.ref b, .int n])), (q4, .inl (cA5, 320, .inl (fun _ => 0))), (q6, .inr (6, [.ref q17, .ref q28, .ref q39, .int 0])), (q17, .inl (cA110, 16, .inl (fun _ => 0))), (q28, .inl (cA211, 16, .inl (fun _ => 0))), (q39, .inl (cA312, 288, .inl (fun _ => 0))), (q15, .inr (6, [.ref q116, .ref q217, .ref q318, .int 0])), (q116, .inl (cA119, 16, .inl (fun _ => 0))), (q217, .inl (cA220, 16, .inl (fun _ => 0))), (q318, .inl (cA321, 32, .inl (fun _ => 0)))]) [0, 1, 2, 3, 4, 5, 6, 7, 8, 9, 10] rfl
    have hD := hD.sub (ws' := [(h0, .inr (4, [.ref h2, .ref q1, .ref q4, .ref q6, .ref q15, .ref q24, .ref q33, .null])), (h1, .inr (1, [.ref b, .int n])), (q4, .inl (cA5, 320, .inl (fun _ => 0))), (q6, .inr (6, [.ref q17, .ref q28, .ref q39, .int 0])), (q17, .inl (cA110, 16, .inl (fun _ => 0))), (q28, .inl (cA211, 16, .inl (fun _ => 0))), (q39, .inl (cA312, 288, .inl (fun _ => 0))), (q15, .inr (6, [.ref q116, .ref q217, .ref q318, .int 0])), (q116, .inl (cA119, 16, .inl (fun _ => 0))), (q217, .inl (cA220, 16, .inl (fun _ => 0))), (q318, .inl (cA321, 32, .inl (fun _ => 0)))]) [0, 1, 2, 3, 4, 5, 6, 7, 8, 9, 10] (by decide) rfl
    have hK := hK.sub (tys' := [(cA5, .int), (cA110, .int), (cA211, .int), (cA312, .int), (cA119, .int), (cA220, .int), (cA321, .int)]) [0, 1, 2, 3, 4, 5, 6] rfl
    refine lv_aload_n hx hb d_U_init_84 rfl (lv_at hl 0 rfl) ?_
    refine va_new (ci := 6) (fs := [.null, .null, .null, .int 0]) (C := "ZipGuard$CodeSet") (T := F_C) (N := 4) hx hb ht zi_C ty_C tk_C hown (ht _ zm_250) (ht _ zm_251) (ht _ zm_72) hK hP hD hS hA rfl zdf_C (Nat.le_of_ble_eq_true rfl) (Nat.le_of_ble_eq_true rfl) d_U_init_85 (fun q42 H hP hD hS => ?_)
    have hP : va_P D zcl [(h0, .inr (4, [.ref h2, .ref q1, .ref q4, .ref q6, .ref q15, .ref q24, .ref q33, .null])), (h1, .inr (1, [.ref b, .int n])), (q4, .inl (cA5, 320, .inl (fun _ => 0))), (q6, .inr (6, [.ref q17, .ref q28, .ref q39, .int 0])), (q17, .inl (cA110, 16, .inl (fun _ => 0))), (q28, .inl (cA211, 16, .inl (fun _ => 0))), (q39, .inl (cA312, 288, .inl (fun _ => 0))), (q15, .inr (6, [.ref q116, .ref q217, .ref q318, .int 0])), (q116, .inl (cA119, 16, .inl (fun _ => 0))), (q217, .inl (cA220, 16, .inl (fun _ => 0))), (q318, .inl (cA321, 32, .inl (fun _ => 0))), (q42, .inr (6, [.null, .null, .null, .int 0]))] H := hP
    have hD : va_D A [(h0, .inr (4, [.ref h2, .ref q1, .ref q4, .ref q6, .ref q15, .ref q24, .ref q33, .null])), (h1, .inr (1, [.ref b, .int n])), (q4, .inl (cA5, 320, .inl (fun _ => 0))), (q6, .inr (6, [.ref q17, .ref q28, .ref q39, .int 0])), (q17, .inl (cA110, 16, .inl (fun _ => 0))), (q28, .inl (cA211, 16, .inl (fun _ => 0))), (q39, .inl (cA312, 288, .inl (fun _ => 0))), (q15, .inr (6, [.ref q116, .ref q217, .ref q318, .int 0])), (q116, .inl (cA119, 16, .inl (fun _ => 0))), (q217, .inl (cA220, 16, .inl (fun _ => 0))), (q318, .inl (cA321, 32, .inl (fun _ => 0))), (q42, .inr (6, [.null, .null, .null, .int 0]))] := hD
    refine lv_dup hx hb d_U_init_88 rfl ?_
    refine lv_bipush (v := 30) hx hb d_U_init_89 (by decide) ?_
    refine zjv (wr := [(h0, .inr (4, [.ref h2, .ref q1, .ref q4, .ref q6, .ref q15, .ref q24, .ref q33, .null])), (h1, .inr (1, [.ref b, .int n])), (q4, .inl (cA5, 320, .inl (fun _ => 0))), (q6, .inr (6, [.ref q17, .ref q28, .ref q39, .int 0])), (q17, .inl (cA110, 16, .inl (fun _ => 0))), (q28, .inl (cA211, 16, .inl (fun _ => 0))), (q39, .inl (cA312, 288, .inl (fun _ => 0))), (q15, .inr (6, [.ref q116, .ref q217, .ref q318, .int 0])), (q116, .inl (cA119, 16, .inl (fun _ => 0))), (q217, .inl (cA220, 16, .inl (fun _ => 0))), (q318, .inl (cA321, 32, .inl (fun _ => 0)))]) (va_runI (As := [.int 30]) (rest := [.ref q42, .ref h0]) ⟨hx, hb, hml, hown, ht⟩ (c_C_init_30 l D _ q42 ) (cwI 1 ht (zt_good zm_254) rfl rfl rfl (ht _ zm_72) (ht _ zm_252) (ht _ zm_253) rfl (by decide +kernel) ⟨Nat.le_of_ble_eq_true rfl, Nat.le_of_ble_eq_true rfl⟩) (zpre zBlind_t hK hP hD [11] [] rfl (by decide) rfl (fun _ _ _ => trivial)) rfl rfl hl.1 rfl (lv_room (Nat.le_of_ble_eq_true rfl)) d_U_init_91 ⟨Nat.le_of_ble_eq_true rfl, Nat.le_of_ble_eq_true rfl⟩) hK hP hD hS hA [11] [0, 1, 2, 3, 4, 5, 6, 7, 8, 9, 10] rfl rfl (by decide) (by decide) (fun u H locs hp50 hP hD hK hS => ?_)
    obtain ⟨q143, q244, q345, cA146, cA247, cA348⟩ := u
    dsimp only at hp50 hP hD hK
    have hP : va_P D zcl [(h0, .inr (4, [.ref h2, .ref q1, .ref q4, .ref q6, .ref q15, .ref q24, .ref q33, .null])), (h1, .inr (1, [.ref b, .int n])), (q4, .inl (cA5, 320, .inl (fun _ => 0))), (q6, .inr (6, [.ref q17, .ref q28, .ref q39, .int 0])), (q17, .inl (cA110, 16, .inl (fun _ => 0))), (q28, .inl (cA211, 16, .inl (fun _ => 0))), (q39, .inl (cA312, 288, .inl (fun _ => 0))), (q15, .inr (6, [.ref q116, .ref q217, .ref q318, .int 0])), (q116, .inl (cA119, 16, .inl (fun _ => 0))), (q217, .inl (cA220, 16, .inl (fun _ => 0))), (q318, .inl (cA321, 32, .inl (fun _ => 0))), (q42, .inr (6, [.ref q143, .ref q244, .ref q345, .int 0])), (q143, .inl (cA146, 16, .inl (fun _ => 0))), (q244, .inl (cA247, 16, .inl (fun _ => 0))), (q345, .inl (cA348, 30, .inl (fun _ => 0)))] H := hP
    have hD : va_D A [(h0, .inr (4, [.ref h2, .ref q1, .ref q4, .ref q6, .ref q15, .ref q24, .ref q33, .null])), (h1, .inr (1, [.ref b, .int n])), (q4, .inl (cA5, 320, .inl (fun _ => 0))), (q6, .inr (6, [.ref q17, .ref q28, .ref q39, .int 0])), (q17, .inl (cA110, 16, .inl (fun _ => 0))), (q28, .inl (cA211, 16, .inl (fun _ => 0))), (q39, .inl (cA312, 288, .inl (fun _ => 0))), (q15, .inr (6, [.ref q116, .ref q217, .ref q318, .int 0])), (q116, .inl (cA119, 16, .inl (fun _ => 0))), (q217, .inl (cA220, 16, .inl (fun _ => 0))), (q318, .inl (cA321, 32, .inl (fun _ => 0))), (q42, .inr (6, [.ref q143, .ref q244, .ref q345, .int 0])), (q143, .inl (cA146, 16, .inl (fun _ => 0))), (q244, .inl (cA247, 16, .inl (fun _ => 0))), (q345, .inl (cA348, 30, .inl (fun _ => 0)))] := hD
    have hK : va_K D zcl [(cA5, .int), (cA110, .int), (cA211, .int), (cA312, .int), (cA119, .int), (cA220, .int), (cA321, .int), (cA146, .int), (cA247, .int), (cA348, .int)] s := hK
    refine va_putF (ci := 4) (v := .ref q42) (ty := .object "ZipGuard$CodeSet") (C := "ZipGuard$Unpacker") (T := F_U) (N := 8) hx hb ht zi_U ty_U tk_U nm_U hown hK hP hD hS 0 rfl rfl 7 (by decide) (ht _ zm_377) (fun _ h9 => h9) rfl hnm rfl (by decide +kernel) rfl rfl (Nat.le_of_ble_eq_true rfl) d_U_init_94 (fun H locs hP hD hS => ?_)
    have hP : va_P D zcl [(h0, .inr (4, [.ref h2, .ref q1, .ref q4, .ref q6, .ref q15, .ref q24, .ref q33, .ref q42])), (h1, .inr (1, [.ref b, .int n])), (q4, .inl (cA5, 320, .inl (fun _ => 0))), (q6, .inr (6, [.ref q17, .ref q28, .ref q39, .int 0])), (q17, .inl (cA110, 16, .inl (fun _ => 0))), (q28, .inl (cA211, 16, .inl (fun _ => 0))), (q39, .inl (cA312, 288, .inl (fun _ => 0))), (q15, .inr (6, [.ref q116, .ref q217, .ref q318, .int 0])), (q116, .inl (cA119, 16, .inl (fun _ => 0))), (q217, .inl (cA220, 16, .inl (fun _ => 0))), (q318, .inl (cA321, 32, .inl (fun _ => 0))), (q42, .inr (6, [.ref q143, .ref q244, .ref q345, .int 0])), (q143, .inl (cA146, 16, .inl (fun _ => 0))), (q244, .inl (cA247, 16, .inl (fun _ => 0))), (q345, .inl (cA348, 30, .inl (fun _ => 0)))] H := hP
    have hD : va_D A [(h0, .inr (4, [.ref h2, .ref q1, .ref q4, .ref q6, .ref q15, .ref q24, .ref q33, .ref q42])), (h1, .inr (1, [.ref b, .int n])), (q4, .inl (cA5, 320, .inl (fun _ => 0))), (q6, .inr (6, [.ref q17, .ref q28, .ref q39, .int 0])), (q17, .inl (cA110, 16, .inl (fun _ => 0))), (q28, .inl (cA211, 16, .inl (fun _ => 0))), (q39, .inl (cA312, 288, .inl (fun _ => 0))), (q15, .inr (6, [.ref q116, .ref q217, .ref q318, .int 0])), (q116, .inl (cA119, 16, .inl (fun _ => 0))), (q217, .inl (cA220, 16, .inl (fun _ => 0))), (q318, .inl (cA321, 32, .inl (fun _ => 0))), (q42, .inr (6, [.ref q143, .ref q244, .ref q345, .int 0])), (q143, .inl (cA146, 16, .inl (fun _ => 0))), (q244, .inl (cA247, 16, .inl (fun _ => 0))), (q345, .inl (cA348, 30, .inl (fun _ => 0)))] := hD
    have hP := hP.sub (ws' := [(h0, .inr (4, [.ref h2, .ref q1, .ref q4, .ref q6, .ref q15, .ref q24, .ref q33, .ref q42])), (h1, .inr (1, [.ref b, .int n])), (q4, .inl (cA5, 320, .inl (fun _ => 0))), (q6, .inr (6, [.ref q17, .ref q28, .ref q39, .int 0])), (q17, .inl (cA110, 16, .inl (fun _ => 0))), (q28, .inl (cA211, 16, .inl (fun _ => 0))), (q39, .inl (cA312, 288, .inl (fun _ => 0))), (q15, .inr (6, [.ref q116, .ref q217, .ref q318, .int 0])), (q116, .inl (cA119, 16, .inl (fun _ => 0))), (q217, .inl (cA220, 16, .inl (fun _ => 0))), (q318, .inl (cA321, 32, .inl (fun _ => 0)))]) [0, 1, 2, 3, 4, 5, 6, 7, 8, 9, 10] rfl
    have hD := hD.sub (ws' := [(h0, .inr (4, [.ref h2, .ref q1, .ref q4, .ref q6, .ref q15, .ref q24, .ref q33, .ref q42])), (h1, .inr (1, [.ref b, .int n])), (q4, .inl (cA5, 320, .inl (fun _ => 0))), (q6, .inr (6, [.ref q17, .ref q28, .ref q39, .int 0])), (q17, .inl (cA110, 16, .inl (fun _ => 0))), (q28, .inl (cA211, 16, .inl (fun _ => 0))), (q39, .inl (cA312, 288, .inl (fun _ => 0))), (q15, .inr (6, [.ref q116, .ref q217, .ref q318, .int 0])), (q116, .inl (cA119, 16, .inl (fun _ => 0))), (q217, .inl (cA220, 16, .inl (fun _ => 0))), (q318, .inl (cA321, 32, .inl (fun _ => 0)))]) [0, 1, 2, 3, 4, 5, 6, 7, 8, 9, 10] (by decide) rfl
    have hK := hK.sub (tys' := [(cA5, .int), (cA110, .int), (cA211, .int), (cA312, .int), (cA119, .int), (cA220, .int), (cA321, .int)]) [0, 1, 2, 3, 4, 5, 6] rfl
    refine lv_aload_n hx hb d_U_init_97 rfl (lv_at hl 0 rfl) ?_
    refine zjv (wr := [(h1, .inr (1, [.ref b, .int n]))]) (va_runV (As := []) (rest := []) ⟨hx, hb, hml, hown, ht⟩ (c_U_bfc l D _ h0 h2 q1 q4 q6 q15 q24 q33 q42 q17 q28 q39 q116 q217 q318 cA5 cA110 cA211 cA312 cA119 cA220 cA321 (fun _ => 0) 0 0 (fun _ => 0) (fun _ => 0) (fun _ => 0) (fun _ => 0) (fun _ => 0) (fun _ => 0) ) (cwV 0 ht (zt_goodV zm_270 zm_271 zm_0 zm_70 zm_272) rfl rfl rfl (by decide +kernel) ⟨Nat.le_of_ble_eq_true rfl, Nat.le_of_ble_eq_true rfl⟩) (zpreV zBlind_t hK hP hD [0, 2, 3, 4, 5, 6, 7, 8, 9, 10] [0, 1, 2, 3, 4, 5, 6] rfl (by decide) rfl (fun _ _ _ => trivial) (va_recv (q := ("ZipGuard$Unpacker", F_U, 8)) hK hP rfl (q0 := 0) (ci := 4) rfl)) rfl rfl hl.1 rfl (lv_room (Nat.le_of_ble_eq_true rfl)) d_U_init_98 ⟨Nat.le_of_ble_eq_true rfl, Nat.le_of_ble_eq_true rfl⟩) hK hP hD hS hA [0, 2, 3, 4, 5, 6, 7, 8, 9, 10] [1] rfl rfl (by decide) (by decide) (fun u H locs hp58 hP hD hK hS => ?_)
    obtain ⟨⟨G151, G252, G353⟩, ⟨E154, E255, E356⟩⟩ := u
    dsimp only at hp58 hP hD hK
    have hP : va_P D zcl [(h1, .inr (1, [.ref b, .int n])), (h0, .inr (4, [.ref h2, .ref q1, .ref q4, .ref q6, .ref q15, .ref q24, .ref q33, .ref q42])), (q4, .inl (cA5, 320, .inl (zfixF (fun _ => 0)))), (q6, .inr (6, [.ref q17, .ref q28, .ref q39, .int (nI (zst zfix 288 16))])), (q17, .inl (cA110, 16, .inl G151)), (q28, .inl (cA211, 16, .inl G252)), (q39, .inl (cA312, 288, .inl G353)), (q15, .inr (6, [.ref q116, .ref q217, .ref q318, .int (nI (zst (fun _ => 5) 32 16))])), (q116, .inl (cA119, 16, .inl E154)), (q217, .inl (cA220, 16, .inl E255)), (q318, .inl (cA321, 32, .inl E356))] H := hP
    have hD : va_D A [(h1, .inr (1, [.ref b, .int n])), (h0, .inr (4, [.ref h2, .ref q1, .ref q4, .ref q6, .ref q15, .ref q24, .ref q33, .ref q42])), (q4, .inl (cA5, 320, .inl (zfixF (fun _ => 0)))), (q6, .inr (6, [.ref q17, .ref q28, .ref q39, .int (nI (zst zfix 288 16))])), (q17, .inl (cA110, 16, .inl G151)), (q28, .inl (cA211, 16, .inl G252)), (q39, .inl (cA312, 288, .inl G353)), (q15, .inr (6, [.ref q116, .ref q217, .ref q318, .int (nI (zst (fun _ => 5) 32 16))])), (q116, .inl (cA119, 16, .inl E154)), (q217, .inl (cA220, 16, .inl E255)), (q318, .inl (cA321, 32, .inl E356))] := hD
    have hK : va_K D zcl [(cA5, .int), (cA110, .int), (cA211, .int), (cA312, .int), (cA119, .int), (cA220, .int), (cA321, .int), (cA5, .int), (cA110, .int), (cA211, .int), (cA312, .int), (cA119, .int), (cA220, .int), (cA321, .int)] s := hK
    exact zretv hx hb hr hlk hK hP hD hS () [0] [] rfl (by decide) rfl (trivial) (Nat.le_of_ble_eq_true rfl) (Nat.le_of_ble_eq_true rfl) d_U_init_101)
set_option maxHeartbeats 4000000 in
set_option maxRecDepth 100000 in
theorem lp_D_init_20 {p : Program} {l : Launch} {e : Env} {R : Room} {s : State} {m : MethodId} {args : Array Value} {below : List Frame} {meth : Method} {c : Code} {Q : State → Prop} {A : Nat → Prop} {D : va_G} (hx : p.tables.exec = Jvm.exec) (hb : c.code = prog_4_method_1_code) (hml : c.maxLocals = 3) (hown : s.vm.findClass "ZipGuard$Directory" = some m.cls) (ht : ∀ w ∈ zt, w.before args s = true) (hA : ∀ q, s.heap.size ≤ q → A q) (h0 : Nat) (h1 : Nat) (qe : Nat) (cE : ClassId) (hRf : 2 ≤ R.frames) (hRl : 8 + (1 + 11) + 12 ≤ R.locals) (hRc : 129 ≤ R.cells) (hRs : 4672 ≤ R.slots) (hK : va_K D zcl [(cE, .object "ZipGuard$Entry")] s) 
    (kk : ∀ (fe : Nat → Option Nat) (H : Heap) (locs : List Loc) (ls : Array Slot), va_P D zcl [(h0, .inr (2, [.ref qe, .int 0, .int 0, .int 0, .ref h1])), (qe, .inl (cE, 64, .inr (.inr (.inr (.inr fe)))))] H → va_D A [(h0, .inr (2, [.ref qe, .int 0, .int 0, .int 0, .ref h1])), (qe, .inl (cE, 64, .inr (.inr (.inr (.inr fe)))))] → va_S A s.heap H locs → lv_has ls 3 [(2, .int (nI 64)), (0, .ref h0), (1, .ref h1)] → W p l e R s m args below meth c H locs (1 + 2 * 64) (64 + 72 * 64) Q (F0 m 45 ls [])) :
    ∀ (j : Nat) (k : Nat) (fe : Nat → Option Nat) (H : Heap) (locs : List Loc) (ls : Array Slot), k + j = 64 → va_P D zcl [(h0, .inr (2, [.ref qe, .int 0, .int 0, .int 0, .ref h1])), (qe, .inl (cE, 64, .inr (.inr (.inr (.inr fe)))))] H → va_D A [(h0, .inr (2, [.ref qe, .int 0, .int 0, .int 0, .ref h1])), (qe, .inl (cE, 64, .inr (.inr (.inr (.inr fe)))))] → va_S A s.heap H locs → lv_has ls 3 [(2, .int (nI k)), (0, .ref h0), (1, .ref h1)] → W p l e R s m args below meth c H locs (1 + 2 * k) (64 + 72 * k) Q (F0 m 20 ls []) := by
  intro j
  induction j with
  | zero =>
    intro k fe H locs ls hk hP hD hS hl
    have hk : k = 64 := by omega
    subst hk
    refine lv_iload_n hx hb d_D_init_20 rfl (lv_at hl 0 rfl) ?_
    refine lv_bipush (v := 64) hx hb d_D_init_21 (by decide) ?_
    refine lv_icmp_ge (tgt := 45) hx hb d_D_init_23 (by decide) (fun _ => ?_) (fun h => absurd (by decide +kernel) h)
    exact kk fe H locs ls hP hD hS hl
  | succ j ih =>
    intro k fe H locs ls hk hP hD hS hl
    refine lv_iload_n hx hb d_D_init_20 rfl (lv_at hl 0 rfl) ?_
    refine lv_bipush (v := 64) hx hb d_D_init_21 (by decide) ?_
    refine lv_icmp_ge (tgt := 45) hx hb d_D_init_23 (by decide) (fun h => absurd h (show ¬ nI 64 ≤ nI k from nI_ge (by omega) (by omega))) (fun _ => ?_)
    refine lv_aload_n hx hb d_D_init_26 rfl (lv_at hl 1 rfl) ?_
    refine va_get (ci := 2) (C := "ZipGuard$Directory") (T := F_D) (N := 5) hx hb ht zi_D hown hK hP 0 rfl rfl 0 (by decide) (ht _ zm_179) (fun _ h9 => h9) rfl d_D_init_27 ?_
    refine lv_iload_n hx hb d_D_init_30 rfl (lv_at hl 0 rfl) ?_
    refine va_new (ci := 7) (fs := [.null, .int 0, .int 0, .int 0, .int 0, .long 0, .int 0, .int 0, .int 0, .int 0, .int 0, .int 0]) (C := "ZipGuard$Entry") (T := F_E) (N := 12) hx hb ht zi_E ty_E tk_E hown (ht _ zm_112) (ht _ zm_113) (ht _ zm_68) hK hP hD hS hA rfl zdf_E (by omega) (by omega) d_D_init_31 (fun q3 H hP hD hS => ?_)
    have hP : va_P D zcl [(h0, .inr (2, [.ref qe, .int 0, .int 0, .int 0, .ref h1])), (qe, .inl (cE, 64, .inr (.inr (.inr (.inr fe))))), (q3, .inr (7, [.null, .int 0, .int 0, .int 0, .int 0, .long 0, .int 0, .int 0, .int 0, .int 0, .int 0, .int 0]))] H := hP
    have hD : va_D A [(h0, .inr (2, [.ref qe, .int 0, .int 0, .int 0, .ref h1])), (qe, .inl (cE, 64, .inr (.inr (.inr (.inr fe))))), (q3, .inr (7, [.null, .int 0, .int 0, .int 0, .int 0, .long 0, .int 0, .int 0, .int 0, .int 0, .int 0, .int 0]))] := hD
    refine lv_dup hx hb d_D_init_34 rfl ?_
    refine zjv (wr := [(h0, .inr (2, [.ref qe, .int 0, .int 0, .int 0, .ref h1])), (qe, .inl (cE, 64, .inr (.inr (.inr (.inr fe)))))]) (va_runI (As := []) (rest := [.ref q3, .int (nI k), .ref qe]) ⟨hx, hb, hml, hown, ht⟩ (c_E_init l D _ q3 ) (cwI 0 ht (zt_good zm_116) rfl rfl rfl (ht _ zm_68) (ht _ zm_114) (ht _ zm_115) rfl (by decide +kernel) ⟨hRf, hRl⟩) (zpre zBlind_t hK hP hD [2] [] rfl (by decide) rfl (fun _ _ _ => trivial)) rfl rfl hl.1 rfl (lv_room (Nat.le_of_ble_eq_true rfl)) d_D_init_35 ⟨by omega, by omega⟩) hK hP hD hS hA [2] [0, 1] rfl rfl (by decide) (by decide) (fun u H locs hp7 hP hD hK hS => ?_)
    obtain ⟨q14, cA15⟩ := u
    dsimp only at hp7 hP hD hK
    have hP : va_P D zcl [(h0, .inr (2, [.ref qe, .int 0, .int 0, .int 0, .ref h1])), (qe, .inl (cE, 64, .inr (.inr (.inr (.inr fe))))), (q3, .inr (7, [.ref q14, .int 0, .int 0, .int 0, .int 0, .long 0, .int 0, .int 0, .int 0, .int 0, .int 0, .int 0])), (q14, .inl (cA15, 60, .inl (fun _ => 0)))] H := hP
    have hD : va_D A [(h0, .inr (2, [.ref qe, .int 0, .int 0, .int 0, .ref h1])), (qe, .inl (cE, 64, .inr (.inr (.inr (.inr fe))))), (q3, .inr (7, [.ref q14, .int 0, .int 0, .int 0, .int 0, .long 0, .int 0, .int 0, .int 0, .int 0, .int 0, .int 0])), (q14, .inl (cA15, 60, .inl (fun _ => 0)))] := hD
    have hK : va_K D zcl [(cE, .object "ZipGuard$Entry"), (cA15, .byte)] s := hK
    refine va_astq (r := ("ZipGuard$Entry", F_E, 12)) hx hb hK hP hD hS 1 0 2 7 rfl rfl rfl rfl (vp_in_nI (by omega) (by omega)) d_D_init_38 (fun H locs hP hD hS => ?_)
    have hP : va_P D zcl [(h0, .inr (2, [.ref qe, .int 0, .int 0, .int 0, .ref h1])), (qe, .inl (cE, 64, .inr (.inr (.inr (.inr (va_up fe (nI k).toNatClampNeg (some q3))))))), (q3, .inr (7, [.ref q14, .int 0, .int 0, .int 0, .int 0, .long 0, .int 0, .int 0, .int 0, .int 0, .int 0, .int 0])), (q14, .inl (cA15, 60, .inl (fun _ => 0)))] H := hP
    have hD : va_D A [(h0, .inr (2, [.ref qe, .int 0, .int 0, .int 0, .ref h1])), (qe, .inl (cE, 64, .inr (.inr (.inr (.inr (va_up fe (nI k).toNatClampNeg (some q3))))))), (q3, .inr (7, [.ref q14, .int 0, .int 0, .int 0, .int 0, .long 0, .int 0, .int 0, .int 0, .int 0, .int 0, .int 0])), (q14, .inl (cA15, 60, .inl (fun _ => 0)))] := hD
    have hP := hP.sub (ws' := [(h0, .inr (2, [.ref qe, .int 0, .int 0, .int 0, .ref h1])), (qe, .inl (cE, 64, .inr (.inr (.inr (.inr (va_up fe (nI k).toNatClampNeg (some q3)))))))]) [0, 1] rfl
    have hD := hD.sub (ws' := [(h0, .inr (2, [.ref qe, .int 0, .int 0, .int 0, .ref h1])), (qe, .inl (cE, 64, .inr (.inr (.inr (.inr (va_up fe (nI k).toNatClampNeg (some q3)))))))]) [0, 1] (by decide) rfl
    have hK := hK.sub (tys' := [(cE, .object "ZipGuard$Entry")]) [0] rfl
    refine lv_iinc (k := 0) (v := (nI k) + 1) (lv' := [(2, .int ((nI k) + 1)), (0, .ref h0), (1, .ref h1)]) hx hb d_D_init_39 hl rfl rfl (by decide) rfl (fun ls hl => ?_)
    refine lv_goto (tgt := 20) hx hb d_D_init_42 (by decide) ?_
    rw [nI_1] at hl
    refine W.widen (k := 1 + 2 * (k + 1)) (n := 64 + 72 * (k + 1)) (by omega) (by omega) ?_
    exact ih (k + 1) (va_up fe (nI k).toNatClampNeg (some q3)) H locs ls (by omega) hP hD hS hl
set_option maxHeartbeats 4000000 in
set_option maxRecDepth 100000 in
theorem c_D_init0 (l : Launch) (D : va_G) (sz : Nat) (h0 : Nat) (h1 : Nat)  : Met l y_D_init (Cond.code y_D_init prog_4_method_1_code 3 (Option.none : Option Jvm.ClassFile.FieldType) :: zt) { frames := 2, cells := 129, slots := 4672, locals := 32 } (zPc [.ref h0, .ref h1] D [(h0, .inr (2, [.null, .int 0, .int 0, .int 0, .null]))] [] sz (va_AO "ZipGuard$Entry")) (va_Qv (fun (u : Nat) => match u with | qe => True) (fun u t => zB D ((fun (u : Nat) => match u with | qe => [(h0, .inr (2, [.ref qe, .int 0, .int 0, .int (-1), .ref h1]))]) u) ((fun (u : Nat) => match u with | qe => []) u) (va_A [(h0, .inr (2, [.null, .int 0, .int 0, .int 0, .null]))] sz) t) (va_A [(h0, .inr (2, [.null, .int 0, .int 0, .int 0, .null]))] sz)) 129 4672 (va_A [(h0, .inr (2, [.null, .int 0, .int 0, .int 0, .null]))] sz) :=
  zMet (Qf := fun A => va_Qv (fun (u : Nat) => match u with | qe => True) (fun u t => zB D ((fun (u : Nat) => match u with | qe => [(h0, .inr (2, [.ref qe, .int 0, .int 0, .int (-1), .ref h1]))]) u) ((fun (u : Nat) => match u with | qe => []) u) A t) A) (by decide) (Nat.le_of_ble_eq_true rfl) (fun p e s m below meth c A ls hx hb hr hml hown ht hlk hnm hA hK hP hD hX hl => by
    have hS : va_S A s.heap s.heap [] := va_S.rf
    have hl : lv_has ls 3 [(0, .ref h0), (1, .ref h1)] := hl
    refine lv_aload_n hx hb d_D_init_0 rfl (lv_at hl 0 rfl) ?_
    refine W.objInit hx hb hown (ht _ zm_111) (ht _ zm_87) (ht _ zm_88) rfl (by rw [hml]; exact hl.1) rfl d_D_init_1 (Nat.le_of_ble_eq_true rfl) (Nat.le_of_ble_eq_true rfl) ?_
    refine W.eq (g2 := F0 m 4 ls []) rfl ?_
    refine lv_aload_n hx hb d_D_init_4 rfl (lv_at hl 0 rfl) ?_
    refine lv_aload_n hx hb d_D_init_5 rfl (lv_at hl 1 rfl) ?_
    refine va_putF (ci := 2) (v := .ref h1) (ty := .object "ZipGuard$Tape") (C := "ZipGuard$Directory") (T := F_D) (N := 5) hx hb ht zi_D ty_D tk_D nm_D hown hK hP hD hS 0 rfl rfl 4 (by decide) (ht _ zm_187) (fun _ h9 => h9) rfl hnm rfl (by decide +kernel) rfl rfl (Nat.le_of_ble_eq_true rfl) d_D_init_6 (fun H locs hP hD hS => ?_)
    have hP : va_P D zcl [(h0, .inr (2, [.null, .int 0, .int 0, .int 0, .ref h1]))] H := hP
    have hD : va_D A [(h0, .inr (2, [.null, .int 0, .int 0, .int 0, .ref h1]))] := hD
    refine lv_aload_n hx hb d_D_init_9 rfl (lv_at hl 0 rfl) ?_
    refine lv_bipush (v := 64) hx hb d_D_init_10 (by decide) ?_
    refine va_newq (n := 64) (N' := 64) hx hb hown (ht _ zm_112) hX hK hP hD hS hA (by decide) (by decide) (by decide) (Nat.le_of_ble_eq_true rfl) (Nat.le_of_ble_eq_true rfl) d_D_init_12 (fun q1 cA2 H hK hP hD hS => ?_)
    have hP : va_P D zcl [(h0, .inr (2, [.null, .int 0, .int 0, .int 0, .ref h1])), (q1, .inl (cA2, 64, .inr (.inr (.inr (.inr (fun _ => none))))))] H := hP
    have hD : va_D A [(h0, .inr (2, [.null, .int 0, .int 0, .int 0, .ref h1])), (q1, .inl (cA2, 64, .inr (.inr (.inr (.inr (fun _ => none))))))] := hD
    have hK : va_K D zcl [(cA2, .object "ZipGuard$Entry")] s := hK
    refine va_putF (ci := 2) (v := .ref q1) (ty := .array (.object "ZipGuard$Entry")) (C := "ZipGuard$Directory") (T := F_D) (N := 5) hx hb ht zi_D ty_D tk_D nm_D hown hK hP hD hS 0 rfl rfl 0 (by decide) (ht _ zm_179) (fun _ h9 => h9) rfl hnm rfl (by decide +kernel) rfl rfl (Nat.le_of_ble_eq_true rfl) d_D_init_15 (fun H locs hP hD hS => ?_)
    have hP : va_P D zcl [(h0, .inr (2, [.ref q1, .int 0, .int 0, .int 0, .ref h1])), (q1, .inl (cA2, 64, .inr (.inr (.inr (.inr (fun _ => none))))))] H := hP
    have hD : va_D A [(h0, .inr (2, [.ref q1, .int 0, .int 0, .int 0, .ref h1])), (q1, .inl (cA2, 64, .inr (.inr (.inr (.inr (fun _ => none))))))] := hD
    refine lv_iconst (v := 0) hx hb d_D_init_18 (by decide) ?_
    refine lv_istore_n (lv' := [(2, .int 0), (0, .ref h0), (1, .ref h1)]) hx hb d_D_init_19 rfl hl (by decide) rfl (fun ls hl => ?_)
    refine lp_D_init_20 hx hb hml hown ht hA h0 h1 q1 cA2 (Nat.le_of_ble_eq_true rfl) (Nat.le_of_ble_eq_true rfl) (Nat.le_of_ble_eq_true rfl) (Nat.le_of_ble_eq_true rfl) hK (fun fe H locs ls hP hD hS hl => ?_) 64 0 _ H locs ls (by omega) hP hD hS hl
    refine lv_aload_n hx hb d_D_init_45 rfl (lv_at hl 1 rfl) ?_
    refine lv_iconst (v := 0) hx hb d_D_init_46 (by decide) ?_
    refine va_put (ci := 2) (v := .int 0) (ty := .int) (C := "ZipGuard$Directory") (T := F_D) (N := 5) hx hb ht zi_D ty_D tk_D nm_D hown hK hP hD hS 0 rfl rfl 1 (by decide) (ht _ zm_181) (fun _ h9 => h9) rfl (by decide +kernel) rfl rfl (Nat.le_of_ble_eq_true rfl) d_D_init_47 (fun H locs hP hD hS => ?_)
    have hP : va_P D zcl [(h0, .inr (2, [.ref q1, .int 0, .int 0, .int 0, .ref h1])), (q1, .inl (cA2, 64, .inr (.inr (.inr (.inr fe)))))] H := hP
    have hD : va_D A [(h0, .inr (2, [.ref q1, .int 0, .int 0, .int 0, .ref h1])), (q1, .inl (cA2, 64, .inr (.inr (.inr (.inr fe)))))] := hD
    refine lv_aload_n hx hb d_D_init_50 rfl (lv_at hl 1 rfl) ?_
    refine lv_iconst (v := 0) hx hb d_D_init_51 (by decide) ?_
    refine va_put (ci := 2) (v := .int 0) (ty := .boolean) (C := "ZipGuard$Directory") (T := F_D) (N := 5) hx hb ht zi_D ty_D tk_D nm_D hown hK hP hD hS 0 rfl rfl 2 (by decide) (ht _ zm_183) (fun _ h9 => h9) rfl (by decide +kernel) rfl rfl (Nat.le_of_ble_eq_true rfl) d_D_init_52 (fun H locs hP hD hS => ?_)
    have hP : va_P D zcl [(h0, .inr (2, [.ref q1, .int 0, .int 0, .int 0, .ref h1])), (q1, .inl (cA2, 64, .inr (.inr (.inr (.inr fe)))))] H := hP
    have hD : va_D A [(h0, .inr (2, [.ref q1, .int 0, .int 0, .int 0, .ref h1])), (q1, .inl (cA2, 64, .inr (.inr (.inr (.inr fe)))))] := hD
    refine lv_aload_n hx hb d_D_init_55 rfl (lv_at hl 1 rfl) ?_
    refine lv_iconst (v := (-1)) hx hb d_D_init_56 (by decide) ?_
    refine va_put (ci := 2) (v := .int (-1)) (ty := .int) (C := "ZipGuard$Directory") (T := F_D) (N := 5) hx hb ht zi_D ty_D tk_D nm_D hown hK hP hD hS 0 rfl rfl 3 (by decide) (ht _ zm_185) (fun _ h9 => h9) rfl (by decide +kernel) rfl rfl (Nat.le_of_ble_eq_true rfl) d_D_init_57 (fun H locs hP hD hS => ?_)
    have hP : va_P D zcl [(h0, .inr (2, [.ref q1, .int 0, .int 0, .int (-1), .ref h1])), (q1, .inl (cA2, 64, .inr (.inr (.inr (.inr fe)))))] H := hP
    have hD : va_D A [(h0, .inr (2, [.ref q1, .int 0, .int 0, .int (-1), .ref h1])), (q1, .inl (cA2, 64, .inr (.inr (.inr (.inr fe)))))] := hD
    exact zretv hx hb hr hlk hK hP hD hS q1 [0] [] rfl (by decide) rfl (trivial) (Nat.le_of_ble_eq_true rfl) (Nat.le_of_ble_eq_true rfl) d_D_init_60)
set_option maxHeartbeats 4000000 in
set_option maxRecDepth 100000 in
theorem c_G_init0 (l : Launch) (D : va_G) (sz : Nat) (h0 : Nat)  : Met l y_G_init (Cond.code y_G_init prog_1_method_1_code 1 (Option.none : Option Jvm.ClassFile.FieldType) :: zt) { frames := 4, cells := 157, slots := 65851, locals := 90 } (zPc [.ref h0] D [(h0, .inr (0, [.null, .null, .null, .null]))] [] sz (va_AO "ZipGuard$Entry")) (va_Qv (fun (u : Nat × Nat × Nat × Nat × Nat × Nat × Nat × ClassId) => match u with | (qt, qd, qa, qu, qb, qe, qo, cB) => True) (fun u t => zB D ((fun (u : Nat × Nat × Nat × Nat × Nat × Nat × Nat × ClassId) => match u with | (qt, qd, qa, qu, qb, qe, qo, cB) => [(h0, .inr (0, [.ref qt, .ref qd, .ref qa, .ref qu])), (qt, .inr (1, [.ref qb, .int 0])), (qb, .inl (cB, 20000, .inl (fun _ => 0))), (qd, .inr (2, [.ref qe, .int 0, .int 0, .int (-1), .ref qt])), (qa, .inr (3, [.int 20000, .int 100, .int 0, .ref qo, .int (-1)]))]) u) ((fun (u : Nat × Nat × Nat × Nat × Nat × Nat × Nat × ClassId) => match u with | (qt, qd, qa, qu, qb, qe, qo, cB) => [(cB, .byte)]) u) (va_A [(h0, .inr (0, [.null, .null, .null, .null]))] sz) t) (va_A [(h0, .inr (0, [.null, .null, .null, .null]))] sz)) 157 65851 (va_A [(h0, .inr (0, [.null, .null, .null, .null]))] sz) :=
  zMet (Qf := fun A => va_Qv (fun (u : Nat × Nat × Nat × Nat × Nat × Nat × Nat × ClassId) => match u with | (qt, qd, qa, qu, qb, qe, qo, cB) => True) (fun u t => zB D ((fun (u : Nat × Nat × Nat × Nat × Nat × Nat × Nat × ClassId) => match u with | (qt, qd, qa, qu, qb, qe, qo, cB) => [(h0, .inr (0, [.ref qt, .ref qd, .ref qa, .ref qu])), (qt, .inr (1, [.ref qb, .int 0])), (qb, .inl (cB, 20000, .inl (fun _ => 0))), (qd, .inr (2, [.ref qe, .int 0, .int 0, .int (-1), .ref qt])), (qa, .inr (3, [.int 20000, .int 100, .int 0, .ref qo, .int (-1)]))]) u) ((fun (u : Nat × Nat × Nat × Nat × Nat × Nat × Nat × ClassId) => match u with | (qt, qd, qa, qu, qb, qe, qo, cB) => [(cB, .byte)]) u) A t) A) (by decide) (Nat.le_of_ble_eq_true rfl) (fun p e s m below meth c A ls hx hb hr hml hown ht hlk hnm hA hK hP hD hX hl => by
    have hS : va_S A s.heap s.heap [] := va_S.rf
    have hl : lv_has ls 1 [(0, .ref h0)] := hl
    refine lv_aload_n hx hb d_G_init_0 rfl (lv_at hl 0 rfl) ?_
    refine W.objInit hx hb hown (ht _ zm_86) (ht _ zm_87) (ht _ zm_88) rfl (by rw [hml]; exact hl.1) rfl d_G_init_1 (Nat.le_of_ble_eq_true rfl) (Nat.le_of_ble_eq_true rfl) ?_
    refine W.eq (g2 := F0 m 4 ls []) rfl ?_
    refine lv_aload_n hx hb d_G_init_4 rfl (lv_at hl 0 rfl) ?_
    refine va_new (ci := 1) (fs := [.null, .int 0]) (C := "ZipGuard$Tape") (T := F_T) (N := 2) hx hb ht zi_T ty_T tk_T hown (ht _ zm_89) (ht _ zm_90) (ht _ zm_66) hK hP hD hS hA rfl zdf_T (Nat.le_of_ble_eq_true rfl) (Nat.le_of_ble_eq_true rfl) d_G_init_5 (fun q1 H hP hD hS => ?_)
    have hP : va_P D zcl [(h0, .inr (0, [.null, .null, .null, .null])), (q1, .inr (1, [.null, .int 0]))] H := hP
    have hD : va_D A [(h0, .inr (0, [.null, .null, .null, .null])), (q1, .inr (1, [.null, .int 0]))] := hD
    refine lv_dup hx hb d_G_init_8 rfl ?_
    refine zjv (wr := [(h0, .inr (0, [.null, .null, .null, .null]))]) (va_runI (As := []) (rest := [.ref q1, .ref h0]) ⟨hx, hb, hml, hown, ht⟩ (c_T_init l D _ q1 ) (cwI 0 ht (zt_good zm_93) rfl rfl rfl (ht _ zm_66) (ht _ zm_91) (ht _ zm_92) rfl (by decide +kernel) ⟨Nat.le_of_ble_eq_true rfl, Nat.le_of_ble_eq_true rfl⟩) (zpre zBlind_t hK hP hD [1] [] rfl (by decide) rfl (fun _ _ _ => trivial)) rfl rfl hl.1 rfl (lv_room (Nat.le_of_ble_eq_true rfl)) d_G_init_9 ⟨Nat.le_of_ble_eq_true rfl, Nat.le_of_ble_eq_true rfl⟩) hK hP hD hS hA [1] [0] rfl rfl (by decide) (by decide) (fun u H locs hp5 hP hD hK hS => ?_)
    obtain ⟨q12, cA13⟩ := u
    dsimp only at hp5 hP hD hK
    have hP : va_P D zcl [(h0, .inr (0, [.null, .null, .null, .null])), (q1, .inr (1, [.ref q12, .int 0])), (q12, .inl (cA13, 20000, .inl (fun _ => 0)))] H := hP
    have hD : va_D A [(h0, .inr (0, [.null, .null, .null, .null])), (q1, .inr (1, [.ref q12, .int 0])), (q12, .inl (cA13, 20000, .inl (fun _ => 0)))] := hD
    have hK : va_K D zcl [(cA13, .byte)] s := hK
    refine va_putF (ci := 0) (v := .ref q1) (ty := .object "ZipGuard$Tape") (C := "ZipGuard") (T := F_G) (N := 4) hx hb ht zi_G ty_G tk_G nm_G hown hK hP hD hS 0 rfl rfl 0 (by decide) (ht _ zm_395) (fun _ h9 => h9) rfl hnm rfl (by decide +kernel) rfl rfl (Nat.le_of_ble_eq_true rfl) d_G_init_12 (fun H locs hP hD hS => ?_)
    have hP : va_P D zcl [(h0, .inr (0, [.ref q1, .null, .null, .null])), (q1, .inr (1, [.ref q12, .int 0])), (q12, .inl (cA13, 20000, .inl (fun _ => 0)))] H := hP
    have hD : va_D A [(h0, .inr (0, [.ref q1, .null, .null, .null])), (q1, .inr (1, [.ref q12, .int 0])), (q12, .inl (cA13, 20000, .inl (fun _ => 0)))] := hD
    refine lv_aload_n hx hb d_G_init_15 rfl (lv_at hl 0 rfl) ?_
    refine va_new (ci := 2) (fs := [.null, .int 0, .int 0, .int 0, .null]) (C := "ZipGuard$Directory") (T := F_D) (N := 5) hx hb ht zi_D ty_D tk_D hown (ht _ zm_106) (ht _ zm_107) (ht _ zm_67) hK hP hD hS hA rfl zdf_D (Nat.le_of_ble_eq_true rfl) (Nat.le_of_ble_eq_true rfl) d_G_init_16 (fun q6 H hP hD hS => ?_)
    have hP : va_P D zcl [(h0, .inr (0, [.ref q1, .null, .null, .null])), (q1, .inr (1, [.ref q12, .int 0])), (q12, .inl (cA13, 20000, .inl (fun _ => 0))), (q6, .inr (2, [.null, .int 0, .int 0, .int 0, .null]))] H := hP
    have hD : va_D A [(h0, .inr (0, [.ref q1, .null, .null, .null])), (q1, .inr (1, [.ref q12, .int 0])), (q12, .inl (cA13, 20000, .inl (fun _ => 0))), (q6, .inr (2, [.null, .int 0, .int 0, .int 0, .null]))] := hD
    refine lv_dup hx hb d_G_init_19 rfl ?_
    refine lv_aload_n hx hb d_G_init_20 rfl (lv_at hl 0 rfl) ?_
    refine va_get (ci := 0) (C := "ZipGuard") (T := F_G) (N := 4) hx hb ht zi_G hown hK hP 0 rfl rfl 0 (by decide) (ht _ zm_395) (fun _ h9 => h9) rfl d_G_init_21 ?_
    refine zjv (wr := [(h0, .inr (0, [.ref q1, .null, .null, .null])), (q1, .inr (1, [.ref q12, .int 0])), (q12, .inl (cA13, 20000, .inl (fun _ => 0)))]) (va_runI (As := [.ref q1]) (rest := [.ref q6, .ref h0]) ⟨hx, hb, hml, hown, ht⟩ (c_D_init0 l D _ q6 q1 ) (cwI 1 ht (zt_good zm_110) rfl rfl rfl (ht _ zm_67) (ht _ zm_108) (ht _ zm_109) rfl (by decide +kernel) ⟨Nat.le_of_ble_eq_true rfl, Nat.le_of_ble_eq_true rfl⟩) (zpre zBlind_AO hK hP hD [3] [] rfl (by decide) rfl (fun U _ hW => hX.moved hW.alike)) rfl rfl hl.1 rfl (lv_room (Nat.le_of_ble_eq_true rfl)) d_G_init_24 ⟨Nat.le_of_ble_eq_true rfl, Nat.le_of_ble_eq_true rfl⟩) hK hP hD hS hA [3] [0, 1, 2] rfl rfl (by decide) (by decide) (fun u H locs hp9 hP hD hK hS => ?_)
    obtain ⟨qe7, rfl⟩ : ∃ z, z = u := ⟨u, rfl⟩
    dsimp only at hp9 hP hD hK
    have hP : va_P D zcl [(h0, .inr (0, [.ref q1, .null, .null, .null])), (q1, .inr (1, [.ref q12, .int 0])), (q12, .inl (cA13, 20000, .inl (fun _ => 0))), (q6, .inr (2, [.ref qe7, .int 0, .int 0, .int (-1), .ref q1]))] H := hP
    have hD : va_D A [(h0, .inr (0, [.ref q1, .null, .null, .null])), (q1, .inr (1, [.ref q12, .int 0])), (q12, .inl (cA13, 20000, .inl (fun _ => 0))), (q6, .inr (2, [.ref qe7, .int 0, .int 0, .int (-1), .ref q1]))] := hD
    have hK : va_K D zcl [(cA13, .byte)] s := hK
    refine va_putF (ci := 0) (v := .ref q6) (ty := .object "ZipGuard$Directory") (C := "ZipGuard") (T := F_G) (N := 4) hx hb ht zi_G ty_G tk_G nm_G hown hK hP hD hS 0 rfl rfl 1 (by decide) (ht _ zm_396) (fun _ h9 => h9) rfl hnm rfl (by decide +kernel) rfl rfl (Nat.le_of_ble_eq_true rfl) d_G_init_27 (fun H locs hP hD hS => ?_)
    have hP : va_P D zcl [(h0, .inr (0, [.ref q1, .ref q6, .null, .null])), (q1, .inr (1, [.ref q12, .int 0])), (q12, .inl (cA13, 20000, .inl (fun _ => 0))), (q6, .inr (2, [.ref qe7, .int 0, .int 0, .int (-1), .ref q1]))] H := hP
    have hD : va_D A [(h0, .inr (0, [.ref q1, .ref q6, .null, .null])), (q1, .inr (1, [.ref q12, .int 0])), (q12, .inl (cA13, 20000, .inl (fun _ => 0))), (q6, .inr (2, [.ref qe7, .int 0, .int 0, .int (-1), .ref q1]))] := hD
    refine lv_aload_n hx hb d_G_init_30 rfl (lv_at hl 0 rfl) ?_
    refine va_new (ci := 3) (fs := [.int 0, .int 0, .int 0, .null, .int 0]) (C := "ZipGuard$Target") (T := F_A) (N := 5) hx hb ht zi_A ty_A tk_A hown (ht _ zm_199) (ht _ zm_200) (ht _ zm_69) hK hP hD hS hA rfl zdf_A (Nat.le_of_ble_eq_true rfl) (Nat.le_of_ble_eq_true rfl) d_G_init_31 (fun q10 H hP hD hS => ?_)
    have hP : va_P D zcl [(h0, .inr (0, [.ref q1, .ref q6, .null, .null])), (q1, .inr (1, [.ref q12, .int 0])), (q12, .inl (cA13, 20000, .inl (fun _ => 0))), (q6, .inr (2, [.ref qe7, .int 0, .int 0, .int (-1), .ref q1])), (q10, .inr (3, [.int 0, .int 0, .int 0, .null, .int 0]))] H := hP
    have hD : va_D A [(h0, .inr (0, [.ref q1, .ref q6, .null, .null])), (q1, .inr (1, [.ref q12, .int 0])), (q12, .inl (cA13, 20000, .inl (fun _ => 0))), (q6, .inr (2, [.ref qe7, .int 0, .int 0, .int (-1), .ref q1])), (q10, .inr (3, [.int 0, .int 0, .int 0, .null, .int 0]))] := hD
    refine lv_dup hx hb d_G_init_34 rfl ?_
    refine zjv (wr := [(h0, .inr (0, [.ref q1, .ref q6, .null, .null])), (q1, .inr (1, [.ref q12, .int 0])), (q12, .inl (cA13, 20000, .inl (fun _ => 0))), (q6, .inr (2, [.ref qe7, .int 0, .int 0, .int (-1), .ref q1]))]) (va_runI (As := []) (rest := [.ref q10, .ref h0]) ⟨hx, hb, hml, hown, ht⟩ (c_A_init l D _ q10 ) (cwI 0 ht (zt_good zm_203) rfl rfl rfl (ht _ zm_69) (ht _ zm_201) (ht _ zm_202) rfl (by decide +kernel) ⟨Nat.le_of_ble_eq_true rfl, Nat.le_of_ble_eq_true rfl⟩) (zpre zBlind_t hK hP hD [4] [] rfl (by decide) rfl (fun _ _ _ => trivial)) rfl rfl hl.1 rfl (lv_room (Nat.le_of_ble_eq_true rfl)) d_G_init_35 ⟨Nat.le_of_ble_eq_true rfl, Nat.le_of_ble_eq_true rfl⟩) hK hP hD hS hA [4] [0, 1, 2, 3] rfl rfl (by decide) (by decide) (fun u H locs hp14 hP hD hK hS => ?_)
    obtain ⟨q111, cA112⟩ := u
    dsimp only at hp14 hP hD hK
    have hP : va_P D zcl [(h0, .inr (0, [.ref q1, .ref q6, .null, .null])), (q1, .inr (1, [.ref q12, .int 0])), (q12, .inl (cA13, 20000, .inl (fun _ => 0))), (q6, .inr (2, [.ref qe7, .int 0, .int 0, .int (-1), .ref q1])), (q10, .inr (3, [.int 20000, .int 100, .int 0, .ref q111, .int (-1)])), (q111, .inl (cA112, 40000, .inl (fun _ => 0)))] H := hP
    have hD : va_D A [(h0, .inr (0, [.ref q1, .ref q6, .null, .null])), (q1, .inr (1, [.ref q12, .int 0])), (q12, .inl (cA13, 20000, .inl (fun _ => 0))), (q6, .inr (2, [.ref qe7, .int 0, .int 0, .int (-1), .ref q1])), (q10, .inr (3, [.int 20000, .int 100, .int 0, .ref q111, .int (-1)])), (q111, .inl (cA112, 40000, .inl (fun _ => 0)))] := hD
    have hK : va_K D zcl [(cA13, .byte), (cA112, .byte)] s := hK
    refine va_putF (ci := 0) (v := .ref q10) (ty := .object "ZipGuard$Target") (C := "ZipGuard") (T := F_G) (N := 4) hx hb ht zi_G ty_G tk_G nm_G hown hK hP hD hS 0 rfl rfl 2 (by decide) (ht _ zm_397) (fun _ h9 => h9) rfl hnm rfl (by decide +kernel) rfl rfl (Nat.le_of_ble_eq_true rfl) d_G_init_38 (fun H locs hP hD hS => ?_)
    have hP : va_P D zcl [(h0, .inr (0, [.ref q1, .ref q6, .ref q10, .null])), (q1, .inr (1, [.ref q12, .int 0])), (q12, .inl (cA13, 20000, .inl (fun _ => 0))), (q6, .inr (2, [.ref qe7, .int 0, .int 0, .int (-1), .ref q1])), (q10, .inr (3, [.int 20000, .int 100, .int 0, .ref q111, .int (-1)])), (q111, .inl (cA112, 40000, .inl (fun _ => 0)))] H := hP
    have hD : va_D A [(h0, .inr (0, [.ref q1, .ref q6, .ref q10, .null])), (q1, .inr (1, [.ref q12, .int 0])), (q12, .inl (cA13, 20000, .inl (fun _ => 0))), (q6, .inr (2, [.ref qe7, .int 0, .int 0, .int (-1), .ref q1])), (q10, .inr (3, [.int 20000, .int 100, .int 0, .ref q111, .int (-1)])), (q111, .inl (cA112, 40000, .inl (fun _ => 0)))] := hD
    refine lv_aload_n hx hb d_G_init_41 rfl (lv_at hl 0 rfl) ?_
    refine va_new (ci := 4) (fs := [.null, .null, .null, .null, .null, .null, .null, .null]) (C := "ZipGuard$Unpacker") (T := F_U) (N := 8) hx hb ht zi_U ty_U tk_U hown (ht _ zm_225) (ht _ zm_226) (ht _ zm_70) hK hP hD hS hA rfl zdf_U (Nat.le_of_ble_eq_true rfl) (Nat.le_of_ble_eq_true rfl) d_G_init_42 (fun q15 H hP hD hS => ?_)
    have hP : va_P D zcl [(h0, .inr (0, [.ref q1, .ref q6, .ref q10, .null])), (q1, .inr (1, [.ref q12, .int 0])), (q12, .inl (cA13, 20000, .inl (fun _ => 0))), (q6, .inr (2, [.ref qe7, .int 0, .int 0, .int (-1), .ref q1])), (q10, .inr (3, [.int 20000, .int 100, .int 0, .ref q111, .int (-1)])), (q111, .inl (cA112, 40000, .inl (fun _ => 0))), (q15, .inr (4, [.null, .null, .null, .null, .null, .null, .null, .null]))] H := hP
    have hD : va_D A [(h0, .inr (0, [.ref q1, .ref q6, .ref q10, .null])), (q1, .inr (1, [.ref q12, .int 0])), (q12, .inl (cA13, 20000, .inl (fun _ => 0))), (q6, .inr (2, [.ref qe7, .int 0, .int 0, .int (-1), .ref q1])), (q10, .inr (3, [.int 20000, .int 100, .int 0, .ref q111, .int (-1)])), (q111, .inl (cA112, 40000, .inl (fun _ => 0))), (q15, .inr (4, [.null, .null, .null, .null, .null, .null, .null, .null]))] := hD
    refine lv_dup hx hb d_G_init_45 rfl ?_
    refine lv_aload_n hx hb d_G_init_46 rfl (lv_at hl 0 rfl) ?_
    refine va_get (ci := 0) (C := "ZipGuard") (T := F_G) (N := 4) hx hb ht zi_G hown hK hP 0 rfl rfl 0 (by decide) (ht _ zm_395) (fun _ h9 => h9) rfl d_G_init_47 ?_
    refine lv_aload_n hx hb d_G_init_50 rfl (lv_at hl 0 rfl) ?_
    refine va_get (ci := 0) (C := "ZipGuard") (T := F_G) (N := 4) hx hb ht zi_G hown hK hP 0 rfl rfl 2 (by decide) (ht _ zm_397) (fun _ h9 => h9) rfl d_G_init_51 ?_
    refine zjv (wr := [(h0, .inr (0, [.ref q1, .ref q6, .ref q10, .null])), (q12, .inl (cA13, 20000, .inl (fun _ => 0))), (q6, .inr (2, [.ref qe7, .int 0, .int 0, .int (-1), .ref q1])), (q10, .inr (3, [.int 20000, .int 100, .int 0, .ref q111, .int (-1)])), (q111, .inl (cA112, 40000, .inl (fun _ => 0)))]) (va_runI (As := [.ref q1, .ref q10]) (rest := [.ref q15, .ref h0]) ⟨hx, hb, hml, hown, ht⟩ (c_U_init0 l D _ q15 q1 q10 q12 0 ) (cwI 2 ht (zt_good zm_229) rfl rfl rfl (ht _ zm_70) (ht _ zm_227) (ht _ zm_228) rfl (by decide +kernel) ⟨Nat.le_of_ble_eq_true rfl, Nat.le_of_ble_eq_true rfl⟩) (zpre zBlind_t hK hP hD [6, 1] [] rfl (by decide) rfl (fun _ _ _ => trivial)) rfl rfl hl.1 rfl (lv_room (Nat.le_of_ble_eq_true rfl)) d_G_init_54 ⟨Nat.le_of_ble_eq_true rfl, Nat.le_of_ble_eq_true rfl⟩) hK hP hD hS hA [6, 1] [0, 2, 3, 4, 5] rfl rfl (by decide) (by decide) (fun u H locs hp17 hP hD hK hS => ?_)
    have hP : va_P D zcl [(h0, .inr (0, [.ref q1, .ref q6, .ref q10, .null])), (q12, .inl (cA13, 20000, .inl (fun _ => 0))), (q6, .inr (2, [.ref qe7, .int 0, .int 0, .int (-1), .ref q1])), (q10, .inr (3, [.int 20000, .int 100, .int 0, .ref q111, .int (-1)])), (q111, .inl (cA112, 40000, .inl (fun _ => 0))), (q1, .inr (1, [.ref q12, .int 0]))] H := hP
    have hD : va_D A [(h0, .inr (0, [.ref q1, .ref q6, .ref q10, .null])), (q12, .inl (cA13, 20000, .inl (fun _ => 0))), (q6, .inr (2, [.ref qe7, .int 0, .int 0, .int (-1), .ref q1])), (q10, .inr (3, [.int 20000, .int 100, .int 0, .ref q111, .int (-1)])), (q111, .inl (cA112, 40000, .inl (fun _ => 0))), (q1, .inr (1, [.ref q12, .int 0]))] := hD
    have hK : va_K D zcl [(cA13, .byte), (cA112, .byte)] s := hK
    refine va_putF (ci := 0) (v := .ref q15) (ty := .object "ZipGuard$Unpacker") (C := "ZipGuard") (T := F_G) (N := 4) hx hb ht zi_G ty_G tk_G nm_G hown hK hP hD hS 0 rfl rfl 3 (by decide) (ht _ zm_398) (fun _ h9 => h9) rfl hnm rfl (by decide +kernel) rfl rfl (Nat.le_of_ble_eq_true rfl) d_G_init_57 (fun H locs hP hD hS => ?_)
    have hP : va_P D zcl [(h0, .inr (0, [.ref q1, .ref q6, .ref q10, .ref q15])), (q12, .inl (cA13, 20000, .inl (fun _ => 0))), (q6, .inr (2, [.ref qe7, .int 0, .int 0, .int (-1), .ref q1])), (q10, .inr (3, [.int 20000, .int 100, .int 0, .ref q111, .int (-1)])), (q111, .inl (cA112, 40000, .inl (fun _ => 0))), (q1, .inr (1, [.ref q12, .int 0]))] H := hP
    have hD : va_D A [(h0, .inr (0, [.ref q1, .ref q6, .ref q10, .ref q15])), (q12, .inl (cA13, 20000, .inl (fun _ => 0))), (q6, .inr (2, [.ref qe7, .int 0, .int 0, .int (-1), .ref q1])), (q10, .inr (3, [.int 20000, .int 100, .int 0, .ref q111, .int (-1)])), (q111, .inl (cA112, 40000, .inl (fun _ => 0))), (q1, .inr (1, [.ref q12, .int 0]))] := hD
    exact zretv hx hb hr hlk hK hP hD hS (q1, q6, q10, q15, q12, qe7, q111, cA13) [0, 5, 1, 2, 3] [0] rfl (by decide) rfl (trivial) (Nat.le_of_ble_eq_true rfl) (Nat.le_of_ble_eq_true rfl) d_G_init_60)
