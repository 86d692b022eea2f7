set_option maxRecDepth 100000 in
theorem zm_3 : Jvm.Cond.selects "ZipGuard$Directory" ({ cls := "ZipGuard$Directory", name := "faultAt", desc := "(II)I" } : Jvm.MethodName) ({ cls := "ZipGuard$Directory", name := "faultAt", desc := "(II)I" } : Jvm.MethodName) ∈ zt := zt_mp (List.mem_of_getElem? (i := 3) rfl)
set_option maxRecDepth 100000 in
theorem zm_7 : Jvm.Cond.selects "ZipGuard$Directory" ({ cls := "ZipGuard$Directory", name := "behindEntry", desc := "(I)I" } : Jvm.MethodName) ({ cls := "ZipGuard$Directory", name := "behindEntry", desc := "(I)I" } : Jvm.MethodName) ∈ zt := zt_mp (List.mem_of_getElem? (i := 7) rfl)
set_option maxRecDepth 100000 in
theorem zm_9 : Jvm.Cond.selects "ZipGuard$Directory" ({ cls := "ZipGuard$Directory", name := "hasRightSizes", desc := "(II)Z" } : Jvm.MethodName) ({ cls := "ZipGuard$Directory", name := "hasRightSizes", desc := "(II)Z" } : Jvm.MethodName) ∈ zt := zt_mp (List.mem_of_getElem? (i := 9) rfl)
set_option maxRecDepth 100000 in
theorem zm_12 : Jvm.Cond.selects "ZipGuard$Directory" ({ cls := "ZipGuard$Directory", name := "isNameByte", desc := "(I)Z" } : Jvm.MethodName) ({ cls := "ZipGuard$Directory", name := "isNameByte", desc := "(I)Z" } : Jvm.MethodName) ∈ zt := zt_mp (List.mem_of_getElem? (i := 12) rfl)
set_option maxRecDepth 100000 in
theorem zm_13 : Jvm.Cond.selects "ZipGuard$Directory" ({ cls := "ZipGuard$Directory", name := "isPart", desc := "(II)Z" } : Jvm.MethodName) ({ cls := "ZipGuard$Directory", name := "isPart", desc := "(II)Z" } : Jvm.MethodName) ∈ zt := zt_mp (List.mem_of_getElem? (i := 13) rfl)
set_option maxRecDepth 100000 in
theorem zm_67 : Jvm.Cond.initialized "ZipGuard$Directory" ∈ zt := zt_m1 (List.mem_of_getElem? (i := 3) rfl)
set_option maxRecDepth 100000 in
theorem zm_68 : Jvm.Cond.initialized "ZipGuard$Entry" ∈ zt := zt_m1 (List.mem_of_getElem? (i := 4) rfl)
set_option maxRecDepth 100000 in
theorem zm_99 : Jvm.Cond.fieldLink "ZipGuard$Directory" (37 : Nat) "ZipGuard$Tape" "length" "I" ∈ zt := zt_m1 (List.mem_of_getElem? (i := 35) rfl)
set_option maxRecDepth 100000 in
theorem zm_120 : Jvm.Cond.fieldLink "ZipGuard$Entry" (23 : Nat) "ZipGuard$Entry" "nameLength" "I" ∈ zt := zt_m1 (List.mem_of_getElem? (i := 56) rfl)
set_option maxRecDepth 100000 in
theorem zm_123 : Jvm.Cond.fieldLink "ZipGuard$Entry" (32 : Nat) "ZipGuard$Entry" "isFolder" "Z" ∈ zt := zt_m1 (List.mem_of_getElem? (i := 59) rfl)
set_option maxRecDepth 100000 in
theorem zm_127 : Jvm.Cond.fieldLink "ZipGuard$Directory" (125 : Nat) "ZipGuard$Entry" "method" "I" ∈ zt := zt_m1 (List.mem_of_getElem? (i := 63) rfl)
set_option maxRecDepth 100000 in
theorem zm_130 : Jvm.Cond.fieldLink "ZipGuard$Entry" (39 : Nat) "ZipGuard$Entry" "packed" "I" ∈ zt := zt_m1 (List.mem_of_getElem? (i := 66) rfl)
set_option maxRecDepth 100000 in
theorem zm_132 : Jvm.Cond.fieldLink "ZipGuard$Directory" (131 : Nat) "ZipGuard$Entry" "packed" "I" ∈ zt := zt_m1 (List.mem_of_getElem? (i := 68) rfl)
set_option maxRecDepth 100000 in
theorem zm_136 : Jvm.Cond.fieldLink "ZipGuard$Directory" (134 : Nat) "ZipGuard$Entry" "size" "J" ∈ zt := zt_m1 (List.mem_of_getElem? (i := 72) rfl)
set_option maxRecDepth 100000 in
theorem zm_139 : Jvm.Cond.fieldLink "ZipGuard$Directory" (128 : Nat) "ZipGuard$Entry" "sum" "I" ∈ zt := zt_m1 (List.mem_of_getElem? (i := 75) rfl)
set_option maxRecDepth 100000 in
theorem zm_140 : Jvm.Cond.fieldLink "ZipGuard$Entry" (42 : Nat) "ZipGuard$Entry" "localPlace" "I" ∈ zt := zt_m1 (List.mem_of_getElem? (i := 76) rfl)
set_option maxRecDepth 100000 in
theorem zm_143 : Jvm.Cond.fieldLink "ZipGuard$Entry" (36 : Nat) "ZipGuard$Entry" "packedPlace" "I" ∈ zt := zt_m1 (List.mem_of_getElem? (i := 79) rfl)
set_option maxRecDepth 100000 in
theorem zm_145 : Jvm.Cond.fieldLink "ZipGuard$Entry" (13 : Nat) "ZipGuard$Entry" "state" "I" ∈ zt := zt_m1 (List.mem_of_getElem? (i := 81) rfl)
set_option maxRecDepth 100000 in
theorem zm_148 : Jvm.Cond.fieldLink "ZipGuard$Entry" (17 : Nat) "ZipGuard$Entry" "outPlace" "I" ∈ zt := zt_m1 (List.mem_of_getElem? (i := 84) rfl)
set_option maxRecDepth 100000 in
theorem zm_150 : Jvm.Cond.fieldLink "ZipGuard$Entry" (20 : Nat) "ZipGuard$Entry" "outLength" "I" ∈ zt := zt_m1 (List.mem_of_getElem? (i := 86) rfl)
set_option maxRecDepth 100000 in
theorem zm_183 : Jvm.Cond.fieldLink "ZipGuard$Directory" (26 : Nat) "ZipGuard$Directory" "isOpen" "Z" ∈ zt := zt_m1 (List.mem_of_getElem? (i := 119) rfl)
set_option maxRecDepth 100000 in
theorem zm_185 : Jvm.Cond.fieldLink "ZipGuard$Directory" (30 : Nat) "ZipGuard$Directory" "faultPlace" "I" ∈ zt := zt_m1 (List.mem_of_getElem? (i := 121) rfl)
set_option maxRecDepth 100000 in
theorem zm_187 : Jvm.Cond.fieldLink "ZipGuard$Directory" (9 : Nat) "ZipGuard$Directory" "tape" "LZipGuard$Tape;" ∈ zt := zt_m1 (List.mem_of_getElem? (i := 123) rfl)
set_option maxRecDepth 100000 in
theorem zm_423 : Jvm.Cond.methodLink "ZipGuard$Directory" (53 : Nat) ({ cls := "ZipGuard$Tape", name := "hasMarkAt", desc := "(III)Z" } : Jvm.MethodName) ∈ zt := zt_m3 (List.mem_of_getElem? (i := 95) rfl)
set_option maxRecDepth 100000 in
theorem zm_424 : Jvm.Cond.instanceMethod ({ cls := "ZipGuard$Tape", name := "hasMarkAt", desc := "(III)Z" } : Jvm.MethodName) ∈ zt := zt_m3 (List.mem_of_getElem? (i := 96) rfl)
set_option maxRecDepth 100000 in
theorem zm_425 : Jvm.Cond.selects "ZipGuard$Tape" ({ cls := "ZipGuard$Tape", name := "hasMarkAt", desc := "(III)Z" } : Jvm.MethodName) ({ cls := "ZipGuard$Tape", name := "hasMarkAt", desc := "(III)Z" } : Jvm.MethodName) ∈ zt := zt_m3 (List.mem_of_getElem? (i := 97) rfl)
set_option maxRecDepth 100000 in
theorem zm_426 : Jvm.Cond.code ({ cls := "ZipGuard$Tape", name := "hasMarkAt", desc := "(III)Z" } : Jvm.MethodName) prog_6_method_9_code (4 : Nat) (Option.some Jvm.ClassFile.FieldType.boolean) ∈ zt := zt_m3 (List.mem_of_getElem? (i := 98) rfl)
set_option maxRecDepth 100000 in
theorem zm_431 : Jvm.Cond.methodLink "ZipGuard$Directory" (57 : Nat) ({ cls := "ZipGuard$Tape", name := "twoAt", desc := "(I)I" } : Jvm.MethodName) ∈ zt := zt_m3 (List.mem_of_getElem? (i := 103) rfl)
set_option maxRecDepth 100000 in
theorem zm_432 : Jvm.Cond.instanceMethod ({ cls := "ZipGuard$Tape", name := "twoAt", desc := "(I)I" } : Jvm.MethodName) ∈ zt := zt_m3 (List.mem_of_getElem? (i := 104) rfl)
set_option maxRecDepth 100000 in
theorem zm_433 : Jvm.Cond.selects "ZipGuard$Tape" ({ cls := "ZipGuard$Tape", name := "twoAt", desc := "(I)I" } : Jvm.MethodName) ({ cls := "ZipGuard$Tape", name := "twoAt", desc := "(I)I" } : Jvm.MethodName) ∈ zt := zt_m3 (List.mem_of_getElem? (i := 105) rfl)
set_option maxRecDepth 100000 in
theorem zm_434 : Jvm.Cond.code ({ cls := "ZipGuard$Tape", name := "twoAt", desc := "(I)I" } : Jvm.MethodName) prog_6_method_7_code (2 : Nat) (Option.some Jvm.ClassFile.FieldType.int) ∈ zt := zt_m3 (List.mem_of_getElem? (i := 106) rfl)
set_option maxRecDepth 100000 in
theorem zm_435 : Jvm.Cond.methodLink "ZipGuard$Directory" (42 : Nat) ({ cls := "ZipGuard$Directory", name := "faultAt", desc := "(II)I" } : Jvm.MethodName) ∈ zt := zt_m3 (List.mem_of_getElem? (i := 107) rfl)
set_option maxRecDepth 100000 in
theorem zm_436 : Jvm.Cond.instanceMethod ({ cls := "ZipGuard$Directory", name := "faultAt", desc := "(II)I" } : Jvm.MethodName) ∈ zt := zt_m3 (List.mem_of_getElem? (i := 108) rfl)
set_option maxRecDepth 100000 in
theorem zm_437 : Jvm.Cond.code ({ cls := "ZipGuard$Directory", name := "faultAt", desc := "(II)I" } : Jvm.MethodName) prog_4_method_4_code (3 : Nat) (Option.some Jvm.ClassFile.FieldType.int) ∈ zt := zt_m3 (List.mem_of_getElem? (i := 109) rfl)
set_option maxRecDepth 100000 in
theorem zm_441 : Jvm.Cond.methodLink "ZipGuard$Directory" (60 : Nat) ({ cls := "ZipGuard$Tape", name := "fourAt", desc := "(I)J" } : Jvm.MethodName) ∈ zt := zt_m3 (List.mem_of_getElem? (i := 113) rfl)
set_option maxRecDepth 100000 in
theorem zm_442 : Jvm.Cond.instanceMethod ({ cls := "ZipGuard$Tape", name := "fourAt", desc := "(I)J" } : Jvm.MethodName) ∈ zt := zt_m3 (List.mem_of_getElem? (i := 114) rfl)
set_option maxRecDepth 100000 in
theorem zm_443 : Jvm.Cond.selects "ZipGuard$Tape" ({ cls := "ZipGuard$Tape", name := "fourAt", desc := "(I)J" } : Jvm.MethodName) ({ cls := "ZipGuard$Tape", name := "fourAt", desc := "(I)J" } : Jvm.MethodName) ∈ zt := zt_m3 (List.mem_of_getElem? (i := 115) rfl)
set_option maxRecDepth 100000 in
theorem zm_444 : Jvm.Cond.code ({ cls := "ZipGuard$Tape", name := "fourAt", desc := "(I)J" } : Jvm.MethodName) prog_6_method_8_code (2 : Nat) (Option.some Jvm.ClassFile.FieldType.long) ∈ zt := zt_m3 (List.mem_of_getElem? (i := 116) rfl)
set_option maxRecDepth 100000 in
theorem zm_451 : Jvm.Cond.methodLink "ZipGuard$Directory" (76 : Nat) ({ cls := "ZipGuard$Directory", name := "behindEntry", desc := "(I)I" } : Jvm.MethodName) ∈ zt := zt_m3 (List.mem_of_getElem? (i := 123) rfl)
set_option maxRecDepth 100000 in
theorem zm_452 : Jvm.Cond.instanceMethod ({ cls := "ZipGuard$Directory", name := "behindEntry", desc := "(I)I" } : Jvm.MethodName) ∈ zt := zt_m3 (List.mem_of_getElem? (i := 124) rfl)
set_option maxRecDepth 100000 in
theorem zm_453 : Jvm.Cond.code ({ cls := "ZipGuard$Directory", name := "behindEntry", desc := "(I)I" } : Jvm.MethodName) prog_4_method_8_code (2 : Nat) (Option.some Jvm.ClassFile.FieldType.int) ∈ zt := zt_m3 (List.mem_of_getElem? (i := 125) rfl)
set_option maxRecDepth 100000 in
theorem zm_457 : Jvm.Cond.methodLink "ZipGuard$Directory" (79 : Nat) ({ cls := "ZipGuard$Directory", name := "hasRightSizes", desc := "(II)Z" } : Jvm.MethodName) ∈ zt := zt_m3 (List.mem_of_getElem? (i := 129) rfl)
set_option maxRecDepth 100000 in
theorem zm_458 : Jvm.Cond.instanceMethod ({ cls := "ZipGuard$Directory", name := "hasRightSizes", desc := "(II)Z" } : Jvm.MethodName) ∈ zt := zt_m3 (List.mem_of_getElem? (i := 130) rfl)
set_option maxRecDepth 100000 in
theorem zm_459 : Jvm.Cond.code ({ cls := "ZipGuard$Directory", name := "hasRightSizes", desc := "(II)Z" } : Jvm.MethodName) prog_4_method_11_code (9 : Nat) (Option.some Jvm.ClassFile.FieldType.boolean) ∈ zt := zt_m3 (List.mem_of_getElem? (i := 131) rfl)
set_option maxRecDepth 100000 in
theorem zm_460 : Jvm.Cond.methodLink "ZipGuard$Directory" (83 : Nat) ({ cls := "ZipGuard$Tape", name := "byteAt", desc := "(I)I" } : Jvm.MethodName) ∈ zt := zt_m3 (List.mem_of_getElem? (i := 132) rfl)
set_option maxRecDepth 100000 in
theorem zm_467 : Jvm.Cond.methodLink "ZipGuard$Directory" (97 : Nat) ({ cls := "ZipGuard$Directory", name := "isNameByte", desc := "(I)Z" } : Jvm.MethodName) ∈ zt := zt_m3 (List.mem_of_getElem? (i := 139) rfl)
set_option maxRecDepth 100000 in
theorem zm_468 : Jvm.Cond.instanceMethod ({ cls := "ZipGuard$Directory", name := "isNameByte", desc := "(I)Z" } : Jvm.MethodName) ∈ zt := zt_m3 (List.mem_of_getElem? (i := 140) rfl)
set_option maxRecDepth 100000 in
theorem zm_469 : Jvm.Cond.code ({ cls := "ZipGuard$Directory", name := "isNameByte", desc := "(I)Z" } : Jvm.MethodName) prog_4_method_14_code (2 : Nat) (Option.some Jvm.ClassFile.FieldType.boolean) ∈ zt := zt_m3 (List.mem_of_getElem? (i := 141) rfl)
set_option maxRecDepth 100000 in
theorem zm_470 : Jvm.Cond.methodLink "ZipGuard$Directory" (101 : Nat) ({ cls := "ZipGuard$Directory", name := "isPart", desc := "(II)Z" } : Jvm.MethodName) ∈ zt := zt_m3 (List.mem_of_getElem? (i := 142) rfl)
set_option maxRecDepth 100000 in
theorem zm_471 : Jvm.Cond.instanceMethod ({ cls := "ZipGuard$Directory", name := "isPart", desc := "(II)Z" } : Jvm.MethodName) ∈ zt := zt_m3 (List.mem_of_getElem? (i := 143) rfl)
set_option maxRecDepth 100000 in
theorem zm_472 : Jvm.Cond.code ({ cls := "ZipGuard$Directory", name := "isPart", desc := "(II)Z" } : Jvm.MethodName) prog_4_method_15_code (5 : Nat) (Option.some Jvm.ClassFile.FieldType.boolean) ∈ zt := zt_m3 (List.mem_of_getElem? (i := 144) rfl)
set_option maxRecDepth 100000 in
theorem zm_477 : Jvm.Cond.methodLink "ZipGuard$Entry" (26 : Nat) ({ cls := "ZipGuard$Tape", name := "byteAt", desc := "(I)I" } : Jvm.MethodName) ∈ zt := zt_m3 (List.mem_of_getElem? (i := 149) rfl)
set_option maxRecDepth 100000 in
theorem zm_489 : Jvm.Cond.methodLink "ZipGuard$Directory" (122 : Nat) ({ cls := "ZipGuard$Tape", name := "isSame", desc := "(III)Z" } : Jvm.MethodName) ∈ zt := zt_m3 (List.mem_of_getElem? (i := 161) rfl)
set_option maxRecDepth 100000 in
theorem zm_490 : Jvm.Cond.instanceMethod ({ cls := "ZipGuard$Tape", name := "isSame", desc := "(III)Z" } : Jvm.MethodName) ∈ zt := zt_m3 (List.mem_of_getElem? (i := 162) rfl)
set_option maxRecDepth 100000 in
theorem zm_491 : Jvm.Cond.selects "ZipGuard$Tape" ({ cls := "ZipGuard$Tape", name := "isSame", desc := "(III)Z" } : Jvm.MethodName) ({ cls := "ZipGuard$Tape", name := "isSame", desc := "(III)Z" } : Jvm.MethodName) ∈ zt := zt_m3 (List.mem_of_getElem? (i := 163) rfl)
set_option maxRecDepth 100000 in
theorem zm_492 : Jvm.Cond.code ({ cls := "ZipGuard$Tape", name := "isSame", desc := "(III)Z" } : Jvm.MethodName) prog_6_method_10_code (5 : Nat) (Option.some Jvm.ClassFile.FieldType.boolean) ∈ zt := zt_m3 (List.mem_of_getElem? (i := 164) rfl)
set_option maxRecDepth 100000 in
theorem zm_496 : Jvm.Cond.methodLink "ZipGuard$Directory" (138 : Nat) ({ cls := "ZipGuard$Entry", name := "forgetWhatIsWritten", desc := "()V" } : Jvm.MethodName) ∈ zt := zt_m3 (List.mem_of_getElem? (i := 168) rfl)
set_option maxRecDepth 100000 in
theorem zm_497 : Jvm.Cond.instanceMethod ({ cls := "ZipGuard$Entry", name := "forgetWhatIsWritten", desc := "()V" } : Jvm.MethodName) ∈ zt := zt_m3 (List.mem_of_getElem? (i := 169) rfl)
set_option maxRecDepth 100000 in
theorem zm_498 : Jvm.Cond.selects "ZipGuard$Entry" ({ cls := "ZipGuard$Entry", name := "forgetWhatIsWritten", desc := "()V" } : Jvm.MethodName) ({ cls := "ZipGuard$Entry", name := "forgetWhatIsWritten", desc := "()V" } : Jvm.MethodName) ∈ zt := zt_m3 (List.mem_of_getElem? (i := 170) rfl)
set_option maxRecDepth 100000 in
theorem zm_499 : Jvm.Cond.code ({ cls := "ZipGuard$Entry", name := "forgetWhatIsWritten", desc := "()V" } : Jvm.MethodName) prog_5_method_2_code (1 : Nat) (Option.none : Option Jvm.ClassFile.FieldType) ∈ zt := zt_m3 (List.mem_of_getElem? (i := 171) rfl)
set_option maxRecDepth 100000 in
theorem zm_504 : Jvm.Cond.methodLink "ZipGuard$Entry" (45 : Nat) ({ cls := "ZipGuard$Entry", name := "behindPacked", desc := "()I" } : Jvm.MethodName) ∈ zt := zt_m3 (List.mem_of_getElem? (i := 176) rfl)
set_option maxRecDepth 100000 in
theorem zm_505 : Jvm.Cond.instanceMethod ({ cls := "ZipGuard$Entry", name := "behindPacked", desc := "()I" } : Jvm.MethodName) ∈ zt := zt_m3 (List.mem_of_getElem? (i := 177) rfl)
set_option maxRecDepth 100000 in
theorem zm_506 : Jvm.Cond.selects "ZipGuard$Entry" ({ cls := "ZipGuard$Entry", name := "behindPacked", desc := "()I" } : Jvm.MethodName) ({ cls := "ZipGuard$Entry", name := "behindPacked", desc := "()I" } : Jvm.MethodName) ∈ zt := zt_m3 (List.mem_of_getElem? (i := 178) rfl)
set_option maxRecDepth 100000 in
theorem zm_507 : Jvm.Cond.code ({ cls := "ZipGuard$Entry", name := "behindPacked", desc := "()I" } : Jvm.MethodName) prog_5_method_5_code (1 : Nat) (Option.some Jvm.ClassFile.FieldType.int) ∈ zt := zt_m3 (List.mem_of_getElem? (i := 179) rfl)
theorem d_D_behindEntry_0 : decode prog_4_method_8_code 0 = .ok (.iload_n 1, 1) := by decide +kernel
theorem d_D_behindEntry_1 : decode prog_4_method_8_code 1 = .ok (.bipush 46, 2) := by decide +kernel
theorem d_D_behindEntry_3 : decode prog_4_method_8_code 3 = .ok (.iadd, 1) := by decide +kernel
theorem d_D_behindEntry_4 : decode prog_4_method_8_code 4 = .ok (.aload_n 0, 1) := by decide +kernel
theorem d_D_behindEntry_5 : decode prog_4_method_8_code 5 = .ok (.getfield 9, 3) := by decide +kernel
theorem d_D_behindEntry_8 : decode prog_4_method_8_code 8 = .ok (.iload_n 1, 1) := by decide +kernel
theorem d_D_behindEntry_9 : decode prog_4_method_8_code 9 = .ok (.bipush 28, 2) := by decide +kernel
theorem d_D_behindEntry_11 : decode prog_4_method_8_code 11 = .ok (.iadd, 1) := by decide +kernel
theorem d_D_behindEntry_12 : decode prog_4_method_8_code 12 = .ok (.invokevirtual 57, 3) := by decide +kernel
theorem d_D_behindEntry_15 : decode prog_4_method_8_code 15 = .ok (.iadd, 1) := by decide +kernel
theorem d_D_behindEntry_16 : decode prog_4_method_8_code 16 = .ok (.aload_n 0, 1) := by decide +kernel
theorem d_D_behindEntry_17 : decode prog_4_method_8_code 17 = .ok (.getfield 9, 3) := by decide +kernel
theorem d_D_behindEntry_20 : decode prog_4_method_8_code 20 = .ok (.iload_n 1, 1) := by decide +kernel
theorem d_D_behindEntry_21 : decode prog_4_method_8_code 21 = .ok (.bipush 30, 2) := by decide +kernel
theorem d_D_behindEntry_23 : decode prog_4_method_8_code 23 = .ok (.iadd, 1) := by decide +kernel
theorem d_D_behindEntry_24 : decode prog_4_method_8_code 24 = .ok (.invokevirtual 57, 3) := by decide +kernel
theorem d_D_behindEntry_27 : decode prog_4_method_8_code 27 = .ok (.iadd, 1) := by decide +kernel
theorem d_D_behindEntry_28 : decode prog_4_method_8_code 28 = .ok (.aload_n 0, 1) := by decide +kernel
theorem d_D_behindEntry_29 : decode prog_4_method_8_code 29 = .ok (.getfield 9, 3) := by decide +kernel
theorem d_D_behindEntry_32 : decode prog_4_method_8_code 32 = .ok (.iload_n 1, 1) := by decide +kernel
theorem d_D_behindEntry_33 : decode prog_4_method_8_code 33 = .ok (.bipush 32, 2) := by decide +kernel
theorem d_D_behindEntry_35 : decode prog_4_method_8_code 35 = .ok (.iadd, 1) := by decide +kernel
theorem d_D_behindEntry_36 : decode prog_4_method_8_code 36 = .ok (.invokevirtual 57, 3) := by decide +kernel
theorem d_D_behindEntry_39 : decode prog_4_method_8_code 39 = .ok (.iadd, 1) := by decide +kernel
theorem d_D_behindEntry_40 : decode prog_4_method_8_code 40 = .ok (.ireturn, 1) := by decide +kernel
theorem d_D_checkEnd_0 : decode prog_4_method_6_code 0 = .ok (.aload_n 0, 1) := by decide +kernel
theorem d_D_checkEnd_1 : decode prog_4_method_6_code 1 = .ok (.getfield 9, 3) := by decide +kernel
theorem d_D_checkEnd_4 : decode prog_4_method_6_code 4 = .ok (.iload_n 1, 1) := by decide +kernel
theorem d_D_checkEnd_5 : decode prog_4_method_6_code 5 = .ok (.iconst 4, 1) := by decide +kernel
theorem d_D_checkEnd_6 : decode prog_4_method_6_code 6 = .ok (.iadd, 1) := by decide +kernel
theorem d_D_checkEnd_7 : decode prog_4_method_6_code 7 = .ok (.invokevirtual 60, 3) := by decide +kernel
theorem d_D_checkEnd_10 : decode prog_4_method_6_code 10 = .ok (.lconst 0, 1) := by decide +kernel
theorem d_D_checkEnd_11 : decode prog_4_method_6_code 11 = .ok (.lcmp, 1) := by decide +kernel
theorem d_D_checkEnd_12 : decode prog_4_method_6_code 12 = .ok (.ifCond .eq 13, 3) := by decide +kernel
theorem d_D_checkEnd_15 : decode prog_4_method_6_code 15 = .ok (.aload_n 0, 1) := by decide +kernel
theorem d_D_checkEnd_16 : decode prog_4_method_6_code 16 = .ok (.bipush (-2), 2) := by decide +kernel
theorem d_D_checkEnd_18 : decode prog_4_method_6_code 18 = .ok (.iload_n 1, 1) := by decide +kernel
theorem d_D_checkEnd_19 : decode prog_4_method_6_code 19 = .ok (.iconst 4, 1) := by decide +kernel
theorem d_D_checkEnd_20 : decode prog_4_method_6_code 20 = .ok (.iadd, 1) := by decide +kernel
theorem d_D_checkEnd_21 : decode prog_4_method_6_code 21 = .ok (.invokevirtual 42, 3) := by decide +kernel
theorem d_D_checkEnd_24 : decode prog_4_method_6_code 24 = .ok (.ireturn, 1) := by decide +kernel
theorem d_D_checkEnd_25 : decode prog_4_method_6_code 25 = .ok (.aload_n 0, 1) := by decide +kernel
theorem d_D_checkEnd_26 : decode prog_4_method_6_code 26 = .ok (.getfield 9, 3) := by decide +kernel
theorem d_D_checkEnd_29 : decode prog_4_method_6_code 29 = .ok (.iload_n 1, 1) := by decide +kernel
theorem d_D_checkEnd_30 : decode prog_4_method_6_code 30 = .ok (.bipush 8, 2) := by decide +kernel
theorem d_D_checkEnd_32 : decode prog_4_method_6_code 32 = .ok (.iadd, 1) := by decide +kernel
theorem d_D_checkEnd_33 : decode prog_4_method_6_code 33 = .ok (.invokevirtual 57, 3) := by decide +kernel
theorem d_D_checkEnd_36 : decode prog_4_method_6_code 36 = .ok (.aload_n 0, 1) := by decide +kernel
theorem d_D_checkEnd_37 : decode prog_4_method_6_code 37 = .ok (.getfield 9, 3) := by decide +kernel
theorem d_D_checkEnd_40 : decode prog_4_method_6_code 40 = .ok (.iload_n 1, 1) := by decide +kernel
theorem d_D_checkEnd_41 : decode prog_4_method_6_code 41 = .ok (.bipush 10, 2) := by decide +kernel
theorem d_D_checkEnd_43 : decode prog_4_method_6_code 43 = .ok (.iadd, 1) := by decide +kernel
theorem d_D_checkEnd_44 : decode prog_4_method_6_code 44 = .ok (.invokevirtual 57, 3) := by decide +kernel
theorem d_D_checkEnd_47 : decode prog_4_method_6_code 47 = .ok (.if_icmp .eq 14, 3) := by decide +kernel
theorem d_D_checkEnd_50 : decode prog_4_method_6_code 50 = .ok (.aload_n 0, 1) := by decide +kernel
theorem d_D_checkEnd_51 : decode prog_4_method_6_code 51 = .ok (.bipush (-2), 2) := by decide +kernel
theorem d_D_checkEnd_53 : decode prog_4_method_6_code 53 = .ok (.iload_n 1, 1) := by decide +kernel
theorem d_D_checkEnd_54 : decode prog_4_method_6_code 54 = .ok (.bipush 8, 2) := by decide +kernel
theorem d_D_checkEnd_56 : decode prog_4_method_6_code 56 = .ok (.iadd, 1) := by decide +kernel
theorem d_D_checkEnd_57 : decode prog_4_method_6_code 57 = .ok (.invokevirtual 42, 3) := by decide +kernel
theorem d_D_checkEnd_60 : decode prog_4_method_6_code 60 = .ok (.ireturn, 1) := by decide +kernel
theorem d_D_checkEnd_61 : decode prog_4_method_6_code 61 = .ok (.aload_n 0, 1) := by decide +kernel
theorem d_D_checkEnd_62 : decode prog_4_method_6_code 62 = .ok (.getfield 9, 3) := by decide +kernel
theorem d_D_checkEnd_65 : decode prog_4_method_6_code 65 = .ok (.iload_n 1, 1) := by decide +kernel
theorem d_D_checkEnd_66 : decode prog_4_method_6_code 66 = .ok (.bipush 12, 2) := by decide +kernel
theorem d_D_checkEnd_68 : decode prog_4_method_6_code 68 = .ok (.iadd, 1) := by decide +kernel
theorem d_D_checkEnd_69 : decode prog_4_method_6_code 69 = .ok (.invokevirtual 60, 3) := by decide +kernel
theorem d_D_checkEnd_72 : decode prog_4_method_6_code 72 = .ok (.aload_n 0, 1) := by decide +kernel
theorem d_D_checkEnd_73 : decode prog_4_method_6_code 73 = .ok (.getfield 9, 3) := by decide +kernel
theorem d_D_checkEnd_76 : decode prog_4_method_6_code 76 = .ok (.iload_n 1, 1) := by decide +kernel
theorem d_D_checkEnd_77 : decode prog_4_method_6_code 77 = .ok (.bipush 16, 2) := by decide +kernel
theorem d_D_checkEnd_79 : decode prog_4_method_6_code 79 = .ok (.iadd, 1) := by decide +kernel
theorem d_D_checkEnd_80 : decode prog_4_method_6_code 80 = .ok (.invokevirtual 60, 3) := by decide +kernel
theorem d_D_checkEnd_83 : decode prog_4_method_6_code 83 = .ok (.ladd, 1) := by decide +kernel
theorem d_D_checkEnd_84 : decode prog_4_method_6_code 84 = .ok (.iload_n 1, 1) := by decide +kernel
theorem d_D_checkEnd_85 : decode prog_4_method_6_code 85 = .ok (.i2l, 1) := by decide +kernel
theorem d_D_checkEnd_86 : decode prog_4_method_6_code 86 = .ok (.lcmp, 1) := by decide +kernel
theorem d_D_checkEnd_87 : decode prog_4_method_6_code 87 = .ok (.ifCond .eq 14, 3) := by decide +kernel
theorem d_D_checkEnd_90 : decode prog_4_method_6_code 90 = .ok (.aload_n 0, 1) := by decide +kernel
theorem d_D_checkEnd_91 : decode prog_4_method_6_code 91 = .ok (.bipush (-3), 2) := by decide +kernel
theorem d_D_checkEnd_93 : decode prog_4_method_6_code 93 = .ok (.iload_n 1, 1) := by decide +kernel
theorem d_D_checkEnd_94 : decode prog_4_method_6_code 94 = .ok (.bipush 12, 2) := by decide +kernel
theorem d_D_checkEnd_96 : decode prog_4_method_6_code 96 = .ok (.iadd, 1) := by decide +kernel
theorem d_D_checkEnd_97 : decode prog_4_method_6_code 97 = .ok (.invokevirtual 42, 3) := by decide +kernel
theorem d_D_checkEnd_100 : decode prog_4_method_6_code 100 = .ok (.ireturn, 1) := by decide +kernel
theorem d_D_checkEnd_101 : decode prog_4_method_6_code 101 = .ok (.aload_n 0, 1) := by decide +kernel
theorem d_D_checkEnd_102 : decode prog_4_method_6_code 102 = .ok (.getfield 9, 3) := by decide +kernel
theorem d_D_checkEnd_105 : decode prog_4_method_6_code 105 = .ok (.iload_n 1, 1) := by decide +kernel
theorem d_D_checkEnd_106 : decode prog_4_method_6_code 106 = .ok (.bipush 10, 2) := by decide +kernel
theorem d_D_checkEnd_108 : decode prog_4_method_6_code 108 = .ok (.iadd, 1) := by decide +kernel
theorem d_D_checkEnd_109 : decode prog_4_method_6_code 109 = .ok (.invokevirtual 57, 3) := by decide +kernel
theorem d_D_checkEnd_112 : decode prog_4_method_6_code 112 = .ok (.bipush 64, 2) := by decide +kernel
theorem d_D_checkEnd_114 : decode prog_4_method_6_code 114 = .ok (.if_icmp .le 14, 3) := by decide +kernel
theorem d_D_checkEnd_117 : decode prog_4_method_6_code 117 = .ok (.aload_n 0, 1) := by decide +kernel
theorem d_D_checkEnd_118 : decode prog_4_method_6_code 118 = .ok (.bipush (-4), 2) := by decide +kernel
theorem d_D_checkEnd_120 : decode prog_4_method_6_code 120 = .ok (.iload_n 1, 1) := by decide +kernel
theorem d_D_checkEnd_121 : decode prog_4_method_6_code 121 = .ok (.bipush 10, 2) := by decide +kernel
theorem d_D_checkEnd_123 : decode prog_4_method_6_code 123 = .ok (.iadd, 1) := by decide +kernel
theorem d_D_checkEnd_124 : decode prog_4_method_6_code 124 = .ok (.invokevirtual 42, 3) := by decide +kernel
theorem d_D_checkEnd_127 : decode prog_4_method_6_code 127 = .ok (.ireturn, 1) := by decide +kernel
theorem d_D_checkEnd_128 : decode prog_4_method_6_code 128 = .ok (.iconst 0, 1) := by decide +kernel
theorem d_D_checkEnd_129 : decode prog_4_method_6_code 129 = .ok (.ireturn, 1) := by decide +kernel
theorem d_D_checkNumbers_0 : decode prog_4_method_10_code 0 = .ok (.aload_n 0, 1) := by decide +kernel
theorem d_D_checkNumbers_1 : decode prog_4_method_10_code 1 = .ok (.getfield 9, 3) := by decide +kernel
theorem d_D_checkNumbers_4 : decode prog_4_method_10_code 4 = .ok (.iload_n 1, 1) := by decide +kernel
theorem d_D_checkNumbers_5 : decode prog_4_method_10_code 5 = .ok (.bipush 6, 2) := by decide +kernel
theorem d_D_checkNumbers_7 : decode prog_4_method_10_code 7 = .ok (.iadd, 1) := by decide +kernel
theorem d_D_checkNumbers_8 : decode prog_4_method_10_code 8 = .ok (.invokevirtual 57, 3) := by decide +kernel
theorem d_D_checkNumbers_11 : decode prog_4_method_10_code 11 = .ok (.bipush 20, 2) := by decide +kernel
theorem d_D_checkNumbers_13 : decode prog_4_method_10_code 13 = .ok (.if_icmp .le 14, 3) := by decide +kernel
theorem d_D_checkNumbers_16 : decode prog_4_method_10_code 16 = .ok (.aload_n 0, 1) := by decide +kernel
theorem d_D_checkNumbers_17 : decode prog_4_method_10_code 17 = .ok (.bipush (-6), 2) := by decide +kernel
theorem d_D_checkNumbers_19 : decode prog_4_method_10_code 19 = .ok (.iload_n 1, 1) := by decide +kernel
theorem d_D_checkNumbers_20 : decode prog_4_method_10_code 20 = .ok (.bipush 6, 2) := by decide +kernel
theorem d_D_checkNumbers_22 : decode prog_4_method_10_code 22 = .ok (.iadd, 1) := by decide +kernel
theorem d_D_checkNumbers_23 : decode prog_4_method_10_code 23 = .ok (.invokevirtual 42, 3) := by decide +kernel
theorem d_D_checkNumbers_26 : decode prog_4_method_10_code 26 = .ok (.ireturn, 1) := by decide +kernel
theorem d_D_checkNumbers_27 : decode prog_4_method_10_code 27 = .ok (.aload_n 0, 1) := by decide +kernel
theorem d_D_checkNumbers_28 : decode prog_4_method_10_code 28 = .ok (.getfield 9, 3) := by decide +kernel
theorem d_D_checkNumbers_31 : decode prog_4_method_10_code 31 = .ok (.iload_n 1, 1) := by decide +kernel
theorem d_D_checkNumbers_32 : decode prog_4_method_10_code 32 = .ok (.bipush 8, 2) := by decide +kernel
theorem d_D_checkNumbers_34 : decode prog_4_method_10_code 34 = .ok (.iadd, 1) := by decide +kernel
theorem d_D_checkNumbers_35 : decode prog_4_method_10_code 35 = .ok (.invokevirtual 57, 3) := by decide +kernel
theorem d_D_checkNumbers_38 : decode prog_4_method_10_code 38 = .ok (.sipush (-2055), 3) := by decide +kernel
theorem d_D_checkNumbers_41 : decode prog_4_method_10_code 41 = .ok (.iand, 1) := by decide +kernel
theorem d_D_checkNumbers_42 : decode prog_4_method_10_code 42 = .ok (.ifCond .eq 14, 3) := by decide +kernel
theorem d_D_checkNumbers_45 : decode prog_4_method_10_code 45 = .ok (.aload_n 0, 1) := by decide +kernel
theorem d_D_checkNumbers_46 : decode prog_4_method_10_code 46 = .ok (.bipush (-6), 2) := by decide +kernel
theorem d_D_checkNumbers_48 : decode prog_4_method_10_code 48 = .ok (.iload_n 1, 1) := by decide +kernel
theorem d_D_checkNumbers_49 : decode prog_4_method_10_code 49 = .ok (.bipush 8, 2) := by decide +kernel
theorem d_D_checkNumbers_51 : decode prog_4_method_10_code 51 = .ok (.iadd, 1) := by decide +kernel
theorem d_D_checkNumbers_52 : decode prog_4_method_10_code 52 = .ok (.invokevirtual 42, 3) := by decide +kernel
theorem d_D_checkNumbers_55 : decode prog_4_method_10_code 55 = .ok (.ireturn, 1) := by decide +kernel
theorem d_D_checkNumbers_56 : decode prog_4_method_10_code 56 = .ok (.aload_n 0, 1) := by decide +kernel
theorem d_D_checkNumbers_57 : decode prog_4_method_10_code 57 = .ok (.getfield 9, 3) := by decide +kernel
theorem d_D_checkNumbers_60 : decode prog_4_method_10_code 60 = .ok (.iload_n 1, 1) := by decide +kernel
theorem d_D_checkNumbers_61 : decode prog_4_method_10_code 61 = .ok (.bipush 10, 2) := by decide +kernel
theorem d_D_checkNumbers_63 : decode prog_4_method_10_code 63 = .ok (.iadd, 1) := by decide +kernel
theorem d_D_checkNumbers_64 : decode prog_4_method_10_code 64 = .ok (.invokevirtual 57, 3) := by decide +kernel
theorem d_D_checkNumbers_67 : decode prog_4_method_10_code 67 = .ok (.istore_n 2, 1) := by decide +kernel
theorem d_D_checkNumbers_68 : decode prog_4_method_10_code 68 = .ok (.iload_n 2, 1) := by decide +kernel
theorem d_D_checkNumbers_69 : decode prog_4_method_10_code 69 = .ok (.ifCond .eq 20, 3) := by decide +kernel
theorem d_D_checkNumbers_72 : decode prog_4_method_10_code 72 = .ok (.iload_n 2, 1) := by decide +kernel
theorem d_D_checkNumbers_73 : decode prog_4_method_10_code 73 = .ok (.bipush 8, 2) := by decide +kernel
theorem d_D_checkNumbers_75 : decode prog_4_method_10_code 75 = .ok (.if_icmp .eq 14, 3) := by decide +kernel
theorem d_D_checkNumbers_78 : decode prog_4_method_10_code 78 = .ok (.aload_n 0, 1) := by decide +kernel
theorem d_D_checkNumbers_79 : decode prog_4_method_10_code 79 = .ok (.bipush (-6), 2) := by decide +kernel
theorem d_D_checkNumbers_81 : decode prog_4_method_10_code 81 = .ok (.iload_n 1, 1) := by decide +kernel
theorem d_D_checkNumbers_82 : decode prog_4_method_10_code 82 = .ok (.bipush 10, 2) := by decide +kernel
theorem d_D_checkNumbers_84 : decode prog_4_method_10_code 84 = .ok (.iadd, 1) := by decide +kernel
theorem d_D_checkNumbers_85 : decode prog_4_method_10_code 85 = .ok (.invokevirtual 42, 3) := by decide +kernel
theorem d_D_checkNumbers_88 : decode prog_4_method_10_code 88 = .ok (.ireturn, 1) := by decide +kernel
theorem d_D_checkNumbers_89 : decode prog_4_method_10_code 89 = .ok (.aload_n 0, 1) := by decide +kernel
theorem d_D_checkNumbers_90 : decode prog_4_method_10_code 90 = .ok (.getfield 9, 3) := by decide +kernel
theorem d_D_checkNumbers_93 : decode prog_4_method_10_code 93 = .ok (.iload_n 1, 1) := by decide +kernel
theorem d_D_checkNumbers_94 : decode prog_4_method_10_code 94 = .ok (.bipush 34, 2) := by decide +kernel
theorem d_D_checkNumbers_96 : decode prog_4_method_10_code 96 = .ok (.iadd, 1) := by decide +kernel
theorem d_D_checkNumbers_97 : decode prog_4_method_10_code 97 = .ok (.invokevirtual 57, 3) := by decide +kernel
theorem d_D_checkNumbers_100 : decode prog_4_method_10_code 100 = .ok (.ifCond .eq 14, 3) := by decide +kernel
theorem d_D_checkNumbers_103 : decode prog_4_method_10_code 103 = .ok (.aload_n 0, 1) := by decide +kernel
theorem d_D_checkNumbers_104 : decode prog_4_method_10_code 104 = .ok (.bipush (-6), 2) := by decide +kernel
theorem d_D_checkNumbers_106 : decode prog_4_method_10_code 106 = .ok (.iload_n 1, 1) := by decide +kernel
theorem d_D_checkNumbers_107 : decode prog_4_method_10_code 107 = .ok (.bipush 34, 2) := by decide +kernel
theorem d_D_checkNumbers_109 : decode prog_4_method_10_code 109 = .ok (.iadd, 1) := by decide +kernel
theorem d_D_checkNumbers_110 : decode prog_4_method_10_code 110 = .ok (.invokevirtual 42, 3) := by decide +kernel
theorem d_D_checkNumbers_113 : decode prog_4_method_10_code 113 = .ok (.ireturn, 1) := by decide +kernel
theorem d_D_checkNumbers_114 : decode prog_4_method_10_code 114 = .ok (.aload_n 0, 1) := by decide +kernel
theorem d_D_checkNumbers_115 : decode prog_4_method_10_code 115 = .ok (.iload_n 1, 1) := by decide +kernel
theorem d_D_checkNumbers_116 : decode prog_4_method_10_code 116 = .ok (.iload_n 2, 1) := by decide +kernel
theorem d_D_checkNumbers_117 : decode prog_4_method_10_code 117 = .ok (.invokevirtual 79, 3) := by decide +kernel
theorem d_D_checkNumbers_120 : decode prog_4_method_10_code 120 = .ok (.ifCond .eq 7, 3) := by decide +kernel
theorem d_D_checkNumbers_123 : decode prog_4_method_10_code 123 = .ok (.iconst 0, 1) := by decide +kernel
theorem d_D_checkNumbers_124 : decode prog_4_method_10_code 124 = .ok (.goto 13, 3) := by decide +kernel
theorem d_D_checkNumbers_127 : decode prog_4_method_10_code 127 = .ok (.aload_n 0, 1) := by decide +kernel
theorem d_D_checkNumbers_128 : decode prog_4_method_10_code 128 = .ok (.bipush (-6), 2) := by decide +kernel
theorem d_D_checkNumbers_130 : decode prog_4_method_10_code 130 = .ok (.iload_n 1, 1) := by decide +kernel
theorem d_D_checkNumbers_131 : decode prog_4_method_10_code 131 = .ok (.bipush 20, 2) := by decide +kernel
theorem d_D_checkNumbers_133 : decode prog_4_method_10_code 133 = .ok (.iadd, 1) := by decide +kernel
theorem d_D_checkNumbers_134 : decode prog_4_method_10_code 134 = .ok (.invokevirtual 42, 3) := by decide +kernel
theorem d_D_checkNumbers_137 : decode prog_4_method_10_code 137 = .ok (.ireturn, 1) := by decide +kernel
theorem d_D_checkSpan_0 : decode prog_4_method_9_code 0 = .ok (.iload_n 1, 1) := by decide +kernel
theorem d_D_checkSpan_1 : decode prog_4_method_9_code 1 = .ok (.bipush 46, 2) := by decide +kernel
theorem d_D_checkSpan_3 : decode prog_4_method_9_code 3 = .ok (.iadd, 1) := by decide +kernel
theorem d_D_checkSpan_4 : decode prog_4_method_9_code 4 = .ok (.iload_n 2, 1) := by decide +kernel
theorem d_D_checkSpan_5 : decode prog_4_method_9_code 5 = .ok (.if_icmp .gt 29, 3) := by decide +kernel
theorem d_D_checkSpan_8 : decode prog_4_method_9_code 8 = .ok (.aload_n 0, 1) := by decide +kernel
theorem d_D_checkSpan_9 : decode prog_4_method_9_code 9 = .ok (.getfield 9, 3) := by decide +kernel
theorem d_D_checkSpan_12 : decode prog_4_method_9_code 12 = .ok (.iload_n 1, 1) := by decide +kernel
theorem d_D_checkSpan_13 : decode prog_4_method_9_code 13 = .ok (.iconst 1, 1) := by decide +kernel
theorem d_D_checkSpan_14 : decode prog_4_method_9_code 14 = .ok (.iconst 2, 1) := by decide +kernel
theorem d_D_checkSpan_15 : decode prog_4_method_9_code 15 = .ok (.invokevirtual 53, 3) := by decide +kernel
theorem d_D_checkSpan_18 : decode prog_4_method_9_code 18 = .ok (.ifCond .eq 16, 3) := by decide +kernel
theorem d_D_checkSpan_21 : decode prog_4_method_9_code 21 = .ok (.aload_n 0, 1) := by decide +kernel
theorem d_D_checkSpan_22 : decode prog_4_method_9_code 22 = .ok (.iload_n 1, 1) := by decide +kernel
theorem d_D_checkSpan_23 : decode prog_4_method_9_code 23 = .ok (.invokevirtual 76, 3) := by decide +kernel
theorem d_D_checkSpan_26 : decode prog_4_method_9_code 26 = .ok (.iload_n 2, 1) := by decide +kernel
theorem d_D_checkSpan_27 : decode prog_4_method_9_code 27 = .ok (.if_icmp .gt 7, 3) := by decide +kernel
theorem d_D_checkSpan_30 : decode prog_4_method_9_code 30 = .ok (.iconst 1, 1) := by decide +kernel
theorem d_D_checkSpan_31 : decode prog_4_method_9_code 31 = .ok (.goto 4, 3) := by decide +kernel
theorem d_D_checkSpan_34 : decode prog_4_method_9_code 34 = .ok (.iconst 0, 1) := by decide +kernel
theorem d_D_checkSpan_35 : decode prog_4_method_9_code 35 = .ok (.istore_n 3, 1) := by decide +kernel
theorem d_D_checkSpan_36 : decode prog_4_method_9_code 36 = .ok (.iload_n 3, 1) := by decide +kernel
theorem d_D_checkSpan_37 : decode prog_4_method_9_code 37 = .ok (.ifCond .eq 7, 3) := by decide +kernel
theorem d_D_checkSpan_40 : decode prog_4_method_9_code 40 = .ok (.iconst 0, 1) := by decide +kernel
theorem d_D_checkSpan_41 : decode prog_4_method_9_code 41 = .ok (.goto 10, 3) := by decide +kernel
theorem d_D_checkSpan_44 : decode prog_4_method_9_code 44 = .ok (.aload_n 0, 1) := by decide +kernel
theorem d_D_checkSpan_45 : decode prog_4_method_9_code 45 = .ok (.bipush (-5), 2) := by decide +kernel
theorem d_D_checkSpan_47 : decode prog_4_method_9_code 47 = .ok (.iload_n 1, 1) := by decide +kernel
theorem d_D_checkSpan_48 : decode prog_4_method_9_code 48 = .ok (.invokevirtual 42, 3) := by decide +kernel
theorem d_D_checkSpan_51 : decode prog_4_method_9_code 51 = .ok (.ireturn, 1) := by decide +kernel
theorem d_D_faultAt_0 : decode prog_4_method_4_code 0 = .ok (.aload_n 0, 1) := by decide +kernel
theorem d_D_faultAt_1 : decode prog_4_method_4_code 1 = .ok (.iload_n 2, 1) := by decide +kernel
theorem d_D_faultAt_2 : decode prog_4_method_4_code 2 = .ok (.putfield 30, 3) := by decide +kernel
theorem d_D_faultAt_5 : decode prog_4_method_4_code 5 = .ok (.iload_n 1, 1) := by decide +kernel
theorem d_D_faultAt_6 : decode prog_4_method_4_code 6 = .ok (.ireturn, 1) := by decide +kernel
theorem d_D_findEnd_0 : decode prog_4_method_5_code 0 = .ok (.aload_n 0, 1) := by decide +kernel
theorem d_D_findEnd_1 : decode prog_4_method_5_code 1 = .ok (.getfield 9, 3) := by decide +kernel
theorem d_D_findEnd_4 : decode prog_4_method_5_code 4 = .ok (.getfield 37, 3) := by decide +kernel
theorem d_D_findEnd_7 : decode prog_4_method_5_code 7 = .ok (.bipush 22, 2) := by decide +kernel
theorem d_D_findEnd_9 : decode prog_4_method_5_code 9 = .ok (.isub, 1) := by decide +kernel
theorem d_D_findEnd_10 : decode prog_4_method_5_code 10 = .ok (.istore_n 1, 1) := by decide +kernel
theorem d_D_findEnd_11 : decode prog_4_method_5_code 11 = .ok (.iload_n 1, 1) := by decide +kernel
theorem d_D_findEnd_12 : decode prog_4_method_5_code 12 = .ok (.ifCond .lt 51, 3) := by decide +kernel
theorem d_D_findEnd_15 : decode prog_4_method_5_code 15 = .ok (.aload_n 0, 1) := by decide +kernel
theorem d_D_findEnd_16 : decode prog_4_method_5_code 16 = .ok (.getfield 9, 3) := by decide +kernel
theorem d_D_findEnd_19 : decode prog_4_method_5_code 19 = .ok (.iload_n 1, 1) := by decide +kernel
theorem d_D_findEnd_20 : decode prog_4_method_5_code 20 = .ok (.iconst 5, 1) := by decide +kernel
theorem d_D_findEnd_21 : decode prog_4_method_5_code 21 = .ok (.bipush 6, 2) := by decide +kernel
theorem d_D_findEnd_23 : decode prog_4_method_5_code 23 = .ok (.invokevirtual 53, 3) := by decide +kernel
theorem d_D_findEnd_26 : decode prog_4_method_5_code 26 = .ok (.ifCond .eq 31, 3) := by decide +kernel
theorem d_D_findEnd_29 : decode prog_4_method_5_code 29 = .ok (.iload_n 1, 1) := by decide +kernel
theorem d_D_findEnd_30 : decode prog_4_method_5_code 30 = .ok (.bipush 22, 2) := by decide +kernel
theorem d_D_findEnd_32 : decode prog_4_method_5_code 32 = .ok (.iadd, 1) := by decide +kernel
theorem d_D_findEnd_33 : decode prog_4_method_5_code 33 = .ok (.aload_n 0, 1) := by decide +kernel
theorem d_D_findEnd_34 : decode prog_4_method_5_code 34 = .ok (.getfield 9, 3) := by decide +kernel
theorem d_D_findEnd_37 : decode prog_4_method_5_code 37 = .ok (.iload_n 1, 1) := by decide +kernel
theorem d_D_findEnd_38 : decode prog_4_method_5_code 38 = .ok (.bipush 20, 2) := by decide +kernel
theorem d_D_findEnd_40 : decode prog_4_method_5_code 40 = .ok (.iadd, 1) := by decide +kernel
theorem d_D_findEnd_41 : decode prog_4_method_5_code 41 = .ok (.invokevirtual 57, 3) := by decide +kernel
theorem d_D_findEnd_44 : decode prog_4_method_5_code 44 = .ok (.iadd, 1) := by decide +kernel
theorem d_D_findEnd_45 : decode prog_4_method_5_code 45 = .ok (.aload_n 0, 1) := by decide +kernel
theorem d_D_findEnd_46 : decode prog_4_method_5_code 46 = .ok (.getfield 9, 3) := by decide +kernel
theorem d_D_findEnd_49 : decode prog_4_method_5_code 49 = .ok (.getfield 37, 3) := by decide +kernel
theorem d_D_findEnd_52 : decode prog_4_method_5_code 52 = .ok (.if_icmp .ne 5, 3) := by decide +kernel
theorem d_D_findEnd_55 : decode prog_4_method_5_code 55 = .ok (.iload_n 1, 1) := by decide +kernel
theorem d_D_findEnd_56 : decode prog_4_method_5_code 56 = .ok (.ireturn, 1) := by decide +kernel
theorem d_D_findEnd_57 : decode prog_4_method_5_code 57 = .ok (.iinc 1 (-1), 3) := by decide +kernel
theorem d_D_findEnd_60 : decode prog_4_method_5_code 60 = .ok (.goto (-49), 3) := by decide +kernel
theorem d_D_findEnd_63 : decode prog_4_method_5_code 63 = .ok (.iconst (-1), 1) := by decide +kernel
theorem d_D_findEnd_64 : decode prog_4_method_5_code 64 = .ok (.ireturn, 1) := by decide +kernel
theorem d_D_hasRightSizes_0 : decode prog_4_method_11_code 0 = .ok (.aload_n 0, 1) := by decide +kernel
theorem d_D_hasRightSizes_1 : decode prog_4_method_11_code 1 = .ok (.getfield 9, 3) := by decide +kernel
theorem d_D_hasRightSizes_4 : decode prog_4_method_11_code 4 = .ok (.iload_n 1, 1) := by decide +kernel
theorem d_D_hasRightSizes_5 : decode prog_4_method_11_code 5 = .ok (.bipush 20, 2) := by decide +kernel
theorem d_D_hasRightSizes_7 : decode prog_4_method_11_code 7 = .ok (.iadd, 1) := by decide +kernel
theorem d_D_hasRightSizes_8 : decode prog_4_method_11_code 8 = .ok (.invokevirtual 60, 3) := by decide +kernel
theorem d_D_hasRightSizes_11 : decode prog_4_method_11_code 11 = .ok (.lstore_n 3, 1) := by decide +kernel
theorem d_D_hasRightSizes_12 : decode prog_4_method_11_code 12 = .ok (.aload_n 0, 1) := by decide +kernel
theorem d_D_hasRightSizes_13 : decode prog_4_method_11_code 13 = .ok (.getfield 9, 3) := by decide +kernel
theorem d_D_hasRightSizes_16 : decode prog_4_method_11_code 16 = .ok (.iload_n 1, 1) := by decide +kernel
theorem d_D_hasRightSizes_17 : decode prog_4_method_11_code 17 = .ok (.bipush 24, 2) := by decide +kernel
theorem d_D_hasRightSizes_19 : decode prog_4_method_11_code 19 = .ok (.iadd, 1) := by decide +kernel
theorem d_D_hasRightSizes_20 : decode prog_4_method_11_code 20 = .ok (.invokevirtual 60, 3) := by decide +kernel
theorem d_D_hasRightSizes_23 : decode prog_4_method_11_code 23 = .ok (.lstore 5, 2) := by decide +kernel
theorem d_D_hasRightSizes_25 : decode prog_4_method_11_code 25 = .ok (.iload_n 2, 1) := by decide +kernel
theorem d_D_hasRightSizes_26 : decode prog_4_method_11_code 26 = .ok (.ifCond .ne 12, 3) := by decide +kernel
theorem d_D_hasRightSizes_29 : decode prog_4_method_11_code 29 = .ok (.lload_n 3, 1) := by decide +kernel
theorem d_D_hasRightSizes_30 : decode prog_4_method_11_code 30 = .ok (.lload 5, 2) := by decide +kernel
theorem d_D_hasRightSizes_32 : decode prog_4_method_11_code 32 = .ok (.lcmp, 1) := by decide +kernel
theorem d_D_hasRightSizes_33 : decode prog_4_method_11_code 33 = .ok (.ifCond .eq 5, 3) := by decide +kernel
theorem d_D_hasRightSizes_36 : decode prog_4_method_11_code 36 = .ok (.iconst 0, 1) := by decide +kernel
theorem d_D_hasRightSizes_37 : decode prog_4_method_11_code 37 = .ok (.ireturn, 1) := by decide +kernel
theorem d_D_hasRightSizes_38 : decode prog_4_method_11_code 38 = .ok (.aload_n 0, 1) := by decide +kernel
theorem d_D_hasRightSizes_39 : decode prog_4_method_11_code 39 = .ok (.getfield 9, 3) := by decide +kernel
theorem d_D_hasRightSizes_42 : decode prog_4_method_11_code 42 = .ok (.iload_n 1, 1) := by decide +kernel
theorem d_D_hasRightSizes_43 : decode prog_4_method_11_code 43 = .ok (.bipush 28, 2) := by decide +kernel
theorem d_D_hasRightSizes_45 : decode prog_4_method_11_code 45 = .ok (.iadd, 1) := by decide +kernel
theorem d_D_hasRightSizes_46 : decode prog_4_method_11_code 46 = .ok (.invokevirtual 57, 3) := by decide +kernel
theorem d_D_hasRightSizes_49 : decode prog_4_method_11_code 49 = .ok (.istore 7, 2) := by decide +kernel
theorem d_D_hasRightSizes_51 : decode prog_4_method_11_code 51 = .ok (.iload 7, 2) := by decide +kernel
theorem d_D_hasRightSizes_53 : decode prog_4_method_11_code 53 = .ok (.ifCond .le 28, 3) := by decide +kernel
theorem d_D_hasRightSizes_56 : decode prog_4_method_11_code 56 = .ok (.aload_n 0, 1) := by decide +kernel
theorem d_D_hasRightSizes_57 : decode prog_4_method_11_code 57 = .ok (.getfield 9, 3) := by decide +kernel
theorem d_D_hasRightSizes_60 : decode prog_4_method_11_code 60 = .ok (.iload_n 1, 1) := by decide +kernel
theorem d_D_hasRightSizes_61 : decode prog_4_method_11_code 61 = .ok (.bipush 46, 2) := by decide +kernel
theorem d_D_hasRightSizes_63 : decode prog_4_method_11_code 63 = .ok (.iadd, 1) := by decide +kernel
theorem d_D_hasRightSizes_64 : decode prog_4_method_11_code 64 = .ok (.iload 7, 2) := by decide +kernel
theorem d_D_hasRightSizes_66 : decode prog_4_method_11_code 66 = .ok (.iadd, 1) := by decide +kernel
theorem d_D_hasRightSizes_67 : decode prog_4_method_11_code 67 = .ok (.iconst 1, 1) := by decide +kernel
theorem d_D_hasRightSizes_68 : decode prog_4_method_11_code 68 = .ok (.isub, 1) := by decide +kernel
theorem d_D_hasRightSizes_69 : decode prog_4_method_11_code 69 = .ok (.invokevirtual 83, 3) := by decide +kernel
theorem d_D_hasRightSizes_72 : decode prog_4_method_11_code 72 = .ok (.bipush 47, 2) := by decide +kernel
theorem d_D_hasRightSizes_74 : decode prog_4_method_11_code 74 = .ok (.if_icmp .ne 7, 3) := by decide +kernel
theorem d_D_hasRightSizes_77 : decode prog_4_method_11_code 77 = .ok (.iconst 1, 1) := by decide +kernel
theorem d_D_hasRightSizes_78 : decode prog_4_method_11_code 78 = .ok (.goto 4, 3) := by decide +kernel
theorem d_D_hasRightSizes_81 : decode prog_4_method_11_code 81 = .ok (.iconst 0, 1) := by decide +kernel
theorem d_D_hasRightSizes_82 : decode prog_4_method_11_code 82 = .ok (.istore 8, 2) := by decide +kernel
theorem d_D_hasRightSizes_84 : decode prog_4_method_11_code 84 = .ok (.iload 8, 2) := by decide +kernel
theorem d_D_hasRightSizes_86 : decode prog_4_method_11_code 86 = .ok (.ifCond .eq 20, 3) := by decide +kernel
theorem d_D_hasRightSizes_89 : decode prog_4_method_11_code 89 = .ok (.iload_n 2, 1) := by decide +kernel
theorem d_D_hasRightSizes_90 : decode prog_4_method_11_code 90 = .ok (.ifCond .ne 20, 3) := by decide +kernel
theorem d_D_hasRightSizes_93 : decode prog_4_method_11_code 93 = .ok (.lload_n 3, 1) := by decide +kernel
theorem d_D_hasRightSizes_94 : decode prog_4_method_11_code 94 = .ok (.lconst 0, 1) := by decide +kernel
theorem d_D_hasRightSizes_95 : decode prog_4_method_11_code 95 = .ok (.lcmp, 1) := by decide +kernel
theorem d_D_hasRightSizes_96 : decode prog_4_method_11_code 96 = .ok (.ifCond .ne 14, 3) := by decide +kernel
theorem d_D_hasRightSizes_99 : decode prog_4_method_11_code 99 = .ok (.lload 5, 2) := by decide +kernel
theorem d_D_hasRightSizes_101 : decode prog_4_method_11_code 101 = .ok (.lconst 0, 1) := by decide +kernel
theorem d_D_hasRightSizes_102 : decode prog_4_method_11_code 102 = .ok (.lcmp, 1) := by decide +kernel
theorem d_D_hasRightSizes_103 : decode prog_4_method_11_code 103 = .ok (.ifCond .ne 7, 3) := by decide +kernel
theorem d_D_hasRightSizes_106 : decode prog_4_method_11_code 106 = .ok (.iconst 1, 1) := by decide +kernel
theorem d_D_hasRightSizes_107 : decode prog_4_method_11_code 107 = .ok (.goto 4, 3) := by decide +kernel
theorem d_D_hasRightSizes_110 : decode prog_4_method_11_code 110 = .ok (.iconst 0, 1) := by decide +kernel
theorem d_D_hasRightSizes_111 : decode prog_4_method_11_code 111 = .ok (.ireturn, 1) := by decide +kernel
theorem d_D_isLocalOf_0 : decode prog_4_method_17_code 0 = .ok (.aload_n 0, 1) := by decide +kernel
theorem d_D_isLocalOf_1 : decode prog_4_method_17_code 1 = .ok (.getfield 9, 3) := by decide +kernel
theorem d_D_isLocalOf_4 : decode prog_4_method_17_code 4 = .ok (.iload_n 2, 1) := by decide +kernel
theorem d_D_isLocalOf_5 : decode prog_4_method_17_code 5 = .ok (.iconst 3, 1) := by decide +kernel
theorem d_D_isLocalOf_6 : decode prog_4_method_17_code 6 = .ok (.iconst 4, 1) := by decide +kernel
theorem d_D_isLocalOf_7 : decode prog_4_method_17_code 7 = .ok (.invokevirtual 53, 3) := by decide +kernel
theorem d_D_isLocalOf_10 : decode prog_4_method_17_code 10 = .ok (.ifCond .eq 75, 3) := by decide +kernel
theorem d_D_isLocalOf_13 : decode prog_4_method_17_code 13 = .ok (.aload_n 0, 1) := by decide +kernel
theorem d_D_isLocalOf_14 : decode prog_4_method_17_code 14 = .ok (.getfield 9, 3) := by decide +kernel
theorem d_D_isLocalOf_17 : decode prog_4_method_17_code 17 = .ok (.iload_n 2, 1) := by decide +kernel
theorem d_D_isLocalOf_18 : decode prog_4_method_17_code 18 = .ok (.iconst 4, 1) := by decide +kernel
theorem d_D_isLocalOf_19 : decode prog_4_method_17_code 19 = .ok (.iadd, 1) := by decide +kernel
theorem d_D_isLocalOf_20 : decode prog_4_method_17_code 20 = .ok (.iload_n 1, 1) := by decide +kernel
theorem d_D_isLocalOf_21 : decode prog_4_method_17_code 21 = .ok (.bipush 6, 2) := by decide +kernel
theorem d_D_isLocalOf_23 : decode prog_4_method_17_code 23 = .ok (.iadd, 1) := by decide +kernel
theorem d_D_isLocalOf_24 : decode prog_4_method_17_code 24 = .ok (.bipush 6, 2) := by decide +kernel
theorem d_D_isLocalOf_26 : decode prog_4_method_17_code 26 = .ok (.invokevirtual 122, 3) := by decide +kernel
theorem d_D_isLocalOf_29 : decode prog_4_method_17_code 29 = .ok (.ifCond .eq 56, 3) := by decide +kernel
theorem d_D_isLocalOf_32 : decode prog_4_method_17_code 32 = .ok (.aload_n 0, 1) := by decide +kernel
theorem d_D_isLocalOf_33 : decode prog_4_method_17_code 33 = .ok (.getfield 9, 3) := by decide +kernel
theorem d_D_isLocalOf_36 : decode prog_4_method_17_code 36 = .ok (.iload_n 2, 1) := by decide +kernel
theorem d_D_isLocalOf_37 : decode prog_4_method_17_code 37 = .ok (.bipush 14, 2) := by decide +kernel
theorem d_D_isLocalOf_39 : decode prog_4_method_17_code 39 = .ok (.iadd, 1) := by decide +kernel
theorem d_D_isLocalOf_40 : decode prog_4_method_17_code 40 = .ok (.iload_n 1, 1) := by decide +kernel
theorem d_D_isLocalOf_41 : decode prog_4_method_17_code 41 = .ok (.bipush 16, 2) := by decide +kernel
theorem d_D_isLocalOf_43 : decode prog_4_method_17_code 43 = .ok (.iadd, 1) := by decide +kernel
theorem d_D_isLocalOf_44 : decode prog_4_method_17_code 44 = .ok (.bipush 14, 2) := by decide +kernel
theorem d_D_isLocalOf_46 : decode prog_4_method_17_code 46 = .ok (.invokevirtual 122, 3) := by decide +kernel
theorem d_D_isLocalOf_49 : decode prog_4_method_17_code 49 = .ok (.ifCond .eq 36, 3) := by decide +kernel
theorem d_D_isLocalOf_52 : decode prog_4_method_17_code 52 = .ok (.aload_n 0, 1) := by decide +kernel
theorem d_D_isLocalOf_53 : decode prog_4_method_17_code 53 = .ok (.getfield 9, 3) := by decide +kernel
theorem d_D_isLocalOf_56 : decode prog_4_method_17_code 56 = .ok (.iload_n 2, 1) := by decide +kernel
theorem d_D_isLocalOf_57 : decode prog_4_method_17_code 57 = .ok (.bipush 30, 2) := by decide +kernel
theorem d_D_isLocalOf_59 : decode prog_4_method_17_code 59 = .ok (.iadd, 1) := by decide +kernel
theorem d_D_isLocalOf_60 : decode prog_4_method_17_code 60 = .ok (.iload_n 1, 1) := by decide +kernel
theorem d_D_isLocalOf_61 : decode prog_4_method_17_code 61 = .ok (.bipush 46, 2) := by decide +kernel
theorem d_D_isLocalOf_63 : decode prog_4_method_17_code 63 = .ok (.iadd, 1) := by decide +kernel
theorem d_D_isLocalOf_64 : decode prog_4_method_17_code 64 = .ok (.aload_n 0, 1) := by decide +kernel
theorem d_D_isLocalOf_65 : decode prog_4_method_17_code 65 = .ok (.getfield 9, 3) := by decide +kernel
theorem d_D_isLocalOf_68 : decode prog_4_method_17_code 68 = .ok (.iload_n 1, 1) := by decide +kernel
theorem d_D_isLocalOf_69 : decode prog_4_method_17_code 69 = .ok (.bipush 28, 2) := by decide +kernel
theorem d_D_isLocalOf_71 : decode prog_4_method_17_code 71 = .ok (.iadd, 1) := by decide +kernel
theorem d_D_isLocalOf_72 : decode prog_4_method_17_code 72 = .ok (.invokevirtual 57, 3) := by decide +kernel
theorem d_D_isLocalOf_75 : decode prog_4_method_17_code 75 = .ok (.invokevirtual 122, 3) := by decide +kernel
theorem d_D_isLocalOf_78 : decode prog_4_method_17_code 78 = .ok (.ifCond .eq 7, 3) := by decide +kernel
theorem d_D_isLocalOf_81 : decode prog_4_method_17_code 81 = .ok (.iconst 1, 1) := by decide +kernel
theorem d_D_isLocalOf_82 : decode prog_4_method_17_code 82 = .ok (.goto 4, 3) := by decide +kernel
theorem d_D_isLocalOf_85 : decode prog_4_method_17_code 85 = .ok (.iconst 0, 1) := by decide +kernel
theorem d_D_isLocalOf_86 : decode prog_4_method_17_code 86 = .ok (.ireturn, 1) := by decide +kernel
theorem d_D_isName_0 : decode prog_4_method_13_code 0 = .ok (.iload_n 2, 1) := by decide +kernel
theorem d_D_isName_1 : decode prog_4_method_13_code 1 = .ok (.iconst 1, 1) := by decide +kernel
theorem d_D_isName_2 : decode prog_4_method_13_code 2 = .ok (.if_icmp .lt 9, 3) := by decide +kernel
theorem d_D_isName_5 : decode prog_4_method_13_code 5 = .ok (.iload_n 2, 1) := by decide +kernel
theorem d_D_isName_6 : decode prog_4_method_13_code 6 = .ok (.bipush 60, 2) := by decide +kernel
theorem d_D_isName_8 : decode prog_4_method_13_code 8 = .ok (.if_icmp .le 5, 3) := by decide +kernel
theorem d_D_isName_11 : decode prog_4_method_13_code 11 = .ok (.iconst 0, 1) := by decide +kernel
theorem d_D_isName_12 : decode prog_4_method_13_code 12 = .ok (.ireturn, 1) := by decide +kernel
theorem d_D_isName_13 : decode prog_4_method_13_code 13 = .ok (.iconst 0, 1) := by decide +kernel
theorem d_D_isName_14 : decode prog_4_method_13_code 14 = .ok (.istore_n 3, 1) := by decide +kernel
theorem d_D_isName_15 : decode prog_4_method_13_code 15 = .ok (.iconst 0, 1) := by decide +kernel
theorem d_D_isName_16 : decode prog_4_method_13_code 16 = .ok (.istore 4, 2) := by decide +kernel
theorem d_D_isName_18 : decode prog_4_method_13_code 18 = .ok (.iconst 0, 1) := by decide +kernel
theorem d_D_isName_19 : decode prog_4_method_13_code 19 = .ok (.istore 5, 2) := by decide +kernel
theorem d_D_isName_21 : decode prog_4_method_13_code 21 = .ok (.iload 5, 2) := by decide +kernel
theorem d_D_isName_23 : decode prog_4_method_13_code 23 = .ok (.iload_n 2, 1) := by decide +kernel
theorem d_D_isName_24 : decode prog_4_method_13_code 24 = .ok (.if_icmp .ge 100, 3) := by decide +kernel
theorem d_D_isName_27 : decode prog_4_method_13_code 27 = .ok (.aload_n 0, 1) := by decide +kernel
theorem d_D_isName_28 : decode prog_4_method_13_code 28 = .ok (.getfield 9, 3) := by decide +kernel
theorem d_D_isName_31 : decode prog_4_method_13_code 31 = .ok (.iload_n 1, 1) := by decide +kernel
theorem d_D_isName_32 : decode prog_4_method_13_code 32 = .ok (.iload 5, 2) := by decide +kernel
theorem d_D_isName_34 : decode prog_4_method_13_code 34 = .ok (.iadd, 1) := by decide +kernel
theorem d_D_isName_35 : decode prog_4_method_13_code 35 = .ok (.invokevirtual 83, 3) := by decide +kernel
theorem d_D_isName_38 : decode prog_4_method_13_code 38 = .ok (.istore 6, 2) := by decide +kernel
theorem d_D_isName_40 : decode prog_4_method_13_code 40 = .ok (.aload_n 0, 1) := by decide +kernel
theorem d_D_isName_41 : decode prog_4_method_13_code 41 = .ok (.iload 6, 2) := by decide +kernel
theorem d_D_isName_43 : decode prog_4_method_13_code 43 = .ok (.invokevirtual 97, 3) := by decide +kernel
theorem d_D_isName_46 : decode prog_4_method_13_code 46 = .ok (.ifCond .ne 5, 3) := by decide +kernel
theorem d_D_isName_49 : decode prog_4_method_13_code 49 = .ok (.iconst 0, 1) := by decide +kernel
theorem d_D_isName_50 : decode prog_4_method_13_code 50 = .ok (.ireturn, 1) := by decide +kernel
theorem d_D_isName_51 : decode prog_4_method_13_code 51 = .ok (.iload 6, 2) := by decide +kernel
theorem d_D_isName_53 : decode prog_4_method_13_code 53 = .ok (.bipush 47, 2) := by decide +kernel
theorem d_D_isName_55 : decode prog_4_method_13_code 55 = .ok (.if_icmp .ne 7, 3) := by decide +kernel
theorem d_D_isName_58 : decode prog_4_method_13_code 58 = .ok (.iconst 1, 1) := by decide +kernel
theorem d_D_isName_59 : decode prog_4_method_13_code 59 = .ok (.goto 4, 3) := by decide +kernel
theorem d_D_isName_62 : decode prog_4_method_13_code 62 = .ok (.iconst 0, 1) := by decide +kernel
theorem d_D_isName_63 : decode prog_4_method_13_code 63 = .ok (.istore 7, 2) := by decide +kernel
theorem d_D_isName_65 : decode prog_4_method_13_code 65 = .ok (.iload 7, 2) := by decide +kernel
theorem d_D_isName_67 : decode prog_4_method_13_code 67 = .ok (.ifCond .ne 11, 3) := by decide +kernel
theorem d_D_isName_70 : decode prog_4_method_13_code 70 = .ok (.iload 5, 2) := by decide +kernel
theorem d_D_isName_72 : decode prog_4_method_13_code 72 = .ok (.iload_n 2, 1) := by decide +kernel
theorem d_D_isName_73 : decode prog_4_method_13_code 73 = .ok (.iconst 1, 1) := by decide +kernel
theorem d_D_isName_74 : decode prog_4_method_13_code 74 = .ok (.isub, 1) := by decide +kernel
theorem d_D_isName_75 : decode prog_4_method_13_code 75 = .ok (.if_icmp .ne 43, 3) := by decide +kernel
theorem d_D_isName_78 : decode prog_4_method_13_code 78 = .ok (.iload 7, 2) := by decide +kernel
theorem d_D_isName_80 : decode prog_4_method_13_code 80 = .ok (.ifCond .eq 8, 3) := by decide +kernel
theorem d_D_isName_83 : decode prog_4_method_13_code 83 = .ok (.iload 5, 2) := by decide +kernel
theorem d_D_isName_85 : decode prog_4_method_13_code 85 = .ok (.goto 4, 3) := by decide +kernel
theorem d_D_isName_88 : decode prog_4_method_13_code 88 = .ok (.iload_n 2, 1) := by decide +kernel
theorem d_D_isName_89 : decode prog_4_method_13_code 89 = .ok (.istore 8, 2) := by decide +kernel
theorem d_D_isName_91 : decode prog_4_method_13_code 91 = .ok (.aload_n 0, 1) := by decide +kernel
theorem d_D_isName_92 : decode prog_4_method_13_code 92 = .ok (.iload_n 1, 1) := by decide +kernel
theorem d_D_isName_93 : decode prog_4_method_13_code 93 = .ok (.iload 4, 2) := by decide +kernel
theorem d_D_isName_95 : decode prog_4_method_13_code 95 = .ok (.iadd, 1) := by decide +kernel
theorem d_D_isName_96 : decode prog_4_method_13_code 96 = .ok (.iload 8, 2) := by decide +kernel
theorem d_D_isName_98 : decode prog_4_method_13_code 98 = .ok (.iload 4, 2) := by decide +kernel
theorem d_D_isName_100 : decode prog_4_method_13_code 100 = .ok (.isub, 1) := by decide +kernel
theorem d_D_isName_101 : decode prog_4_method_13_code 101 = .ok (.invokevirtual 101, 3) := by decide +kernel
theorem d_D_isName_104 : decode prog_4_method_13_code 104 = .ok (.ifCond .ne 5, 3) := by decide +kernel
theorem d_D_isName_107 : decode prog_4_method_13_code 107 = .ok (.iconst 0, 1) := by decide +kernel
theorem d_D_isName_108 : decode prog_4_method_13_code 108 = .ok (.ireturn, 1) := by decide +kernel
theorem d_D_isName_109 : decode prog_4_method_13_code 109 = .ok (.iinc 3 1, 3) := by decide +kernel
theorem d_D_isName_112 : decode prog_4_method_13_code 112 = .ok (.iload 5, 2) := by decide +kernel
theorem d_D_isName_114 : decode prog_4_method_13_code 114 = .ok (.iconst 1, 1) := by decide +kernel
theorem d_D_isName_115 : decode prog_4_method_13_code 115 = .ok (.iadd, 1) := by decide +kernel
theorem d_D_isName_116 : decode prog_4_method_13_code 116 = .ok (.istore 4, 2) := by decide +kernel
theorem d_D_isName_118 : decode prog_4_method_13_code 118 = .ok (.iinc 5 1, 3) := by decide +kernel
theorem d_D_isName_121 : decode prog_4_method_13_code 121 = .ok (.goto (-100), 3) := by decide +kernel
theorem d_D_isName_124 : decode prog_4_method_13_code 124 = .ok (.iload_n 3, 1) := by decide +kernel
theorem d_D_isName_125 : decode prog_4_method_13_code 125 = .ok (.bipush 8, 2) := by decide +kernel
theorem d_D_isName_127 : decode prog_4_method_13_code 127 = .ok (.if_icmp .gt 7, 3) := by decide +kernel
theorem d_D_isName_130 : decode prog_4_method_13_code 130 = .ok (.iconst 1, 1) := by decide +kernel
theorem d_D_isName_131 : decode prog_4_method_13_code 131 = .ok (.goto 4, 3) := by decide +kernel
theorem d_D_isName_134 : decode prog_4_method_13_code 134 = .ok (.iconst 0, 1) := by decide +kernel
theorem d_D_isName_135 : decode prog_4_method_13_code 135 = .ok (.ireturn, 1) := by decide +kernel
theorem d_D_isNameByte_0 : decode prog_4_method_14_code 0 = .ok (.iload_n 1, 1) := by decide +kernel
theorem d_D_isNameByte_1 : decode prog_4_method_14_code 1 = .ok (.lookupswitch 77 #[(34, 75), (42, 75), (58, 75), (60, 75), (62, 75), (63, 75), (92, 75), (124, 75)], 75) := by decide +kernel
theorem d_D_isNameByte_76 : decode prog_4_method_14_code 76 = .ok (.iconst 0, 1) := by decide +kernel
theorem d_D_isNameByte_77 : decode prog_4_method_14_code 77 = .ok (.ireturn, 1) := by decide +kernel
theorem d_D_isNameByte_78 : decode prog_4_method_14_code 78 = .ok (.iload_n 1, 1) := by decide +kernel
theorem d_D_isNameByte_79 : decode prog_4_method_14_code 79 = .ok (.bipush 32, 2) := by decide +kernel
theorem d_D_isNameByte_81 : decode prog_4_method_14_code 81 = .ok (.if_icmp .lt 13, 3) := by decide +kernel
theorem d_D_isNameByte_84 : decode prog_4_method_14_code 84 = .ok (.iload_n 1, 1) := by decide +kernel
theorem d_D_isNameByte_85 : decode prog_4_method_14_code 85 = .ok (.bipush 126, 2) := by decide +kernel
theorem d_D_isNameByte_87 : decode prog_4_method_14_code 87 = .ok (.if_icmp .gt 7, 3) := by decide +kernel
theorem d_D_isNameByte_90 : decode prog_4_method_14_code 90 = .ok (.iconst 1, 1) := by decide +kernel
theorem d_D_isNameByte_91 : decode prog_4_method_14_code 91 = .ok (.goto 4, 3) := by decide +kernel
theorem d_D_isNameByte_94 : decode prog_4_method_14_code 94 = .ok (.iconst 0, 1) := by decide +kernel
theorem d_D_isNameByte_95 : decode prog_4_method_14_code 95 = .ok (.ireturn, 1) := by decide +kernel
theorem d_D_isPart_0 : decode prog_4_method_15_code 0 = .ok (.iload_n 2, 1) := by decide +kernel
theorem d_D_isPart_1 : decode prog_4_method_15_code 1 = .ok (.iconst 1, 1) := by decide +kernel
theorem d_D_isPart_2 : decode prog_4_method_15_code 2 = .ok (.if_icmp .ne 20, 3) := by decide +kernel
theorem d_D_isPart_5 : decode prog_4_method_15_code 5 = .ok (.aload_n 0, 1) := by decide +kernel
theorem d_D_isPart_6 : decode prog_4_method_15_code 6 = .ok (.getfield 9, 3) := by decide +kernel
theorem d_D_isPart_9 : decode prog_4_method_15_code 9 = .ok (.iload_n 1, 1) := by decide +kernel
theorem d_D_isPart_10 : decode prog_4_method_15_code 10 = .ok (.invokevirtual 83, 3) := by decide +kernel
theorem d_D_isPart_13 : decode prog_4_method_15_code 13 = .ok (.bipush 46, 2) := by decide +kernel
theorem d_D_isPart_15 : decode prog_4_method_15_code 15 = .ok (.if_icmp .ne 7, 3) := by decide +kernel
theorem d_D_isPart_18 : decode prog_4_method_15_code 18 = .ok (.iconst 1, 1) := by decide +kernel
theorem d_D_isPart_19 : decode prog_4_method_15_code 19 = .ok (.goto 4, 3) := by decide +kernel
theorem d_D_isPart_22 : decode prog_4_method_15_code 22 = .ok (.iconst 0, 1) := by decide +kernel
theorem d_D_isPart_23 : decode prog_4_method_15_code 23 = .ok (.istore_n 3, 1) := by decide +kernel
theorem d_D_isPart_24 : decode prog_4_method_15_code 24 = .ok (.iload_n 2, 1) := by decide +kernel
theorem d_D_isPart_25 : decode prog_4_method_15_code 25 = .ok (.iconst 2, 1) := by decide +kernel
theorem d_D_isPart_26 : decode prog_4_method_15_code 26 = .ok (.if_icmp .ne 35, 3) := by decide +kernel
theorem d_D_isPart_29 : decode prog_4_method_15_code 29 = .ok (.aload_n 0, 1) := by decide +kernel
theorem d_D_isPart_30 : decode prog_4_method_15_code 30 = .ok (.getfield 9, 3) := by decide +kernel
theorem d_D_isPart_33 : decode prog_4_method_15_code 33 = .ok (.iload_n 1, 1) := by decide +kernel
theorem d_D_isPart_34 : decode prog_4_method_15_code 34 = .ok (.invokevirtual 83, 3) := by decide +kernel
theorem d_D_isPart_37 : decode prog_4_method_15_code 37 = .ok (.bipush 46, 2) := by decide +kernel
theorem d_D_isPart_39 : decode prog_4_method_15_code 39 = .ok (.if_icmp .ne 22, 3) := by decide +kernel
theorem d_D_isPart_42 : decode prog_4_method_15_code 42 = .ok (.aload_n 0, 1) := by decide +kernel
theorem d_D_isPart_43 : decode prog_4_method_15_code 43 = .ok (.getfield 9, 3) := by decide +kernel
theorem d_D_isPart_46 : decode prog_4_method_15_code 46 = .ok (.iload_n 1, 1) := by decide +kernel
theorem d_D_isPart_47 : decode prog_4_method_15_code 47 = .ok (.iconst 1, 1) := by decide +kernel
theorem d_D_isPart_48 : decode prog_4_method_15_code 48 = .ok (.iadd, 1) := by decide +kernel
theorem d_D_isPart_49 : decode prog_4_method_15_code 49 = .ok (.invokevirtual 83, 3) := by decide +kernel
theorem d_D_isPart_52 : decode prog_4_method_15_code 52 = .ok (.bipush 46, 2) := by decide +kernel
theorem d_D_isPart_54 : decode prog_4_method_15_code 54 = .ok (.if_icmp .ne 7, 3) := by decide +kernel
theorem d_D_isPart_57 : decode prog_4_method_15_code 57 = .ok (.iconst 1, 1) := by decide +kernel
theorem d_D_isPart_58 : decode prog_4_method_15_code 58 = .ok (.goto 4, 3) := by decide +kernel
theorem d_D_isPart_61 : decode prog_4_method_15_code 61 = .ok (.iconst 0, 1) := by decide +kernel
theorem d_D_isPart_62 : decode prog_4_method_15_code 62 = .ok (.istore 4, 2) := by decide +kernel
theorem d_D_isPart_64 : decode prog_4_method_15_code 64 = .ok (.iload_n 2, 1) := by decide +kernel
theorem d_D_isPart_65 : decode prog_4_method_15_code 65 = .ok (.ifCond .le 16, 3) := by decide +kernel
theorem d_D_isPart_68 : decode prog_4_method_15_code 68 = .ok (.iload_n 3, 1) := by decide +kernel
theorem d_D_isPart_69 : decode prog_4_method_15_code 69 = .ok (.ifCond .ne 12, 3) := by decide +kernel
theorem d_D_isPart_72 : decode prog_4_method_15_code 72 = .ok (.iload 4, 2) := by decide +kernel
theorem d_D_isPart_74 : decode prog_4_method_15_code 74 = .ok (.ifCond .ne 7, 3) := by decide +kernel
theorem d_D_isPart_77 : decode prog_4_method_15_code 77 = .ok (.iconst 1, 1) := by decide +kernel
theorem d_D_isPart_78 : decode prog_4_method_15_code 78 = .ok (.goto 4, 3) := by decide +kernel
theorem d_D_isPart_81 : decode prog_4_method_15_code 81 = .ok (.iconst 0, 1) := by decide +kernel
theorem d_D_isPart_82 : decode prog_4_method_15_code 82 = .ok (.ireturn, 1) := by decide +kernel
theorem d_D_keepNumbers_0 : decode prog_4_method_18_code 0 = .ok (.aload_n 1, 1) := by decide +kernel
theorem d_D_keepNumbers_1 : decode prog_4_method_18_code 1 = .ok (.aload_n 0, 1) := by decide +kernel
theorem d_D_keepNumbers_2 : decode prog_4_method_18_code 2 = .ok (.getfield 9, 3) := by decide +kernel
theorem d_D_keepNumbers_5 : decode prog_4_method_18_code 5 = .ok (.iload_n 2, 1) := by decide +kernel
theorem d_D_keepNumbers_6 : decode prog_4_method_18_code 6 = .ok (.bipush 10, 2) := by decide +kernel
theorem d_D_keepNumbers_8 : decode prog_4_method_18_code 8 = .ok (.iadd, 1) := by decide +kernel
theorem d_D_keepNumbers_9 : decode prog_4_method_18_code 9 = .ok (.invokevirtual 57, 3) := by decide +kernel
theorem d_D_keepNumbers_12 : decode prog_4_method_18_code 12 = .ok (.putfield 125, 3) := by decide +kernel
theorem d_D_keepNumbers_15 : decode prog_4_method_18_code 15 = .ok (.aload_n 1, 1) := by decide +kernel
theorem d_D_keepNumbers_16 : decode prog_4_method_18_code 16 = .ok (.aload_n 0, 1) := by decide +kernel
theorem d_D_keepNumbers_17 : decode prog_4_method_18_code 17 = .ok (.getfield 9, 3) := by decide +kernel
theorem d_D_keepNumbers_20 : decode prog_4_method_18_code 20 = .ok (.iload_n 2, 1) := by decide +kernel
theorem d_D_keepNumbers_21 : decode prog_4_method_18_code 21 = .ok (.bipush 16, 2) := by decide +kernel
theorem d_D_keepNumbers_23 : decode prog_4_method_18_code 23 = .ok (.iadd, 1) := by decide +kernel
theorem d_D_keepNumbers_24 : decode prog_4_method_18_code 24 = .ok (.invokevirtual 60, 3) := by decide +kernel
theorem d_D_keepNumbers_27 : decode prog_4_method_18_code 27 = .ok (.l2i, 1) := by decide +kernel
theorem d_D_keepNumbers_28 : decode prog_4_method_18_code 28 = .ok (.putfield 128, 3) := by decide +kernel
theorem d_D_keepNumbers_31 : decode prog_4_method_18_code 31 = .ok (.aload_n 1, 1) := by decide +kernel
theorem d_D_keepNumbers_32 : decode prog_4_method_18_code 32 = .ok (.aload_n 0, 1) := by decide +kernel
theorem d_D_keepNumbers_33 : decode prog_4_method_18_code 33 = .ok (.getfield 9, 3) := by decide +kernel
theorem d_D_keepNumbers_36 : decode prog_4_method_18_code 36 = .ok (.iload_n 2, 1) := by decide +kernel
theorem d_D_keepNumbers_37 : decode prog_4_method_18_code 37 = .ok (.bipush 20, 2) := by decide +kernel
theorem d_D_keepNumbers_39 : decode prog_4_method_18_code 39 = .ok (.iadd, 1) := by decide +kernel
theorem d_D_keepNumbers_40 : decode prog_4_method_18_code 40 = .ok (.invokevirtual 60, 3) := by decide +kernel
theorem d_D_keepNumbers_43 : decode prog_4_method_18_code 43 = .ok (.l2i, 1) := by decide +kernel
theorem d_D_keepNumbers_44 : decode prog_4_method_18_code 44 = .ok (.putfield 131, 3) := by decide +kernel
theorem d_D_keepNumbers_47 : decode prog_4_method_18_code 47 = .ok (.aload_n 1, 1) := by decide +kernel
theorem d_D_keepNumbers_48 : decode prog_4_method_18_code 48 = .ok (.aload_n 0, 1) := by decide +kernel
theorem d_D_keepNumbers_49 : decode prog_4_method_18_code 49 = .ok (.getfield 9, 3) := by decide +kernel
theorem d_D_keepNumbers_52 : decode prog_4_method_18_code 52 = .ok (.iload_n 2, 1) := by decide +kernel
theorem d_D_keepNumbers_53 : decode prog_4_method_18_code 53 = .ok (.bipush 24, 2) := by decide +kernel
theorem d_D_keepNumbers_55 : decode prog_4_method_18_code 55 = .ok (.iadd, 1) := by decide +kernel
theorem d_D_keepNumbers_56 : decode prog_4_method_18_code 56 = .ok (.invokevirtual 60, 3) := by decide +kernel
theorem d_D_keepNumbers_59 : decode prog_4_method_18_code 59 = .ok (.putfield 134, 3) := by decide +kernel
theorem d_D_keepNumbers_62 : decode prog_4_method_18_code 62 = .ok (.aload_n 1, 1) := by decide +kernel
theorem d_D_keepNumbers_63 : decode prog_4_method_18_code 63 = .ok (.invokevirtual 138, 3) := by decide +kernel
theorem d_D_keepNumbers_66 : decode prog_4_method_18_code 66 = .ok (.return_, 1) := by decide +kernel
theorem d_D_shut_0 : decode prog_4_method_2_code 0 = .ok (.aload_n 0, 1) := by decide +kernel
theorem d_D_shut_1 : decode prog_4_method_2_code 1 = .ok (.iconst 0, 1) := by decide +kernel
theorem d_D_shut_2 : decode prog_4_method_2_code 2 = .ok (.putfield 26, 3) := by decide +kernel
theorem d_D_shut_5 : decode prog_4_method_2_code 5 = .ok (.return_, 1) := by decide +kernel
theorem d_E_behindPacked_0 : decode prog_5_method_5_code 0 = .ok (.aload_n 0, 1) := by decide +kernel
theorem d_E_behindPacked_1 : decode prog_5_method_5_code 1 = .ok (.getfield 36, 3) := by decide +kernel
theorem d_E_behindPacked_4 : decode prog_5_method_5_code 4 = .ok (.aload_n 0, 1) := by decide +kernel
theorem d_E_behindPacked_5 : decode prog_5_method_5_code 5 = .ok (.getfield 39, 3) := by decide +kernel
theorem d_E_behindPacked_8 : decode prog_5_method_5_code 8 = .ok (.iadd, 1) := by decide +kernel
theorem d_E_behindPacked_9 : decode prog_5_method_5_code 9 = .ok (.ireturn, 1) := by decide +kernel
theorem d_E_clashesWith_0 : decode prog_5_method_4_code 0 = .ok (.aload_n 0, 1) := by decide +kernel
theorem d_E_clashesWith_1 : decode prog_5_method_4_code 1 = .ok (.getfield 23, 3) := by decide +kernel
theorem d_E_clashesWith_4 : decode prog_5_method_4_code 4 = .ok (.aload_n 1, 1) := by decide +kernel
theorem d_E_clashesWith_5 : decode prog_5_method_4_code 5 = .ok (.getfield 23, 3) := by decide +kernel
theorem d_E_clashesWith_8 : decode prog_5_method_4_code 8 = .ok (.if_icmp .gt 7, 3) := by decide +kernel
theorem d_E_clashesWith_11 : decode prog_5_method_4_code 11 = .ok (.aload_n 0, 1) := by decide +kernel
theorem d_E_clashesWith_12 : decode prog_5_method_4_code 12 = .ok (.goto 4, 3) := by decide +kernel
theorem d_E_clashesWith_15 : decode prog_5_method_4_code 15 = .ok (.aload_n 1, 1) := by decide +kernel
theorem d_E_clashesWith_16 : decode prog_5_method_4_code 16 = .ok (.astore_n 2, 1) := by decide +kernel
theorem d_E_clashesWith_17 : decode prog_5_method_4_code 17 = .ok (.aload_n 2, 1) := by decide +kernel
theorem d_E_clashesWith_18 : decode prog_5_method_4_code 18 = .ok (.aload_n 0, 1) := by decide +kernel
theorem d_E_clashesWith_19 : decode prog_5_method_4_code 19 = .ok (.if_acmp .ne 7, 3) := by decide +kernel
theorem d_E_clashesWith_22 : decode prog_5_method_4_code 22 = .ok (.aload_n 1, 1) := by decide +kernel
theorem d_E_clashesWith_23 : decode prog_5_method_4_code 23 = .ok (.goto 4, 3) := by decide +kernel
theorem d_E_clashesWith_26 : decode prog_5_method_4_code 26 = .ok (.aload_n 0, 1) := by decide +kernel
theorem d_E_clashesWith_27 : decode prog_5_method_4_code 27 = .ok (.astore_n 3, 1) := by decide +kernel
theorem d_E_clashesWith_28 : decode prog_5_method_4_code 28 = .ok (.aload_n 2, 1) := by decide +kernel
theorem d_E_clashesWith_29 : decode prog_5_method_4_code 29 = .ok (.getfield 23, 3) := by decide +kernel
theorem d_E_clashesWith_32 : decode prog_5_method_4_code 32 = .ok (.istore 4, 2) := by decide +kernel
theorem d_E_clashesWith_34 : decode prog_5_method_4_code 34 = .ok (.iconst 0, 1) := by decide +kernel
theorem d_E_clashesWith_35 : decode prog_5_method_4_code 35 = .ok (.istore 5, 2) := by decide +kernel
theorem d_E_clashesWith_37 : decode prog_5_method_4_code 37 = .ok (.iload 5, 2) := by decide +kernel
theorem d_E_clashesWith_39 : decode prog_5_method_4_code 39 = .ok (.iload 4, 2) := by decide +kernel
theorem d_E_clashesWith_41 : decode prog_5_method_4_code 41 = .ok (.if_icmp .ge 28, 3) := by decide +kernel
theorem d_E_clashesWith_44 : decode prog_5_method_4_code 44 = .ok (.aload_n 2, 1) := by decide +kernel
theorem d_E_clashesWith_45 : decode prog_5_method_4_code 45 = .ok (.getfield 9, 3) := by decide +kernel
theorem d_E_clashesWith_48 : decode prog_5_method_4_code 48 = .ok (.iload 5, 2) := by decide +kernel
theorem d_E_clashesWith_50 : decode prog_5_method_4_code 50 = .ok (.baload, 1) := by decide +kernel
theorem d_E_clashesWith_51 : decode prog_5_method_4_code 51 = .ok (.aload_n 3, 1) := by decide +kernel
theorem d_E_clashesWith_52 : decode prog_5_method_4_code 52 = .ok (.getfield 9, 3) := by decide +kernel
theorem d_E_clashesWith_55 : decode prog_5_method_4_code 55 = .ok (.iload 5, 2) := by decide +kernel
theorem d_E_clashesWith_57 : decode prog_5_method_4_code 57 = .ok (.baload, 1) := by decide +kernel
theorem d_E_clashesWith_58 : decode prog_5_method_4_code 58 = .ok (.if_icmp .eq 5, 3) := by decide +kernel
theorem d_E_clashesWith_61 : decode prog_5_method_4_code 61 = .ok (.iconst 0, 1) := by decide +kernel
theorem d_E_clashesWith_62 : decode prog_5_method_4_code 62 = .ok (.ireturn, 1) := by decide +kernel
theorem d_E_clashesWith_63 : decode prog_5_method_4_code 63 = .ok (.iinc 5 1, 3) := by decide +kernel
theorem d_E_clashesWith_66 : decode prog_5_method_4_code 66 = .ok (.goto (-29), 3) := by decide +kernel
theorem d_E_clashesWith_69 : decode prog_5_method_4_code 69 = .ok (.iload 4, 2) := by decide +kernel
theorem d_E_clashesWith_71 : decode prog_5_method_4_code 71 = .ok (.aload_n 3, 1) := by decide +kernel
theorem d_E_clashesWith_72 : decode prog_5_method_4_code 72 = .ok (.getfield 23, 3) := by decide +kernel
theorem d_E_clashesWith_75 : decode prog_5_method_4_code 75 = .ok (.if_icmp .eq 22, 3) := by decide +kernel
theorem d_E_clashesWith_78 : decode prog_5_method_4_code 78 = .ok (.aload_n 2, 1) := by decide +kernel
theorem d_E_clashesWith_79 : decode prog_5_method_4_code 79 = .ok (.getfield 32, 3) := by decide +kernel
theorem d_E_clashesWith_82 : decode prog_5_method_4_code 82 = .ok (.ifCond .ne 19, 3) := by decide +kernel
theorem d_E_clashesWith_85 : decode prog_5_method_4_code 85 = .ok (.aload_n 3, 1) := by decide +kernel
theorem d_E_clashesWith_86 : decode prog_5_method_4_code 86 = .ok (.getfield 9, 3) := by decide +kernel
theorem d_E_clashesWith_89 : decode prog_5_method_4_code 89 = .ok (.iload 4, 2) := by decide +kernel
theorem d_E_clashesWith_91 : decode prog_5_method_4_code 91 = .ok (.baload, 1) := by decide +kernel
theorem d_E_clashesWith_92 : decode prog_5_method_4_code 92 = .ok (.bipush 47, 2) := by decide +kernel
theorem d_E_clashesWith_94 : decode prog_5_method_4_code 94 = .ok (.if_icmp .ne 7, 3) := by decide +kernel
theorem d_E_clashesWith_97 : decode prog_5_method_4_code 97 = .ok (.iconst 1, 1) := by decide +kernel
theorem d_E_clashesWith_98 : decode prog_5_method_4_code 98 = .ok (.goto 4, 3) := by decide +kernel
theorem d_E_clashesWith_101 : decode prog_5_method_4_code 101 = .ok (.iconst 0, 1) := by decide +kernel
theorem d_E_clashesWith_102 : decode prog_5_method_4_code 102 = .ok (.ireturn, 1) := by decide +kernel
theorem d_E_forgetWhatIsWritten_0 : decode prog_5_method_2_code 0 = .ok (.aload_n 0, 1) := by decide +kernel
theorem d_E_forgetWhatIsWritten_1 : decode prog_5_method_2_code 1 = .ok (.iconst 0, 1) := by decide +kernel
theorem d_E_forgetWhatIsWritten_2 : decode prog_5_method_2_code 2 = .ok (.putfield 13, 3) := by decide +kernel
theorem d_E_forgetWhatIsWritten_5 : decode prog_5_method_2_code 5 = .ok (.aload_n 0, 1) := by decide +kernel
theorem d_E_forgetWhatIsWritten_6 : decode prog_5_method_2_code 6 = .ok (.iconst 0, 1) := by decide +kernel
theorem d_E_forgetWhatIsWritten_7 : decode prog_5_method_2_code 7 = .ok (.putfield 17, 3) := by decide +kernel
theorem d_E_forgetWhatIsWritten_10 : decode prog_5_method_2_code 10 = .ok (.aload_n 0, 1) := by decide +kernel
theorem d_E_forgetWhatIsWritten_11 : decode prog_5_method_2_code 11 = .ok (.iconst 0, 1) := by decide +kernel
theorem d_E_forgetWhatIsWritten_12 : decode prog_5_method_2_code 12 = .ok (.putfield 20, 3) := by decide +kernel
theorem d_E_forgetWhatIsWritten_15 : decode prog_5_method_2_code 15 = .ok (.return_, 1) := by decide +kernel
theorem d_E_keepName_0 : decode prog_5_method_3_code 0 = .ok (.aload_n 0, 1) := by decide +kernel
theorem d_E_keepName_1 : decode prog_5_method_3_code 1 = .ok (.iload_n 3, 1) := by decide +kernel
theorem d_E_keepName_2 : decode prog_5_method_3_code 2 = .ok (.bipush 60, 2) := by decide +kernel
theorem d_E_keepName_4 : decode prog_5_method_3_code 4 = .ok (.if_icmp .gt 7, 3) := by decide +kernel
theorem d_E_keepName_7 : decode prog_5_method_3_code 7 = .ok (.iload_n 3, 1) := by decide +kernel
theorem d_E_keepName_8 : decode prog_5_method_3_code 8 = .ok (.goto 5, 3) := by decide +kernel
theorem d_E_keepName_13 : decode prog_5_method_3_code 13 = .ok (.putfield 23, 3) := by decide +kernel
theorem d_E_keepName_16 : decode prog_5_method_3_code 16 = .ok (.iconst 0, 1) := by decide +kernel
theorem d_E_keepName_17 : decode prog_5_method_3_code 17 = .ok (.istore 4, 2) := by decide +kernel
theorem d_E_keepName_19 : decode prog_5_method_3_code 19 = .ok (.iload 4, 2) := by decide +kernel
theorem d_E_keepName_21 : decode prog_5_method_3_code 21 = .ok (.aload_n 0, 1) := by decide +kernel
theorem d_E_keepName_22 : decode prog_5_method_3_code 22 = .ok (.getfield 23, 3) := by decide +kernel
theorem d_E_keepName_25 : decode prog_5_method_3_code 25 = .ok (.if_icmp .ge 25, 3) := by decide +kernel
theorem d_E_keepName_28 : decode prog_5_method_3_code 28 = .ok (.aload_n 0, 1) := by decide +kernel
theorem d_E_keepName_29 : decode prog_5_method_3_code 29 = .ok (.getfield 9, 3) := by decide +kernel
theorem d_E_keepName_32 : decode prog_5_method_3_code 32 = .ok (.iload 4, 2) := by decide +kernel
theorem d_E_keepName_34 : decode prog_5_method_3_code 34 = .ok (.aload_n 1, 1) := by decide +kernel
theorem d_E_keepName_35 : decode prog_5_method_3_code 35 = .ok (.iload_n 2, 1) := by decide +kernel
theorem d_E_keepName_36 : decode prog_5_method_3_code 36 = .ok (.iload 4, 2) := by decide +kernel
theorem d_E_keepName_38 : decode prog_5_method_3_code 38 = .ok (.iadd, 1) := by decide +kernel
theorem d_E_keepName_39 : decode prog_5_method_3_code 39 = .ok (.invokevirtual 26, 3) := by decide +kernel
theorem d_E_keepName_42 : decode prog_5_method_3_code 42 = .ok (.i2b, 1) := by decide +kernel
theorem d_E_keepName_43 : decode prog_5_method_3_code 43 = .ok (.bastore, 1) := by decide +kernel
theorem d_E_keepName_44 : decode prog_5_method_3_code 44 = .ok (.iinc 4 1, 3) := by decide +kernel
theorem d_E_keepName_47 : decode prog_5_method_3_code 47 = .ok (.goto (-28), 3) := by decide +kernel
theorem d_E_keepName_50 : decode prog_5_method_3_code 50 = .ok (.aload_n 0, 1) := by decide +kernel
theorem d_E_keepName_51 : decode prog_5_method_3_code 51 = .ok (.aload_n 0, 1) := by decide +kernel
theorem d_E_keepName_52 : decode prog_5_method_3_code 52 = .ok (.getfield 23, 3) := by decide +kernel
theorem d_E_keepName_55 : decode prog_5_method_3_code 55 = .ok (.ifCond .le 23, 3) := by decide +kernel
theorem d_E_keepName_58 : decode prog_5_method_3_code 58 = .ok (.aload_n 0, 1) := by decide +kernel
theorem d_E_keepName_59 : decode prog_5_method_3_code 59 = .ok (.getfield 9, 3) := by decide +kernel
theorem d_E_keepName_62 : decode prog_5_method_3_code 62 = .ok (.aload_n 0, 1) := by decide +kernel
theorem d_E_keepName_63 : decode prog_5_method_3_code 63 = .ok (.getfield 23, 3) := by decide +kernel
theorem d_E_keepName_66 : decode prog_5_method_3_code 66 = .ok (.iconst 1, 1) := by decide +kernel
theorem d_E_keepName_67 : decode prog_5_method_3_code 67 = .ok (.isub, 1) := by decide +kernel
theorem d_E_keepName_68 : decode prog_5_method_3_code 68 = .ok (.baload, 1) := by decide +kernel
theorem d_E_keepName_69 : decode prog_5_method_3_code 69 = .ok (.bipush 47, 2) := by decide +kernel
theorem d_E_keepName_71 : decode prog_5_method_3_code 71 = .ok (.if_icmp .ne 7, 3) := by decide +kernel
theorem d_E_keepName_74 : decode prog_5_method_3_code 74 = .ok (.iconst 1, 1) := by decide +kernel
theorem d_E_keepName_75 : decode prog_5_method_3_code 75 = .ok (.goto 4, 3) := by decide +kernel
theorem d_E_keepName_78 : decode prog_5_method_3_code 78 = .ok (.iconst 0, 1) := by decide +kernel
theorem d_E_keepName_79 : decode prog_5_method_3_code 79 = .ok (.putfield 32, 3) := by decide +kernel
theorem d_E_keepName_82 : decode prog_5_method_3_code 82 = .ok (.return_, 1) := by decide +kernel
theorem d_E_liesOver_0 : decode prog_5_method_6_code 0 = .ok (.aload_n 0, 1) := by decide +kernel
theorem d_E_liesOver_1 : decode prog_5_method_6_code 1 = .ok (.getfield 42, 3) := by decide +kernel
theorem d_E_liesOver_4 : decode prog_5_method_6_code 4 = .ok (.aload_n 1, 1) := by decide +kernel
theorem d_E_liesOver_5 : decode prog_5_method_6_code 5 = .ok (.invokevirtual 45, 3) := by decide +kernel
theorem d_E_liesOver_8 : decode prog_5_method_6_code 8 = .ok (.if_icmp .ge 18, 3) := by decide +kernel
theorem d_E_liesOver_11 : decode prog_5_method_6_code 11 = .ok (.aload_n 1, 1) := by decide +kernel
theorem d_E_liesOver_12 : decode prog_5_method_6_code 12 = .ok (.getfield 42, 3) := by decide +kernel
theorem d_E_liesOver_15 : decode prog_5_method_6_code 15 = .ok (.aload_n 0, 1) := by decide +kernel
theorem d_E_liesOver_16 : decode prog_5_method_6_code 16 = .ok (.invokevirtual 45, 3) := by decide +kernel
theorem d_E_liesOver_19 : decode prog_5_method_6_code 19 = .ok (.if_icmp .ge 7, 3) := by decide +kernel
theorem d_E_liesOver_22 : decode prog_5_method_6_code 22 = .ok (.iconst 1, 1) := by decide +kernel
theorem d_E_liesOver_23 : decode prog_5_method_6_code 23 = .ok (.goto 4, 3) := by decide +kernel
theorem d_E_liesOver_26 : decode prog_5_method_6_code 26 = .ok (.iconst 0, 1) := by decide +kernel
theorem d_E_liesOver_27 : decode prog_5_method_6_code 27 = .ok (.ireturn, 1) := by decide +kernel
set_option maxHeartbeats 4000000 in
set_option maxRecDepth 100000 in
theorem a_T_by (l : Launch) (D : va_G) (qt : Nat) (qb : Nat) (cB : ClassId) (f : Nat → Int32) (L : Int) (i : Int) (hL : 0 ≤ L ∧ L ≤ 20000) (hi : -2147483648 ≤ i ∧ i ≤ 2147483647) : Met l y_T_byteAt (Cond.code y_T_byteAt prog_6_method_6_code 2 (Option.some Jvm.ClassFile.FieldType.int) :: zt) { frames := 0, cells := 0, slots := 0, locals := 0 } (zPcR [.ref qt, .int (iI i)] D [(qt, .inr (1, [.ref qb, .int (iI L)])), (qb, .inl (cB, 20000, .inl f))] [(cB, .byte)] (fun _ => True)) (zQR (fun (r : Int32) => ∃ x : Int, r = iI x ∧ (x = zC1 f L i ∧ 0 ≤ x ∧ x ≤ 255))) 0 0 (fun _ => False) :=
  zMetR (by decide) (Nat.le_of_ble_eq_true rfl) (fun p e s m below meth c ls hx hb hr hml hown ht hlk hK hP hX hl => by
    have hl : lv_has ls 2 [(0, .ref qt), (1, .int (iI i))] := hl
    refine lv_iload_n hx hb d_T_byteAt_0 rfl (lv_at hl 1 rfl) ?_
    refine zv_if_lt (tgt := 25) hx hb d_T_byteAt_1 (by decide) (by omega) (fun hc_1 => ?_) (fun hc_1 => ?_)
    · skip
      refine lv_iconst (v := iI 0) hx hb d_T_byteAt_25 (by decide) ?_
      exact zretR hx hb hr hlk (⟨_, rfl, by unfold zC1; split <;> omega⟩) d_T_byteAt_26
    · skip
      refine lv_iload_n hx hb d_T_byteAt_4 rfl (lv_at hl 1 rfl) ?_
      refine lv_aload_n hx hb d_T_byteAt_5 rfl (lv_at hl 0 rfl) ?_
      refine va_get (ci := 1) (C := "ZipGuard$Tape") (T := F_T) (N := 2) hx hb ht zi_T hown hK hP 0 rfl rfl 1 (by decide) (ht _ zm_97) (fun _ h9 => h9) rfl d_T_byteAt_6 ?_
      refine zv_icmp_ge (tgt := 25) hx hb d_T_byteAt_9 (by decide) (by omega) (by omega) (fun hc_2 => ?_) (fun hc_2 => ?_)
      · skip
        refine lv_iconst (v := iI 0) hx hb d_T_byteAt_25 (by decide) ?_
        exact zretR hx hb hr hlk (⟨_, rfl, by unfold zC1; split <;> omega⟩) d_T_byteAt_26
      · skip
        refine lv_aload_n hx hb d_T_byteAt_12 rfl (lv_at hl 0 rfl) ?_
        refine va_get (ci := 1) (C := "ZipGuard$Tape") (T := F_T) (N := 2) hx hb ht zi_T hown hK hP 0 rfl rfl 0 (by decide) (ht _ zm_96) (fun _ h9 => h9) rfl d_T_byteAt_13 ?_
        refine lv_iload_n hx hb d_T_byteAt_16 rfl (lv_at hl 1 rfl) ?_
        refine zv_bald hx hb hK hP 1 0 rfl rfl (by omega) (by decide) d_T_byteAt_17 (fun x_3 hz_4 ha_5 ha_6 => ?_)
        refine lv_sipush (v := iI 255) hx hb d_T_byteAt_18 (by decide) ?_
        refine zv_byte (f := f) (k := i) hx hb d_T_byteAt_21 hz_4 (fun x_7 hz_8 ha_9 ha_10 => ?_)
        refine lv_goto (tgt := 26) hx hb d_T_byteAt_22 (by decide) ?_
        exact zretR hx hb hr hlk (⟨_, rfl, by unfold zC1; split <;> omega⟩) d_T_byteAt_26)
set_option maxHeartbeats 4000000 in
set_option maxRecDepth 100000 in
theorem a_T_two (l : Launch) (D : va_G) (qt : Nat) (qb : Nat) (cB : ClassId) (f : Nat → Int32) (L : Int) (i : Int) (hL : 0 ≤ L ∧ L ≤ 20000) (hi : -2147483648 ≤ i ∧ i ≤ 2147483644) : Met l y_T_twoAt (Cond.code y_T_twoAt prog_6_method_7_code 2 (Option.some Jvm.ClassFile.FieldType.int) :: zt) { frames := 1, cells := 0, slots := 0, locals := 21 } (zPcR [.ref qt, .int (iI i)] D [(qt, .inr (1, [.ref qb, .int (iI L)])), (qb, .inl (cB, 20000, .inl f))] [(cB, .byte)] (fun _ => True)) (zQR (fun (r : Int32) => ∃ x : Int, r = iI x ∧ (x = zg2 (zC1 f L) i ∧ 0 ≤ x ∧ x ≤ 65535))) 0 0 (fun _ => False) :=
  zMetR (by decide) (Nat.le_of_ble_eq_true rfl) (fun p e s m below meth c ls hx hb hr hml hown ht hlk hK hP hX hl => by
    have hl : lv_has ls 2 [(0, .ref qt), (1, .int (iI i))] := hl
    refine lv_aload_n hx hb d_T_twoAt_0 rfl (lv_at hl 0 rfl) ?_
    refine lv_iload_n hx hb d_T_twoAt_1 rfl (lv_at hl 1 rfl) ?_
    refine zjR (va_runV (As := [.int (iI i)]) (rest := []) ⟨hx, hb, hml, hown, ht⟩ (a_T_by l D qt qb cB f L i (by omega) (by omega)) (cwV 1 ht (zt_goodV zm_427 zm_428 zm_429 zm_66 zm_430) rfl rfl rfl (by decide +kernel) ⟨Nat.le_of_ble_eq_true rfl, Nat.le_of_ble_eq_true rfl⟩) (zpreRV zBlind_t hK hP [0, 1] [0] rfl rfl (fun _ _ _ => trivial) (va_recv (q := ("ZipGuard$Tape", F_T, 2)) hK hP rfl (q0 := 0) (ci := 1) rfl)) rfl rfl hl.1 rfl (lv_room (Nat.le_of_ble_eq_true rfl)) d_T_twoAt_2 ⟨Nat.le_of_ble_eq_true rfl, Nat.le_of_ble_eq_true rfl⟩) (fun r1 hp2 => ?_)
    obtain ⟨x_3, he_4, hp2⟩ := hp2
    subst he_4
    refine lv_aload_n hx hb d_T_twoAt_5 rfl (lv_at hl 0 rfl) ?_
    refine lv_iload_n hx hb d_T_twoAt_6 rfl (lv_at hl 1 rfl) ?_
    refine lv_iconst (v := iI 1) hx hb d_T_twoAt_7 (by decide) ?_
    refine zv_iadd (z := i + 1) hx hb d_T_twoAt_8 (by omega) ?_
    refine zjR (va_runV (As := [.int (iI (i + 1))]) (rest := [.int (iI x_3)]) ⟨hx, hb, hml, hown, ht⟩ (a_T_by l D qt qb cB f L (i + 1) (by omega) (by omega)) (cwV 1 ht (zt_goodV zm_427 zm_428 zm_429 zm_66 zm_430) rfl rfl rfl (by decide +kernel) ⟨Nat.le_of_ble_eq_true rfl, Nat.le_of_ble_eq_true rfl⟩) (zpreRV zBlind_t hK hP [0, 1] [0] rfl rfl (fun _ _ _ => trivial) (va_recv (q := ("ZipGuard$Tape", F_T, 2)) hK hP rfl (q0 := 0) (ci := 1) rfl)) rfl rfl hl.1 rfl (lv_room (Nat.le_of_ble_eq_true rfl)) d_T_twoAt_9 ⟨Nat.le_of_ble_eq_true rfl, Nat.le_of_ble_eq_true rfl⟩) (fun r5 hp6 => ?_)
    obtain ⟨x_7, he_8, hp6⟩ := hp6
    subst he_8
    refine lv_bipush (v := iI 8) hx hb d_T_twoAt_12 (by decide) ?_
    refine zv_ishl (z := 256 * x_7) hx hb 8 (by decide) d_T_twoAt_14 (by omega) ?_
    refine zv_iorA (y0 := x_7) (z := x_3 + 256 * x_7) hx hb 8 d_T_twoAt_15 (by omega) (by omega) (by omega) (by omega) (by omega) ?_
    exact zretR hx hb hr hlk (⟨_, rfl, by unfold zg2; omega⟩) d_T_twoAt_16)
set_option maxHeartbeats 4000000 in
set_option maxRecDepth 100000 in
theorem a_T_four (l : Launch) (D : va_G) (qt : Nat) (qb : Nat) (cB : ClassId) (f : Nat → Int32) (L : Int) (i : Int) (hL : 0 ≤ L ∧ L ≤ 20000) (hi : -2147483648 ≤ i ∧ i ≤ 2147483644) : Met l y_T_fourAt (Cond.code y_T_fourAt prog_6_method_8_code 2 (Option.some Jvm.ClassFile.FieldType.long) :: zt) { frames := 1, cells := 0, slots := 0, locals := 21 } (zPcR [.ref qt, .int (iI i)] D [(qt, .inr (1, [.ref qb, .int (iI L)])), (qb, .inl (cB, 20000, .inl f))] [(cB, .byte)] (fun _ => True)) (zQRl (fun (r : Int64) => ∃ x : Int, r = lI x ∧ (x = zg4 (zC1 f L) i ∧ 0 ≤ x ∧ x ≤ 4294967295))) 0 0 (fun _ => False) :=
  zMetR (by decide) (Nat.le_of_ble_eq_true rfl) (fun p e s m below meth c ls hx hb hr hml hown ht hlk hK hP hX hl => by
    have hl : lv_has ls 2 [(0, .ref qt), (1, .int (iI i))] := hl
    refine lv_aload_n hx hb d_T_fourAt_0 rfl (lv_at hl 0 rfl) ?_
    refine lv_iload_n hx hb d_T_fourAt_1 rfl (lv_at hl 1 rfl) ?_
    refine zjR (va_runV (As := [.int (iI i)]) (rest := []) ⟨hx, hb, hml, hown, ht⟩ (a_T_by l D qt qb cB f L i (by omega) (by omega)) (cwV 1 ht (zt_goodV zm_427 zm_428 zm_429 zm_66 zm_430) rfl rfl rfl (by decide +kernel) ⟨Nat.le_of_ble_eq_true rfl, Nat.le_of_ble_eq_true rfl⟩) (zpreRV zBlind_t hK hP [0, 1] [0] rfl rfl (fun _ _ _ => trivial) (va_recv (q := ("ZipGuard$Tape", F_T, 2)) hK hP rfl (q0 := 0) (ci := 1) rfl)) rfl rfl hl.1 rfl (lv_room (Nat.le_of_ble_eq_true rfl)) d_T_fourAt_2 ⟨Nat.le_of_ble_eq_true rfl, Nat.le_of_ble_eq_true rfl⟩) (fun r1 hp2 => ?_)
    obtain ⟨x_3, he_4, hp2⟩ := hp2
    subst he_4
    refine lv_aload_n hx hb d_T_fourAt_5 rfl (lv_at hl 0 rfl) ?_
    refine lv_iload_n hx hb d_T_fourAt_6 rfl (lv_at hl 1 rfl) ?_
    refine lv_iconst (v := iI 1) hx hb d_T_fourAt_7 (by decide) ?_
    refine zv_iadd (z := i + 1) hx hb d_T_fourAt_8 (by omega) ?_
    refine zjR (va_runV (As := [.int (iI (i + 1))]) (rest := [.int (iI x_3)]) ⟨hx, hb, hml, hown, ht⟩ (a_T_by l D qt qb cB f L (i + 1) (by omega) (by omega)) (cwV 1 ht (zt_goodV zm_427 zm_428 zm_429 zm_66 zm_430) rfl rfl rfl (by decide +kernel) ⟨Nat.le_of_ble_eq_true rfl, Nat.le_of_ble_eq_true rfl⟩) (zpreRV zBlind_t hK hP [0, 1] [0] rfl rfl (fun _ _ _ => trivial) (va_recv (q := ("ZipGuard$Tape", F_T, 2)) hK hP rfl (q0 := 0) (ci := 1) rfl)) rfl rfl hl.1 rfl (lv_room (Nat.le_of_ble_eq_true rfl)) d_T_fourAt_9 ⟨Nat.le_of_ble_eq_true rfl, Nat.le_of_ble_eq_true rfl⟩) (fun r5 hp6 => ?_)
    obtain ⟨x_7, he_8, hp6⟩ := hp6
    subst he_8
    refine lv_bipush (v := iI 8) hx hb d_T_fourAt_12 (by decide) ?_
    refine zv_ishl (z := 256 * x_7) hx hb 8 (by decide) d_T_fourAt_14 (by omega) ?_
    refine zv_iorA (y0 := x_7) (z := x_3 + 256 * x_7) hx hb 8 d_T_fourAt_15 (by omega) (by omega) (by omega) (by omega) (by omega) ?_
    refine lv_aload_n hx hb d_T_fourAt_16 rfl (lv_at hl 0 rfl) ?_
    refine lv_iload_n hx hb d_T_fourAt_17 rfl (lv_at hl 1 rfl) ?_
    refine lv_iconst (v := iI 2) hx hb d_T_fourAt_18 (by decide) ?_
    refine zv_iadd (z := i + 2) hx hb d_T_fourAt_19 (by omega) ?_
    refine zjR (va_runV (As := [.int (iI (i + 2))]) (rest := [.int (iI (x_3 + 256 * x_7))]) ⟨hx, hb, hml, hown, ht⟩ (a_T_by l D qt qb cB f L (i + 2) (by omega) (by omega)) (cwV 1 ht (zt_goodV zm_427 zm_428 zm_429 zm_66 zm_430) rfl rfl rfl (by decide +kernel) ⟨Nat.le_of_ble_eq_true rfl, Nat.le_of_ble_eq_true rfl⟩) (zpreRV zBlind_t hK hP [0, 1] [0] rfl rfl (fun _ _ _ => trivial) (va_recv (q := ("ZipGuard$Tape", F_T, 2)) hK hP rfl (q0 := 0) (ci := 1) rfl)) rfl rfl hl.1 rfl (lv_room (Nat.le_of_ble_eq_true rfl)) d_T_fourAt_20 ⟨Nat.le_of_ble_eq_true rfl, Nat.le_of_ble_eq_true rfl⟩) (fun r9 hp10 => ?_)
    obtain ⟨x_11, he_12, hp10⟩ := hp10
    subst he_12
    refine lv_bipush (v := iI 16) hx hb d_T_fourAt_23 (by decide) ?_
    refine zv_ishl (z := 65536 * x_11) hx hb 16 (by decide) d_T_fourAt_25 (by omega) ?_
    refine zv_iorA (y0 := x_11) (z := x_3 + 256 * x_7 + 65536 * x_11) hx hb 16 d_T_fourAt_26 (by omega) (by omega) (by omega) (by omega) (by omega) ?_
    refine zv_i2l hx hb d_T_fourAt_27 (by omega) ?_
    refine lv_aload_n hx hb d_T_fourAt_28 rfl (lv_at hl 0 rfl) ?_
    refine lv_iload_n hx hb d_T_fourAt_29 rfl (lv_at hl 1 rfl) ?_
    refine lv_iconst (v := iI 3) hx hb d_T_fourAt_30 (by decide) ?_
    refine zv_iadd (z := i + 3) hx hb d_T_fourAt_31 (by omega) ?_
    refine zjR (va_runV (As := [.int (iI (i + 3))]) (rest := [.long (lI (x_3 + 256 * x_7 + 65536 * x_11))]) ⟨hx, hb, hml, hown, ht⟩ (a_T_by l D qt qb cB f L (i + 3) (by omega) (by omega)) (cwV 1 ht (zt_goodV zm_427 zm_428 zm_429 zm_66 zm_430) rfl rfl rfl (by decide +kernel) ⟨Nat.le_of_ble_eq_true rfl, Nat.le_of_ble_eq_true rfl⟩) (zpreRV zBlind_t hK hP [0, 1] [0] rfl rfl (fun _ _ _ => trivial) (va_recv (q := ("ZipGuard$Tape", F_T, 2)) hK hP rfl (q0 := 0) (ci := 1) rfl)) rfl rfl hl.1 rfl (lv_room (Nat.le_of_ble_eq_true rfl)) d_T_fourAt_32 ⟨Nat.le_of_ble_eq_true rfl, Nat.le_of_ble_eq_true rfl⟩) (fun r13 hp14 => ?_)
    obtain ⟨x_15, he_16, hp14⟩ := hp14
    subst he_16
    refine zv_i2l hx hb d_T_fourAt_35 (by omega) ?_
    refine lv_bipush (v := iI 24) hx hb d_T_fourAt_36 (by decide) ?_
    refine zv_lshl (z := 16777216 * x_15) hx hb 24 (by decide) d_T_fourAt_38 (by omega) ?_
    refine zv_lorA (y0 := x_15) (z := x_3 + 256 * x_7 + 65536 * x_11 + 16777216 * x_15) hx hb 24 d_T_fourAt_39 (by omega) (by omega) (by omega) (by omega) (by omega) ?_
    exact zretRl hx hb hr hlk (⟨_, rfl, by unfold zg4; omega⟩) d_T_fourAt_40)
set_option maxHeartbeats 4000000 in
set_option maxRecDepth 100000 in
theorem a_T_mark (l : Launch) (D : va_G) (qt : Nat) (qb : Nat) (cB : ClassId) (f : Nat → Int32) (L : Int) (i : Int) (x3 : Int) (x4 : Int) (hL : 0 ≤ L ∧ L ≤ 20000) (hi : -2147483648 ≤ i ∧ i ≤ 2147483644) (h3 : -2147483648 ≤ x3 ∧ x3 ≤ 2147483647) (h4 : -2147483648 ≤ x4 ∧ x4 ≤ 2147483647) : Met l y_T_hasMarkAt (Cond.code y_T_hasMarkAt prog_6_method_9_code 4 (Option.some Jvm.ClassFile.FieldType.boolean) :: zt) { frames := 1, cells := 0, slots := 0, locals := 21 } (zPcR [.ref qt, .int (iI i), .int (iI x3), .int (iI x4)] D [(qt, .inr (1, [.ref qb, .int (iI L)])), (qb, .inl (cB, 20000, .inl f))] [(cB, .byte)] (fun _ => True)) (zQR (fun (r : Int32) => ∃ x : Int, r = iI x ∧ ((zTf x (zMk (zC1 f L) i x3 x4)) ∧ 0 ≤ x ∧ x ≤ 1))) 0 0 (fun _ => False) :=
  zMetR (by decide) (Nat.le_of_ble_eq_true rfl) (fun p e s m below meth c ls hx hb hr hml hown ht hlk hK hP hX hl => by
    have hl : lv_has ls 4 [(0, .ref qt), (1, .int (iI i)), (2, .int (iI x3)), (3, .int (iI x4))] := hl
    refine lv_aload_n hx hb d_T_hasMarkAt_0 rfl (lv_at hl 0 rfl) ?_
    refine lv_iload_n hx hb d_T_hasMarkAt_1 rfl (lv_at hl 1 rfl) ?_
    refine zjR (va_runV (As := [.int (iI i)]) (rest := []) ⟨hx, hb, hml, hown, ht⟩ (a_T_by l D qt qb cB f L i (by omega) (by omega)) (cwV 1 ht (zt_goodV zm_427 zm_428 zm_429 zm_66 zm_430) rfl rfl rfl (by decide +kernel) ⟨Nat.le_of_ble_eq_true rfl, Nat.le_of_ble_eq_true rfl⟩) (zpreRV zBlind_t hK hP [0, 1] [0] rfl rfl (fun _ _ _ => trivial) (va_recv (q := ("ZipGuard$Tape", F_T, 2)) hK hP rfl (q0 := 0) (ci := 1) rfl)) rfl rfl hl.1 rfl (lv_room (Nat.le_of_ble_eq_true rfl)) d_T_hasMarkAt_2 ⟨Nat.le_of_ble_eq_true rfl, Nat.le_of_ble_eq_true rfl⟩) (fun r1 hp2 => ?_)
    obtain ⟨x_3, he_4, hp2⟩ := hp2
    subst he_4
    refine lv_bipush (v := iI 80) hx hb d_T_hasMarkAt_5 (by decide) ?_
    refine zv_icmp_ne (tgt := 48) hx hb d_T_hasMarkAt_7 (by decide) (by omega) (by omega) (fun hc_5 => ?_) (fun hc_5 => ?_)
    · skip
      refine lv_iconst (v := iI 0) hx hb d_T_hasMarkAt_48 (by decide) ?_
      exact zretRz hx hb hr hlk (⟨_, rfl, by unfold zTf zMk; omega, by omega⟩) (zn01 (by omega)) d_T_hasMarkAt_49
    · skip
      refine lv_aload_n hx hb d_T_hasMarkAt_10 rfl (lv_at hl 0 rfl) ?_
      refine lv_iload_n hx hb d_T_hasMarkAt_11 rfl (lv_at hl 1 rfl) ?_
      refine lv_iconst (v := iI 1) hx hb d_T_hasMarkAt_12 (by decide) ?_
      refine zv_iadd (z := i + 1) hx hb d_T_hasMarkAt_13 (by omega) ?_
      refine zjR (va_runV (As := [.int (iI (i + 1))]) (rest := []) ⟨hx, hb, hml, hown, ht⟩ (a_T_by l D qt qb cB f L (i + 1) (by omega) (by omega)) (cwV 1 ht (zt_goodV zm_427 zm_428 zm_429 zm_66 zm_430) rfl rfl rfl (by decide +kernel) ⟨Nat.le_of_ble_eq_true rfl, Nat.le_of_ble_eq_true rfl⟩) (zpreRV zBlind_t hK hP [0, 1] [0] rfl rfl (fun _ _ _ => trivial) (va_recv (q := ("ZipGuard$Tape", F_T, 2)) hK hP rfl (q0 := 0) (ci := 1) rfl)) rfl rfl hl.1 rfl (lv_room (Nat.le_of_ble_eq_true rfl)) d_T_hasMarkAt_14 ⟨Nat.le_of_ble_eq_true rfl, Nat.le_of_ble_eq_true rfl⟩) (fun r6 hp7 => ?_)
      obtain ⟨x_8, he_9, hp7⟩ := hp7
      subst he_9
      refine lv_bipush (v := iI 75) hx hb d_T_hasMarkAt_17 (by decide) ?_
      refine zv_icmp_ne (tgt := 48) hx hb d_T_hasMarkAt_19 (by decide) (by omega) (by omega) (fun hc_10 => ?_) (fun hc_10 => ?_)
      · skip
        refine lv_iconst (v := iI 0) hx hb d_T_hasMarkAt_48 (by decide) ?_
        exact zretRz hx hb hr hlk (⟨_, rfl, by unfold zTf zMk; omega, by omega⟩) (zn01 (by omega)) d_T_hasMarkAt_49
      · skip
        refine lv_aload_n hx hb d_T_hasMarkAt_22 rfl (lv_at hl 0 rfl) ?_
        refine lv_iload_n hx hb d_T_hasMarkAt_23 rfl (lv_at hl 1 rfl) ?_
        refine lv_iconst (v := iI 2) hx hb d_T_hasMarkAt_24 (by decide) ?_
        refine zv_iadd (z := i + 2) hx hb d_T_hasMarkAt_25 (by omega) ?_
        refine zjR (va_runV (As := [.int (iI (i + 2))]) (rest := []) ⟨hx, hb, hml, hown, ht⟩ (a_T_by l D qt qb cB f L (i + 2) (by omega) (by omega)) (cwV 1 ht (zt_goodV zm_427 zm_428 zm_429 zm_66 zm_430) rfl rfl rfl (by decide +kernel) ⟨Nat.le_of_ble_eq_true rfl, Nat.le_of_ble_eq_true rfl⟩) (zpreRV zBlind_t hK hP [0, 1] [0] rfl rfl (fun _ _ _ => trivial) (va_recv (q := ("ZipGuard$Tape", F_T, 2)) hK hP rfl (q0 := 0) (ci := 1) rfl)) rfl rfl hl.1 rfl (lv_room (Nat.le_of_ble_eq_true rfl)) d_T_hasMarkAt_26 ⟨Nat.le_of_ble_eq_true rfl, Nat.le_of_ble_eq_true rfl⟩) (fun r11 hp12 => ?_)
        obtain ⟨x_13, he_14, hp12⟩ := hp12
        subst he_14
        refine lv_iload_n hx hb d_T_hasMarkAt_29 rfl (lv_at hl 2 rfl) ?_
        refine zv_icmp_ne (tgt := 48) hx hb d_T_hasMarkAt_30 (by decide) (by omega) (by omega) (fun hc_15 => ?_) (fun hc_15 => ?_)
        · skip
          refine lv_iconst (v := iI 0) hx hb d_T_hasMarkAt_48 (by decide) ?_
          exact zretRz hx hb hr hlk (⟨_, rfl, by unfold zTf zMk; omega, by omega⟩) (zn01 (by omega)) d_T_hasMarkAt_49
        · skip
          refine lv_aload_n hx hb d_T_hasMarkAt_33 rfl (lv_at hl 0 rfl) ?_
          refine lv_iload_n hx hb d_T_hasMarkAt_34 rfl (lv_at hl 1 rfl) ?_
          refine lv_iconst (v := iI 3) hx hb d_T_hasMarkAt_35 (by decide) ?_
          refine zv_iadd (z := i + 3) hx hb d_T_hasMarkAt_36 (by omega) ?_
          refine zjR (va_runV (As := [.int (iI (i + 3))]) (rest := []) ⟨hx, hb, hml, hown, ht⟩ (a_T_by l D qt qb cB f L (i + 3) (by omega) (by omega)) (cwV 1 ht (zt_goodV zm_427 zm_428 zm_429 zm_66 zm_430) rfl rfl rfl (by decide +kernel) ⟨Nat.le_of_ble_eq_true rfl, Nat.le_of_ble_eq_true rfl⟩) (zpreRV zBlind_t hK hP [0, 1] [0] rfl rfl (fun _ _ _ => trivial) (va_recv (q := ("ZipGuard$Tape", F_T, 2)) hK hP rfl (q0 := 0) (ci := 1) rfl)) rfl rfl hl.1 rfl (lv_room (Nat.le_of_ble_eq_true rfl)) d_T_hasMarkAt_37 ⟨Nat.le_of_ble_eq_true rfl, Nat.le_of_ble_eq_true rfl⟩) (fun r16 hp17 => ?_)
          obtain ⟨x_18, he_19, hp17⟩ := hp17
          subst he_19
          refine lv_iload_n hx hb d_T_hasMarkAt_40 rfl (lv_at hl 3 rfl) ?_
          refine zv_icmp_ne (tgt := 48) hx hb d_T_hasMarkAt_41 (by decide) (by omega) (by omega) (fun hc_20 => ?_) (fun hc_20 => ?_)
          · skip
            refine lv_iconst (v := iI 0) hx hb d_T_hasMarkAt_48 (by decide) ?_
            exact zretRz hx hb hr hlk (⟨_, rfl, by unfold zTf zMk; omega, by omega⟩) (zn01 (by omega)) d_T_hasMarkAt_49
          · skip
            refine lv_iconst (v := iI 1) hx hb d_T_hasMarkAt_44 (by decide) ?_
            refine lv_goto (tgt := 49) hx hb d_T_hasMarkAt_45 (by decide) ?_
            exact zretRz hx hb hr hlk (⟨_, rfl, by unfold zTf zMk; omega, by omega⟩) (zn01 (by omega)) d_T_hasMarkAt_49)
set_option maxHeartbeats 4000000 in
set_option maxRecDepth 100000 in
theorem a_T_same (l : Launch) (D : va_G) (qt : Nat) (qb : Nat) (cB : ClassId) (f : Nat → Int32) (L : Int) (i : Int) (i2 : Int) (n : Int) (hL : 0 ≤ L ∧ L ≤ 20000) (hi : 0 ≤ i ∧ i ≤ 1000000) (hi2 : 0 ≤ i2 ∧ i2 ≤ 1000000) (hn : 0 ≤ n ∧ n ≤ 65535) : Met l y_T_isSame (Cond.code y_T_isSame prog_6_method_10_code 5 (Option.some Jvm.ClassFile.FieldType.boolean) :: zt) { frames := 1, cells := 0, slots := 0, locals := 21 } (zPcR [.ref qt, .int (iI i), .int (iI i2), .int (iI n)] D [(qt, .inr (1, [.ref qb, .int (iI L)])), (qb, .inl (cB, 20000, .inl f))] [(cB, .byte)] (fun _ => True)) (zQR (fun (r : Int32) => ∃ x : Int, r = iI x ∧ ((zTf x (zSm (zC1 f L) i i2 n)) ∧ 0 ≤ x ∧ x ≤ 1))) 0 0 (fun _ => False) :=
  zMetR (by decide) (Nat.le_of_ble_eq_true rfl) (fun p e s m below meth c ls hx hb hr hml hown ht hlk hK hP hX hl => by
    have hl : lv_has ls 5 [(0, .ref qt), (1, .int (iI i)), (2, .int (iI i2)), (3, .int (iI n))] := hl
    refine lv_iconst (v := iI 0) hx hb d_T_isSame_0 (by decide) ?_
    refine lv_istore (lv' := [(4, .int (iI 0)), (0, .ref qt), (1, .int (iI i)), (2, .int (iI i2)), (3, .int (iI n))]) hx hb d_T_isSame_1 hl (by decide) rfl (fun ls hl => ?_)
    have lp3 : ∀ (j : Nat) (k : Int) (ls : Array Slot), (0 ≤ k ∧ k ≤ n) → (zSm (zC1 f L) i i2 k) → (n - k < (j : Int)) → lv_has ls 5 [(4, .int (iI k)), (0, .ref qt), (1, .int (iI i)), (2, .int (iI i2)), (3, .int (iI n))] → W p l e { frames := 1, cells := 0, slots := 0, locals := 21 } s m [.ref qt, .int (iI i), .int (iI i2), .int (iI n)].toArray below meth c s.heap [] 0 0 (MQ below (zQR (fun (r : Int32) => ∃ x : Int, r = iI x ∧ ((zTf x (zSm (zC1 f L) i i2 n)) ∧ 0 ≤ x ∧ x ≤ 1))) [.ref qt, .int (iI i), .int (iI i2), .int (iI n)].toArray s 0 0 (fun _ => False)) (F0 m 3 ls []) := by
      intro j
      induction j with
      | zero => intro k ls hk1 hsm hj3 hl; exfalso; omega
      | succ j ih3 =>
        intro k ls hk1 hsm hj3 hl
        refine lv_iload hx hb d_T_isSame_3 (lv_at hl 0 rfl) ?_
        refine lv_iload_n hx hb d_T_isSame_5 rfl (lv_at hl 4 rfl) ?_
        refine zv_icmp_ge (tgt := 36) hx hb d_T_isSame_6 (by decide) (by omega) (by omega) (fun hc_1 => ?_) (fun hc_1 => ?_)
        · skip
          refine lv_iconst (v := iI 1) hx hb d_T_isSame_36 (by decide) ?_
          exact zretRz hx hb hr hlk (⟨_, rfl, zTf_1 (zSm_le hsm (by omega)), by omega⟩) (zn01 (by omega)) d_T_isSame_37
        · skip
          refine lv_aload_n hx hb d_T_isSame_9 rfl (lv_at hl 1 rfl) ?_
          refine lv_iload_n hx hb d_T_isSame_10 rfl (lv_at hl 2 rfl) ?_
          refine lv_iload hx hb d_T_isSame_11 (lv_at hl 0 rfl) ?_
          refine zv_iadd (z := i + k) hx hb d_T_isSame_13 (by omega) ?_
          refine zjR (va_runV (As := [.int (iI (i + k))]) (rest := []) ⟨hx, hb, hml, hown, ht⟩ (a_T_by l D qt qb cB f L (i + k) (by omega) (by omega)) (cwV 1 ht (zt_goodV zm_427 zm_428 zm_429 zm_66 zm_430) rfl rfl rfl (by decide +kernel) ⟨Nat.le_of_ble_eq_true rfl, Nat.le_of_ble_eq_true rfl⟩) (zpreRV zBlind_t hK hP [0, 1] [0] rfl rfl (fun _ _ _ => trivial) (va_recv (q := ("ZipGuard$Tape", F_T, 2)) hK hP rfl (q0 := 0) (ci := 1) rfl)) rfl rfl hl.1 rfl (lv_room (Nat.le_of_ble_eq_true rfl)) d_T_isSame_14 ⟨Nat.le_of_ble_eq_true rfl, Nat.le_of_ble_eq_true rfl⟩) (fun r2 hp3 => ?_)
          obtain ⟨x_4, he_5, hp3⟩ := hp3
          subst he_5
          refine lv_aload_n hx hb d_T_isSame_17 rfl (lv_at hl 1 rfl) ?_
          refine lv_iload_n hx hb d_T_isSame_18 rfl (lv_at hl 3 rfl) ?_
          refine lv_iload hx hb d_T_isSame_19 (lv_at hl 0 rfl) ?_
          refine zv_iadd (z := i2 + k) hx hb d_T_isSame_21 (by omega) ?_
          refine zjR (va_runV (As := [.int (iI (i2 + k))]) (rest := [.int (iI x_4)]) ⟨hx, hb, hml, hown, ht⟩ (a_T_by l D qt qb cB f L (i2 + k) (by omega) (by omega)) (cwV 1 ht (zt_goodV zm_427 zm_428 zm_429 zm_66 zm_430) rfl rfl rfl (by decide +kernel) ⟨Nat.le_of_ble_eq_true rfl, Nat.le_of_ble_eq_true rfl⟩) (zpreRV zBlind_t hK hP [0, 1] [0] rfl rfl (fun _ _ _ => trivial) (va_recv (q := ("ZipGuard$Tape", F_T, 2)) hK hP rfl (q0 := 0) (ci := 1) rfl)) rfl rfl hl.1 rfl (lv_room (Nat.le_of_ble_eq_true rfl)) d_T_isSame_22 ⟨Nat.le_of_ble_eq_true rfl, Nat.le_of_ble_eq_true rfl⟩) (fun r6 hp7 => ?_)
          obtain ⟨x_8, he_9, hp7⟩ := hp7
          subst he_9
          refine zv_icmp_eq (tgt := 30) hx hb d_T_isSame_25 (by decide) (by omega) (by omega) (fun hc_10 => ?_) (fun hc_10 => ?_)
          · skip
            refine lv_iinc (k := 0) (v := iI (k + 1)) (lv' := [(4, .int (iI (k + 1))), (0, .ref qt), (1, .int (iI i)), (2, .int (iI i2)), (3, .int (iI n))]) hx hb d_T_isSame_30 hl rfl (zinc (by omega)) (by decide) rfl (fun ls hl => ?_)
            refine lv_goto (tgt := 3) hx hb d_T_isSame_33 (by decide) ?_
            exact ih3 (k + 1) _ (by omega) (zSm_s hsm (by omega)) (by omega) hl
          · skip
            refine lv_iconst (v := iI 0) hx hb d_T_isSame_28 (by decide) ?_
            exact zretRz hx hb hr hlk (⟨_, rfl, zTf_0 (zSm_no (t := k) (by omega) (by omega)), by omega⟩) (zn01 (by omega)) d_T_isSame_29
    exact lp3 ((n - 0 + 1 : Int)).toNat 0 _ (by omega) (fun t h1 h2 => absurd h2 (by omega)) (by omega) hl)
set_option maxHeartbeats 4000000 in
set_option maxRecDepth 100000 in
theorem a_E_forget (l : Launch) (D : va_G) (sz : Nat) (qe : Nat) (qnb : Nat) (nl : Int) (fo : Int) (me : Int) (pk : Int) (ez : Int) (su : Int) (lp : Int) (pp : Int) (st : Int) (op : Int) (ol : Int)  : Met l y_E_forgetWhatIsWritten (Cond.code y_E_forgetWhatIsWritten prog_5_method_2_code 1 (Option.none : Option Jvm.ClassFile.FieldType) :: zt) { frames := 0, cells := 0, slots := 0, locals := 0 } (zPc [.ref qe] D [(qe, .inr (7, [.ref qnb, .int (iI nl), .int (iI fo), .int (iI me), .int (iI pk), .long (lI ez), .int (iI su), .int (iI lp), .int (iI pp), .int (iI st), .int (iI op), .int (iI ol)]))] [] sz (fun _ => True)) (va_Qv (fun (_ : Unit) => True) (fun u9 t => zB D ((fun (_ : Unit) => [(qe, .inr (7, [.ref qnb, .int (iI nl), .int (iI fo), .int (iI me), .int (iI pk), .long (lI ez), .int (iI su), .int (iI lp), .int (iI pp), .int (iI 0), .int (iI 0), .int (iI 0)]))]) u9) ((fun (_ : Unit) => []) u9) (va_A [(qe, .inr (7, [.ref qnb, .int (iI nl), .int (iI fo), .int (iI me), .int (iI pk), .long (lI ez), .int (iI su), .int (iI lp), .int (iI pp), .int (iI st), .int (iI op), .int (iI ol)]))] sz) t) (va_A [(qe, .inr (7, [.ref qnb, .int (iI nl), .int (iI fo), .int (iI me), .int (iI pk), .long (lI ez), .int (iI su), .int (iI lp), .int (iI pp), .int (iI st), .int (iI op), .int (iI ol)]))] sz)) 0 0 (va_A [(qe, .inr (7, [.ref qnb, .int (iI nl), .int (iI fo), .int (iI me), .int (iI pk), .long (lI ez), .int (iI su), .int (iI lp), .int (iI pp), .int (iI st), .int (iI op), .int (iI ol)]))] sz) :=
  zMet (Qf := fun A => va_Qv (fun (_ : Unit) => True) (fun u9 t => zB D ((fun (_ : Unit) => [(qe, .inr (7, [.ref qnb, .int (iI nl), .int (iI fo), .int (iI me), .int (iI pk), .long (lI ez), .int (iI su), .int (iI lp), .int (iI pp), .int (iI 0), .int (iI 0), .int (iI 0)]))]) u9) ((fun (_ : Unit) => []) u9) A t) A) (by decide) (Nat.le_of_ble_eq_true rfl) (fun p e s m below meth c A ls hx hb hr hml hown ht hlk hnm hA hK hP hD hX hl => by
    have hS : va_S A s.heap s.heap [] := va_S.rf
    have hl : lv_has ls 1 [(0, .ref qe)] := hl
    refine lv_aload_n hx hb d_E_forgetWhatIsWritten_0 rfl (lv_at hl 0 rfl) ?_
    refine lv_iconst (v := iI 0) hx hb d_E_forgetWhatIsWritten_1 (by decide) ?_
    refine va_put (ci := 7) (v := .int (iI 0)) (ty := .int) (C := "ZipGuard$Entry") (T := F_E) (N := 12) hx hb ht zi_E ty_E tk_E nm_E hown hK hP hD hS 0 rfl rfl 9 (by decide) (ht _ zm_145) (fun _ h9 => h9) rfl (by decide +kernel) rfl rfl (Nat.le_of_ble_eq_true rfl) d_E_forgetWhatIsWritten_2 (fun H locs hP hD hS => ?_)
    have hP : va_P D zcl [(qe, .inr (7, [.ref qnb, .int (iI nl), .int (iI fo), .int (iI me), .int (iI pk), .long (lI ez), .int (iI su), .int (iI lp), .int (iI pp), .int (iI 0), .int (iI op), .int (iI ol)]))] H := hP
    have hD : va_D A [(qe, .inr (7, [.ref qnb, .int (iI nl), .int (iI fo), .int (iI me), .int (iI pk), .long (lI ez), .int (iI su), .int (iI lp), .int (iI pp), .int (iI 0), .int (iI op), .int (iI ol)]))] := hD
    refine lv_aload_n hx hb d_E_forgetWhatIsWritten_5 rfl (lv_at hl 0 rfl) ?_
    refine lv_iconst (v := iI 0) hx hb d_E_forgetWhatIsWritten_6 (by decide) ?_
    refine va_put (ci := 7) (v := .int (iI 0)) (ty := .int) (C := "ZipGuard$Entry") (T := F_E) (N := 12) hx hb ht zi_E ty_E tk_E nm_E hown hK hP hD hS 0 rfl rfl 10 (by decide) (ht _ zm_148) (fun _ h9 => h9) rfl (by decide +kernel) rfl rfl (Nat.le_of_ble_eq_true rfl) d_E_forgetWhatIsWritten_7 (fun H locs hP hD hS => ?_)
    have hP : va_P D zcl [(qe, .inr (7, [.ref qnb, .int (iI nl), .int (iI fo), .int (iI me), .int (iI pk), .long (lI ez), .int (iI su), .int (iI lp), .int (iI pp), .int (iI 0), .int (iI 0), .int (iI ol)]))] H := hP
    have hD : va_D A [(qe, .inr (7, [.ref qnb, .int (iI nl), .int (iI fo), .int (iI me), .int (iI pk), .long (lI ez), .int (iI su), .int (iI lp), .int (iI pp), .int (iI 0), .int (iI 0), .int (iI ol)]))] := hD
    refine lv_aload_n hx hb d_E_forgetWhatIsWritten_10 rfl (lv_at hl 0 rfl) ?_
    refine lv_iconst (v := iI 0) hx hb d_E_forgetWhatIsWritten_11 (by decide) ?_
    refine va_put (ci := 7) (v := .int (iI 0)) (ty := .int) (C := "ZipGuard$Entry") (T := F_E) (N := 12) hx hb ht zi_E ty_E tk_E nm_E hown hK hP hD hS 0 rfl rfl 11 (by decide) (ht _ zm_150) (fun _ h9 => h9) rfl (by decide +kernel) rfl rfl (Nat.le_of_ble_eq_true rfl) d_E_forgetWhatIsWritten_12 (fun H locs hP hD hS => ?_)
    have hP : va_P D zcl [(qe, .inr (7, [.ref qnb, .int (iI nl), .int (iI fo), .int (iI me), .int (iI pk), .long (lI ez), .int (iI su), .int (iI lp), .int (iI pp), .int (iI 0), .int (iI 0), .int (iI 0)]))] H := hP
    have hD : va_D A [(qe, .inr (7, [.ref qnb, .int (iI nl), .int (iI fo), .int (iI me), .int (iI pk), .long (lI ez), .int (iI su), .int (iI lp), .int (iI pp), .int (iI 0), .int (iI 0), .int (iI 0)]))] := hD
    exact zretv hx hb hr hlk hK hP hD hS () [0] [] rfl (by decide) rfl (trivial) (Nat.le_of_ble_eq_true rfl) (Nat.le_of_ble_eq_true rfl) d_E_forgetWhatIsWritten_15)
set_option maxHeartbeats 4000000 in
set_option maxRecDepth 100000 in
theorem a_E_keep (l : Launch) (D : va_G) (sz : Nat) (qt : Nat) (qb : Nat) (cB : ClassId) (f : Nat → Int32) (L : Int) (cN : ClassId) (qe : Nat) (qnb : Nat) (nl : Int) (fo : Int) (me : Int) (pk : Int) (ez : Int) (su : Int) (lp : Int) (pp : Int) (st : Int) (op : Int) (ol : Int) (nf : Nat → Int32) (k0 : Int) (n : Int) (hL : 0 ≤ L ∧ L ≤ 20000) (hk : 0 ≤ k0 ∧ k0 ≤ 1000000 ∧ 1 ≤ n ∧ n ≤ 60) : Met l y_E_keepName (Cond.code y_E_keepName prog_5_method_3_code 5 (Option.none : Option Jvm.ClassFile.FieldType) :: zt) { frames := 1, cells := 0, slots := 0, locals := 21 } (zPc [.ref qe, .ref qt, .int (iI k0), .int (iI n)] D [(qt, .inr (1, [.ref qb, .int (iI L)])), (qb, .inl (cB, 20000, .inl f)), (qe, .inr (7, [.ref qnb, .int (iI nl), .int (iI fo), .int (iI me), .int (iI pk), .long (lI ez), .int (iI su), .int (iI lp), .int (iI pp), .int (iI st), .int (iI op), .int (iI ol)])), (qnb, .inl (cN, 60, .inl nf))] [(cB, .byte), (cN, .byte)] sz (fun _ => True)) (va_Qv (fun (u9 : Int × Int × (Nat → Int32)) => match u9 with | (nl1, fo1, nf1) => (zTf fo1 (zrI nf1 (n - 1) = 47)) ∧ (∀ t : Int, 0 ≤ t → t < n → zrI nf1 t = zkb (zC1 f L) k0 t) ∧ nl1 = n ∧ 0 ≤ fo1 ∧ fo1 ≤ 1) (fun u9 t => zB D ((fun (u9 : Int × Int × (Nat → Int32)) => match u9 with | (nl1, fo1, nf1) => [(qt, .inr (1, [.ref qb, .int (iI L)])), (qb, .inl (cB, 20000, .inl f)), (qe, .inr (7, [.ref qnb, .int (iI nl1), .int (iI fo1), .int (iI me), .int (iI pk), .long (lI ez), .int (iI su), .int (iI lp), .int (iI pp), .int (iI st), .int (iI op), .int (iI ol)])), (qnb, .inl (cN, 60, .inl nf1))]) u9) ((fun (u9 : Int × Int × (Nat → Int32)) => match u9 with | (nl1, fo1, nf1) => [(cB, .byte), (cN, .byte)]) u9) (va_A [(qt, .inr (1, [.ref qb, .int (iI L)])), (qb, .inl (cB, 20000, .inl f)), (qe, .inr (7, [.ref qnb, .int (iI nl), .int (iI fo), .int (iI me), .int (iI pk), .long (lI ez), .int (iI su), .int (iI lp), .int (iI pp), .int (iI st), .int (iI op), .int (iI ol)])), (qnb, .inl (cN, 60, .inl nf))] sz) t) (va_A [(qt, .inr (1, [.ref qb, .int (iI L)])), (qb, .inl (cB, 20000, .inl f)), (qe, .inr (7, [.ref qnb, .int (iI nl), .int (iI fo), .int (iI me), .int (iI pk), .long (lI ez), .int (iI su), .int (iI lp), .int (iI pp), .int (iI st), .int (iI op), .int (iI ol)])), (qnb, .inl (cN, 60, .inl nf))] sz)) 0 0 (va_A [(qt, .inr (1, [.ref qb, .int (iI L)])), (qb, .inl (cB, 20000, .inl f)), (qe, .inr (7, [.ref qnb, .int (iI nl), .int (iI fo), .int (iI me), .int (iI pk), .long (lI ez), .int (iI su), .int (iI lp), .int (iI pp), .int (iI st), .int (iI op), .int (iI ol)])), (qnb, .inl (cN, 60, .inl nf))] sz) :=
  zMet (Qf := fun A => va_Qv (fun (u9 : Int × Int × (Nat → Int32)) => match u9 with | (nl1, fo1, nf1) => (zTf fo1 (zrI nf1 (n - 1) = 47)) ∧ (∀ t : Int, 0 ≤ t → t < n → zrI nf1 t = zkb (zC1 f L) k0 t) ∧ nl1 = n ∧ 0 ≤ fo1 ∧ fo1 ≤ 1) (fun u9 t => zB D ((fun (u9 : Int × Int × (Nat → Int32)) => match u9 with | (nl1, fo1, nf1) => [(qt, .inr (1, [.ref qb, .int (iI L)])), (qb, .inl (cB, 20000, .inl f)), (qe, .inr (7, [.ref qnb, .int (iI nl1), .int (iI fo1), .int (iI me), .int (iI pk), .long (lI ez), .int (iI su), .int (iI lp), .int (iI pp), .int (iI st), .int (iI op), .int (iI ol)])), (qnb, .inl (cN, 60, .inl nf1))]) u9) ((fun (u9 : Int × Int × (Nat → Int32)) => match u9 with | (nl1, fo1, nf1) => [(cB, .byte), (cN, .byte)]) u9) A t) A) (by decide) (Nat.le_of_ble_eq_true rfl) (fun p e s m below meth c A ls hx hb hr hml hown ht hlk hnm hA hK hP hD hX hl => by
    have hS : va_S A s.heap s.heap [] := va_S.rf
    have hl : lv_has ls 5 [(0, .ref qe), (1, .ref qt), (2, .int (iI k0)), (3, .int (iI n))] := hl
    refine lv_aload_n hx hb d_E_keepName_0 rfl (lv_at hl 0 rfl) ?_
    refine lv_iload_n hx hb d_E_keepName_1 rfl (lv_at hl 3 rfl) ?_
    refine lv_bipush (v := iI 60) hx hb d_E_keepName_2 (by decide) ?_
    refine zv_icmp_gt (tgt := 11) hx hb d_E_keepName_4 (by decide) (by omega) (by omega) (fun hc_1 => by omega) (fun hc_1 => ?_)
    refine lv_iload_n hx hb d_E_keepName_7 rfl (lv_at hl 3 rfl) ?_
    refine lv_goto (tgt := 13) hx hb d_E_keepName_8 (by decide) ?_
    refine va_put (ci := 7) (v := .int (iI n)) (ty := .int) (C := "ZipGuard$Entry") (T := F_E) (N := 12) hx hb ht zi_E ty_E tk_E nm_E hown hK hP hD hS 2 rfl rfl 1 (by decide) (ht _ zm_120) (fun _ h9 => h9) rfl (by decide +kernel) rfl rfl (Nat.le_of_ble_eq_true rfl) d_E_keepName_13 (fun H locs hP hD hS => ?_)
    have hP : va_P D zcl [(qt, .inr (1, [.ref qb, .int (iI L)])), (qb, .inl (cB, 20000, .inl f)), (qe, .inr (7, [.ref qnb, .int (iI n), .int (iI fo), .int (iI me), .int (iI pk), .long (lI ez), .int (iI su), .int (iI lp), .int (iI pp), .int (iI st), .int (iI op), .int (iI ol)])), (qnb, .inl (cN, 60, .inl nf))] H := hP
    have hD : va_D A [(qt, .inr (1, [.ref qb, .int (iI L)])), (qb, .inl (cB, 20000, .inl f)), (qe, .inr (7, [.ref qnb, .int (iI n), .int (iI fo), .int (iI me), .int (iI pk), .long (lI ez), .int (iI su), .int (iI lp), .int (iI pp), .int (iI st), .int (iI op), .int (iI ol)])), (qnb, .inl (cN, 60, .inl nf))] := hD
    refine lv_iconst (v := iI 0) hx hb d_E_keepName_16 (by decide) ?_
    refine lv_istore (lv' := [(4, .int (iI 0)), (0, .ref qe), (1, .ref qt), (2, .int (iI k0)), (3, .int (iI n))]) hx hb d_E_keepName_17 hl (by decide) rfl (fun ls hl => ?_)
    have lp19 : ∀ (j : Nat) (k : Int) (nf2 : Nat → Int32) (H : Heap) (locs : List Loc) (ls : Array Slot), (0 ≤ k ∧ k ≤ n) → (∀ t : Int, 0 ≤ t → t < k → zrI nf2 t = zkb (zC1 f L) k0 t) → (n - k < (j : Int)) → va_P D zcl [(qt, .inr (1, [.ref qb, .int (iI L)])), (qb, .inl (cB, 20000, .inl f)), (qe, .inr (7, [.ref qnb, .int (iI n), .int (iI fo), .int (iI me), .int (iI pk), .long (lI ez), .int (iI su), .int (iI lp), .int (iI pp), .int (iI st), .int (iI op), .int (iI ol)])), (qnb, .inl (cN, 60, .inl nf2))] H → va_D A [(qt, .inr (1, [.ref qb, .int (iI L)])), (qb, .inl (cB, 20000, .inl f)), (qe, .inr (7, [.ref qnb, .int (iI n), .int (iI fo), .int (iI me), .int (iI pk), .long (lI ez), .int (iI su), .int (iI lp), .int (iI pp), .int (iI st), .int (iI op), .int (iI ol)])), (qnb, .inl (cN, 60, .inl nf2))] → va_S A s.heap H locs → lv_has ls 5 [(4, .int (iI k)), (0, .ref qe), (1, .ref qt), (2, .int (iI k0)), (3, .int (iI n))] → W p l e { frames := 1, cells := 0, slots := 0, locals := 21 } s m [.ref qe, .ref qt, .int (iI k0), .int (iI n)].toArray below meth c H locs 0 0 (MQ below ((fun A => va_Qv (fun (u9 : Int × Int × (Nat → Int32)) => match u9 with | (nl1, fo1, nf1) => (zTf fo1 (zrI nf1 (n - 1) = 47)) ∧ (∀ t : Int, 0 ≤ t → t < n → zrI nf1 t = zkb (zC1 f L) k0 t) ∧ nl1 = n ∧ 0 ≤ fo1 ∧ fo1 ≤ 1) (fun u9 t => zB D ((fun (u9 : Int × Int × (Nat → Int32)) => match u9 with | (nl1, fo1, nf1) => [(qt, .inr (1, [.ref qb, .int (iI L)])), (qb, .inl (cB, 20000, .inl f)), (qe, .inr (7, [.ref qnb, .int (iI nl1), .int (iI fo1), .int (iI me), .int (iI pk), .long (lI ez), .int (iI su), .int (iI lp), .int (iI pp), .int (iI st), .int (iI op), .int (iI ol)])), (qnb, .inl (cN, 60, .inl nf1))]) u9) ((fun (u9 : Int × Int × (Nat → Int32)) => match u9 with | (nl1, fo1, nf1) => [(cB, .byte), (cN, .byte)]) u9) A t) A) A) [.ref qe, .ref qt, .int (iI k0), .int (iI n)].toArray s 0 0 A) (F0 m 19 ls []) := by
      intro j
      induction j with
      | zero => intro k nf2 H locs ls hk1 hkb hj19 hP hD hS hl; exfalso; omega
      | succ j ih19 =>
        intro k nf2 H locs ls hk1 hkb hj19 hP hD hS hl
        refine lv_iload hx hb d_E_keepName_19 (lv_at hl 0 rfl) ?_
        refine lv_aload_n hx hb d_E_keepName_21 rfl (lv_at hl 1 rfl) ?_
        refine va_get (ci := 7) (C := "ZipGuard$Entry") (T := F_E) (N := 12) hx hb ht zi_E hown hK hP 2 rfl rfl 1 (by decide) (ht _ zm_120) (fun _ h9 => h9) rfl d_E_keepName_22 ?_
        refine zv_icmp_ge (tgt := 50) hx hb d_E_keepName_25 (by decide) (by omega) (by omega) (fun hc_2 => ?_) (fun hc_2 => ?_)
        · skip
          refine lv_aload_n hx hb d_E_keepName_50 rfl (lv_at hl 1 rfl) ?_
          refine lv_aload_n hx hb d_E_keepName_51 rfl (lv_at hl 1 rfl) ?_
          refine va_get (ci := 7) (C := "ZipGuard$Entry") (T := F_E) (N := 12) hx hb ht zi_E hown hK hP 2 rfl rfl 1 (by decide) (ht _ zm_120) (fun _ h9 => h9) rfl d_E_keepName_52 ?_
          refine zv_if_le (tgt := 78) hx hb d_E_keepName_55 (by decide) (by omega) (fun hc_3 => by omega) (fun hc_3 => ?_)
          refine lv_aload_n hx hb d_E_keepName_58 rfl (lv_at hl 1 rfl) ?_
          refine va_get (ci := 7) (C := "ZipGuard$Entry") (T := F_E) (N := 12) hx hb ht zi_E hown hK hP 2 rfl rfl 0 (by decide) (ht _ zm_118) (fun _ h9 => h9) rfl d_E_keepName_59 ?_
          refine lv_aload_n hx hb d_E_keepName_62 rfl (lv_at hl 1 rfl) ?_
          refine va_get (ci := 7) (C := "ZipGuard$Entry") (T := F_E) (N := 12) hx hb ht zi_E hown hK hP 2 rfl rfl 1 (by decide) (ht _ zm_120) (fun _ h9 => h9) rfl d_E_keepName_63 ?_
          refine lv_iconst (v := iI 1) hx hb d_E_keepName_66 (by decide) ?_
          refine zv_isub (z := n - 1) hx hb d_E_keepName_67 (by omega) ?_
          refine zv_bald hx hb hK hP 3 1 rfl rfl (by omega) (by decide) d_E_keepName_68 (fun x_4 hz_5 ha_6 ha_7 => ?_)
          have hr_8 := zrI_of hz_5 ha_6 ha_7
          refine lv_bipush (v := iI 47) hx hb d_E_keepName_69 (by decide) ?_
          refine zv_icmp_ne (tgt := 78) hx hb d_E_keepName_71 (by decide) (by omega) (by omega) (fun hc_9 => ?_) (fun hc_9 => ?_)
          · skip
            refine lv_iconst (v := iI 0) hx hb d_E_keepName_78 (by decide) ?_
            refine va_put (ci := 7) (v := .int (iI 0)) (ty := .boolean) (C := "ZipGuard$Entry") (T := F_E) (N := 12) hx hb ht zi_E ty_E tk_E nm_E hown hK hP hD hS 2 rfl rfl 2 (by decide) (ht _ zm_123) (fun _ h9 => h9) rfl (by decide +kernel) (zn01 (by omega)) rfl (Nat.le_of_ble_eq_true rfl) d_E_keepName_79 (fun H locs hP hD hS => ?_)
            have hP : va_P D zcl [(qt, .inr (1, [.ref qb, .int (iI L)])), (qb, .inl (cB, 20000, .inl f)), (qe, .inr (7, [.ref qnb, .int (iI n), .int (iI 0), .int (iI me), .int (iI pk), .long (lI ez), .int (iI su), .int (iI lp), .int (iI pp), .int (iI st), .int (iI op), .int (iI ol)])), (qnb, .inl (cN, 60, .inl nf2))] H := hP
            have hD : va_D A [(qt, .inr (1, [.ref qb, .int (iI L)])), (qb, .inl (cB, 20000, .inl f)), (qe, .inr (7, [.ref qnb, .int (iI n), .int (iI 0), .int (iI me), .int (iI pk), .long (lI ez), .int (iI su), .int (iI lp), .int (iI pp), .int (iI st), .int (iI op), .int (iI ol)])), (qnb, .inl (cN, 60, .inl nf2))] := hD
            exact zretv hx hb hr hlk hK hP hD hS (n, 0, nf2) [0, 1, 2, 3] [0, 1] rfl (by decide) rfl (⟨by unfold zTf; omega, fun t h1 h2 => hkb t h1 (by omega), by omega⟩) (Nat.le_of_ble_eq_true rfl) (Nat.le_of_ble_eq_true rfl) d_E_keepName_82
          · skip
            refine lv_iconst (v := iI 1) hx hb d_E_keepName_74 (by decide) ?_
            refine lv_goto (tgt := 79) hx hb d_E_keepName_75 (by decide) ?_
            refine va_put (ci := 7) (v := .int (iI 1)) (ty := .boolean) (C := "ZipGuard$Entry") (T := F_E) (N := 12) hx hb ht zi_E ty_E tk_E nm_E hown hK hP hD hS 2 rfl rfl 2 (by decide) (ht _ zm_123) (fun _ h9 => h9) rfl (by decide +kernel) (zn01 (by omega)) rfl (Nat.le_of_ble_eq_true rfl) d_E_keepName_79 (fun H locs hP hD hS => ?_)
            have hP : va_P D zcl [(qt, .inr (1, [.ref qb, .int (iI L)])), (qb, .inl (cB, 20000, .inl f)), (qe, .inr (7, [.ref qnb, .int (iI n), .int (iI 1), .int (iI me), .int (iI pk), .long (lI ez), .int (iI su), .int (iI lp), .int (iI pp), .int (iI st), .int (iI op), .int (iI ol)])), (qnb, .inl (cN, 60, .inl nf2))] H := hP
            have hD : va_D A [(qt, .inr (1, [.ref qb, .int (iI L)])), (qb, .inl (cB, 20000, .inl f)), (qe, .inr (7, [.ref qnb, .int (iI n), .int (iI 1), .int (iI me), .int (iI pk), .long (lI ez), .int (iI su), .int (iI lp), .int (iI pp), .int (iI st), .int (iI op), .int (iI ol)])), (qnb, .inl (cN, 60, .inl nf2))] := hD
            exact zretv hx hb hr hlk hK hP hD hS (n, 1, nf2) [0, 1, 2, 3] [0, 1] rfl (by decide) rfl (⟨by unfold zTf; omega, fun t h1 h2 => hkb t h1 (by omega), by omega⟩) (Nat.le_of_ble_eq_true rfl) (Nat.le_of_ble_eq_true rfl) d_E_keepName_82
        · skip
          refine lv_aload_n hx hb d_E_keepName_28 rfl (lv_at hl 1 rfl) ?_
          refine va_get (ci := 7) (C := "ZipGuard$Entry") (T := F_E) (N := 12) hx hb ht zi_E hown hK hP 2 rfl rfl 0 (by decide) (ht _ zm_118) (fun _ h9 => h9) rfl d_E_keepName_29 ?_
          refine lv_iload hx hb d_E_keepName_32 (lv_at hl 0 rfl) ?_
          refine lv_aload_n hx hb d_E_keepName_34 rfl (lv_at hl 2 rfl) ?_
          refine lv_iload_n hx hb d_E_keepName_35 rfl (lv_at hl 3 rfl) ?_
          refine lv_iload hx hb d_E_keepName_36 (lv_at hl 0 rfl) ?_
          refine zv_iadd (z := k0 + k) hx hb d_E_keepName_38 (by omega) ?_
          refine zjR (va_runV (As := [.int (iI (k0 + k))]) (rest := [.int (iI k), .ref qnb]) ⟨hx, hb, hml, hown, ht⟩ (a_T_by l D qt qb cB f L (k0 + k) (by omega) (by omega)) (cwV 1 ht (zt_goodV zm_477 zm_428 zm_429 zm_66 zm_430) rfl rfl rfl (by decide +kernel) ⟨Nat.le_of_ble_eq_true rfl, Nat.le_of_ble_eq_true rfl⟩) (zpreRV zBlind_t hK hP [0, 1] [0] rfl rfl (fun _ _ _ => trivial) (va_recv (q := ("ZipGuard$Tape", F_T, 2)) hK hP rfl (q0 := 0) (ci := 1) rfl)) rfl rfl hl.1 rfl (lv_room (Nat.le_of_ble_eq_true rfl)) d_E_keepName_39 ⟨Nat.le_of_ble_eq_true rfl, Nat.le_of_ble_eq_true rfl⟩) (fun r10 hp11 => ?_)
          obtain ⟨x_12, he_13, hp11⟩ := hp11
          subst he_13
          refine lv_i2b hx hb d_E_keepName_42 rfl ?_
          refine zv_bast hx hb hK hP hD hS 3 1 rfl rfl (by omega) (by decide) d_E_keepName_43 (fun g_14 H locs hg_15 hP hD hS => ?_)
          have hP : va_P D zcl [(qt, .inr (1, [.ref qb, .int (iI L)])), (qb, .inl (cB, 20000, .inl f)), (qe, .inr (7, [.ref qnb, .int (iI n), .int (iI fo), .int (iI me), .int (iI pk), .long (lI ez), .int (iI su), .int (iI lp), .int (iI pp), .int (iI st), .int (iI op), .int (iI ol)])), (qnb, .inl (cN, 60, .inl g_14))] H := hP
          have hD : va_D A [(qt, .inr (1, [.ref qb, .int (iI L)])), (qb, .inl (cB, 20000, .inl f)), (qe, .inr (7, [.ref qnb, .int (iI n), .int (iI fo), .int (iI me), .int (iI pk), .long (lI ez), .int (iI su), .int (iI lp), .int (iI pp), .int (iI st), .int (iI op), .int (iI ol)])), (qnb, .inl (cN, 60, .inl g_14))] := hD
          refine lv_iinc (k := 0) (v := iI (k + 1)) (lv' := [(4, .int (iI (k + 1))), (0, .ref qe), (1, .ref qt), (2, .int (iI k0)), (3, .int (iI n))]) hx hb d_E_keepName_44 hl rfl (zinc (by omega)) (by decide) rfl (fun ls hl => ?_)
          refine lv_goto (tgt := 19) hx hb d_E_keepName_47 (by decide) ?_
          exact ih19 (k + 1) g_14 _ _ _ (by omega) (zkn_0 hg_15 hp11.1 (by omega) hkb) (by omega) hP hD hS hl
    exact lp19 ((n - 0 + 1 : Int)).toNat 0 nf _ _ _ (by omega) (fun t h1 h2 => absurd h2 (by omega)) (by omega) hP hD hS hl)
set_option maxHeartbeats 4000000 in
set_option maxRecDepth 100000 in
theorem a_E_behind (l : Launch) (D : va_G) (qe : Nat) (qnb : Nat) (nl : Int) (fo : Int) (me : Int) (pk : Int) (ez : Int) (su : Int) (lp : Int) (pp : Int) (st : Int) (op : Int) (ol : Int)  : Met l y_E_behindPacked (Cond.code y_E_behindPacked prog_5_method_5_code 1 (Option.some Jvm.ClassFile.FieldType.int) :: zt) { frames := 0, cells := 0, slots := 0, locals := 0 } (zPcR [.ref qe] D [(qe, .inr (7, [.ref qnb, .int (iI nl), .int (iI fo), .int (iI me), .int (iI pk), .long (lI ez), .int (iI su), .int (iI lp), .int (iI pp), .int (iI st), .int (iI op), .int (iI ol)]))] [] (fun _ => True)) (zQR (fun (r : Int32) => ∃ x : Int, r = iI x ∧ (x = pp + pk))) 0 0 (fun _ => False) :=
  zMetR (by decide) (Nat.le_of_ble_eq_true rfl) (fun p e s m below meth c ls hx hb hr hml hown ht hlk hK hP hX hl => by
    have hl : lv_has ls 1 [(0, .ref qe)] := hl
    refine lv_aload_n hx hb d_E_behindPacked_0 rfl (lv_at hl 0 rfl) ?_
    refine va_get (ci := 7) (C := "ZipGuard$Entry") (T := F_E) (N := 12) hx hb ht zi_E hown hK hP 0 rfl rfl 8 (by decide) (ht _ zm_143) (fun _ h9 => h9) rfl d_E_behindPacked_1 ?_
    refine lv_aload_n hx hb d_E_behindPacked_4 rfl (lv_at hl 0 rfl) ?_
    refine va_get (ci := 7) (C := "ZipGuard$Entry") (T := F_E) (N := 12) hx hb ht zi_E hown hK hP 0 rfl rfl 4 (by decide) (ht _ zm_130) (fun _ h9 => h9) rfl d_E_behindPacked_5 ?_
    refine zv_iadd (z := pp + pk) hx hb d_E_behindPacked_8 (by omega) ?_
    exact zretR hx hb hr hlk (⟨_, rfl, by omega⟩) d_E_behindPacked_9)
set_option maxHeartbeats 4000000 in
set_option maxRecDepth 100000 in
theorem a_E_over (l : Launch) (D : va_G) (qe : Nat) (qnb : Nat) (nl : Int) (fo : Int) (me : Int) (pk : Int) (ez : Int) (su : Int) (lp : Int) (pp : Int) (st : Int) (op : Int) (ol : Int) (qe2 : Nat) (qnb2 : Nat) (nl2 : Int) (fo2 : Int) (me2 : Int) (pk2 : Int) (ez2 : Int) (su2 : Int) (lp2 : Int) (pp2 : Int) (st2 : Int) (op2 : Int) (ol2 : Int) (h1 : 0 ≤ pp + pk ∧ pp + pk ≤ 20000) (h2 : 0 ≤ pp2 + pk2 ∧ pp2 + pk2 ≤ 20000) (h3 : -2147483648 ≤ lp ∧ lp ≤ 2147483647) (h4 : -2147483648 ≤ lp2 ∧ lp2 ≤ 2147483647) : Met l y_E_liesOver (Cond.code y_E_liesOver prog_5_method_6_code 2 (Option.some Jvm.ClassFile.FieldType.boolean) :: zt) { frames := 1, cells := 0, slots := 0, locals := 20 } (zPcR [.ref qe, .ref qe2] D [(qe, .inr (7, [.ref qnb, .int (iI nl), .int (iI fo), .int (iI me), .int (iI pk), .long (lI ez), .int (iI su), .int (iI lp), .int (iI pp), .int (iI st), .int (iI op), .int (iI ol)])), (qe2, .inr (7, [.ref qnb2, .int (iI nl2), .int (iI fo2), .int (iI me2), .int (iI pk2), .long (lI ez2), .int (iI su2), .int (iI lp2), .int (iI pp2), .int (iI st2), .int (iI op2), .int (iI ol2)]))] [] (fun _ => True)) (zQR (fun (r : Int32) => ∃ x : Int, r = iI x ∧ ((zTf x (lp < pp2 + pk2 ∧ lp2 < pp + pk)) ∧ 0 ≤ x ∧ x ≤ 1))) 0 0 (fun _ => False) :=
  zMetR (by decide) (Nat.le_of_ble_eq_true rfl) (fun p e s m below meth c ls hx hb hr hml hown ht hlk hK hP hX hl => by
    have hl : lv_has ls 2 [(0, .ref qe), (1, .ref qe2)] := hl
    refine lv_aload_n hx hb d_E_liesOver_0 rfl (lv_at hl 0 rfl) ?_
    refine va_get (ci := 7) (C := "ZipGuard$Entry") (T := F_E) (N := 12) hx hb ht zi_E hown hK hP 0 rfl rfl 7 (by decide) (ht _ zm_140) (fun _ h9 => h9) rfl d_E_liesOver_1 ?_
    refine lv_aload_n hx hb d_E_liesOver_4 rfl (lv_at hl 1 rfl) ?_
    refine zjR (va_runV (As := []) (rest := [.int (iI lp)]) ⟨hx, hb, hml, hown, ht⟩ (a_E_behind l D qe2 qnb2 nl2 fo2 me2 pk2 ez2 su2 lp2 pp2 st2 op2 ol2 ) (cwV 0 ht (zt_goodV zm_504 zm_505 zm_506 zm_68 zm_507) rfl rfl rfl (by decide +kernel) ⟨Nat.le_of_ble_eq_true rfl, Nat.le_of_ble_eq_true rfl⟩) (zpreRV zBlind_t hK hP [1] [] rfl rfl (fun _ _ _ => trivial) (va_recv (q := ("ZipGuard$Entry", F_E, 12)) hK hP rfl (q0 := 1) (ci := 7) rfl)) rfl rfl hl.1 rfl (lv_room (Nat.le_of_ble_eq_true rfl)) d_E_liesOver_5 ⟨Nat.le_of_ble_eq_true rfl, Nat.le_of_ble_eq_true rfl⟩) (fun r1 hp2 => ?_)
    obtain ⟨x_3, he_4, hp2⟩ := hp2
    subst he_4
    refine zv_icmp_ge (tgt := 26) hx hb d_E_liesOver_8 (by decide) (by omega) (by omega) (fun hc_5 => ?_) (fun hc_5 => ?_)
    · skip
      refine lv_iconst (v := iI 0) hx hb d_E_liesOver_26 (by decide) ?_
      exact zretRz hx hb hr hlk (⟨_, rfl, by unfold zTf; omega, by omega⟩) (zn01 (by omega)) d_E_liesOver_27
    · skip
      refine lv_aload_n hx hb d_E_liesOver_11 rfl (lv_at hl 1 rfl) ?_
      refine va_get (ci := 7) (C := "ZipGuard$Entry") (T := F_E) (N := 12) hx hb ht zi_E hown hK hP 1 rfl rfl 7 (by decide) (ht _ zm_140) (fun _ h9 => h9) rfl d_E_liesOver_12 ?_
      refine lv_aload_n hx hb d_E_liesOver_15 rfl (lv_at hl 0 rfl) ?_
      refine zjR (va_runV (As := []) (rest := [.int (iI lp2)]) ⟨hx, hb, hml, hown, ht⟩ (a_E_behind l D qe qnb nl fo me pk ez su lp pp st op ol ) (cwV 0 ht (zt_goodV zm_504 zm_505 zm_506 zm_68 zm_507) rfl rfl rfl (by decide +kernel) ⟨Nat.le_of_ble_eq_true rfl, Nat.le_of_ble_eq_true rfl⟩) (zpreRV zBlind_t hK hP [0] [] rfl rfl (fun _ _ _ => trivial) (va_recv (q := ("ZipGuard$Entry", F_E, 12)) hK hP rfl (q0 := 0) (ci := 7) rfl)) rfl rfl hl.1 rfl (lv_room (Nat.le_of_ble_eq_true rfl)) d_E_liesOver_16 ⟨Nat.le_of_ble_eq_true rfl, Nat.le_of_ble_eq_true rfl⟩) (fun r6 hp7 => ?_)
      obtain ⟨x_8, he_9, hp7⟩ := hp7
      subst he_9
      refine zv_icmp_ge (tgt := 26) hx hb d_E_liesOver_19 (by decide) (by omega) (by omega) (fun hc_10 => ?_) (fun hc_10 => ?_)
      · skip
        refine lv_iconst (v := iI 0) hx hb d_E_liesOver_26 (by decide) ?_
        exact zretRz hx hb hr hlk (⟨_, rfl, by unfold zTf; omega, by omega⟩) (zn01 (by omega)) d_E_liesOver_27
      · skip
        refine lv_iconst (v := iI 1) hx hb d_E_liesOver_22 (by decide) ?_
        refine lv_goto (tgt := 27) hx hb d_E_liesOver_23 (by decide) ?_
        exact zretRz hx hb hr hlk (⟨_, rfl, by unfold zTf; omega, by omega⟩) (zn01 (by omega)) d_E_liesOver_27)
set_option maxHeartbeats 4000000 in
set_option maxRecDepth 100000 in
theorem a_E_clash (l : Launch) (D : va_G) (cN : ClassId) (qe : Nat) (qnb : Nat) (nl : Int) (fo : Int) (me : Int) (pk : Int) (ez : Int) (su : Int) (lp : Int) (pp : Int) (st : Int) (op : Int) (ol : Int) (nf : Nat → Int32) (qe2 : Nat) (qnb2 : Nat) (nl2 : Int) (fo2 : Int) (me2 : Int) (pk2 : Int) (ez2 : Int) (su2 : Int) (lp2 : Int) (pp2 : Int) (st2 : Int) (op2 : Int) (ol2 : Int) (nf2 : Nat → Int32) (hne : qe ≠ qe2) (hnl : 1 ≤ nl ∧ nl ≤ 60) (hfo : zTf fo (zrI nf (nl - 1) = 47)) (hnl2 : 1 ≤ nl2 ∧ nl2 ≤ 60) (hfo2 : zTf fo2 (zrI nf2 (nl2 - 1) = 47)) : Met l y_E_clashesWith (Cond.code y_E_clashesWith prog_5_method_4_code 6 (Option.some Jvm.ClassFile.FieldType.boolean) :: zt) { frames := 0, cells := 0, slots := 0, locals := 0 } (zPcR [.ref qe, .ref qe2] D [(qe, .inr (7, [.ref qnb, .int (iI nl), .int (iI fo), .int (iI me), .int (iI pk), .long (lI ez), .int (iI su), .int (iI lp), .int (iI pp), .int (iI st), .int (iI op), .int (iI ol)])), (qnb, .inl (cN, 60, .inl nf)), (qe2, .inr (7, [.ref qnb2, .int (iI nl2), .int (iI fo2), .int (iI me2), .int (iI pk2), .long (lI ez2), .int (iI su2), .int (iI lp2), .int (iI pp2), .int (iI st2), .int (iI op2), .int (iI ol2)])), (qnb2, .inl (cN, 60, .inl nf2))] [(cN, .byte)] (fun _ => True)) (zQR (fun (r : Int32) => ∃ x : Int, r = iI x ∧ ((zTf x (zCl nl (zrI nf) nl2 (zrI nf2))) ∧ 0 ≤ x ∧ x ≤ 1))) 0 0 (fun _ => False) :=
  zMetR (by decide) (Nat.le_of_ble_eq_true rfl) (fun p e s m below meth c ls hx hb hr hml hown ht hlk hK hP hX hl => by
    have hl : lv_has ls 6 [(0, .ref qe), (1, .ref qe2)] := hl
    have hb9 := zTf_b hfo
    have hb8 := zTf_b hfo2
    refine lv_aload_n hx hb d_E_clashesWith_0 rfl (lv_at hl 0 rfl) ?_
    refine va_get (ci := 7) (C := "ZipGuard$Entry") (T := F_E) (N := 12) hx hb ht zi_E hown hK hP 0 rfl rfl 1 (by decide) (ht _ zm_120) (fun _ h9 => h9) rfl d_E_clashesWith_1 ?_
    refine lv_aload_n hx hb d_E_clashesWith_4 rfl (lv_at hl 1 rfl) ?_
    refine va_get (ci := 7) (C := "ZipGuard$Entry") (T := F_E) (N := 12) hx hb ht zi_E hown hK hP 2 rfl rfl 1 (by decide) (ht _ zm_120) (fun _ h9 => h9) rfl d_E_clashesWith_5 ?_
    refine zv_icmp_gt (tgt := 15) hx hb d_E_clashesWith_8 (by decide) (by omega) (by omega) (fun hc_1 => ?_) (fun hc_1 => ?_)
    · skip
      refine lv_aload_n hx hb d_E_clashesWith_15 rfl (lv_at hl 1 rfl) ?_
      refine lv_astore_n (lv' := [(2, .ref qe2), (0, .ref qe), (1, .ref qe2)]) hx hb d_E_clashesWith_16 rfl hl (by decide) rfl (fun ls hl => ?_)
      refine lv_aload_n hx hb d_E_clashesWith_17 rfl (lv_at hl 0 rfl) ?_
      refine lv_aload_n hx hb d_E_clashesWith_18 rfl (lv_at hl 1 rfl) ?_
      refine lv_acmp_ne (rx := some qe2) (ry := some qe) (rest := []) (tgt := 26) hx hb d_E_clashesWith_19 (by decide) (fun _ => ?_) (fun h9 => absurd (Option.some.inj h9) (by first | exact hne | exact Ne.symm hne))
      refine lv_aload_n hx hb d_E_clashesWith_26 rfl (lv_at hl 1 rfl) ?_
      refine lv_astore_n (lv' := [(3, .ref qe), (2, .ref qe2), (0, .ref qe), (1, .ref qe2)]) hx hb d_E_clashesWith_27 rfl hl (by decide) rfl (fun ls hl => ?_)
      refine lv_aload_n hx hb d_E_clashesWith_28 rfl (lv_at hl 1 rfl) ?_
      refine va_get (ci := 7) (C := "ZipGuard$Entry") (T := F_E) (N := 12) hx hb ht zi_E hown hK hP 2 rfl rfl 1 (by decide) (ht _ zm_120) (fun _ h9 => h9) rfl d_E_clashesWith_29 ?_
      refine lv_istore (lv' := [(4, .int (iI nl2)), (3, .ref qe), (2, .ref qe2), (0, .ref qe), (1, .ref qe2)]) hx hb d_E_clashesWith_32 hl (by decide) rfl (fun ls hl => ?_)
      refine lv_iconst (v := iI 0) hx hb d_E_clashesWith_34 (by decide) ?_
      refine lv_istore (lv' := [(5, .int (iI 0)), (4, .int (iI nl2)), (3, .ref qe), (2, .ref qe2), (0, .ref qe), (1, .ref qe2)]) hx hb d_E_clashesWith_35 hl (by decide) rfl (fun ls hl => ?_)
      have lp37 : ∀ (j : Nat) (k : Int) (ls : Array Slot), (0 ≤ k ∧ k ≤ nl2) → (∀ t : Int, 0 ≤ t → t < k → zrI nf2 t = zrI nf t) → (60 - k < (j : Int)) → lv_has ls 6 [(5, .int (iI k)), (4, .int (iI nl2)), (3, .ref qe), (2, .ref qe2), (0, .ref qe), (1, .ref qe2)] → W p l e { frames := 0, cells := 0, slots := 0, locals := 0 } s m [.ref qe, .ref qe2].toArray below meth c s.heap [] 0 0 (MQ below (zQR (fun (r : Int32) => ∃ x : Int, r = iI x ∧ ((zTf x (zCl nl (zrI nf) nl2 (zrI nf2))) ∧ 0 ≤ x ∧ x ≤ 1))) [.ref qe, .ref qe2].toArray s 0 0 (fun _ => False)) (F0 m 37 ls []) := by
        intro j
        induction j with
        | zero => intro k ls hk1 hsm hj37 hl; exfalso; omega
        | succ j ih37 =>
          intro k ls hk1 hsm hj37 hl
          refine lv_iload hx hb d_E_clashesWith_37 (lv_at hl 0 rfl) ?_
          refine lv_iload hx hb d_E_clashesWith_39 (lv_at hl 1 rfl) ?_
          refine zv_icmp_ge (tgt := 69) hx hb d_E_clashesWith_41 (by decide) (by omega) (by omega) (fun hc_2 => ?_) (fun hc_2 => ?_)
          · skip
            refine lv_iload hx hb d_E_clashesWith_69 (lv_at hl 1 rfl) ?_
            refine lv_aload_n hx hb d_E_clashesWith_71 rfl (lv_at hl 2 rfl) ?_
            refine va_get (ci := 7) (C := "ZipGuard$Entry") (T := F_E) (N := 12) hx hb ht zi_E hown hK hP 0 rfl rfl 1 (by decide) (ht _ zm_120) (fun _ h9 => h9) rfl d_E_clashesWith_72 ?_
            refine zv_icmp_eq (tgt := 97) hx hb d_E_clashesWith_75 (by decide) (by omega) (by omega) (fun hc_3 => ?_) (fun hc_3 => ?_)
            · skip
              refine lv_iconst (v := iI 1) hx hb d_E_clashesWith_97 (by decide) ?_
              refine lv_goto (tgt := 102) hx hb d_E_clashesWith_98 (by decide) ?_
              exact zretRz hx hb hr hlk (⟨_, rfl, zTf_1 (by unfold zTf at hfo hfo2; exact Or.inr ⟨by omega, fun t h1 h2 => hsm t h1 (by omega), by omega⟩), by omega⟩) (zn01 (by omega)) d_E_clashesWith_102
            · skip
              refine lv_aload_n hx hb d_E_clashesWith_78 rfl (lv_at hl 3 rfl) ?_
              refine va_get (ci := 7) (C := "ZipGuard$Entry") (T := F_E) (N := 12) hx hb ht zi_E hown hK hP 2 rfl rfl 2 (by decide) (ht _ zm_123) (fun _ h9 => h9) rfl d_E_clashesWith_79 ?_
              refine zv_if_ne (tgt := 101) hx hb d_E_clashesWith_82 (by decide) (by omega) (fun hc_4 => ?_) (fun hc_4 => ?_)
              · skip
                refine lv_iconst (v := iI 0) hx hb d_E_clashesWith_101 (by decide) ?_
                exact zretRz hx hb hr hlk (⟨_, rfl, zTf_0 (by unfold zCl; exact fun q => q.elim (fun q => by have q1 := q.1; omega) (fun q => by have q3 := q.2.2; unfold zTf at hfo hfo2; omega)), by omega⟩) (zn01 (by omega)) d_E_clashesWith_102
              · skip
                refine lv_aload_n hx hb d_E_clashesWith_85 rfl (lv_at hl 2 rfl) ?_
                refine va_get (ci := 7) (C := "ZipGuard$Entry") (T := F_E) (N := 12) hx hb ht zi_E hown hK hP 0 rfl rfl 0 (by decide) (ht _ zm_118) (fun _ h9 => h9) rfl d_E_clashesWith_86 ?_
                refine lv_iload hx hb d_E_clashesWith_89 (lv_at hl 1 rfl) ?_
                refine zv_bald hx hb hK hP 1 0 rfl rfl (by omega) (by decide) d_E_clashesWith_91 (fun x_5 hz_6 ha_7 ha_8 => ?_)
                have hr_9 := zrI_of hz_6 ha_7 ha_8
                refine lv_bipush (v := iI 47) hx hb d_E_clashesWith_92 (by decide) ?_
                refine zv_icmp_ne (tgt := 101) hx hb d_E_clashesWith_94 (by decide) (by omega) (by omega) (fun hc_10 => ?_) (fun hc_10 => ?_)
                · skip
                  refine lv_iconst (v := iI 0) hx hb d_E_clashesWith_101 (by decide) ?_
                  exact zretRz hx hb hr hlk (⟨_, rfl, zTf_0 (by unfold zCl; exact fun q => q.elim (fun q => by have q1 := q.1; omega) (fun q => by have q3 := q.2.2; unfold zTf at hfo hfo2; omega)), by omega⟩) (zn01 (by omega)) d_E_clashesWith_102
                · skip
                  refine lv_iconst (v := iI 1) hx hb d_E_clashesWith_97 (by decide) ?_
                  refine lv_goto (tgt := 102) hx hb d_E_clashesWith_98 (by decide) ?_
                  exact zretRz hx hb hr hlk (⟨_, rfl, zTf_1 (by unfold zTf at hfo hfo2; exact Or.inr ⟨by omega, fun t h1 h2 => hsm t h1 (by omega), by omega⟩), by omega⟩) (zn01 (by omega)) d_E_clashesWith_102
          · skip
            refine lv_aload_n hx hb d_E_clashesWith_44 rfl (lv_at hl 3 rfl) ?_
            refine va_get (ci := 7) (C := "ZipGuard$Entry") (T := F_E) (N := 12) hx hb ht zi_E hown hK hP 2 rfl rfl 0 (by decide) (ht _ zm_118) (fun _ h9 => h9) rfl d_E_clashesWith_45 ?_
            refine lv_iload hx hb d_E_clashesWith_48 (lv_at hl 0 rfl) ?_
            refine zv_bald hx hb hK hP 3 0 rfl rfl (by omega) (by decide) d_E_clashesWith_50 (fun x_11 hz_12 ha_13 ha_14 => ?_)
            have hr_15 := zrI_of hz_12 ha_13 ha_14
            refine lv_aload_n hx hb d_E_clashesWith_51 rfl (lv_at hl 2 rfl) ?_
            refine va_get (ci := 7) (C := "ZipGuard$Entry") (T := F_E) (N := 12) hx hb ht zi_E hown hK hP 0 rfl rfl 0 (by decide) (ht _ zm_118) (fun _ h9 => h9) rfl d_E_clashesWith_52 ?_
            refine lv_iload hx hb d_E_clashesWith_55 (lv_at hl 0 rfl) ?_
            refine zv_bald hx hb hK hP 1 0 rfl rfl (by omega) (by decide) d_E_clashesWith_57 (fun x_16 hz_17 ha_18 ha_19 => ?_)
            have hr_20 := zrI_of hz_17 ha_18 ha_19
            refine zv_icmp_eq (tgt := 63) hx hb d_E_clashesWith_58 (by decide) (by omega) (by omega) (fun hc_21 => ?_) (fun hc_21 => ?_)
            · skip
              refine lv_iinc (k := 0) (v := iI (k + 1)) (lv' := [(5, .int (iI (k + 1))), (4, .int (iI nl2)), (3, .ref qe), (2, .ref qe2), (0, .ref qe), (1, .ref qe2)]) hx hb d_E_clashesWith_63 hl rfl (zinc (by omega)) (by decide) rfl (fun ls hl => ?_)
              refine lv_goto (tgt := 37) hx hb d_E_clashesWith_66 (by decide) ?_
              exact ih37 (k + 1) _ (by omega) (zst_all hsm (by omega)) (by omega) hl
            · skip
              refine lv_iconst (v := iI 0) hx hb d_E_clashesWith_61 (by decide) ?_
              exact zretRz hx hb hr hlk (⟨_, rfl, zTf_0 (by unfold zCl; exact fun q => q.elim (fun q => by have q1 := q.1; omega) (fun q => absurd (q.2.1 k (by omega) (by omega)) (by omega))), by omega⟩) (zn01 (by omega)) d_E_clashesWith_62
      exact lp37 ((60 - 0 + 1 : Int)).toNat 0 _ (by omega) (fun t h1 h2 => absurd h2 (by omega)) (by omega) hl
    · skip
      refine lv_aload_n hx hb d_E_clashesWith_11 rfl (lv_at hl 0 rfl) ?_
      refine lv_goto (tgt := 16) hx hb d_E_clashesWith_12 (by decide) ?_
      refine lv_astore_n (lv' := [(2, .ref qe), (0, .ref qe), (1, .ref qe2)]) hx hb d_E_clashesWith_16 rfl hl (by decide) rfl (fun ls hl => ?_)
      refine lv_aload_n hx hb d_E_clashesWith_17 rfl (lv_at hl 0 rfl) ?_
      refine lv_aload_n hx hb d_E_clashesWith_18 rfl (lv_at hl 1 rfl) ?_
      refine lv_acmp_ne (rx := some qe) (ry := some qe) (rest := []) (tgt := 26) hx hb d_E_clashesWith_19 (by decide) (fun h9 => absurd rfl h9) (fun _ => ?_)
      refine lv_aload_n hx hb d_E_clashesWith_22 rfl (lv_at hl 2 rfl) ?_
      refine lv_goto (tgt := 27) hx hb d_E_clashesWith_23 (by decide) ?_
      refine lv_astore_n (lv' := [(3, .ref qe2), (2, .ref qe), (0, .ref qe), (1, .ref qe2)]) hx hb d_E_clashesWith_27 rfl hl (by decide) rfl (fun ls hl => ?_)
      refine lv_aload_n hx hb d_E_clashesWith_28 rfl (lv_at hl 1 rfl) ?_
      refine va_get (ci := 7) (C := "ZipGuard$Entry") (T := F_E) (N := 12) hx hb ht zi_E hown hK hP 0 rfl rfl 1 (by decide) (ht _ zm_120) (fun _ h9 => h9) rfl d_E_clashesWith_29 ?_
      refine lv_istore (lv' := [(4, .int (iI nl)), (3, .ref qe2), (2, .ref qe), (0, .ref qe), (1, .ref qe2)]) hx hb d_E_clashesWith_32 hl (by decide) rfl (fun ls hl => ?_)
      refine lv_iconst (v := iI 0) hx hb d_E_clashesWith_34 (by decide) ?_
      refine lv_istore (lv' := [(5, .int (iI 0)), (4, .int (iI nl)), (3, .ref qe2), (2, .ref qe), (0, .ref qe), (1, .ref qe2)]) hx hb d_E_clashesWith_35 hl (by decide) rfl (fun ls hl => ?_)
      have lp37 : ∀ (j : Nat) (k : Int) (ls : Array Slot), (0 ≤ k ∧ k ≤ nl) → (∀ t : Int, 0 ≤ t → t < k → zrI nf t = zrI nf2 t) → (60 - k < (j : Int)) → lv_has ls 6 [(5, .int (iI k)), (4, .int (iI nl)), (3, .ref qe2), (2, .ref qe), (0, .ref qe), (1, .ref qe2)] → W p l e { frames := 0, cells := 0, slots := 0, locals := 0 } s m [.ref qe, .ref qe2].toArray below meth c s.heap [] 0 0 (MQ below (zQR (fun (r : Int32) => ∃ x : Int, r = iI x ∧ ((zTf x (zCl nl (zrI nf) nl2 (zrI nf2))) ∧ 0 ≤ x ∧ x ≤ 1))) [.ref qe, .ref qe2].toArray s 0 0 (fun _ => False)) (F0 m 37 ls []) := by
        intro j
        induction j with
        | zero => intro k ls hk1 hsm hj37 hl; exfalso; omega
        | succ j ih37 =>
          intro k ls hk1 hsm hj37 hl
          refine lv_iload hx hb d_E_clashesWith_37 (lv_at hl 0 rfl) ?_
          refine lv_iload hx hb d_E_clashesWith_39 (lv_at hl 1 rfl) ?_
          refine zv_icmp_ge (tgt := 69) hx hb d_E_clashesWith_41 (by decide) (by omega) (by omega) (fun hc_22 => ?_) (fun hc_22 => ?_)
          · skip
            refine lv_iload hx hb d_E_clashesWith_69 (lv_at hl 1 rfl) ?_
            refine lv_aload_n hx hb d_E_clashesWith_71 rfl (lv_at hl 2 rfl) ?_
            refine va_get (ci := 7) (C := "ZipGuard$Entry") (T := F_E) (N := 12) hx hb ht zi_E hown hK hP 2 rfl rfl 1 (by decide) (ht _ zm_120) (fun _ h9 => h9) rfl d_E_clashesWith_72 ?_
            refine zv_icmp_eq (tgt := 97) hx hb d_E_clashesWith_75 (by decide) (by omega) (by omega) (fun hc_23 => ?_) (fun hc_23 => ?_)
            · skip
              refine lv_iconst (v := iI 1) hx hb d_E_clashesWith_97 (by decide) ?_
              refine lv_goto (tgt := 102) hx hb d_E_clashesWith_98 (by decide) ?_
              exact zretRz hx hb hr hlk (⟨_, rfl, zTf_1 (by unfold zTf at hfo hfo2; exact Or.inl ⟨by omega, fun t h1 h2 => hsm t h1 (by omega), by omega⟩), by omega⟩) (zn01 (by omega)) d_E_clashesWith_102
            · skip
              refine lv_aload_n hx hb d_E_clashesWith_78 rfl (lv_at hl 3 rfl) ?_
              refine va_get (ci := 7) (C := "ZipGuard$Entry") (T := F_E) (N := 12) hx hb ht zi_E hown hK hP 0 rfl rfl 2 (by decide) (ht _ zm_123) (fun _ h9 => h9) rfl d_E_clashesWith_79 ?_
              refine zv_if_ne (tgt := 101) hx hb d_E_clashesWith_82 (by decide) (by omega) (fun hc_24 => ?_) (fun hc_24 => ?_)
              · skip
                refine lv_iconst (v := iI 0) hx hb d_E_clashesWith_101 (by decide) ?_
                exact zretRz hx hb hr hlk (⟨_, rfl, zTf_0 (by unfold zCl; exact fun q => q.elim (fun q => by have q3 := q.2.2; unfold zTf at hfo hfo2; omega) (fun q => by have q1 := q.1; omega)), by omega⟩) (zn01 (by omega)) d_E_clashesWith_102
              · skip
                refine lv_aload_n hx hb d_E_clashesWith_85 rfl (lv_at hl 2 rfl) ?_
                refine va_get (ci := 7) (C := "ZipGuard$Entry") (T := F_E) (N := 12) hx hb ht zi_E hown hK hP 2 rfl rfl 0 (by decide) (ht _ zm_118) (fun _ h9 => h9) rfl d_E_clashesWith_86 ?_
                refine lv_iload hx hb d_E_clashesWith_89 (lv_at hl 1 rfl) ?_
                refine zv_bald hx hb hK hP 3 0 rfl rfl (by omega) (by decide) d_E_clashesWith_91 (fun x_25 hz_26 ha_27 ha_28 => ?_)
                have hr_29 := zrI_of hz_26 ha_27 ha_28
                refine lv_bipush (v := iI 47) hx hb d_E_clashesWith_92 (by decide) ?_
                refine zv_icmp_ne (tgt := 101) hx hb d_E_clashesWith_94 (by decide) (by omega) (by omega) (fun hc_30 => ?_) (fun hc_30 => ?_)
                · skip
                  refine lv_iconst (v := iI 0) hx hb d_E_clashesWith_101 (by decide) ?_
                  exact zretRz hx hb hr hlk (⟨_, rfl, zTf_0 (by unfold zCl; exact fun q => q.elim (fun q => by have q3 := q.2.2; unfold zTf at hfo hfo2; omega) (fun q => by have q1 := q.1; omega)), by omega⟩) (zn01 (by omega)) d_E_clashesWith_102
                · skip
                  refine lv_iconst (v := iI 1) hx hb d_E_clashesWith_97 (by decide) ?_
                  refine lv_goto (tgt := 102) hx hb d_E_clashesWith_98 (by decide) ?_
                  exact zretRz hx hb hr hlk (⟨_, rfl, zTf_1 (by unfold zTf at hfo hfo2; exact Or.inl ⟨by omega, fun t h1 h2 => hsm t h1 (by omega), by omega⟩), by omega⟩) (zn01 (by omega)) d_E_clashesWith_102
          · skip
            refine lv_aload_n hx hb d_E_clashesWith_44 rfl (lv_at hl 3 rfl) ?_
            refine va_get (ci := 7) (C := "ZipGuard$Entry") (T := F_E) (N := 12) hx hb ht zi_E hown hK hP 0 rfl rfl 0 (by decide) (ht _ zm_118) (fun _ h9 => h9) rfl d_E_clashesWith_45 ?_
            refine lv_iload hx hb d_E_clashesWith_48 (lv_at hl 0 rfl) ?_
            refine zv_bald hx hb hK hP 1 0 rfl rfl (by omega) (by decide) d_E_clashesWith_50 (fun x_31 hz_32 ha_33 ha_34 => ?_)
            have hr_35 := zrI_of hz_32 ha_33 ha_34
            refine lv_aload_n hx hb d_E_clashesWith_51 rfl (lv_at hl 2 rfl) ?_
            refine va_get (ci := 7) (C := "ZipGuard$Entry") (T := F_E) (N := 12) hx hb ht zi_E hown hK hP 2 rfl rfl 0 (by decide) (ht _ zm_118) (fun _ h9 => h9) rfl d_E_clashesWith_52 ?_
            refine lv_iload hx hb d_E_clashesWith_55 (lv_at hl 0 rfl) ?_
            refine zv_bald hx hb hK hP 3 0 rfl rfl (by omega) (by decide) d_E_clashesWith_57 (fun x_36 hz_37 ha_38 ha_39 => ?_)
            have hr_40 := zrI_of hz_37 ha_38 ha_39
            refine zv_icmp_eq (tgt := 63) hx hb d_E_clashesWith_58 (by decide) (by omega) (by omega) (fun hc_41 => ?_) (fun hc_41 => ?_)
            · skip
              refine lv_iinc (k := 0) (v := iI (k + 1)) (lv' := [(5, .int (iI (k + 1))), (4, .int (iI nl)), (3, .ref qe2), (2, .ref qe), (0, .ref qe), (1, .ref qe2)]) hx hb d_E_clashesWith_63 hl rfl (zinc (by omega)) (by decide) rfl (fun ls hl => ?_)
              refine lv_goto (tgt := 37) hx hb d_E_clashesWith_66 (by decide) ?_
              exact ih37 (k + 1) _ (by omega) (zst_all hsm (by omega)) (by omega) hl
            · skip
              refine lv_iconst (v := iI 0) hx hb d_E_clashesWith_61 (by decide) ?_
              exact zretRz hx hb hr hlk (⟨_, rfl, zTf_0 (by unfold zCl; exact fun q => q.elim (fun q => absurd (q.2.1 k (by omega) (by omega)) (by omega)) (fun q => by have q1 := q.1; omega)), by omega⟩) (zn01 (by omega)) d_E_clashesWith_62
      exact lp37 ((60 - 0 + 1 : Int)).toNat 0 _ (by omega) (fun t h1 h2 => absurd h2 (by omega)) (by omega) hl)
set_option maxHeartbeats 4000000 in
set_option maxRecDepth 100000 in
theorem a_D_fault (l : Launch) (D : va_G) (sz : Nat) (qd : Nat) (qn : Nat) (ct : Int) (io : Int) (fp : Int) (qt : Nat) (fa : Int) (pl : Int)  : Met l y_D_faultAt (Cond.code y_D_faultAt prog_4_method_4_code 3 (Option.some Jvm.ClassFile.FieldType.int) :: zt) { frames := 0, cells := 0, slots := 0, locals := 0 } (zPc [.ref qd, .int (iI fa), .int (iI pl)] D [(qd, .inr (2, [.ref qn, .int (iI ct), .int (iI io), .int (iI fp), .ref qt]))] [] sz (fun _ => True)) (va_Qi (fun (r : Int32) => fun (_ : Unit) => r = (iI fa) ∧ (True)) (fun u9 t => zB D ((fun (_ : Unit) => [(qd, .inr (2, [.ref qn, .int (iI ct), .int (iI io), .int (iI pl), .ref qt]))]) u9) ((fun (_ : Unit) => []) u9) (va_A [(qd, .inr (2, [.ref qn, .int (iI ct), .int (iI io), .int (iI fp), .ref qt]))] sz) t) (va_A [(qd, .inr (2, [.ref qn, .int (iI ct), .int (iI io), .int (iI fp), .ref qt]))] sz)) 0 0 (va_A [(qd, .inr (2, [.ref qn, .int (iI ct), .int (iI io), .int (iI fp), .ref qt]))] sz) :=
  zMet (Qf := fun A => va_Qi (fun (r : Int32) => fun (_ : Unit) => r = (iI fa) ∧ (True)) (fun u9 t => zB D ((fun (_ : Unit) => [(qd, .inr (2, [.ref qn, .int (iI ct), .int (iI io), .int (iI pl), .ref qt]))]) u9) ((fun (_ : Unit) => []) u9) A t) A) (by decide) (Nat.le_of_ble_eq_true rfl) (fun p e s m below meth c A ls hx hb hr hml hown ht hlk hnm hA hK hP hD hX hl => by
    have hS : va_S A s.heap s.heap [] := va_S.rf
    have hl : lv_has ls 3 [(0, .ref qd), (1, .int (iI fa)), (2, .int (iI pl))] := hl
    refine lv_aload_n hx hb d_D_faultAt_0 rfl (lv_at hl 0 rfl) ?_
    refine lv_iload_n hx hb d_D_faultAt_1 rfl (lv_at hl 2 rfl) ?_
    refine va_put (ci := 2) (v := .int (iI pl)) (ty := .int) (C := "ZipGuard$Directory") (T := F_D) (N := 5) hx hb ht zi_D ty_D tk_D nm_D hown hK hP hD hS 0 rfl rfl 3 (by decide) (ht _ zm_185) (fun _ h9 => h9) rfl (by decide +kernel) rfl rfl (Nat.le_of_ble_eq_true rfl) d_D_faultAt_2 (fun H locs hP hD hS => ?_)
    have hP : va_P D zcl [(qd, .inr (2, [.ref qn, .int (iI ct), .int (iI io), .int (iI pl), .ref qt]))] H := hP
    have hD : va_D A [(qd, .inr (2, [.ref qn, .int (iI ct), .int (iI io), .int (iI pl), .ref qt]))] := hD
    refine lv_iload_n hx hb d_D_faultAt_5 rfl (lv_at hl 1 rfl) ?_
    exact zreti hx hb hr hlk hK hP hD hS () [0] [] rfl (by decide) rfl (⟨rfl, trivial⟩) (Nat.le_of_ble_eq_true rfl) (Nat.le_of_ble_eq_true rfl) d_D_faultAt_6)
set_option maxHeartbeats 4000000 in
set_option maxRecDepth 100000 in
theorem a_D_fe (l : Launch) (D : va_G) (qd : Nat) (qn : Nat) (ct : Int) (io : Int) (fp : Int) (qt : Nat) (qb : Nat) (cB : ClassId) (f : Nat → Int32) (L : Int) (hL : 0 ≤ L ∧ L ≤ 20000) : Met l y_D_findEnd (Cond.code y_D_findEnd prog_4_method_5_code 2 (Option.some Jvm.ClassFile.FieldType.int) :: zt) { frames := 2, cells := 0, slots := 0, locals := 44 } (zPcR [.ref qd] D [(qd, .inr (2, [.ref qn, .int (iI ct), .int (iI io), .int (iI fp), .ref qt])), (qt, .inr (1, [.ref qb, .int (iI L)])), (qb, .inl (cB, 20000, .inl f))] [(cB, .byte)] (fun _ => True)) (zQR (fun (r : Int32) => ∃ x : Int, r = iI x ∧ ((zFE (zC1 f L) L x) ∧ (x = -1 ∨ 0 ≤ x ∧ x + 22 ≤ L)))) 0 0 (fun _ => False) :=
  zMetR (by decide) (Nat.le_of_ble_eq_true rfl) (fun p e s m below meth c ls hx hb hr hml hown ht hlk hK hP hX hl => by
    have hl : lv_has ls 2 [(0, .ref qd)] := hl
    refine lv_aload_n hx hb d_D_findEnd_0 rfl (lv_at hl 0 rfl) ?_
    refine va_get (ci := 2) (C := "ZipGuard$Directory") (T := F_D) (N := 5) hx hb ht zi_D hown hK hP 0 rfl rfl 4 (by decide) (ht _ zm_187) (fun _ h9 => h9) rfl d_D_findEnd_1 ?_
    refine va_get (ci := 1) (C := "ZipGuard$Tape") (T := F_T) (N := 2) hx hb ht zi_T hown hK hP 1 rfl rfl 1 (by decide) (ht _ zm_99) (fun _ h9 => h9) rfl d_D_findEnd_4 ?_
    refine lv_bipush (v := iI 22) hx hb d_D_findEnd_7 (by decide) ?_
    refine zv_isub (z := L - 22) hx hb d_D_findEnd_9 (by omega) ?_
    refine lv_istore_n (lv' := [(1, .int (iI (L - 22))), (0, .ref qd)]) hx hb d_D_findEnd_10 rfl hl (by decide) rfl (fun ls hl => ?_)
    have lp11 : ∀ (j : Nat) (ee : Int) (ls : Array Slot), (-22 ≤ ee ∧ ee + 22 ≤ L) → (∀ i : Int, ee < i → i + 22 ≤ L → ¬ zEd (zC1 f L) L i) → (ee + 22 < (j : Int)) → lv_has ls 2 [(1, .int (iI ee)), (0, .ref qd)] → W p l e { frames := 2, cells := 0, slots := 0, locals := 44 } s m [.ref qd].toArray below meth c s.heap [] 0 0 (MQ below (zQR (fun (r : Int32) => ∃ x : Int, r = iI x ∧ ((zFE (zC1 f L) L x) ∧ (x = -1 ∨ 0 ≤ x ∧ x + 22 ≤ L)))) [.ref qd].toArray s 0 0 (fun _ => False)) (F0 m 11 ls []) := by
      intro j
      induction j with
      | zero => intro ee ls hee hno hj11 hl; exfalso; omega
      | succ j ih11 =>
        intro ee ls hee hno hj11 hl
        refine lv_iload_n hx hb d_D_findEnd_11 rfl (lv_at hl 0 rfl) ?_
        refine zv_if_lt (tgt := 63) hx hb d_D_findEnd_12 (by decide) (by omega) (fun hc_1 => ?_) (fun hc_1 => ?_)
        · skip
          refine lv_iconst (v := iI (-1)) hx hb d_D_findEnd_63 (by decide) ?_
          exact zretR hx hb hr hlk (⟨_, rfl, Or.inl ⟨rfl, fun i h1 h2 => hno i (by omega) h2⟩, by omega⟩) d_D_findEnd_64
        · skip
          refine lv_aload_n hx hb d_D_findEnd_15 rfl (lv_at hl 1 rfl) ?_
          refine va_get (ci := 2) (C := "ZipGuard$Directory") (T := F_D) (N := 5) hx hb ht zi_D hown hK hP 0 rfl rfl 4 (by decide) (ht _ zm_187) (fun _ h9 => h9) rfl d_D_findEnd_16 ?_
          refine lv_iload_n hx hb d_D_findEnd_19 rfl (lv_at hl 0 rfl) ?_
          refine lv_iconst (v := iI 5) hx hb d_D_findEnd_20 (by decide) ?_
          refine lv_bipush (v := iI 6) hx hb d_D_findEnd_21 (by decide) ?_
          refine zjR (va_runV (As := [.int (iI ee), .int (iI 5), .int (iI 6)]) (rest := []) ⟨hx, hb, hml, hown, ht⟩ (a_T_mark l D qt qb cB f L ee 5 6 (by omega) (by omega) (by omega) (by omega)) (cwV 3 ht (zt_goodV zm_423 zm_424 zm_425 zm_66 zm_426) rfl rfl rfl (by decide +kernel) ⟨Nat.le_of_ble_eq_true rfl, Nat.le_of_ble_eq_true rfl⟩) (zpreRV zBlind_t hK hP [1, 2] [0] rfl rfl (fun _ _ _ => trivial) (va_recv (q := ("ZipGuard$Tape", F_T, 2)) hK hP rfl (q0 := 1) (ci := 1) rfl)) rfl rfl hl.1 rfl (lv_room (Nat.le_of_ble_eq_true rfl)) d_D_findEnd_23 ⟨Nat.le_of_ble_eq_true rfl, Nat.le_of_ble_eq_true rfl⟩) (fun r2 hp3 => ?_)
          obtain ⟨x_4, he_5, hp3⟩ := hp3
          subst he_5
          refine zv_if_eq (tgt := 57) hx hb d_D_findEnd_26 (by decide) (by omega) (fun hc_6 => ?_) (fun hc_6 => ?_)
          · skip
            have htf_7 := zTf_f hp3.1 hc_6
            refine lv_iinc (k := 0) (v := iI (ee - 1)) (lv' := [(1, .int (iI (ee - 1))), (0, .ref qd)]) hx hb d_D_findEnd_57 hl rfl (zinc (by omega)) (by decide) rfl (fun ls hl => ?_)
            refine lv_goto (tgt := 11) hx hb d_D_findEnd_60 (by decide) ?_
            exact ih11 (ee - 1) _ (by omega) (zFE_s hno (fun q9 => by first | exact zTf_f hp3.1 (by omega) q9.1 | (have q8 := q9.2; omega))) (by omega) hl
          · skip
            have htf_8 := zTf_t hp3.1 hc_6
            refine lv_iload_n hx hb d_D_findEnd_29 rfl (lv_at hl 0 rfl) ?_
            refine lv_bipush (v := iI 22) hx hb d_D_findEnd_30 (by decide) ?_
            refine zv_iadd (z := ee + 22) hx hb d_D_findEnd_32 (by omega) ?_
            refine lv_aload_n hx hb d_D_findEnd_33 rfl (lv_at hl 1 rfl) ?_
            refine va_get (ci := 2) (C := "ZipGuard$Directory") (T := F_D) (N := 5) hx hb ht zi_D hown hK hP 0 rfl rfl 4 (by decide) (ht _ zm_187) (fun _ h9 => h9) rfl d_D_findEnd_34 ?_
            refine lv_iload_n hx hb d_D_findEnd_37 rfl (lv_at hl 0 rfl) ?_
            refine lv_bipush (v := iI 20) hx hb d_D_findEnd_38 (by decide) ?_
            refine zv_iadd (z := ee + 20) hx hb d_D_findEnd_40 (by omega) ?_
            refine zjR (va_runV (As := [.int (iI (ee + 20))]) (rest := [.int (iI (ee + 22))]) ⟨hx, hb, hml, hown, ht⟩ (a_T_two l D qt qb cB f L (ee + 20) (by omega) (by omega)) (cwV 1 ht (zt_goodV zm_431 zm_432 zm_433 zm_66 zm_434) rfl rfl rfl (by decide +kernel) ⟨Nat.le_of_ble_eq_true rfl, Nat.le_of_ble_eq_true rfl⟩) (zpreRV zBlind_t hK hP [1, 2] [0] rfl rfl (fun _ _ _ => trivial) (va_recv (q := ("ZipGuard$Tape", F_T, 2)) hK hP rfl (q0 := 1) (ci := 1) rfl)) rfl rfl hl.1 rfl (lv_room (Nat.le_of_ble_eq_true rfl)) d_D_findEnd_41 ⟨Nat.le_of_ble_eq_true rfl, Nat.le_of_ble_eq_true rfl⟩) (fun r9 hp10 => ?_)
            obtain ⟨x_11, he_12, hp10⟩ := hp10
            subst he_12
            refine zv_iadd (z := ee + x_11 + 22) hx hb d_D_findEnd_44 (by omega) ?_
            refine lv_aload_n hx hb d_D_findEnd_45 rfl (lv_at hl 1 rfl) ?_
            refine va_get (ci := 2) (C := "ZipGuard$Directory") (T := F_D) (N := 5) hx hb ht zi_D hown hK hP 0 rfl rfl 4 (by decide) (ht _ zm_187) (fun _ h9 => h9) rfl d_D_findEnd_46 ?_
            refine va_get (ci := 1) (C := "ZipGuard$Tape") (T := F_T) (N := 2) hx hb ht zi_T hown hK hP 1 rfl rfl 1 (by decide) (ht _ zm_99) (fun _ h9 => h9) rfl d_D_findEnd_49 ?_
            refine zv_icmp_ne (tgt := 57) hx hb d_D_findEnd_52 (by decide) (by omega) (by omega) (fun hc_13 => ?_) (fun hc_13 => ?_)
            · skip
              refine lv_iinc (k := 0) (v := iI (ee - 1)) (lv' := [(1, .int (iI (ee - 1))), (0, .ref qd)]) hx hb d_D_findEnd_57 hl rfl (zinc (by omega)) (by decide) rfl (fun ls hl => ?_)
              refine lv_goto (tgt := 11) hx hb d_D_findEnd_60 (by decide) ?_
              exact ih11 (ee - 1) _ (by omega) (zFE_s hno (fun q9 => by first | exact zTf_f hp3.1 (by omega) q9.1 | (have q8 := q9.2; omega))) (by omega) hl
            · skip
              refine lv_iload_n hx hb d_D_findEnd_55 rfl (lv_at hl 0 rfl) ?_
              exact zretR hx hb hr hlk (⟨_, rfl, Or.inr ⟨by omega, by omega, ⟨zTf_t hp3.1 (by omega), by omega⟩, hno⟩, by omega⟩) d_D_findEnd_56
    exact lp11 (((L - 22) + 22 + 1 : Int)).toNat (L - 22) _ (by omega) (fun i h1 h2 => absurd h1 (by omega)) (by omega) hl)
set_option maxHeartbeats 4000000 in
set_option maxRecDepth 100000 in
theorem a_D_ce (l : Launch) (D : va_G) (sz : Nat) (qd : Nat) (qn : Nat) (ct : Int) (io : Int) (fp : Int) (qt : Nat) (qb : Nat) (cB : ClassId) (f : Nat → Int32) (L : Int) (cc0 : Int) (hL : 0 ≤ L ∧ L ≤ 20000) (hc : 0 ≤ cc0 ∧ cc0 ≤ 300000) : Met l y_D_checkEnd (Cond.code y_D_checkEnd prog_4_method_6_code 2 (Option.some Jvm.ClassFile.FieldType.int) :: zt) { frames := 2, cells := 0, slots := 0, locals := 42 } (zPc [.ref qd, .int (iI cc0)] D [(qd, .inr (2, [.ref qn, .int (iI ct), .int (iI io), .int (iI fp), .ref qt])), (qt, .inr (1, [.ref qb, .int (iI L)])), (qb, .inl (cB, 20000, .inl f))] [(cB, .byte)] sz (fun _ => True)) (va_Qi (fun (r : Int32) => fun (u9 : Int × Int) => match u9 with | (fp1, x) => r = (iI x) ∧ ((zHd (zC1 f L) cc0 x fp1) ∧ ((x = 0 ∧ fp1 = fp ∧ zg4 (zC1 f L) (cc0 + 12) + zg4 (zC1 f L) (cc0 + 16) = cc0 ∧ zg2 (zC1 f L) (cc0 + 10) ≤ 64 ∧ 0 ≤ zg4 (zC1 f L) (cc0 + 12) ∧ 0 ≤ zg4 (zC1 f L) (cc0 + 16) ∧ 0 ≤ zg2 (zC1 f L) (cc0 + 10)) ∨ (-11 ≤ x ∧ x < 0)))) (fun u9 t => zB D ((fun (u9 : Int × Int) => match u9 with | (fp1, x) => [(qd, .inr (2, [.ref qn, .int (iI ct), .int (iI io), .int (iI fp1), .ref qt])), (qt, .inr (1, [.ref qb, .int (iI L)])), (qb, .inl (cB, 20000, .inl f))]) u9) ((fun (u9 : Int × Int) => match u9 with | (fp1, x) => [(cB, .byte)]) u9) (va_A [(qd, .inr (2, [.ref qn, .int (iI ct), .int (iI io), .int (iI fp), .ref qt])), (qt, .inr (1, [.ref qb, .int (iI L)])), (qb, .inl (cB, 20000, .inl f))] sz) t) (va_A [(qd, .inr (2, [.ref qn, .int (iI ct), .int (iI io), .int (iI fp), .ref qt])), (qt, .inr (1, [.ref qb, .int (iI L)])), (qb, .inl (cB, 20000, .inl f))] sz)) 0 0 (va_A [(qd, .inr (2, [.ref qn, .int (iI ct), .int (iI io), .int (iI fp), .ref qt])), (qt, .inr (1, [.ref qb, .int (iI L)])), (qb, .inl (cB, 20000, .inl f))] sz) :=
  zMet (Qf := fun A => va_Qi (fun (r : Int32) => fun (u9 : Int × Int) => match u9 with | (fp1, x) => r = (iI x) ∧ ((zHd (zC1 f L) cc0 x fp1) ∧ ((x = 0 ∧ fp1 = fp ∧ zg4 (zC1 f L) (cc0 + 12) + zg4 (zC1 f L) (cc0 + 16) = cc0 ∧ zg2 (zC1 f L) (cc0 + 10) ≤ 64 ∧ 0 ≤ zg4 (zC1 f L) (cc0 + 12) ∧ 0 ≤ zg4 (zC1 f L) (cc0 + 16) ∧ 0 ≤ zg2 (zC1 f L) (cc0 + 10)) ∨ (-11 ≤ x ∧ x < 0)))) (fun u9 t => zB D ((fun (u9 : Int × Int) => match u9 with | (fp1, x) => [(qd, .inr (2, [.ref qn, .int (iI ct), .int (iI io), .int (iI fp1), .ref qt])), (qt, .inr (1, [.ref qb, .int (iI L)])), (qb, .inl (cB, 20000, .inl f))]) u9) ((fun (u9 : Int × Int) => match u9 with | (fp1, x) => [(cB, .byte)]) u9) A t) A) (by decide) (Nat.le_of_ble_eq_true rfl) (fun p e s m below meth c A ls hx hb hr hml hown ht hlk hnm hA hK hP hD hX hl => by
    have hS : va_S A s.heap s.heap [] := va_S.rf
    have hl : lv_has ls 2 [(0, .ref qd), (1, .int (iI cc0))] := hl
    refine lv_aload_n hx hb d_D_checkEnd_0 rfl (lv_at hl 0 rfl) ?_
    refine va_get (ci := 2) (C := "ZipGuard$Directory") (T := F_D) (N := 5) hx hb ht zi_D hown hK hP 0 rfl rfl 4 (by decide) (ht _ zm_187) (fun _ h9 => h9) rfl d_D_checkEnd_1 ?_
    refine lv_iload_n hx hb d_D_checkEnd_4 rfl (lv_at hl 1 rfl) ?_
    refine lv_iconst (v := iI 4) hx hb d_D_checkEnd_5 (by decide) ?_
    refine zv_iadd (z := cc0 + 4) hx hb d_D_checkEnd_6 (by omega) ?_
    refine zjRl (va_runV (As := [.int (iI (cc0 + 4))]) (rest := []) ⟨hx, hb, hml, hown, ht⟩ (a_T_four l D qt qb cB f L (cc0 + 4) (by omega) (by omega)) (cwV 1 ht (zt_goodV zm_441 zm_442 zm_443 zm_66 zm_444) rfl rfl rfl (by decide +kernel) ⟨Nat.le_of_ble_eq_true rfl, Nat.le_of_ble_eq_true rfl⟩) (zpreRV zBlind_t hK hP [1, 2] [0] rfl rfl (fun _ _ _ => trivial) (va_recv (q := ("ZipGuard$Tape", F_T, 2)) hK hP rfl (q0 := 1) (ci := 1) rfl)) rfl rfl hl.1 rfl (lv_room (Nat.le_of_ble_eq_true rfl)) d_D_checkEnd_7 ⟨Nat.le_of_ble_eq_true rfl, Nat.le_of_ble_eq_true rfl⟩) (fun r1 hp2 => ?_)
    obtain ⟨x_3, he_4, hp2⟩ := hp2
    subst he_4
    refine lv_lconst (v := lI 0) hx hb d_D_checkEnd_10 (by decide) ?_
    refine zv_lcmp_eq (tgt := 25) hx hb d_D_checkEnd_11 d_D_checkEnd_12 (by decide) (by omega) (by omega) (fun hc_5 => ?_) (fun hc_5 => ?_)
    · skip
      refine lv_aload_n hx hb d_D_checkEnd_25 rfl (lv_at hl 0 rfl) ?_
      refine va_get (ci := 2) (C := "ZipGuard$Directory") (T := F_D) (N := 5) hx hb ht zi_D hown hK hP 0 rfl rfl 4 (by decide) (ht _ zm_187) (fun _ h9 => h9) rfl d_D_checkEnd_26 ?_
      refine lv_iload_n hx hb d_D_checkEnd_29 rfl (lv_at hl 1 rfl) ?_
      refine lv_bipush (v := iI 8) hx hb d_D_checkEnd_30 (by decide) ?_
      refine zv_iadd (z := cc0 + 8) hx hb d_D_checkEnd_32 (by omega) ?_
      refine zjR (va_runV (As := [.int (iI (cc0 + 8))]) (rest := []) ⟨hx, hb, hml, hown, ht⟩ (a_T_two l D qt qb cB f L (cc0 + 8) (by omega) (by omega)) (cwV 1 ht (zt_goodV zm_431 zm_432 zm_433 zm_66 zm_434) rfl rfl rfl (by decide +kernel) ⟨Nat.le_of_ble_eq_true rfl, Nat.le_of_ble_eq_true rfl⟩) (zpreRV zBlind_t hK hP [1, 2] [0] rfl rfl (fun _ _ _ => trivial) (va_recv (q := ("ZipGuard$Tape", F_T, 2)) hK hP rfl (q0 := 1) (ci := 1) rfl)) rfl rfl hl.1 rfl (lv_room (Nat.le_of_ble_eq_true rfl)) d_D_checkEnd_33 ⟨Nat.le_of_ble_eq_true rfl, Nat.le_of_ble_eq_true rfl⟩) (fun r6 hp7 => ?_)
      obtain ⟨x_8, he_9, hp7⟩ := hp7
      subst he_9
      refine lv_aload_n hx hb d_D_checkEnd_36 rfl (lv_at hl 0 rfl) ?_
      refine va_get (ci := 2) (C := "ZipGuard$Directory") (T := F_D) (N := 5) hx hb ht zi_D hown hK hP 0 rfl rfl 4 (by decide) (ht _ zm_187) (fun _ h9 => h9) rfl d_D_checkEnd_37 ?_
      refine lv_iload_n hx hb d_D_checkEnd_40 rfl (lv_at hl 1 rfl) ?_
      refine lv_bipush (v := iI 10) hx hb d_D_checkEnd_41 (by decide) ?_
      refine zv_iadd (z := cc0 + 10) hx hb d_D_checkEnd_43 (by omega) ?_
      refine zjR (va_runV (As := [.int (iI (cc0 + 10))]) (rest := [.int (iI x_8)]) ⟨hx, hb, hml, hown, ht⟩ (a_T_two l D qt qb cB f L (cc0 + 10) (by omega) (by omega)) (cwV 1 ht (zt_goodV zm_431 zm_432 zm_433 zm_66 zm_434) rfl rfl rfl (by decide +kernel) ⟨Nat.le_of_ble_eq_true rfl, Nat.le_of_ble_eq_true rfl⟩) (zpreRV zBlind_t hK hP [1, 2] [0] rfl rfl (fun _ _ _ => trivial) (va_recv (q := ("ZipGuard$Tape", F_T, 2)) hK hP rfl (q0 := 1) (ci := 1) rfl)) rfl rfl hl.1 rfl (lv_room (Nat.le_of_ble_eq_true rfl)) d_D_checkEnd_44 ⟨Nat.le_of_ble_eq_true rfl, Nat.le_of_ble_eq_true rfl⟩) (fun r10 hp11 => ?_)
      obtain ⟨x_12, he_13, hp11⟩ := hp11
      subst he_13
      refine zv_icmp_eq (tgt := 61) hx hb d_D_checkEnd_47 (by decide) (by omega) (by omega) (fun hc_14 => ?_) (fun hc_14 => ?_)
      · skip
        refine lv_aload_n hx hb d_D_checkEnd_61 rfl (lv_at hl 0 rfl) ?_
        refine va_get (ci := 2) (C := "ZipGuard$Directory") (T := F_D) (N := 5) hx hb ht zi_D hown hK hP 0 rfl rfl 4 (by decide) (ht _ zm_187) (fun _ h9 => h9) rfl d_D_checkEnd_62 ?_
        refine lv_iload_n hx hb d_D_checkEnd_65 rfl (lv_at hl 1 rfl) ?_
        refine lv_bipush (v := iI 12) hx hb d_D_checkEnd_66 (by decide) ?_
        refine zv_iadd (z := cc0 + 12) hx hb d_D_checkEnd_68 (by omega) ?_
        refine zjRl (va_runV (As := [.int (iI (cc0 + 12))]) (rest := []) ⟨hx, hb, hml, hown, ht⟩ (a_T_four l D qt qb cB f L (cc0 + 12) (by omega) (by omega)) (cwV 1 ht (zt_goodV zm_441 zm_442 zm_443 zm_66 zm_444) rfl rfl rfl (by decide +kernel) ⟨Nat.le_of_ble_eq_true rfl, Nat.le_of_ble_eq_true rfl⟩) (zpreRV zBlind_t hK hP [1, 2] [0] rfl rfl (fun _ _ _ => trivial) (va_recv (q := ("ZipGuard$Tape", F_T, 2)) hK hP rfl (q0 := 1) (ci := 1) rfl)) rfl rfl hl.1 rfl (lv_room (Nat.le_of_ble_eq_true rfl)) d_D_checkEnd_69 ⟨Nat.le_of_ble_eq_true rfl, Nat.le_of_ble_eq_true rfl⟩) (fun r15 hp16 => ?_)
        obtain ⟨x_17, he_18, hp16⟩ := hp16
        subst he_18
        refine lv_aload_n hx hb d_D_checkEnd_72 rfl (lv_at hl 0 rfl) ?_
        refine va_get (ci := 2) (C := "ZipGuard$Directory") (T := F_D) (N := 5) hx hb ht zi_D hown hK hP 0 rfl rfl 4 (by decide) (ht _ zm_187) (fun _ h9 => h9) rfl d_D_checkEnd_73 ?_
        refine lv_iload_n hx hb d_D_checkEnd_76 rfl (lv_at hl 1 rfl) ?_
        refine lv_bipush (v := iI 16) hx hb d_D_checkEnd_77 (by decide) ?_
        refine zv_iadd (z := cc0 + 16) hx hb d_D_checkEnd_79 (by omega) ?_
        refine zjRl (va_runV (As := [.int (iI (cc0 + 16))]) (rest := [.long (lI x_17)]) ⟨hx, hb, hml, hown, ht⟩ (a_T_four l D qt qb cB f L (cc0 + 16) (by omega) (by omega)) (cwV 1 ht (zt_goodV zm_441 zm_442 zm_443 zm_66 zm_444) rfl rfl rfl (by decide +kernel) ⟨Nat.le_of_ble_eq_true rfl, Nat.le_of_ble_eq_true rfl⟩) (zpreRV zBlind_t hK hP [1, 2] [0] rfl rfl (fun _ _ _ => trivial) (va_recv (q := ("ZipGuard$Tape", F_T, 2)) hK hP rfl (q0 := 1) (ci := 1) rfl)) rfl rfl hl.1 rfl (lv_room (Nat.le_of_ble_eq_true rfl)) d_D_checkEnd_80 ⟨Nat.le_of_ble_eq_true rfl, Nat.le_of_ble_eq_true rfl⟩) (fun r19 hp20 => ?_)
        obtain ⟨x_21, he_22, hp20⟩ := hp20
        subst he_22
        refine zv_ladd (z := x_17 + x_21) hx hb d_D_checkEnd_83 (by omega) ?_
        refine lv_iload_n hx hb d_D_checkEnd_84 rfl (lv_at hl 1 rfl) ?_
        refine zv_i2l hx hb d_D_checkEnd_85 (by omega) ?_
        refine zv_lcmp_eq (tgt := 101) hx hb d_D_checkEnd_86 d_D_checkEnd_87 (by decide) (by omega) (by omega) (fun hc_23 => ?_) (fun hc_23 => ?_)
        · skip
          refine lv_aload_n hx hb d_D_checkEnd_101 rfl (lv_at hl 0 rfl) ?_
          refine va_get (ci := 2) (C := "ZipGuard$Directory") (T := F_D) (N := 5) hx hb ht zi_D hown hK hP 0 rfl rfl 4 (by decide) (ht _ zm_187) (fun _ h9 => h9) rfl d_D_checkEnd_102 ?_
          refine lv_iload_n hx hb d_D_checkEnd_105 rfl (lv_at hl 1 rfl) ?_
          refine lv_bipush (v := iI 10) hx hb d_D_checkEnd_106 (by decide) ?_
          refine zv_iadd (z := cc0 + 10) hx hb d_D_checkEnd_108 (by omega) ?_
          refine zjR (va_runV (As := [.int (iI (cc0 + 10))]) (rest := []) ⟨hx, hb, hml, hown, ht⟩ (a_T_two l D qt qb cB f L (cc0 + 10) (by omega) (by omega)) (cwV 1 ht (zt_goodV zm_431 zm_432 zm_433 zm_66 zm_434) rfl rfl rfl (by decide +kernel) ⟨Nat.le_of_ble_eq_true rfl, Nat.le_of_ble_eq_true rfl⟩) (zpreRV zBlind_t hK hP [1, 2] [0] rfl rfl (fun _ _ _ => trivial) (va_recv (q := ("ZipGuard$Tape", F_T, 2)) hK hP rfl (q0 := 1) (ci := 1) rfl)) rfl rfl hl.1 rfl (lv_room (Nat.le_of_ble_eq_true rfl)) d_D_checkEnd_109 ⟨Nat.le_of_ble_eq_true rfl, Nat.le_of_ble_eq_true rfl⟩) (fun r24 hp25 => ?_)
          obtain ⟨x_26, he_27, hp25⟩ := hp25
          subst he_27
          refine lv_bipush (v := iI 64) hx hb d_D_checkEnd_112 (by decide) ?_
          refine zv_icmp_le (tgt := 128) hx hb d_D_checkEnd_114 (by decide) (by omega) (by omega) (fun hc_28 => ?_) (fun hc_28 => ?_)
          · skip
            refine lv_iconst (v := iI 0) hx hb d_D_checkEnd_128 (by decide) ?_
            exact zreti hx hb hr hlk hK hP hD hS (fp, 0) [0, 1, 2] [0] rfl (by decide) rfl (⟨rfl, ⟨by unfold zHd; omega, by omega⟩⟩) (Nat.le_of_ble_eq_true rfl) (Nat.le_of_ble_eq_true rfl) d_D_checkEnd_129
          · skip
            refine lv_aload_n hx hb d_D_checkEnd_117 rfl (lv_at hl 0 rfl) ?_
            refine lv_bipush (v := iI (-4)) hx hb d_D_checkEnd_118 (by decide) ?_
            refine lv_iload_n hx hb d_D_checkEnd_120 rfl (lv_at hl 1 rfl) ?_
            refine lv_bipush (v := iI 10) hx hb d_D_checkEnd_121 (by decide) ?_
            refine zv_iadd (z := cc0 + 10) hx hb d_D_checkEnd_123 (by omega) ?_
            refine zji (wr := [(qt, .inr (1, [.ref qb, .int (iI L)])), (qb, .inl (cB, 20000, .inl f))]) (va_runV (As := [.int (iI (-4)), .int (iI (cc0 + 10))]) (rest := []) ⟨hx, hb, hml, hown, ht⟩ (a_D_fault l D _ qd qn ct io fp qt (-4) (cc0 + 10) ) (cwV 2 ht (zt_goodV zm_435 zm_436 zm_3 zm_67 zm_437) rfl rfl rfl (by decide +kernel) ⟨Nat.le_of_ble_eq_true rfl, Nat.le_of_ble_eq_true rfl⟩) (zpreV zBlind_t hK hP hD [0] [] rfl (by decide) rfl (fun _ _ _ => trivial) (va_recv (q := ("ZipGuard$Directory", F_D, 5)) hK hP rfl (q0 := 0) (ci := 2) rfl)) rfl rfl hl.1 rfl (lv_room (Nat.le_of_ble_eq_true rfl)) d_D_checkEnd_124 ⟨Nat.le_of_ble_eq_true rfl, Nat.le_of_ble_eq_true rfl⟩) hK hP hD hS hA [0] [1, 2] rfl rfl (by decide) (by decide) (fun r29 u9 H locs hp30 hP hD hK hS => ?_)
            have hP : va_P D zcl [(qt, .inr (1, [.ref qb, .int (iI L)])), (qb, .inl (cB, 20000, .inl f)), (qd, .inr (2, [.ref qn, .int (iI ct), .int (iI io), .int (iI (cc0 + 10)), .ref qt]))] H := hP
            have hD : va_D A [(qt, .inr (1, [.ref qb, .int (iI L)])), (qb, .inl (cB, 20000, .inl f)), (qd, .inr (2, [.ref qn, .int (iI ct), .int (iI io), .int (iI (cc0 + 10)), .ref qt]))] := hD
            have hK : va_K D zcl [(cB, .byte)] s := hK
            obtain ⟨he_31, hp30⟩ := hp30
            subst he_31
            have hP := hP.sub (ws' := [(qd, .inr (2, [.ref qn, .int (iI ct), .int (iI io), .int (iI (cc0 + 10)), .ref qt])), (qt, .inr (1, [.ref qb, .int (iI L)])), (qb, .inl (cB, 20000, .inl f))]) [2, 0, 1] rfl
            have hD := hD.sub (ws' := [(qd, .inr (2, [.ref qn, .int (iI ct), .int (iI io), .int (iI (cc0 + 10)), .ref qt])), (qt, .inr (1, [.ref qb, .int (iI L)])), (qb, .inl (cB, 20000, .inl f))]) [2, 0, 1] (by decide) rfl
            have hK := hK.sub (tys' := [(cB, .byte)]) [0] rfl
            exact zreti hx hb hr hlk hK hP hD hS ((cc0 + 10), (-4)) [0, 1, 2] [0] rfl (by decide) rfl (⟨rfl, ⟨by unfold zHd; omega, by omega⟩⟩) (Nat.le_of_ble_eq_true rfl) (Nat.le_of_ble_eq_true rfl) d_D_checkEnd_127
        · skip
          refine lv_aload_n hx hb d_D_checkEnd_90 rfl (lv_at hl 0 rfl) ?_
          refine lv_bipush (v := iI (-3)) hx hb d_D_checkEnd_91 (by decide) ?_
          refine lv_iload_n hx hb d_D_checkEnd_93 rfl (lv_at hl 1 rfl) ?_
          refine lv_bipush (v := iI 12) hx hb d_D_checkEnd_94 (by decide) ?_
          refine zv_iadd (z := cc0 + 12) hx hb d_D_checkEnd_96 (by omega) ?_
          refine zji (wr := [(qt, .inr (1, [.ref qb, .int (iI L)])), (qb, .inl (cB, 20000, .inl f))]) (va_runV (As := [.int (iI (-3)), .int (iI (cc0 + 12))]) (rest := []) ⟨hx, hb, hml, hown, ht⟩ (a_D_fault l D _ qd qn ct io fp qt (-3) (cc0 + 12) ) (cwV 2 ht (zt_goodV zm_435 zm_436 zm_3 zm_67 zm_437) rfl rfl rfl (by decide +kernel) ⟨Nat.le_of_ble_eq_true rfl, Nat.le_of_ble_eq_true rfl⟩) (zpreV zBlind_t hK hP hD [0] [] rfl (by decide) rfl (fun _ _ _ => trivial) (va_recv (q := ("ZipGuard$Directory", F_D, 5)) hK hP rfl (q0 := 0) (ci := 2) rfl)) rfl rfl hl.1 rfl (lv_room (Nat.le_of_ble_eq_true rfl)) d_D_checkEnd_97 ⟨Nat.le_of_ble_eq_true rfl, Nat.le_of_ble_eq_true rfl⟩) hK hP hD hS hA [0] [1, 2] rfl rfl (by decide) (by decide) (fun r32 u9 H locs hp33 hP hD hK hS => ?_)
          have hP : va_P D zcl [(qt, .inr (1, [.ref qb, .int (iI L)])), (qb, .inl (cB, 20000, .inl f)), (qd, .inr (2, [.ref qn, .int (iI ct), .int (iI io), .int (iI (cc0 + 12)), .ref qt]))] H := hP
          have hD : va_D A [(qt, .inr (1, [.ref qb, .int (iI L)])), (qb, .inl (cB, 20000, .inl f)), (qd, .inr (2, [.ref qn, .int (iI ct), .int (iI io), .int (iI (cc0 + 12)), .ref qt]))] := hD
          have hK : va_K D zcl [(cB, .byte)] s := hK
          obtain ⟨he_34, hp33⟩ := hp33
          subst he_34
          have hP := hP.sub (ws' := [(qd, .inr (2, [.ref qn, .int (iI ct), .int (iI io), .int (iI (cc0 + 12)), .ref qt])), (qt, .inr (1, [.ref qb, .int (iI L)])), (qb, .inl (cB, 20000, .inl f))]) [2, 0, 1] rfl
          have hD := hD.sub (ws' := [(qd, .inr (2, [.ref qn, .int (iI ct), .int (iI io), .int (iI (cc0 + 12)), .ref qt])), (qt, .inr (1, [.ref qb, .int (iI L)])), (qb, .inl (cB, 20000, .inl f))]) [2, 0, 1] (by decide) rfl
          have hK := hK.sub (tys' := [(cB, .byte)]) [0] rfl
          exact zreti hx hb hr hlk hK hP hD hS ((cc0 + 12), (-3)) [0, 1, 2] [0] rfl (by decide) rfl (⟨rfl, ⟨by unfold zHd; omega, by omega⟩⟩) (Nat.le_of_ble_eq_true rfl) (Nat.le_of_ble_eq_true rfl) d_D_checkEnd_100
      · skip
        refine lv_aload_n hx hb d_D_checkEnd_50 rfl (lv_at hl 0 rfl) ?_
        refine lv_bipush (v := iI (-2)) hx hb d_D_checkEnd_51 (by decide) ?_
        refine lv_iload_n hx hb d_D_checkEnd_53 rfl (lv_at hl 1 rfl) ?_
        refine lv_bipush (v := iI 8) hx hb d_D_checkEnd_54 (by decide) ?_
        refine zv_iadd (z := cc0 + 8) hx hb d_D_checkEnd_56 (by omega) ?_
        refine zji (wr := [(qt, .inr (1, [.ref qb, .int (iI L)])), (qb, .inl (cB, 20000, .inl f))]) (va_runV (As := [.int (iI (-2)), .int (iI (cc0 + 8))]) (rest := []) ⟨hx, hb, hml, hown, ht⟩ (a_D_fault l D _ qd qn ct io fp qt (-2) (cc0 + 8) ) (cwV 2 ht (zt_goodV zm_435 zm_436 zm_3 zm_67 zm_437) rfl rfl rfl (by decide +kernel) ⟨Nat.le_of_ble_eq_true rfl, Nat.le_of_ble_eq_true rfl⟩) (zpreV zBlind_t hK hP hD [0] [] rfl (by decide) rfl (fun _ _ _ => trivial) (va_recv (q := ("ZipGuard$Directory", F_D, 5)) hK hP rfl (q0 := 0) (ci := 2) rfl)) rfl rfl hl.1 rfl (lv_room (Nat.le_of_ble_eq_true rfl)) d_D_checkEnd_57 ⟨Nat.le_of_ble_eq_true rfl, Nat.le_of_ble_eq_true rfl⟩) hK hP hD hS hA [0] [1, 2] rfl rfl (by decide) (by decide) (fun r35 u9 H locs hp36 hP hD hK hS => ?_)
        have hP : va_P D zcl [(qt, .inr (1, [.ref qb, .int (iI L)])), (qb, .inl (cB, 20000, .inl f)), (qd, .inr (2, [.ref qn, .int (iI ct), .int (iI io), .int (iI (cc0 + 8)), .ref qt]))] H := hP
        have hD : va_D A [(qt, .inr (1, [.ref qb, .int (iI L)])), (qb, .inl (cB, 20000, .inl f)), (qd, .inr (2, [.ref qn, .int (iI ct), .int (iI io), .int (iI (cc0 + 8)), .ref qt]))] := hD
        have hK : va_K D zcl [(cB, .byte)] s := hK
        obtain ⟨he_37, hp36⟩ := hp36
        subst he_37
        have hP := hP.sub (ws' := [(qd, .inr (2, [.ref qn, .int (iI ct), .int (iI io), .int (iI (cc0 + 8)), .ref qt])), (qt, .inr (1, [.ref qb, .int (iI L)])), (qb, .inl (cB, 20000, .inl f))]) [2, 0, 1] rfl
        have hD := hD.sub (ws' := [(qd, .inr (2, [.ref qn, .int (iI ct), .int (iI io), .int (iI (cc0 + 8)), .ref qt])), (qt, .inr (1, [.ref qb, .int (iI L)])), (qb, .inl (cB, 20000, .inl f))]) [2, 0, 1] (by decide) rfl
        have hK := hK.sub (tys' := [(cB, .byte)]) [0] rfl
        exact zreti hx hb hr hlk hK hP hD hS ((cc0 + 8), (-2)) [0, 1, 2] [0] rfl (by decide) rfl (⟨rfl, ⟨by unfold zHd; omega, by omega⟩⟩) (Nat.le_of_ble_eq_true rfl) (Nat.le_of_ble_eq_true rfl) d_D_checkEnd_60
    · skip
      refine lv_aload_n hx hb d_D_checkEnd_15 rfl (lv_at hl 0 rfl) ?_
      refine lv_bipush (v := iI (-2)) hx hb d_D_checkEnd_16 (by decide) ?_
      refine lv_iload_n hx hb d_D_checkEnd_18 rfl (lv_at hl 1 rfl) ?_
      refine lv_iconst (v := iI 4) hx hb d_D_checkEnd_19 (by decide) ?_
      refine zv_iadd (z := cc0 + 4) hx hb d_D_checkEnd_20 (by omega) ?_
      refine zji (wr := [(qt, .inr (1, [.ref qb, .int (iI L)])), (qb, .inl (cB, 20000, .inl f))]) (va_runV (As := [.int (iI (-2)), .int (iI (cc0 + 4))]) (rest := []) ⟨hx, hb, hml, hown, ht⟩ (a_D_fault l D _ qd qn ct io fp qt (-2) (cc0 + 4) ) (cwV 2 ht (zt_goodV zm_435 zm_436 zm_3 zm_67 zm_437) rfl rfl rfl (by decide +kernel) ⟨Nat.le_of_ble_eq_true rfl, Nat.le_of_ble_eq_true rfl⟩) (zpreV zBlind_t hK hP hD [0] [] rfl (by decide) rfl (fun _ _ _ => trivial) (va_recv (q := ("ZipGuard$Directory", F_D, 5)) hK hP rfl (q0 := 0) (ci := 2) rfl)) rfl rfl hl.1 rfl (lv_room (Nat.le_of_ble_eq_true rfl)) d_D_checkEnd_21 ⟨Nat.le_of_ble_eq_true rfl, Nat.le_of_ble_eq_true rfl⟩) hK hP hD hS hA [0] [1, 2] rfl rfl (by decide) (by decide) (fun r38 u9 H locs hp39 hP hD hK hS => ?_)
      have hP : va_P D zcl [(qt, .inr (1, [.ref qb, .int (iI L)])), (qb, .inl (cB, 20000, .inl f)), (qd, .inr (2, [.ref qn, .int (iI ct), .int (iI io), .int (iI (cc0 + 4)), .ref qt]))] H := hP
      have hD : va_D A [(qt, .inr (1, [.ref qb, .int (iI L)])), (qb, .inl (cB, 20000, .inl f)), (qd, .inr (2, [.ref qn, .int (iI ct), .int (iI io), .int (iI (cc0 + 4)), .ref qt]))] := hD
      have hK : va_K D zcl [(cB, .byte)] s := hK
      obtain ⟨he_40, hp39⟩ := hp39
      subst he_40
      have hP := hP.sub (ws' := [(qd, .inr (2, [.ref qn, .int (iI ct), .int (iI io), .int (iI (cc0 + 4)), .ref qt])), (qt, .inr (1, [.ref qb, .int (iI L)])), (qb, .inl (cB, 20000, .inl f))]) [2, 0, 1] rfl
      have hD := hD.sub (ws' := [(qd, .inr (2, [.ref qn, .int (iI ct), .int (iI io), .int (iI (cc0 + 4)), .ref qt])), (qt, .inr (1, [.ref qb, .int (iI L)])), (qb, .inl (cB, 20000, .inl f))]) [2, 0, 1] (by decide) rfl
      have hK := hK.sub (tys' := [(cB, .byte)]) [0] rfl
      exact zreti hx hb hr hlk hK hP hD hS ((cc0 + 4), (-2)) [0, 1, 2] [0] rfl (by decide) rfl (⟨rfl, ⟨by unfold zHd; omega, by omega⟩⟩) (Nat.le_of_ble_eq_true rfl) (Nat.le_of_ble_eq_true rfl) d_D_checkEnd_24)
set_option maxHeartbeats 4000000 in
set_option maxRecDepth 100000 in
theorem a_D_be (l : Launch) (D : va_G) (qd : Nat) (qn : Nat) (ct : Int) (io : Int) (fp : Int) (qt : Nat) (qb : Nat) (cB : ClassId) (f : Nat → Int32) (L : Int) (cc0 : Int) (hL : 0 ≤ L ∧ L ≤ 20000) (hc : 0 ≤ cc0 ∧ cc0 ≤ 300000) : Met l y_D_behindEntry (Cond.code y_D_behindEntry prog_4_method_8_code 2 (Option.some Jvm.ClassFile.FieldType.int) :: zt) { frames := 2, cells := 0, slots := 0, locals := 42 } (zPcR [.ref qd, .int (iI cc0)] D [(qd, .inr (2, [.ref qn, .int (iI ct), .int (iI io), .int (iI fp), .ref qt])), (qt, .inr (1, [.ref qb, .int (iI L)])), (qb, .inl (cB, 20000, .inl f))] [(cB, .byte)] (fun _ => True)) (zQR (fun (r : Int32) => ∃ x : Int, r = iI x ∧ (x = zBh (zC1 f L) cc0 ∧ x = cc0 + 46 + zg2 (zC1 f L) (cc0 + 28) + zg2 (zC1 f L) (cc0 + 30) + zg2 (zC1 f L) (cc0 + 32) ∧ cc0 + 46 ≤ x ∧ x ≤ cc0 + 196651))) 0 0 (fun _ => False) :=
  zMetR (by decide) (Nat.le_of_ble_eq_true rfl) (fun p e s m below meth c ls hx hb hr hml hown ht hlk hK hP hX hl => by
    have hl : lv_has ls 2 [(0, .ref qd), (1, .int (iI cc0))] := hl
    refine lv_iload_n hx hb d_D_behindEntry_0 rfl (lv_at hl 1 rfl) ?_
    refine lv_bipush (v := iI 46) hx hb d_D_behindEntry_1 (by decide) ?_
    refine zv_iadd (z := cc0 + 46) hx hb d_D_behindEntry_3 (by omega) ?_
    refine lv_aload_n hx hb d_D_behindEntry_4 rfl (lv_at hl 0 rfl) ?_
    refine va_get (ci := 2) (C := "ZipGuard$Directory") (T := F_D) (N := 5) hx hb ht zi_D hown hK hP 0 rfl rfl 4 (by decide) (ht _ zm_187) (fun _ h9 => h9) rfl d_D_behindEntry_5 ?_
    refine lv_iload_n hx hb d_D_behindEntry_8 rfl (lv_at hl 1 rfl) ?_
    refine lv_bipush (v := iI 28) hx hb d_D_behindEntry_9 (by decide) ?_
    refine zv_iadd (z := cc0 + 28) hx hb d_D_behindEntry_11 (by omega) ?_
    refine zjR (va_runV (As := [.int (iI (cc0 + 28))]) (rest := [.int (iI (cc0 + 46))]) ⟨hx, hb, hml, hown, ht⟩ (a_T_two l D qt qb cB f L (cc0 + 28) (by omega) (by omega)) (cwV 1 ht (zt_goodV zm_431 zm_432 zm_433 zm_66 zm_434) rfl rfl rfl (by decide +kernel) ⟨Nat.le_of_ble_eq_true rfl, Nat.le_of_ble_eq_true rfl⟩) (zpreRV zBlind_t hK hP [1, 2] [0] rfl rfl (fun _ _ _ => trivial) (va_recv (q := ("ZipGuard$Tape", F_T, 2)) hK hP rfl (q0 := 1) (ci := 1) rfl)) rfl rfl hl.1 rfl (lv_room (Nat.le_of_ble_eq_true rfl)) d_D_behindEntry_12 ⟨Nat.le_of_ble_eq_true rfl, Nat.le_of_ble_eq_true rfl⟩) (fun r1 hp2 => ?_)
    obtain ⟨x_3, he_4, hp2⟩ := hp2
    subst he_4
    refine zv_iadd (z := cc0 + x_3 + 46) hx hb d_D_behindEntry_15 (by omega) ?_
    refine lv_aload_n hx hb d_D_behindEntry_16 rfl (lv_at hl 0 rfl) ?_
    refine va_get (ci := 2) (C := "ZipGuard$Directory") (T := F_D) (N := 5) hx hb ht zi_D hown hK hP 0 rfl rfl 4 (by decide) (ht _ zm_187) (fun _ h9 => h9) rfl d_D_behindEntry_17 ?_
    refine lv_iload_n hx hb d_D_behindEntry_20 rfl (lv_at hl 1 rfl) ?_
    refine lv_bipush (v := iI 30) hx hb d_D_behindEntry_21 (by decide) ?_
    refine zv_iadd (z := cc0 + 30) hx hb d_D_behindEntry_23 (by omega) ?_
    refine zjR (va_runV (As := [.int (iI (cc0 + 30))]) (rest := [.int (iI (cc0 + x_3 + 46))]) ⟨hx, hb, hml, hown, ht⟩ (a_T_two l D qt qb cB f L (cc0 + 30) (by omega) (by omega)) (cwV 1 ht (zt_goodV zm_431 zm_432 zm_433 zm_66 zm_434) rfl rfl rfl (by decide +kernel) ⟨Nat.le_of_ble_eq_true rfl, Nat.le_of_ble_eq_true rfl⟩) (zpreRV zBlind_t hK hP [1, 2] [0] rfl rfl (fun _ _ _ => trivial) (va_recv (q := ("ZipGuard$Tape", F_T, 2)) hK hP rfl (q0 := 1) (ci := 1) rfl)) rfl rfl hl.1 rfl (lv_room (Nat.le_of_ble_eq_true rfl)) d_D_behindEntry_24 ⟨Nat.le_of_ble_eq_true rfl, Nat.le_of_ble_eq_true rfl⟩) (fun r5 hp6 => ?_)
    obtain ⟨x_7, he_8, hp6⟩ := hp6
    subst he_8
    refine zv_iadd (z := cc0 + x_3 + x_7 + 46) hx hb d_D_behindEntry_27 (by omega) ?_
    refine lv_aload_n hx hb d_D_behindEntry_28 rfl (lv_at hl 0 rfl) ?_
    refine va_get (ci := 2) (C := "ZipGuard$Directory") (T := F_D) (N := 5) hx hb ht zi_D hown hK hP 0 rfl rfl 4 (by decide) (ht _ zm_187) (fun _ h9 => h9) rfl d_D_behindEntry_29 ?_
    refine lv_iload_n hx hb d_D_behindEntry_32 rfl (lv_at hl 1 rfl) ?_
    refine lv_bipush (v := iI 32) hx hb d_D_behindEntry_33 (by decide) ?_
    refine zv_iadd (z := cc0 + 32) hx hb d_D_behindEntry_35 (by omega) ?_
    refine zjR (va_runV (As := [.int (iI (cc0 + 32))]) (rest := [.int (iI (cc0 + x_3 + x_7 + 46))]) ⟨hx, hb, hml, hown, ht⟩ (a_T_two l D qt qb cB f L (cc0 + 32) (by omega) (by omega)) (cwV 1 ht (zt_goodV zm_431 zm_432 zm_433 zm_66 zm_434) rfl rfl rfl (by decide +kernel) ⟨Nat.le_of_ble_eq_true rfl, Nat.le_of_ble_eq_true rfl⟩) (zpreRV zBlind_t hK hP [1, 2] [0] rfl rfl (fun _ _ _ => trivial) (va_recv (q := ("ZipGuard$Tape", F_T, 2)) hK hP rfl (q0 := 1) (ci := 1) rfl)) rfl rfl hl.1 rfl (lv_room (Nat.le_of_ble_eq_true rfl)) d_D_behindEntry_36 ⟨Nat.le_of_ble_eq_true rfl, Nat.le_of_ble_eq_true rfl⟩) (fun r9 hp10 => ?_)
    obtain ⟨x_11, he_12, hp10⟩ := hp10
    subst he_12
    refine zv_iadd (z := cc0 + x_3 + x_7 + x_11 + 46) hx hb d_D_behindEntry_39 (by omega) ?_
    exact zretR hx hb hr hlk (⟨_, rfl, by unfold zBh; omega⟩) d_D_behindEntry_40)
set_option maxHeartbeats 4000000 in
set_option maxRecDepth 100000 in
theorem a_D_cs (l : Launch) (D : va_G) (sz : Nat) (qd : Nat) (qn : Nat) (ct : Int) (io : Int) (fp : Int) (qt : Nat) (qb : Nat) (cB : ClassId) (f : Nat → Int32) (L : Int) (cc0 : Int) (ee : Int) (hL : 0 ≤ L ∧ L ≤ 20000) (hc : 0 ≤ cc0 ∧ cc0 ≤ 300000) (he : 0 ≤ ee ∧ ee ≤ 20000) : Met l y_D_checkSpan (Cond.code y_D_checkSpan prog_4_method_9_code 4 (Option.some Jvm.ClassFile.FieldType.int) :: zt) { frames := 3, cells := 0, slots := 0, locals := 63 } (zPc [.ref qd, .int (iI cc0), .int (iI ee)] D [(qd, .inr (2, [.ref qn, .int (iI ct), .int (iI io), .int (iI fp), .ref qt])), (qt, .inr (1, [.ref qb, .int (iI L)])), (qb, .inl (cB, 20000, .inl f))] [(cB, .byte)] sz (fun _ => True)) (va_Qi (fun (r : Int32) => fun (u9 : Int × Int) => match u9 with | (fp1, x) => r = (iI x) ∧ (((x = 0 ∧ zSp (zC1 f L) cc0 ee) ∨ (x = -5 ∧ fp1 = cc0 ∧ ¬ zSp (zC1 f L) cc0 ee)) ∧ ((x = 0 ∧ fp1 = fp ∧ cc0 + 46 ≤ ee ∧ zBh (zC1 f L) cc0 ≤ ee) ∨ (-11 ≤ x ∧ x < 0)))) (fun u9 t => zB D ((fun (u9 : Int × Int) => match u9 with | (fp1, x) => [(qd, .inr (2, [.ref qn, .int (iI ct), .int (iI io), .int (iI fp1), .ref qt])), (qt, .inr (1, [.ref qb, .int (iI L)])), (qb, .inl (cB, 20000, .inl f))]) u9) ((fun (u9 : Int × Int) => match u9 with | (fp1, x) => [(cB, .byte)]) u9) (va_A [(qd, .inr (2, [.ref qn, .int (iI ct), .int (iI io), .int (iI fp), .ref qt])), (qt, .inr (1, [.ref qb, .int (iI L)])), (qb, .inl (cB, 20000, .inl f))] sz) t) (va_A [(qd, .inr (2, [.ref qn, .int (iI ct), .int (iI io), .int (iI fp), .ref qt])), (qt, .inr (1, [.ref qb, .int (iI L)])), (qb, .inl (cB, 20000, .inl f))] sz)) 0 0 (va_A [(qd, .inr (2, [.ref qn, .int (iI ct), .int (iI io), .int (iI fp), .ref qt])), (qt, .inr (1, [.ref qb, .int (iI L)])), (qb, .inl (cB, 20000, .inl f))] sz) :=
  zMet (Qf := fun A => va_Qi (fun (r : Int32) => fun (u9 : Int × Int) => match u9 with | (fp1, x) => r = (iI x) ∧ (((x = 0 ∧ zSp (zC1 f L) cc0 ee) ∨ (x = -5 ∧ fp1 = cc0 ∧ ¬ zSp (zC1 f L) cc0 ee)) ∧ ((x = 0 ∧ fp1 = fp ∧ cc0 + 46 ≤ ee ∧ zBh (zC1 f L) cc0 ≤ ee) ∨ (-11 ≤ x ∧ x < 0)))) (fun u9 t => zB D ((fun (u9 : Int × Int) => match u9 with | (fp1, x) => [(qd, .inr (2, [.ref qn, .int (iI ct), .int (iI io), .int (iI fp1), .ref qt])), (qt, .inr (1, [.ref qb, .int (iI L)])), (qb, .inl (cB, 20000, .inl f))]) u9) ((fun (u9 : Int × Int) => match u9 with | (fp1, x) => [(cB, .byte)]) u9) A t) A) (by decide) (Nat.le_of_ble_eq_true rfl) (fun p e s m below meth c A ls hx hb hr hml hown ht hlk hnm hA hK hP hD hX hl => by
    have hS : va_S A s.heap s.heap [] := va_S.rf
    have hl : lv_has ls 4 [(0, .ref qd), (1, .int (iI cc0)), (2, .int (iI ee))] := hl
    refine lv_iload_n hx hb d_D_checkSpan_0 rfl (lv_at hl 1 rfl) ?_
    refine lv_bipush (v := iI 46) hx hb d_D_checkSpan_1 (by decide) ?_
    refine zv_iadd (z := cc0 + 46) hx hb d_D_checkSpan_3 (by omega) ?_
    refine lv_iload_n hx hb d_D_checkSpan_4 rfl (lv_at hl 2 rfl) ?_
    refine zv_icmp_gt (tgt := 34) hx hb d_D_checkSpan_5 (by decide) (by omega) (by omega) (fun hc_1 => ?_) (fun hc_1 => ?_)
    · skip
      refine lv_iconst (v := iI 0) hx hb d_D_checkSpan_34 (by decide) ?_
      refine lv_istore_n (lv' := [(3, .int (iI 0)), (0, .ref qd), (1, .int (iI cc0)), (2, .int (iI ee))]) hx hb d_D_checkSpan_35 rfl hl (by decide) rfl (fun ls hl => ?_)
      refine lv_iload_n hx hb d_D_checkSpan_36 rfl (lv_at hl 0 rfl) ?_
      refine zv_if_eq (tgt := 44) hx hb d_D_checkSpan_37 (by decide) (by omega) (fun hc_2 => ?_) (fun hc_2 => by omega)
      refine lv_aload_n hx hb d_D_checkSpan_44 rfl (lv_at hl 1 rfl) ?_
      refine lv_bipush (v := iI (-5)) hx hb d_D_checkSpan_45 (by decide) ?_
      refine lv_iload_n hx hb d_D_checkSpan_47 rfl (lv_at hl 2 rfl) ?_
      refine zji (wr := [(qt, .inr (1, [.ref qb, .int (iI L)])), (qb, .inl (cB, 20000, .inl f))]) (va_runV (As := [.int (iI (-5)), .int (iI cc0)]) (rest := []) ⟨hx, hb, hml, hown, ht⟩ (a_D_fault l D _ qd qn ct io fp qt (-5) cc0 ) (cwV 2 ht (zt_goodV zm_435 zm_436 zm_3 zm_67 zm_437) rfl rfl rfl (by decide +kernel) ⟨Nat.le_of_ble_eq_true rfl, Nat.le_of_ble_eq_true rfl⟩) (zpreV zBlind_t hK hP hD [0] [] rfl (by decide) rfl (fun _ _ _ => trivial) (va_recv (q := ("ZipGuard$Directory", F_D, 5)) hK hP rfl (q0 := 0) (ci := 2) rfl)) rfl rfl hl.1 rfl (lv_room (Nat.le_of_ble_eq_true rfl)) d_D_checkSpan_48 ⟨Nat.le_of_ble_eq_true rfl, Nat.le_of_ble_eq_true rfl⟩) hK hP hD hS hA [0] [1, 2] rfl rfl (by decide) (by decide) (fun r3 u9 H locs hp4 hP hD hK hS => ?_)
      have hP : va_P D zcl [(qt, .inr (1, [.ref qb, .int (iI L)])), (qb, .inl (cB, 20000, .inl f)), (qd, .inr (2, [.ref qn, .int (iI ct), .int (iI io), .int (iI cc0), .ref qt]))] H := hP
      have hD : va_D A [(qt, .inr (1, [.ref qb, .int (iI L)])), (qb, .inl (cB, 20000, .inl f)), (qd, .inr (2, [.ref qn, .int (iI ct), .int (iI io), .int (iI cc0), .ref qt]))] := hD
      have hK : va_K D zcl [(cB, .byte)] s := hK
      obtain ⟨he_5, hp4⟩ := hp4
      subst he_5
      have hP := hP.sub (ws' := [(qd, .inr (2, [.ref qn, .int (iI ct), .int (iI io), .int (iI cc0), .ref qt])), (qt, .inr (1, [.ref qb, .int (iI L)])), (qb, .inl (cB, 20000, .inl f))]) [2, 0, 1] rfl
      have hD := hD.sub (ws' := [(qd, .inr (2, [.ref qn, .int (iI ct), .int (iI io), .int (iI cc0), .ref qt])), (qt, .inr (1, [.ref qb, .int (iI L)])), (qb, .inl (cB, 20000, .inl f))]) [2, 0, 1] (by decide) rfl
      have hK := hK.sub (tys' := [(cB, .byte)]) [0] rfl
      exact zreti hx hb hr hlk hK hP hD hS (cc0, (-5)) [0, 1, 2] [0] rfl (by decide) rfl (⟨rfl, ⟨Or.inr ⟨rfl, rfl, fun q9 => by first | exact absurd q9.2.1 (by assumption) | (have q8 := q9.1; have q7 := q9.2.2; omega)⟩, by omega⟩⟩) (Nat.le_of_ble_eq_true rfl) (Nat.le_of_ble_eq_true rfl) d_D_checkSpan_51
    · skip
      refine lv_aload_n hx hb d_D_checkSpan_8 rfl (lv_at hl 0 rfl) ?_
      refine va_get (ci := 2) (C := "ZipGuard$Directory") (T := F_D) (N := 5) hx hb ht zi_D hown hK hP 0 rfl rfl 4 (by decide) (ht _ zm_187) (fun _ h9 => h9) rfl d_D_checkSpan_9 ?_
      refine lv_iload_n hx hb d_D_checkSpan_12 rfl (lv_at hl 1 rfl) ?_
      refine lv_iconst (v := iI 1) hx hb d_D_checkSpan_13 (by decide) ?_
      refine lv_iconst (v := iI 2) hx hb d_D_checkSpan_14 (by decide) ?_
      refine zjR (va_runV (As := [.int (iI cc0), .int (iI 1), .int (iI 2)]) (rest := []) ⟨hx, hb, hml, hown, ht⟩ (a_T_mark l D qt qb cB f L cc0 1 2 (by omega) (by omega) (by omega) (by omega)) (cwV 3 ht (zt_goodV zm_423 zm_424 zm_425 zm_66 zm_426) rfl rfl rfl (by decide +kernel) ⟨Nat.le_of_ble_eq_true rfl, Nat.le_of_ble_eq_true rfl⟩) (zpreRV zBlind_t hK hP [1, 2] [0] rfl rfl (fun _ _ _ => trivial) (va_recv (q := ("ZipGuard$Tape", F_T, 2)) hK hP rfl (q0 := 1) (ci := 1) rfl)) rfl rfl hl.1 rfl (lv_room (Nat.le_of_ble_eq_true rfl)) d_D_checkSpan_15 ⟨Nat.le_of_ble_eq_true rfl, Nat.le_of_ble_eq_true rfl⟩) (fun r6 hp7 => ?_)
      obtain ⟨x_8, he_9, hp7⟩ := hp7
      subst he_9
      refine zv_if_eq (tgt := 34) hx hb d_D_checkSpan_18 (by decide) (by omega) (fun hc_10 => ?_) (fun hc_10 => ?_)
      · skip
        have htf_11 := zTf_f hp7.1 hc_10
        refine lv_iconst (v := iI 0) hx hb d_D_checkSpan_34 (by decide) ?_
        refine lv_istore_n (lv' := [(3, .int (iI 0)), (0, .ref qd), (1, .int (iI cc0)), (2, .int (iI ee))]) hx hb d_D_checkSpan_35 rfl hl (by decide) rfl (fun ls hl => ?_)
        refine lv_iload_n hx hb d_D_checkSpan_36 rfl (lv_at hl 0 rfl) ?_
        refine zv_if_eq (tgt := 44) hx hb d_D_checkSpan_37 (by decide) (by omega) (fun hc_12 => ?_) (fun hc_12 => by omega)
        refine lv_aload_n hx hb d_D_checkSpan_44 rfl (lv_at hl 1 rfl) ?_
        refine lv_bipush (v := iI (-5)) hx hb d_D_checkSpan_45 (by decide) ?_
        refine lv_iload_n hx hb d_D_checkSpan_47 rfl (lv_at hl 2 rfl) ?_
        refine zji (wr := [(qt, .inr (1, [.ref qb, .int (iI L)])), (qb, .inl (cB, 20000, .inl f))]) (va_runV (As := [.int (iI (-5)), .int (iI cc0)]) (rest := []) ⟨hx, hb, hml, hown, ht⟩ (a_D_fault l D _ qd qn ct io fp qt (-5) cc0 ) (cwV 2 ht (zt_goodV zm_435 zm_436 zm_3 zm_67 zm_437) rfl rfl rfl (by decide +kernel) ⟨Nat.le_of_ble_eq_true rfl, Nat.le_of_ble_eq_true rfl⟩) (zpreV zBlind_t hK hP hD [0] [] rfl (by decide) rfl (fun _ _ _ => trivial) (va_recv (q := ("ZipGuard$Directory", F_D, 5)) hK hP rfl (q0 := 0) (ci := 2) rfl)) rfl rfl hl.1 rfl (lv_room (Nat.le_of_ble_eq_true rfl)) d_D_checkSpan_48 ⟨Nat.le_of_ble_eq_true rfl, Nat.le_of_ble_eq_true rfl⟩) hK hP hD hS hA [0] [1, 2] rfl rfl (by decide) (by decide) (fun r13 u9 H locs hp14 hP hD hK hS => ?_)
        have hP : va_P D zcl [(qt, .inr (1, [.ref qb, .int (iI L)])), (qb, .inl (cB, 20000, .inl f)), (qd, .inr (2, [.ref qn, .int (iI ct), .int (iI io), .int (iI cc0), .ref qt]))] H := hP
        have hD : va_D A [(qt, .inr (1, [.ref qb, .int (iI L)])), (qb, .inl (cB, 20000, .inl f)), (qd, .inr (2, [.ref qn, .int (iI ct), .int (iI io), .int (iI cc0), .ref qt]))] := hD
        have hK : va_K D zcl [(cB, .byte)] s := hK
        obtain ⟨he_15, hp14⟩ := hp14
        subst he_15
        have hP := hP.sub (ws' := [(qd, .inr (2, [.ref qn, .int (iI ct), .int (iI io), .int (iI cc0), .ref qt])), (qt, .inr (1, [.ref qb, .int (iI L)])), (qb, .inl (cB, 20000, .inl f))]) [2, 0, 1] rfl
        have hD := hD.sub (ws' := [(qd, .inr (2, [.ref qn, .int (iI ct), .int (iI io), .int (iI cc0), .ref qt])), (qt, .inr (1, [.ref qb, .int (iI L)])), (qb, .inl (cB, 20000, .inl f))]) [2, 0, 1] (by decide) rfl
        have hK := hK.sub (tys' := [(cB, .byte)]) [0] rfl
        exact zreti hx hb hr hlk hK hP hD hS (cc0, (-5)) [0, 1, 2] [0] rfl (by decide) rfl (⟨rfl, ⟨Or.inr ⟨rfl, rfl, fun q9 => by first | exact absurd q9.2.1 (by assumption) | (have q8 := q9.1; have q7 := q9.2.2; omega)⟩, by omega⟩⟩) (Nat.le_of_ble_eq_true rfl) (Nat.le_of_ble_eq_true rfl) d_D_checkSpan_51
      · skip
        have htf_16 := zTf_t hp7.1 hc_10
        refine lv_aload_n hx hb d_D_checkSpan_21 rfl (lv_at hl 0 rfl) ?_
        refine lv_iload_n hx hb d_D_checkSpan_22 rfl (lv_at hl 1 rfl) ?_
        refine zjR (va_runV (As := [.int (iI cc0)]) (rest := []) ⟨hx, hb, hml, hown, ht⟩ (a_D_be l D qd qn ct io fp qt qb cB f L cc0 (by omega) (by omega)) (cwV 1 ht (zt_goodV zm_451 zm_452 zm_7 zm_67 zm_453) rfl rfl rfl (by decide +kernel) ⟨Nat.le_of_ble_eq_true rfl, Nat.le_of_ble_eq_true rfl⟩) (zpreRV zBlind_t hK hP [0, 1, 2] [0] rfl rfl (fun _ _ _ => trivial) (va_recv (q := ("ZipGuard$Directory", F_D, 5)) hK hP rfl (q0 := 0) (ci := 2) rfl)) rfl rfl hl.1 rfl (lv_room (Nat.le_of_ble_eq_true rfl)) d_D_checkSpan_23 ⟨Nat.le_of_ble_eq_true rfl, Nat.le_of_ble_eq_true rfl⟩) (fun r17 hp18 => ?_)
        obtain ⟨x_19, he_20, hp18⟩ := hp18
        subst he_20
        refine lv_iload_n hx hb d_D_checkSpan_26 rfl (lv_at hl 2 rfl) ?_
        refine zv_icmp_gt (tgt := 34) hx hb d_D_checkSpan_27 (by decide) (by omega) (by omega) (fun hc_21 => ?_) (fun hc_21 => ?_)
        · skip
          refine lv_iconst (v := iI 0) hx hb d_D_checkSpan_34 (by decide) ?_
          refine lv_istore_n (lv' := [(3, .int (iI 0)), (0, .ref qd), (1, .int (iI cc0)), (2, .int (iI ee))]) hx hb d_D_checkSpan_35 rfl hl (by decide) rfl (fun ls hl => ?_)
          refine lv_iload_n hx hb d_D_checkSpan_36 rfl (lv_at hl 0 rfl) ?_
          refine zv_if_eq (tgt := 44) hx hb d_D_checkSpan_37 (by decide) (by omega) (fun hc_22 => ?_) (fun hc_22 => by omega)
          refine lv_aload_n hx hb d_D_checkSpan_44 rfl (lv_at hl 1 rfl) ?_
          refine lv_bipush (v := iI (-5)) hx hb d_D_checkSpan_45 (by decide) ?_
          refine lv_iload_n hx hb d_D_checkSpan_47 rfl (lv_at hl 2 rfl) ?_
          refine zji (wr := [(qt, .inr (1, [.ref qb, .int (iI L)])), (qb, .inl (cB, 20000, .inl f))]) (va_runV (As := [.int (iI (-5)), .int (iI cc0)]) (rest := []) ⟨hx, hb, hml, hown, ht⟩ (a_D_fault l D _ qd qn ct io fp qt (-5) cc0 ) (cwV 2 ht (zt_goodV zm_435 zm_436 zm_3 zm_67 zm_437) rfl rfl rfl (by decide +kernel) ⟨Nat.le_of_ble_eq_true rfl, Nat.le_of_ble_eq_true rfl⟩) (zpreV zBlind_t hK hP hD [0] [] rfl (by decide) rfl (fun _ _ _ => trivial) (va_recv (q := ("ZipGuard$Directory", F_D, 5)) hK hP rfl (q0 := 0) (ci := 2) rfl)) rfl rfl hl.1 rfl (lv_room (Nat.le_of_ble_eq_true rfl)) d_D_checkSpan_48 ⟨Nat.le_of_ble_eq_true rfl, Nat.le_of_ble_eq_true rfl⟩) hK hP hD hS hA [0] [1, 2] rfl rfl (by decide) (by decide) (fun r23 u9 H locs hp24 hP hD hK hS => ?_)
          have hP : va_P D zcl [(qt, .inr (1, [.ref qb, .int (iI L)])), (qb, .inl (cB, 20000, .inl f)), (qd, .inr (2, [.ref qn, .int (iI ct), .int (iI io), .int (iI cc0), .ref qt]))] H := hP
          have hD : va_D A [(qt, .inr (1, [.ref qb, .int (iI L)])), (qb, .inl (cB, 20000, .inl f)), (qd, .inr (2, [.ref qn, .int (iI ct), .int (iI io), .int (iI cc0), .ref qt]))] := hD
          have hK : va_K D zcl [(cB, .byte)] s := hK
          obtain ⟨he_25, hp24⟩ := hp24
          subst he_25
          have hP := hP.sub (ws' := [(qd, .inr (2, [.ref qn, .int (iI ct), .int (iI io), .int (iI cc0), .ref qt])), (qt, .inr (1, [.ref qb, .int (iI L)])), (qb, .inl (cB, 20000, .inl f))]) [2, 0, 1] rfl
          have hD := hD.sub (ws' := [(qd, .inr (2, [.ref qn, .int (iI ct), .int (iI io), .int (iI cc0), .ref qt])), (qt, .inr (1, [.ref qb, .int (iI L)])), (qb, .inl (cB, 20000, .inl f))]) [2, 0, 1] (by decide) rfl
          have hK := hK.sub (tys' := [(cB, .byte)]) [0] rfl
          exact zreti hx hb hr hlk hK hP hD hS (cc0, (-5)) [0, 1, 2] [0] rfl (by decide) rfl (⟨rfl, ⟨Or.inr ⟨rfl, rfl, fun q9 => by first | exact absurd q9.2.1 (by assumption) | (have q8 := q9.1; have q7 := q9.2.2; omega)⟩, by omega⟩⟩) (Nat.le_of_ble_eq_true rfl) (Nat.le_of_ble_eq_true rfl) d_D_checkSpan_51
        · skip
          refine lv_iconst (v := iI 1) hx hb d_D_checkSpan_30 (by decide) ?_
          refine lv_goto (tgt := 35) hx hb d_D_checkSpan_31 (by decide) ?_
          refine lv_istore_n (lv' := [(3, .int (iI 1)), (0, .ref qd), (1, .int (iI cc0)), (2, .int (iI ee))]) hx hb d_D_checkSpan_35 rfl hl (by decide) rfl (fun ls hl => ?_)
          refine lv_iload_n hx hb d_D_checkSpan_36 rfl (lv_at hl 0 rfl) ?_
          refine zv_if_eq (tgt := 44) hx hb d_D_checkSpan_37 (by decide) (by omega) (fun hc_26 => by omega) (fun hc_26 => ?_)
          refine lv_iconst (v := iI 0) hx hb d_D_checkSpan_40 (by decide) ?_
          refine lv_goto (tgt := 51) hx hb d_D_checkSpan_41 (by decide) ?_
          exact zreti hx hb hr hlk hK hP hD hS (fp, 0) [0, 1, 2] [0] rfl (by decide) rfl (⟨rfl, ⟨Or.inl ⟨rfl, by omega, by assumption, by omega⟩, by omega⟩⟩) (Nat.le_of_ble_eq_true rfl) (Nat.le_of_ble_eq_true rfl) d_D_checkSpan_51)
set_option maxHeartbeats 4000000 in
set_option maxRecDepth 100000 in
theorem a_D_rs (l : Launch) (D : va_G) (qd : Nat) (qn : Nat) (ct : Int) (io : Int) (fp : Int) (qt : Nat) (qb : Nat) (cB : ClassId) (f : Nat → Int32) (L : Int) (cc0 : Int) (mt : Int) (hL : 0 ≤ L ∧ L ≤ 20000) (hc : 0 ≤ cc0 ∧ cc0 ≤ 300000) (hm : -2147483648 ≤ mt ∧ mt ≤ 2147483647) (hmt : mt = zg2 (zC1 f L) (cc0 + 10)) : Met l y_D_hasRightSizes (Cond.code y_D_hasRightSizes prog_4_method_11_code 9 (Option.some Jvm.ClassFile.FieldType.boolean) :: zt) { frames := 2, cells := 0, slots := 0, locals := 42 } (zPcR [.ref qd, .int (iI cc0), .int (iI mt)] D [(qd, .inr (2, [.ref qn, .int (iI ct), .int (iI io), .int (iI fp), .ref qt])), (qt, .inr (1, [.ref qb, .int (iI L)])), (qb, .inl (cB, 20000, .inl f))] [(cB, .byte)] (fun _ => True)) (zQR (fun (r : Int32) => ∃ x : Int, r = iI x ∧ ((zTf x (zRs (zC1 f L) cc0)) ∧ 0 ≤ x ∧ x ≤ 1))) 0 0 (fun _ => False) :=
  zMetR (by decide) (Nat.le_of_ble_eq_true rfl) (fun p e s m below meth c ls hx hb hr hml hown ht hlk hK hP hX hl => by
    have hl : lv_has ls 9 [(0, .ref qd), (1, .int (iI cc0)), (2, .int (iI mt))] := hl
    have jn_1 : ∀ (pk0 : Int) (sz0 : Int) (ls : Array Slot), (0 ≤ pk0 ∧ pk0 ≤ 4294967295) → (0 ≤ sz0 ∧ sz0 ≤ 4294967295) → (pk0 = zg4 (zC1 f L) (cc0 + 20) ∧ sz0 = zg4 (zC1 f L) (cc0 + 24)) → (¬ (mt = 0 ∧ ¬ zg4 (zC1 f L) (cc0 + 20) = zg4 (zC1 f L) (cc0 + 24))) → lv_has ls 9 [(0, .ref qd), (1, .int (iI cc0)), (2, .int (iI mt)), (3, .long (lI pk0)), (5, .long (lI sz0))] → W p l e { frames := 2, cells := 0, slots := 0, locals := 42 } s m [.ref qd, .int (iI cc0), .int (iI mt)].toArray below meth c s.heap [] 0 0 (MQ below (zQR (fun (r : Int32) => ∃ x : Int, r = iI x ∧ ((zTf x (zRs (zC1 f L) cc0)) ∧ 0 ≤ x ∧ x ≤ 1))) [.ref qd, .int (iI cc0), .int (iI mt)].toArray s 0 0 (fun _ => False)) (F0 m 38 ls []) := by
      intro pk0 sz0 ls hp0 hs0 hpz hra hl
      refine lv_aload_n hx hb d_D_hasRightSizes_38 rfl (lv_at hl 0 rfl) ?_
      refine va_get (ci := 2) (C := "ZipGuard$Directory") (T := F_D) (N := 5) hx hb ht zi_D hown hK hP 0 rfl rfl 4 (by decide) (ht _ zm_187) (fun _ h9 => h9) rfl d_D_hasRightSizes_39 ?_
      refine lv_iload_n hx hb d_D_hasRightSizes_42 rfl (lv_at hl 1 rfl) ?_
      refine lv_bipush (v := iI 28) hx hb d_D_hasRightSizes_43 (by decide) ?_
      refine zv_iadd (z := cc0 + 28) hx hb d_D_hasRightSizes_45 (by omega) ?_
      refine zjR (va_runV (As := [.int (iI (cc0 + 28))]) (rest := []) ⟨hx, hb, hml, hown, ht⟩ (a_T_two l D qt qb cB f L (cc0 + 28) (by omega) (by omega)) (cwV 1 ht (zt_goodV zm_431 zm_432 zm_433 zm_66 zm_434) rfl rfl rfl (by decide +kernel) ⟨Nat.le_of_ble_eq_true rfl, Nat.le_of_ble_eq_true rfl⟩) (zpreRV zBlind_t hK hP [1, 2] [0] rfl rfl (fun _ _ _ => trivial) (va_recv (q := ("ZipGuard$Tape", F_T, 2)) hK hP rfl (q0 := 1) (ci := 1) rfl)) rfl rfl hl.1 rfl (lv_room (Nat.le_of_ble_eq_true rfl)) d_D_hasRightSizes_46 ⟨Nat.le_of_ble_eq_true rfl, Nat.le_of_ble_eq_true rfl⟩) (fun r2 hp3 => ?_)
      obtain ⟨x_4, he_5, hp3⟩ := hp3
      subst he_5
      refine lv_istore (lv' := [(7, .int (iI x_4)), (0, .ref qd), (1, .int (iI cc0)), (2, .int (iI mt)), (3, .long (lI pk0)), (5, .long (lI sz0))]) hx hb d_D_hasRightSizes_49 hl (by decide) rfl (fun ls hl => ?_)
      have jn_6 : ∀ (fo0 : Int) (ls : Array Slot), ((fo0 = 1 ∧ 0 < x_4 ∧ zC1 f L (cc0 + x_4 + 45) = 47) ∨ (fo0 = 0 ∧ ¬ (0 < x_4 ∧ zC1 f L (cc0 + x_4 + 45) = 47))) → lv_has ls 9 [(7, .int (iI x_4)), (0, .ref qd), (1, .int (iI cc0)), (2, .int (iI mt)), (3, .long (lI pk0)), (5, .long (lI sz0)), (8, .int (iI fo0))] → W p l e { frames := 2, cells := 0, slots := 0, locals := 42 } s m [.ref qd, .int (iI cc0), .int (iI mt)].toArray below meth c s.heap [] 0 0 (MQ below (zQR (fun (r : Int32) => ∃ x : Int, r = iI x ∧ ((zTf x (zRs (zC1 f L) cc0)) ∧ 0 ≤ x ∧ x ≤ 1))) [.ref qd, .int (iI cc0), .int (iI mt)].toArray s 0 0 (fun _ => False)) (F0 m 84 ls []) := by
        intro fo0 ls hf0 hl
        refine lv_iload hx hb d_D_hasRightSizes_84 (lv_at hl 6 rfl) ?_
        refine zv_if_eq (tgt := 106) hx hb d_D_hasRightSizes_86 (by decide) (by omega) (fun hc_7 => ?_) (fun hc_7 => ?_)
        · skip
          refine lv_iconst (v := iI 1) hx hb d_D_hasRightSizes_106 (by decide) ?_
          refine lv_goto (tgt := 111) hx hb d_D_hasRightSizes_107 (by decide) ?_
          exact zretRz hx hb hr hlk (⟨_, rfl, by have q7 := hp3.1; subst q7; unfold zTf zRs; omega, by omega⟩) (zn01 (by omega)) d_D_hasRightSizes_111
        · skip
          refine lv_iload_n hx hb d_D_hasRightSizes_89 rfl (lv_at hl 3 rfl) ?_
          refine zv_if_ne (tgt := 110) hx hb d_D_hasRightSizes_90 (by decide) (by omega) (fun hc_8 => ?_) (fun hc_8 => ?_)
          · skip
            refine lv_iconst (v := iI 0) hx hb d_D_hasRightSizes_110 (by decide) ?_
            exact zretRz hx hb hr hlk (⟨_, rfl, by have q7 := hp3.1; subst q7; unfold zTf zRs; omega, by omega⟩) (zn01 (by omega)) d_D_hasRightSizes_111
          · skip
            refine lv_lload_n hx hb d_D_hasRightSizes_93 rfl (lv_at hl 4 rfl) ?_
            refine lv_lconst (v := lI 0) hx hb d_D_hasRightSizes_94 (by decide) ?_
            refine zv_lcmp_ne (tgt := 110) hx hb d_D_hasRightSizes_95 d_D_hasRightSizes_96 (by decide) (by omega) (by omega) (fun hc_9 => ?_) (fun hc_9 => ?_)
            · skip
              refine lv_iconst (v := iI 0) hx hb d_D_hasRightSizes_110 (by decide) ?_
              exact zretRz hx hb hr hlk (⟨_, rfl, by have q7 := hp3.1; subst q7; unfold zTf zRs; omega, by omega⟩) (zn01 (by omega)) d_D_hasRightSizes_111
            · skip
              refine lv_lload hx hb d_D_hasRightSizes_99 (lv_at hl 5 rfl) ?_
              refine lv_lconst (v := lI 0) hx hb d_D_hasRightSizes_101 (by decide) ?_
              refine zv_lcmp_ne (tgt := 110) hx hb d_D_hasRightSizes_102 d_D_hasRightSizes_103 (by decide) (by omega) (by omega) (fun hc_10 => ?_) (fun hc_10 => ?_)
              · skip
                refine lv_iconst (v := iI 0) hx hb d_D_hasRightSizes_110 (by decide) ?_
                exact zretRz hx hb hr hlk (⟨_, rfl, by have q7 := hp3.1; subst q7; unfold zTf zRs; omega, by omega⟩) (zn01 (by omega)) d_D_hasRightSizes_111
              · skip
                refine lv_iconst (v := iI 1) hx hb d_D_hasRightSizes_106 (by decide) ?_
                refine lv_goto (tgt := 111) hx hb d_D_hasRightSizes_107 (by decide) ?_
                exact zretRz hx hb hr hlk (⟨_, rfl, by have q7 := hp3.1; subst q7; unfold zTf zRs; omega, by omega⟩) (zn01 (by omega)) d_D_hasRightSizes_111
      refine lv_iload hx hb d_D_hasRightSizes_51 (lv_at hl 0 rfl) ?_
      refine zv_if_le (tgt := 81) hx hb d_D_hasRightSizes_53 (by decide) (by omega) (fun hc_11 => ?_) (fun hc_11 => ?_)
      · skip
        refine lv_iconst (v := iI 0) hx hb d_D_hasRightSizes_81 (by decide) ?_
        refine lv_istore (lv' := [(8, .int (iI 0)), (7, .int (iI x_4)), (0, .ref qd), (1, .int (iI cc0)), (2, .int (iI mt)), (3, .long (lI pk0)), (5, .long (lI sz0))]) hx hb d_D_hasRightSizes_82 hl (by decide) rfl (fun ls hl => ?_)
        exact jn_6 0 _ (by omega) (lv_sub hl [1, 2, 3, 4, 5, 6, 0] rfl)
      · skip
        refine lv_aload_n hx hb d_D_hasRightSizes_56 rfl (lv_at hl 1 rfl) ?_
        refine va_get (ci := 2) (C := "ZipGuard$Directory") (T := F_D) (N := 5) hx hb ht zi_D hown hK hP 0 rfl rfl 4 (by decide) (ht _ zm_187) (fun _ h9 => h9) rfl d_D_hasRightSizes_57 ?_
        refine lv_iload_n hx hb d_D_hasRightSizes_60 rfl (lv_at hl 2 rfl) ?_
        refine lv_bipush (v := iI 46) hx hb d_D_hasRightSizes_61 (by decide) ?_
        refine zv_iadd (z := cc0 + 46) hx hb d_D_hasRightSizes_63 (by omega) ?_
        refine lv_iload hx hb d_D_hasRightSizes_64 (lv_at hl 0 rfl) ?_
        refine zv_iadd (z := cc0 + x_4 + 46) hx hb d_D_hasRightSizes_66 (by omega) ?_
        refine lv_iconst (v := iI 1) hx hb d_D_hasRightSizes_67 (by decide) ?_
        refine zv_isub (z := cc0 + x_4 + 45) hx hb d_D_hasRightSizes_68 (by omega) ?_
        refine zjR (va_runV (As := [.int (iI (cc0 + x_4 + 45))]) (rest := []) ⟨hx, hb, hml, hown, ht⟩ (a_T_by l D qt qb cB f L (cc0 + x_4 + 45) (by omega) (by omega)) (cwV 1 ht (zt_goodV zm_460 zm_428 zm_429 zm_66 zm_430) rfl rfl rfl (by decide +kernel) ⟨Nat.le_of_ble_eq_true rfl, Nat.le_of_ble_eq_true rfl⟩) (zpreRV zBlind_t hK hP [1, 2] [0] rfl rfl (fun _ _ _ => trivial) (va_recv (q := ("ZipGuard$Tape", F_T, 2)) hK hP rfl (q0 := 1) (ci := 1) rfl)) rfl rfl hl.1 rfl (lv_room (Nat.le_of_ble_eq_true rfl)) d_D_hasRightSizes_69 ⟨Nat.le_of_ble_eq_true rfl, Nat.le_of_ble_eq_true rfl⟩) (fun r12 hp13 => ?_)
        obtain ⟨x_14, he_15, hp13⟩ := hp13
        subst he_15
        refine lv_bipush (v := iI 47) hx hb d_D_hasRightSizes_72 (by decide) ?_
        refine zv_icmp_ne (tgt := 81) hx hb d_D_hasRightSizes_74 (by decide) (by omega) (by omega) (fun hc_16 => ?_) (fun hc_16 => ?_)
        · skip
          refine lv_iconst (v := iI 0) hx hb d_D_hasRightSizes_81 (by decide) ?_
          refine lv_istore (lv' := [(8, .int (iI 0)), (7, .int (iI x_4)), (0, .ref qd), (1, .int (iI cc0)), (2, .int (iI mt)), (3, .long (lI pk0)), (5, .long (lI sz0))]) hx hb d_D_hasRightSizes_82 hl (by decide) rfl (fun ls hl => ?_)
          exact jn_6 0 _ (by omega) (lv_sub hl [1, 2, 3, 4, 5, 6, 0] rfl)
        · skip
          refine lv_iconst (v := iI 1) hx hb d_D_hasRightSizes_77 (by decide) ?_
          refine lv_goto (tgt := 82) hx hb d_D_hasRightSizes_78 (by decide) ?_
          refine lv_istore (lv' := [(8, .int (iI 1)), (7, .int (iI x_4)), (0, .ref qd), (1, .int (iI cc0)), (2, .int (iI mt)), (3, .long (lI pk0)), (5, .long (lI sz0))]) hx hb d_D_hasRightSizes_82 hl (by decide) rfl (fun ls hl => ?_)
          exact jn_6 1 _ (by omega) (lv_sub hl [1, 2, 3, 4, 5, 6, 0] rfl)
    refine lv_aload_n hx hb d_D_hasRightSizes_0 rfl (lv_at hl 0 rfl) ?_
    refine va_get (ci := 2) (C := "ZipGuard$Directory") (T := F_D) (N := 5) hx hb ht zi_D hown hK hP 0 rfl rfl 4 (by decide) (ht _ zm_187) (fun _ h9 => h9) rfl d_D_hasRightSizes_1 ?_
    refine lv_iload_n hx hb d_D_hasRightSizes_4 rfl (lv_at hl 1 rfl) ?_
    refine lv_bipush (v := iI 20) hx hb d_D_hasRightSizes_5 (by decide) ?_
    refine zv_iadd (z := cc0 + 20) hx hb d_D_hasRightSizes_7 (by omega) ?_
    refine zjRl (va_runV (As := [.int (iI (cc0 + 20))]) (rest := []) ⟨hx, hb, hml, hown, ht⟩ (a_T_four l D qt qb cB f L (cc0 + 20) (by omega) (by omega)) (cwV 1 ht (zt_goodV zm_441 zm_442 zm_443 zm_66 zm_444) rfl rfl rfl (by decide +kernel) ⟨Nat.le_of_ble_eq_true rfl, Nat.le_of_ble_eq_true rfl⟩) (zpreRV zBlind_t hK hP [1, 2] [0] rfl rfl (fun _ _ _ => trivial) (va_recv (q := ("ZipGuard$Tape", F_T, 2)) hK hP rfl (q0 := 1) (ci := 1) rfl)) rfl rfl hl.1 rfl (lv_room (Nat.le_of_ble_eq_true rfl)) d_D_hasRightSizes_8 ⟨Nat.le_of_ble_eq_true rfl, Nat.le_of_ble_eq_true rfl⟩) (fun r17 hp18 => ?_)
    obtain ⟨x_19, he_20, hp18⟩ := hp18
    subst he_20
    refine lv_lstore_n (lv' := [(3, .long (lI x_19)), (0, .ref qd), (1, .int (iI cc0)), (2, .int (iI mt))]) hx hb d_D_hasRightSizes_11 rfl hl (by decide) rfl (fun ls hl => ?_)
    refine lv_aload_n hx hb d_D_hasRightSizes_12 rfl (lv_at hl 1 rfl) ?_
    refine va_get (ci := 2) (C := "ZipGuard$Directory") (T := F_D) (N := 5) hx hb ht zi_D hown hK hP 0 rfl rfl 4 (by decide) (ht _ zm_187) (fun _ h9 => h9) rfl d_D_hasRightSizes_13 ?_
    refine lv_iload_n hx hb d_D_hasRightSizes_16 rfl (lv_at hl 2 rfl) ?_
    refine lv_bipush (v := iI 24) hx hb d_D_hasRightSizes_17 (by decide) ?_
    refine zv_iadd (z := cc0 + 24) hx hb d_D_hasRightSizes_19 (by omega) ?_
    refine zjRl (va_runV (As := [.int (iI (cc0 + 24))]) (rest := []) ⟨hx, hb, hml, hown, ht⟩ (a_T_four l D qt qb cB f L (cc0 + 24) (by omega) (by omega)) (cwV 1 ht (zt_goodV zm_441 zm_442 zm_443 zm_66 zm_444) rfl rfl rfl (by decide +kernel) ⟨Nat.le_of_ble_eq_true rfl, Nat.le_of_ble_eq_true rfl⟩) (zpreRV zBlind_t hK hP [1, 2] [0] rfl rfl (fun _ _ _ => trivial) (va_recv (q := ("ZipGuard$Tape", F_T, 2)) hK hP rfl (q0 := 1) (ci := 1) rfl)) rfl rfl hl.1 rfl (lv_room (Nat.le_of_ble_eq_true rfl)) d_D_hasRightSizes_20 ⟨Nat.le_of_ble_eq_true rfl, Nat.le_of_ble_eq_true rfl⟩) (fun r21 hp22 => ?_)
    obtain ⟨x_23, he_24, hp22⟩ := hp22
    subst he_24
    refine lv_lstore (lv' := [(5, .long (lI x_23)), (3, .long (lI x_19)), (0, .ref qd), (1, .int (iI cc0)), (2, .int (iI mt))]) hx hb d_D_hasRightSizes_23 hl (by decide) rfl (fun ls hl => ?_)
    refine lv_iload_n hx hb d_D_hasRightSizes_25 rfl (lv_at hl 4 rfl) ?_
    refine zv_if_ne (tgt := 38) hx hb d_D_hasRightSizes_26 (by decide) (by omega) (fun hc_25 => ?_) (fun hc_25 => ?_)
    · skip
      exact jn_1 x_19 x_23 _ (by omega) (by omega) (by omega) (by omega) (lv_sub hl [2, 3, 4, 1, 0] rfl)
    · skip
      refine lv_lload_n hx hb d_D_hasRightSizes_29 rfl (lv_at hl 1 rfl) ?_
      refine lv_lload hx hb d_D_hasRightSizes_30 (lv_at hl 0 rfl) ?_
      refine zv_lcmp_eq (tgt := 38) hx hb d_D_hasRightSizes_32 d_D_hasRightSizes_33 (by decide) (by omega) (by omega) (fun hc_26 => ?_) (fun hc_26 => ?_)
      · skip
        exact jn_1 x_19 x_23 _ (by omega) (by omega) (by omega) (by omega) (lv_sub hl [2, 3, 4, 1, 0] rfl)
      · skip
        refine lv_iconst (v := iI 0) hx hb d_D_hasRightSizes_36 (by decide) ?_
        exact zretRz hx hb hr hlk (⟨_, rfl, by unfold zTf zRs; omega, by omega⟩) (zn01 (by omega)) d_D_hasRightSizes_37)
set_option maxHeartbeats 4000000 in
set_option maxRecDepth 100000 in
theorem a_D_cn (l : Launch) (D : va_G) (sz : Nat) (qd : Nat) (qn : Nat) (ct : Int) (io : Int) (fp : Int) (qt : Nat) (qb : Nat) (cB : ClassId) (f : Nat → Int32) (L : Int) (cc0 : Int) (hL : 0 ≤ L ∧ L ≤ 20000) (hc : 0 ≤ cc0 ∧ cc0 ≤ 300000) : Met l y_D_checkNumbers (Cond.code y_D_checkNumbers prog_4_method_10_code 3 (Option.some Jvm.ClassFile.FieldType.int) :: zt) { frames := 3, cells := 0, slots := 0, locals := 70 } (zPc [.ref qd, .int (iI cc0)] D [(qd, .inr (2, [.ref qn, .int (iI ct), .int (iI io), .int (iI fp), .ref qt])), (qt, .inr (1, [.ref qb, .int (iI L)])), (qb, .inl (cB, 20000, .inl f))] [(cB, .byte)] sz (fun _ => True)) (va_Qi (fun (r : Int32) => fun (u9 : Int × Int) => match u9 with | (fp1, x) => r = (iI x) ∧ (((x = 0 ∧ zNp (zC1 f L) cc0 0) ∨ (x = -6 ∧ ¬ fp1 = 0 ∧ zNp (zC1 f L) cc0 fp1)) ∧ ((x = 0 ∧ fp1 = fp) ∨ (-11 ≤ x ∧ x < 0)))) (fun u9 t => zB D ((fun (u9 : Int × Int) => match u9 with | (fp1, x) => [(qd, .inr (2, [.ref qn, .int (iI ct), .int (iI io), .int (iI fp1), .ref qt])), (qt, .inr (1, [.ref qb, .int (iI L)])), (qb, .inl (cB, 20000, .inl f))]) u9) ((fun (u9 : Int × Int) => match u9 with | (fp1, x) => [(cB, .byte)]) u9) (va_A [(qd, .inr (2, [.ref qn, .int (iI ct), .int (iI io), .int (iI fp), .ref qt])), (qt, .inr (1, [.ref qb, .int (iI L)])), (qb, .inl (cB, 20000, .inl f))] sz) t) (va_A [(qd, .inr (2, [.ref qn, .int (iI ct), .int (iI io), .int (iI fp), .ref qt])), (qt, .inr (1, [.ref qb, .int (iI L)])), (qb, .inl (cB, 20000, .inl f))] sz)) 0 0 (va_A [(qd, .inr (2, [.ref qn, .int (iI ct), .int (iI io), .int (iI fp), .ref qt])), (qt, .inr (1, [.ref qb, .int (iI L)])), (qb, .inl (cB, 20000, .inl f))] sz) :=
  zMet (Qf := fun A => va_Qi (fun (r : Int32) => fun (u9 : Int × Int) => match u9 with | (fp1, x) => r = (iI x) ∧ (((x = 0 ∧ zNp (zC1 f L) cc0 0) ∨ (x = -6 ∧ ¬ fp1 = 0 ∧ zNp (zC1 f L) cc0 fp1)) ∧ ((x = 0 ∧ fp1 = fp) ∨ (-11 ≤ x ∧ x < 0)))) (fun u9 t => zB D ((fun (u9 : Int × Int) => match u9 with | (fp1, x) => [(qd, .inr (2, [.ref qn, .int (iI ct), .int (iI io), .int (iI fp1), .ref qt])), (qt, .inr (1, [.ref qb, .int (iI L)])), (qb, .inl (cB, 20000, .inl f))]) u9) ((fun (u9 : Int × Int) => match u9 with | (fp1, x) => [(cB, .byte)]) u9) A t) A) (by decide) (Nat.le_of_ble_eq_true rfl) (fun p e s m below meth c A ls hx hb hr hml hown ht hlk hnm hA hK hP hD hX hl => by
    have hS : va_S A s.heap s.heap [] := va_S.rf
    have hl : lv_has ls 3 [(0, .ref qd), (1, .int (iI cc0))] := hl
    refine lv_aload_n hx hb d_D_checkNumbers_0 rfl (lv_at hl 0 rfl) ?_
    refine va_get (ci := 2) (C := "ZipGuard$Directory") (T := F_D) (N := 5) hx hb ht zi_D hown hK hP 0 rfl rfl 4 (by decide) (ht _ zm_187) (fun _ h9 => h9) rfl d_D_checkNumbers_1 ?_
    refine lv_iload_n hx hb d_D_checkNumbers_4 rfl (lv_at hl 1 rfl) ?_
    refine lv_bipush (v := iI 6) hx hb d_D_checkNumbers_5 (by decide) ?_
    refine zv_iadd (z := cc0 + 6) hx hb d_D_checkNumbers_7 (by omega) ?_
    refine zjR (va_runV (As := [.int (iI (cc0 + 6))]) (rest := []) ⟨hx, hb, hml, hown, ht⟩ (a_T_two l D qt qb cB f L (cc0 + 6) (by omega) (by omega)) (cwV 1 ht (zt_goodV zm_431 zm_432 zm_433 zm_66 zm_434) rfl rfl rfl (by decide +kernel) ⟨Nat.le_of_ble_eq_true rfl, Nat.le_of_ble_eq_true rfl⟩) (zpreRV zBlind_t hK hP [1, 2] [0] rfl rfl (fun _ _ _ => trivial) (va_recv (q := ("ZipGuard$Tape", F_T, 2)) hK hP rfl (q0 := 1) (ci := 1) rfl)) rfl rfl hl.1 rfl (lv_room (Nat.le_of_ble_eq_true rfl)) d_D_checkNumbers_8 ⟨Nat.le_of_ble_eq_true rfl, Nat.le_of_ble_eq_true rfl⟩) (fun r1 hp2 => ?_)
    obtain ⟨x_3, he_4, hp2⟩ := hp2
    subst he_4
    refine lv_bipush (v := iI 20) hx hb d_D_checkNumbers_11 (by decide) ?_
    refine zv_icmp_le (tgt := 27) hx hb d_D_checkNumbers_13 (by decide) (by omega) (by omega) (fun hc_5 => ?_) (fun hc_5 => ?_)
    · skip
      refine lv_aload_n hx hb d_D_checkNumbers_27 rfl (lv_at hl 0 rfl) ?_
      refine va_get (ci := 2) (C := "ZipGuard$Directory") (T := F_D) (N := 5) hx hb ht zi_D hown hK hP 0 rfl rfl 4 (by decide) (ht _ zm_187) (fun _ h9 => h9) rfl d_D_checkNumbers_28 ?_
      refine lv_iload_n hx hb d_D_checkNumbers_31 rfl (lv_at hl 1 rfl) ?_
      refine lv_bipush (v := iI 8) hx hb d_D_checkNumbers_32 (by decide) ?_
      refine zv_iadd (z := cc0 + 8) hx hb d_D_checkNumbers_34 (by omega) ?_
      refine zjR (va_runV (As := [.int (iI (cc0 + 8))]) (rest := []) ⟨hx, hb, hml, hown, ht⟩ (a_T_two l D qt qb cB f L (cc0 + 8) (by omega) (by omega)) (cwV 1 ht (zt_goodV zm_431 zm_432 zm_433 zm_66 zm_434) rfl rfl rfl (by decide +kernel) ⟨Nat.le_of_ble_eq_true rfl, Nat.le_of_ble_eq_true rfl⟩) (zpreRV zBlind_t hK hP [1, 2] [0] rfl rfl (fun _ _ _ => trivial) (va_recv (q := ("ZipGuard$Tape", F_T, 2)) hK hP rfl (q0 := 1) (ci := 1) rfl)) rfl rfl hl.1 rfl (lv_room (Nat.le_of_ble_eq_true rfl)) d_D_checkNumbers_35 ⟨Nat.le_of_ble_eq_true rfl, Nat.le_of_ble_eq_true rfl⟩) (fun r6 hp7 => ?_)
      obtain ⟨x_8, he_9, hp7⟩ := hp7
      subst he_9
      refine lv_sipush (v := iI (-2055)) hx hb d_D_checkNumbers_38 (by decide) ?_
      refine zv_andx hx hb d_D_checkNumbers_41 (fun x_10 hz_11 ha_12 ha_13 => ?_)
      have hz9 := congrArg (fun v => zanI v (-2055)) hp7.1
      refine zv_if_eq (tgt := 56) hx hb d_D_checkNumbers_42 (by decide) (by omega) (fun hc_14 => ?_) (fun hc_14 => ?_)
      · skip
        refine lv_aload_n hx hb d_D_checkNumbers_56 rfl (lv_at hl 0 rfl) ?_
        refine va_get (ci := 2) (C := "ZipGuard$Directory") (T := F_D) (N := 5) hx hb ht zi_D hown hK hP 0 rfl rfl 4 (by decide) (ht _ zm_187) (fun _ h9 => h9) rfl d_D_checkNumbers_57 ?_
        refine lv_iload_n hx hb d_D_checkNumbers_60 rfl (lv_at hl 1 rfl) ?_
        refine lv_bipush (v := iI 10) hx hb d_D_checkNumbers_61 (by decide) ?_
        refine zv_iadd (z := cc0 + 10) hx hb d_D_checkNumbers_63 (by omega) ?_
        refine zjR (va_runV (As := [.int (iI (cc0 + 10))]) (rest := []) ⟨hx, hb, hml, hown, ht⟩ (a_T_two l D qt qb cB f L (cc0 + 10) (by omega) (by omega)) (cwV 1 ht (zt_goodV zm_431 zm_432 zm_433 zm_66 zm_434) rfl rfl rfl (by decide +kernel) ⟨Nat.le_of_ble_eq_true rfl, Nat.le_of_ble_eq_true rfl⟩) (zpreRV zBlind_t hK hP [1, 2] [0] rfl rfl (fun _ _ _ => trivial) (va_recv (q := ("ZipGuard$Tape", F_T, 2)) hK hP rfl (q0 := 1) (ci := 1) rfl)) rfl rfl hl.1 rfl (lv_room (Nat.le_of_ble_eq_true rfl)) d_D_checkNumbers_64 ⟨Nat.le_of_ble_eq_true rfl, Nat.le_of_ble_eq_true rfl⟩) (fun r15 hp16 => ?_)
        obtain ⟨x_17, he_18, hp16⟩ := hp16
        subst he_18
        refine lv_istore_n (lv' := [(2, .int (iI x_17)), (0, .ref qd), (1, .int (iI cc0))]) hx hb d_D_checkNumbers_67 rfl hl (by decide) rfl (fun ls hl => ?_)
        have jn_19 : ∀  (H : Heap) (locs : List Loc) (ls : Array Slot), (x_17 = 0 ∨ x_17 = 8) → va_P D zcl [(qd, .inr (2, [.ref qn, .int (iI ct), .int (iI io), .int (iI fp), .ref qt])), (qt, .inr (1, [.ref qb, .int (iI L)])), (qb, .inl (cB, 20000, .inl f))] H → va_D A [(qd, .inr (2, [.ref qn, .int (iI ct), .int (iI io), .int (iI fp), .ref qt])), (qt, .inr (1, [.ref qb, .int (iI L)])), (qb, .inl (cB, 20000, .inl f))] → va_S A s.heap H locs → lv_has ls 3 [(2, .int (iI x_17)), (0, .ref qd), (1, .int (iI cc0))] → W p l e { frames := 3, cells := 0, slots := 0, locals := 70 } s m [.ref qd, .int (iI cc0)].toArray below meth c H locs 0 0 (MQ below ((fun A => va_Qi (fun (r : Int32) => fun (u9 : Int × Int) => match u9 with | (fp1, x) => r = (iI x) ∧ (((x = 0 ∧ zNp (zC1 f L) cc0 0) ∨ (x = -6 ∧ ¬ fp1 = 0 ∧ zNp (zC1 f L) cc0 fp1)) ∧ ((x = 0 ∧ fp1 = fp) ∨ (-11 ≤ x ∧ x < 0)))) (fun u9 t => zB D ((fun (u9 : Int × Int) => match u9 with | (fp1, x) => [(qd, .inr (2, [.ref qn, .int (iI ct), .int (iI io), .int (iI fp1), .ref qt])), (qt, .inr (1, [.ref qb, .int (iI L)])), (qb, .inl (cB, 20000, .inl f))]) u9) ((fun (u9 : Int × Int) => match u9 with | (fp1, x) => [(cB, .byte)]) u9) A t) A) A) [.ref qd, .int (iI cc0)].toArray s 0 0 A) (F0 m 89 ls []) := by
          intro  H locs ls hmm hP hD hS hl
          refine lv_aload_n hx hb d_D_checkNumbers_89 rfl (lv_at hl 1 rfl) ?_
          refine va_get (ci := 2) (C := "ZipGuard$Directory") (T := F_D) (N := 5) hx hb ht zi_D hown hK hP 0 rfl rfl 4 (by decide) (ht _ zm_187) (fun _ h9 => h9) rfl d_D_checkNumbers_90 ?_
          refine lv_iload_n hx hb d_D_checkNumbers_93 rfl (lv_at hl 2 rfl) ?_
          refine lv_bipush (v := iI 34) hx hb d_D_checkNumbers_94 (by decide) ?_
          refine zv_iadd (z := cc0 + 34) hx hb d_D_checkNumbers_96 (by omega) ?_
          refine zjR (va_runV (As := [.int (iI (cc0 + 34))]) (rest := []) ⟨hx, hb, hml, hown, ht⟩ (a_T_two l D qt qb cB f L (cc0 + 34) (by omega) (by omega)) (cwV 1 ht (zt_goodV zm_431 zm_432 zm_433 zm_66 zm_434) rfl rfl rfl (by decide +kernel) ⟨Nat.le_of_ble_eq_true rfl, Nat.le_of_ble_eq_true rfl⟩) (zpreRV zBlind_t hK hP [1, 2] [0] rfl rfl (fun _ _ _ => trivial) (va_recv (q := ("ZipGuard$Tape", F_T, 2)) hK hP rfl (q0 := 1) (ci := 1) rfl)) rfl rfl hl.1 rfl (lv_room (Nat.le_of_ble_eq_true rfl)) d_D_checkNumbers_97 ⟨Nat.le_of_ble_eq_true rfl, Nat.le_of_ble_eq_true rfl⟩) (fun r20 hp21 => ?_)
          obtain ⟨x_22, he_23, hp21⟩ := hp21
          subst he_23
          refine zv_if_eq (tgt := 114) hx hb d_D_checkNumbers_100 (by decide) (by omega) (fun hc_24 => ?_) (fun hc_24 => ?_)
          · skip
            refine lv_aload_n hx hb d_D_checkNumbers_114 rfl (lv_at hl 1 rfl) ?_
            refine lv_iload_n hx hb d_D_checkNumbers_115 rfl (lv_at hl 2 rfl) ?_
            refine lv_iload_n hx hb d_D_checkNumbers_116 rfl (lv_at hl 0 rfl) ?_
            refine zjR (va_runV (As := [.int (iI cc0), .int (iI x_17)]) (rest := []) ⟨hx, hb, hml, hown, ht⟩ (a_D_rs l D qd qn ct io fp qt qb cB f L cc0 x_17 (by omega) (by omega) (by omega) (by omega)) (cwV 2 ht (zt_goodV zm_457 zm_458 zm_9 zm_67 zm_459) rfl rfl rfl (by decide +kernel) ⟨Nat.le_of_ble_eq_true rfl, Nat.le_of_ble_eq_true rfl⟩) (zpreRV zBlind_t hK hP [0, 1, 2] [0] rfl rfl (fun _ _ _ => trivial) (va_recv (q := ("ZipGuard$Directory", F_D, 5)) hK hP rfl (q0 := 0) (ci := 2) rfl)) rfl rfl hl.1 rfl (lv_room (Nat.le_of_ble_eq_true rfl)) d_D_checkNumbers_117 ⟨Nat.le_of_ble_eq_true rfl, Nat.le_of_ble_eq_true rfl⟩) (fun r25 hp26 => ?_)
            obtain ⟨x_27, he_28, hp26⟩ := hp26
            subst he_28
            refine zv_if_eq (tgt := 127) hx hb d_D_checkNumbers_120 (by decide) (by omega) (fun hc_29 => ?_) (fun hc_29 => ?_)
            · skip
              have htf_30 := zTf_f hp26.1 hc_29
              refine lv_aload_n hx hb d_D_checkNumbers_127 rfl (lv_at hl 1 rfl) ?_
              refine lv_bipush (v := iI (-6)) hx hb d_D_checkNumbers_128 (by decide) ?_
              refine lv_iload_n hx hb d_D_checkNumbers_130 rfl (lv_at hl 2 rfl) ?_
              refine lv_bipush (v := iI 20) hx hb d_D_checkNumbers_131 (by decide) ?_
              refine zv_iadd (z := cc0 + 20) hx hb d_D_checkNumbers_133 (by omega) ?_
              refine zji (wr := [(qt, .inr (1, [.ref qb, .int (iI L)])), (qb, .inl (cB, 20000, .inl f))]) (va_runV (As := [.int (iI (-6)), .int (iI (cc0 + 20))]) (rest := []) ⟨hx, hb, hml, hown, ht⟩ (a_D_fault l D _ qd qn ct io fp qt (-6) (cc0 + 20) ) (cwV 2 ht (zt_goodV zm_435 zm_436 zm_3 zm_67 zm_437) rfl rfl rfl (by decide +kernel) ⟨Nat.le_of_ble_eq_true rfl, Nat.le_of_ble_eq_true rfl⟩) (zpreV zBlind_t hK hP hD [0] [] rfl (by decide) rfl (fun _ _ _ => trivial) (va_recv (q := ("ZipGuard$Directory", F_D, 5)) hK hP rfl (q0 := 0) (ci := 2) rfl)) rfl rfl hl.1 rfl (lv_room (Nat.le_of_ble_eq_true rfl)) d_D_checkNumbers_134 ⟨Nat.le_of_ble_eq_true rfl, Nat.le_of_ble_eq_true rfl⟩) hK hP hD hS hA [0] [1, 2] rfl rfl (by decide) (by decide) (fun r31 u9 H locs hp32 hP hD hK hS => ?_)
              have hP : va_P D zcl [(qt, .inr (1, [.ref qb, .int (iI L)])), (qb, .inl (cB, 20000, .inl f)), (qd, .inr (2, [.ref qn, .int (iI ct), .int (iI io), .int (iI (cc0 + 20)), .ref qt]))] H := hP
              have hD : va_D A [(qt, .inr (1, [.ref qb, .int (iI L)])), (qb, .inl (cB, 20000, .inl f)), (qd, .inr (2, [.ref qn, .int (iI ct), .int (iI io), .int (iI (cc0 + 20)), .ref qt]))] := hD
              have hK : va_K D zcl [(cB, .byte)] s := hK
              obtain ⟨he_33, hp32⟩ := hp32
              subst he_33
              have hP := hP.sub (ws' := [(qd, .inr (2, [.ref qn, .int (iI ct), .int (iI io), .int (iI (cc0 + 20)), .ref qt])), (qt, .inr (1, [.ref qb, .int (iI L)])), (qb, .inl (cB, 20000, .inl f))]) [2, 0, 1] rfl
              have hD := hD.sub (ws' := [(qd, .inr (2, [.ref qn, .int (iI ct), .int (iI io), .int (iI (cc0 + 20)), .ref qt])), (qt, .inr (1, [.ref qb, .int (iI L)])), (qb, .inl (cB, 20000, .inl f))]) [2, 0, 1] (by decide) rfl
              have hK := hK.sub (tys' := [(cB, .byte)]) [0] rfl
              exact zreti hx hb hr hlk hK hP hD hS ((cc0 + 20), (-6)) [0, 1, 2] [0] rfl (by decide) rfl (⟨rfl, ⟨Or.inr ⟨rfl, by omega, Or.inr (Or.inr (Or.inr (Or.inr (Or.inl ⟨by omega, by omega, by omega, by omega, by assumption, by omega⟩))))⟩, by omega⟩⟩) (Nat.le_of_ble_eq_true rfl) (Nat.le_of_ble_eq_true rfl) d_D_checkNumbers_137
            · skip
              have htf_34 := zTf_t hp26.1 hc_29
              refine lv_iconst (v := iI 0) hx hb d_D_checkNumbers_123 (by decide) ?_
              refine lv_goto (tgt := 137) hx hb d_D_checkNumbers_124 (by decide) ?_
              exact zreti hx hb hr hlk hK hP hD hS (fp, 0) [0, 1, 2] [0] rfl (by decide) rfl (⟨rfl, ⟨Or.inl ⟨rfl, Or.inr (Or.inr (Or.inr (Or.inr (Or.inr ⟨by omega, by omega, by omega, by omega, by assumption, rfl⟩))))⟩, by omega⟩⟩) (Nat.le_of_ble_eq_true rfl) (Nat.le_of_ble_eq_true rfl) d_D_checkNumbers_137
          · skip
            refine lv_aload_n hx hb d_D_checkNumbers_103 rfl (lv_at hl 1 rfl) ?_
            refine lv_bipush (v := iI (-6)) hx hb d_D_checkNumbers_104 (by decide) ?_
            refine lv_iload_n hx hb d_D_checkNumbers_106 rfl (lv_at hl 2 rfl) ?_
            refine lv_bipush (v := iI 34) hx hb d_D_checkNumbers_107 (by decide) ?_
            refine zv_iadd (z := cc0 + 34) hx hb d_D_checkNumbers_109 (by omega) ?_
            refine zji (wr := [(qt, .inr (1, [.ref qb, .int (iI L)])), (qb, .inl (cB, 20000, .inl f))]) (va_runV (As := [.int (iI (-6)), .int (iI (cc0 + 34))]) (rest := []) ⟨hx, hb, hml, hown, ht⟩ (a_D_fault l D _ qd qn ct io fp qt (-6) (cc0 + 34) ) (cwV 2 ht (zt_goodV zm_435 zm_436 zm_3 zm_67 zm_437) rfl rfl rfl (by decide +kernel) ⟨Nat.le_of_ble_eq_true rfl, Nat.le_of_ble_eq_true rfl⟩) (zpreV zBlind_t hK hP hD [0] [] rfl (by decide) rfl (fun _ _ _ => trivial) (va_recv (q := ("ZipGuard$Directory", F_D, 5)) hK hP rfl (q0 := 0) (ci := 2) rfl)) rfl rfl hl.1 rfl (lv_room (Nat.le_of_ble_eq_true rfl)) d_D_checkNumbers_110 ⟨Nat.le_of_ble_eq_true rfl, Nat.le_of_ble_eq_true rfl⟩) hK hP hD hS hA [0] [1, 2] rfl rfl (by decide) (by decide) (fun r35 u9 H locs hp36 hP hD hK hS => ?_)
            have hP : va_P D zcl [(qt, .inr (1, [.ref qb, .int (iI L)])), (qb, .inl (cB, 20000, .inl f)), (qd, .inr (2, [.ref qn, .int (iI ct), .int (iI io), .int (iI (cc0 + 34)), .ref qt]))] H := hP
            have hD : va_D A [(qt, .inr (1, [.ref qb, .int (iI L)])), (qb, .inl (cB, 20000, .inl f)), (qd, .inr (2, [.ref qn, .int (iI ct), .int (iI io), .int (iI (cc0 + 34)), .ref qt]))] := hD
            have hK : va_K D zcl [(cB, .byte)] s := hK
            obtain ⟨he_37, hp36⟩ := hp36
            subst he_37
            have hP := hP.sub (ws' := [(qd, .inr (2, [.ref qn, .int (iI ct), .int (iI io), .int (iI (cc0 + 34)), .ref qt])), (qt, .inr (1, [.ref qb, .int (iI L)])), (qb, .inl (cB, 20000, .inl f))]) [2, 0, 1] rfl
            have hD := hD.sub (ws' := [(qd, .inr (2, [.ref qn, .int (iI ct), .int (iI io), .int (iI (cc0 + 34)), .ref qt])), (qt, .inr (1, [.ref qb, .int (iI L)])), (qb, .inl (cB, 20000, .inl f))]) [2, 0, 1] (by decide) rfl
            have hK := hK.sub (tys' := [(cB, .byte)]) [0] rfl
            exact zreti hx hb hr hlk hK hP hD hS ((cc0 + 34), (-6)) [0, 1, 2] [0] rfl (by decide) rfl (⟨rfl, ⟨Or.inr ⟨rfl, by omega, Or.inr (Or.inr (Or.inr (Or.inl ⟨by omega, by omega, by omega, by omega, by omega⟩)))⟩, by omega⟩⟩) (Nat.le_of_ble_eq_true rfl) (Nat.le_of_ble_eq_true rfl) d_D_checkNumbers_113
        refine lv_iload_n hx hb d_D_checkNumbers_68 rfl (lv_at hl 0 rfl) ?_
        refine zv_if_eq (tgt := 89) hx hb d_D_checkNumbers_69 (by decide) (by omega) (fun hc_38 => ?_) (fun hc_38 => ?_)
        · skip
          exact jn_19  _ _ _ (by omega) hP hD hS hl
        · skip
          refine lv_iload_n hx hb d_D_checkNumbers_72 rfl (lv_at hl 0 rfl) ?_
          refine lv_bipush (v := iI 8) hx hb d_D_checkNumbers_73 (by decide) ?_
          refine zv_icmp_eq (tgt := 89) hx hb d_D_checkNumbers_75 (by decide) (by omega) (by omega) (fun hc_39 => ?_) (fun hc_39 => ?_)
          · skip
            exact jn_19  _ _ _ (by omega) hP hD hS hl
          · skip
            refine lv_aload_n hx hb d_D_checkNumbers_78 rfl (lv_at hl 1 rfl) ?_
            refine lv_bipush (v := iI (-6)) hx hb d_D_checkNumbers_79 (by decide) ?_
            refine lv_iload_n hx hb d_D_checkNumbers_81 rfl (lv_at hl 2 rfl) ?_
            refine lv_bipush (v := iI 10) hx hb d_D_checkNumbers_82 (by decide) ?_
            refine zv_iadd (z := cc0 + 10) hx hb d_D_checkNumbers_84 (by omega) ?_
            refine zji (wr := [(qt, .inr (1, [.ref qb, .int (iI L)])), (qb, .inl (cB, 20000, .inl f))]) (va_runV (As := [.int (iI (-6)), .int (iI (cc0 + 10))]) (rest := []) ⟨hx, hb, hml, hown, ht⟩ (a_D_fault l D _ qd qn ct io fp qt (-6) (cc0 + 10) ) (cwV 2 ht (zt_goodV zm_435 zm_436 zm_3 zm_67 zm_437) rfl rfl rfl (by decide +kernel) ⟨Nat.le_of_ble_eq_true rfl, Nat.le_of_ble_eq_true rfl⟩) (zpreV zBlind_t hK hP hD [0] [] rfl (by decide) rfl (fun _ _ _ => trivial) (va_recv (q := ("ZipGuard$Directory", F_D, 5)) hK hP rfl (q0 := 0) (ci := 2) rfl)) rfl rfl hl.1 rfl (lv_room (Nat.le_of_ble_eq_true rfl)) d_D_checkNumbers_85 ⟨Nat.le_of_ble_eq_true rfl, Nat.le_of_ble_eq_true rfl⟩) hK hP hD hS hA [0] [1, 2] rfl rfl (by decide) (by decide) (fun r40 u9 H locs hp41 hP hD hK hS => ?_)
            have hP : va_P D zcl [(qt, .inr (1, [.ref qb, .int (iI L)])), (qb, .inl (cB, 20000, .inl f)), (qd, .inr (2, [.ref qn, .int (iI ct), .int (iI io), .int (iI (cc0 + 10)), .ref qt]))] H := hP
            have hD : va_D A [(qt, .inr (1, [.ref qb, .int (iI L)])), (qb, .inl (cB, 20000, .inl f)), (qd, .inr (2, [.ref qn, .int (iI ct), .int (iI io), .int (iI (cc0 + 10)), .ref qt]))] := hD
            have hK : va_K D zcl [(cB, .byte)] s := hK
            obtain ⟨he_42, hp41⟩ := hp41
            subst he_42
            have hP := hP.sub (ws' := [(qd, .inr (2, [.ref qn, .int (iI ct), .int (iI io), .int (iI (cc0 + 10)), .ref qt])), (qt, .inr (1, [.ref qb, .int (iI L)])), (qb, .inl (cB, 20000, .inl f))]) [2, 0, 1] rfl
            have hD := hD.sub (ws' := [(qd, .inr (2, [.ref qn, .int (iI ct), .int (iI io), .int (iI (cc0 + 10)), .ref qt])), (qt, .inr (1, [.ref qb, .int (iI L)])), (qb, .inl (cB, 20000, .inl f))]) [2, 0, 1] (by decide) rfl
            have hK := hK.sub (tys' := [(cB, .byte)]) [0] rfl
            exact zreti hx hb hr hlk hK hP hD hS ((cc0 + 10), (-6)) [0, 1, 2] [0] rfl (by decide) rfl (⟨rfl, ⟨Or.inr ⟨rfl, by omega, Or.inr (Or.inr (Or.inl ⟨by omega, by omega, by omega, by omega⟩))⟩, by omega⟩⟩) (Nat.le_of_ble_eq_true rfl) (Nat.le_of_ble_eq_true rfl) d_D_checkNumbers_88
      · skip
        refine lv_aload_n hx hb d_D_checkNumbers_45 rfl (lv_at hl 0 rfl) ?_
        refine lv_bipush (v := iI (-6)) hx hb d_D_checkNumbers_46 (by decide) ?_
        refine lv_iload_n hx hb d_D_checkNumbers_48 rfl (lv_at hl 1 rfl) ?_
        refine lv_bipush (v := iI 8) hx hb d_D_checkNumbers_49 (by decide) ?_
        refine zv_iadd (z := cc0 + 8) hx hb d_D_checkNumbers_51 (by omega) ?_
        refine zji (wr := [(qt, .inr (1, [.ref qb, .int (iI L)])), (qb, .inl (cB, 20000, .inl f))]) (va_runV (As := [.int (iI (-6)), .int (iI (cc0 + 8))]) (rest := []) ⟨hx, hb, hml, hown, ht⟩ (a_D_fault l D _ qd qn ct io fp qt (-6) (cc0 + 8) ) (cwV 2 ht (zt_goodV zm_435 zm_436 zm_3 zm_67 zm_437) rfl rfl rfl (by decide +kernel) ⟨Nat.le_of_ble_eq_true rfl, Nat.le_of_ble_eq_true rfl⟩) (zpreV zBlind_t hK hP hD [0] [] rfl (by decide) rfl (fun _ _ _ => trivial) (va_recv (q := ("ZipGuard$Directory", F_D, 5)) hK hP rfl (q0 := 0) (ci := 2) rfl)) rfl rfl hl.1 rfl (lv_room (Nat.le_of_ble_eq_true rfl)) d_D_checkNumbers_52 ⟨Nat.le_of_ble_eq_true rfl, Nat.le_of_ble_eq_true rfl⟩) hK hP hD hS hA [0] [1, 2] rfl rfl (by decide) (by decide) (fun r43 u9 H locs hp44 hP hD hK hS => ?_)
        have hP : va_P D zcl [(qt, .inr (1, [.ref qb, .int (iI L)])), (qb, .inl (cB, 20000, .inl f)), (qd, .inr (2, [.ref qn, .int (iI ct), .int (iI io), .int (iI (cc0 + 8)), .ref qt]))] H := hP
        have hD : va_D A [(qt, .inr (1, [.ref qb, .int (iI L)])), (qb, .inl (cB, 20000, .inl f)), (qd, .inr (2, [.ref qn, .int (iI ct), .int (iI io), .int (iI (cc0 + 8)), .ref qt]))] := hD
        have hK : va_K D zcl [(cB, .byte)] s := hK
        obtain ⟨he_45, hp44⟩ := hp44
        subst he_45
        have hP := hP.sub (ws' := [(qd, .inr (2, [.ref qn, .int (iI ct), .int (iI io), .int (iI (cc0 + 8)), .ref qt])), (qt, .inr (1, [.ref qb, .int (iI L)])), (qb, .inl (cB, 20000, .inl f))]) [2, 0, 1] rfl
        have hD := hD.sub (ws' := [(qd, .inr (2, [.ref qn, .int (iI ct), .int (iI io), .int (iI (cc0 + 8)), .ref qt])), (qt, .inr (1, [.ref qb, .int (iI L)])), (qb, .inl (cB, 20000, .inl f))]) [2, 0, 1] (by decide) rfl
        have hK := hK.sub (tys' := [(cB, .byte)]) [0] rfl
        exact zreti hx hb hr hlk hK hP hD hS ((cc0 + 8), (-6)) [0, 1, 2] [0] rfl (by decide) rfl (⟨rfl, ⟨Or.inr ⟨rfl, by omega, Or.inr (Or.inl ⟨by omega, by omega, by omega⟩)⟩, by omega⟩⟩) (Nat.le_of_ble_eq_true rfl) (Nat.le_of_ble_eq_true rfl) d_D_checkNumbers_55
    · skip
      refine lv_aload_n hx hb d_D_checkNumbers_16 rfl (lv_at hl 0 rfl) ?_
      refine lv_bipush (v := iI (-6)) hx hb d_D_checkNumbers_17 (by decide) ?_
      refine lv_iload_n hx hb d_D_checkNumbers_19 rfl (lv_at hl 1 rfl) ?_
      refine lv_bipush (v := iI 6) hx hb d_D_checkNumbers_20 (by decide) ?_
      refine zv_iadd (z := cc0 + 6) hx hb d_D_checkNumbers_22 (by omega) ?_
      refine zji (wr := [(qt, .inr (1, [.ref qb, .int (iI L)])), (qb, .inl (cB, 20000, .inl f))]) (va_runV (As := [.int (iI (-6)), .int (iI (cc0 + 6))]) (rest := []) ⟨hx, hb, hml, hown, ht⟩ (a_D_fault l D _ qd qn ct io fp qt (-6) (cc0 + 6) ) (cwV 2 ht (zt_goodV zm_435 zm_436 zm_3 zm_67 zm_437) rfl rfl rfl (by decide +kernel) ⟨Nat.le_of_ble_eq_true rfl, Nat.le_of_ble_eq_true rfl⟩) (zpreV zBlind_t hK hP hD [0] [] rfl (by decide) rfl (fun _ _ _ => trivial) (va_recv (q := ("ZipGuard$Directory", F_D, 5)) hK hP rfl (q0 := 0) (ci := 2) rfl)) rfl rfl hl.1 rfl (lv_room (Nat.le_of_ble_eq_true rfl)) d_D_checkNumbers_23 ⟨Nat.le_of_ble_eq_true rfl, Nat.le_of_ble_eq_true rfl⟩) hK hP hD hS hA [0] [1, 2] rfl rfl (by decide) (by decide) (fun r46 u9 H locs hp47 hP hD hK hS => ?_)
      have hP : va_P D zcl [(qt, .inr (1, [.ref qb, .int (iI L)])), (qb, .inl (cB, 20000, .inl f)), (qd, .inr (2, [.ref qn, .int (iI ct), .int (iI io), .int (iI (cc0 + 6)), .ref qt]))] H := hP
      have hD : va_D A [(qt, .inr (1, [.ref qb, .int (iI L)])), (qb, .inl (cB, 20000, .inl f)), (qd, .inr (2, [.ref qn, .int (iI ct), .int (iI io), .int (iI (cc0 + 6)), .ref qt]))] := hD
      have hK : va_K D zcl [(cB, .byte)] s := hK
      obtain ⟨he_48, hp47⟩ := hp47
      subst he_48
      have hP := hP.sub (ws' := [(qd, .inr (2, [.ref qn, .int (iI ct), .int (iI io), .int (iI (cc0 + 6)), .ref qt])), (qt, .inr (1, [.ref qb, .int (iI L)])), (qb, .inl (cB, 20000, .inl f))]) [2, 0, 1] rfl
      have hD := hD.sub (ws' := [(qd, .inr (2, [.ref qn, .int (iI ct), .int (iI io), .int (iI (cc0 + 6)), .ref qt])), (qt, .inr (1, [.ref qb, .int (iI L)])), (qb, .inl (cB, 20000, .inl f))]) [2, 0, 1] (by decide) rfl
      have hK := hK.sub (tys' := [(cB, .byte)]) [0] rfl
      exact zreti hx hb hr hlk hK hP hD hS ((cc0 + 6), (-6)) [0, 1, 2] [0] rfl (by decide) rfl (⟨rfl, ⟨Or.inr ⟨rfl, by omega, Or.inl ⟨by omega, by omega⟩⟩, by omega⟩⟩) (Nat.le_of_ble_eq_true rfl) (Nat.le_of_ble_eq_true rfl) d_D_checkNumbers_26)
set_option maxHeartbeats 4000000 in
set_option maxRecDepth 100000 in
theorem a_D_nb (l : Launch) (D : va_G) (qd : Nat) (qn : Nat) (ct : Int) (io : Int) (fp : Int) (qt : Nat) (b : Int) (hb0 : -2147483648 ≤ b ∧ b ≤ 2147483647) : Met l y_D_isNameByte (Cond.code y_D_isNameByte prog_4_method_14_code 2 (Option.some Jvm.ClassFile.FieldType.boolean) :: zt) { frames := 0, cells := 0, slots := 0, locals := 0 } (zPcR [.ref qd, .int (iI b)] D [(qd, .inr (2, [.ref qn, .int (iI ct), .int (iI io), .int (iI fp), .ref qt]))] [] (fun _ => True)) (zQR (fun (r : Int32) => ∃ x : Int, r = iI x ∧ ((zTf x (zpl b)) ∧ 0 ≤ x ∧ x ≤ 1))) 0 0 (fun _ => False) :=
  zMetR (by decide) (Nat.le_of_ble_eq_true rfl) (fun p e s m below meth c ls hx hb hr hml hown ht hlk hK hP hX hl => by
    have hl : lv_has ls 2 [(0, .ref qd), (1, .int (iI b))] := hl
    refine lv_iload_n hx hb d_D_isNameByte_0 rfl (lv_at hl 1 rfl) ?_
    by_cases hc_1 : b = 34
    · skip
      refine zv_eqI hc_1 ?_
      refine lv_lookup (off := 75) (tgt := 76) hx hb d_D_isNameByte_1 (by decide) (by decide) (by decide) ?_
      refine lv_iconst (v := iI 0) hx hb d_D_isNameByte_76 (by decide) ?_
      exact zretRz hx hb hr hlk (⟨_, rfl, by unfold zTf zpl; omega, by omega⟩) (zn01 (by omega)) d_D_isNameByte_77
    · skip
      by_cases hc_2 : b = 42
      · skip
        refine zv_eqI hc_2 ?_
        refine lv_lookup (off := 75) (tgt := 76) hx hb d_D_isNameByte_1 (by decide) (by decide) (by decide) ?_
        refine lv_iconst (v := iI 0) hx hb d_D_isNameByte_76 (by decide) ?_
        exact zretRz hx hb hr hlk (⟨_, rfl, by unfold zTf zpl; omega, by omega⟩) (zn01 (by omega)) d_D_isNameByte_77
      · skip
        by_cases hc_3 : b = 58
        · skip
          refine zv_eqI hc_3 ?_
          refine lv_lookup (off := 75) (tgt := 76) hx hb d_D_isNameByte_1 (by decide) (by decide) (by decide) ?_
          refine lv_iconst (v := iI 0) hx hb d_D_isNameByte_76 (by decide) ?_
          exact zretRz hx hb hr hlk (⟨_, rfl, by unfold zTf zpl; omega, by omega⟩) (zn01 (by omega)) d_D_isNameByte_77
        · skip
          by_cases hc_4 : b = 60
          · skip
            refine zv_eqI hc_4 ?_
            refine lv_lookup (off := 75) (tgt := 76) hx hb d_D_isNameByte_1 (by decide) (by decide) (by decide) ?_
            refine lv_iconst (v := iI 0) hx hb d_D_isNameByte_76 (by decide) ?_
            exact zretRz hx hb hr hlk (⟨_, rfl, by unfold zTf zpl; omega, by omega⟩) (zn01 (by omega)) d_D_isNameByte_77
          · skip
            by_cases hc_5 : b = 62
            · skip
              refine zv_eqI hc_5 ?_
              refine lv_lookup (off := 75) (tgt := 76) hx hb d_D_isNameByte_1 (by decide) (by decide) (by decide) ?_
              refine lv_iconst (v := iI 0) hx hb d_D_isNameByte_76 (by decide) ?_
              exact zretRz hx hb hr hlk (⟨_, rfl, by unfold zTf zpl; omega, by omega⟩) (zn01 (by omega)) d_D_isNameByte_77
            · skip
              by_cases hc_6 : b = 63
              · skip
                refine zv_eqI hc_6 ?_
                refine lv_lookup (off := 75) (tgt := 76) hx hb d_D_isNameByte_1 (by decide) (by decide) (by decide) ?_
                refine lv_iconst (v := iI 0) hx hb d_D_isNameByte_76 (by decide) ?_
                exact zretRz hx hb hr hlk (⟨_, rfl, by unfold zTf zpl; omega, by omega⟩) (zn01 (by omega)) d_D_isNameByte_77
              · skip
                by_cases hc_7 : b = 92
                · skip
                  refine zv_eqI hc_7 ?_
                  refine lv_lookup (off := 75) (tgt := 76) hx hb d_D_isNameByte_1 (by decide) (by decide) (by decide) ?_
                  refine lv_iconst (v := iI 0) hx hb d_D_isNameByte_76 (by decide) ?_
                  exact zretRz hx hb hr hlk (⟨_, rfl, by unfold zTf zpl; omega, by omega⟩) (zn01 (by omega)) d_D_isNameByte_77
                · skip
                  by_cases hc_8 : b = 124
                  · skip
                    refine zv_eqI hc_8 ?_
                    refine lv_lookup (off := 75) (tgt := 76) hx hb d_D_isNameByte_1 (by decide) (by decide) (by decide) ?_
                    refine lv_iconst (v := iI 0) hx hb d_D_isNameByte_76 (by decide) ?_
                    exact zretRz hx hb hr hlk (⟨_, rfl, by unfold zTf zpl; omega, by omega⟩) (zn01 (by omega)) d_D_isNameByte_77
                  · skip
                    refine lv_lookup (off := 77) (tgt := 78) hx hb d_D_isNameByte_1 (by decide) (by rw [iI_toInt (by omega)]; simp only [Op.lookupswitch.offset_cons, Array.toList]; rw [if_neg (by omega), if_neg (by omega), if_neg (by omega), if_neg (by omega), if_neg (by omega), if_neg (by omega), if_neg (by omega), if_neg (by omega)]; rfl) (by decide) ?_
                    refine lv_iload_n hx hb d_D_isNameByte_78 rfl (lv_at hl 1 rfl) ?_
                    refine lv_bipush (v := iI 32) hx hb d_D_isNameByte_79 (by decide) ?_
                    refine zv_icmp_lt (tgt := 94) hx hb d_D_isNameByte_81 (by decide) (by omega) (by omega) (fun hc_9 => ?_) (fun hc_9 => ?_)
                    · skip
                      refine lv_iconst (v := iI 0) hx hb d_D_isNameByte_94 (by decide) ?_
                      exact zretRz hx hb hr hlk (⟨_, rfl, by unfold zTf zpl; omega, by omega⟩) (zn01 (by omega)) d_D_isNameByte_95
                    · skip
                      refine lv_iload_n hx hb d_D_isNameByte_84 rfl (lv_at hl 1 rfl) ?_
                      refine lv_bipush (v := iI 126) hx hb d_D_isNameByte_85 (by decide) ?_
                      refine zv_icmp_gt (tgt := 94) hx hb d_D_isNameByte_87 (by decide) (by omega) (by omega) (fun hc_10 => ?_) (fun hc_10 => ?_)
                      · skip
                        refine lv_iconst (v := iI 0) hx hb d_D_isNameByte_94 (by decide) ?_
                        exact zretRz hx hb hr hlk (⟨_, rfl, by unfold zTf zpl; omega, by omega⟩) (zn01 (by omega)) d_D_isNameByte_95
                      · skip
                        refine lv_iconst (v := iI 1) hx hb d_D_isNameByte_90 (by decide) ?_
                        refine lv_goto (tgt := 95) hx hb d_D_isNameByte_91 (by decide) ?_
                        exact zretRz hx hb hr hlk (⟨_, rfl, by unfold zTf zpl; omega, by omega⟩) (zn01 (by omega)) d_D_isNameByte_95)
set_option maxHeartbeats 4000000 in
set_option maxRecDepth 100000 in
theorem a_D_pt (l : Launch) (D : va_G) (qd : Nat) (qn : Nat) (ct : Int) (io : Int) (fp : Int) (qt : Nat) (qb : Nat) (cB : ClassId) (f : Nat → Int32) (L : Int) (k0 : Int) (n : Int) (hL : 0 ≤ L ∧ L ≤ 20000) (hk : -2147483648 ≤ k0 ∧ k0 ≤ 1000000) (hn : -2147483648 ≤ n ∧ n ≤ 2147483647) : Met l y_D_isPart (Cond.code y_D_isPart prog_4_method_15_code 5 (Option.some Jvm.ClassFile.FieldType.boolean) :: zt) { frames := 1, cells := 0, slots := 0, locals := 21 } (zPcR [.ref qd, .int (iI k0), .int (iI n)] D [(qd, .inr (2, [.ref qn, .int (iI ct), .int (iI io), .int (iI fp), .ref qt])), (qt, .inr (1, [.ref qb, .int (iI L)])), (qb, .inl (cB, 20000, .inl f))] [(cB, .byte)] (fun _ => True)) (zQR (fun (r : Int32) => ∃ x : Int, r = iI x ∧ ((zTf x (zpt (zC1 f L) k0 n)) ∧ 0 ≤ x ∧ x ≤ 1))) 0 0 (fun _ => False) :=
  zMetR (by decide) (Nat.le_of_ble_eq_true rfl) (fun p e s m below meth c ls hx hb hr hml hown ht hlk hK hP hX hl => by
    have hl : lv_has ls 5 [(0, .ref qd), (1, .int (iI k0)), (2, .int (iI n))] := hl
    have jn_1 : ∀ (d1 : Int) (ls : Array Slot), ((d1 = 1 ∧ n = 1 ∧ zC1 f L k0 = 46) ∨ (d1 = 0 ∧ ¬ (n = 1 ∧ zC1 f L k0 = 46))) → lv_has ls 5 [(0, .ref qd), (1, .int (iI k0)), (2, .int (iI n)), (3, .int (iI d1))] → W p l e { frames := 1, cells := 0, slots := 0, locals := 21 } s m [.ref qd, .int (iI k0), .int (iI n)].toArray below meth c s.heap [] 0 0 (MQ below (zQR (fun (r : Int32) => ∃ x : Int, r = iI x ∧ ((zTf x (zpt (zC1 f L) k0 n)) ∧ 0 ≤ x ∧ x ≤ 1))) [.ref qd, .int (iI k0), .int (iI n)].toArray s 0 0 (fun _ => False)) (F0 m 24 ls []) := by
      intro d1 ls hd1 hl
      have jn_2 : ∀ (d2 : Int) (ls : Array Slot), ((d2 = 1 ∧ n = 2 ∧ zC1 f L k0 = 46 ∧ zC1 f L (k0 + 1) = 46) ∨ (d2 = 0 ∧ ¬ (n = 2 ∧ zC1 f L k0 = 46 ∧ zC1 f L (k0 + 1) = 46))) → lv_has ls 5 [(0, .ref qd), (1, .int (iI k0)), (2, .int (iI n)), (3, .int (iI d1)), (4, .int (iI d2))] → W p l e { frames := 1, cells := 0, slots := 0, locals := 21 } s m [.ref qd, .int (iI k0), .int (iI n)].toArray below meth c s.heap [] 0 0 (MQ below (zQR (fun (r : Int32) => ∃ x : Int, r = iI x ∧ ((zTf x (zpt (zC1 f L) k0 n)) ∧ 0 ≤ x ∧ x ≤ 1))) [.ref qd, .int (iI k0), .int (iI n)].toArray s 0 0 (fun _ => False)) (F0 m 64 ls []) := by
        intro d2 ls hd2 hl
        refine lv_iload_n hx hb d_D_isPart_64 rfl (lv_at hl 2 rfl) ?_
        refine zv_if_le (tgt := 81) hx hb d_D_isPart_65 (by decide) (by omega) (fun hc_3 => ?_) (fun hc_3 => ?_)
        · skip
          refine lv_iconst (v := iI 0) hx hb d_D_isPart_81 (by decide) ?_
          exact zretRz hx hb hr hlk (⟨_, rfl, by unfold zTf zpt; omega, by omega⟩) (zn01 (by omega)) d_D_isPart_82
        · skip
          refine lv_iload_n hx hb d_D_isPart_68 rfl (lv_at hl 3 rfl) ?_
          refine zv_if_ne (tgt := 81) hx hb d_D_isPart_69 (by decide) (by omega) (fun hc_4 => ?_) (fun hc_4 => ?_)
          · skip
            refine lv_iconst (v := iI 0) hx hb d_D_isPart_81 (by decide) ?_
            exact zretRz hx hb hr hlk (⟨_, rfl, by unfold zTf zpt; omega, by omega⟩) (zn01 (by omega)) d_D_isPart_82
          · skip
            refine lv_iload hx hb d_D_isPart_72 (lv_at hl 4 rfl) ?_
            refine zv_if_ne (tgt := 81) hx hb d_D_isPart_74 (by decide) (by omega) (fun hc_5 => ?_) (fun hc_5 => ?_)
            · skip
              refine lv_iconst (v := iI 0) hx hb d_D_isPart_81 (by decide) ?_
              exact zretRz hx hb hr hlk (⟨_, rfl, by unfold zTf zpt; omega, by omega⟩) (zn01 (by omega)) d_D_isPart_82
            · skip
              refine lv_iconst (v := iI 1) hx hb d_D_isPart_77 (by decide) ?_
              refine lv_goto (tgt := 82) hx hb d_D_isPart_78 (by decide) ?_
              exact zretRz hx hb hr hlk (⟨_, rfl, by unfold zTf zpt; omega, by omega⟩) (zn01 (by omega)) d_D_isPart_82
      refine lv_iload_n hx hb d_D_isPart_24 rfl (lv_at hl 2 rfl) ?_
      refine lv_iconst (v := iI 2) hx hb d_D_isPart_25 (by decide) ?_
      refine zv_icmp_ne (tgt := 61) hx hb d_D_isPart_26 (by decide) (by omega) (by omega) (fun hc_6 => ?_) (fun hc_6 => ?_)
      · skip
        refine lv_iconst (v := iI 0) hx hb d_D_isPart_61 (by decide) ?_
        refine lv_istore (lv' := [(4, .int (iI 0)), (0, .ref qd), (1, .int (iI k0)), (2, .int (iI n)), (3, .int (iI d1))]) hx hb d_D_isPart_62 hl (by decide) rfl (fun ls hl => ?_)
        exact jn_2 0 _ (by omega) (lv_sub hl [1, 2, 3, 4, 0] rfl)
      · skip
        refine lv_aload_n hx hb d_D_isPart_29 rfl (lv_at hl 0 rfl) ?_
        refine va_get (ci := 2) (C := "ZipGuard$Directory") (T := F_D) (N := 5) hx hb ht zi_D hown hK hP 0 rfl rfl 4 (by decide) (ht _ zm_187) (fun _ h9 => h9) rfl d_D_isPart_30 ?_
        refine lv_iload_n hx hb d_D_isPart_33 rfl (lv_at hl 1 rfl) ?_
        refine zjR (va_runV (As := [.int (iI k0)]) (rest := []) ⟨hx, hb, hml, hown, ht⟩ (a_T_by l D qt qb cB f L k0 (by omega) (by omega)) (cwV 1 ht (zt_goodV zm_460 zm_428 zm_429 zm_66 zm_430) rfl rfl rfl (by decide +kernel) ⟨Nat.le_of_ble_eq_true rfl, Nat.le_of_ble_eq_true rfl⟩) (zpreRV zBlind_t hK hP [1, 2] [0] rfl rfl (fun _ _ _ => trivial) (va_recv (q := ("ZipGuard$Tape", F_T, 2)) hK hP rfl (q0 := 1) (ci := 1) rfl)) rfl rfl hl.1 rfl (lv_room (Nat.le_of_ble_eq_true rfl)) d_D_isPart_34 ⟨Nat.le_of_ble_eq_true rfl, Nat.le_of_ble_eq_true rfl⟩) (fun r7 hp8 => ?_)
        obtain ⟨x_9, he_10, hp8⟩ := hp8
        subst he_10
        refine lv_bipush (v := iI 46) hx hb d_D_isPart_37 (by decide) ?_
        refine zv_icmp_ne (tgt := 61) hx hb d_D_isPart_39 (by decide) (by omega) (by omega) (fun hc_11 => ?_) (fun hc_11 => ?_)
        · skip
          refine lv_iconst (v := iI 0) hx hb d_D_isPart_61 (by decide) ?_
          refine lv_istore (lv' := [(4, .int (iI 0)), (0, .ref qd), (1, .int (iI k0)), (2, .int (iI n)), (3, .int (iI d1))]) hx hb d_D_isPart_62 hl (by decide) rfl (fun ls hl => ?_)
          exact jn_2 0 _ (by omega) (lv_sub hl [1, 2, 3, 4, 0] rfl)
        · skip
          refine lv_aload_n hx hb d_D_isPart_42 rfl (lv_at hl 0 rfl) ?_
          refine va_get (ci := 2) (C := "ZipGuard$Directory") (T := F_D) (N := 5) hx hb ht zi_D hown hK hP 0 rfl rfl 4 (by decide) (ht _ zm_187) (fun _ h9 => h9) rfl d_D_isPart_43 ?_
          refine lv_iload_n hx hb d_D_isPart_46 rfl (lv_at hl 1 rfl) ?_
          refine lv_iconst (v := iI 1) hx hb d_D_isPart_47 (by decide) ?_
          refine zv_iadd (z := k0 + 1) hx hb d_D_isPart_48 (by omega) ?_
          refine zjR (va_runV (As := [.int (iI (k0 + 1))]) (rest := []) ⟨hx, hb, hml, hown, ht⟩ (a_T_by l D qt qb cB f L (k0 + 1) (by omega) (by omega)) (cwV 1 ht (zt_goodV zm_460 zm_428 zm_429 zm_66 zm_430) rfl rfl rfl (by decide +kernel) ⟨Nat.le_of_ble_eq_true rfl, Nat.le_of_ble_eq_true rfl⟩) (zpreRV zBlind_t hK hP [1, 2] [0] rfl rfl (fun _ _ _ => trivial) (va_recv (q := ("ZipGuard$Tape", F_T, 2)) hK hP rfl (q0 := 1) (ci := 1) rfl)) rfl rfl hl.1 rfl (lv_room (Nat.le_of_ble_eq_true rfl)) d_D_isPart_49 ⟨Nat.le_of_ble_eq_true rfl, Nat.le_of_ble_eq_true rfl⟩) (fun r12 hp13 => ?_)
          obtain ⟨x_14, he_15, hp13⟩ := hp13
          subst he_15
          refine lv_bipush (v := iI 46) hx hb d_D_isPart_52 (by decide) ?_
          refine zv_icmp_ne (tgt := 61) hx hb d_D_isPart_54 (by decide) (by omega) (by omega) (fun hc_16 => ?_) (fun hc_16 => ?_)
          · skip
            refine lv_iconst (v := iI 0) hx hb d_D_isPart_61 (by decide) ?_
            refine lv_istore (lv' := [(4, .int (iI 0)), (0, .ref qd), (1, .int (iI k0)), (2, .int (iI n)), (3, .int (iI d1))]) hx hb d_D_isPart_62 hl (by decide) rfl (fun ls hl => ?_)
            exact jn_2 0 _ (by omega) (lv_sub hl [1, 2, 3, 4, 0] rfl)
          · skip
            refine lv_iconst (v := iI 1) hx hb d_D_isPart_57 (by decide) ?_
            refine lv_goto (tgt := 62) hx hb d_D_isPart_58 (by decide) ?_
            refine lv_istore (lv' := [(4, .int (iI 1)), (0, .ref qd), (1, .int (iI k0)), (2, .int (iI n)), (3, .int (iI d1))]) hx hb d_D_isPart_62 hl (by decide) rfl (fun ls hl => ?_)
            exact jn_2 1 _ (by omega) (lv_sub hl [1, 2, 3, 4, 0] rfl)
    refine lv_iload_n hx hb d_D_isPart_0 rfl (lv_at hl 2 rfl) ?_
    refine lv_iconst (v := iI 1) hx hb d_D_isPart_1 (by decide) ?_
    refine zv_icmp_ne (tgt := 22) hx hb d_D_isPart_2 (by decide) (by omega) (by omega) (fun hc_17 => ?_) (fun hc_17 => ?_)
    · skip
      refine lv_iconst (v := iI 0) hx hb d_D_isPart_22 (by decide) ?_
      refine lv_istore_n (lv' := [(3, .int (iI 0)), (0, .ref qd), (1, .int (iI k0)), (2, .int (iI n))]) hx hb d_D_isPart_23 rfl hl (by decide) rfl (fun ls hl => ?_)
      exact jn_1 0 _ (by omega) (lv_sub hl [1, 2, 3, 0] rfl)
    · skip
      refine lv_aload_n hx hb d_D_isPart_5 rfl (lv_at hl 0 rfl) ?_
      refine va_get (ci := 2) (C := "ZipGuard$Directory") (T := F_D) (N := 5) hx hb ht zi_D hown hK hP 0 rfl rfl 4 (by decide) (ht _ zm_187) (fun _ h9 => h9) rfl d_D_isPart_6 ?_
      refine lv_iload_n hx hb d_D_isPart_9 rfl (lv_at hl 1 rfl) ?_
      refine zjR (va_runV (As := [.int (iI k0)]) (rest := []) ⟨hx, hb, hml, hown, ht⟩ (a_T_by l D qt qb cB f L k0 (by omega) (by omega)) (cwV 1 ht (zt_goodV zm_460 zm_428 zm_429 zm_66 zm_430) rfl rfl rfl (by decide +kernel) ⟨Nat.le_of_ble_eq_true rfl, Nat.le_of_ble_eq_true rfl⟩) (zpreRV zBlind_t hK hP [1, 2] [0] rfl rfl (fun _ _ _ => trivial) (va_recv (q := ("ZipGuard$Tape", F_T, 2)) hK hP rfl (q0 := 1) (ci := 1) rfl)) rfl rfl hl.1 rfl (lv_room (Nat.le_of_ble_eq_true rfl)) d_D_isPart_10 ⟨Nat.le_of_ble_eq_true rfl, Nat.le_of_ble_eq_true rfl⟩) (fun r18 hp19 => ?_)
      obtain ⟨x_20, he_21, hp19⟩ := hp19
      subst he_21
      refine lv_bipush (v := iI 46) hx hb d_D_isPart_13 (by decide) ?_
      refine zv_icmp_ne (tgt := 22) hx hb d_D_isPart_15 (by decide) (by omega) (by omega) (fun hc_22 => ?_) (fun hc_22 => ?_)
      · skip
        refine lv_iconst (v := iI 0) hx hb d_D_isPart_22 (by decide) ?_
        refine lv_istore_n (lv' := [(3, .int (iI 0)), (0, .ref qd), (1, .int (iI k0)), (2, .int (iI n))]) hx hb d_D_isPart_23 rfl hl (by decide) rfl (fun ls hl => ?_)
        exact jn_1 0 _ (by omega) (lv_sub hl [1, 2, 3, 0] rfl)
      · skip
        refine lv_iconst (v := iI 1) hx hb d_D_isPart_18 (by decide) ?_
        refine lv_goto (tgt := 23) hx hb d_D_isPart_19 (by decide) ?_
        refine lv_istore_n (lv' := [(3, .int (iI 1)), (0, .ref qd), (1, .int (iI k0)), (2, .int (iI n))]) hx hb d_D_isPart_23 rfl hl (by decide) rfl (fun ls hl => ?_)
        exact jn_1 1 _ (by omega) (lv_sub hl [1, 2, 3, 0] rfl))
set_option maxHeartbeats 4000000 in
set_option maxRecDepth 100000 in
theorem a_D_nm (l : Launch) (D : va_G) (qd : Nat) (qn : Nat) (ct : Int) (io : Int) (fp : Int) (qt : Nat) (qb : Nat) (cB : ClassId) (f : Nat → Int32) (L : Int) (k0 : Int) (n : Int) (hL : 0 ≤ L ∧ L ≤ 20000) (hk : 0 ≤ k0 ∧ k0 ≤ 900000) (hn : -2147483648 ≤ n ∧ n ≤ 2147483647) : Met l y_D_isName (Cond.code y_D_isName prog_4_method_13_code 9 (Option.some Jvm.ClassFile.FieldType.boolean) :: zt) { frames := 2, cells := 0, slots := 0, locals := 45 } (zPcR [.ref qd, .int (iI k0), .int (iI n)] D [(qd, .inr (2, [.ref qn, .int (iI ct), .int (iI io), .int (iI fp), .ref qt])), (qt, .inr (1, [.ref qb, .int (iI L)])), (qb, .inl (cB, 20000, .inl f))] [(cB, .byte)] (fun _ => True)) (zQR (fun (r : Int32) => ∃ x : Int, r = iI x ∧ ((zTf x (zNm (zC1 f L) k0 n)) ∧ 0 ≤ x ∧ x ≤ 1 ∧ (x = 1 → 1 ≤ n ∧ n ≤ 60)))) 0 0 (fun _ => False) :=
  zMetR (by decide) (Nat.le_of_ble_eq_true rfl) (fun p e s m below meth c ls hx hb hr hml hown ht hlk hK hP hX hl => by
    have hl : lv_has ls 9 [(0, .ref qd), (1, .int (iI k0)), (2, .int (iI n))] := hl
    refine lv_iload_n hx hb d_D_isName_0 rfl (lv_at hl 2 rfl) ?_
    refine lv_iconst (v := iI 1) hx hb d_D_isName_1 (by decide) ?_
    refine zv_icmp_lt (tgt := 11) hx hb d_D_isName_2 (by decide) (by omega) (by omega) (fun hc_1 => ?_) (fun hc_1 => ?_)
    · skip
      refine lv_iconst (v := iI 0) hx hb d_D_isName_11 (by decide) ?_
      exact zretRz hx hb hr hlk (⟨_, rfl, zTf_0 (zNm_no (by omega)), by omega⟩) (zn01 (by omega)) d_D_isName_12
    · skip
      refine lv_iload_n hx hb d_D_isName_5 rfl (lv_at hl 2 rfl) ?_
      refine lv_bipush (v := iI 60) hx hb d_D_isName_6 (by decide) ?_
      refine zv_icmp_le (tgt := 13) hx hb d_D_isName_8 (by decide) (by omega) (by omega) (fun hc_2 => ?_) (fun hc_2 => ?_)
      · skip
        refine lv_iconst (v := iI 0) hx hb d_D_isName_13 (by decide) ?_
        refine lv_istore_n (lv' := [(3, .int (iI 0)), (0, .ref qd), (1, .int (iI k0)), (2, .int (iI n))]) hx hb d_D_isName_14 rfl hl (by decide) rfl (fun ls hl => ?_)
        refine lv_iconst (v := iI 0) hx hb d_D_isName_15 (by decide) ?_
        refine lv_istore (lv' := [(4, .int (iI 0)), (3, .int (iI 0)), (0, .ref qd), (1, .int (iI k0)), (2, .int (iI n))]) hx hb d_D_isName_16 hl (by decide) rfl (fun ls hl => ?_)
        refine lv_iconst (v := iI 0) hx hb d_D_isName_18 (by decide) ?_
        refine lv_istore (lv' := [(5, .int (iI 0)), (4, .int (iI 0)), (3, .int (iI 0)), (0, .ref qd), (1, .int (iI k0)), (2, .int (iI n))]) hx hb d_D_isName_19 hl (by decide) rfl (fun ls hl => ?_)
        have lp21 : ∀ (j : Nat) (k : Int) (ps : Int) (pa : Int) (ls : Array Slot), (0 ≤ k ∧ k ≤ n) → (0 ≤ ps ∧ ps ≤ k) → (0 ≤ pa ∧ pa ≤ k) → (zNi (zC1 f L) k0 n k pa ps) → (n - k < (j : Int)) → lv_has ls 9 [(5, .int (iI k)), (4, .int (iI ps)), (3, .int (iI pa)), (0, .ref qd), (1, .int (iI k0)), (2, .int (iI n))] → W p l e { frames := 2, cells := 0, slots := 0, locals := 45 } s m [.ref qd, .int (iI k0), .int (iI n)].toArray below meth c s.heap [] 0 0 (MQ below (zQR (fun (r : Int32) => ∃ x : Int, r = iI x ∧ ((zTf x (zNm (zC1 f L) k0 n)) ∧ 0 ≤ x ∧ x ≤ 1 ∧ (x = 1 → 1 ≤ n ∧ n ≤ 60)))) [.ref qd, .int (iI k0), .int (iI n)].toArray s 0 0 (fun _ => False)) (F0 m 21 ls []) := by
          intro j
          induction j with
          | zero => intro k ps pa ls hk1 hk2 hk3 hni hj21 hl; exfalso; omega
          | succ j ih21 =>
            intro k ps pa ls hk1 hk2 hk3 hni hj21 hl
            refine lv_iload hx hb d_D_isName_21 (lv_at hl 0 rfl) ?_
            refine lv_iload_n hx hb d_D_isName_23 rfl (lv_at hl 5 rfl) ?_
            refine zv_icmp_ge (tgt := 124) hx hb d_D_isName_24 (by decide) (by omega) (by omega) (fun hc_3 => ?_) (fun hc_3 => ?_)
            · skip
              refine lv_iload_n hx hb d_D_isName_124 rfl (lv_at hl 2 rfl) ?_
              refine lv_bipush (v := iI 8) hx hb d_D_isName_125 (by decide) ?_
              refine zv_icmp_gt (tgt := 134) hx hb d_D_isName_127 (by decide) (by omega) (by omega) (fun hc_4 => ?_) (fun hc_4 => ?_)
              · skip
                refine lv_iconst (v := iI 0) hx hb d_D_isName_134 (by decide) ?_
                exact zretRz hx hb hr hlk (⟨_, rfl, zTf_0 (mt (zNi_end hni (by omega) (by omega)).mp (by omega)), by omega⟩) (zn01 (by omega)) d_D_isName_135
              · skip
                refine lv_iconst (v := iI 1) hx hb d_D_isName_130 (by decide) ?_
                refine lv_goto (tgt := 135) hx hb d_D_isName_131 (by decide) ?_
                exact zretRz hx hb hr hlk (⟨_, rfl, zTf_1 ((zNi_end hni (by omega) (by omega)).mpr (by omega)), by omega⟩) (zn01 (by omega)) d_D_isName_135
            · skip
              refine lv_aload_n hx hb d_D_isName_27 rfl (lv_at hl 3 rfl) ?_
              refine va_get (ci := 2) (C := "ZipGuard$Directory") (T := F_D) (N := 5) hx hb ht zi_D hown hK hP 0 rfl rfl 4 (by decide) (ht _ zm_187) (fun _ h9 => h9) rfl d_D_isName_28 ?_
              refine lv_iload_n hx hb d_D_isName_31 rfl (lv_at hl 4 rfl) ?_
              refine lv_iload hx hb d_D_isName_32 (lv_at hl 0 rfl) ?_
              refine zv_iadd (z := k0 + k) hx hb d_D_isName_34 (by omega) ?_
              refine zjR (va_runV (As := [.int (iI (k0 + k))]) (rest := []) ⟨hx, hb, hml, hown, ht⟩ (a_T_by l D qt qb cB f L (k0 + k) (by omega) (by omega)) (cwV 1 ht (zt_goodV zm_460 zm_428 zm_429 zm_66 zm_430) rfl rfl rfl (by decide +kernel) ⟨Nat.le_of_ble_eq_true rfl, Nat.le_of_ble_eq_true rfl⟩) (zpreRV zBlind_t hK hP [1, 2] [0] rfl rfl (fun _ _ _ => trivial) (va_recv (q := ("ZipGuard$Tape", F_T, 2)) hK hP rfl (q0 := 1) (ci := 1) rfl)) rfl rfl hl.1 rfl (lv_room (Nat.le_of_ble_eq_true rfl)) d_D_isName_35 ⟨Nat.le_of_ble_eq_true rfl, Nat.le_of_ble_eq_true rfl⟩) (fun r5 hp6 => ?_)
              obtain ⟨x_7, he_8, hp6⟩ := hp6
              subst he_8
              refine lv_istore (lv' := [(6, .int (iI x_7)), (5, .int (iI k)), (4, .int (iI ps)), (3, .int (iI pa)), (0, .ref qd), (1, .int (iI k0)), (2, .int (iI n))]) hx hb d_D_isName_38 hl (by decide) rfl (fun ls hl => ?_)
              refine lv_aload_n hx hb d_D_isName_40 rfl (lv_at hl 4 rfl) ?_
              refine lv_iload hx hb d_D_isName_41 (lv_at hl 0 rfl) ?_
              refine zjR (va_runV (As := [.int (iI x_7)]) (rest := []) ⟨hx, hb, hml, hown, ht⟩ (a_D_nb l D qd qn ct io fp qt x_7 (by omega)) (cwV 1 ht (zt_goodV zm_467 zm_468 zm_12 zm_67 zm_469) rfl rfl rfl (by decide +kernel) ⟨Nat.le_of_ble_eq_true rfl, Nat.le_of_ble_eq_true rfl⟩) (zpreRV zBlind_t hK hP [0] [] rfl rfl (fun _ _ _ => trivial) (va_recv (q := ("ZipGuard$Directory", F_D, 5)) hK hP rfl (q0 := 0) (ci := 2) rfl)) rfl rfl hl.1 rfl (lv_room (Nat.le_of_ble_eq_true rfl)) d_D_isName_43 ⟨Nat.le_of_ble_eq_true rfl, Nat.le_of_ble_eq_true rfl⟩) (fun r9 hp10 => ?_)
              obtain ⟨x_11, he_12, hp10⟩ := hp10
              subst he_12
              refine zv_if_ne (tgt := 51) hx hb d_D_isName_46 (by decide) (by omega) (fun hc_13 => ?_) (fun hc_13 => ?_)
              · skip
                have htf_14 := zTf_t hp10.1 hc_13
                have jn_15 : ∀ (sl : Int) (ls : Array Slot), (sl = 1 ∧ x_7 = 47 ∨ sl = 0 ∧ ¬ x_7 = 47) → lv_has ls 9 [(6, .int (iI x_7)), (5, .int (iI k)), (4, .int (iI ps)), (3, .int (iI pa)), (0, .ref qd), (1, .int (iI k0)), (2, .int (iI n)), (7, .int (iI sl))] → W p l e { frames := 2, cells := 0, slots := 0, locals := 45 } s m [.ref qd, .int (iI k0), .int (iI n)].toArray below meth c s.heap [] 0 0 (MQ below (zQR (fun (r : Int32) => ∃ x : Int, r = iI x ∧ ((zTf x (zNm (zC1 f L) k0 n)) ∧ 0 ≤ x ∧ x ≤ 1 ∧ (x = 1 → 1 ≤ n ∧ n ≤ 60)))) [.ref qd, .int (iI k0), .int (iI n)].toArray s 0 0 (fun _ => False)) (F0 m 65 ls []) := by
                  intro sl ls hsl hl
                  have jn_16 : ∀  (ls : Array Slot), (sl = 1 ∨ k = n - 1) → lv_has ls 9 [(6, .int (iI x_7)), (5, .int (iI k)), (4, .int (iI ps)), (3, .int (iI pa)), (0, .ref qd), (1, .int (iI k0)), (2, .int (iI n)), (7, .int (iI sl))] → W p l e { frames := 2, cells := 0, slots := 0, locals := 45 } s m [.ref qd, .int (iI k0), .int (iI n)].toArray below meth c s.heap [] 0 0 (MQ below (zQR (fun (r : Int32) => ∃ x : Int, r = iI x ∧ ((zTf x (zNm (zC1 f L) k0 n)) ∧ 0 ≤ x ∧ x ≤ 1 ∧ (x = 1 → 1 ≤ n ∧ n ≤ 60)))) [.ref qd, .int (iI k0), .int (iI n)].toArray s 0 0 (fun _ => False)) (F0 m 78 ls []) := by
                    intro  ls hsc hl
                    have jn_17 : ∀ (pe : Int) (ls : Array Slot), (sl = 1 ∧ pe = k ∨ sl = 0 ∧ pe = n) → lv_has ls 9 [(6, .int (iI x_7)), (5, .int (iI k)), (4, .int (iI ps)), (3, .int (iI pa)), (0, .ref qd), (1, .int (iI k0)), (2, .int (iI n)), (7, .int (iI sl)), (8, .int (iI pe))] → W p l e { frames := 2, cells := 0, slots := 0, locals := 45 } s m [.ref qd, .int (iI k0), .int (iI n)].toArray below meth c s.heap [] 0 0 (MQ below (zQR (fun (r : Int32) => ∃ x : Int, r = iI x ∧ ((zTf x (zNm (zC1 f L) k0 n)) ∧ 0 ≤ x ∧ x ≤ 1 ∧ (x = 1 → 1 ≤ n ∧ n ≤ 60)))) [.ref qd, .int (iI k0), .int (iI n)].toArray s 0 0 (fun _ => False)) (F0 m 91 ls []) := by
                      intro pe ls hpe hl
                      refine lv_aload_n hx hb d_D_isName_91 rfl (lv_at hl 4 rfl) ?_
                      refine lv_iload_n hx hb d_D_isName_92 rfl (lv_at hl 5 rfl) ?_
                      refine lv_iload hx hb d_D_isName_93 (lv_at hl 2 rfl) ?_
                      refine zv_iadd (z := k0 + ps) hx hb d_D_isName_95 (by omega) ?_
                      refine lv_iload hx hb d_D_isName_96 (lv_at hl 8 rfl) ?_
                      refine lv_iload hx hb d_D_isName_98 (lv_at hl 2 rfl) ?_
                      refine zv_isub (z := pe - ps) hx hb d_D_isName_100 (by omega) ?_
                      refine zjR (va_runV (As := [.int (iI (k0 + ps)), .int (iI (pe - ps))]) (rest := []) ⟨hx, hb, hml, hown, ht⟩ (a_D_pt l D qd qn ct io fp qt qb cB f L (k0 + ps) (pe - ps) (by omega) (by omega) (by omega)) (cwV 2 ht (zt_goodV zm_470 zm_471 zm_13 zm_67 zm_472) rfl rfl rfl (by decide +kernel) ⟨Nat.le_of_ble_eq_true rfl, Nat.le_of_ble_eq_true rfl⟩) (zpreRV zBlind_t hK hP [0, 1, 2] [0] rfl rfl (fun _ _ _ => trivial) (va_recv (q := ("ZipGuard$Directory", F_D, 5)) hK hP rfl (q0 := 0) (ci := 2) rfl)) rfl rfl hl.1 rfl (lv_room (Nat.le_of_ble_eq_true rfl)) d_D_isName_101 ⟨Nat.le_of_ble_eq_true rfl, Nat.le_of_ble_eq_true rfl⟩) (fun r18 hp19 => ?_)
                      obtain ⟨x_20, he_21, hp19⟩ := hp19
                      subst he_21
                      refine zv_if_ne (tgt := 109) hx hb d_D_isName_104 (by decide) (by omega) (fun hc_22 => ?_) (fun hc_22 => ?_)
                      · skip
                        have htf_23 := zTf_t hp19.1 hc_22
                        refine lv_iinc (k := 3) (v := iI (pa + 1)) (lv' := [(3, .int (iI (pa + 1))), (6, .int (iI x_7)), (5, .int (iI k)), (4, .int (iI ps)), (0, .ref qd), (1, .int (iI k0)), (2, .int (iI n)), (7, .int (iI sl)), (8, .int (iI pe))]) hx hb d_D_isName_109 hl rfl (zinc (by omega)) (by decide) rfl (fun ls hl => ?_)
                        refine lv_iload hx hb d_D_isName_112 (lv_at hl 2 rfl) ?_
                        refine lv_iconst (v := iI 1) hx hb d_D_isName_114 (by decide) ?_
                        refine zv_iadd (z := k + 1) hx hb d_D_isName_115 (by omega) ?_
                        refine lv_istore (lv' := [(4, .int (iI (k + 1))), (3, .int (iI (pa + 1))), (6, .int (iI x_7)), (5, .int (iI k)), (0, .ref qd), (1, .int (iI k0)), (2, .int (iI n)), (7, .int (iI sl)), (8, .int (iI pe))]) hx hb d_D_isName_116 hl (by decide) rfl (fun ls hl => ?_)
                        refine lv_iinc (k := 3) (v := iI (k + 1)) (lv' := [(5, .int (iI (k + 1))), (4, .int (iI (k + 1))), (3, .int (iI (pa + 1))), (6, .int (iI x_7)), (0, .ref qd), (1, .int (iI k0)), (2, .int (iI n)), (7, .int (iI sl)), (8, .int (iI pe))]) hx hb d_D_isName_118 hl rfl (zinc (by omega)) (by decide) rfl (fun ls hl => ?_)
                        refine lv_goto (tgt := 21) hx hb d_D_isName_121 (by decide) ?_
                        exact ih21 (k + 1) (k + 1) (pa + 1) _ (by omega) (by omega) (by omega) (zNi_step hni (by omega) hp6.1 (by assumption) hsl hpe hsc (by assumption)) (by omega) (lv_sub hl [0, 1, 2, 4, 5, 6] rfl)
                      · skip
                        have htf_24 := zTf_f hp19.1 hc_22
                        refine lv_iconst (v := iI 0) hx hb d_D_isName_107 (by decide) ?_
                        exact zretRz hx hb hr hlk (⟨_, rfl, zTf_0 (zNm_step hni (by omega) hp6.1 hsl hpe hsc (by assumption)), by omega⟩) (zn01 (by omega)) d_D_isName_108
                    refine lv_iload hx hb d_D_isName_78 (lv_at hl 7 rfl) ?_
                    refine zv_if_eq (tgt := 88) hx hb d_D_isName_80 (by decide) (by omega) (fun hc_25 => ?_) (fun hc_25 => ?_)
                    · skip
                      refine lv_iload_n hx hb d_D_isName_88 rfl (lv_at hl 6 rfl) ?_
                      refine lv_istore (lv' := [(8, .int (iI n)), (6, .int (iI x_7)), (5, .int (iI k)), (4, .int (iI ps)), (3, .int (iI pa)), (0, .ref qd), (1, .int (iI k0)), (2, .int (iI n)), (7, .int (iI sl))]) hx hb d_D_isName_89 hl (by decide) rfl (fun ls hl => ?_)
                      exact jn_17 n _ (by omega) (lv_sub hl [1, 2, 3, 4, 5, 6, 7, 8, 0] rfl)
                    · skip
                      refine lv_iload hx hb d_D_isName_83 (lv_at hl 1 rfl) ?_
                      refine lv_goto (tgt := 89) hx hb d_D_isName_85 (by decide) ?_
                      refine lv_istore (lv' := [(8, .int (iI k)), (6, .int (iI x_7)), (5, .int (iI k)), (4, .int (iI ps)), (3, .int (iI pa)), (0, .ref qd), (1, .int (iI k0)), (2, .int (iI n)), (7, .int (iI sl))]) hx hb d_D_isName_89 hl (by decide) rfl (fun ls hl => ?_)
                      exact jn_17 k _ (by omega) (lv_sub hl [1, 2, 3, 4, 5, 6, 7, 8, 0] rfl)
                  refine lv_iload hx hb d_D_isName_65 (lv_at hl 7 rfl) ?_
                  refine zv_if_ne (tgt := 78) hx hb d_D_isName_67 (by decide) (by omega) (fun hc_26 => ?_) (fun hc_26 => ?_)
                  · skip
                    exact jn_16  _ (by omega) hl
                  · skip
                    refine lv_iload hx hb d_D_isName_70 (lv_at hl 1 rfl) ?_
                    refine lv_iload_n hx hb d_D_isName_72 rfl (lv_at hl 6 rfl) ?_
                    refine lv_iconst (v := iI 1) hx hb d_D_isName_73 (by decide) ?_
                    refine zv_isub (z := n - 1) hx hb d_D_isName_74 (by omega) ?_
                    refine zv_icmp_ne (tgt := 118) hx hb d_D_isName_75 (by decide) (by omega) (by omega) (fun hc_27 => ?_) (fun hc_27 => ?_)
                    · skip
                      refine lv_iinc (k := 1) (v := iI (k + 1)) (lv' := [(5, .int (iI (k + 1))), (6, .int (iI x_7)), (4, .int (iI ps)), (3, .int (iI pa)), (0, .ref qd), (1, .int (iI k0)), (2, .int (iI n)), (7, .int (iI sl))]) hx hb d_D_isName_118 hl rfl (zinc (by omega)) (by decide) rfl (fun ls hl => ?_)
                      refine lv_goto (tgt := 21) hx hb d_D_isName_121 (by decide) ?_
                      exact ih21 (k + 1) ps pa _ (by omega) (by omega) (by omega) (zNi_next hni (by omega) hp6.1 (by assumption) (by omega)) (by omega) (lv_sub hl [0, 2, 3, 4, 5, 6] rfl)
                    · skip
                      exact jn_16  _ (by omega) hl
                refine lv_iload hx hb d_D_isName_51 (lv_at hl 0 rfl) ?_
                refine lv_bipush (v := iI 47) hx hb d_D_isName_53 (by decide) ?_
                refine zv_icmp_ne (tgt := 62) hx hb d_D_isName_55 (by decide) (by omega) (by omega) (fun hc_28 => ?_) (fun hc_28 => ?_)
                · skip
                  refine lv_iconst (v := iI 0) hx hb d_D_isName_62 (by decide) ?_
                  refine lv_istore (lv' := [(7, .int (iI 0)), (6, .int (iI x_7)), (5, .int (iI k)), (4, .int (iI ps)), (3, .int (iI pa)), (0, .ref qd), (1, .int (iI k0)), (2, .int (iI n))]) hx hb d_D_isName_63 hl (by decide) rfl (fun ls hl => ?_)
                  exact jn_15 0 _ (by omega) (lv_sub hl [1, 2, 3, 4, 5, 6, 7, 0] rfl)
                · skip
                  refine lv_iconst (v := iI 1) hx hb d_D_isName_58 (by decide) ?_
                  refine lv_goto (tgt := 63) hx hb d_D_isName_59 (by decide) ?_
                  refine lv_istore (lv' := [(7, .int (iI 1)), (6, .int (iI x_7)), (5, .int (iI k)), (4, .int (iI ps)), (3, .int (iI pa)), (0, .ref qd), (1, .int (iI k0)), (2, .int (iI n))]) hx hb d_D_isName_63 hl (by decide) rfl (fun ls hl => ?_)
                  exact jn_15 1 _ (by omega) (lv_sub hl [1, 2, 3, 4, 5, 6, 7, 0] rfl)
              · skip
                have htf_29 := zTf_f hp10.1 hc_13
                refine lv_iconst (v := iI 0) hx hb d_D_isName_49 (by decide) ?_
                exact zretRz hx hb hr hlk (⟨_, rfl, zTf_0 (zNm_b (k := k) (by omega) hp6.1 (by assumption)), by omega⟩) (zn01 (by omega)) d_D_isName_50
        exact lp21 ((n - 0 + 1 : Int)).toNat 0 0 0 _ (by omega) (by omega) (by omega) (zNi_0 (by omega)) (by omega) hl
      · skip
        refine lv_iconst (v := iI 0) hx hb d_D_isName_11 (by decide) ?_
        exact zretRz hx hb hr hlk (⟨_, rfl, zTf_0 (zNm_no (by omega)), by omega⟩) (zn01 (by omega)) d_D_isName_12)
set_option maxHeartbeats 4000000 in
set_option maxRecDepth 100000 in
theorem a_D_lo (l : Launch) (D : va_G) (qd : Nat) (qn : Nat) (ct : Int) (io : Int) (fp : Int) (qt : Nat) (qb : Nat) (cB : ClassId) (f : Nat → Int32) (L : Int) (cc0 : Int) (lo : Int) (hL : 0 ≤ L ∧ L ≤ 20000) (hc : 0 ≤ cc0 ∧ cc0 ≤ 300000) (hlo : 0 ≤ lo ∧ lo ≤ 900000) : Met l y_D_isLocalOf (Cond.code y_D_isLocalOf prog_4_method_17_code 3 (Option.some Jvm.ClassFile.FieldType.boolean) :: zt) { frames := 2, cells := 0, slots := 0, locals := 45 } (zPcR [.ref qd, .int (iI cc0), .int (iI lo)] D [(qd, .inr (2, [.ref qn, .int (iI ct), .int (iI io), .int (iI fp), .ref qt])), (qt, .inr (1, [.ref qb, .int (iI L)])), (qb, .inl (cB, 20000, .inl f))] [(cB, .byte)] (fun _ => True)) (zQR (fun (r : Int32) => ∃ x : Int, r = iI x ∧ ((zTf x (zMk (zC1 f L) lo 3 4 ∧ zSm (zC1 f L) (lo + 4) (cc0 + 6) 6 ∧ zSm (zC1 f L) (lo + 14) (cc0 + 16) 14 ∧ zSm (zC1 f L) (lo + 30) (cc0 + 46) (zg2 (zC1 f L) (cc0 + 28)))) ∧ 0 ≤ x ∧ x ≤ 1))) 0 0 (fun _ => False) :=
  zMetR (by decide) (Nat.le_of_ble_eq_true rfl) (fun p e s m below meth c ls hx hb hr hml hown ht hlk hK hP hX hl => by
    have hl : lv_has ls 3 [(0, .ref qd), (1, .int (iI cc0)), (2, .int (iI lo))] := hl
    refine lv_aload_n hx hb d_D_isLocalOf_0 rfl (lv_at hl 0 rfl) ?_
    refine va_get (ci := 2) (C := "ZipGuard$Directory") (T := F_D) (N := 5) hx hb ht zi_D hown hK hP 0 rfl rfl 4 (by decide) (ht _ zm_187) (fun _ h9 => h9) rfl d_D_isLocalOf_1 ?_
    refine lv_iload_n hx hb d_D_isLocalOf_4 rfl (lv_at hl 2 rfl) ?_
    refine lv_iconst (v := iI 3) hx hb d_D_isLocalOf_5 (by decide) ?_
    refine lv_iconst (v := iI 4) hx hb d_D_isLocalOf_6 (by decide) ?_
    refine zjR (va_runV (As := [.int (iI lo), .int (iI 3), .int (iI 4)]) (rest := []) ⟨hx, hb, hml, hown, ht⟩ (a_T_mark l D qt qb cB f L lo 3 4 (by omega) (by omega) (by omega) (by omega)) (cwV 3 ht (zt_goodV zm_423 zm_424 zm_425 zm_66 zm_426) rfl rfl rfl (by decide +kernel) ⟨Nat.le_of_ble_eq_true rfl, Nat.le_of_ble_eq_true rfl⟩) (zpreRV zBlind_t hK hP [1, 2] [0] rfl rfl (fun _ _ _ => trivial) (va_recv (q := ("ZipGuard$Tape", F_T, 2)) hK hP rfl (q0 := 1) (ci := 1) rfl)) rfl rfl hl.1 rfl (lv_room (Nat.le_of_ble_eq_true rfl)) d_D_isLocalOf_7 ⟨Nat.le_of_ble_eq_true rfl, Nat.le_of_ble_eq_true rfl⟩) (fun r1 hp2 => ?_)
    obtain ⟨x_3, he_4, hp2⟩ := hp2
    subst he_4
    refine zv_if_eq (tgt := 85) hx hb d_D_isLocalOf_10 (by decide) (by omega) (fun hc_5 => ?_) (fun hc_5 => ?_)
    · skip
      have htf_6 := zTf_f hp2.1 hc_5
      refine lv_iconst (v := iI 0) hx hb d_D_isLocalOf_85 (by decide) ?_
      exact zretRz hx hb hr hlk (⟨_, rfl, by exact zTf_0 (fun q9 => zTf_f hp2.1 (by omega) q9.1), by omega⟩) (zn01 (by omega)) d_D_isLocalOf_86
    · skip
      have htf_7 := zTf_t hp2.1 hc_5
      refine lv_aload_n hx hb d_D_isLocalOf_13 rfl (lv_at hl 0 rfl) ?_
      refine va_get (ci := 2) (C := "ZipGuard$Directory") (T := F_D) (N := 5) hx hb ht zi_D hown hK hP 0 rfl rfl 4 (by decide) (ht _ zm_187) (fun _ h9 => h9) rfl d_D_isLocalOf_14 ?_
      refine lv_iload_n hx hb d_D_isLocalOf_17 rfl (lv_at hl 2 rfl) ?_
      refine lv_iconst (v := iI 4) hx hb d_D_isLocalOf_18 (by decide) ?_
      refine zv_iadd (z := lo + 4) hx hb d_D_isLocalOf_19 (by omega) ?_
      refine lv_iload_n hx hb d_D_isLocalOf_20 rfl (lv_at hl 1 rfl) ?_
      refine lv_bipush (v := iI 6) hx hb d_D_isLocalOf_21 (by decide) ?_
      refine zv_iadd (z := cc0 + 6) hx hb d_D_isLocalOf_23 (by omega) ?_
      refine lv_bipush (v := iI 6) hx hb d_D_isLocalOf_24 (by decide) ?_
      refine zjR (va_runV (As := [.int (iI (lo + 4)), .int (iI (cc0 + 6)), .int (iI 6)]) (rest := []) ⟨hx, hb, hml, hown, ht⟩ (a_T_same l D qt qb cB f L (lo + 4) (cc0 + 6) 6 (by omega) (by omega) (by omega) (by omega)) (cwV 3 ht (zt_goodV zm_489 zm_490 zm_491 zm_66 zm_492) rfl rfl rfl (by decide +kernel) ⟨Nat.le_of_ble_eq_true rfl, Nat.le_of_ble_eq_true rfl⟩) (zpreRV zBlind_t hK hP [1, 2] [0] rfl rfl (fun _ _ _ => trivial) (va_recv (q := ("ZipGuard$Tape", F_T, 2)) hK hP rfl (q0 := 1) (ci := 1) rfl)) rfl rfl hl.1 rfl (lv_room (Nat.le_of_ble_eq_true rfl)) d_D_isLocalOf_26 ⟨Nat.le_of_ble_eq_true rfl, Nat.le_of_ble_eq_true rfl⟩) (fun r8 hp9 => ?_)
      obtain ⟨x_10, he_11, hp9⟩ := hp9
      subst he_11
      refine zv_if_eq (tgt := 85) hx hb d_D_isLocalOf_29 (by decide) (by omega) (fun hc_12 => ?_) (fun hc_12 => ?_)
      · skip
        have htf_13 := zTf_f hp9.1 hc_12
        refine lv_iconst (v := iI 0) hx hb d_D_isLocalOf_85 (by decide) ?_
        exact zretRz hx hb hr hlk (⟨_, rfl, by exact zTf_0 (fun q9 => zTf_f hp9.1 (by omega) q9.2.1), by omega⟩) (zn01 (by omega)) d_D_isLocalOf_86
      · skip
        have htf_14 := zTf_t hp9.1 hc_12
        refine lv_aload_n hx hb d_D_isLocalOf_32 rfl (lv_at hl 0 rfl) ?_
        refine va_get (ci := 2) (C := "ZipGuard$Directory") (T := F_D) (N := 5) hx hb ht zi_D hown hK hP 0 rfl rfl 4 (by decide) (ht _ zm_187) (fun _ h9 => h9) rfl d_D_isLocalOf_33 ?_
        refine lv_iload_n hx hb d_D_isLocalOf_36 rfl (lv_at hl 2 rfl) ?_
        refine lv_bipush (v := iI 14) hx hb d_D_isLocalOf_37 (by decide) ?_
        refine zv_iadd (z := lo + 14) hx hb d_D_isLocalOf_39 (by omega) ?_
        refine lv_iload_n hx hb d_D_isLocalOf_40 rfl (lv_at hl 1 rfl) ?_
        refine lv_bipush (v := iI 16) hx hb d_D_isLocalOf_41 (by decide) ?_
        refine zv_iadd (z := cc0 + 16) hx hb d_D_isLocalOf_43 (by omega) ?_
        refine lv_bipush (v := iI 14) hx hb d_D_isLocalOf_44 (by decide) ?_
        refine zjR (va_runV (As := [.int (iI (lo + 14)), .int (iI (cc0 + 16)), .int (iI 14)]) (rest := []) ⟨hx, hb, hml, hown, ht⟩ (a_T_same l D qt qb cB f L (lo + 14) (cc0 + 16) 14 (by omega) (by omega) (by omega) (by omega)) (cwV 3 ht (zt_goodV zm_489 zm_490 zm_491 zm_66 zm_492) rfl rfl rfl (by decide +kernel) ⟨Nat.le_of_ble_eq_true rfl, Nat.le_of_ble_eq_true rfl⟩) (zpreRV zBlind_t hK hP [1, 2] [0] rfl rfl (fun _ _ _ => trivial) (va_recv (q := ("ZipGuard$Tape", F_T, 2)) hK hP rfl (q0 := 1) (ci := 1) rfl)) rfl rfl hl.1 rfl (lv_room (Nat.le_of_ble_eq_true rfl)) d_D_isLocalOf_46 ⟨Nat.le_of_ble_eq_true rfl, Nat.le_of_ble_eq_true rfl⟩) (fun r15 hp16 => ?_)
        obtain ⟨x_17, he_18, hp16⟩ := hp16
        subst he_18
        refine zv_if_eq (tgt := 85) hx hb d_D_isLocalOf_49 (by decide) (by omega) (fun hc_19 => ?_) (fun hc_19 => ?_)
        · skip
          have htf_20 := zTf_f hp16.1 hc_19
          refine lv_iconst (v := iI 0) hx hb d_D_isLocalOf_85 (by decide) ?_
          exact zretRz hx hb hr hlk (⟨_, rfl, by exact zTf_0 (fun q9 => zTf_f hp16.1 (by omega) q9.2.2.1), by omega⟩) (zn01 (by omega)) d_D_isLocalOf_86
        · skip
          have htf_21 := zTf_t hp16.1 hc_19
          refine lv_aload_n hx hb d_D_isLocalOf_52 rfl (lv_at hl 0 rfl) ?_
          refine va_get (ci := 2) (C := "ZipGuard$Directory") (T := F_D) (N := 5) hx hb ht zi_D hown hK hP 0 rfl rfl 4 (by decide) (ht _ zm_187) (fun _ h9 => h9) rfl d_D_isLocalOf_53 ?_
          refine lv_iload_n hx hb d_D_isLocalOf_56 rfl (lv_at hl 2 rfl) ?_
          refine lv_bipush (v := iI 30) hx hb d_D_isLocalOf_57 (by decide) ?_
          refine zv_iadd (z := lo + 30) hx hb d_D_isLocalOf_59 (by omega) ?_
          refine lv_iload_n hx hb d_D_isLocalOf_60 rfl (lv_at hl 1 rfl) ?_
          refine lv_bipush (v := iI 46) hx hb d_D_isLocalOf_61 (by decide) ?_
          refine zv_iadd (z := cc0 + 46) hx hb d_D_isLocalOf_63 (by omega) ?_
          refine lv_aload_n hx hb d_D_isLocalOf_64 rfl (lv_at hl 0 rfl) ?_
          refine va_get (ci := 2) (C := "ZipGuard$Directory") (T := F_D) (N := 5) hx hb ht zi_D hown hK hP 0 rfl rfl 4 (by decide) (ht _ zm_187) (fun _ h9 => h9) rfl d_D_isLocalOf_65 ?_
          refine lv_iload_n hx hb d_D_isLocalOf_68 rfl (lv_at hl 1 rfl) ?_
          refine lv_bipush (v := iI 28) hx hb d_D_isLocalOf_69 (by decide) ?_
          refine zv_iadd (z := cc0 + 28) hx hb d_D_isLocalOf_71 (by omega) ?_
          refine zjR (va_runV (As := [.int (iI (cc0 + 28))]) (rest := [.int (iI (cc0 + 46)), .int (iI (lo + 30)), .ref qt]) ⟨hx, hb, hml, hown, ht⟩ (a_T_two l D qt qb cB f L (cc0 + 28) (by omega) (by omega)) (cwV 1 ht (zt_goodV zm_431 zm_432 zm_433 zm_66 zm_434) rfl rfl rfl (by decide +kernel) ⟨Nat.le_of_ble_eq_true rfl, Nat.le_of_ble_eq_true rfl⟩) (zpreRV zBlind_t hK hP [1, 2] [0] rfl rfl (fun _ _ _ => trivial) (va_recv (q := ("ZipGuard$Tape", F_T, 2)) hK hP rfl (q0 := 1) (ci := 1) rfl)) rfl rfl hl.1 rfl (lv_room (Nat.le_of_ble_eq_true rfl)) d_D_isLocalOf_72 ⟨Nat.le_of_ble_eq_true rfl, Nat.le_of_ble_eq_true rfl⟩) (fun r22 hp23 => ?_)
          obtain ⟨x_24, he_25, hp23⟩ := hp23
          subst he_25
          refine zjR (va_runV (As := [.int (iI (lo + 30)), .int (iI (cc0 + 46)), .int (iI x_24)]) (rest := []) ⟨hx, hb, hml, hown, ht⟩ (a_T_same l D qt qb cB f L (lo + 30) (cc0 + 46) x_24 (by omega) (by omega) (by omega) (by omega)) (cwV 3 ht (zt_goodV zm_489 zm_490 zm_491 zm_66 zm_492) rfl rfl rfl (by decide +kernel) ⟨Nat.le_of_ble_eq_true rfl, Nat.le_of_ble_eq_true rfl⟩) (zpreRV zBlind_t hK hP [1, 2] [0] rfl rfl (fun _ _ _ => trivial) (va_recv (q := ("ZipGuard$Tape", F_T, 2)) hK hP rfl (q0 := 1) (ci := 1) rfl)) rfl rfl hl.1 rfl (lv_room (Nat.le_of_ble_eq_true rfl)) d_D_isLocalOf_75 ⟨Nat.le_of_ble_eq_true rfl, Nat.le_of_ble_eq_true rfl⟩) (fun r26 hp27 => ?_)
          obtain ⟨x_28, he_29, hp27⟩ := hp27
          subst he_29
          refine zv_if_eq (tgt := 85) hx hb d_D_isLocalOf_78 (by decide) (by omega) (fun hc_30 => ?_) (fun hc_30 => ?_)
          · skip
            have htf_31 := zTf_f hp27.1 hc_30
            refine lv_iconst (v := iI 0) hx hb d_D_isLocalOf_85 (by decide) ?_
            exact zretRz hx hb hr hlk (⟨_, rfl, by have q7 := hp23.1; subst q7; exact zTf_0 (fun q9 => zTf_f hp27.1 (by omega) q9.2.2.2), by omega⟩) (zn01 (by omega)) d_D_isLocalOf_86
          · skip
            have htf_32 := zTf_t hp27.1 hc_30
            refine lv_iconst (v := iI 1) hx hb d_D_isLocalOf_81 (by decide) ?_
            refine lv_goto (tgt := 86) hx hb d_D_isLocalOf_82 (by decide) ?_
            exact zretRz hx hb hr hlk (⟨_, rfl, by have q7 := hp23.1; subst q7; exact zTf_1 ⟨by assumption, zTf_t hp9.1 (by omega), zTf_t hp16.1 (by omega), zTf_t hp27.1 (by omega)⟩, by omega⟩) (zn01 (by omega)) d_D_isLocalOf_86)
set_option maxHeartbeats 4000000 in
set_option maxRecDepth 100000 in
theorem a_D_kn (l : Launch) (D : va_G) (sz : Nat) (qd : Nat) (qn : Nat) (ct : Int) (io : Int) (fp : Int) (qt : Nat) (qb : Nat) (cB : ClassId) (f : Nat → Int32) (L : Int) (qe : Nat) (qnb : Nat) (nl : Int) (fo : Int) (me : Int) (pk : Int) (ez : Int) (su : Int) (lp : Int) (pp : Int) (st : Int) (op : Int) (ol : Int) (cc0 : Int) (hL : 0 ≤ L ∧ L ≤ 20000) (hc : 0 ≤ cc0 ∧ cc0 ≤ 300000) : Met l y_D_keepNumbers (Cond.code y_D_keepNumbers prog_4_method_18_code 3 (Option.none : Option Jvm.ClassFile.FieldType) :: zt) { frames := 2, cells := 0, slots := 0, locals := 42 } (zPc [.ref qd, .ref qe, .int (iI cc0)] D [(qd, .inr (2, [.ref qn, .int (iI ct), .int (iI io), .int (iI fp), .ref qt])), (qt, .inr (1, [.ref qb, .int (iI L)])), (qb, .inl (cB, 20000, .inl f)), (qe, .inr (7, [.ref qnb, .int (iI nl), .int (iI fo), .int (iI me), .int (iI pk), .long (lI ez), .int (iI su), .int (iI lp), .int (iI pp), .int (iI st), .int (iI op), .int (iI ol)]))] [(cB, .byte)] sz (fun _ => True)) (va_Qv (fun (u9 : Int × Int × Int × Int) => match u9 with | (me1, su1, pk1, ez1) => me1 = zg2 (zC1 f L) (cc0 + 10) ∧ su1 = zg4 (zC1 f L) (cc0 + 16) ∧ ez1 = zg4 (zC1 f L) (cc0 + 24) ∧ pk1 = zg4 (zC1 f L) (cc0 + 20) ∧ 0 ≤ ez1 ∧ ez1 ≤ 4294967295) (fun u9 t => zB D ((fun (u9 : Int × Int × Int × Int) => match u9 with | (me1, su1, pk1, ez1) => [(qd, .inr (2, [.ref qn, .int (iI ct), .int (iI io), .int (iI fp), .ref qt])), (qt, .inr (1, [.ref qb, .int (iI L)])), (qb, .inl (cB, 20000, .inl f)), (qe, .inr (7, [.ref qnb, .int (iI nl), .int (iI fo), .int (iI me1), .int (iI pk1), .long (lI ez1), .int (iI su1), .int (iI lp), .int (iI pp), .int (iI 0), .int (iI 0), .int (iI 0)]))]) u9) ((fun (u9 : Int × Int × Int × Int) => match u9 with | (me1, su1, pk1, ez1) => [(cB, .byte)]) u9) (va_A [(qd, .inr (2, [.ref qn, .int (iI ct), .int (iI io), .int (iI fp), .ref qt])), (qt, .inr (1, [.ref qb, .int (iI L)])), (qb, .inl (cB, 20000, .inl f)), (qe, .inr (7, [.ref qnb, .int (iI nl), .int (iI fo), .int (iI me), .int (iI pk), .long (lI ez), .int (iI su), .int (iI lp), .int (iI pp), .int (iI st), .int (iI op), .int (iI ol)]))] sz) t) (va_A [(qd, .inr (2, [.ref qn, .int (iI ct), .int (iI io), .int (iI fp), .ref qt])), (qt, .inr (1, [.ref qb, .int (iI L)])), (qb, .inl (cB, 20000, .inl f)), (qe, .inr (7, [.ref qnb, .int (iI nl), .int (iI fo), .int (iI me), .int (iI pk), .long (lI ez), .int (iI su), .int (iI lp), .int (iI pp), .int (iI st), .int (iI op), .int (iI ol)]))] sz)) 0 0 (va_A [(qd, .inr (2, [.ref qn, .int (iI ct), .int (iI io), .int (iI fp), .ref qt])), (qt, .inr (1, [.ref qb, .int (iI L)])), (qb, .inl (cB, 20000, .inl f)), (qe, .inr (7, [.ref qnb, .int (iI nl), .int (iI fo), .int (iI me), .int (iI pk), .long (lI ez), .int (iI su), .int (iI lp), .int (iI pp), .int (iI st), .int (iI op), .int (iI ol)]))] sz) :=
  zMet (Qf := fun A => va_Qv (fun (u9 : Int × Int × Int × Int) => match u9 with | (me1, su1, pk1, ez1) => me1 = zg2 (zC1 f L) (cc0 + 10) ∧ su1 = zg4 (zC1 f L) (cc0 + 16) ∧ ez1 = zg4 (zC1 f L) (cc0 + 24) ∧ pk1 = zg4 (zC1 f L) (cc0 + 20) ∧ 0 ≤ ez1 ∧ ez1 ≤ 4294967295) (fun u9 t => zB D ((fun (u9 : Int × Int × Int × Int) => match u9 with | (me1, su1, pk1, ez1) => [(qd, .inr (2, [.ref qn, .int (iI ct), .int (iI io), .int (iI fp), .ref qt])), (qt, .inr (1, [.ref qb, .int (iI L)])), (qb, .inl (cB, 20000, .inl f)), (qe, .inr (7, [.ref qnb, .int (iI nl), .int (iI fo), .int (iI me1), .int (iI pk1), .long (lI ez1), .int (iI su1), .int (iI lp), .int (iI pp), .int (iI 0), .int (iI 0), .int (iI 0)]))]) u9) ((fun (u9 : Int × Int × Int × Int) => match u9 with | (me1, su1, pk1, ez1) => [(cB, .byte)]) u9) A t) A) (by decide) (Nat.le_of_ble_eq_true rfl) (fun p e s m below meth c A ls hx hb hr hml hown ht hlk hnm hA hK hP hD hX hl => by
    have hS : va_S A s.heap s.heap [] := va_S.rf
    have hl : lv_has ls 3 [(0, .ref qd), (1, .ref qe), (2, .int (iI cc0))] := hl
    refine lv_aload_n hx hb d_D_keepNumbers_0 rfl (lv_at hl 1 rfl) ?_
    refine lv_aload_n hx hb d_D_keepNumbers_1 rfl (lv_at hl 0 rfl) ?_
    refine va_get (ci := 2) (C := "ZipGuard$Directory") (T := F_D) (N := 5) hx hb ht zi_D hown hK hP 0 rfl rfl 4 (by decide) (ht _ zm_187) (fun _ h9 => h9) rfl d_D_keepNumbers_2 ?_
    refine lv_iload_n hx hb d_D_keepNumbers_5 rfl (lv_at hl 2 rfl) ?_
    refine lv_bipush (v := iI 10) hx hb d_D_keepNumbers_6 (by decide) ?_
    refine zv_iadd (z := cc0 + 10) hx hb d_D_keepNumbers_8 (by omega) ?_
    refine zjR (va_runV (As := [.int (iI (cc0 + 10))]) (rest := [.ref qe]) ⟨hx, hb, hml, hown, ht⟩ (a_T_two l D qt qb cB f L (cc0 + 10) (by omega) (by omega)) (cwV 1 ht (zt_goodV zm_431 zm_432 zm_433 zm_66 zm_434) rfl rfl rfl (by decide +kernel) ⟨Nat.le_of_ble_eq_true rfl, Nat.le_of_ble_eq_true rfl⟩) (zpreRV zBlind_t hK hP [1, 2] [0] rfl rfl (fun _ _ _ => trivial) (va_recv (q := ("ZipGuard$Tape", F_T, 2)) hK hP rfl (q0 := 1) (ci := 1) rfl)) rfl rfl hl.1 rfl (lv_room (Nat.le_of_ble_eq_true rfl)) d_D_keepNumbers_9 ⟨Nat.le_of_ble_eq_true rfl, Nat.le_of_ble_eq_true rfl⟩) (fun r1 hp2 => ?_)
    obtain ⟨x_3, he_4, hp2⟩ := hp2
    subst he_4
    refine va_put (ci := 7) (v := .int (iI x_3)) (ty := .int) (C := "ZipGuard$Entry") (T := F_E) (N := 12) hx hb ht zi_E ty_E tk_E nm_E hown hK hP hD hS 3 rfl rfl 3 (by decide) (ht _ zm_127) (fun _ h9 => h9) rfl (by decide +kernel) rfl rfl (Nat.le_of_ble_eq_true rfl) d_D_keepNumbers_12 (fun H locs hP hD hS => ?_)
    have hP : va_P D zcl [(qd, .inr (2, [.ref qn, .int (iI ct), .int (iI io), .int (iI fp), .ref qt])), (qt, .inr (1, [.ref qb, .int (iI L)])), (qb, .inl (cB, 20000, .inl f)), (qe, .inr (7, [.ref qnb, .int (iI nl), .int (iI fo), .int (iI x_3), .int (iI pk), .long (lI ez), .int (iI su), .int (iI lp), .int (iI pp), .int (iI st), .int (iI op), .int (iI ol)]))] H := hP
    have hD : va_D A [(qd, .inr (2, [.ref qn, .int (iI ct), .int (iI io), .int (iI fp), .ref qt])), (qt, .inr (1, [.ref qb, .int (iI L)])), (qb, .inl (cB, 20000, .inl f)), (qe, .inr (7, [.ref qnb, .int (iI nl), .int (iI fo), .int (iI x_3), .int (iI pk), .long (lI ez), .int (iI su), .int (iI lp), .int (iI pp), .int (iI st), .int (iI op), .int (iI ol)]))] := hD
    refine lv_aload_n hx hb d_D_keepNumbers_15 rfl (lv_at hl 1 rfl) ?_
    refine lv_aload_n hx hb d_D_keepNumbers_16 rfl (lv_at hl 0 rfl) ?_
    refine va_get (ci := 2) (C := "ZipGuard$Directory") (T := F_D) (N := 5) hx hb ht zi_D hown hK hP 0 rfl rfl 4 (by decide) (ht _ zm_187) (fun _ h9 => h9) rfl d_D_keepNumbers_17 ?_
    refine lv_iload_n hx hb d_D_keepNumbers_20 rfl (lv_at hl 2 rfl) ?_
    refine lv_bipush (v := iI 16) hx hb d_D_keepNumbers_21 (by decide) ?_
    refine zv_iadd (z := cc0 + 16) hx hb d_D_keepNumbers_23 (by omega) ?_
    refine zjRl (va_runV (As := [.int (iI (cc0 + 16))]) (rest := [.ref qe]) ⟨hx, hb, hml, hown, ht⟩ (a_T_four l D qt qb cB f L (cc0 + 16) (by omega) (by omega)) (cwV 1 ht (zt_goodV zm_441 zm_442 zm_443 zm_66 zm_444) rfl rfl rfl (by decide +kernel) ⟨Nat.le_of_ble_eq_true rfl, Nat.le_of_ble_eq_true rfl⟩) (zpreRV zBlind_t hK hP [1, 2] [0] rfl rfl (fun _ _ _ => trivial) (va_recv (q := ("ZipGuard$Tape", F_T, 2)) hK hP rfl (q0 := 1) (ci := 1) rfl)) rfl rfl hl.1 rfl (lv_room (Nat.le_of_ble_eq_true rfl)) d_D_keepNumbers_24 ⟨Nat.le_of_ble_eq_true rfl, Nat.le_of_ble_eq_true rfl⟩) (fun r5 hp6 => ?_)
    obtain ⟨x_7, he_8, hp6⟩ := hp6
    subst he_8
    refine zv_l2i hx hb d_D_keepNumbers_27 ?_
    refine va_put (ci := 7) (v := .int (iI x_7)) (ty := .int) (C := "ZipGuard$Entry") (T := F_E) (N := 12) hx hb ht zi_E ty_E tk_E nm_E hown hK hP hD hS 3 rfl rfl 6 (by decide) (ht _ zm_139) (fun _ h9 => h9) rfl (by decide +kernel) rfl rfl (Nat.le_of_ble_eq_true rfl) d_D_keepNumbers_28 (fun H locs hP hD hS => ?_)
    have hP : va_P D zcl [(qd, .inr (2, [.ref qn, .int (iI ct), .int (iI io), .int (iI fp), .ref qt])), (qt, .inr (1, [.ref qb, .int (iI L)])), (qb, .inl (cB, 20000, .inl f)), (qe, .inr (7, [.ref qnb, .int (iI nl), .int (iI fo), .int (iI x_3), .int (iI pk), .long (lI ez), .int (iI x_7), .int (iI lp), .int (iI pp), .int (iI st), .int (iI op), .int (iI ol)]))] H := hP
    have hD : va_D A [(qd, .inr (2, [.ref qn, .int (iI ct), .int (iI io), .int (iI fp), .ref qt])), (qt, .inr (1, [.ref qb, .int (iI L)])), (qb, .inl (cB, 20000, .inl f)), (qe, .inr (7, [.ref qnb, .int (iI nl), .int (iI fo), .int (iI x_3), .int (iI pk), .long (lI ez), .int (iI x_7), .int (iI lp), .int (iI pp), .int (iI st), .int (iI op), .int (iI ol)]))] := hD
    refine lv_aload_n hx hb d_D_keepNumbers_31 rfl (lv_at hl 1 rfl) ?_
    refine lv_aload_n hx hb d_D_keepNumbers_32 rfl (lv_at hl 0 rfl) ?_
    refine va_get (ci := 2) (C := "ZipGuard$Directory") (T := F_D) (N := 5) hx hb ht zi_D hown hK hP 0 rfl rfl 4 (by decide) (ht _ zm_187) (fun _ h9 => h9) rfl d_D_keepNumbers_33 ?_
    refine lv_iload_n hx hb d_D_keepNumbers_36 rfl (lv_at hl 2 rfl) ?_
    refine lv_bipush (v := iI 20) hx hb d_D_keepNumbers_37 (by decide) ?_
    refine zv_iadd (z := cc0 + 20) hx hb d_D_keepNumbers_39 (by omega) ?_
    refine zjRl (va_runV (As := [.int (iI (cc0 + 20))]) (rest := [.ref qe]) ⟨hx, hb, hml, hown, ht⟩ (a_T_four l D qt qb cB f L (cc0 + 20) (by omega) (by omega)) (cwV 1 ht (zt_goodV zm_441 zm_442 zm_443 zm_66 zm_444) rfl rfl rfl (by decide +kernel) ⟨Nat.le_of_ble_eq_true rfl, Nat.le_of_ble_eq_true rfl⟩) (zpreRV zBlind_t hK hP [1, 2] [0] rfl rfl (fun _ _ _ => trivial) (va_recv (q := ("ZipGuard$Tape", F_T, 2)) hK hP rfl (q0 := 1) (ci := 1) rfl)) rfl rfl hl.1 rfl (lv_room (Nat.le_of_ble_eq_true rfl)) d_D_keepNumbers_40 ⟨Nat.le_of_ble_eq_true rfl, Nat.le_of_ble_eq_true rfl⟩) (fun r9 hp10 => ?_)
    obtain ⟨x_11, he_12, hp10⟩ := hp10
    subst he_12
    refine zv_l2i hx hb d_D_keepNumbers_43 ?_
    refine va_put (ci := 7) (v := .int (iI x_11)) (ty := .int) (C := "ZipGuard$Entry") (T := F_E) (N := 12) hx hb ht zi_E ty_E tk_E nm_E hown hK hP hD hS 3 rfl rfl 4 (by decide) (ht _ zm_132) (fun _ h9 => h9) rfl (by decide +kernel) rfl rfl (Nat.le_of_ble_eq_true rfl) d_D_keepNumbers_44 (fun H locs hP hD hS => ?_)
    have hP : va_P D zcl [(qd, .inr (2, [.ref qn, .int (iI ct), .int (iI io), .int (iI fp), .ref qt])), (qt, .inr (1, [.ref qb, .int (iI L)])), (qb, .inl (cB, 20000, .inl f)), (qe, .inr (7, [.ref qnb, .int (iI nl), .int (iI fo), .int (iI x_3), .int (iI x_11), .long (lI ez), .int (iI x_7), .int (iI lp), .int (iI pp), .int (iI st), .int (iI op), .int (iI ol)]))] H := hP
    have hD : va_D A [(qd, .inr (2, [.ref qn, .int (iI ct), .int (iI io), .int (iI fp), .ref qt])), (qt, .inr (1, [.ref qb, .int (iI L)])), (qb, .inl (cB, 20000, .inl f)), (qe, .inr (7, [.ref qnb, .int (iI nl), .int (iI fo), .int (iI x_3), .int (iI x_11), .long (lI ez), .int (iI x_7), .int (iI lp), .int (iI pp), .int (iI st), .int (iI op), .int (iI ol)]))] := hD
    refine lv_aload_n hx hb d_D_keepNumbers_47 rfl (lv_at hl 1 rfl) ?_
    refine lv_aload_n hx hb d_D_keepNumbers_48 rfl (lv_at hl 0 rfl) ?_
    refine va_get (ci := 2) (C := "ZipGuard$Directory") (T := F_D) (N := 5) hx hb ht zi_D hown hK hP 0 rfl rfl 4 (by decide) (ht _ zm_187) (fun _ h9 => h9) rfl d_D_keepNumbers_49 ?_
    refine lv_iload_n hx hb d_D_keepNumbers_52 rfl (lv_at hl 2 rfl) ?_
    refine lv_bipush (v := iI 24) hx hb d_D_keepNumbers_53 (by decide) ?_
    refine zv_iadd (z := cc0 + 24) hx hb d_D_keepNumbers_55 (by omega) ?_
    refine zjRl (va_runV (As := [.int (iI (cc0 + 24))]) (rest := [.ref qe]) ⟨hx, hb, hml, hown, ht⟩ (a_T_four l D qt qb cB f L (cc0 + 24) (by omega) (by omega)) (cwV 1 ht (zt_goodV zm_441 zm_442 zm_443 zm_66 zm_444) rfl rfl rfl (by decide +kernel) ⟨Nat.le_of_ble_eq_true rfl, Nat.le_of_ble_eq_true rfl⟩) (zpreRV zBlind_t hK hP [1, 2] [0] rfl rfl (fun _ _ _ => trivial) (va_recv (q := ("ZipGuard$Tape", F_T, 2)) hK hP rfl (q0 := 1) (ci := 1) rfl)) rfl rfl hl.1 rfl (lv_room (Nat.le_of_ble_eq_true rfl)) d_D_keepNumbers_56 ⟨Nat.le_of_ble_eq_true rfl, Nat.le_of_ble_eq_true rfl⟩) (fun r13 hp14 => ?_)
    obtain ⟨x_15, he_16, hp14⟩ := hp14
    subst he_16
    refine va_put (ci := 7) (v := .long (lI x_15)) (ty := .long) (C := "ZipGuard$Entry") (T := F_E) (N := 12) hx hb ht zi_E ty_E tk_E nm_E hown hK hP hD hS 3 rfl rfl 5 (by decide) (ht _ zm_136) (fun _ h9 => h9) rfl (by decide +kernel) rfl rfl (Nat.le_of_ble_eq_true rfl) d_D_keepNumbers_59 (fun H locs hP hD hS => ?_)
    have hP : va_P D zcl [(qd, .inr (2, [.ref qn, .int (iI ct), .int (iI io), .int (iI fp), .ref qt])), (qt, .inr (1, [.ref qb, .int (iI L)])), (qb, .inl (cB, 20000, .inl f)), (qe, .inr (7, [.ref qnb, .int (iI nl), .int (iI fo), .int (iI x_3), .int (iI x_11), .long (lI x_15), .int (iI x_7), .int (iI lp), .int (iI pp), .int (iI st), .int (iI op), .int (iI ol)]))] H := hP
    have hD : va_D A [(qd, .inr (2, [.ref qn, .int (iI ct), .int (iI io), .int (iI fp), .ref qt])), (qt, .inr (1, [.ref qb, .int (iI L)])), (qb, .inl (cB, 20000, .inl f)), (qe, .inr (7, [.ref qnb, .int (iI nl), .int (iI fo), .int (iI x_3), .int (iI x_11), .long (lI x_15), .int (iI x_7), .int (iI lp), .int (iI pp), .int (iI st), .int (iI op), .int (iI ol)]))] := hD
    refine lv_aload_n hx hb d_D_keepNumbers_62 rfl (lv_at hl 1 rfl) ?_
    refine zjv (wr := [(qd, .inr (2, [.ref qn, .int (iI ct), .int (iI io), .int (iI fp), .ref qt])), (qt, .inr (1, [.ref qb, .int (iI L)])), (qb, .inl (cB, 20000, .inl f))]) (va_runV (As := []) (rest := []) ⟨hx, hb, hml, hown, ht⟩ (a_E_forget l D _ qe qnb nl fo x_3 x_11 x_15 x_7 lp pp st op ol ) (cwV 0 ht (zt_goodV zm_496 zm_497 zm_498 zm_68 zm_499) rfl rfl rfl (by decide +kernel) ⟨Nat.le_of_ble_eq_true rfl, Nat.le_of_ble_eq_true rfl⟩) (zpreV zBlind_t hK hP hD [3] [] rfl (by decide) rfl (fun _ _ _ => trivial) (va_recv (q := ("ZipGuard$Entry", F_E, 12)) hK hP rfl (q0 := 3) (ci := 7) rfl)) rfl rfl hl.1 rfl (lv_room (Nat.le_of_ble_eq_true rfl)) d_D_keepNumbers_63 ⟨Nat.le_of_ble_eq_true rfl, Nat.le_of_ble_eq_true rfl⟩) hK hP hD hS hA [3] [0, 1, 2] rfl rfl (by decide) (by decide) (fun u9 H locs hp18 hP hD hK hS => ?_)
    have hP : va_P D zcl [(qd, .inr (2, [.ref qn, .int (iI ct), .int (iI io), .int (iI fp), .ref qt])), (qt, .inr (1, [.ref qb, .int (iI L)])), (qb, .inl (cB, 20000, .inl f)), (qe, .inr (7, [.ref qnb, .int (iI nl), .int (iI fo), .int (iI x_3), .int (iI x_11), .long (lI x_15), .int (iI x_7), .int (iI lp), .int (iI pp), .int (iI 0), .int (iI 0), .int (iI 0)]))] H := hP
    have hD : va_D A [(qd, .inr (2, [.ref qn, .int (iI ct), .int (iI io), .int (iI fp), .ref qt])), (qt, .inr (1, [.ref qb, .int (iI L)])), (qb, .inl (cB, 20000, .inl f)), (qe, .inr (7, [.ref qnb, .int (iI nl), .int (iI fo), .int (iI x_3), .int (iI x_11), .long (lI x_15), .int (iI x_7), .int (iI lp), .int (iI pp), .int (iI 0), .int (iI 0), .int (iI 0)]))] := hD
    have hK : va_K D zcl [(cB, .byte)] s := hK
    exact zretv hx hb hr hlk hK hP hD hS (x_3, x_7, x_11, x_15) [0, 1, 2, 3] [0] rfl (by decide) rfl (by omega) (Nat.le_of_ble_eq_true rfl) (Nat.le_of_ble_eq_true rfl) d_D_keepNumbers_66)
set_option maxHeartbeats 4000000 in
set_option maxRecDepth 100000 in
theorem a_D_shut (l : Launch) (D : va_G) (sz : Nat) (qd : Nat) (qn : Nat) (ct : Int) (io : Int) (fp : Int) (qt : Nat)  : Met l y_D_shut (Cond.code y_D_shut prog_4_method_2_code 1 (Option.none : Option Jvm.ClassFile.FieldType) :: zt) { frames := 0, cells := 0, slots := 0, locals := 0 } (zPc [.ref qd] D [(qd, .inr (2, [.ref qn, .int (iI ct), .int (iI io), .int (iI fp), .ref qt]))] [] sz (fun _ => True)) (va_Qv (fun (_ : Unit) => True) (fun u9 t => zB D ((fun (_ : Unit) => [(qd, .inr (2, [.ref qn, .int (iI ct), .int (iI 0), .int (iI fp), .ref qt]))]) u9) ((fun (_ : Unit) => []) u9) (va_A [(qd, .inr (2, [.ref qn, .int (iI ct), .int (iI io), .int (iI fp), .ref qt]))] sz) t) (va_A [(qd, .inr (2, [.ref qn, .int (iI ct), .int (iI io), .int (iI fp), .ref qt]))] sz)) 0 0 (va_A [(qd, .inr (2, [.ref qn, .int (iI ct), .int (iI io), .int (iI fp), .ref qt]))] sz) :=
  zMet (Qf := fun A => va_Qv (fun (_ : Unit) => True) (fun u9 t => zB D ((fun (_ : Unit) => [(qd, .inr (2, [.ref qn, .int (iI ct), .int (iI 0), .int (iI fp), .ref qt]))]) u9) ((fun (_ : Unit) => []) u9) A t) A) (by decide) (Nat.le_of_ble_eq_true rfl) (fun p e s m below meth c A ls hx hb hr hml hown ht hlk hnm hA hK hP hD hX hl => by
    have hS : va_S A s.heap s.heap [] := va_S.rf
    have hl : lv_has ls 1 [(0, .ref qd)] := hl
    refine lv_aload_n hx hb d_D_shut_0 rfl (lv_at hl 0 rfl) ?_
    refine lv_iconst (v := iI 0) hx hb d_D_shut_1 (by decide) ?_
    refine va_put (ci := 2) (v := .int (iI 0)) (ty := .boolean) (C := "ZipGuard$Directory") (T := F_D) (N := 5) hx hb ht zi_D ty_D tk_D nm_D hown hK hP hD hS 0 rfl rfl 2 (by decide) (ht _ zm_183) (fun _ h9 => h9) rfl (by decide +kernel) (zn01 (by omega)) rfl (Nat.le_of_ble_eq_true rfl) d_D_shut_2 (fun H locs hP hD hS => ?_)
    have hP : va_P D zcl [(qd, .inr (2, [.ref qn, .int (iI ct), .int (iI 0), .int (iI fp), .ref qt]))] H := hP
    have hD : va_D A [(qd, .inr (2, [.ref qn, .int (iI ct), .int (iI 0), .int (iI fp), .ref qt]))] := hD
    exact zretv hx hb hr hlk hK hP hD hS () [0] [] rfl (by decide) rfl (trivial) (Nat.le_of_ble_eq_true rfl) (Nat.le_of_ble_eq_true rfl) d_D_shut_5)
