set_option maxRecDepth 100000 in
theorem zm_2 : Jvm.Cond.selects "ZipGuard$Directory" ({ cls := "ZipGuard$Directory", name := "findEnd", desc := "()I" } : Jvm.MethodName) ({ cls := "ZipGuard$Directory", name := "findEnd", desc := "()I" } : Jvm.MethodName) ∈ zt := zt_mp (List.mem_of_getElem? (i := 2) rfl)
set_option maxRecDepth 100000 in
theorem zm_4 : Jvm.Cond.selects "ZipGuard$Directory" ({ cls := "ZipGuard$Directory", name := "checkEnd", desc := "(I)I" } : Jvm.MethodName) ({ cls := "ZipGuard$Directory", name := "checkEnd", desc := "(I)I" } : Jvm.MethodName) ∈ zt := zt_mp (List.mem_of_getElem? (i := 4) rfl)
set_option maxRecDepth 100000 in
theorem zm_5 : Jvm.Cond.selects "ZipGuard$Directory" ({ cls := "ZipGuard$Directory", name := "readEntries", desc := "(I)I" } : Jvm.MethodName) ({ cls := "ZipGuard$Directory", name := "readEntries", desc := "(I)I" } : Jvm.MethodName) ∈ zt := zt_mp (List.mem_of_getElem? (i := 5) rfl)
set_option maxRecDepth 100000 in
theorem zm_6 : Jvm.Cond.selects "ZipGuard$Directory" ({ cls := "ZipGuard$Directory", name := "checkSpan", desc := "(II)I" } : Jvm.MethodName) ({ cls := "ZipGuard$Directory", name := "checkSpan", desc := "(II)I" } : Jvm.MethodName) ∈ zt := zt_mp (List.mem_of_getElem? (i := 6) rfl)
set_option maxRecDepth 100000 in
theorem zm_8 : Jvm.Cond.selects "ZipGuard$Directory" ({ cls := "ZipGuard$Directory", name := "checkNumbers", desc := "(I)I" } : Jvm.MethodName) ({ cls := "ZipGuard$Directory", name := "checkNumbers", desc := "(I)I" } : Jvm.MethodName) ∈ zt := zt_mp (List.mem_of_getElem? (i := 8) rfl)
set_option maxRecDepth 100000 in
theorem zm_10 : Jvm.Cond.selects "ZipGuard$Directory" ({ cls := "ZipGuard$Directory", name := "readName", desc := "(II)I" } : Jvm.MethodName) ({ cls := "ZipGuard$Directory", name := "readName", desc := "(II)I" } : Jvm.MethodName) ∈ zt := zt_mp (List.mem_of_getElem? (i := 10) rfl)
set_option maxRecDepth 100000 in
theorem zm_11 : Jvm.Cond.selects "ZipGuard$Directory" ({ cls := "ZipGuard$Directory", name := "isName", desc := "(II)Z" } : Jvm.MethodName) ({ cls := "ZipGuard$Directory", name := "isName", desc := "(II)Z" } : Jvm.MethodName) ∈ zt := zt_mp (List.mem_of_getElem? (i := 11) rfl)
set_option maxRecDepth 100000 in
theorem zm_14 : Jvm.Cond.selects "ZipGuard$Directory" ({ cls := "ZipGuard$Directory", name := "readLocal", desc := "(II)I" } : Jvm.MethodName) ({ cls := "ZipGuard$Directory", name := "readLocal", desc := "(II)I" } : Jvm.MethodName) ∈ zt := zt_mp (List.mem_of_getElem? (i := 14) rfl)
set_option maxRecDepth 100000 in
theorem zm_15 : Jvm.Cond.selects "ZipGuard$Directory" ({ cls := "ZipGuard$Directory", name := "isLocalOf", desc := "(II)Z" } : Jvm.MethodName) ({ cls := "ZipGuard$Directory", name := "isLocalOf", desc := "(II)Z" } : Jvm.MethodName) ∈ zt := zt_mp (List.mem_of_getElem? (i := 15) rfl)
set_option maxRecDepth 100000 in
theorem zm_16 : Jvm.Cond.selects "ZipGuard$Directory" ({ cls := "ZipGuard$Directory", name := "keepNumbers", desc := "(LZipGuard$Entry;I)V" } : Jvm.MethodName) ({ cls := "ZipGuard$Directory", name := "keepNumbers", desc := "(LZipGuard$Entry;I)V" } : Jvm.MethodName) ∈ zt := zt_mp (List.mem_of_getElem? (i := 16) rfl)
set_option maxRecDepth 100000 in
theorem zm_141 : Jvm.Cond.fieldLink "ZipGuard$Directory" (113 : Nat) "ZipGuard$Entry" "localPlace" "I" ∈ zt := zt_m1 (List.mem_of_getElem? (i := 77) rfl)
set_option maxRecDepth 100000 in
theorem zm_144 : Jvm.Cond.fieldLink "ZipGuard$Directory" (116 : Nat) "ZipGuard$Entry" "packedPlace" "I" ∈ zt := zt_m1 (List.mem_of_getElem? (i := 80) rfl)
set_option maxRecDepth 100000 in
theorem zm_179 : Jvm.Cond.fieldLink "ZipGuard$Directory" (17 : Nat) "ZipGuard$Directory" "entries" "[LZipGuard$Entry;" ∈ zt := zt_m1 (List.mem_of_getElem? (i := 115) rfl)
set_option maxRecDepth 100000 in
theorem zm_181 : Jvm.Cond.fieldLink "ZipGuard$Directory" (22 : Nat) "ZipGuard$Directory" "count" "I" ∈ zt := zt_m1 (List.mem_of_getElem? (i := 117) rfl)
set_option maxRecDepth 100000 in
theorem zm_420 : Jvm.Cond.methodLink "ZipGuard$Directory" (33 : Nat) ({ cls := "ZipGuard$Directory", name := "findEnd", desc := "()I" } : Jvm.MethodName) ∈ zt := zt_m3 (List.mem_of_getElem? (i := 92) rfl)
set_option maxRecDepth 100000 in
theorem zm_421 : Jvm.Cond.instanceMethod ({ cls := "ZipGuard$Directory", name := "findEnd", desc := "()I" } : Jvm.MethodName) ∈ zt := zt_m3 (List.mem_of_getElem? (i := 93) rfl)
set_option maxRecDepth 100000 in
theorem zm_422 : Jvm.Cond.code ({ cls := "ZipGuard$Directory", name := "findEnd", desc := "()I" } : Jvm.MethodName) prog_4_method_5_code (2 : Nat) (Option.some Jvm.ClassFile.FieldType.int) ∈ zt := zt_m3 (List.mem_of_getElem? (i := 94) rfl)
set_option maxRecDepth 100000 in
theorem zm_438 : Jvm.Cond.methodLink "ZipGuard$Directory" (46 : Nat) ({ cls := "ZipGuard$Directory", name := "checkEnd", desc := "(I)I" } : Jvm.MethodName) ∈ zt := zt_m3 (List.mem_of_getElem? (i := 110) rfl)
set_option maxRecDepth 100000 in
theorem zm_439 : Jvm.Cond.instanceMethod ({ cls := "ZipGuard$Directory", name := "checkEnd", desc := "(I)I" } : Jvm.MethodName) ∈ zt := zt_m3 (List.mem_of_getElem? (i := 111) rfl)
set_option maxRecDepth 100000 in
theorem zm_440 : Jvm.Cond.code ({ cls := "ZipGuard$Directory", name := "checkEnd", desc := "(I)I" } : Jvm.MethodName) prog_4_method_6_code (2 : Nat) (Option.some Jvm.ClassFile.FieldType.int) ∈ zt := zt_m3 (List.mem_of_getElem? (i := 112) rfl)
set_option maxRecDepth 100000 in
theorem zm_445 : Jvm.Cond.methodLink "ZipGuard$Directory" (50 : Nat) ({ cls := "ZipGuard$Directory", name := "readEntries", desc := "(I)I" } : Jvm.MethodName) ∈ zt := zt_m3 (List.mem_of_getElem? (i := 117) rfl)
set_option maxRecDepth 100000 in
theorem zm_446 : Jvm.Cond.instanceMethod ({ cls := "ZipGuard$Directory", name := "readEntries", desc := "(I)I" } : Jvm.MethodName) ∈ zt := zt_m3 (List.mem_of_getElem? (i := 118) rfl)
set_option maxRecDepth 100000 in
theorem zm_447 : Jvm.Cond.code ({ cls := "ZipGuard$Directory", name := "readEntries", desc := "(I)I" } : Jvm.MethodName) prog_4_method_7_code (6 : Nat) (Option.some Jvm.ClassFile.FieldType.int) ∈ zt := zt_m3 (List.mem_of_getElem? (i := 119) rfl)
set_option maxRecDepth 100000 in
theorem zm_448 : Jvm.Cond.methodLink "ZipGuard$Directory" (64 : Nat) ({ cls := "ZipGuard$Directory", name := "checkSpan", desc := "(II)I" } : Jvm.MethodName) ∈ zt := zt_m3 (List.mem_of_getElem? (i := 120) rfl)
set_option maxRecDepth 100000 in
theorem zm_449 : Jvm.Cond.instanceMethod ({ cls := "ZipGuard$Directory", name := "checkSpan", desc := "(II)I" } : Jvm.MethodName) ∈ zt := zt_m3 (List.mem_of_getElem? (i := 121) rfl)
set_option maxRecDepth 100000 in
theorem zm_450 : Jvm.Cond.code ({ cls := "ZipGuard$Directory", name := "checkSpan", desc := "(II)I" } : Jvm.MethodName) prog_4_method_9_code (4 : Nat) (Option.some Jvm.ClassFile.FieldType.int) ∈ zt := zt_m3 (List.mem_of_getElem? (i := 122) rfl)
set_option maxRecDepth 100000 in
theorem zm_454 : Jvm.Cond.methodLink "ZipGuard$Directory" (67 : Nat) ({ cls := "ZipGuard$Directory", name := "checkNumbers", desc := "(I)I" } : Jvm.MethodName) ∈ zt := zt_m3 (List.mem_of_getElem? (i := 126) rfl)
set_option maxRecDepth 100000 in
theorem zm_455 : Jvm.Cond.instanceMethod ({ cls := "ZipGuard$Directory", name := "checkNumbers", desc := "(I)I" } : Jvm.MethodName) ∈ zt := zt_m3 (List.mem_of_getElem? (i := 127) rfl)
set_option maxRecDepth 100000 in
theorem zm_456 : Jvm.Cond.code ({ cls := "ZipGuard$Directory", name := "checkNumbers", desc := "(I)I" } : Jvm.MethodName) prog_4_method_10_code (3 : Nat) (Option.some Jvm.ClassFile.FieldType.int) ∈ zt := zt_m3 (List.mem_of_getElem? (i := 128) rfl)
set_option maxRecDepth 100000 in
theorem zm_461 : Jvm.Cond.methodLink "ZipGuard$Directory" (70 : Nat) ({ cls := "ZipGuard$Directory", name := "readName", desc := "(II)I" } : Jvm.MethodName) ∈ zt := zt_m3 (List.mem_of_getElem? (i := 133) rfl)
set_option maxRecDepth 100000 in
theorem zm_462 : Jvm.Cond.instanceMethod ({ cls := "ZipGuard$Directory", name := "readName", desc := "(II)I" } : Jvm.MethodName) ∈ zt := zt_m3 (List.mem_of_getElem? (i := 134) rfl)
set_option maxRecDepth 100000 in
theorem zm_463 : Jvm.Cond.code ({ cls := "ZipGuard$Directory", name := "readName", desc := "(II)I" } : Jvm.MethodName) prog_4_method_12_code (4 : Nat) (Option.some Jvm.ClassFile.FieldType.int) ∈ zt := zt_m3 (List.mem_of_getElem? (i := 135) rfl)
set_option maxRecDepth 100000 in
theorem zm_464 : Jvm.Cond.methodLink "ZipGuard$Directory" (86 : Nat) ({ cls := "ZipGuard$Directory", name := "isName", desc := "(II)Z" } : Jvm.MethodName) ∈ zt := zt_m3 (List.mem_of_getElem? (i := 136) rfl)
set_option maxRecDepth 100000 in
theorem zm_465 : Jvm.Cond.instanceMethod ({ cls := "ZipGuard$Directory", name := "isName", desc := "(II)Z" } : Jvm.MethodName) ∈ zt := zt_m3 (List.mem_of_getElem? (i := 137) rfl)
set_option maxRecDepth 100000 in
theorem zm_466 : Jvm.Cond.code ({ cls := "ZipGuard$Directory", name := "isName", desc := "(II)Z" } : Jvm.MethodName) prog_4_method_13_code (9 : Nat) (Option.some Jvm.ClassFile.FieldType.boolean) ∈ zt := zt_m3 (List.mem_of_getElem? (i := 138) rfl)
set_option maxRecDepth 100000 in
theorem zm_473 : Jvm.Cond.methodLink "ZipGuard$Directory" (89 : Nat) ({ cls := "ZipGuard$Entry", name := "keepName", desc := "(LZipGuard$Tape;II)V" } : Jvm.MethodName) ∈ zt := zt_m3 (List.mem_of_getElem? (i := 145) rfl)
set_option maxRecDepth 100000 in
theorem zm_474 : Jvm.Cond.instanceMethod ({ cls := "ZipGuard$Entry", name := "keepName", desc := "(LZipGuard$Tape;II)V" } : Jvm.MethodName) ∈ zt := zt_m3 (List.mem_of_getElem? (i := 146) rfl)
set_option maxRecDepth 100000 in
theorem zm_475 : Jvm.Cond.selects "ZipGuard$Entry" ({ cls := "ZipGuard$Entry", name := "keepName", desc := "(LZipGuard$Tape;II)V" } : Jvm.MethodName) ({ cls := "ZipGuard$Entry", name := "keepName", desc := "(LZipGuard$Tape;II)V" } : Jvm.MethodName) ∈ zt := zt_m3 (List.mem_of_getElem? (i := 147) rfl)
set_option maxRecDepth 100000 in
theorem zm_476 : Jvm.Cond.code ({ cls := "ZipGuard$Entry", name := "keepName", desc := "(LZipGuard$Tape;II)V" } : Jvm.MethodName) prog_5_method_3_code (5 : Nat) (Option.none : Option Jvm.ClassFile.FieldType) ∈ zt := zt_m3 (List.mem_of_getElem? (i := 148) rfl)
set_option maxRecDepth 100000 in
theorem zm_478 : Jvm.Cond.methodLink "ZipGuard$Directory" (93 : Nat) ({ cls := "ZipGuard$Entry", name := "clashesWith", desc := "(LZipGuard$Entry;)Z" } : Jvm.MethodName) ∈ zt := zt_m3 (List.mem_of_getElem? (i := 150) rfl)
set_option maxRecDepth 100000 in
theorem zm_479 : Jvm.Cond.instanceMethod ({ cls := "ZipGuard$Entry", name := "clashesWith", desc := "(LZipGuard$Entry;)Z" } : Jvm.MethodName) ∈ zt := zt_m3 (List.mem_of_getElem? (i := 151) rfl)
set_option maxRecDepth 100000 in
theorem zm_480 : Jvm.Cond.selects "ZipGuard$Entry" ({ cls := "ZipGuard$Entry", name := "clashesWith", desc := "(LZipGuard$Entry;)Z" } : Jvm.MethodName) ({ cls := "ZipGuard$Entry", name := "clashesWith", desc := "(LZipGuard$Entry;)Z" } : Jvm.MethodName) ∈ zt := zt_m3 (List.mem_of_getElem? (i := 152) rfl)
set_option maxRecDepth 100000 in
theorem zm_481 : Jvm.Cond.code ({ cls := "ZipGuard$Entry", name := "clashesWith", desc := "(LZipGuard$Entry;)Z" } : Jvm.MethodName) prog_5_method_4_code (6 : Nat) (Option.some Jvm.ClassFile.FieldType.boolean) ∈ zt := zt_m3 (List.mem_of_getElem? (i := 153) rfl)
set_option maxRecDepth 100000 in
theorem zm_482 : Jvm.Cond.methodLink "ZipGuard$Directory" (73 : Nat) ({ cls := "ZipGuard$Directory", name := "readLocal", desc := "(II)I" } : Jvm.MethodName) ∈ zt := zt_m3 (List.mem_of_getElem? (i := 154) rfl)
set_option maxRecDepth 100000 in
theorem zm_483 : Jvm.Cond.instanceMethod ({ cls := "ZipGuard$Directory", name := "readLocal", desc := "(II)I" } : Jvm.MethodName) ∈ zt := zt_m3 (List.mem_of_getElem? (i := 155) rfl)
set_option maxRecDepth 100000 in
theorem zm_484 : Jvm.Cond.code ({ cls := "ZipGuard$Directory", name := "readLocal", desc := "(II)I" } : Jvm.MethodName) prog_4_method_16_code (9 : Nat) (Option.some Jvm.ClassFile.FieldType.int) ∈ zt := zt_m3 (List.mem_of_getElem? (i := 156) rfl)
set_option maxRecDepth 100000 in
theorem zm_485 : Jvm.Cond.constantLong "ZipGuard$Directory" (104 : Nat) (30 : Int64) ∈ zt := zt_m3 (List.mem_of_getElem? (i := 157) rfl)
set_option maxRecDepth 100000 in
theorem zm_486 : Jvm.Cond.methodLink "ZipGuard$Directory" (106 : Nat) ({ cls := "ZipGuard$Directory", name := "isLocalOf", desc := "(II)Z" } : Jvm.MethodName) ∈ zt := zt_m3 (List.mem_of_getElem? (i := 158) rfl)
set_option maxRecDepth 100000 in
theorem zm_487 : Jvm.Cond.instanceMethod ({ cls := "ZipGuard$Directory", name := "isLocalOf", desc := "(II)Z" } : Jvm.MethodName) ∈ zt := zt_m3 (List.mem_of_getElem? (i := 159) rfl)
set_option maxRecDepth 100000 in
theorem zm_488 : Jvm.Cond.code ({ cls := "ZipGuard$Directory", name := "isLocalOf", desc := "(II)Z" } : Jvm.MethodName) prog_4_method_17_code (3 : Nat) (Option.some Jvm.ClassFile.FieldType.boolean) ∈ zt := zt_m3 (List.mem_of_getElem? (i := 160) rfl)
set_option maxRecDepth 100000 in
theorem zm_493 : Jvm.Cond.methodLink "ZipGuard$Directory" (109 : Nat) ({ cls := "ZipGuard$Directory", name := "keepNumbers", desc := "(LZipGuard$Entry;I)V" } : Jvm.MethodName) ∈ zt := zt_m3 (List.mem_of_getElem? (i := 165) rfl)
set_option maxRecDepth 100000 in
theorem zm_494 : Jvm.Cond.instanceMethod ({ cls := "ZipGuard$Directory", name := "keepNumbers", desc := "(LZipGuard$Entry;I)V" } : Jvm.MethodName) ∈ zt := zt_m3 (List.mem_of_getElem? (i := 166) rfl)
set_option maxRecDepth 100000 in
theorem zm_495 : Jvm.Cond.code ({ cls := "ZipGuard$Directory", name := "keepNumbers", desc := "(LZipGuard$Entry;I)V" } : Jvm.MethodName) prog_4_method_18_code (3 : Nat) (Option.none : Option Jvm.ClassFile.FieldType) ∈ zt := zt_m3 (List.mem_of_getElem? (i := 167) rfl)
set_option maxRecDepth 100000 in
theorem zm_500 : Jvm.Cond.methodLink "ZipGuard$Directory" (119 : Nat) ({ cls := "ZipGuard$Entry", name := "liesOver", desc := "(LZipGuard$Entry;)Z" } : Jvm.MethodName) ∈ zt := zt_m3 (List.mem_of_getElem? (i := 172) rfl)
set_option maxRecDepth 100000 in
theorem zm_501 : Jvm.Cond.instanceMethod ({ cls := "ZipGuard$Entry", name := "liesOver", desc := "(LZipGuard$Entry;)Z" } : Jvm.MethodName) ∈ zt := zt_m3 (List.mem_of_getElem? (i := 173) rfl)
set_option maxRecDepth 100000 in
theorem zm_502 : Jvm.Cond.selects "ZipGuard$Entry" ({ cls := "ZipGuard$Entry", name := "liesOver", desc := "(LZipGuard$Entry;)Z" } : Jvm.MethodName) ({ cls := "ZipGuard$Entry", name := "liesOver", desc := "(LZipGuard$Entry;)Z" } : Jvm.MethodName) ∈ zt := zt_m3 (List.mem_of_getElem? (i := 174) rfl)
set_option maxRecDepth 100000 in
theorem zm_503 : Jvm.Cond.code ({ cls := "ZipGuard$Entry", name := "liesOver", desc := "(LZipGuard$Entry;)Z" } : Jvm.MethodName) prog_5_method_6_code (2 : Nat) (Option.some Jvm.ClassFile.FieldType.boolean) ∈ zt := zt_m3 (List.mem_of_getElem? (i := 175) rfl)
theorem d_D_read_0 : decode prog_4_method_3_code 0 = .ok (.aload_n 0, 1) := by decide +kernel
theorem d_D_read_1 : decode prog_4_method_3_code 1 = .ok (.iconst 0, 1) := by decide +kernel
theorem d_D_read_2 : decode prog_4_method_3_code 2 = .ok (.putfield 26, 3) := by decide +kernel
theorem d_D_read_5 : decode prog_4_method_3_code 5 = .ok (.aload_n 0, 1) := by decide +kernel
theorem d_D_read_6 : decode prog_4_method_3_code 6 = .ok (.iconst (-1), 1) := by decide +kernel
theorem d_D_read_7 : decode prog_4_method_3_code 7 = .ok (.putfield 30, 3) := by decide +kernel
theorem d_D_read_10 : decode prog_4_method_3_code 10 = .ok (.aload_n 0, 1) := by decide +kernel
theorem d_D_read_11 : decode prog_4_method_3_code 11 = .ok (.invokevirtual 33, 3) := by decide +kernel
theorem d_D_read_14 : decode prog_4_method_3_code 14 = .ok (.istore_n 1, 1) := by decide +kernel
theorem d_D_read_15 : decode prog_4_method_3_code 15 = .ok (.iload_n 1, 1) := by decide +kernel
theorem d_D_read_16 : decode prog_4_method_3_code 16 = .ok (.ifCond .ge 18, 3) := by decide +kernel
theorem d_D_read_19 : decode prog_4_method_3_code 19 = .ok (.aload_n 0, 1) := by decide +kernel
theorem d_D_read_20 : decode prog_4_method_3_code 20 = .ok (.iconst (-1), 1) := by decide +kernel
theorem d_D_read_21 : decode prog_4_method_3_code 21 = .ok (.aload_n 0, 1) := by decide +kernel
theorem d_D_read_22 : decode prog_4_method_3_code 22 = .ok (.getfield 9, 3) := by decide +kernel
theorem d_D_read_25 : decode prog_4_method_3_code 25 = .ok (.getfield 37, 3) := by decide +kernel
theorem d_D_read_28 : decode prog_4_method_3_code 28 = .ok (.invokevirtual 42, 3) := by decide +kernel
theorem d_D_read_31 : decode prog_4_method_3_code 31 = .ok (.goto 8, 3) := by decide +kernel
theorem d_D_read_34 : decode prog_4_method_3_code 34 = .ok (.aload_n 0, 1) := by decide +kernel
theorem d_D_read_35 : decode prog_4_method_3_code 35 = .ok (.iload_n 1, 1) := by decide +kernel
theorem d_D_read_36 : decode prog_4_method_3_code 36 = .ok (.invokevirtual 46, 3) := by decide +kernel
theorem d_D_read_39 : decode prog_4_method_3_code 39 = .ok (.istore_n 2, 1) := by decide +kernel
theorem d_D_read_40 : decode prog_4_method_3_code 40 = .ok (.iload_n 2, 1) := by decide +kernel
theorem d_D_read_41 : decode prog_4_method_3_code 41 = .ok (.ifCond .ge 5, 3) := by decide +kernel
theorem d_D_read_44 : decode prog_4_method_3_code 44 = .ok (.iload_n 2, 1) := by decide +kernel
theorem d_D_read_45 : decode prog_4_method_3_code 45 = .ok (.ireturn, 1) := by decide +kernel
theorem d_D_read_46 : decode prog_4_method_3_code 46 = .ok (.aload_n 0, 1) := by decide +kernel
theorem d_D_read_47 : decode prog_4_method_3_code 47 = .ok (.iload_n 1, 1) := by decide +kernel
theorem d_D_read_48 : decode prog_4_method_3_code 48 = .ok (.invokevirtual 50, 3) := by decide +kernel
theorem d_D_read_51 : decode prog_4_method_3_code 51 = .ok (.istore_n 2, 1) := by decide +kernel
theorem d_D_read_52 : decode prog_4_method_3_code 52 = .ok (.iload_n 2, 1) := by decide +kernel
theorem d_D_read_53 : decode prog_4_method_3_code 53 = .ok (.ifCond .ge 5, 3) := by decide +kernel
theorem d_D_read_56 : decode prog_4_method_3_code 56 = .ok (.iload_n 2, 1) := by decide +kernel
theorem d_D_read_57 : decode prog_4_method_3_code 57 = .ok (.ireturn, 1) := by decide +kernel
theorem d_D_read_58 : decode prog_4_method_3_code 58 = .ok (.aload_n 0, 1) := by decide +kernel
theorem d_D_read_59 : decode prog_4_method_3_code 59 = .ok (.iconst 1, 1) := by decide +kernel
theorem d_D_read_60 : decode prog_4_method_3_code 60 = .ok (.putfield 26, 3) := by decide +kernel
theorem d_D_read_63 : decode prog_4_method_3_code 63 = .ok (.aload_n 0, 1) := by decide +kernel
theorem d_D_read_64 : decode prog_4_method_3_code 64 = .ok (.getfield 22, 3) := by decide +kernel
theorem d_D_read_67 : decode prog_4_method_3_code 67 = .ok (.ireturn, 1) := by decide +kernel
theorem d_D_readEntries_0 : decode prog_4_method_7_code 0 = .ok (.aload_n 0, 1) := by decide +kernel
theorem d_D_readEntries_1 : decode prog_4_method_7_code 1 = .ok (.getfield 9, 3) := by decide +kernel
theorem d_D_readEntries_4 : decode prog_4_method_7_code 4 = .ok (.iload_n 1, 1) := by decide +kernel
theorem d_D_readEntries_5 : decode prog_4_method_7_code 5 = .ok (.bipush 16, 2) := by decide +kernel
theorem d_D_readEntries_7 : decode prog_4_method_7_code 7 = .ok (.iadd, 1) := by decide +kernel
theorem d_D_readEntries_8 : decode prog_4_method_7_code 8 = .ok (.invokevirtual 60, 3) := by decide +kernel
theorem d_D_readEntries_11 : decode prog_4_method_7_code 11 = .ok (.l2i, 1) := by decide +kernel
theorem d_D_readEntries_12 : decode prog_4_method_7_code 12 = .ok (.istore_n 2, 1) := by decide +kernel
theorem d_D_readEntries_13 : decode prog_4_method_7_code 13 = .ok (.aload_n 0, 1) := by decide +kernel
theorem d_D_readEntries_14 : decode prog_4_method_7_code 14 = .ok (.getfield 9, 3) := by decide +kernel
theorem d_D_readEntries_17 : decode prog_4_method_7_code 17 = .ok (.iload_n 1, 1) := by decide +kernel
theorem d_D_readEntries_18 : decode prog_4_method_7_code 18 = .ok (.bipush 10, 2) := by decide +kernel
theorem d_D_readEntries_20 : decode prog_4_method_7_code 20 = .ok (.iadd, 1) := by decide +kernel
theorem d_D_readEntries_21 : decode prog_4_method_7_code 21 = .ok (.invokevirtual 57, 3) := by decide +kernel
theorem d_D_readEntries_24 : decode prog_4_method_7_code 24 = .ok (.istore_n 3, 1) := by decide +kernel
theorem d_D_readEntries_25 : decode prog_4_method_7_code 25 = .ok (.iload_n 2, 1) := by decide +kernel
theorem d_D_readEntries_26 : decode prog_4_method_7_code 26 = .ok (.istore 4, 2) := by decide +kernel
theorem d_D_readEntries_28 : decode prog_4_method_7_code 28 = .ok (.aload_n 0, 1) := by decide +kernel
theorem d_D_readEntries_29 : decode prog_4_method_7_code 29 = .ok (.iconst 0, 1) := by decide +kernel
theorem d_D_readEntries_30 : decode prog_4_method_7_code 30 = .ok (.putfield 22, 3) := by decide +kernel
theorem d_D_readEntries_33 : decode prog_4_method_7_code 33 = .ok (.aload_n 0, 1) := by decide +kernel
theorem d_D_readEntries_34 : decode prog_4_method_7_code 34 = .ok (.getfield 22, 3) := by decide +kernel
theorem d_D_readEntries_37 : decode prog_4_method_7_code 37 = .ok (.iload_n 3, 1) := by decide +kernel
theorem d_D_readEntries_38 : decode prog_4_method_7_code 38 = .ok (.if_icmp .ge 105, 3) := by decide +kernel
theorem d_D_readEntries_41 : decode prog_4_method_7_code 41 = .ok (.aload_n 0, 1) := by decide +kernel
theorem d_D_readEntries_42 : decode prog_4_method_7_code 42 = .ok (.getfield 22, 3) := by decide +kernel
theorem d_D_readEntries_45 : decode prog_4_method_7_code 45 = .ok (.bipush 64, 2) := by decide +kernel
theorem d_D_readEntries_47 : decode prog_4_method_7_code 47 = .ok (.if_icmp .ge 96, 3) := by decide +kernel
theorem d_D_readEntries_50 : decode prog_4_method_7_code 50 = .ok (.aload_n 0, 1) := by decide +kernel
theorem d_D_readEntries_51 : decode prog_4_method_7_code 51 = .ok (.iload 4, 2) := by decide +kernel
theorem d_D_readEntries_53 : decode prog_4_method_7_code 53 = .ok (.iload_n 1, 1) := by decide +kernel
theorem d_D_readEntries_54 : decode prog_4_method_7_code 54 = .ok (.invokevirtual 64, 3) := by decide +kernel
theorem d_D_readEntries_57 : decode prog_4_method_7_code 57 = .ok (.istore 5, 2) := by decide +kernel
theorem d_D_readEntries_59 : decode prog_4_method_7_code 59 = .ok (.iload 5, 2) := by decide +kernel
theorem d_D_readEntries_61 : decode prog_4_method_7_code 61 = .ok (.ifCond .ne 11, 3) := by decide +kernel
theorem d_D_readEntries_64 : decode prog_4_method_7_code 64 = .ok (.aload_n 0, 1) := by decide +kernel
theorem d_D_readEntries_65 : decode prog_4_method_7_code 65 = .ok (.iload 4, 2) := by decide +kernel
theorem d_D_readEntries_67 : decode prog_4_method_7_code 67 = .ok (.invokevirtual 67, 3) := by decide +kernel
theorem d_D_readEntries_70 : decode prog_4_method_7_code 70 = .ok (.istore 5, 2) := by decide +kernel
theorem d_D_readEntries_72 : decode prog_4_method_7_code 72 = .ok (.iload 5, 2) := by decide +kernel
theorem d_D_readEntries_74 : decode prog_4_method_7_code 74 = .ok (.ifCond .ne 26, 3) := by decide +kernel
theorem d_D_readEntries_77 : decode prog_4_method_7_code 77 = .ok (.aload_n 0, 1) := by decide +kernel
theorem d_D_readEntries_78 : decode prog_4_method_7_code 78 = .ok (.iload 4, 2) := by decide +kernel
theorem d_D_readEntries_80 : decode prog_4_method_7_code 80 = .ok (.bipush 46, 2) := by decide +kernel
theorem d_D_readEntries_82 : decode prog_4_method_7_code 82 = .ok (.iadd, 1) := by decide +kernel
theorem d_D_readEntries_83 : decode prog_4_method_7_code 83 = .ok (.aload_n 0, 1) := by decide +kernel
theorem d_D_readEntries_84 : decode prog_4_method_7_code 84 = .ok (.getfield 9, 3) := by decide +kernel
theorem d_D_readEntries_87 : decode prog_4_method_7_code 87 = .ok (.iload 4, 2) := by decide +kernel
theorem d_D_readEntries_89 : decode prog_4_method_7_code 89 = .ok (.bipush 28, 2) := by decide +kernel
theorem d_D_readEntries_91 : decode prog_4_method_7_code 91 = .ok (.iadd, 1) := by decide +kernel
theorem d_D_readEntries_92 : decode prog_4_method_7_code 92 = .ok (.invokevirtual 57, 3) := by decide +kernel
theorem d_D_readEntries_95 : decode prog_4_method_7_code 95 = .ok (.invokevirtual 70, 3) := by decide +kernel
theorem d_D_readEntries_98 : decode prog_4_method_7_code 98 = .ok (.istore 5, 2) := by decide +kernel
theorem d_D_readEntries_100 : decode prog_4_method_7_code 100 = .ok (.iload 5, 2) := by decide +kernel
theorem d_D_readEntries_102 : decode prog_4_method_7_code 102 = .ok (.ifCond .ne 12, 3) := by decide +kernel
theorem d_D_readEntries_105 : decode prog_4_method_7_code 105 = .ok (.aload_n 0, 1) := by decide +kernel
theorem d_D_readEntries_106 : decode prog_4_method_7_code 106 = .ok (.iload 4, 2) := by decide +kernel
theorem d_D_readEntries_108 : decode prog_4_method_7_code 108 = .ok (.iload_n 2, 1) := by decide +kernel
theorem d_D_readEntries_109 : decode prog_4_method_7_code 109 = .ok (.invokevirtual 73, 3) := by decide +kernel
theorem d_D_readEntries_112 : decode prog_4_method_7_code 112 = .ok (.istore 5, 2) := by decide +kernel
theorem d_D_readEntries_114 : decode prog_4_method_7_code 114 = .ok (.iload 5, 2) := by decide +kernel
theorem d_D_readEntries_116 : decode prog_4_method_7_code 116 = .ok (.ifCond .ge 6, 3) := by decide +kernel
theorem d_D_readEntries_119 : decode prog_4_method_7_code 119 = .ok (.iload 5, 2) := by decide +kernel
theorem d_D_readEntries_121 : decode prog_4_method_7_code 121 = .ok (.ireturn, 1) := by decide +kernel
theorem d_D_readEntries_122 : decode prog_4_method_7_code 122 = .ok (.aload_n 0, 1) := by decide +kernel
theorem d_D_readEntries_123 : decode prog_4_method_7_code 123 = .ok (.iload 4, 2) := by decide +kernel
theorem d_D_readEntries_125 : decode prog_4_method_7_code 125 = .ok (.invokevirtual 76, 3) := by decide +kernel
theorem d_D_readEntries_128 : decode prog_4_method_7_code 128 = .ok (.istore 4, 2) := by decide +kernel
theorem d_D_readEntries_130 : decode prog_4_method_7_code 130 = .ok (.aload_n 0, 1) := by decide +kernel
theorem d_D_readEntries_131 : decode prog_4_method_7_code 131 = .ok (.dup, 1) := by decide +kernel
theorem d_D_readEntries_132 : decode prog_4_method_7_code 132 = .ok (.getfield 22, 3) := by decide +kernel
theorem d_D_readEntries_135 : decode prog_4_method_7_code 135 = .ok (.iconst 1, 1) := by decide +kernel
theorem d_D_readEntries_136 : decode prog_4_method_7_code 136 = .ok (.iadd, 1) := by decide +kernel
theorem d_D_readEntries_137 : decode prog_4_method_7_code 137 = .ok (.putfield 22, 3) := by decide +kernel
theorem d_D_readEntries_140 : decode prog_4_method_7_code 140 = .ok (.goto (-107), 3) := by decide +kernel
theorem d_D_readEntries_143 : decode prog_4_method_7_code 143 = .ok (.iload 4, 2) := by decide +kernel
theorem d_D_readEntries_145 : decode prog_4_method_7_code 145 = .ok (.iload_n 1, 1) := by decide +kernel
theorem d_D_readEntries_146 : decode prog_4_method_7_code 146 = .ok (.if_icmp .ne 7, 3) := by decide +kernel
theorem d_D_readEntries_149 : decode prog_4_method_7_code 149 = .ok (.iconst 0, 1) := by decide +kernel
theorem d_D_readEntries_150 : decode prog_4_method_7_code 150 = .ok (.goto 11, 3) := by decide +kernel
theorem d_D_readEntries_153 : decode prog_4_method_7_code 153 = .ok (.aload_n 0, 1) := by decide +kernel
theorem d_D_readEntries_154 : decode prog_4_method_7_code 154 = .ok (.bipush (-11), 2) := by decide +kernel
theorem d_D_readEntries_156 : decode prog_4_method_7_code 156 = .ok (.iload 4, 2) := by decide +kernel
theorem d_D_readEntries_158 : decode prog_4_method_7_code 158 = .ok (.invokevirtual 42, 3) := by decide +kernel
theorem d_D_readEntries_161 : decode prog_4_method_7_code 161 = .ok (.ireturn, 1) := by decide +kernel
theorem d_D_readLocal_0 : decode prog_4_method_16_code 0 = .ok (.aload_n 0, 1) := by decide +kernel
theorem d_D_readLocal_1 : decode prog_4_method_16_code 1 = .ok (.getfield 9, 3) := by decide +kernel
theorem d_D_readLocal_4 : decode prog_4_method_16_code 4 = .ok (.iload_n 1, 1) := by decide +kernel
theorem d_D_readLocal_5 : decode prog_4_method_16_code 5 = .ok (.bipush 42, 2) := by decide +kernel
theorem d_D_readLocal_7 : decode prog_4_method_16_code 7 = .ok (.iadd, 1) := by decide +kernel
theorem d_D_readLocal_8 : decode prog_4_method_16_code 8 = .ok (.invokevirtual 60, 3) := by decide +kernel
theorem d_D_readLocal_11 : decode prog_4_method_16_code 11 = .ok (.lstore_n 3, 1) := by decide +kernel
theorem d_D_readLocal_12 : decode prog_4_method_16_code 12 = .ok (.lload_n 3, 1) := by decide +kernel
theorem d_D_readLocal_13 : decode prog_4_method_16_code 13 = .ok (.ldc2_w 104, 3) := by decide +kernel
theorem d_D_readLocal_16 : decode prog_4_method_16_code 16 = .ok (.ladd, 1) := by decide +kernel
theorem d_D_readLocal_17 : decode prog_4_method_16_code 17 = .ok (.iload_n 2, 1) := by decide +kernel
theorem d_D_readLocal_18 : decode prog_4_method_16_code 18 = .ok (.i2l, 1) := by decide +kernel
theorem d_D_readLocal_19 : decode prog_4_method_16_code 19 = .ok (.lcmp, 1) := by decide +kernel
theorem d_D_readLocal_20 : decode prog_4_method_16_code 20 = .ok (.ifCond .gt 13, 3) := by decide +kernel
theorem d_D_readLocal_23 : decode prog_4_method_16_code 23 = .ok (.aload_n 0, 1) := by decide +kernel
theorem d_D_readLocal_24 : decode prog_4_method_16_code 24 = .ok (.iload_n 1, 1) := by decide +kernel
theorem d_D_readLocal_25 : decode prog_4_method_16_code 25 = .ok (.lload_n 3, 1) := by decide +kernel
theorem d_D_readLocal_26 : decode prog_4_method_16_code 26 = .ok (.l2i, 1) := by decide +kernel
theorem d_D_readLocal_27 : decode prog_4_method_16_code 27 = .ok (.invokevirtual 106, 3) := by decide +kernel
theorem d_D_readLocal_30 : decode prog_4_method_16_code 30 = .ok (.ifCond .ne 14, 3) := by decide +kernel
theorem d_D_readLocal_33 : decode prog_4_method_16_code 33 = .ok (.aload_n 0, 1) := by decide +kernel
theorem d_D_readLocal_34 : decode prog_4_method_16_code 34 = .ok (.bipush (-9), 2) := by decide +kernel
theorem d_D_readLocal_36 : decode prog_4_method_16_code 36 = .ok (.iload_n 1, 1) := by decide +kernel
theorem d_D_readLocal_37 : decode prog_4_method_16_code 37 = .ok (.bipush 42, 2) := by decide +kernel
theorem d_D_readLocal_39 : decode prog_4_method_16_code 39 = .ok (.iadd, 1) := by decide +kernel
theorem d_D_readLocal_40 : decode prog_4_method_16_code 40 = .ok (.invokevirtual 42, 3) := by decide +kernel
theorem d_D_readLocal_43 : decode prog_4_method_16_code 43 = .ok (.ireturn, 1) := by decide +kernel
theorem d_D_readLocal_44 : decode prog_4_method_16_code 44 = .ok (.lload_n 3, 1) := by decide +kernel
theorem d_D_readLocal_45 : decode prog_4_method_16_code 45 = .ok (.l2i, 1) := by decide +kernel
theorem d_D_readLocal_46 : decode prog_4_method_16_code 46 = .ok (.istore 5, 2) := by decide +kernel
theorem d_D_readLocal_48 : decode prog_4_method_16_code 48 = .ok (.iload 5, 2) := by decide +kernel
theorem d_D_readLocal_50 : decode prog_4_method_16_code 50 = .ok (.bipush 30, 2) := by decide +kernel
theorem d_D_readLocal_52 : decode prog_4_method_16_code 52 = .ok (.iadd, 1) := by decide +kernel
theorem d_D_readLocal_53 : decode prog_4_method_16_code 53 = .ok (.aload_n 0, 1) := by decide +kernel
theorem d_D_readLocal_54 : decode prog_4_method_16_code 54 = .ok (.getfield 9, 3) := by decide +kernel
theorem d_D_readLocal_57 : decode prog_4_method_16_code 57 = .ok (.iload_n 1, 1) := by decide +kernel
theorem d_D_readLocal_58 : decode prog_4_method_16_code 58 = .ok (.bipush 28, 2) := by decide +kernel
theorem d_D_readLocal_60 : decode prog_4_method_16_code 60 = .ok (.iadd, 1) := by decide +kernel
theorem d_D_readLocal_61 : decode prog_4_method_16_code 61 = .ok (.invokevirtual 57, 3) := by decide +kernel
theorem d_D_readLocal_64 : decode prog_4_method_16_code 64 = .ok (.iadd, 1) := by decide +kernel
theorem d_D_readLocal_65 : decode prog_4_method_16_code 65 = .ok (.aload_n 0, 1) := by decide +kernel
theorem d_D_readLocal_66 : decode prog_4_method_16_code 66 = .ok (.getfield 9, 3) := by decide +kernel
theorem d_D_readLocal_69 : decode prog_4_method_16_code 69 = .ok (.iload 5, 2) := by decide +kernel
theorem d_D_readLocal_71 : decode prog_4_method_16_code 71 = .ok (.bipush 28, 2) := by decide +kernel
theorem d_D_readLocal_73 : decode prog_4_method_16_code 73 = .ok (.iadd, 1) := by decide +kernel
theorem d_D_readLocal_74 : decode prog_4_method_16_code 74 = .ok (.invokevirtual 57, 3) := by decide +kernel
theorem d_D_readLocal_77 : decode prog_4_method_16_code 77 = .ok (.iadd, 1) := by decide +kernel
theorem d_D_readLocal_78 : decode prog_4_method_16_code 78 = .ok (.istore 6, 2) := by decide +kernel
theorem d_D_readLocal_80 : decode prog_4_method_16_code 80 = .ok (.iload 6, 2) := by decide +kernel
theorem d_D_readLocal_82 : decode prog_4_method_16_code 82 = .ok (.i2l, 1) := by decide +kernel
theorem d_D_readLocal_83 : decode prog_4_method_16_code 83 = .ok (.aload_n 0, 1) := by decide +kernel
theorem d_D_readLocal_84 : decode prog_4_method_16_code 84 = .ok (.getfield 9, 3) := by decide +kernel
theorem d_D_readLocal_87 : decode prog_4_method_16_code 87 = .ok (.iload_n 1, 1) := by decide +kernel
theorem d_D_readLocal_88 : decode prog_4_method_16_code 88 = .ok (.bipush 20, 2) := by decide +kernel
theorem d_D_readLocal_90 : decode prog_4_method_16_code 90 = .ok (.iadd, 1) := by decide +kernel
theorem d_D_readLocal_91 : decode prog_4_method_16_code 91 = .ok (.invokevirtual 60, 3) := by decide +kernel
theorem d_D_readLocal_94 : decode prog_4_method_16_code 94 = .ok (.ladd, 1) := by decide +kernel
theorem d_D_readLocal_95 : decode prog_4_method_16_code 95 = .ok (.iload_n 2, 1) := by decide +kernel
theorem d_D_readLocal_96 : decode prog_4_method_16_code 96 = .ok (.i2l, 1) := by decide +kernel
theorem d_D_readLocal_97 : decode prog_4_method_16_code 97 = .ok (.lcmp, 1) := by decide +kernel
theorem d_D_readLocal_98 : decode prog_4_method_16_code 98 = .ok (.ifCond .le 14, 3) := by decide +kernel
theorem d_D_readLocal_101 : decode prog_4_method_16_code 101 = .ok (.aload_n 0, 1) := by decide +kernel
theorem d_D_readLocal_102 : decode prog_4_method_16_code 102 = .ok (.bipush (-9), 2) := by decide +kernel
theorem d_D_readLocal_104 : decode prog_4_method_16_code 104 = .ok (.iload_n 1, 1) := by decide +kernel
theorem d_D_readLocal_105 : decode prog_4_method_16_code 105 = .ok (.bipush 42, 2) := by decide +kernel
theorem d_D_readLocal_107 : decode prog_4_method_16_code 107 = .ok (.iadd, 1) := by decide +kernel
theorem d_D_readLocal_108 : decode prog_4_method_16_code 108 = .ok (.invokevirtual 42, 3) := by decide +kernel
theorem d_D_readLocal_111 : decode prog_4_method_16_code 111 = .ok (.ireturn, 1) := by decide +kernel
theorem d_D_readLocal_112 : decode prog_4_method_16_code 112 = .ok (.aload_n 0, 1) := by decide +kernel
theorem d_D_readLocal_113 : decode prog_4_method_16_code 113 = .ok (.getfield 17, 3) := by decide +kernel
theorem d_D_readLocal_116 : decode prog_4_method_16_code 116 = .ok (.aload_n 0, 1) := by decide +kernel
theorem d_D_readLocal_117 : decode prog_4_method_16_code 117 = .ok (.getfield 22, 3) := by decide +kernel
theorem d_D_readLocal_120 : decode prog_4_method_16_code 120 = .ok (.aaload, 1) := by decide +kernel
theorem d_D_readLocal_121 : decode prog_4_method_16_code 121 = .ok (.astore 7, 2) := by decide +kernel
theorem d_D_readLocal_123 : decode prog_4_method_16_code 123 = .ok (.aload_n 0, 1) := by decide +kernel
theorem d_D_readLocal_124 : decode prog_4_method_16_code 124 = .ok (.aload 7, 2) := by decide +kernel
theorem d_D_readLocal_126 : decode prog_4_method_16_code 126 = .ok (.iload_n 1, 1) := by decide +kernel
theorem d_D_readLocal_127 : decode prog_4_method_16_code 127 = .ok (.invokevirtual 109, 3) := by decide +kernel
theorem d_D_readLocal_130 : decode prog_4_method_16_code 130 = .ok (.aload 7, 2) := by decide +kernel
theorem d_D_readLocal_132 : decode prog_4_method_16_code 132 = .ok (.iload 5, 2) := by decide +kernel
theorem d_D_readLocal_134 : decode prog_4_method_16_code 134 = .ok (.putfield 113, 3) := by decide +kernel
theorem d_D_readLocal_137 : decode prog_4_method_16_code 137 = .ok (.aload 7, 2) := by decide +kernel
theorem d_D_readLocal_139 : decode prog_4_method_16_code 139 = .ok (.iload 6, 2) := by decide +kernel
theorem d_D_readLocal_141 : decode prog_4_method_16_code 141 = .ok (.putfield 116, 3) := by decide +kernel
theorem d_D_readLocal_144 : decode prog_4_method_16_code 144 = .ok (.iconst 0, 1) := by decide +kernel
theorem d_D_readLocal_145 : decode prog_4_method_16_code 145 = .ok (.istore 8, 2) := by decide +kernel
theorem d_D_readLocal_147 : decode prog_4_method_16_code 147 = .ok (.iload 8, 2) := by decide +kernel
theorem d_D_readLocal_149 : decode prog_4_method_16_code 149 = .ok (.aload_n 0, 1) := by decide +kernel
theorem d_D_readLocal_150 : decode prog_4_method_16_code 150 = .ok (.getfield 22, 3) := by decide +kernel
theorem d_D_readLocal_153 : decode prog_4_method_16_code 153 = .ok (.if_icmp .ge 35, 3) := by decide +kernel
theorem d_D_readLocal_156 : decode prog_4_method_16_code 156 = .ok (.aload 7, 2) := by decide +kernel
theorem d_D_readLocal_158 : decode prog_4_method_16_code 158 = .ok (.aload_n 0, 1) := by decide +kernel
theorem d_D_readLocal_159 : decode prog_4_method_16_code 159 = .ok (.getfield 17, 3) := by decide +kernel
theorem d_D_readLocal_162 : decode prog_4_method_16_code 162 = .ok (.iload 8, 2) := by decide +kernel
theorem d_D_readLocal_164 : decode prog_4_method_16_code 164 = .ok (.aaload, 1) := by decide +kernel
theorem d_D_readLocal_165 : decode prog_4_method_16_code 165 = .ok (.invokevirtual 119, 3) := by decide +kernel
theorem d_D_readLocal_168 : decode prog_4_method_16_code 168 = .ok (.ifCond .eq 14, 3) := by decide +kernel
theorem d_D_readLocal_171 : decode prog_4_method_16_code 171 = .ok (.aload_n 0, 1) := by decide +kernel
theorem d_D_readLocal_172 : decode prog_4_method_16_code 172 = .ok (.bipush (-10), 2) := by decide +kernel
theorem d_D_readLocal_174 : decode prog_4_method_16_code 174 = .ok (.iload_n 1, 1) := by decide +kernel
theorem d_D_readLocal_175 : decode prog_4_method_16_code 175 = .ok (.bipush 42, 2) := by decide +kernel
theorem d_D_readLocal_177 : decode prog_4_method_16_code 177 = .ok (.iadd, 1) := by decide +kernel
theorem d_D_readLocal_178 : decode prog_4_method_16_code 178 = .ok (.invokevirtual 42, 3) := by decide +kernel
theorem d_D_readLocal_181 : decode prog_4_method_16_code 181 = .ok (.ireturn, 1) := by decide +kernel
theorem d_D_readLocal_182 : decode prog_4_method_16_code 182 = .ok (.iinc 8 1, 3) := by decide +kernel
theorem d_D_readLocal_185 : decode prog_4_method_16_code 185 = .ok (.goto (-38), 3) := by decide +kernel
theorem d_D_readLocal_188 : decode prog_4_method_16_code 188 = .ok (.iconst 0, 1) := by decide +kernel
theorem d_D_readLocal_189 : decode prog_4_method_16_code 189 = .ok (.ireturn, 1) := by decide +kernel
theorem d_D_readName_0 : decode prog_4_method_12_code 0 = .ok (.aload_n 0, 1) := by decide +kernel
theorem d_D_readName_1 : decode prog_4_method_12_code 1 = .ok (.iload_n 1, 1) := by decide +kernel
theorem d_D_readName_2 : decode prog_4_method_12_code 2 = .ok (.iload_n 2, 1) := by decide +kernel
theorem d_D_readName_3 : decode prog_4_method_12_code 3 = .ok (.invokevirtual 86, 3) := by decide +kernel
theorem d_D_readName_6 : decode prog_4_method_12_code 6 = .ok (.ifCond .ne 11, 3) := by decide +kernel
theorem d_D_readName_9 : decode prog_4_method_12_code 9 = .ok (.aload_n 0, 1) := by decide +kernel
theorem d_D_readName_10 : decode prog_4_method_12_code 10 = .ok (.bipush (-7), 2) := by decide +kernel
theorem d_D_readName_12 : decode prog_4_method_12_code 12 = .ok (.iload_n 1, 1) := by decide +kernel
theorem d_D_readName_13 : decode prog_4_method_12_code 13 = .ok (.invokevirtual 42, 3) := by decide +kernel
theorem d_D_readName_16 : decode prog_4_method_12_code 16 = .ok (.ireturn, 1) := by decide +kernel
theorem d_D_readName_17 : decode prog_4_method_12_code 17 = .ok (.aload_n 0, 1) := by decide +kernel
theorem d_D_readName_18 : decode prog_4_method_12_code 18 = .ok (.getfield 17, 3) := by decide +kernel
theorem d_D_readName_21 : decode prog_4_method_12_code 21 = .ok (.aload_n 0, 1) := by decide +kernel
theorem d_D_readName_22 : decode prog_4_method_12_code 22 = .ok (.getfield 22, 3) := by decide +kernel
theorem d_D_readName_25 : decode prog_4_method_12_code 25 = .ok (.aaload, 1) := by decide +kernel
theorem d_D_readName_26 : decode prog_4_method_12_code 26 = .ok (.aload_n 0, 1) := by decide +kernel
theorem d_D_readName_27 : decode prog_4_method_12_code 27 = .ok (.getfield 9, 3) := by decide +kernel
theorem d_D_readName_30 : decode prog_4_method_12_code 30 = .ok (.iload_n 1, 1) := by decide +kernel
theorem d_D_readName_31 : decode prog_4_method_12_code 31 = .ok (.iload_n 2, 1) := by decide +kernel
theorem d_D_readName_32 : decode prog_4_method_12_code 32 = .ok (.invokevirtual 89, 3) := by decide +kernel
theorem d_D_readName_35 : decode prog_4_method_12_code 35 = .ok (.iconst 0, 1) := by decide +kernel
theorem d_D_readName_36 : decode prog_4_method_12_code 36 = .ok (.istore_n 3, 1) := by decide +kernel
theorem d_D_readName_37 : decode prog_4_method_12_code 37 = .ok (.iload_n 3, 1) := by decide +kernel
theorem d_D_readName_38 : decode prog_4_method_12_code 38 = .ok (.aload_n 0, 1) := by decide +kernel
theorem d_D_readName_39 : decode prog_4_method_12_code 39 = .ok (.getfield 22, 3) := by decide +kernel
theorem d_D_readName_42 : decode prog_4_method_12_code 42 = .ok (.if_icmp .ge 38, 3) := by decide +kernel
theorem d_D_readName_45 : decode prog_4_method_12_code 45 = .ok (.aload_n 0, 1) := by decide +kernel
theorem d_D_readName_46 : decode prog_4_method_12_code 46 = .ok (.getfield 17, 3) := by decide +kernel
theorem d_D_readName_49 : decode prog_4_method_12_code 49 = .ok (.aload_n 0, 1) := by decide +kernel
theorem d_D_readName_50 : decode prog_4_method_12_code 50 = .ok (.getfield 22, 3) := by decide +kernel
theorem d_D_readName_53 : decode prog_4_method_12_code 53 = .ok (.aaload, 1) := by decide +kernel
theorem d_D_readName_54 : decode prog_4_method_12_code 54 = .ok (.aload_n 0, 1) := by decide +kernel
theorem d_D_readName_55 : decode prog_4_method_12_code 55 = .ok (.getfield 17, 3) := by decide +kernel
theorem d_D_readName_58 : decode prog_4_method_12_code 58 = .ok (.iload_n 3, 1) := by decide +kernel
theorem d_D_readName_59 : decode prog_4_method_12_code 59 = .ok (.aaload, 1) := by decide +kernel
theorem d_D_readName_60 : decode prog_4_method_12_code 60 = .ok (.invokevirtual 93, 3) := by decide +kernel
theorem d_D_readName_63 : decode prog_4_method_12_code 63 = .ok (.ifCond .eq 11, 3) := by decide +kernel
theorem d_D_readName_66 : decode prog_4_method_12_code 66 = .ok (.aload_n 0, 1) := by decide +kernel
theorem d_D_readName_67 : decode prog_4_method_12_code 67 = .ok (.bipush (-8), 2) := by decide +kernel
theorem d_D_readName_69 : decode prog_4_method_12_code 69 = .ok (.iload_n 1, 1) := by decide +kernel
theorem d_D_readName_70 : decode prog_4_method_12_code 70 = .ok (.invokevirtual 42, 3) := by decide +kernel
theorem d_D_readName_73 : decode prog_4_method_12_code 73 = .ok (.ireturn, 1) := by decide +kernel
theorem d_D_readName_74 : decode prog_4_method_12_code 74 = .ok (.iinc 3 1, 3) := by decide +kernel
theorem d_D_readName_77 : decode prog_4_method_12_code 77 = .ok (.goto (-40), 3) := by decide +kernel
theorem d_D_readName_80 : decode prog_4_method_12_code 80 = .ok (.iconst 0, 1) := by decide +kernel
theorem d_D_readName_81 : decode prog_4_method_12_code 81 = .ok (.ireturn, 1) := by decide +kernel
set_option maxHeartbeats 4000000 in
set_option maxRecDepth 100000 in
theorem a_D_rn (l : Launch) (D : va_G) (sz : Nat) (qd : Nat) (qn : Nat) (ct : Int) (io : Int) (fp : Int) (qt : Nat) (qb : Nat) (cB : ClassId) (f : Nat → Int32) (L : Int) (cE : ClassId) (cN : ClassId) (fe : Nat → Option Nat) (ad : Nat → Nat) (LL : List zE) (k0 : Int) (n : Int) (aa : Int) (ww : Int) (hL : 0 ≤ L ∧ L ≤ 20000) (hpo : zPo ad LL) (hfe : ∀ k : Nat, k < 64 → fe k = some (ad k)) (hct : 0 ≤ ct ∧ ct < 64) (hk : 0 ≤ k0 ∧ k0 ≤ 900000) (hn : 0 ≤ n ∧ n ≤ 65535) (hu : k0 = zcp (zC1 f L) aa ct.toNat + 46 ∧ n = zg2 (zC1 f L) (zcp (zC1 f L) aa ct.toNat + 28)) (hpn : zPn (zC1 f L) aa ct LL) (heo : ∀ i : Int, 0 ≤ i → i < ct → zEo (zC1 f L) aa ww i) : Met l y_D_readName (Cond.code y_D_readName prog_4_method_12_code 4 (Option.some Jvm.ClassFile.FieldType.int) :: zt) { frames := 3, cells := 0, slots := 0, locals := 73 } (zPc [.ref qd, .int (iI k0), .int (iI n)] D (([(qd, .inr (2, [.ref qn, .int (iI ct), .int (iI io), .int (iI fp), .ref qt])), (qt, .inr (1, [.ref qb, .int (iI L)])), (qb, .inl (cB, 20000, .inl f)), (qn, .inl (cE, 64, .inr (.inr (.inr (.inr fe)))))] : va_W) ++ zPl cN LL) [(cB, .byte), (cE, .object "ZipGuard$Entry"), (cN, .byte)] sz (fun _ => True)) (va_Qi (fun (r : Int32) => fun (u9 : Int × Int × List zE) => match u9 with | (fp1, x, L1) => r = (iI x) ∧ ((zPo ad L1) ∧ (zPn (zC1 f L) aa ct L1) ∧ (zRn (zC1 f L) aa ct x fp fp1 L1) ∧ -11 ≤ x ∧ x ≤ 0)) (fun u9 t => zB D (((fun (u9 : Int × Int × List zE) => match u9 with | (fp1, x, L1) => [(qd, .inr (2, [.ref qn, .int (iI ct), .int (iI io), .int (iI fp1), .ref qt])), (qt, .inr (1, [.ref qb, .int (iI L)])), (qb, .inl (cB, 20000, .inl f)), (qn, .inl (cE, 64, .inr (.inr (.inr (.inr fe)))))]) u9) ++ ((fun (u9 : Int × Int × List zE) => match u9 with | (fp1, x, L1) => zPl cN L1) u9)) ((fun (u9 : Int × Int × List zE) => match u9 with | (fp1, x, L1) => [(cB, .byte), (cE, .object "ZipGuard$Entry"), (cN, .byte)]) u9) (va_A (([(qd, .inr (2, [.ref qn, .int (iI ct), .int (iI io), .int (iI fp), .ref qt])), (qt, .inr (1, [.ref qb, .int (iI L)])), (qb, .inl (cB, 20000, .inl f)), (qn, .inl (cE, 64, .inr (.inr (.inr (.inr fe)))))] : va_W) ++ zPl cN LL) sz) t) (va_A (([(qd, .inr (2, [.ref qn, .int (iI ct), .int (iI io), .int (iI fp), .ref qt])), (qt, .inr (1, [.ref qb, .int (iI L)])), (qb, .inl (cB, 20000, .inl f)), (qn, .inl (cE, 64, .inr (.inr (.inr (.inr fe)))))] : va_W) ++ zPl cN LL) sz)) 0 0 (va_A (([(qd, .inr (2, [.ref qn, .int (iI ct), .int (iI io), .int (iI fp), .ref qt])), (qt, .inr (1, [.ref qb, .int (iI L)])), (qb, .inl (cB, 20000, .inl f)), (qn, .inl (cE, 64, .inr (.inr (.inr (.inr fe)))))] : va_W) ++ zPl cN LL) sz) :=
  zMet (Qf := fun A => va_Qi (fun (r : Int32) => fun (u9 : Int × Int × List zE) => match u9 with | (fp1, x, L1) => r = (iI x) ∧ ((zPo ad L1) ∧ (zPn (zC1 f L) aa ct L1) ∧ (zRn (zC1 f L) aa ct x fp fp1 L1) ∧ -11 ≤ x ∧ x ≤ 0)) (fun u9 t => zB D (((fun (u9 : Int × Int × List zE) => match u9 with | (fp1, x, L1) => [(qd, .inr (2, [.ref qn, .int (iI ct), .int (iI io), .int (iI fp1), .ref qt])), (qt, .inr (1, [.ref qb, .int (iI L)])), (qb, .inl (cB, 20000, .inl f)), (qn, .inl (cE, 64, .inr (.inr (.inr (.inr fe)))))]) u9) ++ ((fun (u9 : Int × Int × List zE) => match u9 with | (fp1, x, L1) => zPl cN L1) u9)) ((fun (u9 : Int × Int × List zE) => match u9 with | (fp1, x, L1) => [(cB, .byte), (cE, .object "ZipGuard$Entry"), (cN, .byte)]) u9) A t) A) (by decide) (Nat.le_of_ble_eq_true rfl) (fun p e s m below meth c A ls hx hb hr hml hown ht hlk hnm hA hK hP hD hX hl => by
    have hS : va_S A s.heap s.heap [] := va_S.rf
    have hl : lv_has ls 4 [(0, .ref qd), (1, .int (iI k0)), (2, .int (iI n))] := hl
    refine lv_aload_n hx hb d_D_readName_0 rfl (lv_at hl 0 rfl) ?_
    refine lv_iload_n hx hb d_D_readName_1 rfl (lv_at hl 1 rfl) ?_
    refine lv_iload_n hx hb d_D_readName_2 rfl (lv_at hl 2 rfl) ?_
    refine zjR (va_runV (As := [.int (iI k0), .int (iI n)]) (rest := []) ⟨hx, hb, hml, hown, ht⟩ (a_D_nm l D qd qn ct io fp qt qb cB f L k0 n (by omega) (by omega) (by omega)) (cwV 2 ht (zt_goodV zm_464 zm_465 zm_11 zm_67 zm_466) rfl rfl rfl (by decide +kernel) ⟨Nat.le_of_ble_eq_true rfl, Nat.le_of_ble_eq_true rfl⟩) (zpreRV zBlind_t hK hP [0, 1, 2] [0] rfl rfl (fun _ _ _ => trivial) (va_recv (q := ("ZipGuard$Directory", F_D, 5)) hK hP rfl (q0 := 0) (ci := 2) rfl)) rfl rfl hl.1 rfl (lv_room (Nat.le_of_ble_eq_true rfl)) d_D_readName_3 ⟨Nat.le_of_ble_eq_true rfl, Nat.le_of_ble_eq_true rfl⟩) (fun r1 hp2 => ?_)
    obtain ⟨x_3, he_4, hp2⟩ := hp2
    subst he_4
    refine zv_if_ne (tgt := 17) hx hb d_D_readName_6 (by decide) (by omega) (fun hc_5 => ?_) (fun hc_5 => ?_)
    · skip
      have htf_6 := zTf_t hp2.1 hc_5
      have hnm : zNm (zC1 f L) (zcp (zC1 f L) aa ct.toNat + 46) (zg2 (zC1 f L) (zcp (zC1 f L) aa ct.toNat + 28)) := by rw [← hu.1, ← hu.2]; assumption
      have hm1 := hnm.1
      have hm2 := hnm.2.1
      refine lv_aload_n hx hb d_D_readName_17 rfl (lv_at hl 0 rfl) ?_
      refine va_get (ci := 2) (C := "ZipGuard$Directory") (T := F_D) (N := 5) hx hb ht zi_D hown hK hP 0 rfl rfl 0 (by decide) (ht _ zm_179) (fun _ h9 => h9) rfl d_D_readName_18 ?_
      refine lv_aload_n hx hb d_D_readName_21 rfl (lv_at hl 0 rfl) ?_
      refine va_get (ci := 2) (C := "ZipGuard$Directory") (T := F_D) (N := 5) hx hb ht zi_D hown hK hP 0 rfl rfl 1 (by decide) (ht _ zm_181) (fun _ h9 => h9) rfl d_D_readName_22 ?_
      refine zv_aald hx hb hK hP 3 1 hfe rfl rfl (by omega) (by decide) d_D_readName_25 ?_
      obtain ⟨⟨ndE, nlE, foE, meE, pkE, szE, suE, lpE, ppE, stE, opE, olE, nfE⟩, hxE, hzE⟩ := hpo.2 ct.toNat (by omega)
      unfold zEk at hzE
      have hP := zpl_out hP hxE
      have hD := zpl_outD hD hxE
      have hP : va_P D zcl (([(qd, .inr (2, [.ref qn, .int (iI ct), .int (iI io), .int (iI fp), .ref qt])), (qt, .inr (1, [.ref qb, .int (iI L)])), (qb, .inl (cB, 20000, .inl f)), (qn, .inl (cE, 64, .inr (.inr (.inr (.inr fe))))), ((ad ct.toNat), .inr (7, [.ref ndE, .int (iI nlE), .int (iI foE), .int (iI meE), .int (iI pkE), .long (lI szE), .int (iI suE), .int (iI lpE), .int (iI ppE), .int (iI stE), .int (iI opE), .int (iI olE)])), (ndE, .inl (cN, 60, .inl nfE))] : va_W) ++ zPl cN (List.eraseIdx LL ct.toNat)) _ := hP
      have hD : va_D A (([(qd, .inr (2, [.ref qn, .int (iI ct), .int (iI io), .int (iI fp), .ref qt])), (qt, .inr (1, [.ref qb, .int (iI L)])), (qb, .inl (cB, 20000, .inl f)), (qn, .inl (cE, 64, .inr (.inr (.inr (.inr fe))))), ((ad ct.toNat), .inr (7, [.ref ndE, .int (iI nlE), .int (iI foE), .int (iI meE), .int (iI pkE), .long (lI szE), .int (iI suE), .int (iI lpE), .int (iI ppE), .int (iI stE), .int (iI opE), .int (iI olE)])), (ndE, .inl (cN, 60, .inl nfE))] : va_W) ++ zPl cN (List.eraseIdx LL ct.toNat)) := hD
      refine lv_aload_n hx hb d_D_readName_26 rfl (lv_at hl 0 rfl) ?_
      refine va_get (ci := 2) (C := "ZipGuard$Directory") (T := F_D) (N := 5) hx hb ht zi_D hown hK hP 0 rfl rfl 4 (by decide) (ht _ zm_187) (fun _ h9 => h9) rfl d_D_readName_27 ?_
      refine lv_iload_n hx hb d_D_readName_30 rfl (lv_at hl 1 rfl) ?_
      refine lv_iload_n hx hb d_D_readName_31 rfl (lv_at hl 2 rfl) ?_
      refine zjvQ (wr := [(qd, .inr (2, [.ref qn, .int (iI ct), .int (iI io), .int (iI fp), .ref qt])), (qn, .inl (cE, 64, .inr (.inr (.inr (.inr fe)))))]) (va_runV (As := [.ref qt, .int (iI k0), .int (iI n)]) (rest := []) ⟨hx, hb, hml, hown, ht⟩ (a_E_keep l D _ qt qb cB f L cN (ad ct.toNat) ndE nlE foE meE pkE szE suE lpE ppE stE opE olE nfE k0 n (by omega) (by omega)) (cwV 3 ht (zt_goodV zm_473 zm_474 zm_475 zm_68 zm_476) rfl rfl rfl (by decide +kernel) ⟨Nat.le_of_ble_eq_true rfl, Nat.le_of_ble_eq_true rfl⟩) (zpreV zBlind_t hK hP hD [1, 2, 4, 5] [0, 2] rfl (by decide) rfl (fun _ _ _ => trivial) (va_recv (q := ("ZipGuard$Entry", F_E, 12)) hK hP rfl (q0 := 4) (ci := 7) rfl)) rfl rfl hl.1 rfl (lv_room (Nat.le_of_ble_eq_true rfl)) d_D_readName_32 ⟨Nat.le_of_ble_eq_true rfl, Nat.le_of_ble_eq_true rfl⟩) hK hP hD hS hA [1, 2, 4, 5] [0, 3] rfl rfl (by decide) (by decide) (fun u9 H locs hp11 hP hD hK hS => ?_)
      obtain ⟨n_7, f_8, n_9⟩ := u9
      dsimp only at hp11 hP hD hK
      have hP : va_P D zcl (([(qd, .inr (2, [.ref qn, .int (iI ct), .int (iI io), .int (iI fp), .ref qt])), (qn, .inl (cE, 64, .inr (.inr (.inr (.inr fe))))), (qt, .inr (1, [.ref qb, .int (iI L)])), (qb, .inl (cB, 20000, .inl f)), ((ad ct.toNat), .inr (7, [.ref ndE, .int (iI n_7), .int (iI f_8), .int (iI meE), .int (iI pkE), .long (lI szE), .int (iI suE), .int (iI lpE), .int (iI ppE), .int (iI stE), .int (iI opE), .int (iI olE)])), (ndE, .inl (cN, 60, .inl n_9))] : va_W) ++ zPl cN (List.eraseIdx LL ct.toNat)) H := hP
      have hD : va_D A (([(qd, .inr (2, [.ref qn, .int (iI ct), .int (iI io), .int (iI fp), .ref qt])), (qn, .inl (cE, 64, .inr (.inr (.inr (.inr fe))))), (qt, .inr (1, [.ref qb, .int (iI L)])), (qb, .inl (cB, 20000, .inl f)), ((ad ct.toNat), .inr (7, [.ref ndE, .int (iI n_7), .int (iI f_8), .int (iI meE), .int (iI pkE), .long (lI szE), .int (iI suE), .int (iI lpE), .int (iI ppE), .int (iI stE), .int (iI opE), .int (iI olE)])), (ndE, .inl (cN, 60, .inl n_9))] : va_W) ++ zPl cN (List.eraseIdx LL ct.toNat)) := hD
      have hK : va_K D zcl [(cB, .byte), (cE, .object "ZipGuard$Entry"), (cN, .byte), (cB, .byte), (cN, .byte)] s := hK
      have hP := hP.part (cx := [(qd, .inr (2, [.ref qn, .int (iI ct), .int (iI io), .int (iI fp), .ref qt])), (qt, .inr (1, [.ref qb, .int (iI L)])), (qb, .inl (cB, 20000, .inl f)), (qn, .inl (cE, 64, .inr (.inr (.inr (.inr fe))))), ((ad ct.toNat), .inr (7, [.ref ndE, .int (iI n_7), .int (iI f_8), .int (iI meE), .int (iI pkE), .long (lI szE), .int (iI suE), .int (iI lpE), .int (iI ppE), .int (iI stE), .int (iI opE), .int (iI olE)])), (ndE, .inl (cN, 60, .inl n_9))]) [0, 2, 3, 1, 4, 5] rfl
      have hD := hD.part (cx := [(qd, .inr (2, [.ref qn, .int (iI ct), .int (iI io), .int (iI fp), .ref qt])), (qt, .inr (1, [.ref qb, .int (iI L)])), (qb, .inl (cB, 20000, .inl f)), (qn, .inl (cE, 64, .inr (.inr (.inr (.inr fe))))), ((ad ct.toNat), .inr (7, [.ref ndE, .int (iI n_7), .int (iI f_8), .int (iI meE), .int (iI pkE), .long (lI szE), .int (iI suE), .int (iI lpE), .int (iI ppE), .int (iI stE), .int (iI opE), .int (iI olE)])), (ndE, .inl (cN, 60, .inl n_9))]) [0, 2, 3, 1, 4, 5] (by decide) rfl
      have hK := hK.sub (tys' := [(cB, .byte), (cE, .object "ZipGuard$Entry"), (cN, .byte)]) [0, 1, 2] rfl
      have hP := zpl_in (X := [(qd, .inr (2, [.ref qn, .int (iI ct), .int (iI io), .int (iI fp), .ref qt])), (qt, .inr (1, [.ref qb, .int (iI L)])), (qb, .inl (cB, 20000, .inl f)), (qn, .inl (cE, 64, .inr (.inr (.inr (.inr fe)))))]) ((ad ct.toNat), ndE, n_7, f_8, meE, pkE, szE, suE, lpE, ppE, stE, opE, olE, n_9) hP (by rw [hpo.1]; omega)
      have hD := zpl_inD (X := [(qd, .inr (2, [.ref qn, .int (iI ct), .int (iI io), .int (iI fp), .ref qt])), (qt, .inr (1, [.ref qb, .int (iI L)])), (qb, .inl (cB, 20000, .inl f)), (qn, .inl (cE, 64, .inr (.inr (.inr (.inr fe)))))]) ((ad ct.toNat), ndE, n_7, f_8, meE, pkE, szE, suE, lpE, ppE, stE, opE, olE, n_9) hD (by rw [hpo.1]; omega)
      have hpo := zPo_set hpo (k := ct.toNat) (x := (ndE, n_7, f_8, meE, pkE, szE, suE, lpE, ppE, stE, opE, olE, n_9)) (by omega) (by unfold zEk; omega)
      have hP : va_P D zcl (([(qd, .inr (2, [.ref qn, .int (iI ct), .int (iI io), .int (iI fp), .ref qt])), (qt, .inr (1, [.ref qb, .int (iI L)])), (qb, .inl (cB, 20000, .inl f)), (qn, .inl (cE, 64, .inr (.inr (.inr (.inr fe)))))] : va_W) ++ zPl cN (List.set LL ct.toNat ((ad ct.toNat), ndE, n_7, f_8, meE, pkE, szE, suE, lpE, ppE, stE, opE, olE, n_9))) _ := hP
      have hD : va_D A (([(qd, .inr (2, [.ref qn, .int (iI ct), .int (iI io), .int (iI fp), .ref qt])), (qt, .inr (1, [.ref qb, .int (iI L)])), (qb, .inl (cB, 20000, .inl f)), (qn, .inl (cE, 64, .inr (.inr (.inr (.inr fe)))))] : va_W) ++ zPl cN (List.set LL ct.toNat ((ad ct.toNat), ndE, n_7, f_8, meE, pkE, szE, suE, lpE, ppE, stE, opE, olE, n_9))) := hD
      have hpn : zPn (zC1 f L) aa ct (List.set LL ct.toNat ((ad ct.toNat), ndE, n_7, f_8, meE, pkE, szE, suE, lpE, ppE, stE, opE, olE, n_9)) := zPn_set hpn (by omega)
      have hpa : zPa (zC1 f L) (zcp (zC1 f L) aa ct.toNat) ct (List.set LL ct.toNat ((ad ct.toNat), ndE, n_7, f_8, meE, pkE, szE, suE, lpE, ppE, stE, opE, olE, n_9)) := zPa_set (zEn_kn hu hp11)
      refine lv_iconst (v := iI 0) hx hb d_D_readName_35 (by decide) ?_
      refine lv_istore_n (lv' := [(3, .int (iI 0)), (0, .ref qd), (1, .int (iI k0)), (2, .int (iI n))]) hx hb d_D_readName_36 rfl hl (by decide) rfl (fun ls hl => ?_)
      have lp37 : ∀ (j : Nat) (k : Int) (L2 : List zE) (H : Heap) (locs : List Loc) (ls : Array Slot), (0 ≤ k ∧ k ≤ ct) → (zPo ad L2) → (zPn (zC1 f L) aa ct L2) → (zPa (zC1 f L) (zcp (zC1 f L) aa ct.toNat) ct L2) → (∀ t : Int, 0 ≤ t → t < k → ¬ zCt (zC1 f L) (zcp (zC1 f L) aa ct.toNat) (zcp (zC1 f L) aa t.toNat)) → (ct - k < (j : Int)) → va_P D zcl (([(qd, .inr (2, [.ref qn, .int (iI ct), .int (iI io), .int (iI fp), .ref qt])), (qt, .inr (1, [.ref qb, .int (iI L)])), (qb, .inl (cB, 20000, .inl f)), (qn, .inl (cE, 64, .inr (.inr (.inr (.inr fe)))))] : va_W) ++ zPl cN L2) H → va_D A (([(qd, .inr (2, [.ref qn, .int (iI ct), .int (iI io), .int (iI fp), .ref qt])), (qt, .inr (1, [.ref qb, .int (iI L)])), (qb, .inl (cB, 20000, .inl f)), (qn, .inl (cE, 64, .inr (.inr (.inr (.inr fe)))))] : va_W) ++ zPl cN L2) → va_S A s.heap H locs → lv_has ls 4 [(3, .int (iI k)), (0, .ref qd), (1, .int (iI k0)), (2, .int (iI n))] → W p l e { frames := 3, cells := 0, slots := 0, locals := 73 } s m [.ref qd, .int (iI k0), .int (iI n)].toArray below meth c H locs 0 0 (MQ below ((fun A => va_Qi (fun (r : Int32) => fun (u9 : Int × Int × List zE) => match u9 with | (fp1, x, L1) => r = (iI x) ∧ ((zPo ad L1) ∧ (zPn (zC1 f L) aa ct L1) ∧ (zRn (zC1 f L) aa ct x fp fp1 L1) ∧ -11 ≤ x ∧ x ≤ 0)) (fun u9 t => zB D (((fun (u9 : Int × Int × List zE) => match u9 with | (fp1, x, L1) => [(qd, .inr (2, [.ref qn, .int (iI ct), .int (iI io), .int (iI fp1), .ref qt])), (qt, .inr (1, [.ref qb, .int (iI L)])), (qb, .inl (cB, 20000, .inl f)), (qn, .inl (cE, 64, .inr (.inr (.inr (.inr fe)))))]) u9) ++ ((fun (u9 : Int × Int × List zE) => match u9 with | (fp1, x, L1) => zPl cN L1) u9)) ((fun (u9 : Int × Int × List zE) => match u9 with | (fp1, x, L1) => [(cB, .byte), (cE, .object "ZipGuard$Entry"), (cN, .byte)]) u9) A t) A) A) [.ref qd, .int (iI k0), .int (iI n)].toArray s 0 0 A) (F0 m 37 ls []) := by
        intro j
        induction j with
        | zero => intro k L2 H locs ls hk1 hpo hpn hpa hnt hj37 hP hD hS hl; exfalso; omega
        | succ j ih37 =>
          intro k L2 H locs ls hk1 hpo hpn hpa hnt hj37 hP hD hS hl
          refine lv_iload_n hx hb d_D_readName_37 rfl (lv_at hl 0 rfl) ?_
          refine lv_aload_n hx hb d_D_readName_38 rfl (lv_at hl 1 rfl) ?_
          refine va_get (ci := 2) (C := "ZipGuard$Directory") (T := F_D) (N := 5) hx hb ht zi_D hown hK hP 0 rfl rfl 1 (by decide) (ht _ zm_181) (fun _ h9 => h9) rfl d_D_readName_39 ?_
          refine zv_icmp_ge (tgt := 80) hx hb d_D_readName_42 (by decide) (by omega) (by omega) (fun hc_13 => ?_) (fun hc_13 => ?_)
          · skip
            refine lv_iconst (v := iI 0) hx hb d_D_readName_80 (by decide) ?_
            exact zretiP hx hb hr hlk hK hP hD hS (fp, 0, L2) [0, 1, 2, 3] [0, 1, 2] rfl (by decide) rfl rfl (⟨rfl, ⟨hpo, hpn, Or.inl ⟨rfl, rfl, hnm, fun q => q.elim (fun t q => hnt t q.1 (by omega) q.2.2), hpa⟩, by omega⟩⟩) (Nat.le_of_ble_eq_true rfl) (Nat.le_of_ble_eq_true rfl) d_D_readName_81
          · skip
            refine lv_aload_n hx hb d_D_readName_45 rfl (lv_at hl 1 rfl) ?_
            refine va_get (ci := 2) (C := "ZipGuard$Directory") (T := F_D) (N := 5) hx hb ht zi_D hown hK hP 0 rfl rfl 0 (by decide) (ht _ zm_179) (fun _ h9 => h9) rfl d_D_readName_46 ?_
            refine lv_aload_n hx hb d_D_readName_49 rfl (lv_at hl 1 rfl) ?_
            refine va_get (ci := 2) (C := "ZipGuard$Directory") (T := F_D) (N := 5) hx hb ht zi_D hown hK hP 0 rfl rfl 1 (by decide) (ht _ zm_181) (fun _ h9 => h9) rfl d_D_readName_50 ?_
            refine zv_aald hx hb hK hP 3 1 hfe rfl rfl (by omega) (by decide) d_D_readName_53 ?_
            refine lv_aload_n hx hb d_D_readName_54 rfl (lv_at hl 1 rfl) ?_
            refine va_get (ci := 2) (C := "ZipGuard$Directory") (T := F_D) (N := 5) hx hb ht zi_D hown hK hP 0 rfl rfl 0 (by decide) (ht _ zm_179) (fun _ h9 => h9) rfl d_D_readName_55 ?_
            refine lv_iload_n hx hb d_D_readName_58 rfl (lv_at hl 0 rfl) ?_
            refine zv_aald hx hb hK hP 3 1 hfe rfl rfl (by omega) (by decide) d_D_readName_59 ?_
            have hPs := hP
            have hDs := hD
            obtain ⟨⟨ndA, nlA, foA, meA, pkA, szA, suA, lpA, ppA, stA, opA, olA, nfA⟩, hxA, hzA⟩ := hpo.2 ct.toNat (by omega)
            unfold zEk at hzA
            have hP := zpl_out hP hxA
            have hD := zpl_outD hD hxA
            have hP : va_P D zcl (([(qd, .inr (2, [.ref qn, .int (iI ct), .int (iI io), .int (iI fp), .ref qt])), (qt, .inr (1, [.ref qb, .int (iI L)])), (qb, .inl (cB, 20000, .inl f)), (qn, .inl (cE, 64, .inr (.inr (.inr (.inr fe))))), ((ad ct.toNat), .inr (7, [.ref ndA, .int (iI nlA), .int (iI foA), .int (iI meA), .int (iI pkA), .long (lI szA), .int (iI suA), .int (iI lpA), .int (iI ppA), .int (iI stA), .int (iI opA), .int (iI olA)])), (ndA, .inl (cN, 60, .inl nfA))] : va_W) ++ zPl cN (List.eraseIdx L2 ct.toNat)) _ := hP
            have hD : va_D A (([(qd, .inr (2, [.ref qn, .int (iI ct), .int (iI io), .int (iI fp), .ref qt])), (qt, .inr (1, [.ref qb, .int (iI L)])), (qb, .inl (cB, 20000, .inl f)), (qn, .inl (cE, 64, .inr (.inr (.inr (.inr fe))))), ((ad ct.toNat), .inr (7, [.ref ndA, .int (iI nlA), .int (iI foA), .int (iI meA), .int (iI pkA), .long (lI szA), .int (iI suA), .int (iI lpA), .int (iI ppA), .int (iI stA), .int (iI opA), .int (iI olA)])), (ndA, .inl (cN, 60, .inl nfA))] : va_W) ++ zPl cN (List.eraseIdx L2 ct.toNat)) := hD
            obtain ⟨⟨ndB, nlB, foB, meB, pkB, szB, suB, lpB, ppB, stB, opB, olB, nfB⟩, hxB, hzB⟩ := hpo.2 k.toNat (by omega)
            unfold zEk at hzB
            have hyB : (List.eraseIdx L2 ct.toNat)[k.toNat]? = _ := (List.getElem?_eraseIdx_of_lt (by omega)).trans hxB
            have hP := zpl_out hP hyB
            have hD := zpl_outD hD hyB
            have hP : va_P D zcl (([(qd, .inr (2, [.ref qn, .int (iI ct), .int (iI io), .int (iI fp), .ref qt])), (qt, .inr (1, [.ref qb, .int (iI L)])), (qb, .inl (cB, 20000, .inl f)), (qn, .inl (cE, 64, .inr (.inr (.inr (.inr fe))))), ((ad ct.toNat), .inr (7, [.ref ndA, .int (iI nlA), .int (iI foA), .int (iI meA), .int (iI pkA), .long (lI szA), .int (iI suA), .int (iI lpA), .int (iI ppA), .int (iI stA), .int (iI opA), .int (iI olA)])), (ndA, .inl (cN, 60, .inl nfA)), ((ad k.toNat), .inr (7, [.ref ndB, .int (iI nlB), .int (iI foB), .int (iI meB), .int (iI pkB), .long (lI szB), .int (iI suB), .int (iI lpB), .int (iI ppB), .int (iI stB), .int (iI opB), .int (iI olB)])), (ndB, .inl (cN, 60, .inl nfB))] : va_W) ++ zPl cN (List.eraseIdx (List.eraseIdx L2 ct.toNat) k.toNat)) _ := hP
            have hD : va_D A (([(qd, .inr (2, [.ref qn, .int (iI ct), .int (iI io), .int (iI fp), .ref qt])), (qt, .inr (1, [.ref qb, .int (iI L)])), (qb, .inl (cB, 20000, .inl f)), (qn, .inl (cE, 64, .inr (.inr (.inr (.inr fe))))), ((ad ct.toNat), .inr (7, [.ref ndA, .int (iI nlA), .int (iI foA), .int (iI meA), .int (iI pkA), .long (lI szA), .int (iI suA), .int (iI lpA), .int (iI ppA), .int (iI stA), .int (iI opA), .int (iI olA)])), (ndA, .inl (cN, 60, .inl nfA)), ((ad k.toNat), .inr (7, [.ref ndB, .int (iI nlB), .int (iI foB), .int (iI meB), .int (iI pkB), .long (lI szB), .int (iI suB), .int (iI lpB), .int (iI ppB), .int (iI stB), .int (iI opB), .int (iI olB)])), (ndB, .inl (cN, 60, .inl nfB))] : va_W) ++ zPl cN (List.eraseIdx (List.eraseIdx L2 ct.toNat) k.toNat)) := hD
            have heA : nlA = zg2 (zC1 f L) (zcp (zC1 f L) aa ct.toNat + 28) ∧ zTf foA (zrI nfA (nlA - 1) = 47) ∧ (∀ t : Int, 0 ≤ t → t < nlA → zrI nfA t = zrw (zC1 f L) (zcp (zC1 f L) aa ct.toNat) t) := hpa _ hxA
            have heB : nlB = zg2 (zC1 f L) (zcp (zC1 f L) aa k.toNat + 28) ∧ zTf foB (zrI nfB (nlB - 1) = 47) ∧ (∀ t : Int, 0 ≤ t → t < nlB → zrI nfB t = zrw (zC1 f L) (zcp (zC1 f L) aa k.toNat) t) := (hpn k _ (by omega) (by omega) hxB).1
            have hb1 := (heo k (by omega) (by omega)).2.2.1.1
            have hb2 := (heo k (by omega) (by omega)).2.2.1.2.1
            refine zjR (va_runV (As := [.ref (ad k.toNat)]) (rest := []) ⟨hx, hb, hml, hown, ht⟩ (a_E_clash l D cN (ad ct.toNat) ndA nlA foA meA pkA szA suA lpA ppA stA opA olA nfA (ad k.toNat) ndB nlB foB meB pkB szB suB lpB ppB stB opB olB nfB (fun e9 => absurd (hD.1 4 6 _ _ rfl rfl e9) (by decide)) (by omega) heA.2.1 (by omega) heB.2.1) (cwV 1 ht (zt_goodV zm_478 zm_479 zm_480 zm_68 zm_481) rfl rfl rfl (by decide +kernel) ⟨Nat.le_of_ble_eq_true rfl, Nat.le_of_ble_eq_true rfl⟩) (zpreRV zBlind_t hK hP [4, 5, 6, 7] [2] rfl rfl (fun _ _ _ => trivial) (va_recv (q := ("ZipGuard$Entry", F_E, 12)) hK hP rfl (q0 := 4) (ci := 7) rfl)) rfl rfl hl.1 rfl (lv_room (Nat.le_of_ble_eq_true rfl)) d_D_readName_60 ⟨Nat.le_of_ble_eq_true rfl, Nat.le_of_ble_eq_true rfl⟩) (fun r14 hp15 => ?_)
            obtain ⟨x_16, he_17, hp15⟩ := hp15
            subst he_17
            have hP := hPs
            have hD := hDs
            have hP : va_P D zcl (([(qd, .inr (2, [.ref qn, .int (iI ct), .int (iI io), .int (iI fp), .ref qt])), (qt, .inr (1, [.ref qb, .int (iI L)])), (qb, .inl (cB, 20000, .inl f)), (qn, .inl (cE, 64, .inr (.inr (.inr (.inr fe)))))] : va_W) ++ zPl cN L2) _ := hP
            have hD : va_D A (([(qd, .inr (2, [.ref qn, .int (iI ct), .int (iI io), .int (iI fp), .ref qt])), (qt, .inr (1, [.ref qb, .int (iI L)])), (qb, .inl (cB, 20000, .inl f)), (qn, .inl (cE, 64, .inr (.inr (.inr (.inr fe)))))] : va_W) ++ zPl cN L2) := hD
            have hct9 := zCt_of heA heB (by omega) (by omega) hp15.1
            refine zv_if_eq (tgt := 74) hx hb d_D_readName_63 (by decide) (by omega) (fun hc_18 => ?_) (fun hc_18 => ?_)
            · skip
              have htf_19 := zTf_f hct9 hc_18
              refine lv_iinc (k := 0) (v := iI (k + 1)) (lv' := [(3, .int (iI (k + 1))), (0, .ref qd), (1, .int (iI k0)), (2, .int (iI n))]) hx hb d_D_readName_74 hl rfl (zinc (by omega)) (by decide) rfl (fun ls hl => ?_)
              refine lv_goto (tgt := 37) hx hb d_D_readName_77 (by decide) ?_
              exact ih37 (k + 1) L2 _ _ _ (by omega) hpo hpn hpa (zno_all hnt (by assumption)) (by omega) hP hD hS hl
            · skip
              have htf_20 := zTf_t hct9 hc_18
              refine lv_aload_n hx hb d_D_readName_66 rfl (lv_at hl 1 rfl) ?_
              refine lv_bipush (v := iI (-8)) hx hb d_D_readName_67 (by decide) ?_
              refine lv_iload_n hx hb d_D_readName_69 rfl (lv_at hl 2 rfl) ?_
              refine zjiQ (wr := [(qt, .inr (1, [.ref qb, .int (iI L)])), (qb, .inl (cB, 20000, .inl f)), (qn, .inl (cE, 64, .inr (.inr (.inr (.inr fe)))))]) (va_runV (As := [.int (iI (-8)), .int (iI k0)]) (rest := []) ⟨hx, hb, hml, hown, ht⟩ (a_D_fault l D _ qd qn ct io fp qt (-8) k0 ) (cwV 2 ht (zt_goodV zm_435 zm_436 zm_3 zm_67 zm_437) rfl rfl rfl (by decide +kernel) ⟨Nat.le_of_ble_eq_true rfl, Nat.le_of_ble_eq_true rfl⟩) (zpreV zBlind_t hK hP hD [0] [] rfl (by decide) rfl (fun _ _ _ => trivial) (va_recv (q := ("ZipGuard$Directory", F_D, 5)) hK hP rfl (q0 := 0) (ci := 2) rfl)) rfl rfl hl.1 rfl (lv_room (Nat.le_of_ble_eq_true rfl)) d_D_readName_70 ⟨Nat.le_of_ble_eq_true rfl, Nat.le_of_ble_eq_true rfl⟩) hK hP hD hS hA [0] [1, 2, 3] rfl rfl (by decide) (by decide) (fun r21 u9 H locs hp22 hP hD hK hS => ?_)
              have hP : va_P D zcl (([(qt, .inr (1, [.ref qb, .int (iI L)])), (qb, .inl (cB, 20000, .inl f)), (qn, .inl (cE, 64, .inr (.inr (.inr (.inr fe))))), (qd, .inr (2, [.ref qn, .int (iI ct), .int (iI io), .int (iI k0), .ref qt]))] : va_W) ++ zPl cN L2) H := hP
              have hD : va_D A (([(qt, .inr (1, [.ref qb, .int (iI L)])), (qb, .inl (cB, 20000, .inl f)), (qn, .inl (cE, 64, .inr (.inr (.inr (.inr fe))))), (qd, .inr (2, [.ref qn, .int (iI ct), .int (iI io), .int (iI k0), .ref qt]))] : va_W) ++ zPl cN L2) := hD
              have hK : va_K D zcl [(cB, .byte), (cE, .object "ZipGuard$Entry"), (cN, .byte)] s := hK
              obtain ⟨he_23, hp22⟩ := hp22
              subst he_23
              have hP := hP.part (cx := [(qd, .inr (2, [.ref qn, .int (iI ct), .int (iI io), .int (iI k0), .ref qt])), (qt, .inr (1, [.ref qb, .int (iI L)])), (qb, .inl (cB, 20000, .inl f)), (qn, .inl (cE, 64, .inr (.inr (.inr (.inr fe)))))]) [3, 0, 1, 2] rfl
              have hD := hD.part (cx := [(qd, .inr (2, [.ref qn, .int (iI ct), .int (iI io), .int (iI k0), .ref qt])), (qt, .inr (1, [.ref qb, .int (iI L)])), (qb, .inl (cB, 20000, .inl f)), (qn, .inl (cE, 64, .inr (.inr (.inr (.inr fe)))))]) [3, 0, 1, 2] (by decide) rfl
              have hK := hK.sub (tys' := [(cB, .byte), (cE, .object "ZipGuard$Entry"), (cN, .byte)]) [0, 1, 2] rfl
              exact zretiP hx hb hr hlk hK hP hD hS (k0, (-8), L2) [0, 1, 2, 3] [0, 1, 2] rfl (by decide) rfl rfl (⟨rfl, ⟨hpo, hpn, Or.inr (Or.inr ⟨rfl, by omega, hnm, ⟨k, by omega, by omega, by assumption⟩⟩), by omega⟩⟩) (Nat.le_of_ble_eq_true rfl) (Nat.le_of_ble_eq_true rfl) d_D_readName_73
      exact lp37 ((ct - 0 + 1 : Int)).toNat 0 (List.set LL ct.toNat ((ad ct.toNat), ndE, n_7, f_8, meE, pkE, szE, suE, lpE, ppE, stE, opE, olE, n_9)) _ _ _ (by omega) hpo hpn hpa (fun t h1 h2 => absurd h2 (by omega)) (by omega) hP hD hS hl
    · skip
      have htf_24 := zTf_f hp2.1 hc_5
      refine lv_aload_n hx hb d_D_readName_9 rfl (lv_at hl 0 rfl) ?_
      refine lv_bipush (v := iI (-7)) hx hb d_D_readName_10 (by decide) ?_
      refine lv_iload_n hx hb d_D_readName_12 rfl (lv_at hl 1 rfl) ?_
      refine zjiQ (wr := [(qt, .inr (1, [.ref qb, .int (iI L)])), (qb, .inl (cB, 20000, .inl f)), (qn, .inl (cE, 64, .inr (.inr (.inr (.inr fe)))))]) (va_runV (As := [.int (iI (-7)), .int (iI k0)]) (rest := []) ⟨hx, hb, hml, hown, ht⟩ (a_D_fault l D _ qd qn ct io fp qt (-7) k0 ) (cwV 2 ht (zt_goodV zm_435 zm_436 zm_3 zm_67 zm_437) rfl rfl rfl (by decide +kernel) ⟨Nat.le_of_ble_eq_true rfl, Nat.le_of_ble_eq_true rfl⟩) (zpreV zBlind_t hK hP hD [0] [] rfl (by decide) rfl (fun _ _ _ => trivial) (va_recv (q := ("ZipGuard$Directory", F_D, 5)) hK hP rfl (q0 := 0) (ci := 2) rfl)) rfl rfl hl.1 rfl (lv_room (Nat.le_of_ble_eq_true rfl)) d_D_readName_13 ⟨Nat.le_of_ble_eq_true rfl, Nat.le_of_ble_eq_true rfl⟩) hK hP hD hS hA [0] [1, 2, 3] rfl rfl (by decide) (by decide) (fun r25 u9 H locs hp26 hP hD hK hS => ?_)
      have hP : va_P D zcl (([(qt, .inr (1, [.ref qb, .int (iI L)])), (qb, .inl (cB, 20000, .inl f)), (qn, .inl (cE, 64, .inr (.inr (.inr (.inr fe))))), (qd, .inr (2, [.ref qn, .int (iI ct), .int (iI io), .int (iI k0), .ref qt]))] : va_W) ++ zPl cN LL) H := hP
      have hD : va_D A (([(qt, .inr (1, [.ref qb, .int (iI L)])), (qb, .inl (cB, 20000, .inl f)), (qn, .inl (cE, 64, .inr (.inr (.inr (.inr fe))))), (qd, .inr (2, [.ref qn, .int (iI ct), .int (iI io), .int (iI k0), .ref qt]))] : va_W) ++ zPl cN LL) := hD
      have hK : va_K D zcl [(cB, .byte), (cE, .object "ZipGuard$Entry"), (cN, .byte)] s := hK
      obtain ⟨he_27, hp26⟩ := hp26
      subst he_27
      have hP := hP.part (cx := [(qd, .inr (2, [.ref qn, .int (iI ct), .int (iI io), .int (iI k0), .ref qt])), (qt, .inr (1, [.ref qb, .int (iI L)])), (qb, .inl (cB, 20000, .inl f)), (qn, .inl (cE, 64, .inr (.inr (.inr (.inr fe)))))]) [3, 0, 1, 2] rfl
      have hD := hD.part (cx := [(qd, .inr (2, [.ref qn, .int (iI ct), .int (iI io), .int (iI k0), .ref qt])), (qt, .inr (1, [.ref qb, .int (iI L)])), (qb, .inl (cB, 20000, .inl f)), (qn, .inl (cE, 64, .inr (.inr (.inr (.inr fe)))))]) [3, 0, 1, 2] (by decide) rfl
      have hK := hK.sub (tys' := [(cB, .byte), (cE, .object "ZipGuard$Entry"), (cN, .byte)]) [0, 1, 2] rfl
      exact zretiP hx hb hr hlk hK hP hD hS (k0, (-7), LL) [0, 1, 2, 3] [0, 1, 2] rfl (by decide) rfl rfl (⟨rfl, ⟨hpo, hpn, Or.inr (Or.inl ⟨rfl, by omega, by rw [← hu.1, ← hu.2]; assumption⟩), by omega⟩⟩) (Nat.le_of_ble_eq_true rfl) (Nat.le_of_ble_eq_true rfl) d_D_readName_16)
set_option maxHeartbeats 4000000 in
set_option maxRecDepth 100000 in
theorem a_D_rl (l : Launch) (D : va_G) (sz : Nat) (qd : Nat) (qn : Nat) (ct : Int) (io : Int) (fp : Int) (qt : Nat) (qb : Nat) (cB : ClassId) (f : Nat → Int32) (L : Int) (cE : ClassId) (cN : ClassId) (fe : Nat → Option Nat) (ad : Nat → Nat) (LL : List zE) (cc0 : Int) (fi : Int) (hL : 0 ≤ L ∧ L ≤ 20000) (hpo : zPo ad LL) (hfe : ∀ k : Nat, k < 64 → fe k = some (ad k)) (hct : 0 ≤ ct ∧ ct < 64) (hc : 0 ≤ cc0 ∧ cc0 ≤ 300000) (hfi : 0 ≤ fi ∧ fi ≤ 20000) (hu : cc0 = zcp (zC1 f L) fi ct.toNat) (hpn : zPn (zC1 f L) fi ct LL) (hpa : zPa (zC1 f L) cc0 ct LL) : Met l y_D_readLocal (Cond.code y_D_readLocal prog_4_method_16_code 9 (Option.some Jvm.ClassFile.FieldType.int) :: zt) { frames := 3, cells := 0, slots := 0, locals := 67 } (zPc [.ref qd, .int (iI cc0), .int (iI fi)] D (([(qd, .inr (2, [.ref qn, .int (iI ct), .int (iI io), .int (iI fp), .ref qt])), (qt, .inr (1, [.ref qb, .int (iI L)])), (qb, .inl (cB, 20000, .inl f)), (qn, .inl (cE, 64, .inr (.inr (.inr (.inr fe)))))] : va_W) ++ zPl cN LL) [(cB, .byte), (cE, .object "ZipGuard$Entry"), (cN, .byte)] sz (fun _ => True)) (va_Qi (fun (r : Int32) => fun (u9 : Int × Int × List zE) => match u9 with | (fp1, x, L1) => r = (iI x) ∧ ((zPo ad L1) ∧ (zRl (zC1 f L) fi ct x fp fp1 L1) ∧ -11 ≤ x ∧ x ≤ 0)) (fun u9 t => zB D (((fun (u9 : Int × Int × List zE) => match u9 with | (fp1, x, L1) => [(qd, .inr (2, [.ref qn, .int (iI ct), .int (iI io), .int (iI fp1), .ref qt])), (qt, .inr (1, [.ref qb, .int (iI L)])), (qb, .inl (cB, 20000, .inl f)), (qn, .inl (cE, 64, .inr (.inr (.inr (.inr fe)))))]) u9) ++ ((fun (u9 : Int × Int × List zE) => match u9 with | (fp1, x, L1) => zPl cN L1) u9)) ((fun (u9 : Int × Int × List zE) => match u9 with | (fp1, x, L1) => [(cB, .byte), (cE, .object "ZipGuard$Entry"), (cN, .byte)]) u9) (va_A (([(qd, .inr (2, [.ref qn, .int (iI ct), .int (iI io), .int (iI fp), .ref qt])), (qt, .inr (1, [.ref qb, .int (iI L)])), (qb, .inl (cB, 20000, .inl f)), (qn, .inl (cE, 64, .inr (.inr (.inr (.inr fe)))))] : va_W) ++ zPl cN LL) sz) t) (va_A (([(qd, .inr (2, [.ref qn, .int (iI ct), .int (iI io), .int (iI fp), .ref qt])), (qt, .inr (1, [.ref qb, .int (iI L)])), (qb, .inl (cB, 20000, .inl f)), (qn, .inl (cE, 64, .inr (.inr (.inr (.inr fe)))))] : va_W) ++ zPl cN LL) sz)) 0 0 (va_A (([(qd, .inr (2, [.ref qn, .int (iI ct), .int (iI io), .int (iI fp), .ref qt])), (qt, .inr (1, [.ref qb, .int (iI L)])), (qb, .inl (cB, 20000, .inl f)), (qn, .inl (cE, 64, .inr (.inr (.inr (.inr fe)))))] : va_W) ++ zPl cN LL) sz) :=
  zMet (Qf := fun A => va_Qi (fun (r : Int32) => fun (u9 : Int × Int × List zE) => match u9 with | (fp1, x, L1) => r = (iI x) ∧ ((zPo ad L1) ∧ (zRl (zC1 f L) fi ct x fp fp1 L1) ∧ -11 ≤ x ∧ x ≤ 0)) (fun u9 t => zB D (((fun (u9 : Int × Int × List zE) => match u9 with | (fp1, x, L1) => [(qd, .inr (2, [.ref qn, .int (iI ct), .int (iI io), .int (iI fp1), .ref qt])), (qt, .inr (1, [.ref qb, .int (iI L)])), (qb, .inl (cB, 20000, .inl f)), (qn, .inl (cE, 64, .inr (.inr (.inr (.inr fe)))))]) u9) ++ ((fun (u9 : Int × Int × List zE) => match u9 with | (fp1, x, L1) => zPl cN L1) u9)) ((fun (u9 : Int × Int × List zE) => match u9 with | (fp1, x, L1) => [(cB, .byte), (cE, .object "ZipGuard$Entry"), (cN, .byte)]) u9) A t) A) (by decide) (Nat.le_of_ble_eq_true rfl) (fun p e s m below meth c A ls hx hb hr hml hown ht hlk hnm hA hK hP hD hX hl => by
    have hS : va_S A s.heap s.heap [] := va_S.rf
    have hl : lv_has ls 9 [(0, .ref qd), (1, .int (iI cc0)), (2, .int (iI fi))] := hl
    refine lv_aload_n hx hb d_D_readLocal_0 rfl (lv_at hl 0 rfl) ?_
    refine va_get (ci := 2) (C := "ZipGuard$Directory") (T := F_D) (N := 5) hx hb ht zi_D hown hK hP 0 rfl rfl 4 (by decide) (ht _ zm_187) (fun _ h9 => h9) rfl d_D_readLocal_1 ?_
    refine lv_iload_n hx hb d_D_readLocal_4 rfl (lv_at hl 1 rfl) ?_
    refine lv_bipush (v := iI 42) hx hb d_D_readLocal_5 (by decide) ?_
    refine zv_iadd (z := cc0 + 42) hx hb d_D_readLocal_7 (by omega) ?_
    refine zjRl (va_runV (As := [.int (iI (cc0 + 42))]) (rest := []) ⟨hx, hb, hml, hown, ht⟩ (a_T_four l D qt qb cB f L (cc0 + 42) (by omega) (by omega)) (cwV 1 ht (zt_goodV zm_441 zm_442 zm_443 zm_66 zm_444) rfl rfl rfl (by decide +kernel) ⟨Nat.le_of_ble_eq_true rfl, Nat.le_of_ble_eq_true rfl⟩) (zpreRV zBlind_t hK hP [1, 2] [0] rfl rfl (fun _ _ _ => trivial) (va_recv (q := ("ZipGuard$Tape", F_T, 2)) hK hP rfl (q0 := 1) (ci := 1) rfl)) rfl rfl hl.1 rfl (lv_room (Nat.le_of_ble_eq_true rfl)) d_D_readLocal_8 ⟨Nat.le_of_ble_eq_true rfl, Nat.le_of_ble_eq_true rfl⟩) (fun r1 hp2 => ?_)
    obtain ⟨x_3, he_4, hp2⟩ := hp2
    subst he_4
    refine lv_lstore_n (lv' := [(3, .long (lI x_3)), (0, .ref qd), (1, .int (iI cc0)), (2, .int (iI fi))]) hx hb d_D_readLocal_11 rfl hl (by decide) rfl (fun ls hl => ?_)
    refine lv_lload_n hx hb d_D_readLocal_12 rfl (lv_at hl 0 rfl) ?_
    refine lv_ldc2 (v := 30) hx hb hown (ht _ zm_485) d_D_readLocal_13 ?_
    refine zv_litL 30 (by decide) ?_
    refine zv_ladd (z := x_3 + 30) hx hb d_D_readLocal_16 (by omega) ?_
    refine lv_iload_n hx hb d_D_readLocal_17 rfl (lv_at hl 3 rfl) ?_
    refine zv_i2l hx hb d_D_readLocal_18 (by omega) ?_
    refine zv_lcmp_gt (tgt := 33) hx hb d_D_readLocal_19 d_D_readLocal_20 (by decide) (by omega) (by omega) (fun hc_5 => ?_) (fun hc_5 => ?_)
    · skip
      refine lv_aload_n hx hb d_D_readLocal_33 rfl (lv_at hl 1 rfl) ?_
      refine lv_bipush (v := iI (-9)) hx hb d_D_readLocal_34 (by decide) ?_
      refine lv_iload_n hx hb d_D_readLocal_36 rfl (lv_at hl 2 rfl) ?_
      refine lv_bipush (v := iI 42) hx hb d_D_readLocal_37 (by decide) ?_
      refine zv_iadd (z := cc0 + 42) hx hb d_D_readLocal_39 (by omega) ?_
      refine zjiQ (wr := [(qt, .inr (1, [.ref qb, .int (iI L)])), (qb, .inl (cB, 20000, .inl f)), (qn, .inl (cE, 64, .inr (.inr (.inr (.inr fe)))))]) (va_runV (As := [.int (iI (-9)), .int (iI (cc0 + 42))]) (rest := []) ⟨hx, hb, hml, hown, ht⟩ (a_D_fault l D _ qd qn ct io fp qt (-9) (cc0 + 42) ) (cwV 2 ht (zt_goodV zm_435 zm_436 zm_3 zm_67 zm_437) rfl rfl rfl (by decide +kernel) ⟨Nat.le_of_ble_eq_true rfl, Nat.le_of_ble_eq_true rfl⟩) (zpreV zBlind_t hK hP hD [0] [] rfl (by decide) rfl (fun _ _ _ => trivial) (va_recv (q := ("ZipGuard$Directory", F_D, 5)) hK hP rfl (q0 := 0) (ci := 2) rfl)) rfl rfl hl.1 rfl (lv_room (Nat.le_of_ble_eq_true rfl)) d_D_readLocal_40 ⟨Nat.le_of_ble_eq_true rfl, Nat.le_of_ble_eq_true rfl⟩) hK hP hD hS hA [0] [1, 2, 3] rfl rfl (by decide) (by decide) (fun r6 u9 H locs hp7 hP hD hK hS => ?_)
      have hP : va_P D zcl (([(qt, .inr (1, [.ref qb, .int (iI L)])), (qb, .inl (cB, 20000, .inl f)), (qn, .inl (cE, 64, .inr (.inr (.inr (.inr fe))))), (qd, .inr (2, [.ref qn, .int (iI ct), .int (iI io), .int (iI (cc0 + 42)), .ref qt]))] : va_W) ++ zPl cN LL) H := hP
      have hD : va_D A (([(qt, .inr (1, [.ref qb, .int (iI L)])), (qb, .inl (cB, 20000, .inl f)), (qn, .inl (cE, 64, .inr (.inr (.inr (.inr fe))))), (qd, .inr (2, [.ref qn, .int (iI ct), .int (iI io), .int (iI (cc0 + 42)), .ref qt]))] : va_W) ++ zPl cN LL) := hD
      have hK : va_K D zcl [(cB, .byte), (cE, .object "ZipGuard$Entry"), (cN, .byte)] s := hK
      obtain ⟨he_8, hp7⟩ := hp7
      subst he_8
      have hP := hP.part (cx := [(qd, .inr (2, [.ref qn, .int (iI ct), .int (iI io), .int (iI (cc0 + 42)), .ref qt])), (qt, .inr (1, [.ref qb, .int (iI L)])), (qb, .inl (cB, 20000, .inl f)), (qn, .inl (cE, 64, .inr (.inr (.inr (.inr fe)))))]) [3, 0, 1, 2] rfl
      have hD := hD.part (cx := [(qd, .inr (2, [.ref qn, .int (iI ct), .int (iI io), .int (iI (cc0 + 42)), .ref qt])), (qt, .inr (1, [.ref qb, .int (iI L)])), (qb, .inl (cB, 20000, .inl f)), (qn, .inl (cE, 64, .inr (.inr (.inr (.inr fe)))))]) [3, 0, 1, 2] (by decide) rfl
      have hK := hK.sub (tys' := [(cB, .byte), (cE, .object "ZipGuard$Entry"), (cN, .byte)]) [0, 1, 2] rfl
      exact zretiP hx hb hr hlk hK hP hD hS ((cc0 + 42), (-9), LL) [0, 1, 2, 3] [0, 1, 2] rfl (by decide) rfl rfl (⟨rfl, ⟨hpo, Or.inr (Or.inl ⟨rfl, by omega, by rw [← hu]; have q7 := hp2.1; subst q7; exact fun q => by first | (have q6 := q.1; omega) | exact zTf_f hu.1 (by omega) ⟨q.2.1, q.2.2.1, q.2.2.2.1, q.2.2.2.2.1⟩⟩), by omega⟩⟩) (Nat.le_of_ble_eq_true rfl) (Nat.le_of_ble_eq_true rfl) d_D_readLocal_43
    · skip
      refine lv_aload_n hx hb d_D_readLocal_23 rfl (lv_at hl 1 rfl) ?_
      refine lv_iload_n hx hb d_D_readLocal_24 rfl (lv_at hl 2 rfl) ?_
      refine lv_lload_n hx hb d_D_readLocal_25 rfl (lv_at hl 0 rfl) ?_
      refine zv_l2i hx hb d_D_readLocal_26 ?_
      refine zjR (va_runV (As := [.int (iI cc0), .int (iI x_3)]) (rest := []) ⟨hx, hb, hml, hown, ht⟩ (a_D_lo l D qd qn ct io fp qt qb cB f L cc0 x_3 (by omega) (by omega) (by omega)) (cwV 2 ht (zt_goodV zm_486 zm_487 zm_15 zm_67 zm_488) rfl rfl rfl (by decide +kernel) ⟨Nat.le_of_ble_eq_true rfl, Nat.le_of_ble_eq_true rfl⟩) (zpreRV zBlind_t hK hP [0, 1, 2] [0] rfl rfl (fun _ _ _ => trivial) (va_recv (q := ("ZipGuard$Directory", F_D, 5)) hK hP rfl (q0 := 0) (ci := 2) rfl)) rfl rfl hl.1 rfl (lv_room (Nat.le_of_ble_eq_true rfl)) d_D_readLocal_27 ⟨Nat.le_of_ble_eq_true rfl, Nat.le_of_ble_eq_true rfl⟩) (fun r9 hp10 => ?_)
      obtain ⟨x_11, he_12, hp10⟩ := hp10
      subst he_12
      refine zv_if_ne (tgt := 44) hx hb d_D_readLocal_30 (by decide) (by omega) (fun hc_13 => ?_) (fun hc_13 => ?_)
      · skip
        have htf_14 := zTf_t hp10.1 hc_13
        refine lv_lload_n hx hb d_D_readLocal_44 rfl (lv_at hl 0 rfl) ?_
        refine zv_l2i hx hb d_D_readLocal_45 ?_
        refine lv_istore (lv' := [(5, .int (iI x_3)), (3, .long (lI x_3)), (0, .ref qd), (1, .int (iI cc0)), (2, .int (iI fi))]) hx hb d_D_readLocal_46 hl (by decide) rfl (fun ls hl => ?_)
        refine lv_iload hx hb d_D_readLocal_48 (lv_at hl 0 rfl) ?_
        refine lv_bipush (v := iI 30) hx hb d_D_readLocal_50 (by decide) ?_
        refine zv_iadd (z := x_3 + 30) hx hb d_D_readLocal_52 (by omega) ?_
        refine lv_aload_n hx hb d_D_readLocal_53 rfl (lv_at hl 2 rfl) ?_
        refine va_get (ci := 2) (C := "ZipGuard$Directory") (T := F_D) (N := 5) hx hb ht zi_D hown hK hP 0 rfl rfl 4 (by decide) (ht _ zm_187) (fun _ h9 => h9) rfl d_D_readLocal_54 ?_
        refine lv_iload_n hx hb d_D_readLocal_57 rfl (lv_at hl 3 rfl) ?_
        refine lv_bipush (v := iI 28) hx hb d_D_readLocal_58 (by decide) ?_
        refine zv_iadd (z := cc0 + 28) hx hb d_D_readLocal_60 (by omega) ?_
        refine zjR (va_runV (As := [.int (iI (cc0 + 28))]) (rest := [.int (iI (x_3 + 30))]) ⟨hx, hb, hml, hown, ht⟩ (a_T_two l D qt qb cB f L (cc0 + 28) (by omega) (by omega)) (cwV 1 ht (zt_goodV zm_431 zm_432 zm_433 zm_66 zm_434) rfl rfl rfl (by decide +kernel) ⟨Nat.le_of_ble_eq_true rfl, Nat.le_of_ble_eq_true rfl⟩) (zpreRV zBlind_t hK hP [1, 2] [0] rfl rfl (fun _ _ _ => trivial) (va_recv (q := ("ZipGuard$Tape", F_T, 2)) hK hP rfl (q0 := 1) (ci := 1) rfl)) rfl rfl hl.1 rfl (lv_room (Nat.le_of_ble_eq_true rfl)) d_D_readLocal_61 ⟨Nat.le_of_ble_eq_true rfl, Nat.le_of_ble_eq_true rfl⟩) (fun r15 hp16 => ?_)
        obtain ⟨x_17, he_18, hp16⟩ := hp16
        subst he_18
        refine zv_iadd (z := x_3 + x_17 + 30) hx hb d_D_readLocal_64 (by omega) ?_
        refine lv_aload_n hx hb d_D_readLocal_65 rfl (lv_at hl 2 rfl) ?_
        refine va_get (ci := 2) (C := "ZipGuard$Directory") (T := F_D) (N := 5) hx hb ht zi_D hown hK hP 0 rfl rfl 4 (by decide) (ht _ zm_187) (fun _ h9 => h9) rfl d_D_readLocal_66 ?_
        refine lv_iload hx hb d_D_readLocal_69 (lv_at hl 0 rfl) ?_
        refine lv_bipush (v := iI 28) hx hb d_D_readLocal_71 (by decide) ?_
        refine zv_iadd (z := x_3 + 28) hx hb d_D_readLocal_73 (by omega) ?_
        refine zjR (va_runV (As := [.int (iI (x_3 + 28))]) (rest := [.int (iI (x_3 + x_17 + 30))]) ⟨hx, hb, hml, hown, ht⟩ (a_T_two l D qt qb cB f L (x_3 + 28) (by omega) (by omega)) (cwV 1 ht (zt_goodV zm_431 zm_432 zm_433 zm_66 zm_434) rfl rfl rfl (by decide +kernel) ⟨Nat.le_of_ble_eq_true rfl, Nat.le_of_ble_eq_true rfl⟩) (zpreRV zBlind_t hK hP [1, 2] [0] rfl rfl (fun _ _ _ => trivial) (va_recv (q := ("ZipGuard$Tape", F_T, 2)) hK hP rfl (q0 := 1) (ci := 1) rfl)) rfl rfl hl.1 rfl (lv_room (Nat.le_of_ble_eq_true rfl)) d_D_readLocal_74 ⟨Nat.le_of_ble_eq_true rfl, Nat.le_of_ble_eq_true rfl⟩) (fun r19 hp20 => ?_)
        obtain ⟨x_21, he_22, hp20⟩ := hp20
        subst he_22
        refine zv_iadd (z := x_3 + x_17 + x_21 + 30) hx hb d_D_readLocal_77 (by omega) ?_
        refine lv_istore (lv' := [(6, .int (iI (x_3 + x_17 + x_21 + 30))), (5, .int (iI x_3)), (3, .long (lI x_3)), (0, .ref qd), (1, .int (iI cc0)), (2, .int (iI fi))]) hx hb d_D_readLocal_78 hl (by decide) rfl (fun ls hl => ?_)
        refine lv_iload hx hb d_D_readLocal_80 (lv_at hl 0 rfl) ?_
        refine zv_i2l hx hb d_D_readLocal_82 (by omega) ?_
        refine lv_aload_n hx hb d_D_readLocal_83 rfl (lv_at hl 3 rfl) ?_
        refine va_get (ci := 2) (C := "ZipGuard$Directory") (T := F_D) (N := 5) hx hb ht zi_D hown hK hP 0 rfl rfl 4 (by decide) (ht _ zm_187) (fun _ h9 => h9) rfl d_D_readLocal_84 ?_
        refine lv_iload_n hx hb d_D_readLocal_87 rfl (lv_at hl 4 rfl) ?_
        refine lv_bipush (v := iI 20) hx hb d_D_readLocal_88 (by decide) ?_
        refine zv_iadd (z := cc0 + 20) hx hb d_D_readLocal_90 (by omega) ?_
        refine zjRl (va_runV (As := [.int (iI (cc0 + 20))]) (rest := [.long (lI (x_3 + x_17 + x_21 + 30))]) ⟨hx, hb, hml, hown, ht⟩ (a_T_four l D qt qb cB f L (cc0 + 20) (by omega) (by omega)) (cwV 1 ht (zt_goodV zm_441 zm_442 zm_443 zm_66 zm_444) rfl rfl rfl (by decide +kernel) ⟨Nat.le_of_ble_eq_true rfl, Nat.le_of_ble_eq_true rfl⟩) (zpreRV zBlind_t hK hP [1, 2] [0] rfl rfl (fun _ _ _ => trivial) (va_recv (q := ("ZipGuard$Tape", F_T, 2)) hK hP rfl (q0 := 1) (ci := 1) rfl)) rfl rfl hl.1 rfl (lv_room (Nat.le_of_ble_eq_true rfl)) d_D_readLocal_91 ⟨Nat.le_of_ble_eq_true rfl, Nat.le_of_ble_eq_true rfl⟩) (fun r23 hp24 => ?_)
        obtain ⟨x_25, he_26, hp24⟩ := hp24
        subst he_26
        refine zv_ladd (z := x_3 + x_17 + x_21 + x_25 + 30) hx hb d_D_readLocal_94 (by omega) ?_
        refine lv_iload_n hx hb d_D_readLocal_95 rfl (lv_at hl 5 rfl) ?_
        refine zv_i2l hx hb d_D_readLocal_96 (by omega) ?_
        refine zv_lcmp_le (tgt := 112) hx hb d_D_readLocal_97 d_D_readLocal_98 (by decide) (by omega) (by omega) (fun hc_27 => ?_) (fun hc_27 => ?_)
        · skip
          have hlo9 : zLo (zC1 f L) cc0 fi := by have q7 := hp2.1; subst q7; have q6 := zTf_t hp10.1 (by omega); exact ⟨by omega, q6.1, q6.2.1, q6.2.2.1, q6.2.2.2, by unfold zDa; omega⟩
          have hda9 : x_3 + x_17 + x_21 + 30 = zDa (zC1 f L) cc0 := by have q7 := hp2.1; subst q7; unfold zDa; omega
          refine lv_aload_n hx hb d_D_readLocal_112 rfl (lv_at hl 3 rfl) ?_
          refine va_get (ci := 2) (C := "ZipGuard$Directory") (T := F_D) (N := 5) hx hb ht zi_D hown hK hP 0 rfl rfl 0 (by decide) (ht _ zm_179) (fun _ h9 => h9) rfl d_D_readLocal_113 ?_
          refine lv_aload_n hx hb d_D_readLocal_116 rfl (lv_at hl 3 rfl) ?_
          refine va_get (ci := 2) (C := "ZipGuard$Directory") (T := F_D) (N := 5) hx hb ht zi_D hown hK hP 0 rfl rfl 1 (by decide) (ht _ zm_181) (fun _ h9 => h9) rfl d_D_readLocal_117 ?_
          refine zv_aald hx hb hK hP 3 1 hfe rfl rfl (by omega) (by decide) d_D_readLocal_120 ?_
          obtain ⟨⟨ndE, nlE, foE, meE, pkE, szE, suE, lpE, ppE, stE, opE, olE, nfE⟩, hxE, hzE⟩ := hpo.2 ct.toNat (by omega)
          unfold zEk at hzE
          have hP := zpl_out hP hxE
          have hD := zpl_outD hD hxE
          have hP : va_P D zcl (([(qd, .inr (2, [.ref qn, .int (iI ct), .int (iI io), .int (iI fp), .ref qt])), (qt, .inr (1, [.ref qb, .int (iI L)])), (qb, .inl (cB, 20000, .inl f)), (qn, .inl (cE, 64, .inr (.inr (.inr (.inr fe))))), ((ad ct.toNat), .inr (7, [.ref ndE, .int (iI nlE), .int (iI foE), .int (iI meE), .int (iI pkE), .long (lI szE), .int (iI suE), .int (iI lpE), .int (iI ppE), .int (iI stE), .int (iI opE), .int (iI olE)])), (ndE, .inl (cN, 60, .inl nfE))] : va_W) ++ zPl cN (List.eraseIdx LL ct.toNat)) _ := hP
          have hD : va_D A (([(qd, .inr (2, [.ref qn, .int (iI ct), .int (iI io), .int (iI fp), .ref qt])), (qt, .inr (1, [.ref qb, .int (iI L)])), (qb, .inl (cB, 20000, .inl f)), (qn, .inl (cE, 64, .inr (.inr (.inr (.inr fe))))), ((ad ct.toNat), .inr (7, [.ref ndE, .int (iI nlE), .int (iI foE), .int (iI meE), .int (iI pkE), .long (lI szE), .int (iI suE), .int (iI lpE), .int (iI ppE), .int (iI stE), .int (iI opE), .int (iI olE)])), (ndE, .inl (cN, 60, .inl nfE))] : va_W) ++ zPl cN (List.eraseIdx LL ct.toNat)) := hD
          have heE : nlE = zg2 (zC1 f L) (cc0 + 28) ∧ zTf foE (zrI nfE (nlE - 1) = 47) ∧ (∀ t : Int, 0 ≤ t → t < nlE → zrI nfE t = zrw (zC1 f L) cc0 t) := hpa _ hxE
          refine lv_astore (lv' := [(7, .ref (ad ct.toNat)), (6, .int (iI (x_3 + x_17 + x_21 + 30))), (5, .int (iI x_3)), (3, .long (lI x_3)), (0, .ref qd), (1, .int (iI cc0)), (2, .int (iI fi))]) hx hb d_D_readLocal_121 hl (by decide) rfl (fun ls hl => ?_)
          refine lv_aload_n hx hb d_D_readLocal_123 rfl (lv_at hl 4 rfl) ?_
          refine lv_aload hx hb d_D_readLocal_124 (lv_at hl 0 rfl) ?_
          refine lv_iload_n hx hb d_D_readLocal_126 rfl (lv_at hl 5 rfl) ?_
          refine zjvQ (wr := [(qn, .inl (cE, 64, .inr (.inr (.inr (.inr fe))))), (ndE, .inl (cN, 60, .inl nfE))]) (va_runV (As := [.ref (ad ct.toNat), .int (iI cc0)]) (rest := []) ⟨hx, hb, hml, hown, ht⟩ (a_D_kn l D _ qd qn ct io fp qt qb cB f L (ad ct.toNat) ndE nlE foE meE pkE szE suE lpE ppE stE opE olE cc0 (by omega) (by omega)) (cwV 2 ht (zt_goodV zm_493 zm_494 zm_16 zm_67 zm_495) rfl rfl rfl (by decide +kernel) ⟨Nat.le_of_ble_eq_true rfl, Nat.le_of_ble_eq_true rfl⟩) (zpreV zBlind_t hK hP hD [0, 1, 2, 4] [0] rfl (by decide) rfl (fun _ _ _ => trivial) (va_recv (q := ("ZipGuard$Directory", F_D, 5)) hK hP rfl (q0 := 0) (ci := 2) rfl)) rfl rfl hl.1 rfl (lv_room (Nat.le_of_ble_eq_true rfl)) d_D_readLocal_127 ⟨Nat.le_of_ble_eq_true rfl, Nat.le_of_ble_eq_true rfl⟩) hK hP hD hS hA [0, 1, 2, 4] [3, 5] rfl rfl (by decide) (by decide) (fun u9 H locs hp33 hP hD hK hS => ?_)
          obtain ⟨m_28, s_29, p_30, e_31⟩ := u9
          dsimp only at hp33 hP hD hK
          have hP : va_P D zcl (([(qn, .inl (cE, 64, .inr (.inr (.inr (.inr fe))))), (ndE, .inl (cN, 60, .inl nfE)), (qd, .inr (2, [.ref qn, .int (iI ct), .int (iI io), .int (iI fp), .ref qt])), (qt, .inr (1, [.ref qb, .int (iI L)])), (qb, .inl (cB, 20000, .inl f)), ((ad ct.toNat), .inr (7, [.ref ndE, .int (iI nlE), .int (iI foE), .int (iI m_28), .int (iI p_30), .long (lI e_31), .int (iI s_29), .int (iI lpE), .int (iI ppE), .int (iI 0), .int (iI 0), .int (iI 0)]))] : va_W) ++ zPl cN (List.eraseIdx LL ct.toNat)) H := hP
          have hD : va_D A (([(qn, .inl (cE, 64, .inr (.inr (.inr (.inr fe))))), (ndE, .inl (cN, 60, .inl nfE)), (qd, .inr (2, [.ref qn, .int (iI ct), .int (iI io), .int (iI fp), .ref qt])), (qt, .inr (1, [.ref qb, .int (iI L)])), (qb, .inl (cB, 20000, .inl f)), ((ad ct.toNat), .inr (7, [.ref ndE, .int (iI nlE), .int (iI foE), .int (iI m_28), .int (iI p_30), .long (lI e_31), .int (iI s_29), .int (iI lpE), .int (iI ppE), .int (iI 0), .int (iI 0), .int (iI 0)]))] : va_W) ++ zPl cN (List.eraseIdx LL ct.toNat)) := hD
          have hK : va_K D zcl [(cB, .byte), (cE, .object "ZipGuard$Entry"), (cN, .byte), (cB, .byte)] s := hK
          have hP := hP.part (cx := [(qd, .inr (2, [.ref qn, .int (iI ct), .int (iI io), .int (iI fp), .ref qt])), (qt, .inr (1, [.ref qb, .int (iI L)])), (qb, .inl (cB, 20000, .inl f)), (qn, .inl (cE, 64, .inr (.inr (.inr (.inr fe))))), ((ad ct.toNat), .inr (7, [.ref ndE, .int (iI nlE), .int (iI foE), .int (iI m_28), .int (iI p_30), .long (lI e_31), .int (iI s_29), .int (iI lpE), .int (iI ppE), .int (iI 0), .int (iI 0), .int (iI 0)])), (ndE, .inl (cN, 60, .inl nfE))]) [2, 3, 4, 0, 5, 1] rfl
          have hD := hD.part (cx := [(qd, .inr (2, [.ref qn, .int (iI ct), .int (iI io), .int (iI fp), .ref qt])), (qt, .inr (1, [.ref qb, .int (iI L)])), (qb, .inl (cB, 20000, .inl f)), (qn, .inl (cE, 64, .inr (.inr (.inr (.inr fe))))), ((ad ct.toNat), .inr (7, [.ref ndE, .int (iI nlE), .int (iI foE), .int (iI m_28), .int (iI p_30), .long (lI e_31), .int (iI s_29), .int (iI lpE), .int (iI ppE), .int (iI 0), .int (iI 0), .int (iI 0)])), (ndE, .inl (cN, 60, .inl nfE))]) [2, 3, 4, 0, 5, 1] (by decide) rfl
          have hK := hK.sub (tys' := [(cB, .byte), (cE, .object "ZipGuard$Entry"), (cN, .byte)]) [0, 1, 2] rfl
          refine lv_aload hx hb d_D_readLocal_130 (lv_at hl 0 rfl) ?_
          refine lv_iload hx hb d_D_readLocal_132 (lv_at hl 2 rfl) ?_
          refine va_put (ci := 7) (v := .int (iI x_3)) (ty := .int) (C := "ZipGuard$Entry") (T := F_E) (N := 12) hx hb ht zi_E ty_E tk_E nm_E hown hK hP hD hS 4 rfl rfl 7 (by decide) (ht _ zm_141) (fun _ h9 => h9) rfl (by decide +kernel) rfl rfl (Nat.le_of_ble_eq_true rfl) d_D_readLocal_134 (fun H locs hP hD hS => ?_)
          have hP : va_P D zcl (([(qd, .inr (2, [.ref qn, .int (iI ct), .int (iI io), .int (iI fp), .ref qt])), (qt, .inr (1, [.ref qb, .int (iI L)])), (qb, .inl (cB, 20000, .inl f)), (qn, .inl (cE, 64, .inr (.inr (.inr (.inr fe))))), ((ad ct.toNat), .inr (7, [.ref ndE, .int (iI nlE), .int (iI foE), .int (iI m_28), .int (iI p_30), .long (lI e_31), .int (iI s_29), .int (iI x_3), .int (iI ppE), .int (iI 0), .int (iI 0), .int (iI 0)])), (ndE, .inl (cN, 60, .inl nfE))] : va_W) ++ zPl cN (List.eraseIdx LL ct.toNat)) H := hP
          have hD : va_D A (([(qd, .inr (2, [.ref qn, .int (iI ct), .int (iI io), .int (iI fp), .ref qt])), (qt, .inr (1, [.ref qb, .int (iI L)])), (qb, .inl (cB, 20000, .inl f)), (qn, .inl (cE, 64, .inr (.inr (.inr (.inr fe))))), ((ad ct.toNat), .inr (7, [.ref ndE, .int (iI nlE), .int (iI foE), .int (iI m_28), .int (iI p_30), .long (lI e_31), .int (iI s_29), .int (iI x_3), .int (iI ppE), .int (iI 0), .int (iI 0), .int (iI 0)])), (ndE, .inl (cN, 60, .inl nfE))] : va_W) ++ zPl cN (List.eraseIdx LL ct.toNat)) := hD
          refine lv_aload hx hb d_D_readLocal_137 (lv_at hl 0 rfl) ?_
          refine lv_iload hx hb d_D_readLocal_139 (lv_at hl 1 rfl) ?_
          refine va_put (ci := 7) (v := .int (iI (x_3 + x_17 + x_21 + 30))) (ty := .int) (C := "ZipGuard$Entry") (T := F_E) (N := 12) hx hb ht zi_E ty_E tk_E nm_E hown hK hP hD hS 4 rfl rfl 8 (by decide) (ht _ zm_144) (fun _ h9 => h9) rfl (by decide +kernel) rfl rfl (Nat.le_of_ble_eq_true rfl) d_D_readLocal_141 (fun H locs hP hD hS => ?_)
          have hP : va_P D zcl (([(qd, .inr (2, [.ref qn, .int (iI ct), .int (iI io), .int (iI fp), .ref qt])), (qt, .inr (1, [.ref qb, .int (iI L)])), (qb, .inl (cB, 20000, .inl f)), (qn, .inl (cE, 64, .inr (.inr (.inr (.inr fe))))), ((ad ct.toNat), .inr (7, [.ref ndE, .int (iI nlE), .int (iI foE), .int (iI m_28), .int (iI p_30), .long (lI e_31), .int (iI s_29), .int (iI x_3), .int (iI (x_3 + x_17 + x_21 + 30)), .int (iI 0), .int (iI 0), .int (iI 0)])), (ndE, .inl (cN, 60, .inl nfE))] : va_W) ++ zPl cN (List.eraseIdx LL ct.toNat)) H := hP
          have hD : va_D A (([(qd, .inr (2, [.ref qn, .int (iI ct), .int (iI io), .int (iI fp), .ref qt])), (qt, .inr (1, [.ref qb, .int (iI L)])), (qb, .inl (cB, 20000, .inl f)), (qn, .inl (cE, 64, .inr (.inr (.inr (.inr fe))))), ((ad ct.toNat), .inr (7, [.ref ndE, .int (iI nlE), .int (iI foE), .int (iI m_28), .int (iI p_30), .long (lI e_31), .int (iI s_29), .int (iI x_3), .int (iI (x_3 + x_17 + x_21 + 30)), .int (iI 0), .int (iI 0), .int (iI 0)])), (ndE, .inl (cN, 60, .inl nfE))] : va_W) ++ zPl cN (List.eraseIdx LL ct.toNat)) := hD
          have hP := zpl_in (X := [(qd, .inr (2, [.ref qn, .int (iI ct), .int (iI io), .int (iI fp), .ref qt])), (qt, .inr (1, [.ref qb, .int (iI L)])), (qb, .inl (cB, 20000, .inl f)), (qn, .inl (cE, 64, .inr (.inr (.inr (.inr fe)))))]) ((ad ct.toNat), ndE, nlE, foE, m_28, p_30, e_31, s_29, x_3, x_3 + x_17 + x_21 + 30, 0, 0, 0, nfE) hP (by rw [hpo.1]; omega)
          have hD := zpl_inD (X := [(qd, .inr (2, [.ref qn, .int (iI ct), .int (iI io), .int (iI fp), .ref qt])), (qt, .inr (1, [.ref qb, .int (iI L)])), (qb, .inl (cB, 20000, .inl f)), (qn, .inl (cE, 64, .inr (.inr (.inr (.inr fe)))))]) ((ad ct.toNat), ndE, nlE, foE, m_28, p_30, e_31, s_29, x_3, x_3 + x_17 + x_21 + 30, 0, 0, 0, nfE) hD (by rw [hpo.1]; omega)
          have hpo := zPo_set hpo (k := ct.toNat) (x := (ndE, nlE, foE, m_28, p_30, e_31, s_29, x_3, x_3 + x_17 + x_21 + 30, 0, 0, 0, nfE)) (by omega) (by unfold zEk; omega)
          have hP : va_P D zcl (([(qd, .inr (2, [.ref qn, .int (iI ct), .int (iI io), .int (iI fp), .ref qt])), (qt, .inr (1, [.ref qb, .int (iI L)])), (qb, .inl (cB, 20000, .inl f)), (qn, .inl (cE, 64, .inr (.inr (.inr (.inr fe)))))] : va_W) ++ zPl cN (List.set LL ct.toNat ((ad ct.toNat), ndE, nlE, foE, m_28, p_30, e_31, s_29, x_3, x_3 + x_17 + x_21 + 30, 0, 0, 0, nfE))) _ := hP
          have hD : va_D A (([(qd, .inr (2, [.ref qn, .int (iI ct), .int (iI io), .int (iI fp), .ref qt])), (qt, .inr (1, [.ref qb, .int (iI L)])), (qb, .inl (cB, 20000, .inl f)), (qn, .inl (cE, 64, .inr (.inr (.inr (.inr fe)))))] : va_W) ++ zPl cN (List.set LL ct.toNat ((ad ct.toNat), ndE, nlE, foE, m_28, p_30, e_31, s_29, x_3, x_3 + x_17 + x_21 + 30, 0, 0, 0, nfE))) := hD
          have hpn : zPn (zC1 f L) fi ct (List.set LL ct.toNat ((ad ct.toNat), ndE, nlE, foE, m_28, p_30, e_31, s_29, x_3, x_3 + x_17 + x_21 + 30, 0, 0, 0, nfE)) := zPn_set hpn (by omega)
          have hpb : zPb (zC1 f L) cc0 ct (List.set LL ct.toNat ((ad ct.toNat), ndE, nlE, foE, m_28, p_30, e_31, s_29, x_3, x_3 + x_17 + x_21 + 30, 0, 0, 0, nfE)) := zPb_set heE ⟨hp33.1, hp33.2.2.2.1, hp33.2.2.1, hp33.2.1, hp2.1, hda9, rfl, rfl, rfl⟩
          refine lv_iconst (v := iI 0) hx hb d_D_readLocal_144 (by decide) ?_
          refine lv_istore (lv' := [(8, .int (iI 0)), (7, .ref (ad ct.toNat)), (6, .int (iI (x_3 + x_17 + x_21 + 30))), (5, .int (iI x_3)), (3, .long (lI x_3)), (0, .ref qd), (1, .int (iI cc0)), (2, .int (iI fi))]) hx hb d_D_readLocal_145 hl (by decide) rfl (fun ls hl => ?_)
          have lp147 : ∀ (j : Nat) (k : Int) (L2 : List zE) (H : Heap) (locs : List Loc) (ls : Array Slot), (0 ≤ k ∧ k ≤ ct) → (zPo ad L2) → (zPn (zC1 f L) fi ct L2) → (zPb (zC1 f L) cc0 ct L2) → (∀ t : Int, 0 ≤ t → t < k → ¬ zOv (zC1 f L) cc0 (zcp (zC1 f L) fi t.toNat)) → (ct - k < (j : Int)) → va_P D zcl (([(qd, .inr (2, [.ref qn, .int (iI ct), .int (iI io), .int (iI fp), .ref qt])), (qt, .inr (1, [.ref qb, .int (iI L)])), (qb, .inl (cB, 20000, .inl f)), (qn, .inl (cE, 64, .inr (.inr (.inr (.inr fe)))))] : va_W) ++ zPl cN L2) H → va_D A (([(qd, .inr (2, [.ref qn, .int (iI ct), .int (iI io), .int (iI fp), .ref qt])), (qt, .inr (1, [.ref qb, .int (iI L)])), (qb, .inl (cB, 20000, .inl f)), (qn, .inl (cE, 64, .inr (.inr (.inr (.inr fe)))))] : va_W) ++ zPl cN L2) → va_S A s.heap H locs → lv_has ls 9 [(8, .int (iI k)), (7, .ref (ad ct.toNat)), (6, .int (iI (x_3 + x_17 + x_21 + 30))), (5, .int (iI x_3)), (3, .long (lI x_3)), (0, .ref qd), (1, .int (iI cc0)), (2, .int (iI fi))] → W p l e { frames := 3, cells := 0, slots := 0, locals := 67 } s m [.ref qd, .int (iI cc0), .int (iI fi)].toArray below meth c H locs 0 0 (MQ below ((fun A => va_Qi (fun (r : Int32) => fun (u9 : Int × Int × List zE) => match u9 with | (fp1, x, L1) => r = (iI x) ∧ ((zPo ad L1) ∧ (zRl (zC1 f L) fi ct x fp fp1 L1) ∧ -11 ≤ x ∧ x ≤ 0)) (fun u9 t => zB D (((fun (u9 : Int × Int × List zE) => match u9 with | (fp1, x, L1) => [(qd, .inr (2, [.ref qn, .int (iI ct), .int (iI io), .int (iI fp1), .ref qt])), (qt, .inr (1, [.ref qb, .int (iI L)])), (qb, .inl (cB, 20000, .inl f)), (qn, .inl (cE, 64, .inr (.inr (.inr (.inr fe)))))]) u9) ++ ((fun (u9 : Int × Int × List zE) => match u9 with | (fp1, x, L1) => zPl cN L1) u9)) ((fun (u9 : Int × Int × List zE) => match u9 with | (fp1, x, L1) => [(cB, .byte), (cE, .object "ZipGuard$Entry"), (cN, .byte)]) u9) A t) A) A) [.ref qd, .int (iI cc0), .int (iI fi)].toArray s 0 0 A) (F0 m 147 ls []) := by
            intro j
            induction j with
            | zero => intro k L2 H locs ls hk1 hpo hpn hpb hnt hj147 hP hD hS hl; exfalso; omega
            | succ j ih147 =>
              intro k L2 H locs ls hk1 hpo hpn hpb hnt hj147 hP hD hS hl
              refine lv_iload hx hb d_D_readLocal_147 (lv_at hl 0 rfl) ?_
              refine lv_aload_n hx hb d_D_readLocal_149 rfl (lv_at hl 5 rfl) ?_
              refine va_get (ci := 2) (C := "ZipGuard$Directory") (T := F_D) (N := 5) hx hb ht zi_D hown hK hP 0 rfl rfl 1 (by decide) (ht _ zm_181) (fun _ h9 => h9) rfl d_D_readLocal_150 ?_
              refine zv_icmp_ge (tgt := 188) hx hb d_D_readLocal_153 (by decide) (by omega) (by omega) (fun hc_35 => ?_) (fun hc_35 => ?_)
              · skip
                refine lv_iconst (v := iI 0) hx hb d_D_readLocal_188 (by decide) ?_
                exact zretiP hx hb hr hlk hK hP hD hS (fp, 0, L2) [0, 1, 2, 3] [0, 1, 2] rfl (by decide) rfl rfl (⟨rfl, ⟨hpo, Or.inl ⟨rfl, rfl, by rw [← hu]; exact hlo9, fun q => q.elim (fun t q => hnt t q.1 (by omega) (by rw [hu]; exact q.2.2)), zPn_s hpn (by rw [← hu]; exact hpb)⟩, by omega⟩⟩) (Nat.le_of_ble_eq_true rfl) (Nat.le_of_ble_eq_true rfl) d_D_readLocal_189
              · skip
                refine lv_aload hx hb d_D_readLocal_156 (lv_at hl 1 rfl) ?_
                refine lv_aload_n hx hb d_D_readLocal_158 rfl (lv_at hl 5 rfl) ?_
                refine va_get (ci := 2) (C := "ZipGuard$Directory") (T := F_D) (N := 5) hx hb ht zi_D hown hK hP 0 rfl rfl 0 (by decide) (ht _ zm_179) (fun _ h9 => h9) rfl d_D_readLocal_159 ?_
                refine lv_iload hx hb d_D_readLocal_162 (lv_at hl 0 rfl) ?_
                refine zv_aald hx hb hK hP 3 1 hfe rfl rfl (by omega) (by decide) d_D_readLocal_164 ?_
                have hPs := hP
                have hDs := hD
                obtain ⟨⟨ndA, nlA, foA, meA, pkA, szA, suA, lpA, ppA, stA, opA, olA, nfA⟩, hxA, hzA⟩ := hpo.2 ct.toNat (by omega)
                unfold zEk at hzA
                have hP := zpl_out hP hxA
                have hD := zpl_outD hD hxA
                have hP : va_P D zcl (([(qd, .inr (2, [.ref qn, .int (iI ct), .int (iI io), .int (iI fp), .ref qt])), (qt, .inr (1, [.ref qb, .int (iI L)])), (qb, .inl (cB, 20000, .inl f)), (qn, .inl (cE, 64, .inr (.inr (.inr (.inr fe))))), ((ad ct.toNat), .inr (7, [.ref ndA, .int (iI nlA), .int (iI foA), .int (iI meA), .int (iI pkA), .long (lI szA), .int (iI suA), .int (iI lpA), .int (iI ppA), .int (iI stA), .int (iI opA), .int (iI olA)])), (ndA, .inl (cN, 60, .inl nfA))] : va_W) ++ zPl cN (List.eraseIdx L2 ct.toNat)) _ := hP
                have hD : va_D A (([(qd, .inr (2, [.ref qn, .int (iI ct), .int (iI io), .int (iI fp), .ref qt])), (qt, .inr (1, [.ref qb, .int (iI L)])), (qb, .inl (cB, 20000, .inl f)), (qn, .inl (cE, 64, .inr (.inr (.inr (.inr fe))))), ((ad ct.toNat), .inr (7, [.ref ndA, .int (iI nlA), .int (iI foA), .int (iI meA), .int (iI pkA), .long (lI szA), .int (iI suA), .int (iI lpA), .int (iI ppA), .int (iI stA), .int (iI opA), .int (iI olA)])), (ndA, .inl (cN, 60, .inl nfA))] : va_W) ++ zPl cN (List.eraseIdx L2 ct.toNat)) := hD
                obtain ⟨⟨ndB, nlB, foB, meB, pkB, szB, suB, lpB, ppB, stB, opB, olB, nfB⟩, hxB, hzB⟩ := hpo.2 k.toNat (by omega)
                unfold zEk at hzB
                have hyB : (List.eraseIdx L2 ct.toNat)[k.toNat]? = _ := (List.getElem?_eraseIdx_of_lt (by omega)).trans hxB
                have hP := zpl_out hP hyB
                have hD := zpl_outD hD hyB
                have hP : va_P D zcl (([(qd, .inr (2, [.ref qn, .int (iI ct), .int (iI io), .int (iI fp), .ref qt])), (qt, .inr (1, [.ref qb, .int (iI L)])), (qb, .inl (cB, 20000, .inl f)), (qn, .inl (cE, 64, .inr (.inr (.inr (.inr fe))))), ((ad ct.toNat), .inr (7, [.ref ndA, .int (iI nlA), .int (iI foA), .int (iI meA), .int (iI pkA), .long (lI szA), .int (iI suA), .int (iI lpA), .int (iI ppA), .int (iI stA), .int (iI opA), .int (iI olA)])), (ndA, .inl (cN, 60, .inl nfA)), ((ad k.toNat), .inr (7, [.ref ndB, .int (iI nlB), .int (iI foB), .int (iI meB), .int (iI pkB), .long (lI szB), .int (iI suB), .int (iI lpB), .int (iI ppB), .int (iI stB), .int (iI opB), .int (iI olB)])), (ndB, .inl (cN, 60, .inl nfB))] : va_W) ++ zPl cN (List.eraseIdx (List.eraseIdx L2 ct.toNat) k.toNat)) _ := hP
                have hD : va_D A (([(qd, .inr (2, [.ref qn, .int (iI ct), .int (iI io), .int (iI fp), .ref qt])), (qt, .inr (1, [.ref qb, .int (iI L)])), (qb, .inl (cB, 20000, .inl f)), (qn, .inl (cE, 64, .inr (.inr (.inr (.inr fe))))), ((ad ct.toNat), .inr (7, [.ref ndA, .int (iI nlA), .int (iI foA), .int (iI meA), .int (iI pkA), .long (lI szA), .int (iI suA), .int (iI lpA), .int (iI ppA), .int (iI stA), .int (iI opA), .int (iI olA)])), (ndA, .inl (cN, 60, .inl nfA)), ((ad k.toNat), .inr (7, [.ref ndB, .int (iI nlB), .int (iI foB), .int (iI meB), .int (iI pkB), .long (lI szB), .int (iI suB), .int (iI lpB), .int (iI ppB), .int (iI stB), .int (iI opB), .int (iI olB)])), (ndB, .inl (cN, 60, .inl nfB))] : va_W) ++ zPl cN (List.eraseIdx (List.eraseIdx L2 ct.toNat) k.toNat)) := hD
                have heA : meA = zg2 (zC1 f L) (cc0 + 10) ∧ pkA = zg4 (zC1 f L) (cc0 + 20) ∧ szA = zg4 (zC1 f L) (cc0 + 24) ∧ suA = zg4 (zC1 f L) (cc0 + 16) ∧ lpA = zg4 (zC1 f L) (cc0 + 42) ∧ ppA = zDa (zC1 f L) cc0 ∧ stA = 0 ∧ opA = 0 ∧ olA = 0 := (hpb _ hxA).2
                have heB : meB = zg2 (zC1 f L) (zcp (zC1 f L) fi k.toNat + 10) ∧ pkB = zg4 (zC1 f L) (zcp (zC1 f L) fi k.toNat + 20) ∧ szB = zg4 (zC1 f L) (zcp (zC1 f L) fi k.toNat + 24) ∧ suB = zg4 (zC1 f L) (zcp (zC1 f L) fi k.toNat + 16) ∧ lpB = zg4 (zC1 f L) (zcp (zC1 f L) fi k.toNat + 42) ∧ ppB = zDa (zC1 f L) (zcp (zC1 f L) fi k.toNat) ∧ stB = 0 ∧ opB = 0 ∧ olB = 0 := (hpn k _ (by omega) (by omega) hxB).2
                refine zjR (va_runV (As := [.ref (ad k.toNat)]) (rest := []) ⟨hx, hb, hml, hown, ht⟩ (a_E_over l D (ad ct.toNat) ndA nlA foA meA pkA szA suA lpA ppA stA opA olA (ad k.toNat) ndB nlB foB meB pkB szB suB lpB ppB stB opB olB (by omega) (by omega) (by omega) (by omega)) (cwV 1 ht (zt_goodV zm_500 zm_501 zm_502 zm_68 zm_503) rfl rfl rfl (by decide +kernel) ⟨Nat.le_of_ble_eq_true rfl, Nat.le_of_ble_eq_true rfl⟩) (zpreRV zBlind_t hK hP [4, 6] [] rfl rfl (fun _ _ _ => trivial) (va_recv (q := ("ZipGuard$Entry", F_E, 12)) hK hP rfl (q0 := 4) (ci := 7) rfl)) rfl rfl hl.1 rfl (lv_room (Nat.le_of_ble_eq_true rfl)) d_D_readLocal_165 ⟨Nat.le_of_ble_eq_true rfl, Nat.le_of_ble_eq_true rfl⟩) (fun r36 hp37 => ?_)
                obtain ⟨x_38, he_39, hp37⟩ := hp37
                subst he_39
                have hP := hPs
                have hD := hDs
                have hP : va_P D zcl (([(qd, .inr (2, [.ref qn, .int (iI ct), .int (iI io), .int (iI fp), .ref qt])), (qt, .inr (1, [.ref qb, .int (iI L)])), (qb, .inl (cB, 20000, .inl f)), (qn, .inl (cE, 64, .inr (.inr (.inr (.inr fe)))))] : va_W) ++ zPl cN L2) _ := hP
                have hD : va_D A (([(qd, .inr (2, [.ref qn, .int (iI ct), .int (iI io), .int (iI fp), .ref qt])), (qt, .inr (1, [.ref qb, .int (iI L)])), (qb, .inl (cB, 20000, .inl f)), (qn, .inl (cE, 64, .inr (.inr (.inr (.inr fe)))))] : va_W) ++ zPl cN L2) := hD
                have hov9 := zOv_of ⟨heA.2.2.2.2.1, heA.2.2.2.2.2.1, heA.2.1⟩ ⟨heB.2.2.2.2.1, heB.2.2.2.2.2.1, heB.2.1⟩ hp37.1
                refine zv_if_eq (tgt := 182) hx hb d_D_readLocal_168 (by decide) (by omega) (fun hc_40 => ?_) (fun hc_40 => ?_)
                · skip
                  have htf_41 := zTf_f hov9 hc_40
                  refine lv_iinc (k := 0) (v := iI (k + 1)) (lv' := [(8, .int (iI (k + 1))), (7, .ref (ad ct.toNat)), (6, .int (iI (x_3 + x_17 + x_21 + 30))), (5, .int (iI x_3)), (3, .long (lI x_3)), (0, .ref qd), (1, .int (iI cc0)), (2, .int (iI fi))]) hx hb d_D_readLocal_182 hl rfl (zinc (by omega)) (by decide) rfl (fun ls hl => ?_)
                  refine lv_goto (tgt := 147) hx hb d_D_readLocal_185 (by decide) ?_
                  exact ih147 (k + 1) L2 _ _ _ (by omega) hpo hpn hpb (zno_all hnt (by assumption)) (by omega) hP hD hS hl
                · skip
                  have htf_42 := zTf_t hov9 hc_40
                  refine lv_aload_n hx hb d_D_readLocal_171 rfl (lv_at hl 5 rfl) ?_
                  refine lv_bipush (v := iI (-10)) hx hb d_D_readLocal_172 (by decide) ?_
                  refine lv_iload_n hx hb d_D_readLocal_174 rfl (lv_at hl 6 rfl) ?_
                  refine lv_bipush (v := iI 42) hx hb d_D_readLocal_175 (by decide) ?_
                  refine zv_iadd (z := cc0 + 42) hx hb d_D_readLocal_177 (by omega) ?_
                  refine zjiQ (wr := [(qt, .inr (1, [.ref qb, .int (iI L)])), (qb, .inl (cB, 20000, .inl f)), (qn, .inl (cE, 64, .inr (.inr (.inr (.inr fe)))))]) (va_runV (As := [.int (iI (-10)), .int (iI (cc0 + 42))]) (rest := []) ⟨hx, hb, hml, hown, ht⟩ (a_D_fault l D _ qd qn ct io fp qt (-10) (cc0 + 42) ) (cwV 2 ht (zt_goodV zm_435 zm_436 zm_3 zm_67 zm_437) rfl rfl rfl (by decide +kernel) ⟨Nat.le_of_ble_eq_true rfl, Nat.le_of_ble_eq_true rfl⟩) (zpreV zBlind_t hK hP hD [0] [] rfl (by decide) rfl (fun _ _ _ => trivial) (va_recv (q := ("ZipGuard$Directory", F_D, 5)) hK hP rfl (q0 := 0) (ci := 2) rfl)) rfl rfl hl.1 rfl (lv_room (Nat.le_of_ble_eq_true rfl)) d_D_readLocal_178 ⟨Nat.le_of_ble_eq_true rfl, Nat.le_of_ble_eq_true rfl⟩) hK hP hD hS hA [0] [1, 2, 3] rfl rfl (by decide) (by decide) (fun r43 u9 H locs hp44 hP hD hK hS => ?_)
                  have hP : va_P D zcl (([(qt, .inr (1, [.ref qb, .int (iI L)])), (qb, .inl (cB, 20000, .inl f)), (qn, .inl (cE, 64, .inr (.inr (.inr (.inr fe))))), (qd, .inr (2, [.ref qn, .int (iI ct), .int (iI io), .int (iI (cc0 + 42)), .ref qt]))] : va_W) ++ zPl cN L2) H := hP
                  have hD : va_D A (([(qt, .inr (1, [.ref qb, .int (iI L)])), (qb, .inl (cB, 20000, .inl f)), (qn, .inl (cE, 64, .inr (.inr (.inr (.inr fe))))), (qd, .inr (2, [.ref qn, .int (iI ct), .int (iI io), .int (iI (cc0 + 42)), .ref qt]))] : va_W) ++ zPl cN L2) := hD
                  have hK : va_K D zcl [(cB, .byte), (cE, .object "ZipGuard$Entry"), (cN, .byte)] s := hK
                  obtain ⟨he_45, hp44⟩ := hp44
                  subst he_45
                  have hP := hP.part (cx := [(qd, .inr (2, [.ref qn, .int (iI ct), .int (iI io), .int (iI (cc0 + 42)), .ref qt])), (qt, .inr (1, [.ref qb, .int (iI L)])), (qb, .inl (cB, 20000, .inl f)), (qn, .inl (cE, 64, .inr (.inr (.inr (.inr fe)))))]) [3, 0, 1, 2] rfl
                  have hD := hD.part (cx := [(qd, .inr (2, [.ref qn, .int (iI ct), .int (iI io), .int (iI (cc0 + 42)), .ref qt])), (qt, .inr (1, [.ref qb, .int (iI L)])), (qb, .inl (cB, 20000, .inl f)), (qn, .inl (cE, 64, .inr (.inr (.inr (.inr fe)))))]) [3, 0, 1, 2] (by decide) rfl
                  have hK := hK.sub (tys' := [(cB, .byte), (cE, .object "ZipGuard$Entry"), (cN, .byte)]) [0, 1, 2] rfl
                  exact zretiP hx hb hr hlk hK hP hD hS ((cc0 + 42), (-10), L2) [0, 1, 2, 3] [0, 1, 2] rfl (by decide) rfl rfl (⟨rfl, ⟨hpo, Or.inr (Or.inr ⟨rfl, by omega, by rw [← hu]; exact hlo9, ⟨k, by omega, by omega, by rw [← hu]; assumption⟩⟩), by omega⟩⟩) (Nat.le_of_ble_eq_true rfl) (Nat.le_of_ble_eq_true rfl) d_D_readLocal_181
          exact lp147 ((ct - 0 + 1 : Int)).toNat 0 (List.set LL ct.toNat ((ad ct.toNat), ndE, nlE, foE, m_28, p_30, e_31, s_29, x_3, x_3 + x_17 + x_21 + 30, 0, 0, 0, nfE)) _ _ _ (by omega) hpo hpn hpb (fun t h1 h2 => absurd h2 (by omega)) (by omega) hP hD hS hl
        · skip
          refine lv_aload_n hx hb d_D_readLocal_101 rfl (lv_at hl 3 rfl) ?_
          refine lv_bipush (v := iI (-9)) hx hb d_D_readLocal_102 (by decide) ?_
          refine lv_iload_n hx hb d_D_readLocal_104 rfl (lv_at hl 4 rfl) ?_
          refine lv_bipush (v := iI 42) hx hb d_D_readLocal_105 (by decide) ?_
          refine zv_iadd (z := cc0 + 42) hx hb d_D_readLocal_107 (by omega) ?_
          refine zjiQ (wr := [(qt, .inr (1, [.ref qb, .int (iI L)])), (qb, .inl (cB, 20000, .inl f)), (qn, .inl (cE, 64, .inr (.inr (.inr (.inr fe)))))]) (va_runV (As := [.int (iI (-9)), .int (iI (cc0 + 42))]) (rest := []) ⟨hx, hb, hml, hown, ht⟩ (a_D_fault l D _ qd qn ct io fp qt (-9) (cc0 + 42) ) (cwV 2 ht (zt_goodV zm_435 zm_436 zm_3 zm_67 zm_437) rfl rfl rfl (by decide +kernel) ⟨Nat.le_of_ble_eq_true rfl, Nat.le_of_ble_eq_true rfl⟩) (zpreV zBlind_t hK hP hD [0] [] rfl (by decide) rfl (fun _ _ _ => trivial) (va_recv (q := ("ZipGuard$Directory", F_D, 5)) hK hP rfl (q0 := 0) (ci := 2) rfl)) rfl rfl hl.1 rfl (lv_room (Nat.le_of_ble_eq_true rfl)) d_D_readLocal_108 ⟨Nat.le_of_ble_eq_true rfl, Nat.le_of_ble_eq_true rfl⟩) hK hP hD hS hA [0] [1, 2, 3] rfl rfl (by decide) (by decide) (fun r46 u9 H locs hp47 hP hD hK hS => ?_)
          have hP : va_P D zcl (([(qt, .inr (1, [.ref qb, .int (iI L)])), (qb, .inl (cB, 20000, .inl f)), (qn, .inl (cE, 64, .inr (.inr (.inr (.inr fe))))), (qd, .inr (2, [.ref qn, .int (iI ct), .int (iI io), .int (iI (cc0 + 42)), .ref qt]))] : va_W) ++ zPl cN LL) H := hP
          have hD : va_D A (([(qt, .inr (1, [.ref qb, .int (iI L)])), (qb, .inl (cB, 20000, .inl f)), (qn, .inl (cE, 64, .inr (.inr (.inr (.inr fe))))), (qd, .inr (2, [.ref qn, .int (iI ct), .int (iI io), .int (iI (cc0 + 42)), .ref qt]))] : va_W) ++ zPl cN LL) := hD
          have hK : va_K D zcl [(cB, .byte), (cE, .object "ZipGuard$Entry"), (cN, .byte)] s := hK
          obtain ⟨he_48, hp47⟩ := hp47
          subst he_48
          have hP := hP.part (cx := [(qd, .inr (2, [.ref qn, .int (iI ct), .int (iI io), .int (iI (cc0 + 42)), .ref qt])), (qt, .inr (1, [.ref qb, .int (iI L)])), (qb, .inl (cB, 20000, .inl f)), (qn, .inl (cE, 64, .inr (.inr (.inr (.inr fe)))))]) [3, 0, 1, 2] rfl
          have hD := hD.part (cx := [(qd, .inr (2, [.ref qn, .int (iI ct), .int (iI io), .int (iI (cc0 + 42)), .ref qt])), (qt, .inr (1, [.ref qb, .int (iI L)])), (qb, .inl (cB, 20000, .inl f)), (qn, .inl (cE, 64, .inr (.inr (.inr (.inr fe)))))]) [3, 0, 1, 2] (by decide) rfl
          have hK := hK.sub (tys' := [(cB, .byte), (cE, .object "ZipGuard$Entry"), (cN, .byte)]) [0, 1, 2] rfl
          exact zretiP hx hb hr hlk hK hP hD hS ((cc0 + 42), (-9), LL) [0, 1, 2, 3] [0, 1, 2] rfl (by decide) rfl rfl (⟨rfl, ⟨hpo, Or.inr (Or.inl ⟨rfl, by omega, by rw [← hu]; have q7 := hp2.1; subst q7; exact fun q => by have q6 := q.2.2.2.2.2; unfold zDa at q6; omega⟩), by omega⟩⟩) (Nat.le_of_ble_eq_true rfl) (Nat.le_of_ble_eq_true rfl) d_D_readLocal_111
      · skip
        have htf_49 := zTf_f hp10.1 hc_13
        refine lv_aload_n hx hb d_D_readLocal_33 rfl (lv_at hl 1 rfl) ?_
        refine lv_bipush (v := iI (-9)) hx hb d_D_readLocal_34 (by decide) ?_
        refine lv_iload_n hx hb d_D_readLocal_36 rfl (lv_at hl 2 rfl) ?_
        refine lv_bipush (v := iI 42) hx hb d_D_readLocal_37 (by decide) ?_
        refine zv_iadd (z := cc0 + 42) hx hb d_D_readLocal_39 (by omega) ?_
        refine zjiQ (wr := [(qt, .inr (1, [.ref qb, .int (iI L)])), (qb, .inl (cB, 20000, .inl f)), (qn, .inl (cE, 64, .inr (.inr (.inr (.inr fe)))))]) (va_runV (As := [.int (iI (-9)), .int (iI (cc0 + 42))]) (rest := []) ⟨hx, hb, hml, hown, ht⟩ (a_D_fault l D _ qd qn ct io fp qt (-9) (cc0 + 42) ) (cwV 2 ht (zt_goodV zm_435 zm_436 zm_3 zm_67 zm_437) rfl rfl rfl (by decide +kernel) ⟨Nat.le_of_ble_eq_true rfl, Nat.le_of_ble_eq_true rfl⟩) (zpreV zBlind_t hK hP hD [0] [] rfl (by decide) rfl (fun _ _ _ => trivial) (va_recv (q := ("ZipGuard$Directory", F_D, 5)) hK hP rfl (q0 := 0) (ci := 2) rfl)) rfl rfl hl.1 rfl (lv_room (Nat.le_of_ble_eq_true rfl)) d_D_readLocal_40 ⟨Nat.le_of_ble_eq_true rfl, Nat.le_of_ble_eq_true rfl⟩) hK hP hD hS hA [0] [1, 2, 3] rfl rfl (by decide) (by decide) (fun r50 u9 H locs hp51 hP hD hK hS => ?_)
        have hP : va_P D zcl (([(qt, .inr (1, [.ref qb, .int (iI L)])), (qb, .inl (cB, 20000, .inl f)), (qn, .inl (cE, 64, .inr (.inr (.inr (.inr fe))))), (qd, .inr (2, [.ref qn, .int (iI ct), .int (iI io), .int (iI (cc0 + 42)), .ref qt]))] : va_W) ++ zPl cN LL) H := hP
        have hD : va_D A (([(qt, .inr (1, [.ref qb, .int (iI L)])), (qb, .inl (cB, 20000, .inl f)), (qn, .inl (cE, 64, .inr (.inr (.inr (.inr fe))))), (qd, .inr (2, [.ref qn, .int (iI ct), .int (iI io), .int (iI (cc0 + 42)), .ref qt]))] : va_W) ++ zPl cN LL) := hD
        have hK : va_K D zcl [(cB, .byte), (cE, .object "ZipGuard$Entry"), (cN, .byte)] s := hK
        obtain ⟨he_52, hp51⟩ := hp51
        subst he_52
        have hP := hP.part (cx := [(qd, .inr (2, [.ref qn, .int (iI ct), .int (iI io), .int (iI (cc0 + 42)), .ref qt])), (qt, .inr (1, [.ref qb, .int (iI L)])), (qb, .inl (cB, 20000, .inl f)), (qn, .inl (cE, 64, .inr (.inr (.inr (.inr fe)))))]) [3, 0, 1, 2] rfl
        have hD := hD.part (cx := [(qd, .inr (2, [.ref qn, .int (iI ct), .int (iI io), .int (iI (cc0 + 42)), .ref qt])), (qt, .inr (1, [.ref qb, .int (iI L)])), (qb, .inl (cB, 20000, .inl f)), (qn, .inl (cE, 64, .inr (.inr (.inr (.inr fe)))))]) [3, 0, 1, 2] (by decide) rfl
        have hK := hK.sub (tys' := [(cB, .byte), (cE, .object "ZipGuard$Entry"), (cN, .byte)]) [0, 1, 2] rfl
        exact zretiP hx hb hr hlk hK hP hD hS ((cc0 + 42), (-9), LL) [0, 1, 2, 3] [0, 1, 2] rfl (by decide) rfl rfl (⟨rfl, ⟨hpo, Or.inr (Or.inl ⟨rfl, by omega, by rw [← hu]; have q7 := hp2.1; subst q7; exact fun q => by first | (have q6 := q.1; omega) | exact zTf_f hp10.1 (by omega) ⟨q.2.1, q.2.2.1, q.2.2.2.1, q.2.2.2.2.1⟩⟩), by omega⟩⟩) (Nat.le_of_ble_eq_true rfl) (Nat.le_of_ble_eq_true rfl) d_D_readLocal_43)
set_option maxHeartbeats 4000000 in
set_option maxRecDepth 100000 in
theorem a_D_re (l : Launch) (D : va_G) (sz : Nat) (qd : Nat) (qn : Nat) (ct : Int) (io : Int) (fp : Int) (qt : Nat) (qb : Nat) (cB : ClassId) (f : Nat → Int32) (L : Int) (cE : ClassId) (cN : ClassId) (fe : Nat → Option Nat) (ad : Nat → Nat) (LL : List zE) (ee : Int) (hL : 0 ≤ L ∧ L ≤ 20000) (hpo : zPo ad LL) (hfe : ∀ k : Nat, k < 64 → fe k = some (ad k)) (hee : 0 ≤ ee ∧ ee ≤ 20000) (hz1 : zg4 (zC1 f L) (ee + 12) + zg4 (zC1 f L) (ee + 16) = ee) (hz0 : 0 ≤ zg4 (zC1 f L) (ee + 12) ∧ 0 ≤ zg2 (zC1 f L) (ee + 10) ∧ zg2 (zC1 f L) (ee + 10) ≤ 64) : Met l y_D_readEntries (Cond.code y_D_readEntries prog_4_method_7_code 6 (Option.some Jvm.ClassFile.FieldType.int) :: zt) { frames := 4, cells := 0, slots := 0, locals := 96 } (zPc [.ref qd, .int (iI ee)] D (([(qd, .inr (2, [.ref qn, .int (iI ct), .int (iI io), .int (iI fp), .ref qt])), (qt, .inr (1, [.ref qb, .int (iI L)])), (qb, .inl (cB, 20000, .inl f)), (qn, .inl (cE, 64, .inr (.inr (.inr (.inr fe)))))] : va_W) ++ zPl cN LL) [(cB, .byte), (cE, .object "ZipGuard$Entry"), (cN, .byte)] sz (fun _ => True)) (va_Qi (fun (r : Int32) => fun (u9 : Int × Int × Int × List zE) => match u9 with | (fp1, x, ct1, L1) => r = (iI x) ∧ ((zPo ad L1) ∧ (zQe (zC1 f L) ee x fp fp1 ct1 L1) ∧ -11 ≤ x ∧ x ≤ 0 ∧ 0 ≤ ct1 ∧ ct1 ≤ 64)) (fun u9 t => zB D (((fun (u9 : Int × Int × Int × List zE) => match u9 with | (fp1, x, ct1, L1) => [(qd, .inr (2, [.ref qn, .int (iI ct1), .int (iI io), .int (iI fp1), .ref qt])), (qt, .inr (1, [.ref qb, .int (iI L)])), (qb, .inl (cB, 20000, .inl f)), (qn, .inl (cE, 64, .inr (.inr (.inr (.inr fe)))))]) u9) ++ ((fun (u9 : Int × Int × Int × List zE) => match u9 with | (fp1, x, ct1, L1) => zPl cN L1) u9)) ((fun (u9 : Int × Int × Int × List zE) => match u9 with | (fp1, x, ct1, L1) => [(cB, .byte), (cE, .object "ZipGuard$Entry"), (cN, .byte)]) u9) (va_A (([(qd, .inr (2, [.ref qn, .int (iI ct), .int (iI io), .int (iI fp), .ref qt])), (qt, .inr (1, [.ref qb, .int (iI L)])), (qb, .inl (cB, 20000, .inl f)), (qn, .inl (cE, 64, .inr (.inr (.inr (.inr fe)))))] : va_W) ++ zPl cN LL) sz) t) (va_A (([(qd, .inr (2, [.ref qn, .int (iI ct), .int (iI io), .int (iI fp), .ref qt])), (qt, .inr (1, [.ref qb, .int (iI L)])), (qb, .inl (cB, 20000, .inl f)), (qn, .inl (cE, 64, .inr (.inr (.inr (.inr fe)))))] : va_W) ++ zPl cN LL) sz)) 0 0 (va_A (([(qd, .inr (2, [.ref qn, .int (iI ct), .int (iI io), .int (iI fp), .ref qt])), (qt, .inr (1, [.ref qb, .int (iI L)])), (qb, .inl (cB, 20000, .inl f)), (qn, .inl (cE, 64, .inr (.inr (.inr (.inr fe)))))] : va_W) ++ zPl cN LL) sz) :=
  zMet (Qf := fun A => va_Qi (fun (r : Int32) => fun (u9 : Int × Int × Int × List zE) => match u9 with | (fp1, x, ct1, L1) => r = (iI x) ∧ ((zPo ad L1) ∧ (zQe (zC1 f L) ee x fp fp1 ct1 L1) ∧ -11 ≤ x ∧ x ≤ 0 ∧ 0 ≤ ct1 ∧ ct1 ≤ 64)) (fun u9 t => zB D (((fun (u9 : Int × Int × Int × List zE) => match u9 with | (fp1, x, ct1, L1) => [(qd, .inr (2, [.ref qn, .int (iI ct1), .int (iI io), .int (iI fp1), .ref qt])), (qt, .inr (1, [.ref qb, .int (iI L)])), (qb, .inl (cB, 20000, .inl f)), (qn, .inl (cE, 64, .inr (.inr (.inr (.inr fe)))))]) u9) ++ ((fun (u9 : Int × Int × Int × List zE) => match u9 with | (fp1, x, ct1, L1) => zPl cN L1) u9)) ((fun (u9 : Int × Int × Int × List zE) => match u9 with | (fp1, x, ct1, L1) => [(cB, .byte), (cE, .object "ZipGuard$Entry"), (cN, .byte)]) u9) A t) A) (by decide) (Nat.le_of_ble_eq_true rfl) (fun p e s m below meth c A ls hx hb hr hml hown ht hlk hnm hA hK hP hD hX hl => by
    have hS : va_S A s.heap s.heap [] := va_S.rf
    have hl : lv_has ls 6 [(0, .ref qd), (1, .int (iI ee))] := hl
    refine lv_aload_n hx hb d_D_readEntries_0 rfl (lv_at hl 0 rfl) ?_
    refine va_get (ci := 2) (C := "ZipGuard$Directory") (T := F_D) (N := 5) hx hb ht zi_D hown hK hP 0 rfl rfl 4 (by decide) (ht _ zm_187) (fun _ h9 => h9) rfl d_D_readEntries_1 ?_
    refine lv_iload_n hx hb d_D_readEntries_4 rfl (lv_at hl 1 rfl) ?_
    refine lv_bipush (v := iI 16) hx hb d_D_readEntries_5 (by decide) ?_
    refine zv_iadd (z := ee + 16) hx hb d_D_readEntries_7 (by omega) ?_
    refine zjRl (va_runV (As := [.int (iI (ee + 16))]) (rest := []) ⟨hx, hb, hml, hown, ht⟩ (a_T_four l D qt qb cB f L (ee + 16) (by omega) (by omega)) (cwV 1 ht (zt_goodV zm_441 zm_442 zm_443 zm_66 zm_444) rfl rfl rfl (by decide +kernel) ⟨Nat.le_of_ble_eq_true rfl, Nat.le_of_ble_eq_true rfl⟩) (zpreRV zBlind_t hK hP [1, 2] [0] rfl rfl (fun _ _ _ => trivial) (va_recv (q := ("ZipGuard$Tape", F_T, 2)) hK hP rfl (q0 := 1) (ci := 1) rfl)) rfl rfl hl.1 rfl (lv_room (Nat.le_of_ble_eq_true rfl)) d_D_readEntries_8 ⟨Nat.le_of_ble_eq_true rfl, Nat.le_of_ble_eq_true rfl⟩) (fun r1 hp2 => ?_)
    obtain ⟨x_3, he_4, hp2⟩ := hp2
    subst he_4
    refine zv_l2i hx hb d_D_readEntries_11 ?_
    refine lv_istore_n (lv' := [(2, .int (iI x_3)), (0, .ref qd), (1, .int (iI ee))]) hx hb d_D_readEntries_12 rfl hl (by decide) rfl (fun ls hl => ?_)
    refine lv_aload_n hx hb d_D_readEntries_13 rfl (lv_at hl 1 rfl) ?_
    refine va_get (ci := 2) (C := "ZipGuard$Directory") (T := F_D) (N := 5) hx hb ht zi_D hown hK hP 0 rfl rfl 4 (by decide) (ht _ zm_187) (fun _ h9 => h9) rfl d_D_readEntries_14 ?_
    refine lv_iload_n hx hb d_D_readEntries_17 rfl (lv_at hl 2 rfl) ?_
    refine lv_bipush (v := iI 10) hx hb d_D_readEntries_18 (by decide) ?_
    refine zv_iadd (z := ee + 10) hx hb d_D_readEntries_20 (by omega) ?_
    refine zjR (va_runV (As := [.int (iI (ee + 10))]) (rest := []) ⟨hx, hb, hml, hown, ht⟩ (a_T_two l D qt qb cB f L (ee + 10) (by omega) (by omega)) (cwV 1 ht (zt_goodV zm_431 zm_432 zm_433 zm_66 zm_434) rfl rfl rfl (by decide +kernel) ⟨Nat.le_of_ble_eq_true rfl, Nat.le_of_ble_eq_true rfl⟩) (zpreRV zBlind_t hK hP [1, 2] [0] rfl rfl (fun _ _ _ => trivial) (va_recv (q := ("ZipGuard$Tape", F_T, 2)) hK hP rfl (q0 := 1) (ci := 1) rfl)) rfl rfl hl.1 rfl (lv_room (Nat.le_of_ble_eq_true rfl)) d_D_readEntries_21 ⟨Nat.le_of_ble_eq_true rfl, Nat.le_of_ble_eq_true rfl⟩) (fun r5 hp6 => ?_)
    obtain ⟨x_7, he_8, hp6⟩ := hp6
    subst he_8
    refine lv_istore_n (lv' := [(3, .int (iI x_7)), (2, .int (iI x_3)), (0, .ref qd), (1, .int (iI ee))]) hx hb d_D_readEntries_24 rfl hl (by decide) rfl (fun ls hl => ?_)
    refine lv_iload_n hx hb d_D_readEntries_25 rfl (lv_at hl 1 rfl) ?_
    refine lv_istore (lv' := [(4, .int (iI x_3)), (3, .int (iI x_7)), (2, .int (iI x_3)), (0, .ref qd), (1, .int (iI ee))]) hx hb d_D_readEntries_26 hl (by decide) rfl (fun ls hl => ?_)
    have jn_9 : ∀ (cr : Int) (kr : Int) (fp9 : Int) (L9 : List zE) (H : Heap) (locs : List Loc) (ls : Array Slot), (0 ≤ kr ∧ kr = x_7) → (0 ≤ cr ∧ cr ≤ 20000) → (fp9 = fp) → (cr = zcp (zC1 f L) x_3 kr.toNat) → (zPo ad L9) → (zPn (zC1 f L) x_3 kr L9) → (∀ i : Int, 0 ≤ i → i < kr → zEo (zC1 f L) x_3 ee i) → va_P D zcl (([(qd, .inr (2, [.ref qn, .int (iI kr), .int (iI io), .int (iI fp9), .ref qt])), (qt, .inr (1, [.ref qb, .int (iI L)])), (qb, .inl (cB, 20000, .inl f)), (qn, .inl (cE, 64, .inr (.inr (.inr (.inr fe)))))] : va_W) ++ zPl cN L9) H → va_D A (([(qd, .inr (2, [.ref qn, .int (iI kr), .int (iI io), .int (iI fp9), .ref qt])), (qt, .inr (1, [.ref qb, .int (iI L)])), (qb, .inl (cB, 20000, .inl f)), (qn, .inl (cE, 64, .inr (.inr (.inr (.inr fe)))))] : va_W) ++ zPl cN L9) → va_S A s.heap H locs → lv_has ls 6 [(3, .int (iI x_7)), (2, .int (iI x_3)), (0, .ref qd), (1, .int (iI ee)), (4, .int (iI cr))] → W p l e { frames := 4, cells := 0, slots := 0, locals := 96 } s m [.ref qd, .int (iI ee)].toArray below meth c H locs 0 0 (MQ below ((fun A => va_Qi (fun (r : Int32) => fun (u9 : Int × Int × Int × List zE) => match u9 with | (fp1, x, ct1, L1) => r = (iI x) ∧ ((zPo ad L1) ∧ (zQe (zC1 f L) ee x fp fp1 ct1 L1) ∧ -11 ≤ x ∧ x ≤ 0 ∧ 0 ≤ ct1 ∧ ct1 ≤ 64)) (fun u9 t => zB D (((fun (u9 : Int × Int × Int × List zE) => match u9 with | (fp1, x, ct1, L1) => [(qd, .inr (2, [.ref qn, .int (iI ct1), .int (iI io), .int (iI fp1), .ref qt])), (qt, .inr (1, [.ref qb, .int (iI L)])), (qb, .inl (cB, 20000, .inl f)), (qn, .inl (cE, 64, .inr (.inr (.inr (.inr fe)))))]) u9) ++ ((fun (u9 : Int × Int × Int × List zE) => match u9 with | (fp1, x, ct1, L1) => zPl cN L1) u9)) ((fun (u9 : Int × Int × Int × List zE) => match u9 with | (fp1, x, ct1, L1) => [(cB, .byte), (cE, .object "ZipGuard$Entry"), (cN, .byte)]) u9) A t) A) A) [.ref qd, .int (iI ee)].toArray s 0 0 A) (F0 m 143 ls []) := by
      intro cr kr fp9 L9 H locs ls hk9 hcr hfp9 hcp9 hpo hpn heo hP hD hS hl
      refine lv_iload hx hb d_D_readEntries_143 (lv_at hl 4 rfl) ?_
      refine lv_iload_n hx hb d_D_readEntries_145 rfl (lv_at hl 3 rfl) ?_
      refine zv_icmp_ne (tgt := 153) hx hb d_D_readEntries_146 (by decide) (by omega) (by omega) (fun hc_10 => ?_) (fun hc_10 => ?_)
      · skip
        refine lv_aload_n hx hb d_D_readEntries_153 rfl (lv_at hl 2 rfl) ?_
        refine lv_bipush (v := iI (-11)) hx hb d_D_readEntries_154 (by decide) ?_
        refine lv_iload hx hb d_D_readEntries_156 (lv_at hl 4 rfl) ?_
        refine zjiQ (wr := [(qt, .inr (1, [.ref qb, .int (iI L)])), (qb, .inl (cB, 20000, .inl f)), (qn, .inl (cE, 64, .inr (.inr (.inr (.inr fe)))))]) (va_runV (As := [.int (iI (-11)), .int (iI cr)]) (rest := []) ⟨hx, hb, hml, hown, ht⟩ (a_D_fault l D _ qd qn kr io fp9 qt (-11) cr ) (cwV 2 ht (zt_goodV zm_435 zm_436 zm_3 zm_67 zm_437) rfl rfl rfl (by decide +kernel) ⟨Nat.le_of_ble_eq_true rfl, Nat.le_of_ble_eq_true rfl⟩) (zpreV zBlind_t hK hP hD [0] [] rfl (by decide) rfl (fun _ _ _ => trivial) (va_recv (q := ("ZipGuard$Directory", F_D, 5)) hK hP rfl (q0 := 0) (ci := 2) rfl)) rfl rfl hl.1 rfl (lv_room (Nat.le_of_ble_eq_true rfl)) d_D_readEntries_158 ⟨Nat.le_of_ble_eq_true rfl, Nat.le_of_ble_eq_true rfl⟩) hK hP hD hS hA [0] [1, 2, 3] rfl rfl (by decide) (by decide) (fun r11 u9 H locs hp12 hP hD hK hS => ?_)
        have hP : va_P D zcl (([(qt, .inr (1, [.ref qb, .int (iI L)])), (qb, .inl (cB, 20000, .inl f)), (qn, .inl (cE, 64, .inr (.inr (.inr (.inr fe))))), (qd, .inr (2, [.ref qn, .int (iI kr), .int (iI io), .int (iI cr), .ref qt]))] : va_W) ++ zPl cN L9) H := hP
        have hD : va_D A (([(qt, .inr (1, [.ref qb, .int (iI L)])), (qb, .inl (cB, 20000, .inl f)), (qn, .inl (cE, 64, .inr (.inr (.inr (.inr fe))))), (qd, .inr (2, [.ref qn, .int (iI kr), .int (iI io), .int (iI cr), .ref qt]))] : va_W) ++ zPl cN L9) := hD
        have hK : va_K D zcl [(cB, .byte), (cE, .object "ZipGuard$Entry"), (cN, .byte)] s := hK
        obtain ⟨he_13, hp12⟩ := hp12
        subst he_13
        have hP := hP.part (cx := [(qd, .inr (2, [.ref qn, .int (iI kr), .int (iI io), .int (iI cr), .ref qt])), (qt, .inr (1, [.ref qb, .int (iI L)])), (qb, .inl (cB, 20000, .inl f)), (qn, .inl (cE, 64, .inr (.inr (.inr (.inr fe)))))]) [3, 0, 1, 2] rfl
        have hD := hD.part (cx := [(qd, .inr (2, [.ref qn, .int (iI kr), .int (iI io), .int (iI cr), .ref qt])), (qt, .inr (1, [.ref qb, .int (iI L)])), (qb, .inl (cB, 20000, .inl f)), (qn, .inl (cE, 64, .inr (.inr (.inr (.inr fe)))))]) [3, 0, 1, 2] (by decide) rfl
        have hK := hK.sub (tys' := [(cB, .byte), (cE, .object "ZipGuard$Entry"), (cN, .byte)]) [0, 1, 2] rfl
        exact zretiP hx hb hr hlk hK hP hD hS (cr, (-11), kr, L9) [0, 1, 2, 3] [0, 1, 2] rfl (by decide) rfl rfl (⟨rfl, ⟨hpo, by have q1 := hp2.1; have q2 := hp6.1; subst q1; subst q2; exact Or.inl ⟨by omega, ⟨kr, by omega, by omega, heo, Or.inr (Or.inr ⟨by omega, by omega, rfl, by omega⟩)⟩⟩, by omega⟩⟩) (Nat.le_of_ble_eq_true rfl) (Nat.le_of_ble_eq_true rfl) d_D_readEntries_161
      · skip
        refine lv_iconst (v := iI 0) hx hb d_D_readEntries_149 (by decide) ?_
        refine lv_goto (tgt := 161) hx hb d_D_readEntries_150 (by decide) ?_
        exact zretiP hx hb hr hlk hK hP hD hS (fp9, 0, kr, L9) [0, 1, 2, 3] [0, 1, 2] rfl (by decide) rfl rfl (⟨rfl, ⟨hpo, by have q1 := hp2.1; have q2 := hp6.1; subst q1; subst q2; exact Or.inr ⟨rfl, by omega, ⟨kr, by omega, by omega, heo, Or.inr (Or.inl ⟨by omega, by omega, rfl, rfl⟩)⟩, hpn⟩, by omega⟩⟩) (Nat.le_of_ble_eq_true rfl) (Nat.le_of_ble_eq_true rfl) d_D_readEntries_161
    refine lv_aload_n hx hb d_D_readEntries_28 rfl (lv_at hl 3 rfl) ?_
    refine lv_iconst (v := iI 0) hx hb d_D_readEntries_29 (by decide) ?_
    refine va_put (ci := 2) (v := .int (iI 0)) (ty := .int) (C := "ZipGuard$Directory") (T := F_D) (N := 5) hx hb ht zi_D ty_D tk_D nm_D hown hK hP hD hS 0 rfl rfl 1 (by decide) (ht _ zm_181) (fun _ h9 => h9) rfl (by decide +kernel) rfl rfl (Nat.le_of_ble_eq_true rfl) d_D_readEntries_30 (fun H locs hP hD hS => ?_)
    have hP : va_P D zcl (([(qd, .inr (2, [.ref qn, .int (iI 0), .int (iI io), .int (iI fp), .ref qt])), (qt, .inr (1, [.ref qb, .int (iI L)])), (qb, .inl (cB, 20000, .inl f)), (qn, .inl (cE, 64, .inr (.inr (.inr (.inr fe)))))] : va_W) ++ zPl cN LL) H := hP
    have hD : va_D A (([(qd, .inr (2, [.ref qn, .int (iI 0), .int (iI io), .int (iI fp), .ref qt])), (qt, .inr (1, [.ref qb, .int (iI L)])), (qb, .inl (cB, 20000, .inl f)), (qn, .inl (cE, 64, .inr (.inr (.inr (.inr fe)))))] : va_W) ++ zPl cN LL) := hD
    have lp33 : ∀ (j : Nat) (cq : Int) (k : Int) (fp2 : Int) (L2 : List zE) (H : Heap) (locs : List Loc) (ls : Array Slot), (0 ≤ k ∧ k ≤ x_7) → (0 ≤ cq ∧ cq ≤ 20000) → (fp2 = fp) → (cq = zcp (zC1 f L) x_3 k.toNat) → (zPo ad L2) → (zPn (zC1 f L) x_3 k L2) → (∀ i : Int, 0 ≤ i → i < k → zEo (zC1 f L) x_3 ee i) → (64 - k < (j : Int)) → va_P D zcl (([(qd, .inr (2, [.ref qn, .int (iI k), .int (iI io), .int (iI fp2), .ref qt])), (qt, .inr (1, [.ref qb, .int (iI L)])), (qb, .inl (cB, 20000, .inl f)), (qn, .inl (cE, 64, .inr (.inr (.inr (.inr fe)))))] : va_W) ++ zPl cN L2) H → va_D A (([(qd, .inr (2, [.ref qn, .int (iI k), .int (iI io), .int (iI fp2), .ref qt])), (qt, .inr (1, [.ref qb, .int (iI L)])), (qb, .inl (cB, 20000, .inl f)), (qn, .inl (cE, 64, .inr (.inr (.inr (.inr fe)))))] : va_W) ++ zPl cN L2) → va_S A s.heap H locs → lv_has ls 6 [(4, .int (iI cq)), (3, .int (iI x_7)), (2, .int (iI x_3)), (0, .ref qd), (1, .int (iI ee))] → W p l e { frames := 4, cells := 0, slots := 0, locals := 96 } s m [.ref qd, .int (iI ee)].toArray below meth c H locs 0 0 (MQ below ((fun A => va_Qi (fun (r : Int32) => fun (u9 : Int × Int × Int × List zE) => match u9 with | (fp1, x, ct1, L1) => r = (iI x) ∧ ((zPo ad L1) ∧ (zQe (zC1 f L) ee x fp fp1 ct1 L1) ∧ -11 ≤ x ∧ x ≤ 0 ∧ 0 ≤ ct1 ∧ ct1 ≤ 64)) (fun u9 t => zB D (((fun (u9 : Int × Int × Int × List zE) => match u9 with | (fp1, x, ct1, L1) => [(qd, .inr (2, [.ref qn, .int (iI ct1), .int (iI io), .int (iI fp1), .ref qt])), (qt, .inr (1, [.ref qb, .int (iI L)])), (qb, .inl (cB, 20000, .inl f)), (qn, .inl (cE, 64, .inr (.inr (.inr (.inr fe)))))]) u9) ++ ((fun (u9 : Int × Int × Int × List zE) => match u9 with | (fp1, x, ct1, L1) => zPl cN L1) u9)) ((fun (u9 : Int × Int × Int × List zE) => match u9 with | (fp1, x, ct1, L1) => [(cB, .byte), (cE, .object "ZipGuard$Entry"), (cN, .byte)]) u9) A t) A) A) [.ref qd, .int (iI ee)].toArray s 0 0 A) (F0 m 33 ls []) := by
      intro j
      induction j with
      | zero => intro cq k fp2 L2 H locs ls hk1 hcq hfp hcp hpo hpn heo hj33 hP hD hS hl; exfalso; omega
      | succ j ih33 =>
        intro cq k fp2 L2 H locs ls hk1 hcq hfp hcp hpo hpn heo hj33 hP hD hS hl
        refine lv_aload_n hx hb d_D_readEntries_33 rfl (lv_at hl 3 rfl) ?_
        refine va_get (ci := 2) (C := "ZipGuard$Directory") (T := F_D) (N := 5) hx hb ht zi_D hown hK hP 0 rfl rfl 1 (by decide) (ht _ zm_181) (fun _ h9 => h9) rfl d_D_readEntries_34 ?_
        refine lv_iload_n hx hb d_D_readEntries_37 rfl (lv_at hl 1 rfl) ?_
        refine zv_icmp_ge (tgt := 143) hx hb d_D_readEntries_38 (by decide) (by omega) (by omega) (fun hc_14 => ?_) (fun hc_14 => ?_)
        · skip
          exact jn_9 cq k fp2 L2 _ _ _ (by omega) (by omega) (by omega) (by omega) hpo hpn heo hP hD hS (lv_sub hl [1, 2, 3, 4, 0] rfl)
        · skip
          refine lv_aload_n hx hb d_D_readEntries_41 rfl (lv_at hl 3 rfl) ?_
          refine va_get (ci := 2) (C := "ZipGuard$Directory") (T := F_D) (N := 5) hx hb ht zi_D hown hK hP 0 rfl rfl 1 (by decide) (ht _ zm_181) (fun _ h9 => h9) rfl d_D_readEntries_42 ?_
          refine lv_bipush (v := iI 64) hx hb d_D_readEntries_45 (by decide) ?_
          refine zv_icmp_ge (tgt := 143) hx hb d_D_readEntries_47 (by decide) (by omega) (by omega) (fun hc_15 => ?_) (fun hc_15 => ?_)
          · skip
            exact jn_9 cq k fp2 L2 _ _ _ (by omega) (by omega) (by omega) (by omega) hpo hpn heo hP hD hS (lv_sub hl [1, 2, 3, 4, 0] rfl)
          · skip
            refine lv_aload_n hx hb d_D_readEntries_50 rfl (lv_at hl 3 rfl) ?_
            refine lv_iload hx hb d_D_readEntries_51 (lv_at hl 0 rfl) ?_
            refine lv_iload_n hx hb d_D_readEntries_53 rfl (lv_at hl 4 rfl) ?_
            refine zjiQ (wr := [(qn, .inl (cE, 64, .inr (.inr (.inr (.inr fe)))))]) (va_runV (As := [.int (iI cq), .int (iI ee)]) (rest := []) ⟨hx, hb, hml, hown, ht⟩ (a_D_cs l D _ qd qn k io fp2 qt qb cB f L cq ee (by omega) (by omega) (by omega)) (cwV 2 ht (zt_goodV zm_448 zm_449 zm_6 zm_67 zm_450) rfl rfl rfl (by decide +kernel) ⟨Nat.le_of_ble_eq_true rfl, Nat.le_of_ble_eq_true rfl⟩) (zpreV zBlind_t hK hP hD [0, 1, 2] [0] rfl (by decide) rfl (fun _ _ _ => trivial) (va_recv (q := ("ZipGuard$Directory", F_D, 5)) hK hP rfl (q0 := 0) (ci := 2) rfl)) rfl rfl hl.1 rfl (lv_room (Nat.le_of_ble_eq_true rfl)) d_D_readEntries_54 ⟨Nat.le_of_ble_eq_true rfl, Nat.le_of_ble_eq_true rfl⟩) hK hP hD hS hA [0, 1, 2] [3] rfl rfl (by decide) (by decide) (fun r18 u9 H locs hp19 hP hD hK hS => ?_)
            obtain ⟨f_16, x_17⟩ := u9
            dsimp only at hp19 hP hD hK
            have hP : va_P D zcl (([(qn, .inl (cE, 64, .inr (.inr (.inr (.inr fe))))), (qd, .inr (2, [.ref qn, .int (iI k), .int (iI io), .int (iI f_16), .ref qt])), (qt, .inr (1, [.ref qb, .int (iI L)])), (qb, .inl (cB, 20000, .inl f))] : va_W) ++ zPl cN L2) H := hP
            have hD : va_D A (([(qn, .inl (cE, 64, .inr (.inr (.inr (.inr fe))))), (qd, .inr (2, [.ref qn, .int (iI k), .int (iI io), .int (iI f_16), .ref qt])), (qt, .inr (1, [.ref qb, .int (iI L)])), (qb, .inl (cB, 20000, .inl f))] : va_W) ++ zPl cN L2) := hD
            have hK : va_K D zcl [(cB, .byte), (cE, .object "ZipGuard$Entry"), (cN, .byte), (cB, .byte)] s := hK
            obtain ⟨he_20, hp19⟩ := hp19
            subst he_20
            have hP := hP.part (cx := [(qd, .inr (2, [.ref qn, .int (iI k), .int (iI io), .int (iI f_16), .ref qt])), (qt, .inr (1, [.ref qb, .int (iI L)])), (qb, .inl (cB, 20000, .inl f)), (qn, .inl (cE, 64, .inr (.inr (.inr (.inr fe)))))]) [1, 2, 3, 0] rfl
            have hD := hD.part (cx := [(qd, .inr (2, [.ref qn, .int (iI k), .int (iI io), .int (iI f_16), .ref qt])), (qt, .inr (1, [.ref qb, .int (iI L)])), (qb, .inl (cB, 20000, .inl f)), (qn, .inl (cE, 64, .inr (.inr (.inr (.inr fe)))))]) [1, 2, 3, 0] (by decide) rfl
            have hK := hK.sub (tys' := [(cB, .byte), (cE, .object "ZipGuard$Entry"), (cN, .byte)]) [0, 1, 2] rfl
            refine lv_istore (lv' := [(5, .int (iI x_17)), (4, .int (iI cq)), (3, .int (iI x_7)), (2, .int (iI x_3)), (0, .ref qd), (1, .int (iI ee))]) hx hb d_D_readEntries_57 hl (by decide) rfl (fun ls hl => ?_)
            have jn_21 : ∀ (fa : Int) (fp3 : Int) (H : Heap) (locs : List Loc) (ls : Array Slot), (-11 ≤ fa ∧ fa ≤ 0) → (zJ1 (zC1 f L) x_3 ee k fa fp2 fp3) → va_P D zcl (([(qd, .inr (2, [.ref qn, .int (iI k), .int (iI io), .int (iI fp3), .ref qt])), (qt, .inr (1, [.ref qb, .int (iI L)])), (qb, .inl (cB, 20000, .inl f)), (qn, .inl (cE, 64, .inr (.inr (.inr (.inr fe)))))] : va_W) ++ zPl cN L2) H → va_D A (([(qd, .inr (2, [.ref qn, .int (iI k), .int (iI io), .int (iI fp3), .ref qt])), (qt, .inr (1, [.ref qb, .int (iI L)])), (qb, .inl (cB, 20000, .inl f)), (qn, .inl (cE, 64, .inr (.inr (.inr (.inr fe)))))] : va_W) ++ zPl cN L2) → va_S A s.heap H locs → lv_has ls 6 [(4, .int (iI cq)), (3, .int (iI x_7)), (2, .int (iI x_3)), (0, .ref qd), (1, .int (iI ee)), (5, .int (iI fa))] → W p l e { frames := 4, cells := 0, slots := 0, locals := 96 } s m [.ref qd, .int (iI ee)].toArray below meth c H locs 0 0 (MQ below ((fun A => va_Qi (fun (r : Int32) => fun (u9 : Int × Int × Int × List zE) => match u9 with | (fp1, x, ct1, L1) => r = (iI x) ∧ ((zPo ad L1) ∧ (zQe (zC1 f L) ee x fp fp1 ct1 L1) ∧ -11 ≤ x ∧ x ≤ 0 ∧ 0 ≤ ct1 ∧ ct1 ≤ 64)) (fun u9 t => zB D (((fun (u9 : Int × Int × Int × List zE) => match u9 with | (fp1, x, ct1, L1) => [(qd, .inr (2, [.ref qn, .int (iI ct1), .int (iI io), .int (iI fp1), .ref qt])), (qt, .inr (1, [.ref qb, .int (iI L)])), (qb, .inl (cB, 20000, .inl f)), (qn, .inl (cE, 64, .inr (.inr (.inr (.inr fe)))))]) u9) ++ ((fun (u9 : Int × Int × Int × List zE) => match u9 with | (fp1, x, ct1, L1) => zPl cN L1) u9)) ((fun (u9 : Int × Int × Int × List zE) => match u9 with | (fp1, x, ct1, L1) => [(cB, .byte), (cE, .object "ZipGuard$Entry"), (cN, .byte)]) u9) A t) A) A) [.ref qd, .int (iI ee)].toArray s 0 0 A) (F0 m 72 ls []) := by
              intro fa fp3 H locs ls hfafa hj1 hP hD hS hl
              have jn_22 : ∀ (fb : Int) (fp4 : Int) (L3 : List zE) (H : Heap) (locs : List Loc) (ls : Array Slot), (-11 ≤ fb ∧ fb ≤ 0) → (zJ2 (zC1 f L) x_3 ee k fb fp2 fp4 L3) → (zPo ad L3) → (zPn (zC1 f L) x_3 k L3) → va_P D zcl (([(qd, .inr (2, [.ref qn, .int (iI k), .int (iI io), .int (iI fp4), .ref qt])), (qt, .inr (1, [.ref qb, .int (iI L)])), (qb, .inl (cB, 20000, .inl f)), (qn, .inl (cE, 64, .inr (.inr (.inr (.inr fe)))))] : va_W) ++ zPl cN L3) H → va_D A (([(qd, .inr (2, [.ref qn, .int (iI k), .int (iI io), .int (iI fp4), .ref qt])), (qt, .inr (1, [.ref qb, .int (iI L)])), (qb, .inl (cB, 20000, .inl f)), (qn, .inl (cE, 64, .inr (.inr (.inr (.inr fe)))))] : va_W) ++ zPl cN L3) → va_S A s.heap H locs → lv_has ls 6 [(4, .int (iI cq)), (3, .int (iI x_7)), (2, .int (iI x_3)), (0, .ref qd), (1, .int (iI ee)), (5, .int (iI fb))] → W p l e { frames := 4, cells := 0, slots := 0, locals := 96 } s m [.ref qd, .int (iI ee)].toArray below meth c H locs 0 0 (MQ below ((fun A => va_Qi (fun (r : Int32) => fun (u9 : Int × Int × Int × List zE) => match u9 with | (fp1, x, ct1, L1) => r = (iI x) ∧ ((zPo ad L1) ∧ (zQe (zC1 f L) ee x fp fp1 ct1 L1) ∧ -11 ≤ x ∧ x ≤ 0 ∧ 0 ≤ ct1 ∧ ct1 ≤ 64)) (fun u9 t => zB D (((fun (u9 : Int × Int × Int × List zE) => match u9 with | (fp1, x, ct1, L1) => [(qd, .inr (2, [.ref qn, .int (iI ct1), .int (iI io), .int (iI fp1), .ref qt])), (qt, .inr (1, [.ref qb, .int (iI L)])), (qb, .inl (cB, 20000, .inl f)), (qn, .inl (cE, 64, .inr (.inr (.inr (.inr fe)))))]) u9) ++ ((fun (u9 : Int × Int × Int × List zE) => match u9 with | (fp1, x, ct1, L1) => zPl cN L1) u9)) ((fun (u9 : Int × Int × Int × List zE) => match u9 with | (fp1, x, ct1, L1) => [(cB, .byte), (cE, .object "ZipGuard$Entry"), (cN, .byte)]) u9) A t) A) A) [.ref qd, .int (iI ee)].toArray s 0 0 A) (F0 m 100 ls []) := by
                intro fb fp4 L3 H locs ls hfafb hj2 hpo hpn hP hD hS hl
                have jn_23 : ∀ (fc : Int) (fp5 : Int) (L4 : List zE) (H : Heap) (locs : List Loc) (ls : Array Slot), (-11 ≤ fc ∧ fc ≤ 0) → (zJ3 (zC1 f L) x_3 ee k fc fp2 fp5 L4) → (zPo ad L4) → va_P D zcl (([(qd, .inr (2, [.ref qn, .int (iI k), .int (iI io), .int (iI fp5), .ref qt])), (qt, .inr (1, [.ref qb, .int (iI L)])), (qb, .inl (cB, 20000, .inl f)), (qn, .inl (cE, 64, .inr (.inr (.inr (.inr fe)))))] : va_W) ++ zPl cN L4) H → va_D A (([(qd, .inr (2, [.ref qn, .int (iI k), .int (iI io), .int (iI fp5), .ref qt])), (qt, .inr (1, [.ref qb, .int (iI L)])), (qb, .inl (cB, 20000, .inl f)), (qn, .inl (cE, 64, .inr (.inr (.inr (.inr fe)))))] : va_W) ++ zPl cN L4) → va_S A s.heap H locs → lv_has ls 6 [(4, .int (iI cq)), (3, .int (iI x_7)), (2, .int (iI x_3)), (0, .ref qd), (1, .int (iI ee)), (5, .int (iI fc))] → W p l e { frames := 4, cells := 0, slots := 0, locals := 96 } s m [.ref qd, .int (iI ee)].toArray below meth c H locs 0 0 (MQ below ((fun A => va_Qi (fun (r : Int32) => fun (u9 : Int × Int × Int × List zE) => match u9 with | (fp1, x, ct1, L1) => r = (iI x) ∧ ((zPo ad L1) ∧ (zQe (zC1 f L) ee x fp fp1 ct1 L1) ∧ -11 ≤ x ∧ x ≤ 0 ∧ 0 ≤ ct1 ∧ ct1 ≤ 64)) (fun u9 t => zB D (((fun (u9 : Int × Int × Int × List zE) => match u9 with | (fp1, x, ct1, L1) => [(qd, .inr (2, [.ref qn, .int (iI ct1), .int (iI io), .int (iI fp1), .ref qt])), (qt, .inr (1, [.ref qb, .int (iI L)])), (qb, .inl (cB, 20000, .inl f)), (qn, .inl (cE, 64, .inr (.inr (.inr (.inr fe)))))]) u9) ++ ((fun (u9 : Int × Int × Int × List zE) => match u9 with | (fp1, x, ct1, L1) => zPl cN L1) u9)) ((fun (u9 : Int × Int × Int × List zE) => match u9 with | (fp1, x, ct1, L1) => [(cB, .byte), (cE, .object "ZipGuard$Entry"), (cN, .byte)]) u9) A t) A) A) [.ref qd, .int (iI ee)].toArray s 0 0 A) (F0 m 114 ls []) := by
                  intro fc fp5 L4 H locs ls hfafc hj3 hpo hP hD hS hl
                  refine lv_iload hx hb d_D_readEntries_114 (lv_at hl 5 rfl) ?_
                  refine zv_if_ge (tgt := 122) hx hb d_D_readEntries_116 (by decide) (by omega) (fun hc_24 => ?_) (fun hc_24 => ?_)
                  · skip
                    have hj9 := zJ3_o hj3 (by omega)
                    have hs9 := hj9.2.1.1.2.2
                    rw [← hcp] at hs9
                    have hpn := hj9.2.2
                    refine lv_aload_n hx hb d_D_readEntries_122 rfl (lv_at hl 3 rfl) ?_
                    refine lv_iload hx hb d_D_readEntries_123 (lv_at hl 0 rfl) ?_
                    refine zjR (va_runV (As := [.int (iI cq)]) (rest := []) ⟨hx, hb, hml, hown, ht⟩ (a_D_be l D qd qn k io fp5 qt qb cB f L cq (by omega) (by omega)) (cwV 1 ht (zt_goodV zm_451 zm_452 zm_7 zm_67 zm_453) rfl rfl rfl (by decide +kernel) ⟨Nat.le_of_ble_eq_true rfl, Nat.le_of_ble_eq_true rfl⟩) (zpreRV zBlind_t hK hP [0, 1, 2] [0] rfl rfl (fun _ _ _ => trivial) (va_recv (q := ("ZipGuard$Directory", F_D, 5)) hK hP rfl (q0 := 0) (ci := 2) rfl)) rfl rfl hl.1 rfl (lv_room (Nat.le_of_ble_eq_true rfl)) d_D_readEntries_125 ⟨Nat.le_of_ble_eq_true rfl, Nat.le_of_ble_eq_true rfl⟩) (fun r25 hp26 => ?_)
                    obtain ⟨x_27, he_28, hp26⟩ := hp26
                    subst he_28
                    refine lv_istore (lv' := [(4, .int (iI x_27)), (3, .int (iI x_7)), (2, .int (iI x_3)), (0, .ref qd), (1, .int (iI ee)), (5, .int (iI fc))]) hx hb d_D_readEntries_128 hl (by decide) rfl (fun ls hl => ?_)
                    refine lv_aload_n hx hb d_D_readEntries_130 rfl (lv_at hl 3 rfl) ?_
                    refine lv_dup hx hb d_D_readEntries_131 rfl ?_
                    refine va_get (ci := 2) (C := "ZipGuard$Directory") (T := F_D) (N := 5) hx hb ht zi_D hown hK hP 0 rfl rfl 1 (by decide) (ht _ zm_181) (fun _ h9 => h9) rfl d_D_readEntries_132 ?_
                    refine lv_iconst (v := iI 1) hx hb d_D_readEntries_135 (by decide) ?_
                    refine zv_iadd (z := k + 1) hx hb d_D_readEntries_136 (by omega) ?_
                    refine va_put (ci := 2) (v := .int (iI (k + 1))) (ty := .int) (C := "ZipGuard$Directory") (T := F_D) (N := 5) hx hb ht zi_D ty_D tk_D nm_D hown hK hP hD hS 0 rfl rfl 1 (by decide) (ht _ zm_181) (fun _ h9 => h9) rfl (by decide +kernel) rfl rfl (Nat.le_of_ble_eq_true rfl) d_D_readEntries_137 (fun H locs hP hD hS => ?_)
                    have hP : va_P D zcl (([(qd, .inr (2, [.ref qn, .int (iI (k + 1)), .int (iI io), .int (iI fp5), .ref qt])), (qt, .inr (1, [.ref qb, .int (iI L)])), (qb, .inl (cB, 20000, .inl f)), (qn, .inl (cE, 64, .inr (.inr (.inr (.inr fe)))))] : va_W) ++ zPl cN L4) H := hP
                    have hD : va_D A (([(qd, .inr (2, [.ref qn, .int (iI (k + 1)), .int (iI io), .int (iI fp5), .ref qt])), (qt, .inr (1, [.ref qb, .int (iI L)])), (qb, .inl (cB, 20000, .inl f)), (qn, .inl (cE, 64, .inr (.inr (.inr (.inr fe)))))] : va_W) ++ zPl cN L4) := hD
                    refine lv_goto (tgt := 33) hx hb d_D_readEntries_140 (by decide) ?_
                    exact ih33 x_27 (k + 1) fp5 L4 _ _ _ (by omega) (by omega) (by omega) (by rw [zcp_s (by omega), ← hcp]; exact hp26.1) hpo hpn (zall_s heo hj9.2.1) (by omega) hP hD hS (lv_sub hl [0, 1, 2, 3, 4] rfl)
                  · skip
                    refine lv_iload hx hb d_D_readEntries_119 (lv_at hl 5 rfl) ?_
                    exact zretiP hx hb hr hlk hK hP hD hS (fp5, fc, k, L4) [0, 1, 2, 3] [0, 1, 2] rfl (by decide) rfl rfl (⟨rfl, ⟨hpo, by have q1 := hp2.1; have q2 := hp6.1; subst q1; subst q2; exact Or.inl ⟨by omega, ⟨k, by omega, by omega, heo, Or.inl ⟨by omega, by omega, zJ3_f hj3 (by omega)⟩⟩⟩, by omega⟩⟩) (Nat.le_of_ble_eq_true rfl) (Nat.le_of_ble_eq_true rfl) d_D_readEntries_121
                refine lv_iload hx hb d_D_readEntries_100 (lv_at hl 5 rfl) ?_
                refine zv_if_ne (tgt := 114) hx hb d_D_readEntries_102 (by decide) (by omega) (fun hc_29 => ?_) (fun hc_29 => ?_)
                · skip
                  exact jn_23 fb fp4 L3 _ _ _ (by omega) (zJ3_of hj2 (by omega)) hpo hP hD hS hl
                · skip
                  refine lv_aload_n hx hb d_D_readEntries_105 rfl (lv_at hl 3 rfl) ?_
                  refine lv_iload hx hb d_D_readEntries_106 (lv_at hl 0 rfl) ?_
                  refine lv_iload_n hx hb d_D_readEntries_108 rfl (lv_at hl 2 rfl) ?_
                  refine zjiP (wr := []) (va_runV (As := [.int (iI cq), .int (iI x_3)]) (rest := []) ⟨hx, hb, hml, hown, ht⟩ (a_D_rl l D _ qd qn k io fp4 qt qb cB f L cE cN fe ad L3 cq x_3 (by omega) hpo hfe (by omega) (by omega) (by omega) hcp hpn (by rw [hcp]; exact zJ2_pa hj2 (by omega))) (cwV 2 ht (zt_goodV zm_482 zm_483 zm_14 zm_67 zm_484) rfl rfl rfl (by decide +kernel) ⟨Nat.le_of_ble_eq_true rfl, Nat.le_of_ble_eq_true rfl⟩) (zpreVP zBlind_t hK hP hD [0, 1, 2, 3] [0, 1, 2] rfl (by decide) rfl (fun _ _ _ => trivial) (va_recv (q := ("ZipGuard$Directory", F_D, 5)) hK hP rfl (q0 := 0) (ci := 2) rfl)) rfl rfl hl.1 rfl (lv_room (Nat.le_of_ble_eq_true rfl)) d_D_readEntries_109 ⟨Nat.le_of_ble_eq_true rfl, Nat.le_of_ble_eq_true rfl⟩) hK hP hD hS hA [0, 1, 2, 3] [] rfl rfl (by decide) (by decide) (fun r33 u9 H locs hp34 hP hD hK hS => ?_)
                  obtain ⟨f_30, x_31, L_32⟩ := u9
                  dsimp only at hp34 hP hD hK
                  have hP : va_P D zcl (([(qd, .inr (2, [.ref qn, .int (iI k), .int (iI io), .int (iI f_30), .ref qt])), (qt, .inr (1, [.ref qb, .int (iI L)])), (qb, .inl (cB, 20000, .inl f)), (qn, .inl (cE, 64, .inr (.inr (.inr (.inr fe)))))] : va_W) ++ zPl cN L_32) H := hP
                  have hD : va_D A (([(qd, .inr (2, [.ref qn, .int (iI k), .int (iI io), .int (iI f_30), .ref qt])), (qt, .inr (1, [.ref qb, .int (iI L)])), (qb, .inl (cB, 20000, .inl f)), (qn, .inl (cE, 64, .inr (.inr (.inr (.inr fe)))))] : va_W) ++ zPl cN L_32) := hD
                  have hK : va_K D zcl [(cB, .byte), (cE, .object "ZipGuard$Entry"), (cN, .byte), (cB, .byte), (cE, .object "ZipGuard$Entry"), (cN, .byte)] s := hK
                  obtain ⟨he_35, hp34⟩ := hp34
                  subst he_35
                  have hpo := hp34.1
                  have hP := hP.part (cx := [(qd, .inr (2, [.ref qn, .int (iI k), .int (iI io), .int (iI f_30), .ref qt])), (qt, .inr (1, [.ref qb, .int (iI L)])), (qb, .inl (cB, 20000, .inl f)), (qn, .inl (cE, 64, .inr (.inr (.inr (.inr fe)))))]) [0, 1, 2, 3] rfl
                  have hD := hD.part (cx := [(qd, .inr (2, [.ref qn, .int (iI k), .int (iI io), .int (iI f_30), .ref qt])), (qt, .inr (1, [.ref qb, .int (iI L)])), (qb, .inl (cB, 20000, .inl f)), (qn, .inl (cE, 64, .inr (.inr (.inr (.inr fe)))))]) [0, 1, 2, 3] (by decide) rfl
                  have hK := hK.sub (tys' := [(cB, .byte), (cE, .object "ZipGuard$Entry"), (cN, .byte)]) [0, 1, 2] rfl
                  refine lv_istore (lv' := [(5, .int (iI x_31)), (4, .int (iI cq)), (3, .int (iI x_7)), (2, .int (iI x_3)), (0, .ref qd), (1, .int (iI ee))]) hx hb d_D_readEntries_112 hl (by decide) rfl (fun ls hl => ?_)
                  exact jn_23 x_31 f_30 L_32 _ _ _ (by omega) (zJ3_lo hj2 (by omega) hp34.2.1) hpo hP hD hS (lv_sub hl [1, 2, 3, 4, 5, 0] rfl)
              refine lv_iload hx hb d_D_readEntries_72 (lv_at hl 5 rfl) ?_
              refine zv_if_ne (tgt := 100) hx hb d_D_readEntries_74 (by decide) (by omega) (fun hc_36 => ?_) (fun hc_36 => ?_)
              · skip
                exact jn_22 fa fp3 L2 _ _ _ (by omega) (zJ2_of hj1 (by omega)) hpo hpn hP hD hS hl
              · skip
                refine lv_aload_n hx hb d_D_readEntries_77 rfl (lv_at hl 3 rfl) ?_
                refine lv_iload hx hb d_D_readEntries_78 (lv_at hl 0 rfl) ?_
                refine lv_bipush (v := iI 46) hx hb d_D_readEntries_80 (by decide) ?_
                refine zv_iadd (z := cq + 46) hx hb d_D_readEntries_82 (by omega) ?_
                refine lv_aload_n hx hb d_D_readEntries_83 rfl (lv_at hl 3 rfl) ?_
                refine va_get (ci := 2) (C := "ZipGuard$Directory") (T := F_D) (N := 5) hx hb ht zi_D hown hK hP 0 rfl rfl 4 (by decide) (ht _ zm_187) (fun _ h9 => h9) rfl d_D_readEntries_84 ?_
                refine lv_iload hx hb d_D_readEntries_87 (lv_at hl 0 rfl) ?_
                refine lv_bipush (v := iI 28) hx hb d_D_readEntries_89 (by decide) ?_
                refine zv_iadd (z := cq + 28) hx hb d_D_readEntries_91 (by omega) ?_
                refine zjR (va_runV (As := [.int (iI (cq + 28))]) (rest := [.int (iI (cq + 46)), .ref qd]) ⟨hx, hb, hml, hown, ht⟩ (a_T_two l D qt qb cB f L (cq + 28) (by omega) (by omega)) (cwV 1 ht (zt_goodV zm_431 zm_432 zm_433 zm_66 zm_434) rfl rfl rfl (by decide +kernel) ⟨Nat.le_of_ble_eq_true rfl, Nat.le_of_ble_eq_true rfl⟩) (zpreRV zBlind_t hK hP [1, 2] [0] rfl rfl (fun _ _ _ => trivial) (va_recv (q := ("ZipGuard$Tape", F_T, 2)) hK hP rfl (q0 := 1) (ci := 1) rfl)) rfl rfl hl.1 rfl (lv_room (Nat.le_of_ble_eq_true rfl)) d_D_readEntries_92 ⟨Nat.le_of_ble_eq_true rfl, Nat.le_of_ble_eq_true rfl⟩) (fun r37 hp38 => ?_)
                obtain ⟨x_39, he_40, hp38⟩ := hp38
                subst he_40
                refine zjiP (wr := []) (va_runV (As := [.int (iI (cq + 46)), .int (iI x_39)]) (rest := []) ⟨hx, hb, hml, hown, ht⟩ (a_D_rn l D _ qd qn k io fp3 qt qb cB f L cE cN fe ad L2 (cq + 46) x_39 x_3 ee (by omega) hpo hfe (by omega) (by omega) (by omega) ⟨by omega, by rw [← hcp]; exact hp38.1⟩ hpn heo) (cwV 2 ht (zt_goodV zm_461 zm_462 zm_10 zm_67 zm_463) rfl rfl rfl (by decide +kernel) ⟨Nat.le_of_ble_eq_true rfl, Nat.le_of_ble_eq_true rfl⟩) (zpreVP zBlind_t hK hP hD [0, 1, 2, 3] [0, 1, 2] rfl (by decide) rfl (fun _ _ _ => trivial) (va_recv (q := ("ZipGuard$Directory", F_D, 5)) hK hP rfl (q0 := 0) (ci := 2) rfl)) rfl rfl hl.1 rfl (lv_room (Nat.le_of_ble_eq_true rfl)) d_D_readEntries_95 ⟨Nat.le_of_ble_eq_true rfl, Nat.le_of_ble_eq_true rfl⟩) hK hP hD hS hA [0, 1, 2, 3] [] rfl rfl (by decide) (by decide) (fun r44 u9 H locs hp45 hP hD hK hS => ?_)
                obtain ⟨f_41, x_42, L_43⟩ := u9
                dsimp only at hp45 hP hD hK
                have hP : va_P D zcl (([(qd, .inr (2, [.ref qn, .int (iI k), .int (iI io), .int (iI f_41), .ref qt])), (qt, .inr (1, [.ref qb, .int (iI L)])), (qb, .inl (cB, 20000, .inl f)), (qn, .inl (cE, 64, .inr (.inr (.inr (.inr fe)))))] : va_W) ++ zPl cN L_43) H := hP
                have hD : va_D A (([(qd, .inr (2, [.ref qn, .int (iI k), .int (iI io), .int (iI f_41), .ref qt])), (qt, .inr (1, [.ref qb, .int (iI L)])), (qb, .inl (cB, 20000, .inl f)), (qn, .inl (cE, 64, .inr (.inr (.inr (.inr fe)))))] : va_W) ++ zPl cN L_43) := hD
                have hK : va_K D zcl [(cB, .byte), (cE, .object "ZipGuard$Entry"), (cN, .byte), (cB, .byte), (cE, .object "ZipGuard$Entry"), (cN, .byte)] s := hK
                obtain ⟨he_46, hp45⟩ := hp45
                subst he_46
                have hpo := hp45.1
                have hP := hP.part (cx := [(qd, .inr (2, [.ref qn, .int (iI k), .int (iI io), .int (iI f_41), .ref qt])), (qt, .inr (1, [.ref qb, .int (iI L)])), (qb, .inl (cB, 20000, .inl f)), (qn, .inl (cE, 64, .inr (.inr (.inr (.inr fe)))))]) [0, 1, 2, 3] rfl
                have hD := hD.part (cx := [(qd, .inr (2, [.ref qn, .int (iI k), .int (iI io), .int (iI f_41), .ref qt])), (qt, .inr (1, [.ref qb, .int (iI L)])), (qb, .inl (cB, 20000, .inl f)), (qn, .inl (cE, 64, .inr (.inr (.inr (.inr fe)))))]) [0, 1, 2, 3] (by decide) rfl
                have hK := hK.sub (tys' := [(cB, .byte), (cE, .object "ZipGuard$Entry"), (cN, .byte)]) [0, 1, 2] rfl
                have hpn := hp45.2.1
                refine lv_istore (lv' := [(5, .int (iI x_42)), (4, .int (iI cq)), (3, .int (iI x_7)), (2, .int (iI x_3)), (0, .ref qd), (1, .int (iI ee))]) hx hb d_D_readEntries_98 hl (by decide) rfl (fun ls hl => ?_)
                exact jn_22 x_42 f_41 L_43 _ _ _ (by omega) (zJ2_nm hj1 (by omega) hp45.2.2.1) hpo hpn hP hD hS (lv_sub hl [1, 2, 3, 4, 5, 0] rfl)
            refine lv_iload hx hb d_D_readEntries_59 (lv_at hl 0 rfl) ?_
            refine zv_if_ne (tgt := 72) hx hb d_D_readEntries_61 (by decide) (by omega) (fun hc_47 => ?_) (fun hc_47 => ?_)
            · skip
              exact jn_21 x_17 f_16 _ _ _ (by omega) (zJ1_span hcp hp19.1 (by omega)) hP hD hS (lv_sub hl [1, 2, 3, 4, 5, 0] rfl)
            · skip
              refine lv_aload_n hx hb d_D_readEntries_64 rfl (lv_at hl 4 rfl) ?_
              refine lv_iload hx hb d_D_readEntries_65 (lv_at hl 1 rfl) ?_
              refine zjiQ (wr := [(qn, .inl (cE, 64, .inr (.inr (.inr (.inr fe)))))]) (va_runV (As := [.int (iI cq)]) (rest := []) ⟨hx, hb, hml, hown, ht⟩ (a_D_cn l D _ qd qn k io f_16 qt qb cB f L cq (by omega) (by omega)) (cwV 1 ht (zt_goodV zm_454 zm_455 zm_8 zm_67 zm_456) rfl rfl rfl (by decide +kernel) ⟨Nat.le_of_ble_eq_true rfl, Nat.le_of_ble_eq_true rfl⟩) (zpreV zBlind_t hK hP hD [0, 1, 2] [0] rfl (by decide) rfl (fun _ _ _ => trivial) (va_recv (q := ("ZipGuard$Directory", F_D, 5)) hK hP rfl (q0 := 0) (ci := 2) rfl)) rfl rfl hl.1 rfl (lv_room (Nat.le_of_ble_eq_true rfl)) d_D_readEntries_67 ⟨Nat.le_of_ble_eq_true rfl, Nat.le_of_ble_eq_true rfl⟩) hK hP hD hS hA [0, 1, 2] [3] rfl rfl (by decide) (by decide) (fun r50 u9 H locs hp51 hP hD hK hS => ?_)
              obtain ⟨f_48, x_49⟩ := u9
              dsimp only at hp51 hP hD hK
              have hP : va_P D zcl (([(qn, .inl (cE, 64, .inr (.inr (.inr (.inr fe))))), (qd, .inr (2, [.ref qn, .int (iI k), .int (iI io), .int (iI f_48), .ref qt])), (qt, .inr (1, [.ref qb, .int (iI L)])), (qb, .inl (cB, 20000, .inl f))] : va_W) ++ zPl cN L2) H := hP
              have hD : va_D A (([(qn, .inl (cE, 64, .inr (.inr (.inr (.inr fe))))), (qd, .inr (2, [.ref qn, .int (iI k), .int (iI io), .int (iI f_48), .ref qt])), (qt, .inr (1, [.ref qb, .int (iI L)])), (qb, .inl (cB, 20000, .inl f))] : va_W) ++ zPl cN L2) := hD
              have hK : va_K D zcl [(cB, .byte), (cE, .object "ZipGuard$Entry"), (cN, .byte), (cB, .byte)] s := hK
              obtain ⟨he_52, hp51⟩ := hp51
              subst he_52
              have hP := hP.part (cx := [(qd, .inr (2, [.ref qn, .int (iI k), .int (iI io), .int (iI f_48), .ref qt])), (qt, .inr (1, [.ref qb, .int (iI L)])), (qb, .inl (cB, 20000, .inl f)), (qn, .inl (cE, 64, .inr (.inr (.inr (.inr fe)))))]) [1, 2, 3, 0] rfl
              have hD := hD.part (cx := [(qd, .inr (2, [.ref qn, .int (iI k), .int (iI io), .int (iI f_48), .ref qt])), (qt, .inr (1, [.ref qb, .int (iI L)])), (qb, .inl (cB, 20000, .inl f)), (qn, .inl (cE, 64, .inr (.inr (.inr (.inr fe)))))]) [1, 2, 3, 0] (by decide) rfl
              have hK := hK.sub (tys' := [(cB, .byte), (cE, .object "ZipGuard$Entry"), (cN, .byte)]) [0, 1, 2] rfl
              refine lv_istore (lv' := [(5, .int (iI x_49)), (4, .int (iI cq)), (3, .int (iI x_7)), (2, .int (iI x_3)), (0, .ref qd), (1, .int (iI ee))]) hx hb d_D_readEntries_70 hl (by decide) rfl (fun ls hl => ?_)
              exact jn_21 x_49 f_48 _ _ _ (by omega) (zJ1_num hcp hp19.1 (by omega) hp51.1 (fun h9 => by omega)) hP hD hS (lv_sub hl [1, 2, 3, 4, 5, 0] rfl)
    exact lp33 ((64 - 0 + 1 : Int)).toNat x_3 0 fp LL _ _ _ (by omega) (by omega) (by omega) rfl hpo (zPn_0 (by omega)) (fun t h1 h2 => absurd h2 (by omega)) (by omega) hP hD hS hl)
set_option maxHeartbeats 4000000 in
set_option maxRecDepth 100000 in
theorem a_D_rd (l : Launch) (D : va_G) (sz : Nat) (qd : Nat) (qn : Nat) (ct : Int) (io : Int) (fp : Int) (qt : Nat) (qb : Nat) (cB : ClassId) (f : Nat → Int32) (L : Int) (cE : ClassId) (cN : ClassId) (fe : Nat → Option Nat) (ad : Nat → Nat) (LL : List zE) (hL : 0 ≤ L ∧ L ≤ 20000) (hpo : zPo ad LL) (hfe : ∀ k : Nat, k < 64 → fe k = some (ad k)) (hct : 0 ≤ ct ∧ ct ≤ 64) : Met l y_D_read (Cond.code y_D_read prog_4_method_3_code 3 (Option.some Jvm.ClassFile.FieldType.int) :: zt) { frames := 5, cells := 0, slots := 0, locals := 121 } (zPc [.ref qd] D (([(qd, .inr (2, [.ref qn, .int (iI ct), .int (iI io), .int (iI fp), .ref qt])), (qt, .inr (1, [.ref qb, .int (iI L)])), (qb, .inl (cB, 20000, .inl f)), (qn, .inl (cE, 64, .inr (.inr (.inr (.inr fe)))))] : va_W) ++ zPl cN LL) [(cB, .byte), (cE, .object "ZipGuard$Entry"), (cN, .byte)] sz (fun _ => True)) (va_Qi (fun (r : Int32) => fun (u9 : Int × Int × Int × Int × List zE) => match u9 with | (fp1, x, ct1, io1, L1) => r = (iI x) ∧ ((zPo ad L1) ∧ (zRe (zC1 f L) L x fp1) ∧ (-11 ≤ x ∧ x < 0 ∧ io1 = 0 ∨ (x = ct1 ∧ io1 = 1 ∧ zOp (zC1 f L) L ct1 L1)) ∧ 0 ≤ ct1 ∧ ct1 ≤ 64 ∧ 0 ≤ io1 ∧ io1 ≤ 1)) (fun u9 t => zB D (((fun (u9 : Int × Int × Int × Int × List zE) => match u9 with | (fp1, x, ct1, io1, L1) => [(qd, .inr (2, [.ref qn, .int (iI ct1), .int (iI io1), .int (iI fp1), .ref qt])), (qt, .inr (1, [.ref qb, .int (iI L)])), (qb, .inl (cB, 20000, .inl f)), (qn, .inl (cE, 64, .inr (.inr (.inr (.inr fe)))))]) u9) ++ ((fun (u9 : Int × Int × Int × Int × List zE) => match u9 with | (fp1, x, ct1, io1, L1) => zPl cN L1) u9)) ((fun (u9 : Int × Int × Int × Int × List zE) => match u9 with | (fp1, x, ct1, io1, L1) => [(cB, .byte), (cE, .object "ZipGuard$Entry"), (cN, .byte)]) u9) (va_A (([(qd, .inr (2, [.ref qn, .int (iI ct), .int (iI io), .int (iI fp), .ref qt])), (qt, .inr (1, [.ref qb, .int (iI L)])), (qb, .inl (cB, 20000, .inl f)), (qn, .inl (cE, 64, .inr (.inr (.inr (.inr fe)))))] : va_W) ++ zPl cN LL) sz) t) (va_A (([(qd, .inr (2, [.ref qn, .int (iI ct), .int (iI io), .int (iI fp), .ref qt])), (qt, .inr (1, [.ref qb, .int (iI L)])), (qb, .inl (cB, 20000, .inl f)), (qn, .inl (cE, 64, .inr (.inr (.inr (.inr fe)))))] : va_W) ++ zPl cN LL) sz)) 0 0 (va_A (([(qd, .inr (2, [.ref qn, .int (iI ct), .int (iI io), .int (iI fp), .ref qt])), (qt, .inr (1, [.ref qb, .int (iI L)])), (qb, .inl (cB, 20000, .inl f)), (qn, .inl (cE, 64, .inr (.inr (.inr (.inr fe)))))] : va_W) ++ zPl cN LL) sz) :=
  zMet (Qf := fun A => va_Qi (fun (r : Int32) => fun (u9 : Int × Int × Int × Int × List zE) => match u9 with | (fp1, x, ct1, io1, L1) => r = (iI x) ∧ ((zPo ad L1) ∧ (zRe (zC1 f L) L x fp1) ∧ (-11 ≤ x ∧ x < 0 ∧ io1 = 0 ∨ (x = ct1 ∧ io1 = 1 ∧ zOp (zC1 f L) L ct1 L1)) ∧ 0 ≤ ct1 ∧ ct1 ≤ 64 ∧ 0 ≤ io1 ∧ io1 ≤ 1)) (fun u9 t => zB D (((fun (u9 : Int × Int × Int × Int × List zE) => match u9 with | (fp1, x, ct1, io1, L1) => [(qd, .inr (2, [.ref qn, .int (iI ct1), .int (iI io1), .int (iI fp1), .ref qt])), (qt, .inr (1, [.ref qb, .int (iI L)])), (qb, .inl (cB, 20000, .inl f)), (qn, .inl (cE, 64, .inr (.inr (.inr (.inr fe)))))]) u9) ++ ((fun (u9 : Int × Int × Int × Int × List zE) => match u9 with | (fp1, x, ct1, io1, L1) => zPl cN L1) u9)) ((fun (u9 : Int × Int × Int × Int × List zE) => match u9 with | (fp1, x, ct1, io1, L1) => [(cB, .byte), (cE, .object "ZipGuard$Entry"), (cN, .byte)]) u9) A t) A) (by decide) (Nat.le_of_ble_eq_true rfl) (fun p e s m below meth c A ls hx hb hr hml hown ht hlk hnm hA hK hP hD hX hl => by
    have hS : va_S A s.heap s.heap [] := va_S.rf
    have hl : lv_has ls 3 [(0, .ref qd)] := hl
    refine lv_aload_n hx hb d_D_read_0 rfl (lv_at hl 0 rfl) ?_
    refine lv_iconst (v := iI 0) hx hb d_D_read_1 (by decide) ?_
    refine va_put (ci := 2) (v := .int (iI 0)) (ty := .boolean) (C := "ZipGuard$Directory") (T := F_D) (N := 5) hx hb ht zi_D ty_D tk_D nm_D hown hK hP hD hS 0 rfl rfl 2 (by decide) (ht _ zm_183) (fun _ h9 => h9) rfl (by decide +kernel) (zn01 (by omega)) rfl (Nat.le_of_ble_eq_true rfl) d_D_read_2 (fun H locs hP hD hS => ?_)
    have hP : va_P D zcl (([(qd, .inr (2, [.ref qn, .int (iI ct), .int (iI 0), .int (iI fp), .ref qt])), (qt, .inr (1, [.ref qb, .int (iI L)])), (qb, .inl (cB, 20000, .inl f)), (qn, .inl (cE, 64, .inr (.inr (.inr (.inr fe)))))] : va_W) ++ zPl cN LL) H := hP
    have hD : va_D A (([(qd, .inr (2, [.ref qn, .int (iI ct), .int (iI 0), .int (iI fp), .ref qt])), (qt, .inr (1, [.ref qb, .int (iI L)])), (qb, .inl (cB, 20000, .inl f)), (qn, .inl (cE, 64, .inr (.inr (.inr (.inr fe)))))] : va_W) ++ zPl cN LL) := hD
    refine lv_aload_n hx hb d_D_read_5 rfl (lv_at hl 0 rfl) ?_
    refine lv_iconst (v := iI (-1)) hx hb d_D_read_6 (by decide) ?_
    refine va_put (ci := 2) (v := .int (iI (-1))) (ty := .int) (C := "ZipGuard$Directory") (T := F_D) (N := 5) hx hb ht zi_D ty_D tk_D nm_D hown hK hP hD hS 0 rfl rfl 3 (by decide) (ht _ zm_185) (fun _ h9 => h9) rfl (by decide +kernel) rfl rfl (Nat.le_of_ble_eq_true rfl) d_D_read_7 (fun H locs hP hD hS => ?_)
    have hP : va_P D zcl (([(qd, .inr (2, [.ref qn, .int (iI ct), .int (iI 0), .int (iI (-1)), .ref qt])), (qt, .inr (1, [.ref qb, .int (iI L)])), (qb, .inl (cB, 20000, .inl f)), (qn, .inl (cE, 64, .inr (.inr (.inr (.inr fe)))))] : va_W) ++ zPl cN LL) H := hP
    have hD : va_D A (([(qd, .inr (2, [.ref qn, .int (iI ct), .int (iI 0), .int (iI (-1)), .ref qt])), (qt, .inr (1, [.ref qb, .int (iI L)])), (qb, .inl (cB, 20000, .inl f)), (qn, .inl (cE, 64, .inr (.inr (.inr (.inr fe)))))] : va_W) ++ zPl cN LL) := hD
    refine lv_aload_n hx hb d_D_read_10 rfl (lv_at hl 0 rfl) ?_
    refine zjR (va_runV (As := []) (rest := []) ⟨hx, hb, hml, hown, ht⟩ (a_D_fe l D qd qn ct 0 (-1) qt qb cB f L (by omega)) (cwV 0 ht (zt_goodV zm_420 zm_421 zm_2 zm_67 zm_422) rfl rfl rfl (by decide +kernel) ⟨Nat.le_of_ble_eq_true rfl, Nat.le_of_ble_eq_true rfl⟩) (zpreRV zBlind_t hK hP [0, 1, 2] [0] rfl rfl (fun _ _ _ => trivial) (va_recv (q := ("ZipGuard$Directory", F_D, 5)) hK hP rfl (q0 := 0) (ci := 2) rfl)) rfl rfl hl.1 rfl (lv_room (Nat.le_of_ble_eq_true rfl)) d_D_read_11 ⟨Nat.le_of_ble_eq_true rfl, Nat.le_of_ble_eq_true rfl⟩) (fun r1 hp2 => ?_)
    obtain ⟨x_3, he_4, hp2⟩ := hp2
    subst he_4
    refine lv_istore_n (lv' := [(1, .int (iI x_3)), (0, .ref qd)]) hx hb d_D_read_14 rfl hl (by decide) rfl (fun ls hl => ?_)
    have jn_5 : ∀ (fa : Int) (fp3 : Int) (H : Heap) (locs : List Loc) (ls : Array Slot), (-11 ≤ fa ∧ fa ≤ 0) → (fa = 0 → 0 ≤ x_3 ∧ x_3 ≤ 20000 ∧ zg4 (zC1 f L) (x_3 + 12) + zg4 (zC1 f L) (x_3 + 16) = x_3 ∧ 0 ≤ zg4 (zC1 f L) (x_3 + 12) ∧ 0 ≤ zg2 (zC1 f L) (x_3 + 10) ∧ zg2 (zC1 f L) (x_3 + 10) ≤ 64) → (zH1 (zC1 f L) L x_3 fa fp3) → va_P D zcl (([(qd, .inr (2, [.ref qn, .int (iI ct), .int (iI 0), .int (iI fp3), .ref qt])), (qt, .inr (1, [.ref qb, .int (iI L)])), (qb, .inl (cB, 20000, .inl f)), (qn, .inl (cE, 64, .inr (.inr (.inr (.inr fe)))))] : va_W) ++ zPl cN LL) H → va_D A (([(qd, .inr (2, [.ref qn, .int (iI ct), .int (iI 0), .int (iI fp3), .ref qt])), (qt, .inr (1, [.ref qb, .int (iI L)])), (qb, .inl (cB, 20000, .inl f)), (qn, .inl (cE, 64, .inr (.inr (.inr (.inr fe)))))] : va_W) ++ zPl cN LL) → va_S A s.heap H locs → lv_has ls 3 [(1, .int (iI x_3)), (0, .ref qd), (2, .int (iI fa))] → W p l e { frames := 5, cells := 0, slots := 0, locals := 121 } s m [.ref qd].toArray below meth c H locs 0 0 (MQ below ((fun A => va_Qi (fun (r : Int32) => fun (u9 : Int × Int × Int × Int × List zE) => match u9 with | (fp1, x, ct1, io1, L1) => r = (iI x) ∧ ((zPo ad L1) ∧ (zRe (zC1 f L) L x fp1) ∧ (-11 ≤ x ∧ x < 0 ∧ io1 = 0 ∨ (x = ct1 ∧ io1 = 1 ∧ zOp (zC1 f L) L ct1 L1)) ∧ 0 ≤ ct1 ∧ ct1 ≤ 64 ∧ 0 ≤ io1 ∧ io1 ≤ 1)) (fun u9 t => zB D (((fun (u9 : Int × Int × Int × Int × List zE) => match u9 with | (fp1, x, ct1, io1, L1) => [(qd, .inr (2, [.ref qn, .int (iI ct1), .int (iI io1), .int (iI fp1), .ref qt])), (qt, .inr (1, [.ref qb, .int (iI L)])), (qb, .inl (cB, 20000, .inl f)), (qn, .inl (cE, 64, .inr (.inr (.inr (.inr fe)))))]) u9) ++ ((fun (u9 : Int × Int × Int × Int × List zE) => match u9 with | (fp1, x, ct1, io1, L1) => zPl cN L1) u9)) ((fun (u9 : Int × Int × Int × Int × List zE) => match u9 with | (fp1, x, ct1, io1, L1) => [(cB, .byte), (cE, .object "ZipGuard$Entry"), (cN, .byte)]) u9) A t) A) A) [.ref qd].toArray s 0 0 A) (F0 m 40 ls []) := by
      intro fa fp3 H locs ls hfa hfz hj hP hD hS hl
      refine lv_iload_n hx hb d_D_read_40 rfl (lv_at hl 2 rfl) ?_
      refine zv_if_ge (tgt := 46) hx hb d_D_read_41 (by decide) (by omega) (fun hc_6 => ?_) (fun hc_6 => ?_)
      · skip
        refine lv_aload_n hx hb d_D_read_46 rfl (lv_at hl 1 rfl) ?_
        refine lv_iload_n hx hb d_D_read_47 rfl (lv_at hl 0 rfl) ?_
        refine zjiP (wr := []) (va_runV (As := [.int (iI x_3)]) (rest := []) ⟨hx, hb, hml, hown, ht⟩ (a_D_re l D _ qd qn ct 0 fp3 qt qb cB f L cE cN fe ad LL x_3 (by omega) hpo hfe (by omega) (by omega) (by omega)) (cwV 1 ht (zt_goodV zm_445 zm_446 zm_5 zm_67 zm_447) rfl rfl rfl (by decide +kernel) ⟨Nat.le_of_ble_eq_true rfl, Nat.le_of_ble_eq_true rfl⟩) (zpreVP zBlind_t hK hP hD [0, 1, 2, 3] [0, 1, 2] rfl (by decide) rfl (fun _ _ _ => trivial) (va_recv (q := ("ZipGuard$Directory", F_D, 5)) hK hP rfl (q0 := 0) (ci := 2) rfl)) rfl rfl hl.1 rfl (lv_room (Nat.le_of_ble_eq_true rfl)) d_D_read_48 ⟨Nat.le_of_ble_eq_true rfl, Nat.le_of_ble_eq_true rfl⟩) hK hP hD hS hA [0, 1, 2, 3] [] rfl rfl (by decide) (by decide) (fun r11 u9 H locs hp12 hP hD hK hS => ?_)
        obtain ⟨f_7, x_8, c_9, L_10⟩ := u9
        dsimp only at hp12 hP hD hK
        have hP : va_P D zcl (([(qd, .inr (2, [.ref qn, .int (iI c_9), .int (iI 0), .int (iI f_7), .ref qt])), (qt, .inr (1, [.ref qb, .int (iI L)])), (qb, .inl (cB, 20000, .inl f)), (qn, .inl (cE, 64, .inr (.inr (.inr (.inr fe)))))] : va_W) ++ zPl cN L_10) H := hP
        have hD : va_D A (([(qd, .inr (2, [.ref qn, .int (iI c_9), .int (iI 0), .int (iI f_7), .ref qt])), (qt, .inr (1, [.ref qb, .int (iI L)])), (qb, .inl (cB, 20000, .inl f)), (qn, .inl (cE, 64, .inr (.inr (.inr (.inr fe)))))] : va_W) ++ zPl cN L_10) := hD
        have hK : va_K D zcl [(cB, .byte), (cE, .object "ZipGuard$Entry"), (cN, .byte), (cB, .byte), (cE, .object "ZipGuard$Entry"), (cN, .byte)] s := hK
        obtain ⟨he_13, hp12⟩ := hp12
        subst he_13
        have hpo := hp12.1
        have hP := hP.part (cx := [(qd, .inr (2, [.ref qn, .int (iI c_9), .int (iI 0), .int (iI f_7), .ref qt])), (qt, .inr (1, [.ref qb, .int (iI L)])), (qb, .inl (cB, 20000, .inl f)), (qn, .inl (cE, 64, .inr (.inr (.inr (.inr fe)))))]) [0, 1, 2, 3] rfl
        have hD := hD.part (cx := [(qd, .inr (2, [.ref qn, .int (iI c_9), .int (iI 0), .int (iI f_7), .ref qt])), (qt, .inr (1, [.ref qb, .int (iI L)])), (qb, .inl (cB, 20000, .inl f)), (qn, .inl (cE, 64, .inr (.inr (.inr (.inr fe)))))]) [0, 1, 2, 3] (by decide) rfl
        have hK := hK.sub (tys' := [(cB, .byte), (cE, .object "ZipGuard$Entry"), (cN, .byte)]) [0, 1, 2] rfl
        refine lv_istore_n (lv' := [(2, .int (iI x_8)), (1, .int (iI x_3)), (0, .ref qd)]) hx hb d_D_read_51 rfl hl (by decide) rfl (fun ls hl => ?_)
        refine lv_iload_n hx hb d_D_read_52 rfl (lv_at hl 0 rfl) ?_
        refine zv_if_ge (tgt := 58) hx hb d_D_read_53 (by decide) (by omega) (fun hc_14 => ?_) (fun hc_14 => ?_)
        · skip
          refine lv_aload_n hx hb d_D_read_58 rfl (lv_at hl 2 rfl) ?_
          refine lv_iconst (v := iI 1) hx hb d_D_read_59 (by decide) ?_
          refine va_put (ci := 2) (v := .int (iI 1)) (ty := .boolean) (C := "ZipGuard$Directory") (T := F_D) (N := 5) hx hb ht zi_D ty_D tk_D nm_D hown hK hP hD hS 0 rfl rfl 2 (by decide) (ht _ zm_183) (fun _ h9 => h9) rfl (by decide +kernel) (zn01 (by omega)) rfl (Nat.le_of_ble_eq_true rfl) d_D_read_60 (fun H locs hP hD hS => ?_)
          have hP : va_P D zcl (([(qd, .inr (2, [.ref qn, .int (iI c_9), .int (iI 1), .int (iI f_7), .ref qt])), (qt, .inr (1, [.ref qb, .int (iI L)])), (qb, .inl (cB, 20000, .inl f)), (qn, .inl (cE, 64, .inr (.inr (.inr (.inr fe)))))] : va_W) ++ zPl cN L_10) H := hP
          have hD : va_D A (([(qd, .inr (2, [.ref qn, .int (iI c_9), .int (iI 1), .int (iI f_7), .ref qt])), (qt, .inr (1, [.ref qb, .int (iI L)])), (qb, .inl (cB, 20000, .inl f)), (qn, .inl (cE, 64, .inr (.inr (.inr (.inr fe)))))] : va_W) ++ zPl cN L_10) := hD
          refine lv_aload_n hx hb d_D_read_63 rfl (lv_at hl 2 rfl) ?_
          refine va_get (ci := 2) (C := "ZipGuard$Directory") (T := F_D) (N := 5) hx hb ht zi_D hown hK hP 0 rfl rfl 1 (by decide) (ht _ zm_181) (fun _ h9 => h9) rfl d_D_read_64 ?_
          exact zretiP hx hb hr hlk hK hP hD hS (f_7, c_9, c_9, 1, L_10) [0, 1, 2, 3] [0, 1, 2] rfl (by decide) rfl rfl (⟨rfl, ⟨hpo, (zRe_n hj (by omega) hp12.2.1 (by omega) rfl).1, Or.inr ⟨rfl, rfl, (zRe_n hj (by omega) hp12.2.1 (by omega) rfl).2⟩, by omega⟩⟩) (Nat.le_of_ble_eq_true rfl) (Nat.le_of_ble_eq_true rfl) d_D_read_67
        · skip
          refine lv_iload_n hx hb d_D_read_56 rfl (lv_at hl 0 rfl) ?_
          exact zretiP hx hb hr hlk hK hP hD hS (f_7, x_8, c_9, 0, L_10) [0, 1, 2, 3] [0, 1, 2] rfl (by decide) rfl rfl (⟨rfl, ⟨hpo, zRe_e hj (by omega) hp12.2.1 (by omega), Or.inl (by omega), by omega⟩⟩) (Nat.le_of_ble_eq_true rfl) (Nat.le_of_ble_eq_true rfl) d_D_read_57
      · skip
        refine lv_iload_n hx hb d_D_read_44 rfl (lv_at hl 2 rfl) ?_
        exact zretiP hx hb hr hlk hK hP hD hS (fp3, fa, ct, 0, LL) [0, 1, 2, 3] [0, 1, 2] rfl (by decide) rfl rfl (⟨rfl, ⟨hpo, zRe_h hj (by omega), Or.inl (by omega), by omega⟩⟩) (Nat.le_of_ble_eq_true rfl) (Nat.le_of_ble_eq_true rfl) d_D_read_45
    refine lv_iload_n hx hb d_D_read_15 rfl (lv_at hl 0 rfl) ?_
    refine zv_if_ge (tgt := 34) hx hb d_D_read_16 (by decide) (by omega) (fun hc_15 => ?_) (fun hc_15 => ?_)
    · skip
      refine lv_aload_n hx hb d_D_read_34 rfl (lv_at hl 1 rfl) ?_
      refine lv_iload_n hx hb d_D_read_35 rfl (lv_at hl 0 rfl) ?_
      refine zjiQ (wr := [(qn, .inl (cE, 64, .inr (.inr (.inr (.inr fe)))))]) (va_runV (As := [.int (iI x_3)]) (rest := []) ⟨hx, hb, hml, hown, ht⟩ (a_D_ce l D _ qd qn ct 0 (-1) qt qb cB f L x_3 (by omega) (by omega)) (cwV 1 ht (zt_goodV zm_438 zm_439 zm_4 zm_67 zm_440) rfl rfl rfl (by decide +kernel) ⟨Nat.le_of_ble_eq_true rfl, Nat.le_of_ble_eq_true rfl⟩) (zpreV zBlind_t hK hP hD [0, 1, 2] [0] rfl (by decide) rfl (fun _ _ _ => trivial) (va_recv (q := ("ZipGuard$Directory", F_D, 5)) hK hP rfl (q0 := 0) (ci := 2) rfl)) rfl rfl hl.1 rfl (lv_room (Nat.le_of_ble_eq_true rfl)) d_D_read_36 ⟨Nat.le_of_ble_eq_true rfl, Nat.le_of_ble_eq_true rfl⟩) hK hP hD hS hA [0, 1, 2] [3] rfl rfl (by decide) (by decide) (fun r18 u9 H locs hp19 hP hD hK hS => ?_)
      obtain ⟨f_16, x_17⟩ := u9
      dsimp only at hp19 hP hD hK
      have hP : va_P D zcl (([(qn, .inl (cE, 64, .inr (.inr (.inr (.inr fe))))), (qd, .inr (2, [.ref qn, .int (iI ct), .int (iI 0), .int (iI f_16), .ref qt])), (qt, .inr (1, [.ref qb, .int (iI L)])), (qb, .inl (cB, 20000, .inl f))] : va_W) ++ zPl cN LL) H := hP
      have hD : va_D A (([(qn, .inl (cE, 64, .inr (.inr (.inr (.inr fe))))), (qd, .inr (2, [.ref qn, .int (iI ct), .int (iI 0), .int (iI f_16), .ref qt])), (qt, .inr (1, [.ref qb, .int (iI L)])), (qb, .inl (cB, 20000, .inl f))] : va_W) ++ zPl cN LL) := hD
      have hK : va_K D zcl [(cB, .byte), (cE, .object "ZipGuard$Entry"), (cN, .byte), (cB, .byte)] s := hK
      obtain ⟨he_20, hp19⟩ := hp19
      subst he_20
      have hP := hP.part (cx := [(qd, .inr (2, [.ref qn, .int (iI ct), .int (iI 0), .int (iI f_16), .ref qt])), (qt, .inr (1, [.ref qb, .int (iI L)])), (qb, .inl (cB, 20000, .inl f)), (qn, .inl (cE, 64, .inr (.inr (.inr (.inr fe)))))]) [1, 2, 3, 0] rfl
      have hD := hD.part (cx := [(qd, .inr (2, [.ref qn, .int (iI ct), .int (iI 0), .int (iI f_16), .ref qt])), (qt, .inr (1, [.ref qb, .int (iI L)])), (qb, .inl (cB, 20000, .inl f)), (qn, .inl (cE, 64, .inr (.inr (.inr (.inr fe)))))]) [1, 2, 3, 0] (by decide) rfl
      have hK := hK.sub (tys' := [(cB, .byte), (cE, .object "ZipGuard$Entry"), (cN, .byte)]) [0, 1, 2] rfl
      refine lv_istore_n (lv' := [(2, .int (iI x_17)), (1, .int (iI x_3)), (0, .ref qd)]) hx hb d_D_read_39 rfl hl (by decide) rfl (fun ls hl => ?_)
      exact jn_5 x_17 f_16 _ _ _ (by omega) (by omega) ⟨hp2.1, Or.inr ⟨by omega, hp19.1, fun h9 => by omega⟩⟩ hP hD hS (lv_sub hl [1, 2, 0] rfl)
    · skip
      refine lv_aload_n hx hb d_D_read_19 rfl (lv_at hl 1 rfl) ?_
      refine lv_iconst (v := iI (-1)) hx hb d_D_read_20 (by decide) ?_
      refine lv_aload_n hx hb d_D_read_21 rfl (lv_at hl 1 rfl) ?_
      refine va_get (ci := 2) (C := "ZipGuard$Directory") (T := F_D) (N := 5) hx hb ht zi_D hown hK hP 0 rfl rfl 4 (by decide) (ht _ zm_187) (fun _ h9 => h9) rfl d_D_read_22 ?_
      refine va_get (ci := 1) (C := "ZipGuard$Tape") (T := F_T) (N := 2) hx hb ht zi_T hown hK hP 1 rfl rfl 1 (by decide) (ht _ zm_99) (fun _ h9 => h9) rfl d_D_read_25 ?_
      refine zjiQ (wr := [(qt, .inr (1, [.ref qb, .int (iI L)])), (qb, .inl (cB, 20000, .inl f)), (qn, .inl (cE, 64, .inr (.inr (.inr (.inr fe)))))]) (va_runV (As := [.int (iI (-1)), .int (iI L)]) (rest := []) ⟨hx, hb, hml, hown, ht⟩ (a_D_fault l D _ qd qn ct 0 (-1) qt (-1) L ) (cwV 2 ht (zt_goodV zm_435 zm_436 zm_3 zm_67 zm_437) rfl rfl rfl (by decide +kernel) ⟨Nat.le_of_ble_eq_true rfl, Nat.le_of_ble_eq_true rfl⟩) (zpreV zBlind_t hK hP hD [0] [] rfl (by decide) rfl (fun _ _ _ => trivial) (va_recv (q := ("ZipGuard$Directory", F_D, 5)) hK hP rfl (q0 := 0) (ci := 2) rfl)) rfl rfl hl.1 rfl (lv_room (Nat.le_of_ble_eq_true rfl)) d_D_read_28 ⟨Nat.le_of_ble_eq_true rfl, Nat.le_of_ble_eq_true rfl⟩) hK hP hD hS hA [0] [1, 2, 3] rfl rfl (by decide) (by decide) (fun r21 u9 H locs hp22 hP hD hK hS => ?_)
      have hP : va_P D zcl (([(qt, .inr (1, [.ref qb, .int (iI L)])), (qb, .inl (cB, 20000, .inl f)), (qn, .inl (cE, 64, .inr (.inr (.inr (.inr fe))))), (qd, .inr (2, [.ref qn, .int (iI ct), .int (iI 0), .int (iI L), .ref qt]))] : va_W) ++ zPl cN LL) H := hP
      have hD : va_D A (([(qt, .inr (1, [.ref qb, .int (iI L)])), (qb, .inl (cB, 20000, .inl f)), (qn, .inl (cE, 64, .inr (.inr (.inr (.inr fe))))), (qd, .inr (2, [.ref qn, .int (iI ct), .int (iI 0), .int (iI L), .ref qt]))] : va_W) ++ zPl cN LL) := hD
      have hK : va_K D zcl [(cB, .byte), (cE, .object "ZipGuard$Entry"), (cN, .byte)] s := hK
      obtain ⟨he_23, hp22⟩ := hp22
      subst he_23
      have hP := hP.part (cx := [(qd, .inr (2, [.ref qn, .int (iI ct), .int (iI 0), .int (iI L), .ref qt])), (qt, .inr (1, [.ref qb, .int (iI L)])), (qb, .inl (cB, 20000, .inl f)), (qn, .inl (cE, 64, .inr (.inr (.inr (.inr fe)))))]) [3, 0, 1, 2] rfl
      have hD := hD.part (cx := [(qd, .inr (2, [.ref qn, .int (iI ct), .int (iI 0), .int (iI L), .ref qt])), (qt, .inr (1, [.ref qb, .int (iI L)])), (qb, .inl (cB, 20000, .inl f)), (qn, .inl (cE, 64, .inr (.inr (.inr (.inr fe)))))]) [3, 0, 1, 2] (by decide) rfl
      have hK := hK.sub (tys' := [(cB, .byte), (cE, .object "ZipGuard$Entry"), (cN, .byte)]) [0, 1, 2] rfl
      refine lv_goto (tgt := 39) hx hb d_D_read_31 (by decide) ?_
      refine lv_istore_n (lv' := [(2, .int (iI (-1))), (1, .int (iI x_3)), (0, .ref qd)]) hx hb d_D_read_39 rfl hl (by decide) rfl (fun ls hl => ?_)
      exact jn_5 (-1) L _ _ _ (by omega) (by omega) ⟨hp2.1, Or.inl ⟨by omega, rfl, rfl⟩⟩ hP hD hS (lv_sub hl [1, 2, 0] rfl))
